/-! the reference: brief -/
def apI (hf : Nat → Nat) (d : Nat) : Nat → Bool
  | 0 => true
  | e + 1 => apI hf d e && decide (¬ hf e = hf d)
def apB (hf : Nat → Nat) : Nat → Bool
  | 0 => true
  | d + 1 => apB hf d && apI hf d d
theorem apI_congr {f g : Nat → Nat} {d : Nat} (h : ∀ i, i ≤ d → f i = g i) : ∀ e, e ≤ d → apI f d e = apI g d e
  | 0, _ => rfl
  | e + 1, he => by rw [apI, apI, apI_congr h e (by omega), h e (by omega), h d (Nat.le_refl _)]
theorem apB_congr {f g : Nat → Nat} : ∀ n, (∀ i, i < n → f i = g i) → apB f n = apB g n
  | 0, _ => rfl
  | n + 1, h => by rw [apB, apB, apB_congr n (fun i hi => h i (by omega)), apI_congr (fun i hi => h i (by omega)) n (Nat.le_refl _)]
/-- where a deed's words stand on the sheet of this code -/
def hfc (near : Nat → Nat) (m x d : Nat) : Nat := msk (fun k => (near d).testBit (dg m x k)) m
theorem msk_ne {f g : Nat → Bool} {n : Nat} : ¬ msk f n = msk g n ↔ ∃ k, k < n ∧ ¬ f k = g k := by
  constructor
  · intro h
    refine Classical.byContradiction (fun z => h (msk_congr (fun k hk => Classical.byContradiction (fun z2 => z ⟨k, hk, z2⟩))))
  · rintro ⟨k, hk, h⟩ e
    apply h
    have := congrArg (fun m => m.testBit k) e
    simpa [msk_tb, hk] using this
theorem tol_lt {near : Nat → Nat} {m x : Nat} : tol (prT near) m x < 1024 := by
  unfold tol
  have : ∀ n, orD (fun k => prT near (dg m x k)) n < 1024 := by
    intro n
    induction n with
    | zero => exact (by decide : (0 : Nat) < 1024)
    | succ n ih => exact Nat.or_lt_two_pow (n := 10) ih (prT_lt _ _)
  exact this m
theorem all10 {x : Nat} (h : x < 1024) : x = 1023 ↔ (x.testBit 0 = true ∧ x.testBit 1 = true ∧ x.testBit 2 = true ∧ x.testBit 3 = true ∧ x.testBit 4 = true ∧ x.testBit 5 = true ∧ x.testBit 6 = true ∧ x.testBit 7 = true ∧ x.testBit 8 = true ∧ x.testBit 9 = true) := co_dec (N := 1024) (P := fun x => x = 1023 ↔ (x.testBit 0 = true ∧ x.testBit 1 = true ∧ x.testBit 2 = true ∧ x.testBit 3 = true ∧ x.testBit 4 = true ∧ x.testBit 5 = true ∧ x.testBit 6 = true ∧ x.testBit 7 = true ∧ x.testBit 8 = true ∧ x.testBit 9 = true)) (by decide +kernel) h
theorem tol_p {near : Nat → Nat} {m x p a b : Nat} (hp : p < 10) (ha : [0, 0, 0, 0, 1, 1, 1, 2, 2, 3].getD p 0 = a) (hb : [1, 2, 3, 4, 2, 3, 4, 3, 4, 4].getD p 0 = b) : (tol (prT near) m x).testBit p = true ↔ ¬ hfc near m x a = hfc near m x b := by
  unfold tol hfc
  rw [orD_tb, msk_ne]
  constructor
  · rintro ⟨k, hk, h⟩
    refine ⟨k, hk, ?_⟩
    unfold prT at h
    rw [msk_tb, ha, hb, Nat.testBit_xor] at h
    simp only [hp, decide_true, Bool.true_and] at h
    intro z
    rw [z] at h
    simp at h
  · rintro ⟨k, hk, h⟩
    refine ⟨k, hk, ?_⟩
    unfold prT
    rw [msk_tb, ha, hb, Nat.testBit_xor]
    simp only [hp, decide_true, Bool.true_and]
    cases h1 : (near a).testBit (dg m x k) <;> cases h2 : (near b).testBit (dg m x k)
    · exact absurd (h1.trans h2.symm) h
    · rfl
    · rfl
    · exact absurd (h1.trans h2.symm) h
theorem ap_tol {near : Nat → Nat} {m x : Nat} : apB (hfc near m x) 5 = true ↔ tol (prT near) m x = 1023 := by
  rw [all10 tol_lt]
  rw [tol_p (p := 0) (a := 0) (b := 1) (by decide) rfl rfl]
  rw [tol_p (p := 1) (a := 0) (b := 2) (by decide) rfl rfl]
  rw [tol_p (p := 2) (a := 0) (b := 3) (by decide) rfl rfl]
  rw [tol_p (p := 3) (a := 0) (b := 4) (by decide) rfl rfl]
  rw [tol_p (p := 4) (a := 1) (b := 2) (by decide) rfl rfl]
  rw [tol_p (p := 5) (a := 1) (b := 3) (by decide) rfl rfl]
  rw [tol_p (p := 6) (a := 1) (b := 4) (by decide) rfl rfl]
  rw [tol_p (p := 7) (a := 2) (b := 3) (by decide) rfl rfl]
  rw [tol_p (p := 8) (a := 2) (b := 4) (by decide) rfl rfl]
  rw [tol_p (p := 9) (a := 3) (b := 4) (by decide) rfl rfl]
  simp only [apB, apI, Bool.true_and, Bool.and_eq_true, decide_eq_true_eq]
  constructor
  · intro h
    simp_all
  · intro h
    simp_all
theorem dg_shr {m x k : Nat} : x / 2 ^ (3 * (m - 1 - k)) &&& 7 = dg m x k := by
  unfold dg
  rw [Nat.pow_mul]
  exact Nat.and_two_pow_sub_one_eq_mod _ 3
set_option maxRecDepth 20000 in
theorem c_isApart {σ : aH} {pn lm wd ch ct ac br hm : Nat} {x2 x3 x4 sd kc kl ka kg kd : Int32} {ha : Int64} (e25 : σ[25]? = some (mob pn x2 x3 x4 lm wd ch ct ac br hm sd kc kl ka kg kd ha)) {nr ws he : List Nat} {many : Nat} (e29 : σ[29]? = some (aA nr)) (lnr : nr.length = 5) (e32 : σ[32]? = some (aA ws)) (lws : ws.length = 4) (e33 : σ[33]? = some (aA he)) (lhe : he.length = 5) (hm : many ≤ 4) (hw : ∀ k, k < many → ws.getD k 0 < 8) (hb : ∀ d, d < 5 → nr.getD d 0 < 256) : MX12_isApart 3 0 0 [.ref 25, .int (nI many)] σ (fun v σ' => v = some (.int (nI (apB (fun d => msk (altA 0 (nr.getD d 0) 0 (shW ws)) many) 5).toNat)) ∧ ∃ he', he'.length = 5 ∧ σ' = σ.set 33 (aA he')) := by
  refine sX12_isApart (Nat.le_of_ble_eq_true rfl) ?_
  have hfl : ∀ d, (fun d => msk (altA 0 (nr.getD d 0) 0 (shW ws)) many) d < 1024 := fun d => Nat.lt_of_lt_of_le (msk_lt _ _) (show 2 ^ many ≤ 2 ^ 10 from Nat.pow_le_pow_right (by omega) (by omega))
  have outer : ∀ n d he' o4, d + n = 5 → he'.length = 5 → (∀ i, i < d → he'.getD i 0 = (fun d => msk (altA 0 (nr.getD d 0) 0 (shW ws)) many) i) → GX12_isApart 3 0 0 (fun v σ' => v = some (.int (nI (apB (fun d => msk (altA 0 (nr.getD d 0) 0 (shW ws)) many) 5).toNat)) ∧ ∃ he', he'.length = 5 ∧ σ' = σ.set 33 (aA he')) 0 0 4 [some (.ref 25), some (.int (nI many)), some (.int (nI (apB (fun d => msk (altA 0 (nr.getD d 0) 0 (shW ws)) many) d).toNat)), some (.int (nI d)), o4] [] (σ.set 33 (aA he')) := by
    intro n
    induction n with
    | zero =>
      intro d he' o4 hd hl hh
      obtain rfl : d = 5 := by omega
      refine g_iload eX12_isApart_4 rfl ?_
      refine g_push eX12_isApart_5 ?_
      refine g_icmp_geN eX12_isApart_6 (by omega) (by omega) (fun c6 => ?_) (fun c6 => by exfalso; omega)
      refine g_iload eX12_isApart_74 rfl ?_
      exact g_ret (eX12_isApart_75 _ (by cases apB (fun d => msk (altA 0 (nr.getD d 0) 0 (shW ws)) many) 5 <;> first | exact Or.inl rfl | exact Or.inr rfl)) (Nat.le_refl _) (Nat.le_refl _) ⟨rfl, he', hl, rfl⟩
    | succ n ih =>
      intro d he' o4 hd hl hh
      have inner : ∀ n2 e he', e + n2 = d → he'.length = 5 → (∀ i, i ≤ d → he'.getD i 0 = (fun d => msk (altA 0 (nr.getD d 0) 0 (shW ws)) many) i) → GX12_isApart 3 0 0 (fun v σ' => v = some (.int (nI (apB (fun d => msk (altA 0 (nr.getD d 0) 0 (shW ws)) many) 5).toNat)) ∧ ∃ he', he'.length = 5 ∧ σ' = σ.set 33 (aA he')) 0 0 30 [some (.ref 25), some (.int (nI many)), some (.int (nI (apB (fun d => msk (altA 0 (nr.getD d 0) 0 (shW ws)) many) d && apI (fun d => msk (altA 0 (nr.getD d 0) 0 (shW ws)) many) d e).toNat)), some (.int (nI d)), some (.int (nI e))] [] (σ.set 33 (aA he')) := by
        intro n2
        induction n2 with
        | zero =>
          intro e he' he2 hl hh
          obtain rfl : e = d := by omega
          refine g_iload eX12_isApart_30 rfl ?_
          refine g_iload eX12_isApart_32 rfl ?_
          refine g_icmp_geN eX12_isApart_33 (by omega) (by omega) (fun c33 => ?_) (fun c33 => by exfalso; omega)
          refine g_iincN eX12_isApart_68 rfl rfl ?_
          refine g_goto eX12_isApart_71 ?_
          exact ih (e + 1) he' _ (by omega) hl (fun i hi => hh i (by omega))
        | succ n2 ih2 =>
          intro e he' he2 hl hh
          have h1 := hfl e
          have h2 := hfl d
          have hst : (apB (fun d => msk (altA 0 (nr.getD d 0) 0 (shW ws)) many) d && apI (fun d => msk (altA 0 (nr.getD d 0) 0 (shW ws)) many) d (e + 1)) = ((apB (fun d => msk (altA 0 (nr.getD d 0) 0 (shW ws)) many) d && apI (fun d => msk (altA 0 (nr.getD d 0) 0 (shW ws)) many) d e) && decide (¬ (fun d => msk (altA 0 (nr.getD d 0) 0 (shW ws)) many) e = (fun d => msk (altA 0 (nr.getD d 0) 0 (shW ws)) many) d)) := by
            rw [apI, Bool.and_assoc]
          refine g_iload eX12_isApart_30 rfl ?_
          refine g_iload eX12_isApart_32 rfl ?_
          refine g_icmp_geN eX12_isApart_33 (by omega) (by omega) (fun c33 => by exfalso; omega) (fun c33 => ?_)
          refine g_iload eX12_isApart_36 rfl ?_
          refine g_if_eqN eX12_isApart_37 (bt_lt _) (fun c37 => ?_) (fun c37 => ?_)
          · refine g_push eX12_isApart_60 ?_
            refine g_istore eX12_isApart_61 rfl ?_
            refine g_iincN eX12_isApart_62 rfl rfl ?_
            refine g_goto eX12_isApart_65 ?_
            have := ih2 (e + 1) he' (by omega) hl hh
            rw [hst] at this
            first
              | (rw [b_0 c37] at this; exact this)
              | (rw [b_n0 c37, decide_eq_false (show ¬ ¬ _ from fun z => z c53)] at this; exact this)
              | (rw [b_n0 c37, decide_eq_true c53] at this; exact this)
          · refine g_aload eX12_isApart_40 rfl ?_
            refine g_get eX12_isApart_41 fX12_31_X12 (at_ne (by decide) e25) (by rfl) ?_
            refine g_iload eX12_isApart_44 rfl ?_
            refine g_ialdN eX12_isApart_46 (at_eq e33) (by omega) (by omega) ?_
            rw [hh e (by omega)]
            refine g_aload eX12_isApart_47 rfl ?_
            refine g_get eX12_isApart_48 fX12_31_X12 (at_ne (by decide) e25) (by rfl) ?_
            refine g_iload eX12_isApart_51 rfl ?_
            refine g_ialdN eX12_isApart_52 (at_eq e33) (by omega) (by omega) ?_
            rw [hh d (Nat.le_refl _)]
            refine g_icmp_eqN eX12_isApart_53 (Nat.lt_trans h1 (by decide)) (Nat.lt_trans h2 (by decide)) (fun c53 => ?_) (fun c53 => ?_)
            · refine g_push eX12_isApart_60 ?_
              refine g_istore eX12_isApart_61 rfl ?_
              refine g_iincN eX12_isApart_62 rfl rfl ?_
              refine g_goto eX12_isApart_65 ?_
              have := ih2 (e + 1) he' (by omega) hl hh
              rw [hst] at this
              first
                | (rw [b_0 c37] at this; exact this)
                | (rw [b_n0 c37, decide_eq_false (show ¬ ¬ _ from fun z => z c53)] at this; exact this)
                | (rw [b_n0 c37, decide_eq_true c53] at this; exact this)
            · refine g_push eX12_isApart_56 ?_
              refine g_goto eX12_isApart_57 ?_
              refine g_istore eX12_isApart_61 rfl ?_
              refine g_iincN eX12_isApart_62 rfl rfl ?_
              refine g_goto eX12_isApart_65 ?_
              have := ih2 (e + 1) he' (by omega) hl hh
              rw [hst] at this
              first
                | (rw [b_0 c37] at this; exact this)
                | (rw [b_n0 c37, decide_eq_false (show ¬ ¬ _ from fun z => z c53)] at this; exact this)
                | (rw [b_n0 c37, decide_eq_true c53] at this; exact this)
      refine g_iload eX12_isApart_4 rfl ?_
      refine g_push eX12_isApart_5 ?_
      refine g_icmp_geN eX12_isApart_6 (by omega) (by omega) (fun c6 => by exfalso; omega) (fun c6 => ?_)
      refine g_aload eX12_isApart_9 rfl ?_
      refine g_get eX12_isApart_10 fX12_31_X12 (at_ne (by decide) e25) (by rfl) ?_
      refine g_iload eX12_isApart_13 rfl ?_
      refine g_aload eX12_isApart_14 rfl ?_
      refine g_push eX12_isApart_15 ?_
      refine g_iload eX12_isApart_16 rfl ?_
      refine g_push eX12_isApart_17 ?_
      refine g_aload eX12_isApart_18 rfl ?_
      refine g_get eX12_isApart_19 fX12_28_X12 (at_ne (by decide) e25) (by rfl) ?_
      refine g_iload eX12_isApart_22 rfl ?_
      refine g_callVp (r := (RX12, TX12, 32)) eX12_isApart_23 kX12_129 (at_ne (by decide) e25) (by rfl) (c_altersOn (kind := 0) (d := d) (hides := 0) (many := many) (at_ne (by decide) e25) (at_ne (by decide) e29) lnr (at_ne (by decide) e32) (by omega) (by decide) (by omega) (hb d (by omega)) (by decide) (by omega) hw) (by rfl) (by rfl) (by exact Nat.le_of_ble_eq_true rfl) (by exact Nat.le_of_ble_eq_true rfl) (by exact Nat.le_of_ble_eq_true rfl) (Nat.le_refl _) (Nat.le_refl _) ?_
      refine g_iastN eX12_isApart_26 (at_eq e33) (by omega) (by omega) ?_
      rw [List.set_set]
      refine g_push eX12_isApart_27 ?_
      refine g_istore eX12_isApart_28 rfl ?_
      have := inner d 0 (he'.set d ((fun d => msk (altA 0 (nr.getD d 0) 0 (shW ws)) many) d)) (by omega) (by rw [List.length_set]; exact hl) (fun i hi => by
        rw [getD_set]
        by_cases hid : d = i
        · rw [if_pos ⟨hid, by omega⟩, hid]
        · rw [if_neg (fun z => hid z.1)]
          exact hh i (by omega))
      rw [show (apB (fun d => msk (altA 0 (nr.getD d 0) 0 (shW ws)) many) d && apI (fun d => msk (altA 0 (nr.getD d 0) 0 (shW ws)) many) d 0) = apB (fun d => msk (altA 0 (nr.getD d 0) 0 (shW ws)) many) d from Bool.and_true _] at this
      exact this
  have hs0 : σ.set 33 (aA he) = σ := set_same e33
  refine g_push eX12_isApart_0 ?_
  refine g_istore eX12_isApart_1 rfl ?_
  refine g_push eX12_isApart_2 ?_
  refine g_istore eX12_isApart_3 rfl ?_
  have := outer 5 0 he none rfl lhe (fun i hi => absurd hi (Nat.not_lt_zero i))
  rw [hs0] at this
  exact this
theorem brA_some {near : Nat → Nat} {w l c : Nat} (h : brf near = some (l, c)) : brA near w = if w = 0 then nI l else if w - 10 < l then nI (dg l c (w - 10)) else -1 := by
  unfold brA
  rw [h]
  show (if w = 0 then nI l else if w - 10 < l then nI (c / 2 ^ (3 * (l - 1 - (w - 10))) &&& 7) else -1) = _
  rw [dg_shr]
theorem brA_none {near : Nat → Nat} {w : Nat} (h : brf near = none) : brA near w = -1 := by
  unfold brA
  rw [h]
/-- this sheet, or an earlier one, is the answer, or none is -/
def brT (near : Nat → Nat) (l x : Nat) : Prop := ∀ l2 c, brf near = some (l2, c) → l < l2 ∨ (l = l2 ∧ x ≤ c)
theorem br_hit {near : Nat → Nat} {l x : Nat} (h1 : 1 ≤ l) (h5 : l < 5) (hx : x < 8 ^ l) (ht : brT near l x) (ha : tol (prT near) l x = 1023) : brf near = some (l, x) := by
  obtain ⟨a, b⟩ := brf_bru (pt := prT near) 4 1 rfl (Nat.le_refl _) (fun l' z1 z2 => by omega)
  cases e : brf near with
  | none => exact absurd ha (a e l h1 h5 x hx)
  | some q =>
    obtain ⟨q1, q2, q3, q4, q5, q6⟩ := b q e
    rcases ht q.1 q.2 e with h | ⟨h, h2⟩
    · exact absurd ha (q6 l h1 h x hx)
    · subst h
      have : ¬ x < q.2 := fun z => q5 x z ha
      rw [show x = q.2 by omega]
theorem br_miss {near : Nat → Nat} {l x : Nat} (h5 : l < 5) (ht : brT near l x) (ha : ¬ tol (prT near) l x = 1023) : brT near l (x + 1) := by
  obtain ⟨a, b⟩ := brf_bru (pt := prT near) 4 1 rfl (Nat.le_refl _) (fun l' z1 z2 => by omega)
  intro l2 c e
  obtain ⟨q1, q2, q3, q4, q5, q6⟩ := b (l2, c) e
  rcases ht l2 c e with h | ⟨h, h2⟩
  · exact Or.inl h
  · subst h
    refine Or.inr ⟨rfl, ?_⟩
    by_cases e2 : x = c
    · subst e2
      exact absurd q4 ha
    · omega
theorem br_next {near : Nat → Nat} {l : Nat} (ht : brT near l (8 ^ l)) : brT near (l + 1) 0 := by
  obtain ⟨a, b⟩ := brf_bru (pt := prT near) 4 1 rfl (Nat.le_refl _) (fun l' z1 z2 => by omega)
  intro l2 c e
  obtain ⟨q1, q2, q3, q4, q5, q6⟩ := b (l2, c) e
  simp only at q3
  rcases ht l2 c e with h | ⟨h, h2⟩
  · by_cases e2 : l + 1 = l2
    · exact Or.inr ⟨e2, Nat.zero_le _⟩
    · exact Or.inl (by omega)
  · subst h
    omega
theorem br_end {near : Nat → Nat} (ht : brT near 5 0) : brf near = none := by
  obtain ⟨a, b⟩ := brf_bru (pt := prT near) 4 1 rfl (Nat.le_refl _) (fun l' z1 z2 => by omega)
  cases e : brf near with
  | none => rfl
  | some q =>
    obtain ⟨q1, q2, q3, q4, q5, q6⟩ := b q e
    rcases ht q.1 q.2 e with h | ⟨h, h2⟩ <;> omega
theorem p8_le {l : Nat} (h : l ≤ 4) : 8 ^ l ≤ 4096 := Nat.pow_le_pow_right (n := 8) (by decide) h
set_option maxRecDepth 20000 in
theorem c_briefOf {σ : aH} {pn lm wd ch ct ac br hm : Nat} {x2 x3 x4 sd kc kl ka kg kd : Int32} {ha : Int64} (e25 : σ[25]? = some (mob pn x2 x3 x4 lm wd ch ct ac br hm sd kc kl ka kg kd ha)) {near : Nat → Nat} {nr ro0 he0 : List Nat} {w : Nat} (e29 : σ[29]? = some (aA nr)) (lnr : nr.length = 5) (e32 : σ[32]? = some (aA ro0)) (lro : ro0.length = 4) (e33 : σ[33]? = some (aA he0)) (lhe : he0.length = 5) (hnr : ∀ d, d < 5 → nr.getD d 0 = near d) (hb : ∀ d, near d < 256) (hw : w = 0 ∨ (10 ≤ w ∧ w < 14)) : MX12_briefOf 4 0 0 [.ref 25, .int (nI w)] σ (fun v σ' => v = some (.int (brA near w)) ∧ EqO [32, 33] σ σ' ∧ ∃ ro' he', ro'.length = 4 ∧ he'.length = 5 ∧ σ'[32]? = some (aA ro') ∧ σ'[33]? = some (aA he')) := by
  refine sX12_briefOf (Nat.le_of_ble_eq_true rfl) ?_
  have hbn : ∀ d, d < 5 → nr.getD d 0 < 256 := fun d hd => by rw [hnr d hd]; exact hb d
  have outer : ∀ n l τ ro he o4 o5, l + n = 5 → 1 ≤ l → EqO [32, 33] σ τ → τ[32]? = some (aA ro) → τ[33]? = some (aA he) → ro.length = 4 → he.length = 5 → brT near l 0 → GX12_briefOf 4 0 0 (fun v σ' => v = some (.int (brA near w)) ∧ EqO [32, 33] σ σ' ∧ ∃ ro' he', ro'.length = 4 ∧ he'.length = 5 ∧ σ'[32]? = some (aA ro') ∧ σ'[33]? = some (aA he')) 0 0 4 [some (.ref 25), some (.int (nI w)), some (.int (nI (8 ^ (l - 1)))), some (.int (nI l)), o4, o5] [] τ := by
    intro n
    induction n with
    | zero =>
      intro l τ ro he o4 o5 hl h1 hE q32 q33 lro lhe ht
      obtain rfl : l = 5 := by omega
      refine g_iload eX12_briefOf_4 rfl ?_
      refine g_push eX12_briefOf_5 ?_
      refine g_icmp_geN eX12_briefOf_6 (by omega) (by omega) (fun c6 => ?_) (fun c6 => by exfalso; omega)
      refine g_push (v := -1) eX12_briefOf_109 ?_
      exact g_ret (eX12_briefOf_110 _) (Nat.le_refl _) (Nat.le_refl _) ⟨by rw [brA_none (br_end ht)], hE, ro, he, lro, lhe, q32, q33⟩
    | succ n ih =>
      intro l τ ro he o4 o5 hl h1 hE q32 q33 lro lhe ht
      have hp4 := p8_le (l := l) (by omega)
      have hpl : 8 ^ (l - 1) * 8 = 8 ^ l := by rw [← Nat.pow_succ]; congr 1; omega
      have codes : ∀ n2 x τ ro he o5, x + n2 = 8 ^ l → EqO [32, 33] σ τ → τ[32]? = some (aA ro) → τ[33]? = some (aA he) → ro.length = 4 → he.length = 5 → brT near l x → GX12_briefOf 4 0 0 (fun v σ' => v = some (.int (brA near w)) ∧ EqO [32, 33] σ σ' ∧ ∃ ro' he', ro'.length = 4 ∧ he'.length = 5 ∧ σ'[32]? = some (aA ro') ∧ σ'[33]? = some (aA he')) 0 0 17 [some (.ref 25), some (.int (nI w)), some (.int (nI (8 ^ l))), some (.int (nI l)), some (.int (nI x)), o5] [] τ := by
        intro n2
        induction n2 with
        | zero =>
          intro x τ ro he o5 hx hE q32 q33 lro lhe ht
          obtain rfl : x = 8 ^ l := by omega
          refine g_iload eX12_briefOf_17 rfl ?_
          refine g_iload eX12_briefOf_19 rfl ?_
          refine g_icmp_geN eX12_briefOf_20 (by omega) (by omega) (fun c20 => ?_) (fun c20 => by exfalso; omega)
          refine g_iincN eX12_briefOf_103 rfl rfl ?_
          refine g_goto eX12_briefOf_106 ?_
          exact ih (l + 1) τ ro he _ _ (by omega) (by omega) hE q32 q33 lro lhe (br_next ht)
        | succ n2 ih2 =>
          intro x τ ro he o5 hx hE q32 q33 lro lhe ht
          have row : ∀ n3 k τ ro, k + n3 = l → EqO [32, 33] σ τ → τ[32]? = some (aA ro) → τ[33]? = some (aA he) → ro.length = 4 → (∀ i, i < k → ro.getD i 0 = dg l x i) → GX12_briefOf 4 0 0 (fun v σ' => v = some (.int (brA near w)) ∧ EqO [32, 33] σ σ' ∧ ∃ ro' he', ro'.length = 4 ∧ he'.length = 5 ∧ σ'[32]? = some (aA ro') ∧ σ'[33]? = some (aA he')) 0 0 26 [some (.ref 25), some (.int (nI w)), some (.int (nI (8 ^ l))), some (.int (nI l)), some (.int (nI x)), some (.int (nI k))] [] τ := by
            intro n3
            induction n3 with
            | zero =>
              intro k τ ro hk hE q32 q33 lro hr
              obtain rfl : k = l := by omega
              have q25 := hE.at (by decide) e25
              have q29 := hE.at (by decide) e29
              have hap : apB (fun d => msk (altA 0 (nr.getD d 0) 0 (shW ro)) k) 5 = apB (hfc near k x) 5 := apB_congr 5 (fun d hd => msk_congr (fun i hi => by
                show (!(0 : Nat).testBit (ro.getD i 0) && (nr.getD d 0).testBit (ro.getD i 0)) = (near d).testBit (dg k x i)
                rw [Nat.zero_testBit, hnr d hd, hr i hi]
                rfl))
              refine g_iload eX12_briefOf_26 rfl ?_
              refine g_iload eX12_briefOf_28 rfl ?_
              refine g_icmp_geN eX12_briefOf_29 (by omega) (by omega) (fun c29 => ?_) (fun c29 => by exfalso; omega)
              refine g_aload eX12_briefOf_59 rfl ?_
              refine g_iload eX12_briefOf_60 rfl ?_
              refine g_callV0 (r := (RX12, TX12, 32)) eX12_briefOf_61 kX12_156 q25 (by rfl) (c_isApart (many := k) q25 q29 lnr q32 lro q33 lhe (by omega) (fun i hi => by rw [hr i hi]; exact dg_lt _ _ _) hbn) (by rfl) (by rfl) (by exact Nat.le_of_ble_eq_true rfl) (by exact Nat.le_of_ble_eq_true rfl) (by exact Nat.le_of_ble_eq_true rfl) (Nat.le_refl _) (Nat.le_refl _) (fun v61 σ61 hp61 hn61 => ?_)
              obtain ⟨rfl, he2, lhe2, rfl⟩ := hp61
              rw [hap]
              refine g_if_eqN eX12_briefOf_64 (bt_lt _) (fun c64 => ?_) (fun c64 => ?_)
              · refine g_iincN eX12_briefOf_97 rfl rfl ?_
                refine g_goto eX12_briefOf_100 ?_
                exact ih2 (x + 1) _ ro he2 _ (by omega) (hE.st (by decide)) (at_ne (by decide) q32) (at_eq q33) lro lhe2 (br_miss (by omega) ht (fun z => by have := ap_tol.mpr z; rw [b_0 c64] at this; cases this))
              · have hit := br_hit h1 (by omega) (by omega) ht (ap_tol.mp (b_n0 c64))
                refine g_iload eX12_briefOf_67 rfl ?_
                refine g_if_neN eX12_briefOf_68 (by omega) (fun c68 => ?_) (fun c68 => ?_)
                · refine g_iload eX12_briefOf_75 rfl ?_
                  refine g_push eX12_briefOf_76 ?_
                  refine g_isubN eX12_briefOf_78 (by omega) ?_
                  refine g_iload eX12_briefOf_79 rfl ?_
                  refine g_icmp_geN eX12_briefOf_80 (by omega) (by omega) (fun c80 => ?_) (fun c80 => ?_)
                  · refine g_push (v := -1) eX12_briefOf_95 ?_
                    exact g_ret (eX12_briefOf_96 _) (Nat.le_refl _) (Nat.le_refl _) (by
                      refine ⟨?_, hE.st (by decide), ro, he2, lro, lhe2, at_ne (by decide) q32, at_eq q33⟩
                      rw [brA_some hit]
                      first
                        | (rw [if_pos c68])
                        | (rw [if_neg c68, if_pos (show w - 10 < k by omega), hr _ (by omega)])
                        | (rw [if_neg c68, if_neg (show ¬ w - 10 < k by omega)]))
                  · refine g_aload eX12_briefOf_83 rfl ?_
                    refine g_get eX12_briefOf_84 fX12_28_X12 (at_ne (by decide) q25) (by rfl) ?_
                    refine g_iload eX12_briefOf_87 rfl ?_
                    refine g_push eX12_briefOf_88 ?_
                    refine g_isubN eX12_briefOf_90 (by omega) ?_
                    refine g_ialdN eX12_briefOf_91 (at_ne (by decide) q32) (by omega) (by omega) ?_
                    refine g_goto eX12_briefOf_92 ?_
                    exact g_ret (eX12_briefOf_96 _) (Nat.le_refl _) (Nat.le_refl _) (by
                      refine ⟨?_, hE.st (by decide), ro, he2, lro, lhe2, at_ne (by decide) q32, at_eq q33⟩
                      rw [brA_some hit]
                      first
                        | (rw [if_pos c68])
                        | (rw [if_neg c68, if_pos (show w - 10 < k by omega), hr _ (by omega)])
                        | (rw [if_neg c68, if_neg (show ¬ w - 10 < k by omega)]))
                · refine g_iload eX12_briefOf_71 rfl ?_
                  refine g_goto eX12_briefOf_72 ?_
                  exact g_ret (eX12_briefOf_96 _) (Nat.le_refl _) (Nat.le_refl _) (by
                    refine ⟨?_, hE.st (by decide), ro, he2, lro, lhe2, at_ne (by decide) q32, at_eq q33⟩
                    rw [brA_some hit]
                    first
                      | (rw [if_pos c68])
                      | (rw [if_neg c68, if_pos (show w - 10 < k by omega), hr _ (by omega)])
                      | (rw [if_neg c68, if_neg (show ¬ w - 10 < k by omega)]))
            | succ n3 ih3 =>
              intro k τ ro hk hE q32 q33 lro hr
              have q25 := hE.at (by decide) e25
              refine g_iload eX12_briefOf_26 rfl ?_
              refine g_iload eX12_briefOf_28 rfl ?_
              refine g_icmp_geN eX12_briefOf_29 (by omega) (by omega) (fun c29 => by exfalso; omega) (fun c29 => ?_)
              refine g_aload eX12_briefOf_32 rfl ?_
              refine g_get eX12_briefOf_33 fX12_28_X12 q25 (by rfl) ?_
              refine g_iload eX12_briefOf_36 rfl ?_
              refine g_iload eX12_briefOf_38 rfl ?_
              refine g_push eX12_briefOf_40 ?_
              refine g_iload eX12_briefOf_41 rfl ?_
              refine g_push eX12_briefOf_42 ?_
              refine g_isubN eX12_briefOf_43 (by omega) ?_
              refine g_iload eX12_briefOf_44 rfl ?_
              refine g_isubN eX12_briefOf_46 (by omega) ?_
              refine g_imulN eX12_briefOf_47 ?_
              refine g_ishrN eX12_briefOf_48 (by omega) (by omega) ?_
              refine g_push eX12_briefOf_49 ?_
              refine g_iandN eX12_briefOf_51 ?_
              rw [dg_shr]
              refine g_iastN eX12_briefOf_52 q32 (by omega) (by omega) ?_
              refine g_iincN eX12_briefOf_53 rfl rfl ?_
              refine g_goto eX12_briefOf_56 ?_
              refine ih3 (k + 1) _ _ (by omega) (hE.st (by decide)) (at_eq q32) (at_ne (by decide) q33) (by rw [List.length_set]; exact lro) (fun i hi => ?_)
              rw [getD_set]
              by_cases hki : k = i
              · rw [if_pos ⟨hki, by omega⟩, hki]
              · rw [if_neg (fun z => hki z.1)]
                exact hr i (by omega)
          refine g_iload eX12_briefOf_17 rfl ?_
          refine g_iload eX12_briefOf_19 rfl ?_
          refine g_icmp_geN eX12_briefOf_20 (by omega) (by omega) (fun c20 => by exfalso; omega) (fun c20 => ?_)
          refine g_push eX12_briefOf_23 ?_
          refine g_istore eX12_briefOf_24 rfl ?_
          exact row l 0 τ ro (by omega) hE q32 q33 lro (fun i hi => absurd hi (Nat.not_lt_zero i))
      refine g_iload eX12_briefOf_4 rfl ?_
      refine g_push eX12_briefOf_5 ?_
      refine g_icmp_geN eX12_briefOf_6 (by omega) (by omega) (fun c6 => by exfalso; omega) (fun c6 => ?_)
      refine g_iload eX12_briefOf_9 rfl ?_
      refine g_push eX12_briefOf_10 ?_
      refine g_imulN eX12_briefOf_12 ?_
      rw [hpl]
      refine g_istore eX12_briefOf_13 rfl ?_
      refine g_push eX12_briefOf_14 ?_
      refine g_istore eX12_briefOf_15 rfl ?_
      exact codes (8 ^ l) 0 τ ro he _ (by omega) hE q32 q33 lro lhe ht
  refine g_push eX12_briefOf_0 ?_
  refine g_istore eX12_briefOf_1 rfl ?_
  refine g_push eX12_briefOf_2 ?_
  refine g_istore eX12_briefOf_3 rfl ?_
  exact outer 4 1 σ ro0 he0 _ _ rfl (Nat.le_refl _) EqO.rf e32 e33 lro lhe (fun l2 c e => by
    obtain ⟨q1, q2, q3, q4, q5, q6⟩ := (brf_bru (pt := prT near) 4 1 rfl (Nat.le_refl _) (fun l' z1 z2 => by omega)).2 (l2, c) e
    by_cases e2 : 1 = l2
    · exact Or.inr ⟨e2, Nat.zero_le _⟩
    · exact Or.inl (by simp only at q1; omega))
set_option maxRecDepth 20000 in
theorem m_brief {σ : aH} {t : St} (hI : IM t σ) (hwf : WF t) {x : Int32} : MX12_brief 5 0 0 [.ref 25, .int x] σ (fun v σ' => v = some (.int (oBrief t x).1) ∧ IM (oBrief t x).2 σ' ∧ FrM σ σ') := by
  refine sX12_brief (Nat.le_of_ble_eq_true rfl) ?_
  have hI' := hI
  have hwf' := hwf
  have hSs := hwf.hS
  obtain ⟨pg, rn, rs, nr, sh, rw, ro, he, hs, th, dr, ks, kr, kh, x2, x3, x4, sd, kc, kl, ka, kg, kd, ha, e25, e26, e27, e28, e29, e30, e31, e32, e33, e34, e35, e36, e37, e38, e39, lpg, lrn, lrs, lnr, lro, lhe, lth, ldr, lks, lkr, lkh, hpg, hnr, ⟨lsh, lrw, lhs, hsh, hrw, hhs⟩, hk0, hk1⟩ := hI
  obtain ⟨w1, w2, w3, w4, w5, ⟨w6, w7, w8, w9, w10, w11, w12⟩, w13, w14, w15, w16, w17⟩ := hwf
  unfold oBrief brW
  cases e : rg x 0 1 with
  | none =>
    dsimp only
    have hr := rg_none e
    cases f : rg x 10 14 with
    | none =>
      dsimp only
      refine g_iload eX12_brief_0 rfl ?_
      refine g_if_eqI eX12_brief_1 (fun c1 => by exfalso; omega) (fun c1 => ?_)
      refine g_iload eX12_brief_4 rfl ?_
      refine g_i2l eX12_brief_5 ?_
      refine g_ldc2 eX12_brief_6 lX12_115 ?_
      refine g_ldc2 eX12_brief_9 lX12_159 ?_
      refine g_callSp eX12_brief_12 kX12_58 (c_inN f rfl rfl) (by rfl) (by rfl) (by exact Nat.le_of_ble_eq_true rfl) (by exact Nat.le_of_ble_eq_true rfl) (by exact Nat.le_of_ble_eq_true rfl) (Nat.le_refl _) (Nat.le_refl _) ?_
      refine g_if_neN eX12_brief_15 (by omega) (fun c15 => absurd rfl c15) (fun c15 => ?_)
      refine g_push eX12_brief_18 ?_
      exact g_ret (eX12_brief_20 _) (Nat.le_refl _) (Nat.le_refl _) ⟨rfl, hI', EqO.rf⟩
    | some w =>
      dsimp only
      have f' := f
      obtain ⟨rfl, hw1, hw2⟩ := rg_some f
      refine g_iload eX12_brief_0 rfl ?_
      refine g_if_eqN eX12_brief_1 (by omega) (fun c1 => by exfalso; omega) (fun c1 => ?_)
      refine g_iload eX12_brief_4 rfl ?_
      refine g_i2l eX12_brief_5 ?_
      refine g_ldc2 eX12_brief_6 lX12_115 ?_
      refine g_ldc2 eX12_brief_9 lX12_159 ?_
      refine g_callSp eX12_brief_12 kX12_58 (c_inT f' rfl rfl) (by rfl) (by rfl) (by exact Nat.le_of_ble_eq_true rfl) (by exact Nat.le_of_ble_eq_true rfl) (by exact Nat.le_of_ble_eq_true rfl) (Nat.le_refl _) (Nat.le_refl _) ?_
      refine g_if_neN eX12_brief_15 (by omega) (fun c15 => ?_) (fun c15 => absurd c15 (by decide))
      refine g_aload eX12_brief_21 rfl ?_
      refine g_callVp (r := (RX12, TX12, 32)) eX12_brief_22 kX12_106 e25 (by rfl) (c_mlacks e25 w6) (by rfl) (by rfl) (by exact Nat.le_of_ble_eq_true rfl) (by exact Nat.le_of_ble_eq_true rfl) (by exact Nat.le_of_ble_eq_true rfl) (Nat.le_refl _) (Nat.le_refl _) ?_
      refine g_if_neN eX12_brief_25 (bt_lt _) (fun c25 => ?_) (fun c25 => ?_)
      · have hno := bt_1 c25
        refine g_push eX12_brief_37 ?_
        exact g_ret (eX12_brief_39 _) (Nat.le_refl _) (Nat.le_refl _) (by first | (rw [if_neg (show ¬ (hasC t ∧ brO t < 30) from fun z => by have := hSs.mp z.1; omega)]; exact ⟨rfl, hI', EqO.rf⟩) | (rw [if_neg (show ¬ (hasC t ∧ brO t < 30) from fun z => by have := z.2; omega)]; exact ⟨rfl, hI', EqO.rf⟩))
      · have hyes := bt_0 c25
        refine g_aload eX12_brief_28 rfl ?_
        refine g_get eX12_brief_29 fX12_161_X12 e25 (by rfl) ?_
        refine g_push eX12_brief_32 ?_
        refine g_icmp_neN eX12_brief_34 (by omega) (by omega) (fun c34 => ?_) (fun c34 => ?_)
        · refine g_aload eX12_brief_40 rfl ?_
          refine g_dup eX12_brief_41 rfl ?_
          refine g_get eX12_brief_42 fX12_161_X12 e25 (by rfl) ?_
          refine g_push eX12_brief_45 ?_
          refine g_iaddN eX12_brief_46 ?_
          refine g_putI eX12_brief_47 fX12_161_X12 pX12_15 e25 (by exact Nat.le_of_ble_eq_true rfl) ?_
          refine g_aload eX12_brief_50 rfl ?_
          refine g_iload eX12_brief_51 rfl ?_
          refine g_callV0 (r := (RX12, TX12, 32)) eX12_brief_52 kX12_164 (at_eq e25) (by rfl) (c_briefOf (near := shW (nrO t)) (w := w) (at_eq e25) (at_ne (by decide) e29) lnr (at_ne (by decide) e32) lro (at_ne (by decide) e33) lhe hnr w4 (by omega)) (by rfl) (by rfl) (by exact Nat.le_of_ble_eq_true rfl) (by exact Nat.le_of_ble_eq_true rfl) (by exact Nat.le_of_ble_eq_true rfl) (Nat.le_refl _) (Nat.le_refl _) (fun v52 σ52 hp52 hn52 => ?_)
          obtain ⟨rfl, hE2, ro2, he2, l1, l2, q32, q33⟩ := hp52
          exact g_ret (eX12_brief_55 _) (Nat.le_refl _) (Nat.le_refl _) (by
            rw [if_pos (show hasC t ∧ brO t < 30 from ⟨hSs.mpr (by omega), by omega⟩)]
            exact ⟨rfl, ⟨_, _, _, _, _, _, _, _, _, _, _, _, _, _, _, _, _, _, _, _, _, _, _, _, hE2.at (by decide) (at_eq e25), hE2.at (by decide) (at_ne (by decide) e26), hE2.at (by decide) (at_ne (by decide) e27), hE2.at (by decide) (at_ne (by decide) e28), hE2.at (by decide) (at_ne (by decide) e29), hE2.at (by decide) (at_ne (by decide) e30), hE2.at (by decide) (at_ne (by decide) e31), q32, q33, hE2.at (by decide) (at_ne (by decide) e34), hE2.at (by decide) (at_ne (by decide) e35), hE2.at (by decide) (at_ne (by decide) e36), hE2.at (by decide) (at_ne (by decide) e37), hE2.at (by decide) (at_ne (by decide) e38), hE2.at (by decide) (at_ne (by decide) e39), lpg, lrn, lrs, lnr, l1, l2, lth, ldr, lks, lkr, lkh, hpg, hnr, ⟨lsh, lrw, lhs, hsh, hrw, hhs⟩, hk0, hk1⟩, (EqO.rf.st (by decide)).tr (hE2.mono (by decide))⟩)
        · refine g_push eX12_brief_37 ?_
          exact g_ret (eX12_brief_39 _) (Nat.le_refl _) (Nat.le_refl _) (by first | (rw [if_neg (show ¬ (hasC t ∧ brO t < 30) from fun z => by have := hSs.mp z.1; omega)]; exact ⟨rfl, hI', EqO.rf⟩) | (rw [if_neg (show ¬ (hasC t ∧ brO t < 30) from fun z => by have := z.2; omega)]; exact ⟨rfl, hI', EqO.rf⟩))
  | some w =>
    dsimp only
    obtain ⟨rfl, -, hw2⟩ := rg_some e
    obtain rfl : w = 0 := by omega
    refine g_iload eX12_brief_0 rfl ?_
    refine g_if_eqN eX12_brief_1 (by omega) (fun c1 => ?_) (fun c1 => absurd rfl c1)
    refine g_aload eX12_brief_21 rfl ?_
    refine g_callVp (r := (RX12, TX12, 32)) eX12_brief_22 kX12_106 e25 (by rfl) (c_mlacks e25 w6) (by rfl) (by rfl) (by exact Nat.le_of_ble_eq_true rfl) (by exact Nat.le_of_ble_eq_true rfl) (by exact Nat.le_of_ble_eq_true rfl) (Nat.le_refl _) (Nat.le_refl _) ?_
    refine g_if_neN eX12_brief_25 (bt_lt _) (fun c25 => ?_) (fun c25 => ?_)
    · have hno := bt_1 c25
      refine g_push eX12_brief_37 ?_
      exact g_ret (eX12_brief_39 _) (Nat.le_refl _) (Nat.le_refl _) (by first | (rw [if_neg (show ¬ (hasC t ∧ brO t < 30) from fun z => by have := hSs.mp z.1; omega)]; exact ⟨rfl, hI', EqO.rf⟩) | (rw [if_neg (show ¬ (hasC t ∧ brO t < 30) from fun z => by have := z.2; omega)]; exact ⟨rfl, hI', EqO.rf⟩))
    · have hyes := bt_0 c25
      refine g_aload eX12_brief_28 rfl ?_
      refine g_get eX12_brief_29 fX12_161_X12 e25 (by rfl) ?_
      refine g_push eX12_brief_32 ?_
      refine g_icmp_neN eX12_brief_34 (by omega) (by omega) (fun c34 => ?_) (fun c34 => ?_)
      · refine g_aload eX12_brief_40 rfl ?_
        refine g_dup eX12_brief_41 rfl ?_
        refine g_get eX12_brief_42 fX12_161_X12 e25 (by rfl) ?_
        refine g_push eX12_brief_45 ?_
        refine g_iaddN eX12_brief_46 ?_
        refine g_putI eX12_brief_47 fX12_161_X12 pX12_15 e25 (by exact Nat.le_of_ble_eq_true rfl) ?_
        refine g_aload eX12_brief_50 rfl ?_
        refine g_iload eX12_brief_51 rfl ?_
        refine g_callV0 (r := (RX12, TX12, 32)) eX12_brief_52 kX12_164 (at_eq e25) (by rfl) (c_briefOf (near := shW (nrO t)) (w := 0) (at_eq e25) (at_ne (by decide) e29) lnr (at_ne (by decide) e32) lro (at_ne (by decide) e33) lhe hnr w4 (by omega)) (by rfl) (by rfl) (by exact Nat.le_of_ble_eq_true rfl) (by exact Nat.le_of_ble_eq_true rfl) (by exact Nat.le_of_ble_eq_true rfl) (Nat.le_refl _) (Nat.le_refl _) (fun v52 σ52 hp52 hn52 => ?_)
        obtain ⟨rfl, hE2, ro2, he2, l1, l2, q32, q33⟩ := hp52
        exact g_ret (eX12_brief_55 _) (Nat.le_refl _) (Nat.le_refl _) (by
          rw [if_pos (show hasC t ∧ brO t < 30 from ⟨hSs.mpr (by omega), by omega⟩)]
          exact ⟨rfl, ⟨_, _, _, _, _, _, _, _, _, _, _, _, _, _, _, _, _, _, _, _, _, _, _, _, hE2.at (by decide) (at_eq e25), hE2.at (by decide) (at_ne (by decide) e26), hE2.at (by decide) (at_ne (by decide) e27), hE2.at (by decide) (at_ne (by decide) e28), hE2.at (by decide) (at_ne (by decide) e29), hE2.at (by decide) (at_ne (by decide) e30), hE2.at (by decide) (at_ne (by decide) e31), q32, q33, hE2.at (by decide) (at_ne (by decide) e34), hE2.at (by decide) (at_ne (by decide) e35), hE2.at (by decide) (at_ne (by decide) e36), hE2.at (by decide) (at_ne (by decide) e37), hE2.at (by decide) (at_ne (by decide) e38), hE2.at (by decide) (at_ne (by decide) e39), lpg, lrn, lrs, lnr, l1, l2, lth, ldr, lks, lkr, lkh, hpg, hnr, ⟨lsh, lrw, lhs, hsh, hrw, hhs⟩, hk0, hk1⟩, (EqO.rf.st (by decide)).tr (hE2.mono (by decide))⟩)
      · refine g_push eX12_brief_37 ?_
        exact g_ret (eX12_brief_39 _) (Nat.le_refl _) (Nat.le_refl _) (by first | (rw [if_neg (show ¬ (hasC t ∧ brO t < 30) from fun z => by have := hSs.mp z.1; omega)]; exact ⟨rfl, hI', EqO.rf⟩) | (rw [if_neg (show ¬ (hasC t ∧ brO t < 30) from fun z => by have := z.2; omega)]; exact ⟨rfl, hI', EqO.rf⟩))
