/-! the reference: where one alters; accuse, as, lesson, unlearn -/
theorem b_0 {b : Bool} (h : b.toNat = 0) : b = false := by cases b <;> simp_all
theorem b_n0 {b : Bool} (h : ¬ b.toNat = 0) : b = true := by cases b <;> simp_all
theorem b_1 {b : Bool} (h : b.toNat = 1) : b = true := by cases b <;> simp_all
theorem b_n1 {b : Bool} (h : ¬ b.toNat = 1) : b = false := by cases b <;> simp_all
theorem msk_t {f : Nat → Bool} {n : Nat} (h : f n = true) : msk f n ||| 1 * 2 ^ n = msk f (n + 1) := by
  show _ = msk f n ||| ((f n).toNat * 2 ^ n)
  rw [h]
  rfl
theorem msk_f {f : Nat → Bool} {n : Nat} (h : f n = false) : msk f n ||| 0 = msk f (n + 1) := by
  show _ = msk f n ||| ((f n).toNat * 2 ^ n)
  rw [h]
  show _ = msk f n ||| 0 * 2 ^ n
  rw [Nat.zero_mul]
set_option maxRecDepth 20000 in
theorem c_isNear {σ : aH} {pn lm wd ch ct ac br hm : Nat} {x2 x3 x4 sd kc kl ka kg kd : Int32} {ha : Int64} (e25 : σ[25]? = some (mob pn x2 x3 x4 lm wd ch ct ac br hm sd kc kl ka kg kd ha)) {nr : List Nat} (e29 : σ[29]? = some (aA nr)) (lnr : nr.length = 5) {d v : Nat} (hd : d < 5) (hv : v < 8) (hb : nr.getD d 0 < 256) : MX12_isNear 0 0 0 [.ref 25, .int (nI d), .int (nI v)] σ (aPu (some (.int (nI ((nr.getD d 0).testBit v).toNat))) σ) := by
  refine sX12_isNear (Nat.le_of_ble_eq_true rfl) ?_
  refine g_aload eX12_isNear_0 rfl ?_
  refine g_get eX12_isNear_1 fX12_19_X12 e25 (by rfl) ?_
  refine g_iload eX12_isNear_4 rfl ?_
  refine g_ialdN eX12_isNear_5 e29 (by omega) (by omega) ?_
  refine g_iload eX12_isNear_6 rfl ?_
  refine g_ishrN eX12_isNear_7 (by omega) (by omega) ?_
  refine g_push eX12_isNear_8 ?_
  refine g_iandN eX12_isNear_9 ?_
  rw [nbit]
  refine g_push eX12_isNear_10 ?_
  refine g_icmp_neN eX12_isNear_11 (bt_lt _) (by omega) (fun c11 => ?_) (fun c11 => ?_)
  · refine g_push eX12_isNear_18 ?_
    exact g_ret (eX12_isNear_19 _ (by first | exact Or.inl rfl | exact Or.inr rfl)) (Nat.le_refl _) (Nat.le_refl _) ⟨by first | (rw [b_1 c11]; rfl) | (rw [b_n1 c11]; rfl), rfl⟩
  · refine g_push eX12_isNear_14 ?_
    refine g_goto eX12_isNear_15 ?_
    exact g_ret (eX12_isNear_19 _ (by first | exact Or.inl rfl | exact Or.inr rfl)) (Nat.le_refl _) (Nat.le_refl _) ⟨by first | (rw [b_1 c11]; rfl) | (rw [b_n1 c11]; rfl), rfl⟩
set_option maxRecDepth 20000 in
theorem c_stands {σ : aH} {p k : Nat} {ws : List Nat} (h : σ[p]? = some (aA ws)) (hk : k < ws.length) (hl : ws.length ≤ 10) (hw : ∀ j, j ≤ k → ws.getD j 0 < 8) : MX12_stands 0 0 0 [.ref p, .int (nI k)] σ (aPu (some (.int (nI (seenB (shW ws) k (ws.getD k 0)).toNat))) σ) := by
  refine sX12_stands (Nat.le_of_ble_eq_true rfl) ?_
  have key : ∀ d j, j + d = k → GX12_stands 0 0 0 (aPu (some (.int (nI (seenB (shW ws) k (ws.getD k 0)).toNat))) σ) 0 0 4 [some (.ref p), some (.int (nI k)), some (.int (nI (seenB (shW ws) j (ws.getD k 0)).toNat)), some (.int (nI j))] [] σ := by
    intro d
    induction d with
    | zero =>
      intro j hj
      obtain rfl : j = k := by omega
      refine g_iload eX12_stands_4 rfl ?_
      refine g_iload eX12_stands_5 rfl ?_
      refine g_icmp_geN eX12_stands_6 (by omega) (by omega) (fun c6 => ?_) (fun c6 => by exfalso; omega)
      refine g_iload eX12_stands_34 rfl ?_
      exact g_ret (eX12_stands_35 _ (by cases seenB (shW ws) j (ws.getD j 0) <;> first | exact Or.inl rfl | exact Or.inr rfl)) (Nat.le_refl _) (Nat.le_refl _) ⟨rfl, rfl⟩
    | succ d ih =>
      intro j hj
      have b1 := hw j (by omega)
      have b2 := hw k (by omega)
      have hs : seenB (shW ws) (j + 1) (ws.getD k 0) = (seenB (shW ws) j (ws.getD k 0) || decide (ws.getD j 0 = ws.getD k 0)) := rfl
      refine g_iload eX12_stands_4 rfl ?_
      refine g_iload eX12_stands_5 rfl ?_
      refine g_icmp_geN eX12_stands_6 (by omega) (by omega) (fun c6 => by exfalso; omega) (fun c6 => ?_)
      refine g_iload eX12_stands_9 rfl ?_
      refine g_if_neN eX12_stands_10 (bt_lt _) (fun c10 => ?_) (fun c10 => ?_)
      · refine g_push eX12_stands_22 ?_
        refine g_goto eX12_stands_23 ?_
        refine g_istore eX12_stands_27 rfl ?_
        refine g_iincN eX12_stands_28 rfl rfl ?_
        refine g_goto eX12_stands_31 ?_
        have := ih (j + 1) (by omega)
        rw [hs] at this
        first
          | (rw [b_n0 c10] at this; exact this)
          | (rw [b_0 c10, decide_eq_true c19] at this; exact this)
          | (rw [b_0 c10, decide_eq_false c19] at this; exact this)
      · refine g_aload eX12_stands_13 rfl ?_
        refine g_iload eX12_stands_14 rfl ?_
        refine g_ialdN eX12_stands_15 (by assumption) (by omega) (by omega) ?_
        refine g_aload eX12_stands_16 rfl ?_
        refine g_iload eX12_stands_17 rfl ?_
        refine g_ialdN eX12_stands_18 (by assumption) (by omega) (by omega) ?_
        refine g_icmp_neN eX12_stands_19 (by omega) (by omega) (fun c19 => ?_) (fun c19 => ?_)
        · refine g_push eX12_stands_26 ?_
          refine g_istore eX12_stands_27 rfl ?_
          refine g_iincN eX12_stands_28 rfl rfl ?_
          refine g_goto eX12_stands_31 ?_
          have := ih (j + 1) (by omega)
          rw [hs] at this
          first
            | (rw [b_n0 c10] at this; exact this)
            | (rw [b_0 c10, decide_eq_true c19] at this; exact this)
            | (rw [b_0 c10, decide_eq_false c19] at this; exact this)
        · refine g_push eX12_stands_22 ?_
          refine g_goto eX12_stands_23 ?_
          refine g_istore eX12_stands_27 rfl ?_
          refine g_iincN eX12_stands_28 rfl rfl ?_
          refine g_goto eX12_stands_31 ?_
          have := ih (j + 1) (by omega)
          rw [hs] at this
          first
            | (rw [b_n0 c10] at this; exact this)
            | (rw [b_0 c10, decide_eq_true c19] at this; exact this)
            | (rw [b_0 c10, decide_eq_false c19] at this; exact this)
  refine g_push eX12_stands_0 ?_
  refine g_istore eX12_stands_1 rfl ?_
  refine g_push eX12_stands_2 ?_
  refine g_istore eX12_stands_3 rfl ?_
  exact key k 0 (by omega)
set_option maxRecDepth 20000 in
theorem c_alters {σ : aH} {pn lm wd ch ct ac br hm : Nat} {x2 x3 x4 sd kc kl ka kg kd : Int32} {ha : Int64} (e25 : σ[25]? = some (mob pn x2 x3 x4 lm wd ch ct ac br hm sd kc kl ka kg kd ha)) {nr : List Nat} (e29 : σ[29]? = some (aA nr)) (lnr : nr.length = 5) {ws : List Nat} {p : Nat} (hp : σ[p]? = some (aA ws)) (hl : ws.length ≤ 10) {kind d hides k : Nat} (hkd : kind ≤ 4) (hd : d < 5) (hb : nr.getD d 0 < 256) (hh : hides < 2147483648) (hk : k < ws.length) (hw : ∀ j, j ≤ k → ws.getD j 0 < 8) : MX12_alters 1 0 0 [.ref 25, .int (nI kind), .int (nI d), .int (nI hides), .ref p, .int (nI k)] σ (aPu (some (.int (nI (altA kind (nr.getD d 0) hides (shW ws) k).toNat))) σ) := by
  refine sX12_alters (Nat.le_of_ble_eq_true rfl) ?_
  have bk := hw k (Nat.le_refl _)
  rcases (show kind = 0 ∨ kind = 1 ∨ kind = 2 ∨ kind = 3 ∨ kind = 4 by omega) with rfl | rfl | rfl | rfl | rfl
  · refine g_iload eX12_alters_0 rfl ?_
    refine g_aload eX12_alters_1 rfl ?_
    refine g_iload eX12_alters_3 rfl ?_
    refine g_ialdN eX12_alters_5 hp (by omega) (by omega) ?_
    refine g_ishrN eX12_alters_6 (by omega) (by omega) ?_
    refine g_push eX12_alters_7 ?_
    refine g_iandN eX12_alters_8 ?_
    rw [nbit]
    refine g_push eX12_alters_9 ?_
    refine g_icmp_neN eX12_alters_10 (bt_lt _) (by omega) (fun c10 => ?_) (fun c10 => ?_)
    · have f10 := b_n1 c10
      refine g_aload eX12_alters_15 rfl ?_
      refine g_iload eX12_alters_16 rfl ?_
      refine g_aload eX12_alters_17 rfl ?_
      refine g_iload eX12_alters_19 rfl ?_
      refine g_ialdN eX12_alters_21 hp (by omega) (by omega) ?_
      refine g_callVp (r := (RX12, TX12, 32)) eX12_alters_22 kX12_117 e25 (by rfl) (c_isNear e25 e29 lnr hd bk hb) (by rfl) (by rfl) (by exact Nat.le_of_ble_eq_true rfl) (by exact Nat.le_of_ble_eq_true rfl) (by exact Nat.le_of_ble_eq_true rfl) (Nat.le_refl _) (Nat.le_refl _) ?_
      refine g_istore eX12_alters_25 rfl ?_
      refine g_iload eX12_alters_27 rfl ?_
      refine g_tswOut (tgt := 149) eX12_alters_28 (by decide) (by decide) ?_
      refine g_iload eX12_alters_149 rfl ?_
      exact g_ret (eX12_alters_151 _ (by cases (nr.getD d 0).testBit (ws.getD k 0) <;> first | exact Or.inl rfl | exact Or.inr rfl)) (Nat.le_refl _) (Nat.le_refl _) ⟨by rw [show altA 0 (nr.getD d 0) hides (shW ws) k = (nr.getD d 0).testBit (ws.getD k 0) by unfold altA altB; rw [show hides.testBit (shW ws k) = false from f10]; rfl], rfl⟩
    · have f10 := b_1 c10
      refine g_push eX12_alters_13 ?_
      exact g_ret (eX12_alters_14 _ (by first | exact Or.inl rfl | exact Or.inr rfl)) (Nat.le_refl _) (Nat.le_refl _) ⟨by rw [show altA 0 (nr.getD d 0) hides (shW ws) k = false by unfold altA; rw [show hides.testBit (shW ws k) = true from f10]; rfl]; rfl, rfl⟩
  · refine g_iload eX12_alters_0 rfl ?_
    refine g_aload eX12_alters_1 rfl ?_
    refine g_iload eX12_alters_3 rfl ?_
    refine g_ialdN eX12_alters_5 hp (by omega) (by omega) ?_
    refine g_ishrN eX12_alters_6 (by omega) (by omega) ?_
    refine g_push eX12_alters_7 ?_
    refine g_iandN eX12_alters_8 ?_
    rw [nbit]
    refine g_push eX12_alters_9 ?_
    refine g_icmp_neN eX12_alters_10 (bt_lt _) (by omega) (fun c10 => ?_) (fun c10 => ?_)
    · have f10 := b_n1 c10
      refine g_aload eX12_alters_15 rfl ?_
      refine g_iload eX12_alters_16 rfl ?_
      refine g_aload eX12_alters_17 rfl ?_
      refine g_iload eX12_alters_19 rfl ?_
      refine g_ialdN eX12_alters_21 hp (by omega) (by omega) ?_
      refine g_callVp (r := (RX12, TX12, 32)) eX12_alters_22 kX12_117 e25 (by rfl) (c_isNear e25 e29 lnr hd bk hb) (by rfl) (by rfl) (by exact Nat.le_of_ble_eq_true rfl) (by exact Nat.le_of_ble_eq_true rfl) (by exact Nat.le_of_ble_eq_true rfl) (Nat.le_refl _) (Nat.le_refl _) ?_
      refine g_istore eX12_alters_25 rfl ?_
      refine g_iload eX12_alters_27 rfl ?_
      refine g_tswIn (off := 32) (tgt := 60) eX12_alters_28 (by decide +kernel) (by decide +kernel) (by decide +kernel) (by decide) ?_
      refine g_iload eX12_alters_60 rfl ?_
      refine g_if_neN eX12_alters_62 (bt_lt _) (fun c62 => ?_) (fun c62 => ?_)
      · have f62 := b_n0 c62
        refine g_push eX12_alters_70 ?_
        refine g_goto eX12_alters_71 ?_
        exact g_ret (eX12_alters_75 _ (by first | exact Or.inl rfl | exact Or.inr rfl)) (Nat.le_refl _) (Nat.le_refl _) (by first | exact (by rw [show altA 1 (nr.getD d 0) hides (shW ws) k = true by unfold altA altB; rw [show hides.testBit (shW ws k) = false from f10]; show (true && ((nr.getD d 0).testBit (ws.getD k 0) || decide (k = 0))) = true; rw [f62]; rfl]; exact ⟨rfl, rfl⟩) | exact (by rw [show altA 1 (nr.getD d 0) hides (shW ws) k = true by unfold altA altB; rw [show hides.testBit (shW ws k) = false from f10]; show (true && ((nr.getD d 0).testBit (ws.getD k 0) || decide (k = 0))) = true; rw [f62, decide_eq_true c67]; rfl]; exact ⟨rfl, rfl⟩) | exact (by rw [show altA 1 (nr.getD d 0) hides (shW ws) k = false by unfold altA altB; rw [show hides.testBit (shW ws k) = false from f10]; show (true && ((nr.getD d 0).testBit (ws.getD k 0) || decide (k = 0))) = false; rw [f62, decide_eq_false c67]; rfl]; exact ⟨rfl, rfl⟩))
      · have f62 := b_0 c62
        refine g_iload eX12_alters_65 rfl ?_
        refine g_if_neN eX12_alters_67 (by omega) (fun c67 => ?_) (fun c67 => ?_)
        · refine g_push eX12_alters_74 ?_
          exact g_ret (eX12_alters_75 _ (by first | exact Or.inl rfl | exact Or.inr rfl)) (Nat.le_refl _) (Nat.le_refl _) (by first | exact (by rw [show altA 1 (nr.getD d 0) hides (shW ws) k = true by unfold altA altB; rw [show hides.testBit (shW ws k) = false from f10]; show (true && ((nr.getD d 0).testBit (ws.getD k 0) || decide (k = 0))) = true; rw [f62]; rfl]; exact ⟨rfl, rfl⟩) | exact (by rw [show altA 1 (nr.getD d 0) hides (shW ws) k = true by unfold altA altB; rw [show hides.testBit (shW ws k) = false from f10]; show (true && ((nr.getD d 0).testBit (ws.getD k 0) || decide (k = 0))) = true; rw [f62, decide_eq_true c67]; rfl]; exact ⟨rfl, rfl⟩) | exact (by rw [show altA 1 (nr.getD d 0) hides (shW ws) k = false by unfold altA altB; rw [show hides.testBit (shW ws k) = false from f10]; show (true && ((nr.getD d 0).testBit (ws.getD k 0) || decide (k = 0))) = false; rw [f62, decide_eq_false c67]; rfl]; exact ⟨rfl, rfl⟩))
        · refine g_push eX12_alters_70 ?_
          refine g_goto eX12_alters_71 ?_
          exact g_ret (eX12_alters_75 _ (by first | exact Or.inl rfl | exact Or.inr rfl)) (Nat.le_refl _) (Nat.le_refl _) (by first | exact (by rw [show altA 1 (nr.getD d 0) hides (shW ws) k = true by unfold altA altB; rw [show hides.testBit (shW ws k) = false from f10]; show (true && ((nr.getD d 0).testBit (ws.getD k 0) || decide (k = 0))) = true; rw [f62]; rfl]; exact ⟨rfl, rfl⟩) | exact (by rw [show altA 1 (nr.getD d 0) hides (shW ws) k = true by unfold altA altB; rw [show hides.testBit (shW ws k) = false from f10]; show (true && ((nr.getD d 0).testBit (ws.getD k 0) || decide (k = 0))) = true; rw [f62, decide_eq_true c67]; rfl]; exact ⟨rfl, rfl⟩) | exact (by rw [show altA 1 (nr.getD d 0) hides (shW ws) k = false by unfold altA altB; rw [show hides.testBit (shW ws k) = false from f10]; show (true && ((nr.getD d 0).testBit (ws.getD k 0) || decide (k = 0))) = false; rw [f62, decide_eq_false c67]; rfl]; exact ⟨rfl, rfl⟩))
    · have f10 := b_1 c10
      refine g_push eX12_alters_13 ?_
      exact g_ret (eX12_alters_14 _ (by first | exact Or.inl rfl | exact Or.inr rfl)) (Nat.le_refl _) (Nat.le_refl _) ⟨by rw [show altA 1 (nr.getD d 0) hides (shW ws) k = false by unfold altA; rw [show hides.testBit (shW ws k) = true from f10]; rfl]; rfl, rfl⟩
  · refine g_iload eX12_alters_0 rfl ?_
    refine g_aload eX12_alters_1 rfl ?_
    refine g_iload eX12_alters_3 rfl ?_
    refine g_ialdN eX12_alters_5 hp (by omega) (by omega) ?_
    refine g_ishrN eX12_alters_6 (by omega) (by omega) ?_
    refine g_push eX12_alters_7 ?_
    refine g_iandN eX12_alters_8 ?_
    rw [nbit]
    refine g_push eX12_alters_9 ?_
    refine g_icmp_neN eX12_alters_10 (bt_lt _) (by omega) (fun c10 => ?_) (fun c10 => ?_)
    · have f10 := b_n1 c10
      refine g_aload eX12_alters_15 rfl ?_
      refine g_iload eX12_alters_16 rfl ?_
      refine g_aload eX12_alters_17 rfl ?_
      refine g_iload eX12_alters_19 rfl ?_
      refine g_ialdN eX12_alters_21 hp (by omega) (by omega) ?_
      refine g_callVp (r := (RX12, TX12, 32)) eX12_alters_22 kX12_117 e25 (by rfl) (c_isNear e25 e29 lnr hd bk hb) (by rfl) (by rfl) (by exact Nat.le_of_ble_eq_true rfl) (by exact Nat.le_of_ble_eq_true rfl) (by exact Nat.le_of_ble_eq_true rfl) (Nat.le_refl _) (Nat.le_refl _) ?_
      refine g_istore eX12_alters_25 rfl ?_
      refine g_iload eX12_alters_27 rfl ?_
      refine g_tswIn (off := 48) (tgt := 76) eX12_alters_28 (by decide +kernel) (by decide +kernel) (by decide +kernel) (by decide) ?_
      refine g_iload eX12_alters_76 rfl ?_
      refine g_if_eqN eX12_alters_78 (bt_lt _) (fun c78 => ?_) (fun c78 => ?_)
      · have f78 := b_0 c78
        refine g_push eX12_alters_95 ?_
        exact g_ret (eX12_alters_96 _ (by first | exact Or.inl rfl | exact Or.inr rfl)) (Nat.le_refl _) (Nat.le_refl _) (by first | exact (by rw [show altA 2 (nr.getD d 0) hides (shW ws) k = false by unfold altA altB; rw [show hides.testBit (shW ws k) = false from f10]; show (true && ((nr.getD d 0).testBit (ws.getD k 0) && !seenB (shW ws) k (ws.getD k 0))) = false; rw [f78]; rfl]; exact ⟨rfl, rfl⟩) | exact (by rw [show altA 2 (nr.getD d 0) hides (shW ws) k = true by unfold altA altB; rw [show hides.testBit (shW ws k) = false from f10]; show (true && ((nr.getD d 0).testBit (ws.getD k 0) && !seenB (shW ws) k (ws.getD k 0))) = true; rw [f78, f88]; rfl]; exact ⟨rfl, rfl⟩) | exact (by rw [show altA 2 (nr.getD d 0) hides (shW ws) k = false by unfold altA altB; rw [show hides.testBit (shW ws k) = false from f10]; show (true && ((nr.getD d 0).testBit (ws.getD k 0) && !seenB (shW ws) k (ws.getD k 0))) = false; rw [f78, f88]; rfl]; exact ⟨rfl, rfl⟩))
      · have f78 := b_n0 c78
        refine g_aload eX12_alters_81 rfl ?_
        refine g_iload eX12_alters_83 rfl ?_
        refine g_callSp eX12_alters_85 kX12_121 (c_stands hp hk hl hw) (by rfl) (by rfl) (by exact Nat.le_of_ble_eq_true rfl) (by exact Nat.le_of_ble_eq_true rfl) (by exact Nat.le_of_ble_eq_true rfl) (Nat.le_refl _) (Nat.le_refl _) ?_
        refine g_if_neN eX12_alters_88 (bt_lt _) (fun c88 => ?_) (fun c88 => ?_)
        · have f88 := b_n0 c88
          refine g_push eX12_alters_95 ?_
          exact g_ret (eX12_alters_96 _ (by first | exact Or.inl rfl | exact Or.inr rfl)) (Nat.le_refl _) (Nat.le_refl _) (by first | exact (by rw [show altA 2 (nr.getD d 0) hides (shW ws) k = false by unfold altA altB; rw [show hides.testBit (shW ws k) = false from f10]; show (true && ((nr.getD d 0).testBit (ws.getD k 0) && !seenB (shW ws) k (ws.getD k 0))) = false; rw [f78]; rfl]; exact ⟨rfl, rfl⟩) | exact (by rw [show altA 2 (nr.getD d 0) hides (shW ws) k = true by unfold altA altB; rw [show hides.testBit (shW ws k) = false from f10]; show (true && ((nr.getD d 0).testBit (ws.getD k 0) && !seenB (shW ws) k (ws.getD k 0))) = true; rw [f78, f88]; rfl]; exact ⟨rfl, rfl⟩) | exact (by rw [show altA 2 (nr.getD d 0) hides (shW ws) k = false by unfold altA altB; rw [show hides.testBit (shW ws k) = false from f10]; show (true && ((nr.getD d 0).testBit (ws.getD k 0) && !seenB (shW ws) k (ws.getD k 0))) = false; rw [f78, f88]; rfl]; exact ⟨rfl, rfl⟩))
        · have f88 := b_0 c88
          refine g_push eX12_alters_91 ?_
          refine g_goto eX12_alters_92 ?_
          exact g_ret (eX12_alters_96 _ (by first | exact Or.inl rfl | exact Or.inr rfl)) (Nat.le_refl _) (Nat.le_refl _) (by first | exact (by rw [show altA 2 (nr.getD d 0) hides (shW ws) k = false by unfold altA altB; rw [show hides.testBit (shW ws k) = false from f10]; show (true && ((nr.getD d 0).testBit (ws.getD k 0) && !seenB (shW ws) k (ws.getD k 0))) = false; rw [f78]; rfl]; exact ⟨rfl, rfl⟩) | exact (by rw [show altA 2 (nr.getD d 0) hides (shW ws) k = true by unfold altA altB; rw [show hides.testBit (shW ws k) = false from f10]; show (true && ((nr.getD d 0).testBit (ws.getD k 0) && !seenB (shW ws) k (ws.getD k 0))) = true; rw [f78, f88]; rfl]; exact ⟨rfl, rfl⟩) | exact (by rw [show altA 2 (nr.getD d 0) hides (shW ws) k = false by unfold altA altB; rw [show hides.testBit (shW ws k) = false from f10]; show (true && ((nr.getD d 0).testBit (ws.getD k 0) && !seenB (shW ws) k (ws.getD k 0))) = false; rw [f78, f88]; rfl]; exact ⟨rfl, rfl⟩))
    · have f10 := b_1 c10
      refine g_push eX12_alters_13 ?_
      exact g_ret (eX12_alters_14 _ (by first | exact Or.inl rfl | exact Or.inr rfl)) (Nat.le_refl _) (Nat.le_refl _) ⟨by rw [show altA 2 (nr.getD d 0) hides (shW ws) k = false by unfold altA; rw [show hides.testBit (shW ws k) = true from f10]; rfl]; rfl, rfl⟩
  · refine g_iload eX12_alters_0 rfl ?_
    refine g_aload eX12_alters_1 rfl ?_
    refine g_iload eX12_alters_3 rfl ?_
    refine g_ialdN eX12_alters_5 hp (by omega) (by omega) ?_
    refine g_ishrN eX12_alters_6 (by omega) (by omega) ?_
    refine g_push eX12_alters_7 ?_
    refine g_iandN eX12_alters_8 ?_
    rw [nbit]
    refine g_push eX12_alters_9 ?_
    refine g_icmp_neN eX12_alters_10 (bt_lt _) (by omega) (fun c10 => ?_) (fun c10 => ?_)
    · have f10 := b_n1 c10
      refine g_aload eX12_alters_15 rfl ?_
      refine g_iload eX12_alters_16 rfl ?_
      refine g_aload eX12_alters_17 rfl ?_
      refine g_iload eX12_alters_19 rfl ?_
      refine g_ialdN eX12_alters_21 hp (by omega) (by omega) ?_
      refine g_callVp (r := (RX12, TX12, 32)) eX12_alters_22 kX12_117 e25 (by rfl) (c_isNear e25 e29 lnr hd bk hb) (by rfl) (by rfl) (by exact Nat.le_of_ble_eq_true rfl) (by exact Nat.le_of_ble_eq_true rfl) (by exact Nat.le_of_ble_eq_true rfl) (Nat.le_refl _) (Nat.le_refl _) ?_
      refine g_istore eX12_alters_25 rfl ?_
      refine g_iload eX12_alters_27 rfl ?_
      refine g_tswIn (off := 69) (tgt := 97) eX12_alters_28 (by decide +kernel) (by decide +kernel) (by decide +kernel) (by decide) ?_
      refine g_iload eX12_alters_97 rfl ?_
      refine g_if_leN eX12_alters_99 (by omega) (fun c99 => ?_) (fun c99 => ?_)
      · refine g_push eX12_alters_121 ?_
        exact g_ret (eX12_alters_122 _ (by first | exact Or.inl rfl | exact Or.inr rfl)) (Nat.le_refl _) (Nat.le_refl _) (by first | exact (by rw [show altA 3 (nr.getD d 0) hides (shW ws) k = false by unfold altA altB; rw [show hides.testBit (shW ws k) = false from f10]; show (true && (decide (0 < k) && (nr.getD d 0).testBit (ws.getD (k - 1) 0))) = false; rw [decide_eq_false (show ¬ 0 < k by omega)]; rfl]; exact ⟨rfl, rfl⟩) | exact (by rw [show altA 3 (nr.getD d 0) hides (shW ws) k = true by unfold altA altB; rw [show hides.testBit (shW ws k) = false from f10]; show (true && (decide (0 < k) && (nr.getD d 0).testBit (ws.getD (k - 1) 0))) = true; rw [f114, decide_eq_true f99]; rfl]; exact ⟨rfl, rfl⟩) | exact (by rw [show altA 3 (nr.getD d 0) hides (shW ws) k = false by unfold altA altB; rw [show hides.testBit (shW ws k) = false from f10]; show (true && (decide (0 < k) && (nr.getD d 0).testBit (ws.getD (k - 1) 0))) = false; rw [f114, decide_eq_true f99]; rfl]; exact ⟨rfl, rfl⟩))
      · have f99 : 0 < k := by omega
        have bk1 := hw (k - 1) (by omega)
        refine g_aload eX12_alters_102 rfl ?_
        refine g_iload eX12_alters_103 rfl ?_
        refine g_aload eX12_alters_104 rfl ?_
        refine g_iload eX12_alters_106 rfl ?_
        refine g_push eX12_alters_108 ?_
        refine g_isubN eX12_alters_109 (by omega) ?_
        refine g_ialdN eX12_alters_110 hp (by omega) (by omega) ?_
        refine g_callVp (r := (RX12, TX12, 32)) eX12_alters_111 kX12_117 e25 (by rfl) (c_isNear e25 e29 lnr hd bk1 hb) (by rfl) (by rfl) (by exact Nat.le_of_ble_eq_true rfl) (by exact Nat.le_of_ble_eq_true rfl) (by exact Nat.le_of_ble_eq_true rfl) (Nat.le_refl _) (Nat.le_refl _) ?_
        refine g_if_eqN eX12_alters_114 (bt_lt _) (fun c114 => ?_) (fun c114 => ?_)
        · have f114 := b_0 c114
          refine g_push eX12_alters_121 ?_
          exact g_ret (eX12_alters_122 _ (by first | exact Or.inl rfl | exact Or.inr rfl)) (Nat.le_refl _) (Nat.le_refl _) (by first | exact (by rw [show altA 3 (nr.getD d 0) hides (shW ws) k = false by unfold altA altB; rw [show hides.testBit (shW ws k) = false from f10]; show (true && (decide (0 < k) && (nr.getD d 0).testBit (ws.getD (k - 1) 0))) = false; rw [decide_eq_false (show ¬ 0 < k by omega)]; rfl]; exact ⟨rfl, rfl⟩) | exact (by rw [show altA 3 (nr.getD d 0) hides (shW ws) k = true by unfold altA altB; rw [show hides.testBit (shW ws k) = false from f10]; show (true && (decide (0 < k) && (nr.getD d 0).testBit (ws.getD (k - 1) 0))) = true; rw [f114, decide_eq_true f99]; rfl]; exact ⟨rfl, rfl⟩) | exact (by rw [show altA 3 (nr.getD d 0) hides (shW ws) k = false by unfold altA altB; rw [show hides.testBit (shW ws k) = false from f10]; show (true && (decide (0 < k) && (nr.getD d 0).testBit (ws.getD (k - 1) 0))) = false; rw [f114, decide_eq_true f99]; rfl]; exact ⟨rfl, rfl⟩))
        · have f114 := b_n0 c114
          refine g_push eX12_alters_117 ?_
          refine g_goto eX12_alters_118 ?_
          exact g_ret (eX12_alters_122 _ (by first | exact Or.inl rfl | exact Or.inr rfl)) (Nat.le_refl _) (Nat.le_refl _) (by first | exact (by rw [show altA 3 (nr.getD d 0) hides (shW ws) k = false by unfold altA altB; rw [show hides.testBit (shW ws k) = false from f10]; show (true && (decide (0 < k) && (nr.getD d 0).testBit (ws.getD (k - 1) 0))) = false; rw [decide_eq_false (show ¬ 0 < k by omega)]; rfl]; exact ⟨rfl, rfl⟩) | exact (by rw [show altA 3 (nr.getD d 0) hides (shW ws) k = true by unfold altA altB; rw [show hides.testBit (shW ws k) = false from f10]; show (true && (decide (0 < k) && (nr.getD d 0).testBit (ws.getD (k - 1) 0))) = true; rw [f114, decide_eq_true f99]; rfl]; exact ⟨rfl, rfl⟩) | exact (by rw [show altA 3 (nr.getD d 0) hides (shW ws) k = false by unfold altA altB; rw [show hides.testBit (shW ws k) = false from f10]; show (true && (decide (0 < k) && (nr.getD d 0).testBit (ws.getD (k - 1) 0))) = false; rw [f114, decide_eq_true f99]; rfl]; exact ⟨rfl, rfl⟩))
    · have f10 := b_1 c10
      refine g_push eX12_alters_13 ?_
      exact g_ret (eX12_alters_14 _ (by first | exact Or.inl rfl | exact Or.inr rfl)) (Nat.le_refl _) (Nat.le_refl _) ⟨by rw [show altA 3 (nr.getD d 0) hides (shW ws) k = false by unfold altA; rw [show hides.testBit (shW ws k) = true from f10]; rfl]; rfl, rfl⟩
  · refine g_iload eX12_alters_0 rfl ?_
    refine g_aload eX12_alters_1 rfl ?_
    refine g_iload eX12_alters_3 rfl ?_
    refine g_ialdN eX12_alters_5 hp (by omega) (by omega) ?_
    refine g_ishrN eX12_alters_6 (by omega) (by omega) ?_
    refine g_push eX12_alters_7 ?_
    refine g_iandN eX12_alters_8 ?_
    rw [nbit]
    refine g_push eX12_alters_9 ?_
    refine g_icmp_neN eX12_alters_10 (bt_lt _) (by omega) (fun c10 => ?_) (fun c10 => ?_)
    · have f10 := b_n1 c10
      refine g_aload eX12_alters_15 rfl ?_
      refine g_iload eX12_alters_16 rfl ?_
      refine g_aload eX12_alters_17 rfl ?_
      refine g_iload eX12_alters_19 rfl ?_
      refine g_ialdN eX12_alters_21 hp (by omega) (by omega) ?_
      refine g_callVp (r := (RX12, TX12, 32)) eX12_alters_22 kX12_117 e25 (by rfl) (c_isNear e25 e29 lnr hd bk hb) (by rfl) (by rfl) (by exact Nat.le_of_ble_eq_true rfl) (by exact Nat.le_of_ble_eq_true rfl) (by exact Nat.le_of_ble_eq_true rfl) (Nat.le_refl _) (Nat.le_refl _) ?_
      refine g_istore eX12_alters_25 rfl ?_
      refine g_iload eX12_alters_27 rfl ?_
      refine g_tswIn (off := 95) (tgt := 123) eX12_alters_28 (by decide +kernel) (by decide +kernel) (by decide +kernel) (by decide) ?_
      refine g_iload eX12_alters_123 rfl ?_
      refine g_if_neN eX12_alters_125 (bt_lt _) (fun c125 => ?_) (fun c125 => ?_)
      · have f125 := b_n0 c125
        refine g_push eX12_alters_143 ?_
        refine g_goto eX12_alters_144 ?_
        exact g_ret (eX12_alters_148 _ (by first | exact Or.inl rfl | exact Or.inr rfl)) (Nat.le_refl _) (Nat.le_refl _) (by first | exact (by rw [show altA 4 (nr.getD d 0) hides (shW ws) k = true by unfold altA altB; rw [show hides.testBit (shW ws k) = false from f10]; show (true && ((nr.getD d 0).testBit (ws.getD k 0) || decide (k = 0) || decide (ws.getD k 0 = 7))) = true; rw [f125]; rfl]; exact ⟨rfl, rfl⟩) | exact (by rw [show altA 4 (nr.getD d 0) hides (shW ws) k = true by unfold altA altB; rw [show hides.testBit (shW ws k) = false from f10]; show (true && ((nr.getD d 0).testBit (ws.getD k 0) || decide (k = 0) || decide (ws.getD k 0 = 7))) = true; rw [f125, decide_eq_true c130]; rfl]; exact ⟨rfl, rfl⟩) | exact (by rw [show altA 4 (nr.getD d 0) hides (shW ws) k = true by unfold altA altB; rw [show hides.testBit (shW ws k) = false from f10]; show (true && ((nr.getD d 0).testBit (ws.getD k 0) || decide (k = 0) || decide (ws.getD k 0 = 7))) = true; rw [f125, decide_eq_false c130, decide_eq_true c140]; rfl]; exact ⟨rfl, rfl⟩) | exact (by rw [show altA 4 (nr.getD d 0) hides (shW ws) k = false by unfold altA altB; rw [show hides.testBit (shW ws k) = false from f10]; show (true && ((nr.getD d 0).testBit (ws.getD k 0) || decide (k = 0) || decide (ws.getD k 0 = 7))) = false; rw [f125, decide_eq_false c130, decide_eq_false c140]; rfl]; exact ⟨rfl, rfl⟩))
      · have f125 := b_0 c125
        refine g_iload eX12_alters_128 rfl ?_
        refine g_if_eqN eX12_alters_130 (by omega) (fun c130 => ?_) (fun c130 => ?_)
        · refine g_push eX12_alters_143 ?_
          refine g_goto eX12_alters_144 ?_
          exact g_ret (eX12_alters_148 _ (by first | exact Or.inl rfl | exact Or.inr rfl)) (Nat.le_refl _) (Nat.le_refl _) (by first | exact (by rw [show altA 4 (nr.getD d 0) hides (shW ws) k = true by unfold altA altB; rw [show hides.testBit (shW ws k) = false from f10]; show (true && ((nr.getD d 0).testBit (ws.getD k 0) || decide (k = 0) || decide (ws.getD k 0 = 7))) = true; rw [f125]; rfl]; exact ⟨rfl, rfl⟩) | exact (by rw [show altA 4 (nr.getD d 0) hides (shW ws) k = true by unfold altA altB; rw [show hides.testBit (shW ws k) = false from f10]; show (true && ((nr.getD d 0).testBit (ws.getD k 0) || decide (k = 0) || decide (ws.getD k 0 = 7))) = true; rw [f125, decide_eq_true c130]; rfl]; exact ⟨rfl, rfl⟩) | exact (by rw [show altA 4 (nr.getD d 0) hides (shW ws) k = true by unfold altA altB; rw [show hides.testBit (shW ws k) = false from f10]; show (true && ((nr.getD d 0).testBit (ws.getD k 0) || decide (k = 0) || decide (ws.getD k 0 = 7))) = true; rw [f125, decide_eq_false c130, decide_eq_true c140]; rfl]; exact ⟨rfl, rfl⟩) | exact (by rw [show altA 4 (nr.getD d 0) hides (shW ws) k = false by unfold altA altB; rw [show hides.testBit (shW ws k) = false from f10]; show (true && ((nr.getD d 0).testBit (ws.getD k 0) || decide (k = 0) || decide (ws.getD k 0 = 7))) = false; rw [f125, decide_eq_false c130, decide_eq_false c140]; rfl]; exact ⟨rfl, rfl⟩))
        · refine g_aload eX12_alters_133 rfl ?_
          refine g_iload eX12_alters_135 rfl ?_
          refine g_ialdN eX12_alters_137 hp (by omega) (by omega) ?_
          refine g_push eX12_alters_138 ?_
          refine g_icmp_neN eX12_alters_140 (by omega) (by omega) (fun c140 => ?_) (fun c140 => ?_)
          · refine g_push eX12_alters_147 ?_
            exact g_ret (eX12_alters_148 _ (by first | exact Or.inl rfl | exact Or.inr rfl)) (Nat.le_refl _) (Nat.le_refl _) (by first | exact (by rw [show altA 4 (nr.getD d 0) hides (shW ws) k = true by unfold altA altB; rw [show hides.testBit (shW ws k) = false from f10]; show (true && ((nr.getD d 0).testBit (ws.getD k 0) || decide (k = 0) || decide (ws.getD k 0 = 7))) = true; rw [f125]; rfl]; exact ⟨rfl, rfl⟩) | exact (by rw [show altA 4 (nr.getD d 0) hides (shW ws) k = true by unfold altA altB; rw [show hides.testBit (shW ws k) = false from f10]; show (true && ((nr.getD d 0).testBit (ws.getD k 0) || decide (k = 0) || decide (ws.getD k 0 = 7))) = true; rw [f125, decide_eq_true c130]; rfl]; exact ⟨rfl, rfl⟩) | exact (by rw [show altA 4 (nr.getD d 0) hides (shW ws) k = true by unfold altA altB; rw [show hides.testBit (shW ws k) = false from f10]; show (true && ((nr.getD d 0).testBit (ws.getD k 0) || decide (k = 0) || decide (ws.getD k 0 = 7))) = true; rw [f125, decide_eq_false c130, decide_eq_true c140]; rfl]; exact ⟨rfl, rfl⟩) | exact (by rw [show altA 4 (nr.getD d 0) hides (shW ws) k = false by unfold altA altB; rw [show hides.testBit (shW ws k) = false from f10]; show (true && ((nr.getD d 0).testBit (ws.getD k 0) || decide (k = 0) || decide (ws.getD k 0 = 7))) = false; rw [f125, decide_eq_false c130, decide_eq_false c140]; rfl]; exact ⟨rfl, rfl⟩))
          · refine g_push eX12_alters_143 ?_
            refine g_goto eX12_alters_144 ?_
            exact g_ret (eX12_alters_148 _ (by first | exact Or.inl rfl | exact Or.inr rfl)) (Nat.le_refl _) (Nat.le_refl _) (by first | exact (by rw [show altA 4 (nr.getD d 0) hides (shW ws) k = true by unfold altA altB; rw [show hides.testBit (shW ws k) = false from f10]; show (true && ((nr.getD d 0).testBit (ws.getD k 0) || decide (k = 0) || decide (ws.getD k 0 = 7))) = true; rw [f125]; rfl]; exact ⟨rfl, rfl⟩) | exact (by rw [show altA 4 (nr.getD d 0) hides (shW ws) k = true by unfold altA altB; rw [show hides.testBit (shW ws k) = false from f10]; show (true && ((nr.getD d 0).testBit (ws.getD k 0) || decide (k = 0) || decide (ws.getD k 0 = 7))) = true; rw [f125, decide_eq_true c130]; rfl]; exact ⟨rfl, rfl⟩) | exact (by rw [show altA 4 (nr.getD d 0) hides (shW ws) k = true by unfold altA altB; rw [show hides.testBit (shW ws k) = false from f10]; show (true && ((nr.getD d 0).testBit (ws.getD k 0) || decide (k = 0) || decide (ws.getD k 0 = 7))) = true; rw [f125, decide_eq_false c130, decide_eq_true c140]; rfl]; exact ⟨rfl, rfl⟩) | exact (by rw [show altA 4 (nr.getD d 0) hides (shW ws) k = false by unfold altA altB; rw [show hides.testBit (shW ws k) = false from f10]; show (true && ((nr.getD d 0).testBit (ws.getD k 0) || decide (k = 0) || decide (ws.getD k 0 = 7))) = false; rw [f125, decide_eq_false c130, decide_eq_false c140]; rfl]; exact ⟨rfl, rfl⟩))
    · have f10 := b_1 c10
      refine g_push eX12_alters_13 ?_
      exact g_ret (eX12_alters_14 _ (by first | exact Or.inl rfl | exact Or.inr rfl)) (Nat.le_refl _) (Nat.le_refl _) ⟨by rw [show altA 4 (nr.getD d 0) hides (shW ws) k = false by unfold altA; rw [show hides.testBit (shW ws k) = true from f10]; rfl]; rfl, rfl⟩
set_option maxRecDepth 20000 in
theorem c_altersOn {σ : aH} {pn lm wd ch ct ac br hm : Nat} {x2 x3 x4 sd kc kl ka kg kd : Int32} {ha : Int64} (e25 : σ[25]? = some (mob pn x2 x3 x4 lm wd ch ct ac br hm sd kc kl ka kg kd ha)) {nr : List Nat} (e29 : σ[29]? = some (aA nr)) (lnr : nr.length = 5) {ws : List Nat} {p : Nat} (hp : σ[p]? = some (aA ws)) (hl : ws.length ≤ 10) {kind d hides many : Nat} (hkd : kind ≤ 4) (hd : d < 5) (hb : nr.getD d 0 < 256) (hh : hides < 2147483648) (hm : many ≤ ws.length) (hw : ∀ j, j < many → ws.getD j 0 < 8) : MX12_altersOn 2 0 0 [.ref 25, .int (nI kind), .int (nI d), .int (nI hides), .ref p, .int (nI many)] σ (aPu (some (.int (nI (msk (altA kind (nr.getD d 0) hides (shW ws)) many)))) σ) := by
  refine sX12_altersOn (Nat.le_of_ble_eq_true rfl) ?_
  have key : ∀ e j, j + e = many → GX12_altersOn 2 0 0 (aPu (some (.int (nI (msk (altA kind (nr.getD d 0) hides (shW ws)) many)))) σ) 0 0 6 [some (.ref 25), some (.int (nI kind)), some (.int (nI d)), some (.int (nI hides)), some (.ref p), some (.int (nI many)), some (.int (nI (msk (altA kind (nr.getD d 0) hides (shW ws)) j))), some (.int (nI j))] [] σ := by
    intro e
    induction e with
    | zero =>
      intro j hj
      obtain rfl : j = many := by omega
      refine g_iload eX12_altersOn_6 rfl ?_
      refine g_iload eX12_altersOn_8 rfl ?_
      refine g_icmp_geN eX12_altersOn_10 (by omega) (by omega) (fun c10 => ?_) (fun c10 => by exfalso; omega)
      refine g_iload eX12_altersOn_46 rfl ?_
      exact g_ret (eX12_altersOn_48 _) (Nat.le_refl _) (Nat.le_refl _) ⟨rfl, rfl⟩
    | succ e ih =>
      intro j hj
      refine g_iload eX12_altersOn_6 rfl ?_
      refine g_iload eX12_altersOn_8 rfl ?_
      refine g_icmp_geN eX12_altersOn_10 (by omega) (by omega) (fun c10 => by exfalso; omega) (fun c10 => ?_)
      refine g_iload eX12_altersOn_13 rfl ?_
      refine g_aload eX12_altersOn_15 rfl ?_
      refine g_iload eX12_altersOn_16 rfl ?_
      refine g_iload eX12_altersOn_17 rfl ?_
      refine g_iload eX12_altersOn_18 rfl ?_
      refine g_aload eX12_altersOn_19 rfl ?_
      refine g_iload eX12_altersOn_21 rfl ?_
      refine g_callVp (r := (RX12, TX12, 32)) eX12_altersOn_23 kX12_125 e25 (by rfl) (c_alters (k := j) e25 e29 lnr hp hl hkd hd hb hh (by omega) (fun i hi => hw i (by omega))) (by rfl) (by rfl) (by exact Nat.le_of_ble_eq_true rfl) (by exact Nat.le_of_ble_eq_true rfl) (by exact Nat.le_of_ble_eq_true rfl) (Nat.le_refl _) (Nat.le_refl _) ?_
      refine g_if_eqN eX12_altersOn_26 (bt_lt _) (fun c26 => ?_) (fun c26 => ?_)
      · refine g_push eX12_altersOn_36 ?_
        refine g_iorN eX12_altersOn_37 ?_
        refine g_istore eX12_altersOn_38 rfl ?_
        refine g_iincN eX12_altersOn_40 rfl rfl ?_
        refine g_goto eX12_altersOn_43 ?_
        first
          | (rw [msk_t (b_n0 c26)]; exact ih (j + 1) (by omega))
          | (rw [msk_f (b_0 c26)]; exact ih (j + 1) (by omega))
      · refine g_push eX12_altersOn_29 ?_
        refine g_iload eX12_altersOn_30 rfl ?_
        refine g_ishlN eX12_altersOn_32 (by omega) (one_shl _ (by omega)) ?_
        refine g_goto eX12_altersOn_33 ?_
        refine g_iorN eX12_altersOn_37 ?_
        refine g_istore eX12_altersOn_38 rfl ?_
        refine g_iincN eX12_altersOn_40 rfl rfl ?_
        refine g_goto eX12_altersOn_43 ?_
        first
          | (rw [msk_t (b_n0 c26)]; exact ih (j + 1) (by omega))
          | (rw [msk_f (b_0 c26)]; exact ih (j + 1) (by omega))
  refine g_push eX12_altersOn_0 ?_
  refine g_istore eX12_altersOn_1 rfl ?_
  refine g_push eX12_altersOn_3 ?_
  refine g_istore eX12_altersOn_4 rfl ?_
  exact key many 0 (by omega)
set_option maxRecDepth 20000 in
theorem c_altersOf {σ : aH} {t : St} (hI : IM t σ) (hwf : WF t) {i : Nat} (hi : i < (mnO (crO t)).length) : MX12_altersOf 3 0 0 [.ref 25, .int (nI i)] σ (aPu (some (.int (nI (altM t i)))) σ) := by
  refine sX12_altersOf (Nat.le_of_ble_eq_true rfl) ?_
  have hI' := hI
  have hwf' := hwf
  have hSs := hwf.hS
  obtain ⟨pg, rn, rs, nr, sh, rw, ro, he, hs, th, dr, ks, kr, kh, x2, x3, x4, sd, kc, kl, ka, kg, kd, ha, e25, e26, e27, e28, e29, e30, e31, e32, e33, e34, e35, e36, e37, e38, e39, lpg, lrn, lrs, lnr, lro, lhe, lth, ldr, lks, lkr, lkh, hpg, hnr, ⟨lsh, lrw, lhs, hsh, hrw, hhs⟩, hk0, hk1⟩ := hI
  obtain ⟨w1, w2, w3, w4, w5, ⟨w6, w7, w8, w9, w10, w11, w12⟩, w13, w14, w15, w16, w17⟩ := hwf
  have hr := hrw i hi
  have hm := w10 i
  have hb : nr.getD (manO (crO t) i).2.1 0 < 256 := by rw [hnr _ (by omega)]; exact w4 _
  have hst : ∀ k, k < (shO (crO t)).length → sh.getD k 0 < 8 := fun k hk => by rw [hsh k hk]; exact w7 k
  have heq : msk (altA (manO (crO t) i).1 (nr.getD (manO (crO t) i).2.1 0) (manO (crO t) i).2.2 (shW sh)) (shO (crO t)).length = altM t i := by
    rw [hnr _ (by omega)]
    exact manM_congr hsh
  rw [← heq]
  refine g_aload eX12_altersOf_0 rfl ?_
  refine g_aload eX12_altersOf_1 rfl ?_
  refine g_get eX12_altersOf_2 fX12_25_X12 e25 (by rfl) ?_
  refine g_push eX12_altersOf_5 ?_
  refine g_iload eX12_altersOf_6 rfl ?_
  refine g_imulN eX12_altersOf_7 ?_
  refine g_ialdN eX12_altersOf_8 e31 (by omega) (by omega) ?_
  rw [hr.1]
  refine g_aload eX12_altersOf_9 rfl ?_
  refine g_get eX12_altersOf_10 fX12_25_X12 e25 (by rfl) ?_
  refine g_push eX12_altersOf_13 ?_
  refine g_iload eX12_altersOf_14 rfl ?_
  refine g_imulN eX12_altersOf_15 ?_
  refine g_push eX12_altersOf_16 ?_
  refine g_iaddN eX12_altersOf_17 ?_
  refine g_ialdN eX12_altersOf_18 e31 (by omega) (by omega) ?_
  rw [hr.2.1]
  refine g_aload eX12_altersOf_19 rfl ?_
  refine g_get eX12_altersOf_20 fX12_25_X12 e25 (by rfl) ?_
  refine g_push eX12_altersOf_23 ?_
  refine g_iload eX12_altersOf_24 rfl ?_
  refine g_imulN eX12_altersOf_25 ?_
  refine g_push eX12_altersOf_26 ?_
  refine g_iaddN eX12_altersOf_27 ?_
  refine g_ialdN eX12_altersOf_28 e31 (by omega) (by omega) ?_
  rw [hr.2.2]
  refine g_aload eX12_altersOf_29 rfl ?_
  refine g_get eX12_altersOf_30 fX12_22_X12 e25 (by rfl) ?_
  refine g_aload eX12_altersOf_33 rfl ?_
  refine g_get eX12_altersOf_34 fX12_84_X12 e25 (by rfl) ?_
  refine g_callVp (r := (RX12, TX12, 32)) eX12_altersOf_37 kX12_129 e25 (by rfl) (c_altersOn (kind := (manO (crO t) i).1) (d := (manO (crO t) i).2.1) (hides := (manO (crO t) i).2.2) (many := (shO (crO t)).length) e25 e29 lnr e30 (by omega) hm.1 (by omega) hb (by omega) (by omega) hst) (by rfl) (by rfl) (by exact Nat.le_of_ble_eq_true rfl) (by exact Nat.le_of_ble_eq_true rfl) (by exact Nat.le_of_ble_eq_true rfl) (Nat.le_refl _) (Nat.le_refl _) ?_
  exact g_ret (eX12_altersOf_40 _) (Nat.le_refl _) (Nat.le_refl _) ⟨rfl, rfl⟩
set_option maxRecDepth 20000 in
theorem c_hangs {σ : aH} {t : St} (hI : IM t σ) (hwf : WF t) {i : Nat} (hi : i < (mnO (crO t)).length) : MX12_hangs 4 0 0 [.ref 25, .int (nI i)] σ (aPu (some (.int (nI (decide (lmO (crO t) ≤ popc (altM t i))).toNat))) σ) := by
  refine sX12_hangs (Nat.le_of_ble_eq_true rfl) ?_
  have hI' := hI
  have hwf' := hwf
  have hSs := hwf.hS
  obtain ⟨pg, rn, rs, nr, sh, rw, ro, he, hs, th, dr, ks, kr, kh, x2, x3, x4, sd, kc, kl, ka, kg, kd, ha, e25, e26, e27, e28, e29, e30, e31, e32, e33, e34, e35, e36, e37, e38, e39, lpg, lrn, lrs, lnr, lro, lhe, lth, ldr, lks, lkr, lkh, hpg, hnr, ⟨lsh, lrw, lhs, hsh, hrw, hhs⟩, hk0, hk1⟩ := hI
  obtain ⟨w1, w2, w3, w4, w5, ⟨w6, w7, w8, w9, w10, w11, w12⟩, w13, w14, w15, w16, w17⟩ := hwf
  have hlt := manM_lt t i (shW (shO (crO t))) w6
  have hpc := popc_le (altM t i)
  have hpx : popc (altM t i) = popc (manM t i (shW (shO (crO t))) (shO (crO t)).length) := rfl
  refine g_aload eX12_hangs_0 rfl ?_
  refine g_iload eX12_hangs_1 rfl ?_
  refine g_callVp (r := (RX12, TX12, 32)) eX12_hangs_2 kX12_133 e25 (by rfl) (c_altersOf hI' hwf' hi) (by rfl) (by rfl) (by exact Nat.le_of_ble_eq_true rfl) (by exact Nat.le_of_ble_eq_true rfl) (by exact Nat.le_of_ble_eq_true rfl) (Nat.le_refl _) (Nat.le_refl _) ?_
  refine g_callSp eX12_hangs_5 kX12_137 (c_ones (Nat.lt_trans hlt (by decide))) (by rfl) (by rfl) (by exact Nat.le_of_ble_eq_true rfl) (by exact Nat.le_of_ble_eq_true rfl) (by exact Nat.le_of_ble_eq_true rfl) (Nat.le_refl _) (Nat.le_refl _) ?_
  refine g_aload eX12_hangs_8 rfl ?_
  refine g_get eX12_hangs_9 fX12_91_X12 e25 (by rfl) ?_
  refine g_icmp_ltN eX12_hangs_12 (by omega) (by omega) (fun c12 => ?_) (fun c12 => ?_)
  · refine g_push eX12_hangs_19 ?_
    exact g_ret (eX12_hangs_20 _ (by first | exact Or.inl rfl | exact Or.inr rfl)) (Nat.le_refl _) (Nat.le_refl _) ⟨by first | (rw [decide_eq_true (by omega)]; rfl) | (rw [decide_eq_false (by omega)]; rfl), rfl⟩
  · refine g_push eX12_hangs_15 ?_
    refine g_goto eX12_hangs_16 ?_
    exact g_ret (eX12_hangs_20 _ (by first | exact Or.inl rfl | exact Or.inr rfl)) (Nat.le_refl _) (Nat.le_refl _) ⟨by first | (rw [decide_eq_true (by omega)]; rfl) | (rw [decide_eq_false (by omega)]; rfl), rfl⟩
set_option maxRecDepth 20000 in
theorem c_hangMany {σ : aH} {t : St} (hI : IM t σ) (hwf : WF t)  : MX12_hangMany 5 0 0 [.ref 25] σ (aPu (some (.int (nI (hangN t (shW (shO (crO t))) (shO (crO t)).length)))) σ) := by
  refine sX12_hangMany (Nat.le_of_ble_eq_true rfl) ?_
  have hI' := hI
  have hwf' := hwf
  have hSs := hwf.hS
  obtain ⟨pg, rn, rs, nr, sh, rw, ro, he, hs, th, dr, ks, kr, kh, x2, x3, x4, sd, kc, kl, ka, kg, kd, ha, e25, e26, e27, e28, e29, e30, e31, e32, e33, e34, e35, e36, e37, e38, e39, lpg, lrn, lrs, lnr, lro, lhe, lth, ldr, lks, lkr, lkh, hpg, hnr, ⟨lsh, lrw, lhs, hsh, hrw, hhs⟩, hk0, hk1⟩ := hI
  obtain ⟨w1, w2, w3, w4, w5, ⟨w6, w7, w8, w9, w10, w11, w12⟩, w13, w14, w15, w16, w17⟩ := hwf
  have key : ∀ d j, j + d = (mnO (crO t)).length → GX12_hangMany 5 0 0 (aPu (some (.int (nI (hangN t (shW (shO (crO t))) (shO (crO t)).length)))) σ) 0 0 4 [some (.ref 25), some (.int (nI (cnt (hangB t (shW (shO (crO t))) (shO (crO t)).length) j))), some (.int (nI j))] [] σ := by
    intro d
    induction d with
    | zero =>
      intro j hj
      obtain rfl : j = (mnO (crO t)).length := by omega
      refine g_iload eX12_hangMany_4 rfl ?_
      refine g_aload eX12_hangMany_5 rfl ?_
      refine g_get eX12_hangMany_6 fX12_97_X12 e25 (by rfl) ?_
      refine g_icmp_geN eX12_hangMany_9 (by omega) (by omega) (fun c9 => ?_) (fun c9 => by exfalso; omega)
      refine g_iload eX12_hangMany_34 rfl ?_
      exact g_ret (eX12_hangMany_35 _) (Nat.le_refl _) (Nat.le_refl _) ⟨rfl, rfl⟩
    | succ d ih =>
      intro j hj
      have hq : hangB t (shW (shO (crO t))) (shO (crO t)).length j = decide (lmO (crO t) ≤ popc (altM t j)) := rfl
      refine g_iload eX12_hangMany_4 rfl ?_
      refine g_aload eX12_hangMany_5 rfl ?_
      refine g_get eX12_hangMany_6 fX12_97_X12 e25 (by rfl) ?_
      refine g_icmp_geN eX12_hangMany_9 (by omega) (by omega) (fun c9 => by exfalso; omega) (fun c9 => ?_)
      refine g_iload eX12_hangMany_12 rfl ?_
      refine g_aload eX12_hangMany_13 rfl ?_
      refine g_iload eX12_hangMany_14 rfl ?_
      refine g_callVp (r := (RX12, TX12, 32)) eX12_hangMany_15 kX12_140 e25 (by rfl) (c_hangs hI' hwf' (i := j) (by omega)) (by rfl) (by rfl) (by exact Nat.le_of_ble_eq_true rfl) (by exact Nat.le_of_ble_eq_true rfl) (by exact Nat.le_of_ble_eq_true rfl) (Nat.le_refl _) (Nat.le_refl _) ?_
      refine g_if_eqN eX12_hangMany_18 (bt_lt _) (fun c18 => ?_) (fun c18 => ?_)
      · refine g_push eX12_hangMany_25 ?_
        refine g_iaddN eX12_hangMany_26 ?_
        refine g_istore eX12_hangMany_27 rfl ?_
        refine g_iincN eX12_hangMany_28 rfl rfl ?_
        refine g_goto eX12_hangMany_31 ?_
        have := ih (j + 1) (by omega)
        rw [show cnt (hangB t (shW (shO (crO t))) (shO (crO t)).length) (j + 1) = cnt (hangB t (shW (shO (crO t))) (shO (crO t)).length) j + (hangB t (shW (shO (crO t))) (shO (crO t)).length j).toNat from rfl, hq] at this
        first
          | (rw [b_n0 c18] at this; exact this)
          | (rw [b_0 c18] at this; exact this)
      · refine g_push eX12_hangMany_21 ?_
        refine g_goto eX12_hangMany_22 ?_
        refine g_iaddN eX12_hangMany_26 ?_
        refine g_istore eX12_hangMany_27 rfl ?_
        refine g_iincN eX12_hangMany_28 rfl rfl ?_
        refine g_goto eX12_hangMany_31 ?_
        have := ih (j + 1) (by omega)
        rw [show cnt (hangB t (shW (shO (crO t))) (shO (crO t)).length) (j + 1) = cnt (hangB t (shW (shO (crO t))) (shO (crO t)).length) j + (hangB t (shW (shO (crO t))) (shO (crO t)).length j).toNat from rfl, hq] at this
        first
          | (rw [b_n0 c18] at this; exact this)
          | (rw [b_0 c18] at this; exact this)
  refine g_push eX12_hangMany_0 ?_
  refine g_istore eX12_hangMany_1 rfl ?_
  refine g_push eX12_hangMany_2 ?_
  refine g_istore eX12_hangMany_3 rfl ?_
  exact key (mnO (crO t)).length 0 (by omega)
set_option maxRecDepth 20000 in
theorem c_unlike {σ : aH} {t : St} (hI : IM t σ) (hwf : WF t)  : MX12_unlike 1 0 0 [.ref 25] σ (aPu (some (.int (nI (popc (orW (shW (shO (crO t))) (shO (crO t)).length))))) σ) := by
  refine sX12_unlike (Nat.le_of_ble_eq_true rfl) ?_
  have hI' := hI
  have hwf' := hwf
  have hSs := hwf.hS
  obtain ⟨pg, rn, rs, nr, sh, rw, ro, he, hs, th, dr, ks, kr, kh, x2, x3, x4, sd, kc, kl, ka, kg, kd, ha, e25, e26, e27, e28, e29, e30, e31, e32, e33, e34, e35, e36, e37, e38, e39, lpg, lrn, lrs, lnr, lro, lhe, lth, ldr, lks, lkr, lkh, hpg, hnr, ⟨lsh, lrw, lhs, hsh, hrw, hhs⟩, hk0, hk1⟩ := hI
  obtain ⟨w1, w2, w3, w4, w5, ⟨w6, w7, w8, w9, w10, w11, w12⟩, w13, w14, w15, w16, w17⟩ := hwf
  have hlt := orW_lt (shW (shO (crO t))) (shO (crO t)).length (fun k _ => w7 k)
  have key : ∀ d j, j + d = (shO (crO t)).length → GX12_unlike 1 0 0 (aPu (some (.int (nI (popc (orW (shW (shO (crO t))) (shO (crO t)).length))))) σ) 0 0 4 [some (.ref 25), some (.int (nI (orW (shW (shO (crO t))) j))), some (.int (nI j))] [] σ := by
    intro d
    induction d with
    | zero =>
      intro j hj
      obtain rfl : j = (shO (crO t)).length := by omega
      refine g_iload eX12_unlike_4 rfl ?_
      refine g_aload eX12_unlike_5 rfl ?_
      refine g_get eX12_unlike_6 fX12_84_X12 e25 (by rfl) ?_
      refine g_icmp_geN eX12_unlike_9 (by omega) (by omega) (fun c9 => ?_) (fun c9 => by exfalso; omega)
      refine g_iload eX12_unlike_29 rfl ?_
      refine g_callSp eX12_unlike_30 kX12_137 (c_ones (Nat.lt_trans hlt (by decide))) (by rfl) (by rfl) (by exact Nat.le_of_ble_eq_true rfl) (by exact Nat.le_of_ble_eq_true rfl) (by exact Nat.le_of_ble_eq_true rfl) (Nat.le_refl _) (Nat.le_refl _) ?_
      exact g_ret (eX12_unlike_33 _) (Nat.le_refl _) (Nat.le_refl _) ⟨rfl, rfl⟩
    | succ d ih =>
      intro j hj
      have hb := w7 j
      refine g_iload eX12_unlike_4 rfl ?_
      refine g_aload eX12_unlike_5 rfl ?_
      refine g_get eX12_unlike_6 fX12_84_X12 e25 (by rfl) ?_
      refine g_icmp_geN eX12_unlike_9 (by omega) (by omega) (fun c9 => by exfalso; omega) (fun c9 => ?_)
      refine g_iload eX12_unlike_12 rfl ?_
      refine g_push eX12_unlike_13 ?_
      refine g_aload eX12_unlike_14 rfl ?_
      refine g_get eX12_unlike_15 fX12_22_X12 e25 (by rfl) ?_
      refine g_iload eX12_unlike_18 rfl ?_
      refine g_ialdN eX12_unlike_19 e30 (by omega) (by omega) ?_
      rw [hsh j (by omega)]
      refine g_ishlN eX12_unlike_20 (by omega) (one_shl _ (by omega)) ?_
      refine g_iorN eX12_unlike_21 ?_
      refine g_istore eX12_unlike_22 rfl ?_
      refine g_iincN eX12_unlike_23 rfl rfl ?_
      refine g_goto eX12_unlike_26 ?_
      rw [Nat.one_mul]
      exact ih (j + 1) (by omega)
  refine g_push eX12_unlike_0 ?_
  refine g_istore eX12_unlike_1 rfl ?_
  refine g_push eX12_unlike_2 ?_
  refine g_istore eX12_unlike_3 rfl ?_
  exact key (shO (crO t)).length 0 (by omega)
