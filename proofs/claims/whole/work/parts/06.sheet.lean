
/-! pure words: masks, counts -/
def msk (f : Nat → Bool) : Nat → Nat
  | 0 => 0
  | n + 1 => msk f n ||| ((f n).toNat * 2 ^ n)
theorem nbit (w x : Nat) : w / 2 ^ x &&& 1 = (w.testBit x).toNat := by
  rw [Nat.and_one_is_mod, Nat.testBit_eq_decide_div_mod_eq]
  rcases Nat.mod_two_eq_zero_or_one (w / 2 ^ x) with h | h <;> simp [h]
theorem tb_bit (b : Bool) (n i : Nat) : (b.toNat * 2 ^ n).testBit i = (decide (i = n) && b) := by
  cases b
  · simp
  · simp only [Bool.toNat_true, Nat.one_mul, Nat.testBit_two_pow, Bool.and_true]
    rw [decide_eq_decide]
    exact eq_comm
theorem msk_tb (f : Nat → Bool) : ∀ n i, (msk f n).testBit i = (decide (i < n) && f i)
  | 0, i => by simp [msk]
  | n + 1, i => by
    rw [msk, Nat.testBit_or, msk_tb f n i, tb_bit]
    by_cases h : i = n
    · subst h
      simp
    · by_cases h2 : i < n
      · simp [h, h2, Nat.lt_succ_of_lt h2]
      · simp [h, h2, show ¬ i < n + 1 by omega]
theorem msk_lt (f : Nat → Bool) : ∀ n, msk f n < 2 ^ n
  | 0 => by simp [msk]
  | n + 1 => by
    rw [msk]
    refine Nat.or_lt_two_pow (Nat.lt_of_lt_of_le (msk_lt f n) (Nat.pow_le_pow_right (by omega) (by omega))) ?_
    have : (f n).toNat ≤ 1 := by cases f n <;> simp
    calc (f n).toNat * 2 ^ n ≤ 1 * 2 ^ n := Nat.mul_le_mul_right _ this
      _ < 2 ^ (n + 1) := by rw [Nat.pow_succ]; have := Nat.two_pow_pos n; omega
theorem msk_congr {f g : Nat → Bool} : ∀ {n}, (∀ i, i < n → f i = g i) → msk f n = msk g n
  | 0, _ => rfl
  | n + 1, h => by rw [msk, msk, msk_congr (fun i hi => h i (by omega)), h n (by omega)]
theorem msk_ext {f : Nat → Bool} {n m : Nat} (hm : m < 2 ^ n) (h : ∀ i, i < n → m.testBit i = f i) : m = msk f n := by
  apply Nat.eq_of_testBit_eq
  intro i
  rw [msk_tb]
  by_cases hi : i < n
  · simp [hi, h i hi]
  · simp [hi, Nat.testBit_lt_two_pow (Nat.lt_of_lt_of_le hm (Nat.pow_le_pow_right (by omega) (by omega : n ≤ i)))]
theorem bit_shl (v i : Nat) (hi : i < 32) : (v &&& 1) * 2 ^ i < 4294967296 := by
  rw [Nat.and_one_is_mod]
  have h1 : v % 2 ≤ 1 := by omega
  have h2 : 2 ^ i ≤ 2 ^ 31 := Nat.pow_le_pow_right (by omega) (by omega)
  calc v % 2 * 2 ^ i ≤ 1 * 2 ^ 31 := Nat.mul_le_mul h1 h2
    _ < 4294967296 := by decide
theorem one_shl (i : Nat) (hi : i < 32) : 1 * 2 ^ i < 4294967296 := by
  have h2 : 2 ^ i ≤ 2 ^ 31 := Nat.pow_le_pow_right (by omega) (by omega)
  omega
def seenB (s : Nat → Nat) : Nat → Nat → Bool
  | 0, _ => false
  | n + 1, x => seenB s n x || s n == x
/-! THE SHEET: reads -/
abbrev shW (ws : List Nat) : Nat → Nat := fun k => ws.getD k 0
set_option maxRecDepth 20000 in
theorem c_size {σ : aH} {a b sz : Nat} (h1 : σ[a]? = some (aO 6 [.ref b, .int (nI sz)])) : MX6_size 0 0 0 [.ref a] σ (aPu (some (.int (nI sz))) σ) := by
  refine sX6_size (Nat.le_of_ble_eq_true rfl) ?_
  refine g_aload eX6_size_0 rfl ?_
  refine g_get eX6_size_1 fX6_15_X6 (by assumption) (by rfl) ?_
  exact g_ret (eX6_size_4 _) (Nat.le_refl _) (Nat.le_refl _) ⟨rfl, rfl⟩
theorem hasT_ {x : Int32} {sz : Nat} (c1 : ¬ x < 0) (c9 : ¬ nI sz ≤ x) (hs : sz ≤ 10) : (∃ j, j < sz ∧ x = nI j ∧ (some (Value.int (nI 1)) = some (Value.int 1))) ∨ ((∀ j, j < sz → x ≠ nI j) ∧ some (Value.int (nI 1)) = some (Value.int 0)) := by
  obtain ⟨j, hj, rfl⟩ := nI_of c1
  refine Or.inl ⟨j, ?_, rfl, rfl⟩
  rw [nI_leI (by omega) hj] at c9
  omega
theorem hasF_ {x : Int32} {sz : Nat} (c : x < 0 ∨ nI sz ≤ x) (hs : sz ≤ 10) : (∃ j, j < sz ∧ x = nI j ∧ (some (Value.int (nI 0)) = some (Value.int 1))) ∨ ((∀ j, j < sz → x ≠ nI j) ∧ some (Value.int (nI 0)) = some (Value.int 0)) := by
  refine Or.inr ⟨fun j hj => ?_, rfl⟩
  rintro rfl
  rcases c with c | c
  · exact nA_lt0 (by omega) c
  · rw [nI_leI (by omega) (by omega)] at c
    omega
set_option maxRecDepth 20000 in
theorem c_has {σ : aH} {a b sz : Nat} {x : Int32} (h1 : σ[a]? = some (aO 6 [.ref b, .int (nI sz)])) (hs : sz ≤ 10) : MX6_has 0 0 0 [.ref a, .int x] σ (fun v σ' => ((∃ j, j < sz ∧ x = nI j ∧ v = some (.int 1)) ∨ ((∀ j, j < sz → x ≠ nI j) ∧ v = some (.int 0))) ∧ σ' = σ) := by
  refine sX6_has (Nat.le_of_ble_eq_true rfl) ?_
  refine g_iload eX6_has_0 rfl ?_
  refine g_if_lt eX6_has_1 (fun c1 => ?_) (fun c1 => ?_)
  · refine g_push eX6_has_16 ?_
    exact g_ret (eX6_has_17 _ (by first | exact Or.inl rfl | exact Or.inr rfl)) (Nat.le_refl _) (Nat.le_refl _) ⟨by first | exact hasT_ c1 c9 hs | exact hasF_ (by first | exact Or.inl c1 | exact Or.inr c9) hs, rfl⟩
  · refine g_iload eX6_has_4 rfl ?_
    refine g_aload eX6_has_5 rfl ?_
    refine g_get eX6_has_6 fX6_15_X6 (by assumption) (by rfl) ?_
    refine g_icmp_ge eX6_has_9 (fun c9 => ?_) (fun c9 => ?_)
    · refine g_push eX6_has_16 ?_
      exact g_ret (eX6_has_17 _ (by first | exact Or.inl rfl | exact Or.inr rfl)) (Nat.le_refl _) (Nat.le_refl _) ⟨by first | exact hasT_ c1 c9 hs | exact hasF_ (by first | exact Or.inl c1 | exact Or.inr c9) hs, rfl⟩
    · refine g_push eX6_has_12 ?_
      refine g_goto eX6_has_13 ?_
      exact g_ret (eX6_has_17 _ (by first | exact Or.inl rfl | exact Or.inr rfl)) (Nat.le_refl _) (Nat.le_refl _) ⟨by first | exact hasT_ c1 c9 hs | exact hasF_ (by first | exact Or.inl c1 | exact Or.inr c9) hs, rfl⟩
set_option maxRecDepth 20000 in
theorem c_placesOf {σ : aH} {a b sz : Nat} {ws : List Nat} (h1 : σ[a]? = some (aO 6 [.ref b, .int (nI sz)])) (h2 : σ[b]? = some (aA ws)) (hl : ws.length = 10) (hs : sz ≤ 10) (hw : ∀ k, k < sz → ws.getD k 0 < 8) {w : Nat} (hw2 : w < 2147483648) : MX6_placesOf 0 0 0 [.ref a, .int (nI w)] σ (aPu (some (.int (nI (msk (fun k => w.testBit (ws.getD k 0)) sz)))) σ) := by
  refine sX6_placesOf (Nat.le_of_ble_eq_true rfl) ?_
  have key : ∀ d i, i + d = sz → GX6_placesOf 0 0 0 (aPu (some (.int (nI (msk (fun k => w.testBit (ws.getD k 0)) sz)))) σ) 0 0 4 [some (.ref a), some (.int (nI w)), some (.int (nI (msk (fun k => w.testBit (ws.getD k 0)) i))), some (.int (nI i))] [] σ := by
    intro d
    induction d with
    | zero =>
      intro i hi
      obtain rfl : i = sz := by omega
      refine g_iload eX6_placesOf_4 rfl ?_
      refine g_aload eX6_placesOf_5 rfl ?_
      refine g_get eX6_placesOf_6 fX6_15_X6 (by assumption) (by rfl) ?_
      refine g_icmp_geN eX6_placesOf_9 (by omega) (by omega) (fun c9 => ?_) (fun c9 => by exfalso; omega)
      refine g_iload eX6_placesOf_33 rfl ?_
      exact g_ret (eX6_placesOf_34 _) (Nat.le_refl _) (Nat.le_refl _) ⟨rfl, rfl⟩
    | succ d ih =>
      intro i hi
      have hb := hw i (by omega)
      refine g_iload eX6_placesOf_4 rfl ?_
      refine g_aload eX6_placesOf_5 rfl ?_
      refine g_get eX6_placesOf_6 fX6_15_X6 (by assumption) (by rfl) ?_
      refine g_icmp_geN eX6_placesOf_9 (by omega) (by omega) (fun c9 => by exfalso; omega) (fun c9 => ?_)
      refine g_iload eX6_placesOf_12 rfl ?_
      refine g_iload eX6_placesOf_13 rfl ?_
      refine g_aload eX6_placesOf_14 rfl ?_
      refine g_get eX6_placesOf_15 fX6_9_X6 (by assumption) (by rfl) ?_
      refine g_iload eX6_placesOf_18 rfl ?_
      refine g_ialdN eX6_placesOf_19 (by assumption) (by omega) (by omega) ?_
      refine g_ishrN eX6_placesOf_20 (by omega) (by omega) ?_
      refine g_push eX6_placesOf_21 ?_
      refine g_iandN eX6_placesOf_22 ?_
      refine g_iload eX6_placesOf_23 rfl ?_
      refine g_ishlN eX6_placesOf_24 (by omega) (bit_shl _ _ (by omega)) ?_
      refine g_iorN eX6_placesOf_25 ?_
      refine g_istore eX6_placesOf_26 rfl ?_
      refine g_iincN eX6_placesOf_27 rfl rfl ?_
      refine g_goto eX6_placesOf_30 ?_
      rw [nbit]
      exact ih (i + 1) (by omega)
  refine g_push eX6_placesOf_0 ?_
  refine g_istore eX6_placesOf_1 rfl ?_
  refine g_push eX6_placesOf_2 ?_
  refine g_istore eX6_placesOf_3 rfl ?_
  exact key sz 0 (by omega)
