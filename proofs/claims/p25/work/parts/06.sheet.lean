
/-! pure words: masks, counts -/
def msk (f : Nat → Bool) : Nat → Nat
  | 0 => 0
  | n + 1 => msk f n ||| ((f n).toNat * 2 ^ n)
theorem nbit (w x : Nat) : w / 2 ^ x &&& 1 = (w.testBit x).toNat := by
  rw [Nat.and_one_is_mod, Nat.testBit_eq_decide_div_mod_eq]
  rcases Nat.mod_two_eq_zero_or_one (w / 2 ^ x) with h | h <;> simp [h]
theorem tb_bit (b : Bool) (n i : Nat) : (b.toNat * 2 ^ n).testBit i = (decide (i = n) && b) := by
  cases b
  · simp
  · simp only [Bool.toNat_true, Nat.one_mul, Nat.testBit_two_pow, Bool.and_true]
    rw [decide_eq_decide]
    exact eq_comm
theorem msk_tb (f : Nat → Bool) : ∀ n i, (msk f n).testBit i = (decide (i < n) && f i)
  | 0, i => by simp [msk]
  | n + 1, i => by
    rw [msk, Nat.testBit_or, msk_tb f n i, tb_bit]
    by_cases h : i = n
    · subst h
      simp
    · by_cases h2 : i < n
      · simp [h, h2, Nat.lt_succ_of_lt h2]
      · simp [h, h2, show ¬ i < n + 1 by omega]
theorem msk_lt (f : Nat → Bool) : ∀ n, msk f n < 2 ^ n
  | 0 => by simp [msk]
  | n + 1 => by
    rw [msk]
    refine Nat.or_lt_two_pow (Nat.lt_of_lt_of_le (msk_lt f n) (Nat.pow_le_pow_right (by omega) (by omega))) ?_
    have : (f n).toNat ≤ 1 := by cases f n <;> simp
    calc (f n).toNat * 2 ^ n ≤ 1 * 2 ^ n := Nat.mul_le_mul_right _ this
      _ < 2 ^ (n + 1) := by rw [Nat.pow_succ]; have := Nat.two_pow_pos n; omega
theorem msk_congr {f g : Nat → Bool} : ∀ {n}, (∀ i, i < n → f i = g i) → msk f n = msk g n
  | 0, _ => rfl
  | n + 1, h => by rw [msk, msk, msk_congr (fun i hi => h i (by omega)), h n (by omega)]
theorem msk_ext {f : Nat → Bool} {n m : Nat} (hm : m < 2 ^ n) (h : ∀ i, i < n → m.testBit i = f i) : m = msk f n := by
  apply Nat.eq_of_testBit_eq
  intro i
  rw [msk_tb]
  by_cases hi : i < n
  · simp [hi, h i hi]
  · simp [hi, Nat.testBit_lt_two_pow (Nat.lt_of_lt_of_le hm (Nat.pow_le_pow_right (by omega) (by omega : n ≤ i)))]
theorem bit_shl (v i : Nat) (hi : i < 32) : (v &&& 1) * 2 ^ i < 4294967296 := by
  rw [Nat.and_one_is_mod]
  have h1 : v % 2 ≤ 1 := by omega
  have h2 : 2 ^ i ≤ 2 ^ 31 := Nat.pow_le_pow_right (by omega) (by omega)
  calc v % 2 * 2 ^ i ≤ 1 * 2 ^ 31 := Nat.mul_le_mul h1 h2
    _ < 4294967296 := by decide
theorem one_shl (i : Nat) (hi : i < 32) : 1 * 2 ^ i < 4294967296 := by
  have h2 : 2 ^ i ≤ 2 ^ 31 := Nat.pow_le_pow_right (by omega) (by omega)
  omega
def seenB (s : Nat → Nat) : Nat → Nat → Bool
  | 0, _ => false
  | n + 1, x => seenB s n x || s n == x
/-! THE SHEET: reads -/
abbrev shW (ws : List Nat) : Nat → Nat := fun k => ws.getD k 0
set_option maxRecDepth 20000 in
theorem c_size {σ : aH} {a b sz : Nat} (h1 : σ[a]? = some (aO 6 [.ref b, .int (nI sz)])) : MX6_size 0 0 0 [.ref a] σ (aPu (some (.int (nI sz))) σ) := by
  refine sX6_size (Nat.le_of_ble_eq_true rfl) ?_
  refine g_aload eX6_size_0 rfl ?_
  refine g_get eX6_size_1 fX6_15_X6 (by assumption) (by rfl) ?_
  exact g_ret (eX6_size_4 _) (Nat.le_refl _) (Nat.le_refl _) ⟨rfl, rfl⟩
theorem hasT_ {x : Int32} {sz : Nat} (c1 : ¬ x < 0) (c9 : ¬ nI sz ≤ x) (hs : sz ≤ 10) : (∃ j, j < sz ∧ x = nI j ∧ (some (Value.int (nI 1)) = some (Value.int 1))) ∨ ((∀ j, j < sz → x ≠ nI j) ∧ some (Value.int (nI 1)) = some (Value.int 0)) := by
  obtain ⟨j, hj, rfl⟩ := nI_of c1
  refine Or.inl ⟨j, ?_, rfl, rfl⟩
  rw [nI_leI (by omega) hj] at c9
  omega
theorem hasF_ {x : Int32} {sz : Nat} (c : x < 0 ∨ nI sz ≤ x) (hs : sz ≤ 10) : (∃ j, j < sz ∧ x = nI j ∧ (some (Value.int (nI 0)) = some (Value.int 1))) ∨ ((∀ j, j < sz → x ≠ nI j) ∧ some (Value.int (nI 0)) = some (Value.int 0)) := by
  refine Or.inr ⟨fun j hj => ?_, rfl⟩
  rintro rfl
  rcases c with c | c
  · exact nA_lt0 (by omega) c
  · rw [nI_leI (by omega) (by omega)] at c
    omega
set_option maxRecDepth 20000 in
theorem c_has {σ : aH} {a b sz : Nat} {x : Int32} (h1 : σ[a]? = some (aO 6 [.ref b, .int (nI sz)])) (hs : sz ≤ 10) : MX6_has 0 0 0 [.ref a, .int x] σ (fun v σ' => ((∃ j, j < sz ∧ x = nI j ∧ v = some (.int 1)) ∨ ((∀ j, j < sz → x ≠ nI j) ∧ v = some (.int 0))) ∧ σ' = σ) := by
  refine sX6_has (Nat.le_of_ble_eq_true rfl) ?_
  refine g_iload eX6_has_0 rfl ?_
  refine g_if_lt eX6_has_1 (fun c1 => ?_) (fun c1 => ?_)
  · refine g_push eX6_has_16 ?_
    exact g_ret (eX6_has_17 _ (by first | exact Or.inl rfl | exact Or.inr rfl)) (Nat.le_refl _) (Nat.le_refl _) ⟨by first | exact hasT_ c1 c9 hs | exact hasF_ (by first | exact Or.inl c1 | exact Or.inr c9) hs, rfl⟩
  · refine g_iload eX6_has_4 rfl ?_
    refine g_aload eX6_has_5 rfl ?_
    refine g_get eX6_has_6 fX6_15_X6 (by assumption) (by rfl) ?_
    refine g_icmp_ge eX6_has_9 (fun c9 => ?_) (fun c9 => ?_)
    · refine g_push eX6_has_16 ?_
      exact g_ret (eX6_has_17 _ (by first | exact Or.inl rfl | exact Or.inr rfl)) (Nat.le_refl _) (Nat.le_refl _) ⟨by first | exact hasT_ c1 c9 hs | exact hasF_ (by first | exact Or.inl c1 | exact Or.inr c9) hs, rfl⟩
    · refine g_push eX6_has_12 ?_
      refine g_goto eX6_has_13 ?_
      exact g_ret (eX6_has_17 _ (by first | exact Or.inl rfl | exact Or.inr rfl)) (Nat.le_refl _) (Nat.le_refl _) ⟨by first | exact hasT_ c1 c9 hs | exact hasF_ (by first | exact Or.inl c1 | exact Or.inr c9) hs, rfl⟩
set_option maxRecDepth 20000 in
theorem c_placesOf {σ : aH} {a b sz : Nat} {ws : List Nat} (h1 : σ[a]? = some (aO 6 [.ref b, .int (nI sz)])) (h2 : σ[b]? = some (aA ws)) (hl : ws.length = 10) (hs : sz ≤ 10) (hw : ∀ k, k < sz → ws.getD k 0 < 8) {w : Nat} (hw2 : w < 2147483648) : MX6_placesOf 0 0 0 [.ref a, .int (nI w)] σ (aPu (some (.int (nI (msk (fun k => w.testBit (ws.getD k 0)) sz)))) σ) := by
  refine sX6_placesOf (Nat.le_of_ble_eq_true rfl) ?_
  have key : ∀ d i, i + d = sz → GX6_placesOf 0 0 0 (aPu (some (.int (nI (msk (fun k => w.testBit (ws.getD k 0)) sz)))) σ) 0 0 4 [some (.ref a), some (.int (nI w)), some (.int (nI (msk (fun k => w.testBit (ws.getD k 0)) i))), some (.int (nI i))] [] σ := by
    intro d
    induction d with
    | zero =>
      intro i hi
      obtain rfl : i = sz := by omega
      refine g_iload eX6_placesOf_4 rfl ?_
      refine g_aload eX6_placesOf_5 rfl ?_
      refine g_get eX6_placesOf_6 fX6_15_X6 (by assumption) (by rfl) ?_
      refine g_icmp_geN eX6_placesOf_9 (by omega) (by omega) (fun c9 => ?_) (fun c9 => by exfalso; omega)
      refine g_iload eX6_placesOf_33 rfl ?_
      exact g_ret (eX6_placesOf_34 _) (Nat.le_refl _) (Nat.le_refl _) ⟨rfl, rfl⟩
    | succ d ih =>
      intro i hi
      have hb := hw i (by omega)
      refine g_iload eX6_placesOf_4 rfl ?_
      refine g_aload eX6_placesOf_5 rfl ?_
      refine g_get eX6_placesOf_6 fX6_15_X6 (by assumption) (by rfl) ?_
      refine g_icmp_geN eX6_placesOf_9 (by omega) (by omega) (fun c9 => by exfalso; omega) (fun c9 => ?_)
      refine g_iload eX6_placesOf_12 rfl ?_
      refine g_iload eX6_placesOf_13 rfl ?_
      refine g_aload eX6_placesOf_14 rfl ?_
      refine g_get eX6_placesOf_15 fX6_9_X6 (by assumption) (by rfl) ?_
      refine g_iload eX6_placesOf_18 rfl ?_
      refine g_ialdN eX6_placesOf_19 (by assumption) (by omega) (by omega) ?_
      refine g_ishrN eX6_placesOf_20 (by omega) (by omega) ?_
      refine g_push eX6_placesOf_21 ?_
      refine g_iandN eX6_placesOf_22 ?_
      refine g_iload eX6_placesOf_23 rfl ?_
      refine g_ishlN eX6_placesOf_24 (by omega) (bit_shl _ _ (by omega)) ?_
      refine g_iorN eX6_placesOf_25 ?_
      refine g_istore eX6_placesOf_26 rfl ?_
      refine g_iincN eX6_placesOf_27 rfl rfl ?_
      refine g_goto eX6_placesOf_30 ?_
      rw [nbit]
      exact ih (i + 1) (by omega)
  refine g_push eX6_placesOf_0 ?_
  refine g_istore eX6_placesOf_1 rfl ?_
  refine g_push eX6_placesOf_2 ?_
  refine g_istore eX6_placesOf_3 rfl ?_
  exact key sz 0 (by omega)
def cnt (f : Nat → Bool) : Nat → Nat
  | 0 => 0
  | n + 1 => cnt f n + (f n).toNat
def popc (m : Nat) : Nat := cnt (fun i => m.testBit i) 10
theorem cnt_le (f : Nat → Bool) : ∀ n, cnt f n ≤ n
  | 0 => Nat.le_refl _
  | n + 1 => by
    have h1 := cnt_le f n
    have h2 : (f n).toNat ≤ 1 := by cases f n <;> simp
    show cnt f n + (f n).toNat ≤ n + 1
    omega
theorem cnt_congr {f g : Nat → Bool} : ∀ {n}, (∀ i, i < n → f i = g i) → cnt f n = cnt g n
  | 0, _ => rfl
  | n + 1, h => by
    show cnt f n + (f n).toNat = cnt g n + (g n).toNat
    rw [cnt_congr (fun i hi => h i (by omega)), h n (by omega)]
theorem cnt_tail {f : Nat → Bool} {n : Nat} : ∀ m, n ≤ m → (∀ i, n ≤ i → i < m → f i = false) → cnt f m = cnt f n
  | 0, h, _ => by
    obtain rfl : n = 0 := by omega
    rfl
  | m + 1, h, hf => by
    by_cases hm : n = m + 1
    · rw [hm]
    · show cnt f m + (f m).toNat = _
      rw [cnt_tail m (by omega) (fun i h1 h2 => hf i h1 (by omega)), hf m (by omega) (by omega)]
      rfl
theorem popc_msk {f : Nat → Bool} {n : Nat} (hn : n ≤ 10) : popc (msk f n) = cnt f n := by
  unfold popc
  rw [cnt_tail 10 hn (fun i h1 h2 => by rw [msk_tb]; simp [show ¬ i < n by omega])]
  exact cnt_congr (fun i hi => by rw [msk_tb]; simp [hi])
theorem popc_le (m : Nat) : popc m ≤ 10 := cnt_le _ 10
set_option maxRecDepth 20000 in
theorem bc_all : (List.range 1024).all (fun m => decide (((fun x9 => (fun x23 => (fun x33 => (fun x40 => (fun x47 => (x47 &&& nI 63)) ((x40 + ((x40).toUInt32 >>> ((nI 16).toUInt32 &&& Int32.toUInt32 31)).toInt32))) ((x33 + ((x33).toUInt32 >>> ((nI 8).toUInt32 &&& Int32.toUInt32 31)).toInt32))) (((x23 + ((x23).toUInt32 >>> ((nI 4).toUInt32 &&& Int32.toUInt32 31)).toInt32) &&& (252645135 : Int32)))) (((x9 &&& (858993459 : Int32)) + (((x9).toUInt32 >>> ((nI 2).toUInt32 &&& Int32.toUInt32 31)).toInt32 &&& (858993459 : Int32))))) ((nI m - (((nI m).toUInt32 >>> ((nI 1).toUInt32 &&& Int32.toUInt32 31)).toInt32 &&& (1431655765 : Int32)))) : Int32) = nI (popc m))) = true := by decide +kernel
set_option maxRecDepth 20000 in
theorem c_bitCount {σ : aH} {m : Nat} (hm : m < 1024) : MJ6_bitCount_0f7a4 0 0 0 [.int (nI m)] σ (aPu (some (.int (nI (popc m)))) σ) := by
  refine sJ6_bitCount_0f7a4 (Nat.le_of_ble_eq_true rfl) ?_
  refine g_iload eJ6_bitCount_0f7a4_0 rfl ?_
  refine g_iload eJ6_bitCount_0f7a4_1 rfl ?_
  refine g_push eJ6_bitCount_0f7a4_2 ?_
  refine g_iushr eJ6_bitCount_0f7a4_3 ?_
  refine g_ldc eJ6_bitCount_0f7a4_4 lJ6_265 ?_
  refine g_iand eJ6_bitCount_0f7a4_7 ?_
  refine g_isub eJ6_bitCount_0f7a4_8 ?_
  refine g_istore eJ6_bitCount_0f7a4_9 rfl ?_
  refine g_iload eJ6_bitCount_0f7a4_10 rfl ?_
  refine g_ldc eJ6_bitCount_0f7a4_11 lJ6_266 ?_
  refine g_iand eJ6_bitCount_0f7a4_14 ?_
  refine g_iload eJ6_bitCount_0f7a4_15 rfl ?_
  refine g_push eJ6_bitCount_0f7a4_16 ?_
  refine g_iushr eJ6_bitCount_0f7a4_17 ?_
  refine g_ldc eJ6_bitCount_0f7a4_18 lJ6_266 ?_
  refine g_iand eJ6_bitCount_0f7a4_21 ?_
  refine g_iadd eJ6_bitCount_0f7a4_22 ?_
  refine g_istore eJ6_bitCount_0f7a4_23 rfl ?_
  refine g_iload eJ6_bitCount_0f7a4_24 rfl ?_
  refine g_iload eJ6_bitCount_0f7a4_25 rfl ?_
  refine g_push eJ6_bitCount_0f7a4_26 ?_
  refine g_iushr eJ6_bitCount_0f7a4_27 ?_
  refine g_iadd eJ6_bitCount_0f7a4_28 ?_
  refine g_ldc eJ6_bitCount_0f7a4_29 lJ6_267 ?_
  refine g_iand eJ6_bitCount_0f7a4_32 ?_
  refine g_istore eJ6_bitCount_0f7a4_33 rfl ?_
  refine g_iload eJ6_bitCount_0f7a4_34 rfl ?_
  refine g_iload eJ6_bitCount_0f7a4_35 rfl ?_
  refine g_push eJ6_bitCount_0f7a4_36 ?_
  refine g_iushr eJ6_bitCount_0f7a4_38 ?_
  refine g_iadd eJ6_bitCount_0f7a4_39 ?_
  refine g_istore eJ6_bitCount_0f7a4_40 rfl ?_
  refine g_iload eJ6_bitCount_0f7a4_41 rfl ?_
  refine g_iload eJ6_bitCount_0f7a4_42 rfl ?_
  refine g_push eJ6_bitCount_0f7a4_43 ?_
  refine g_iushr eJ6_bitCount_0f7a4_45 ?_
  refine g_iadd eJ6_bitCount_0f7a4_46 ?_
  refine g_istore eJ6_bitCount_0f7a4_47 rfl ?_
  refine g_iload eJ6_bitCount_0f7a4_48 rfl ?_
  refine g_push eJ6_bitCount_0f7a4_49 ?_
  refine g_iand eJ6_bitCount_0f7a4_51 ?_
  exact g_ret (eJ6_bitCount_0f7a4_52 _) (Nat.le_refl _) (Nat.le_refl _) ⟨congrArg (fun x => some (Value.int x)) (co_dec (P := fun m => ((fun x9 => (fun x23 => (fun x33 => (fun x40 => (fun x47 => (x47 &&& nI 63)) ((x40 + ((x40).toUInt32 >>> ((nI 16).toUInt32 &&& Int32.toUInt32 31)).toInt32))) ((x33 + ((x33).toUInt32 >>> ((nI 8).toUInt32 &&& Int32.toUInt32 31)).toInt32))) (((x23 + ((x23).toUInt32 >>> ((nI 4).toUInt32 &&& Int32.toUInt32 31)).toInt32) &&& (252645135 : Int32)))) (((x9 &&& (858993459 : Int32)) + (((x9).toUInt32 >>> ((nI 2).toUInt32 &&& Int32.toUInt32 31)).toInt32 &&& (858993459 : Int32))))) ((nI m - (((nI m).toUInt32 >>> ((nI 1).toUInt32 &&& Int32.toUInt32 31)).toInt32 &&& (1431655765 : Int32)))) : Int32) = nI (popc m)) bc_all hm), rfl⟩
theorem tb_ones (t : Nat) (h : t < 32) : (4294967295 : Nat).testBit t = true := co_dec (N := 32) (P := fun t => (4294967295 : Nat).testBit t = true) (by decide +kernel) h
theorem beq_eq_decide (a b : Nat) : (a == b) = decide (a = b) := rfl
set_option maxRecDepth 20000 in
theorem c_firstPlacesOf {σ : aH} {a b sz : Nat} {ws : List Nat} (h1 : σ[a]? = some (aO 6 [.ref b, .int (nI sz)])) (h2 : σ[b]? = some (aA ws)) (hl : ws.length = 10) (hs : sz ≤ 10) (hw : ∀ k, k < sz → ws.getD k 0 < 8) {w : Nat} (hw2 : w < 2147483648) : MX6_firstPlacesOf 0 0 0 [.ref a, .int (nI w)] σ (aPu (some (.int (nI (msk (fun k => w.testBit (ws.getD k 0) && !seenB (shW ws) k (ws.getD k 0)) sz)))) σ) := by
  refine sX6_firstPlacesOf (Nat.le_of_ble_eq_true rfl) ?_
  have key : ∀ d i u, i + d = sz → u < 2147483648 → (∀ t, t < 8 → u.testBit t = (w.testBit t && !seenB (shW ws) i t)) → GX6_firstPlacesOf 0 0 0 (aPu (some (.int (nI (msk (fun k => w.testBit (ws.getD k 0) && !seenB (shW ws) k (ws.getD k 0)) sz)))) σ) 0 0 7 [some (.ref a), some (.int (nI w)), some (.int (nI (msk (fun k => w.testBit (ws.getD k 0) && !seenB (shW ws) k (ws.getD k 0)) i))), some (.int (nI u)), some (.int (nI i))] [] σ := by
    intro d
    induction d with
    | zero =>
      intro i u hi hu hut
      obtain rfl : i = sz := by omega
      refine g_iload eX6_firstPlacesOf_7 rfl ?_
      refine g_aload eX6_firstPlacesOf_9 rfl ?_
      refine g_get eX6_firstPlacesOf_10 fX6_15_X6 (by assumption) (by rfl) ?_
      refine g_icmp_geN eX6_firstPlacesOf_13 (by omega) (by omega) (fun c13 => ?_) (fun c13 => by exfalso; omega)
      refine g_iload eX6_firstPlacesOf_53 rfl ?_
      exact g_ret (eX6_firstPlacesOf_54 _) (Nat.le_refl _) (Nat.le_refl _) ⟨rfl, rfl⟩
    | succ d ih =>
      intro i u hi hu hut
      have hb := hw i (by omega)
      refine g_iload eX6_firstPlacesOf_7 rfl ?_
      refine g_aload eX6_firstPlacesOf_9 rfl ?_
      refine g_get eX6_firstPlacesOf_10 fX6_15_X6 (by assumption) (by rfl) ?_
      refine g_icmp_geN eX6_firstPlacesOf_13 (by omega) (by omega) (fun c13 => by exfalso; omega) (fun c13 => ?_)
      refine g_iload eX6_firstPlacesOf_16 rfl ?_
      refine g_iload eX6_firstPlacesOf_17 rfl ?_
      refine g_aload eX6_firstPlacesOf_18 rfl ?_
      refine g_get eX6_firstPlacesOf_19 fX6_9_X6 (by assumption) (by rfl) ?_
      refine g_iload eX6_firstPlacesOf_22 rfl ?_
      refine g_ialdN eX6_firstPlacesOf_24 (by assumption) (by omega) (by omega) ?_
      refine g_ishrN eX6_firstPlacesOf_25 (by omega) (by omega) ?_
      refine g_push eX6_firstPlacesOf_26 ?_
      refine g_iandN eX6_firstPlacesOf_27 ?_
      refine g_iload eX6_firstPlacesOf_28 rfl ?_
      refine g_ishlN eX6_firstPlacesOf_30 (by omega) (bit_shl _ _ (by omega)) ?_
      refine g_iorN eX6_firstPlacesOf_31 ?_
      refine g_istore eX6_firstPlacesOf_32 rfl ?_
      refine g_iload eX6_firstPlacesOf_33 rfl ?_
      refine g_push eX6_firstPlacesOf_34 ?_
      refine g_aload eX6_firstPlacesOf_35 rfl ?_
      refine g_get eX6_firstPlacesOf_36 fX6_9_X6 (by assumption) (by rfl) ?_
      refine g_iload eX6_firstPlacesOf_39 rfl ?_
      refine g_ialdN eX6_firstPlacesOf_41 (by assumption) (by omega) (by omega) ?_
      refine g_ishlN eX6_firstPlacesOf_42 (by omega) (one_shl _ (by omega)) ?_
      refine g_push (v := nI 4294967295) (nA_m1 ▸ eX6_firstPlacesOf_43) ?_
      refine g_ixorN eX6_firstPlacesOf_44 ?_
      refine g_iandN eX6_firstPlacesOf_45 ?_
      refine g_istore eX6_firstPlacesOf_46 rfl ?_
      refine g_iincN eX6_firstPlacesOf_47 rfl rfl ?_
      refine g_goto eX6_firstPlacesOf_50 ?_
      rw [nbit, hut _ hb]
      refine ih (i + 1) _ (by omega) (Nat.lt_of_le_of_lt Nat.and_le_left hu) (fun t ht => ?_)
      rw [Nat.testBit_and, hut t ht, Nat.testBit_xor, Nat.one_mul, Nat.testBit_two_pow, tb_ones t (by omega)]
      show (w.testBit t && !seenB (shW ws) i t && (decide (ws.getD i 0 = t) ^^ true)) = (w.testBit t && !(seenB (shW ws) i t || ws.getD i 0 == t))
      rw [beq_eq_decide]
      cases w.testBit t <;> cases seenB (shW ws) i t <;> cases decide (ws.getD i 0 = t) <;> rfl
  refine g_push eX6_firstPlacesOf_0 ?_
  refine g_istore eX6_firstPlacesOf_1 rfl ?_
  refine g_iload eX6_firstPlacesOf_2 rfl ?_
  refine g_istore eX6_firstPlacesOf_3 rfl ?_
  refine g_push eX6_firstPlacesOf_4 ?_
  refine g_istore eX6_firstPlacesOf_5 rfl ?_
  exact key sz 0 w (by omega) hw2 (fun t _ => by simp [seenB])
theorem behind_eq (p sz : Nat) : (p * 2 ^ 1 &&& 1 * 2 ^ sz - 1) = msk (fun k => decide (0 < k) && p.testBit (k - 1)) sz := by
  rw [Nat.one_mul, Nat.and_two_pow_sub_one_eq_mod]
  refine msk_ext (Nat.mod_lt _ (Nat.two_pow_pos sz)) (fun i hi => ?_)
  rw [Nat.testBit_mod_two_pow, Nat.pow_one]
  simp only [hi, decide_true, Bool.true_and]
  cases i with
  | zero => simp [Nat.testBit_zero]
  | succ i =>
    rw [Nat.testBit_succ, Nat.mul_div_cancel _ (by omega)]
    simp
set_option maxRecDepth 20000 in
theorem c_placesBehind {σ : aH} {a b sz : Nat} {p : Nat} (h1 : σ[a]? = some (aO 6 [.ref b, .int (nI sz)])) (hs : sz ≤ 10) (hp : p < 1024) : MX6_placesBehind 0 0 0 [.ref a, .int (nI p)] σ (aPu (some (.int (nI (msk (fun k => decide (0 < k) && p.testBit (k - 1)) sz)))) σ) := by
  refine sX6_placesBehind (Nat.le_of_ble_eq_true rfl) ?_
  refine g_iload eX6_placesBehind_0 rfl ?_
  refine g_push eX6_placesBehind_1 ?_
  refine g_ishlN eX6_placesBehind_2 (by omega) (by omega) ?_
  refine g_push eX6_placesBehind_3 ?_
  refine g_aload eX6_placesBehind_4 rfl ?_
  refine g_get eX6_placesBehind_5 fX6_15_X6 (by assumption) (by rfl) ?_
  refine g_ishlN eX6_placesBehind_8 (by omega) (one_shl _ (by omega)) ?_
  refine g_push eX6_placesBehind_9 ?_
  refine g_isubN eX6_placesBehind_10 (by have := Nat.two_pow_pos sz; omega) ?_
  refine g_iandN eX6_placesBehind_11 ?_
  exact g_ret (eX6_placesBehind_12 _) (Nat.le_refl _) (Nat.le_refl _) ⟨congrArg (fun x => some (Value.int (nI x))) (behind_eq p sz), rfl⟩
def orW (s : Nat → Nat) : Nat → Nat
  | 0 => 0
  | n + 1 => orW s n ||| 2 ^ (s n)
theorem orW_lt (s : Nat → Nat) : ∀ n, (∀ k, k < n → s k < 8) → orW s n < 256
  | 0, _ => by show 0 < 256; decide
  | n + 1, h => by
    refine Nat.or_lt_two_pow (n := 8) (orW_lt s n (fun k hk => h k (by omega))) ?_
    exact Nat.pow_lt_pow_right (by omega) (h n (by omega))
set_option maxRecDepth 20000 in
theorem c_unlikeWords {σ : aH} {a b sz : Nat} {ws : List Nat} (h1 : σ[a]? = some (aO 6 [.ref b, .int (nI sz)])) (h2 : σ[b]? = some (aA ws)) (hl : ws.length = 10) (hs : sz ≤ 10) (hw : ∀ k, k < sz → ws.getD k 0 < 8) : MX6_unlikeWords 1 0 0 [.ref a] σ (aPu (some (.int (nI (popc (orW (shW ws) sz))))) σ) := by
  refine sX6_unlikeWords (Nat.le_of_ble_eq_true rfl) ?_
  have key : ∀ d i, i + d = sz → GX6_unlikeWords 1 0 0 (aPu (some (.int (nI (popc (orW (shW ws) sz))))) σ) 0 0 4 [some (.ref a), some (.int (nI (orW (shW ws) i))), some (.int (nI i))] [] σ := by
    intro d
    induction d with
    | zero =>
      intro i hi
      obtain rfl : i = sz := by omega
      have hlt := orW_lt (shW ws) i hw
      refine g_iload eX6_unlikeWords_4 rfl ?_
      refine g_aload eX6_unlikeWords_5 rfl ?_
      refine g_get eX6_unlikeWords_6 fX6_15_X6 (by assumption) (by rfl) ?_
      refine g_icmp_geN eX6_unlikeWords_9 (by omega) (by omega) (fun c9 => ?_) (fun c9 => by exfalso; omega)
      refine g_iload eX6_unlikeWords_29 rfl ?_
      refine g_callSp eX6_unlikeWords_30 kX6_29 (c_bitCount (m := orW (shW ws) i) (by omega)) (by rfl) (by rfl) (by exact Nat.le_of_ble_eq_true rfl) (by exact Nat.le_of_ble_eq_true rfl) (by exact Nat.le_of_ble_eq_true rfl) (Nat.le_refl _) (Nat.le_refl _) ?_
      exact g_ret (eX6_unlikeWords_33 _) (Nat.le_refl _) (Nat.le_refl _) ⟨rfl, rfl⟩
    | succ d ih =>
      intro i hi
      have hb := hw i (by omega)
      refine g_iload eX6_unlikeWords_4 rfl ?_
      refine g_aload eX6_unlikeWords_5 rfl ?_
      refine g_get eX6_unlikeWords_6 fX6_15_X6 (by assumption) (by rfl) ?_
      refine g_icmp_geN eX6_unlikeWords_9 (by omega) (by omega) (fun c9 => by exfalso; omega) (fun c9 => ?_)
      refine g_iload eX6_unlikeWords_12 rfl ?_
      refine g_push eX6_unlikeWords_13 ?_
      refine g_aload eX6_unlikeWords_14 rfl ?_
      refine g_get eX6_unlikeWords_15 fX6_9_X6 (by assumption) (by rfl) ?_
      refine g_iload eX6_unlikeWords_18 rfl ?_
      refine g_ialdN eX6_unlikeWords_19 (by assumption) (by omega) (by omega) ?_
      refine g_ishlN eX6_unlikeWords_20 (by omega) (one_shl _ (by omega)) ?_
      refine g_iorN eX6_unlikeWords_21 ?_
      refine g_istore eX6_unlikeWords_22 rfl ?_
      refine g_iincN eX6_unlikeWords_23 rfl rfl ?_
      refine g_goto eX6_unlikeWords_26 ?_
      rw [Nat.one_mul]
      exact ih (i + 1) (by omega)
  refine g_push eX6_unlikeWords_0 ?_
  refine g_istore eX6_unlikeWords_1 rfl ?_
  refine g_push eX6_unlikeWords_2 ?_
  refine g_istore eX6_unlikeWords_3 rfl ?_
  exact key sz 0 (by omega)
set_option maxRecDepth 20000 in
theorem c_at {σ : aH} {a b sz : Nat} {ws : List Nat} (h1 : σ[a]? = some (aO 6 [.ref b, .int (nI sz)])) (h2 : σ[b]? = some (aA ws)) (hl : ws.length = 10) (hs : sz ≤ 10) {j : Nat} (hj : j < sz) : MX6_at 1 0 0 [.ref a, .int (nI j)] σ (aPu (some (.int (nI (ws.getD j 0)))) σ) := by
  refine sX6_at (Nat.le_of_ble_eq_true rfl) ?_
  refine g_aload eX6_at_0 rfl ?_
  refine g_iload eX6_at_1 rfl ?_
  refine g_callV0 (r := (RX6, TX6, 2)) eX6_at_2 kX6_19 (by assumption) (by rfl) (c_has h1 hs) (by rfl) (by rfl) (by exact Nat.le_of_ble_eq_true rfl) (by exact Nat.le_of_ble_eq_true rfl) (by exact Nat.le_of_ble_eq_true rfl) (Nat.le_refl _) (Nat.le_refl _) (fun v2 σ2 hp2 hn2 => ?_)
  obtain ⟨h, rfl⟩ := hp2
  obtain ⟨j', -, -, rfl⟩ := h.resolve_right (fun z => z.1 j hj rfl)
  refine g_if_eq eX6_at_5 (fun c5 => absurd c5 (by decide)) (fun c5 => ?_)
  refine g_aload eX6_at_8 rfl ?_
  refine g_get eX6_at_9 fX6_9_X6 (by assumption) (by rfl) ?_
  refine g_iload eX6_at_12 rfl ?_
  refine g_ialdN eX6_at_13 (by assumption) (by omega) (by omega) ?_
  refine g_goto eX6_at_14 ?_
  exact g_ret (eX6_at_18 _) (Nat.le_refl _) (Nat.le_refl _) ⟨rfl, rfl⟩
set_option maxRecDepth 20000 in
theorem c_set {σ : aH} {a b sz : Nat} {ws : List Nat} (h1 : σ[a]? = some (aO 6 [.ref b, .int (nI sz)])) (h2 : σ[b]? = some (aA ws)) (hl : ws.length = 10) (hs : sz ≤ 10) {j v : Nat} (hj : j < sz) : MX6_set 1 0 0 [.ref a, .int (nI j), .int (nI v)] σ (aPu none (σ.set b (aA (ws.set j v)))) := by
  refine sX6_set (Nat.le_of_ble_eq_true rfl) ?_
  refine g_aload eX6_set_0 rfl ?_
  refine g_iload eX6_set_1 rfl ?_
  refine g_callV0 (r := (RX6, TX6, 2)) eX6_set_2 kX6_19 (by assumption) (by rfl) (c_has h1 hs) (by rfl) (by rfl) (by exact Nat.le_of_ble_eq_true rfl) (by exact Nat.le_of_ble_eq_true rfl) (by exact Nat.le_of_ble_eq_true rfl) (Nat.le_refl _) (Nat.le_refl _) (fun v2 σ2 hp2 hn2 => ?_)
  obtain ⟨h, rfl⟩ := hp2
  obtain ⟨j', -, -, rfl⟩ := h.resolve_right (fun z => z.1 j hj rfl)
  refine g_if_eq eX6_set_5 (fun c5 => absurd c5 (by decide)) (fun c5 => ?_)
  refine g_aload eX6_set_8 rfl ?_
  refine g_get eX6_set_9 fX6_9_X6 (by assumption) (by rfl) ?_
  refine g_iload eX6_set_12 rfl ?_
  refine g_iload eX6_set_13 rfl ?_
  refine g_iastN eX6_set_14 (by assumption) (by omega) (by omega) ?_
  exact g_ret eX6_set_15 (Nat.le_refl _) (Nat.le_refl _) ⟨rfl, rfl⟩
set_option maxRecDepth 20000 in
theorem c_clear {σ : aH} {a b : Nat} {z : Int32} (h1 : σ[a]? = some (aO 6 [.ref b, .int z])) : MX6_clear 0 0 0 [.ref a] σ (aPu none (σ.set a (aO 6 [.ref b, .int (nI 0)]))) := by
  refine sX6_clear (Nat.le_of_ble_eq_true rfl) ?_
  refine g_aload eX6_clear_0 rfl ?_
  refine g_push eX6_clear_1 ?_
  refine g_putI eX6_clear_2 fX6_15_X6 pX6_1 (by assumption) (by exact Nat.le_of_ble_eq_true rfl) ?_
  exact g_ret eX6_clear_5 (Nat.le_refl _) (Nat.le_refl _) ⟨rfl, rfl⟩
set_option maxRecDepth 20000 in
theorem c_add {σ : aH} {a b sz : Nat} {ws : List Nat} (h1 : σ[a]? = some (aO 6 [.ref b, .int (nI sz)])) (h2 : σ[b]? = some (aA ws)) (hl : ws.length = 10) (hs : sz ≤ 10) (hab : b ≠ a) {x : Nat} (hj : sz < 10) : MX6_add 0 0 0 [.ref a, .int (nI x)] σ (aPu none ((σ.set b (aA (ws.set sz x))).set a (aO 6 [.ref b, .int (nI (sz + 1))]))) := by
  refine sX6_add (Nat.le_of_ble_eq_true rfl) ?_
  refine g_aload eX6_add_0 rfl ?_
  refine g_get eX6_add_1 fX6_15_X6 (by assumption) (by rfl) ?_
  refine g_aload eX6_add_4 rfl ?_
  refine g_get eX6_add_5 fX6_9_X6 (by assumption) (by rfl) ?_
  refine g_ilenN eX6_add_8 (by assumption) ?_
  refine g_icmp_geN eX6_add_9 (by omega) (by omega) (fun c9 => by exfalso; omega) (fun c9 => ?_)
  refine g_aload eX6_add_12 rfl ?_
  refine g_get eX6_add_13 fX6_9_X6 (by assumption) (by rfl) ?_
  refine g_aload eX6_add_16 rfl ?_
  refine g_get eX6_add_17 fX6_15_X6 (by assumption) (by rfl) ?_
  refine g_iload eX6_add_20 rfl ?_
  refine g_iastN eX6_add_21 (by assumption) (by omega) (by omega) ?_
  refine g_aload eX6_add_22 rfl ?_
  refine g_dup eX6_add_23 rfl ?_
  refine g_get eX6_add_24 fX6_15_X6 (at_ne hab h1) (by rfl) ?_
  refine g_push eX6_add_27 ?_
  refine g_iaddN eX6_add_28 ?_
  refine g_putI eX6_add_29 fX6_15_X6 pX6_1 (at_ne hab h1) (by exact Nat.le_of_ble_eq_true rfl) ?_
  exact g_ret eX6_add_32 (Nat.le_refl _) (Nat.le_refl _) ⟨rfl, rfl⟩
