/-! the law's small methods: at, in, size, over, alters, now -/
def atN (x : Int32) (n : Nat) : Nat := x.toUInt32.toNat / 2 % n
theorem nI_all (x : Int32) : ∃ m, m < 4294967296 ∧ x = nI m := ⟨x.toUInt32.toNat, x.toUInt32.toNat_lt, by
  apply Int32.toBitVec_inj.1
  show x.toBitVec = BitVec.ofNat 32 x.toBitVec.toNat
  rw [BitVec.ofNat_toNat, BitVec.setWidth_eq]⟩
theorem atN_nI {m n : Nat} (h : m < 4294967296) : atN (nI m) n = m / 2 ^ 1 % n := by
  show (BitVec.ofNat 32 m).toNat / 2 % n = _
  rw [BitVec.toNat_ofNat, Nat.mod_eq_of_lt h]
theorem atN_lt (x : Int32) {n : Nat} (h : 0 < n) : atN x n < n := Nat.mod_lt _ h
set_option maxRecDepth 20000 in
theorem l_at {σ : aH} {x : Int32} {n : Nat} (h0 : 0 < n) (hn : n < 65536) : ML_at 0 0 0 [.int x, .int (nI n)] σ (aPu (some (.int (nI (atN x n)))) σ) := by
  refine sL_at (Nat.le_of_ble_eq_true rfl) ?_
  obtain ⟨m, hm, rfl⟩ := nI_all x
  rw [atN_nI hm]
  refine g_iload eL_at_0 rfl ?_
  refine g_push eL_at_1 ?_
  refine g_iushrN eL_at_2 (by omega) (by omega) ?_
  refine g_iload eL_at_3 rfl ?_
  refine g_iremN eL_at_4 (by show m / 2 ^ 1 < _; omega) (by omega) (by omega) ?_
  exact g_ret (eL_at_5 _) (Nat.le_refl _) (Nat.le_refl _) ⟨rfl, rfl⟩
theorem set_same {σ : aH} {a : Nat} {c : aT} (h : σ[a]? = some c) : σ.set a c = σ := by
  apply List.ext_getElem?
  intro j
  rw [List.getElem?_set]
  by_cases e : a = j
  · subst e
    rw [if_pos rfl, if_pos (List.getElem?_eq_some_iff.mp h).1, h]
  · rw [if_neg e]
theorem bl_t {b : Bool} (h : b.toNat = 1) : (some (Value.int (nI 1)) : Option Value) = some (.int (nI b.toNat)) := by rw [h]
theorem bl_f {b : Bool} (h : ¬ b.toNat = 1) : (some (Value.int (nI 0)) : Option Value) = some (.int (nI b.toNat)) := by
  cases b
  · rfl
  · exact absurd rfl h
set_option maxRecDepth 20000 in
theorem l_in {σ : aH} {m k : Nat} (hm : m < 2147483648) (hk : k < 31) : ML_in 0 0 0 [.int (nI m), .int (nI k)] σ (aPu (some (.int (nI (m.testBit k).toNat))) σ) := by
  refine sL_in (Nat.le_of_ble_eq_true rfl) ?_
  refine g_iload eL_in_0 rfl ?_
  refine g_iload eL_in_1 rfl ?_
  refine g_ishrN eL_in_2 (by omega) (by omega) ?_
  refine g_push eL_in_3 ?_
  refine g_iandN eL_in_4 ?_
  refine g_push eL_in_5 ?_
  rw [nbit]
  refine g_icmp_neN eL_in_6 (Nat.lt_of_le_of_lt (Bool.toNat_le _) (by decide)) (by decide) (fun c6 => ?_) (fun c6 => ?_)
  · refine g_push eL_in_13 ?_
    exact g_ret (eL_in_14 _ (by first | exact Or.inl rfl | exact Or.inr rfl)) (Nat.le_refl _) (Nat.le_refl _) ⟨by first | exact bl_t c6 | exact bl_f c6, rfl⟩
  · refine g_push eL_in_9 ?_
    refine g_goto eL_in_10 ?_
    exact g_ret (eL_in_14 _ (by first | exact Or.inl rfl | exact Or.inr rfl)) (Nat.le_refl _) (Nat.le_refl _) ⟨by first | exact bl_t c6 | exact bl_f c6, rfl⟩
set_option maxRecDepth 20000 in
theorem l_size {σ : aH} {m : Nat} (hm : m < 1024) : ML_size 0 0 0 [.int (nI m)] σ (aPu (some (.int (nI (popc m)))) σ) := by
  refine sL_size (Nat.le_of_ble_eq_true rfl) ?_
  have key : ∀ d i, i + d = 10 → GL_size 0 0 0 (aPu (some (.int (nI (popc m)))) σ) 0 0 4 [some (.int (nI m)), some (.int (nI (cnt (fun i => m.testBit i) i))), some (.int (nI i))] [] σ := by
    intro d
    induction d with
    | zero =>
      intro i hi
      obtain rfl : i = 10 := by omega
      refine g_iload eL_size_4 rfl ?_
      refine g_push eL_size_5 ?_
      refine g_icmp_geN eL_size_7 (by omega) (by omega) (fun c7 => ?_) (fun c7 => by exfalso; omega)
      refine g_iload eL_size_24 rfl ?_
      exact g_ret (eL_size_25 _) (Nat.le_refl _) (Nat.le_refl _) ⟨rfl, rfl⟩
    | succ d ih =>
      intro i hi
      have ih2 := ih (i + 1) (by omega)
      refine g_iload eL_size_4 rfl ?_
      refine g_push eL_size_5 ?_
      refine g_icmp_geN eL_size_7 (by omega) (by omega) (fun c7 => by exfalso; omega) (fun c7 => ?_)
      refine g_iload eL_size_10 rfl ?_
      refine g_iload eL_size_11 rfl ?_
      refine g_iload eL_size_12 rfl ?_
      refine g_ishrN eL_size_13 (by omega) (by omega) ?_
      refine g_push eL_size_14 ?_
      refine g_iandN eL_size_15 ?_
      rw [nbit]
      refine g_iaddN eL_size_16 ?_
      refine g_istore eL_size_17 rfl ?_
      refine g_iincN eL_size_18 rfl rfl ?_
      refine g_goto eL_size_21 ?_
      exact ih2
  refine g_push eL_size_0 ?_
  refine g_istore eL_size_1 rfl ?_
  refine g_push eL_size_2 ?_
  refine g_istore eL_size_3 rfl ?_
  exact key 10 0 (by omega)
set_option maxRecDepth 20000 in
theorem l_over {σ : aH} {a b : Nat} {us ws : List Nat} (hab : a ≠ b) (ha : σ[a]? = some (aA us)) (hb : σ[b]? = some (aA ws)) (hu : us.length = 26) (hw : ws.length = 26) : ML_over 0 0 0 [.ref a, .ref b] σ (aPu none (σ.set a (aA ws))) := by
  refine sL_over (Nat.le_of_ble_eq_true rfl) ?_
  have key : ∀ d i vs, i + d = 26 → vs.length = 26 → (∀ k, k < i → vs.getD k 0 = ws.getD k 0) → GL_over 0 0 0 (aPu none (σ.set a (aA ws))) 0 0 2 [some (.ref a), some (.ref b), some (.int (nI i))] [] (σ.set a (aA vs)) := by
    intro d
    induction d with
    | zero =>
      intro i vs hi hl hv
      obtain rfl : i = 26 := by omega
      obtain rfl : vs = ws := by
        apply List.ext_getElem?
        intro j
        by_cases hj : j < 26
        · have := hv j hj
          rw [List.getD_eq_getElem?_getD, List.getD_eq_getElem?_getD, List.getElem?_eq_getElem (by omega), List.getElem?_eq_getElem (by omega)] at this
          rw [List.getElem?_eq_getElem (by omega), List.getElem?_eq_getElem (by omega)]
          exact congrArg some this
        · rw [List.getElem?_eq_none (by omega), List.getElem?_eq_none (by omega)]
      refine g_iload eL_over_2 rfl ?_
      refine g_push eL_over_3 ?_
      refine g_icmp_geN eL_over_5 (by omega) (by omega) (fun c5 => ?_) (fun c5 => by exfalso; omega)
      exact g_ret eL_over_20 (Nat.le_refl _) (Nat.le_refl _) ⟨rfl, rfl⟩
    | succ d ih =>
      intro i vs hi hl hv
      have hA : (σ.set a (aA vs))[a]? = some (aA vs) := at_eq ha
      have hB : (σ.set a (aA vs))[b]? = some (aA ws) := at_ne hab hb
      refine g_iload eL_over_2 rfl ?_
      refine g_push eL_over_3 ?_
      refine g_icmp_geN eL_over_5 (by omega) (by omega) (fun c5 => by exfalso; omega) (fun c5 => ?_)
      refine g_aload eL_over_8 rfl ?_
      refine g_iload eL_over_9 rfl ?_
      refine g_aload eL_over_10 rfl ?_
      refine g_iload eL_over_11 rfl ?_
      refine g_ialdN eL_over_12 hB (by omega) (by omega) ?_
      refine g_iastN eL_over_13 hA (by omega) (by omega) ?_
      refine g_iincN eL_over_14 rfl rfl ?_
      refine g_goto eL_over_17 ?_
      rw [List.set_set]
      refine ih (i + 1) _ (by omega) (by rw [List.length_set]; exact hl) (fun k hk => ?_)
      rw [getD_set]
      by_cases e : i = k
      · rw [if_pos ⟨e, by omega⟩, e]
      · rw [if_neg (fun z => e z.1)]
        exact hv k (by omega)
  refine g_push eL_over_0 ?_
  refine g_istore eL_over_1 rfl ?_
  have := key 26 0 us rfl hu (fun k hk => absurd hk (Nat.not_lt_zero k))
  rw [show σ.set a (aA us) = σ from set_same ha] at this
  exact this
theorem orW_tb (s : Nat → Nat) (x : Nat) : ∀ n, (orW s n).testBit x = seenB s n x
  | 0 => by show (0 : Nat).testBit x = false; exact Nat.zero_testBit x
  | n + 1 => by
    show (orW s n ||| 2 ^ (s n)).testBit x = (seenB s n x || s n == x)
    rw [Nat.testBit_or, orW_tb s x n, Nat.testBit_two_pow]
    rfl
theorem msk_s (f : Nat → Bool) (n : Nat) : msk f (n + 1) = msk f n ||| ((f n).toNat * 2 ^ n) := rfl
theorem msk_s1 {f : Nat → Bool} {n : Nat} (h : f n = true) : msk f (n + 1) = msk f n ||| 1 * 2 ^ n := by rw [msk_s, h]; rfl
theorem msk_s0 {f : Nat → Bool} {n : Nat} (h : f n = false) : msk f (n + 1) = msk f n := by rw [msk_s, h]; simp
theorem orW_s (s : Nat → Nat) (n : Nat) : orW s (n + 1) = orW s n ||| 1 * 2 ^ s n := by rw [Nat.one_mul]; rfl
theorem bl_0 {b : Bool} (h : b.toNat = 0) : b = false := by cases b; rfl; cases h
theorem bl_1 {b : Bool} (h : ¬ b.toNat = 0) : b = true := by cases b; exact absurd rfl h; rfl
abbrev shD (ws : List Nat) : Nat → Nat := fun k => ws.getD (1 + k) 0
set_option maxRecDepth 20000 in
theorem l_alters_112 {σ : aH} {a : Nat} {ws : List Nat} (ha : σ[a]? = some (aA ws)) (hl : ws.length = 26) (h0 : ws.getD 0 0 ≤ 10) (hw : ∀ k, k < ws.getD 0 0 → (shD ws) k < 8) {kd nr hd : Nat} (hn : nr < 256) (hh : hd < 256) {i : Nat} (hi : i < ws.getD 0 0) (ih2 : ∀ o1 o2, GL_alters 1 0 0 (aPu (some (.int (nI (msk (altA kd nr hd (shD ws)) (ws.getD 0 0))))) σ) 0 0 9 [some (.ref a), some (.int (nI kd)), some (.int (nI nr)), some (.int (nI hd)), some (.int (nI (msk (altA kd nr hd (shD ws)) (i + 1)))), some (.int (nI (orW (shD ws) (i + 1)))), some (.int (nI (i + 1))), o1, o2] [] σ) {isv : Bool} (hv : isv = altB kd nr (shD ws) i) : GL_alters 1 0 0 (aPu (some (.int (nI (msk (altA kd nr hd (shD ws)) (ws.getD 0 0))))) σ) 0 0 112 [some (.ref a), some (.int (nI kd)), some (.int (nI nr)), some (.int (nI hd)), some (.int (nI (msk (altA kd nr hd (shD ws)) i))), some (.int (nI (orW (shD ws) i))), some (.int (nI i)), some (.int (nI ((shD ws) i))), some (.int (nI isv.toNat))] [] σ := by
  have hb := hw i hi
  have hms := msk_lt (altA kd nr hd (shD ws)) i
  have hor := orW_lt (shD ws) i (fun k hk => hw k (by omega))
  refine g_iload eL_alters_112 rfl ?_
  refine g_push eL_alters_114 ?_
  refine g_iload eL_alters_115 rfl ?_
  refine g_ishlN eL_alters_117 (by omega) (one_shl _ (by omega)) ?_
  refine g_iorN eL_alters_118 ?_
  rw [← orW_s]
  refine g_istore eL_alters_119 rfl ?_
  refine g_iload eL_alters_121 rfl ?_
  refine g_if_eqN eL_alters_123 (bt_lt _) (fun c123 => ?_) (fun c123 => ?_)
  · have c123 := bl_0 c123
    refine g_iincN eL_alters_144 rfl rfl ?_
    refine g_goto eL_alters_147 ?_
    first
      | (rw [← msk_s1 (show altA kd nr hd (shD ws) i = true by show (!hd.testBit (shD ws i) && altB kd nr (shD ws) i) = true; rw [← hv, c123, c132]; rfl)]; exact ih2 _ _)
      | (rw [← msk_s0 (show altA kd nr hd (shD ws) i = false by show (!hd.testBit (shD ws i) && altB kd nr (shD ws) i) = false; rw [c132]; rfl)]; exact ih2 _ _)
      | (rw [← msk_s0 (show altA kd nr hd (shD ws) i = false by show (!hd.testBit (shD ws i) && altB kd nr (shD ws) i) = false; rw [← hv, c123]; exact Bool.and_false _)]; exact ih2 _ _)
  · have c123 := bl_1 c123
    refine g_iload eL_alters_126 rfl ?_
    refine g_iload eL_alters_127 rfl ?_
    refine g_callSp eL_alters_129 kL_18 (l_in (m := hd) (k := shD ws i) (by omega) (by omega)) (by rfl) (by rfl) (by exact Nat.le_of_ble_eq_true rfl) (by exact Nat.le_of_ble_eq_true rfl) (by exact Nat.le_of_ble_eq_true rfl) (Nat.le_refl _) (Nat.le_refl _) ?_
    refine g_if_neN eL_alters_132 (bt_lt _) (fun c132 => ?_) (fun c132 => ?_)
    · have c132 := bl_1 c132
      refine g_iincN eL_alters_144 rfl rfl ?_
      refine g_goto eL_alters_147 ?_
      first
        | (rw [← msk_s1 (show altA kd nr hd (shD ws) i = true by show (!hd.testBit (shD ws i) && altB kd nr (shD ws) i) = true; rw [← hv, c123, c132]; rfl)]; exact ih2 _ _)
        | (rw [← msk_s0 (show altA kd nr hd (shD ws) i = false by show (!hd.testBit (shD ws i) && altB kd nr (shD ws) i) = false; rw [c132]; rfl)]; exact ih2 _ _)
        | (rw [← msk_s0 (show altA kd nr hd (shD ws) i = false by show (!hd.testBit (shD ws i) && altB kd nr (shD ws) i) = false; rw [← hv, c123]; exact Bool.and_false _)]; exact ih2 _ _)
    · have c132 := bl_0 c132
      refine g_iload eL_alters_135 rfl ?_
      refine g_push eL_alters_137 ?_
      refine g_iload eL_alters_138 rfl ?_
      refine g_ishlN eL_alters_140 (by omega) (one_shl _ (by omega)) ?_
      refine g_iorN eL_alters_141 ?_
      refine g_istore eL_alters_142 rfl ?_
      refine g_iincN eL_alters_144 rfl rfl ?_
      refine g_goto eL_alters_147 ?_
      first
        | (rw [← msk_s1 (show altA kd nr hd (shD ws) i = true by show (!hd.testBit (shD ws i) && altB kd nr (shD ws) i) = true; rw [← hv, c123, c132]; rfl)]; exact ih2 _ _)
        | (rw [← msk_s0 (show altA kd nr hd (shD ws) i = false by show (!hd.testBit (shD ws i) && altB kd nr (shD ws) i) = false; rw [c132]; rfl)]; exact ih2 _ _)
        | (rw [← msk_s0 (show altA kd nr hd (shD ws) i = false by show (!hd.testBit (shD ws i) && altB kd nr (shD ws) i) = false; rw [← hv, c123]; exact Bool.and_false _)]; exact ih2 _ _)
set_option maxRecDepth 20000 in
theorem l_alters_k0 {σ : aH} {a : Nat} {ws : List Nat} (ha : σ[a]? = some (aA ws)) (hl : ws.length = 26) (h0 : ws.getD 0 0 ≤ 10) (hw : ∀ k, k < ws.getD 0 0 → (shD ws) k < 8) {nr hd : Nat} (hn : nr < 256) (hh : hd < 256) {i : Nat} (hi : i < ws.getD 0 0) {o1 o2 : Option Value} (ih2 : ∀ o1 o2, GL_alters 1 0 0 (aPu (some (.int (nI (msk (altA 0 nr hd (shD ws)) (ws.getD 0 0))))) σ) 0 0 9 [some (.ref a), some (.int (nI 0)), some (.int (nI nr)), some (.int (nI hd)), some (.int (nI (msk (altA 0 nr hd (shD ws)) (i + 1)))), some (.int (nI (orW (shD ws) (i + 1)))), some (.int (nI (i + 1))), o1, o2] [] σ) : GL_alters 1 0 0 (aPu (some (.int (nI (msk (altA 0 nr hd (shD ws)) (ws.getD 0 0))))) σ) 0 0 9 [some (.ref a), some (.int (nI 0)), some (.int (nI nr)), some (.int (nI hd)), some (.int (nI (msk (altA 0 nr hd (shD ws)) i))), some (.int (nI (orW (shD ws) i))), some (.int (nI i)), o1, o2] [] σ := by
  have hb := hw i hi
  have hb3 : ws.getD (1 + i) 0 < 8 := hb
  have hb2 : i = 0 ∨ ws.getD i 0 < 8 := by
    rcases Nat.eq_zero_or_pos i with h | h
    · exact Or.inl h
    · have := hw (i - 1) (by omega)
      rw [show shD ws (i - 1) = ws.getD i 0 from congrArg (fun k => ws.getD k 0) (by omega)] at this
      exact Or.inr this
  have hor := orW_lt (shD ws) i (fun k hk => hw k (by omega))
  refine g_iload eL_alters_9 rfl ?_
  refine g_aload eL_alters_11 rfl ?_
  refine g_push eL_alters_12 ?_
  refine g_ialdN eL_alters_13 (by assumption) (by omega) (by omega) ?_
  refine g_icmp_geN eL_alters_14 (by omega) (by omega) (fun c14 => by exfalso; omega) (fun c14 => ?_)
  refine g_aload eL_alters_17 rfl ?_
  refine g_push eL_alters_18 ?_
  refine g_iload eL_alters_19 rfl ?_
  refine g_iaddN eL_alters_21 ?_
  refine g_ialdN eL_alters_22 (by assumption) (by omega) (by omega) ?_
  refine g_istore eL_alters_23 rfl ?_
  refine g_iload eL_alters_25 rfl ?_
  refine g_iload eL_alters_26 rfl ?_
  refine g_callSp eL_alters_28 kL_18 (l_in (m := nr) (k := shD ws i) (by omega) (by omega)) (by rfl) (by rfl) (by exact Nat.le_of_ble_eq_true rfl) (by exact Nat.le_of_ble_eq_true rfl) (by exact Nat.le_of_ble_eq_true rfl) (Nat.le_refl _) (Nat.le_refl _) ?_
  refine g_istore eL_alters_31 rfl ?_
  refine g_iload eL_alters_33 rfl ?_
  refine g_push eL_alters_34 ?_
  refine g_icmp_neN eL_alters_35 (by omega) (by omega) (fun c35 => ?_) (fun c35 => by exfalso; omega)
  refine g_iload eL_alters_61 rfl ?_
  refine g_push eL_alters_62 ?_
  refine g_icmp_neN eL_alters_63 (by omega) (by omega) (fun c63 => ?_) (fun c63 => by exfalso; omega)
  refine g_iload eL_alters_79 rfl ?_
  refine g_push eL_alters_80 ?_
  refine g_icmp_eqN eL_alters_81 (by omega) (by omega) (fun c81 => by exfalso; omega) (fun c81 => ?_)
  refine g_iload eL_alters_84 rfl ?_
  refine g_push eL_alters_85 ?_
  refine g_icmp_neN eL_alters_86 (by omega) (by omega) (fun c86 => ?_) (fun c86 => by exfalso; omega)
  refine g_iload eL_alters_97 rfl ?_
  refine g_push eL_alters_98 ?_
  refine g_icmp_neN eL_alters_99 (by omega) (by omega) (fun c99 => ?_) (fun c99 => by exfalso; omega)
  exact l_alters_112 ha hl h0 hw hn hh hi ih2 (isv := nr.testBit (shD ws i)) rfl
set_option maxRecDepth 20000 in
theorem l_alters_k1 {σ : aH} {a : Nat} {ws : List Nat} (ha : σ[a]? = some (aA ws)) (hl : ws.length = 26) (h0 : ws.getD 0 0 ≤ 10) (hw : ∀ k, k < ws.getD 0 0 → (shD ws) k < 8) {nr hd : Nat} (hn : nr < 256) (hh : hd < 256) {i : Nat} (hi : i < ws.getD 0 0) {o1 o2 : Option Value} (ih2 : ∀ o1 o2, GL_alters 1 0 0 (aPu (some (.int (nI (msk (altA 1 nr hd (shD ws)) (ws.getD 0 0))))) σ) 0 0 9 [some (.ref a), some (.int (nI 1)), some (.int (nI nr)), some (.int (nI hd)), some (.int (nI (msk (altA 1 nr hd (shD ws)) (i + 1)))), some (.int (nI (orW (shD ws) (i + 1)))), some (.int (nI (i + 1))), o1, o2] [] σ) : GL_alters 1 0 0 (aPu (some (.int (nI (msk (altA 1 nr hd (shD ws)) (ws.getD 0 0))))) σ) 0 0 9 [some (.ref a), some (.int (nI 1)), some (.int (nI nr)), some (.int (nI hd)), some (.int (nI (msk (altA 1 nr hd (shD ws)) i))), some (.int (nI (orW (shD ws) i))), some (.int (nI i)), o1, o2] [] σ := by
  have hb := hw i hi
  have hb3 : ws.getD (1 + i) 0 < 8 := hb
  have hb2 : i = 0 ∨ ws.getD i 0 < 8 := by
    rcases Nat.eq_zero_or_pos i with h | h
    · exact Or.inl h
    · have := hw (i - 1) (by omega)
      rw [show shD ws (i - 1) = ws.getD i 0 from congrArg (fun k => ws.getD k 0) (by omega)] at this
      exact Or.inr this
  have hor := orW_lt (shD ws) i (fun k hk => hw k (by omega))
  refine g_iload eL_alters_9 rfl ?_
  refine g_aload eL_alters_11 rfl ?_
  refine g_push eL_alters_12 ?_
  refine g_ialdN eL_alters_13 (by assumption) (by omega) (by omega) ?_
  refine g_icmp_geN eL_alters_14 (by omega) (by omega) (fun c14 => by exfalso; omega) (fun c14 => ?_)
  refine g_aload eL_alters_17 rfl ?_
  refine g_push eL_alters_18 ?_
  refine g_iload eL_alters_19 rfl ?_
  refine g_iaddN eL_alters_21 ?_
  refine g_ialdN eL_alters_22 (by assumption) (by omega) (by omega) ?_
  refine g_istore eL_alters_23 rfl ?_
  refine g_iload eL_alters_25 rfl ?_
  refine g_iload eL_alters_26 rfl ?_
  refine g_callSp eL_alters_28 kL_18 (l_in (m := nr) (k := shD ws i) (by omega) (by omega)) (by rfl) (by rfl) (by exact Nat.le_of_ble_eq_true rfl) (by exact Nat.le_of_ble_eq_true rfl) (by exact Nat.le_of_ble_eq_true rfl) (Nat.le_refl _) (Nat.le_refl _) ?_
  refine g_istore eL_alters_31 rfl ?_
  refine g_iload eL_alters_33 rfl ?_
  refine g_push eL_alters_34 ?_
  refine g_icmp_neN eL_alters_35 (by omega) (by omega) (fun c35 => ?_) (fun c35 => by exfalso; omega)
  refine g_iload eL_alters_61 rfl ?_
  refine g_push eL_alters_62 ?_
  refine g_icmp_neN eL_alters_63 (by omega) (by omega) (fun c63 => ?_) (fun c63 => by exfalso; omega)
  refine g_iload eL_alters_79 rfl ?_
  refine g_push eL_alters_80 ?_
  refine g_icmp_eqN eL_alters_81 (by omega) (by omega) (fun c81 => ?_) (fun c81 => by exfalso; omega)
  refine g_iload eL_alters_89 rfl ?_
  refine g_if_neN eL_alters_91 (by omega) (fun c91 => ?_) (fun c91 => ?_)
  · refine g_iload eL_alters_97 rfl ?_
    refine g_push eL_alters_98 ?_
    refine g_icmp_neN eL_alters_99 (by omega) (by omega) (fun c99 => ?_) (fun c99 => by exfalso; omega)
    first
      | exact l_alters_112 ha hl h0 hw hn hh hi ih2 (isv := true) (by show true = (nr.testBit (shD ws i) || decide (i = 0)); rw [decide_eq_true c91, Bool.or_true])
      | exact l_alters_112 ha hl h0 hw hn hh hi ih2 (isv := nr.testBit (shD ws i)) (by show _ = (nr.testBit (shD ws i) || decide (i = 0)); rw [decide_eq_false c91, Bool.or_false])
  · refine g_push eL_alters_94 ?_
    refine g_istore eL_alters_95 rfl ?_
    refine g_iload eL_alters_97 rfl ?_
    refine g_push eL_alters_98 ?_
    refine g_icmp_neN eL_alters_99 (by omega) (by omega) (fun c99 => ?_) (fun c99 => by exfalso; omega)
    first
      | exact l_alters_112 ha hl h0 hw hn hh hi ih2 (isv := true) (by show true = (nr.testBit (shD ws i) || decide (i = 0)); rw [decide_eq_true c91, Bool.or_true])
      | exact l_alters_112 ha hl h0 hw hn hh hi ih2 (isv := nr.testBit (shD ws i)) (by show _ = (nr.testBit (shD ws i) || decide (i = 0)); rw [decide_eq_false c91, Bool.or_false])
set_option maxRecDepth 20000 in
theorem l_alters_k2 {σ : aH} {a : Nat} {ws : List Nat} (ha : σ[a]? = some (aA ws)) (hl : ws.length = 26) (h0 : ws.getD 0 0 ≤ 10) (hw : ∀ k, k < ws.getD 0 0 → (shD ws) k < 8) {nr hd : Nat} (hn : nr < 256) (hh : hd < 256) {i : Nat} (hi : i < ws.getD 0 0) {o1 o2 : Option Value} (ih2 : ∀ o1 o2, GL_alters 1 0 0 (aPu (some (.int (nI (msk (altA 2 nr hd (shD ws)) (ws.getD 0 0))))) σ) 0 0 9 [some (.ref a), some (.int (nI 2)), some (.int (nI nr)), some (.int (nI hd)), some (.int (nI (msk (altA 2 nr hd (shD ws)) (i + 1)))), some (.int (nI (orW (shD ws) (i + 1)))), some (.int (nI (i + 1))), o1, o2] [] σ) : GL_alters 1 0 0 (aPu (some (.int (nI (msk (altA 2 nr hd (shD ws)) (ws.getD 0 0))))) σ) 0 0 9 [some (.ref a), some (.int (nI 2)), some (.int (nI nr)), some (.int (nI hd)), some (.int (nI (msk (altA 2 nr hd (shD ws)) i))), some (.int (nI (orW (shD ws) i))), some (.int (nI i)), o1, o2] [] σ := by
  have hb := hw i hi
  have hb3 : ws.getD (1 + i) 0 < 8 := hb
  have hb2 : i = 0 ∨ ws.getD i 0 < 8 := by
    rcases Nat.eq_zero_or_pos i with h | h
    · exact Or.inl h
    · have := hw (i - 1) (by omega)
      rw [show shD ws (i - 1) = ws.getD i 0 from congrArg (fun k => ws.getD k 0) (by omega)] at this
      exact Or.inr this
  have hor := orW_lt (shD ws) i (fun k hk => hw k (by omega))
  refine g_iload eL_alters_9 rfl ?_
  refine g_aload eL_alters_11 rfl ?_
  refine g_push eL_alters_12 ?_
  refine g_ialdN eL_alters_13 (by assumption) (by omega) (by omega) ?_
  refine g_icmp_geN eL_alters_14 (by omega) (by omega) (fun c14 => by exfalso; omega) (fun c14 => ?_)
  refine g_aload eL_alters_17 rfl ?_
  refine g_push eL_alters_18 ?_
  refine g_iload eL_alters_19 rfl ?_
  refine g_iaddN eL_alters_21 ?_
  refine g_ialdN eL_alters_22 (by assumption) (by omega) (by omega) ?_
  refine g_istore eL_alters_23 rfl ?_
  refine g_iload eL_alters_25 rfl ?_
  refine g_iload eL_alters_26 rfl ?_
  refine g_callSp eL_alters_28 kL_18 (l_in (m := nr) (k := shD ws i) (by omega) (by omega)) (by rfl) (by rfl) (by exact Nat.le_of_ble_eq_true rfl) (by exact Nat.le_of_ble_eq_true rfl) (by exact Nat.le_of_ble_eq_true rfl) (Nat.le_refl _) (Nat.le_refl _) ?_
  refine g_istore eL_alters_31 rfl ?_
  refine g_iload eL_alters_33 rfl ?_
  refine g_push eL_alters_34 ?_
  refine g_icmp_neN eL_alters_35 (by omega) (by omega) (fun c35 => ?_) (fun c35 => by exfalso; omega)
  refine g_iload eL_alters_61 rfl ?_
  refine g_push eL_alters_62 ?_
  refine g_icmp_neN eL_alters_63 (by omega) (by omega) (fun c63 => by exfalso; omega) (fun c63 => ?_)
  refine g_iload eL_alters_66 rfl ?_
  refine g_iload eL_alters_68 rfl ?_
  refine g_callSp eL_alters_70 kL_18 (l_in (m := orW (shD ws) i) (k := shD ws i) (by omega) (by omega)) (by rfl) (by rfl) (by exact Nat.le_of_ble_eq_true rfl) (by exact Nat.le_of_ble_eq_true rfl) (by exact Nat.le_of_ble_eq_true rfl) (Nat.le_refl _) (Nat.le_refl _) ?_
  refine g_if_eqN eL_alters_73 (bt_lt _) (fun c73 => ?_) (fun c73 => ?_)
  · have c73 := bl_0 c73
    refine g_iload eL_alters_79 rfl ?_
    refine g_push eL_alters_80 ?_
    refine g_icmp_eqN eL_alters_81 (by omega) (by omega) (fun c81 => by exfalso; omega) (fun c81 => ?_)
    refine g_iload eL_alters_84 rfl ?_
    refine g_push eL_alters_85 ?_
    refine g_icmp_neN eL_alters_86 (by omega) (by omega) (fun c86 => ?_) (fun c86 => by exfalso; omega)
    refine g_iload eL_alters_97 rfl ?_
    refine g_push eL_alters_98 ?_
    refine g_icmp_neN eL_alters_99 (by omega) (by omega) (fun c99 => ?_) (fun c99 => by exfalso; omega)
    first
      | exact l_alters_112 ha hl h0 hw hn hh hi ih2 (isv := false) (by show false = (nr.testBit (shD ws i) && !seenB (shD ws) i (shD ws i)); rw [← orW_tb, c73]; exact (Bool.and_false _).symm)
      | exact l_alters_112 ha hl h0 hw hn hh hi ih2 (isv := nr.testBit (shD ws i)) (by show _ = (nr.testBit (shD ws i) && !seenB (shD ws) i (shD ws i)); rw [← orW_tb, c73]; exact (Bool.and_true _).symm)
  · have c73 := bl_1 c73
    refine g_push eL_alters_76 ?_
    refine g_istore eL_alters_77 rfl ?_
    refine g_iload eL_alters_79 rfl ?_
    refine g_push eL_alters_80 ?_
    refine g_icmp_eqN eL_alters_81 (by omega) (by omega) (fun c81 => by exfalso; omega) (fun c81 => ?_)
    refine g_iload eL_alters_84 rfl ?_
    refine g_push eL_alters_85 ?_
    refine g_icmp_neN eL_alters_86 (by omega) (by omega) (fun c86 => ?_) (fun c86 => by exfalso; omega)
    refine g_iload eL_alters_97 rfl ?_
    refine g_push eL_alters_98 ?_
    refine g_icmp_neN eL_alters_99 (by omega) (by omega) (fun c99 => ?_) (fun c99 => by exfalso; omega)
    first
      | exact l_alters_112 ha hl h0 hw hn hh hi ih2 (isv := false) (by show false = (nr.testBit (shD ws i) && !seenB (shD ws) i (shD ws i)); rw [← orW_tb, c73]; exact (Bool.and_false _).symm)
      | exact l_alters_112 ha hl h0 hw hn hh hi ih2 (isv := nr.testBit (shD ws i)) (by show _ = (nr.testBit (shD ws i) && !seenB (shD ws) i (shD ws i)); rw [← orW_tb, c73]; exact (Bool.and_true _).symm)
set_option maxRecDepth 20000 in
theorem l_alters_k3 {σ : aH} {a : Nat} {ws : List Nat} (ha : σ[a]? = some (aA ws)) (hl : ws.length = 26) (h0 : ws.getD 0 0 ≤ 10) (hw : ∀ k, k < ws.getD 0 0 → (shD ws) k < 8) {nr hd : Nat} (hn : nr < 256) (hh : hd < 256) {i : Nat} (hi : i < ws.getD 0 0) {o1 o2 : Option Value} (ih2 : ∀ o1 o2, GL_alters 1 0 0 (aPu (some (.int (nI (msk (altA 3 nr hd (shD ws)) (ws.getD 0 0))))) σ) 0 0 9 [some (.ref a), some (.int (nI 3)), some (.int (nI nr)), some (.int (nI hd)), some (.int (nI (msk (altA 3 nr hd (shD ws)) (i + 1)))), some (.int (nI (orW (shD ws) (i + 1)))), some (.int (nI (i + 1))), o1, o2] [] σ) : GL_alters 1 0 0 (aPu (some (.int (nI (msk (altA 3 nr hd (shD ws)) (ws.getD 0 0))))) σ) 0 0 9 [some (.ref a), some (.int (nI 3)), some (.int (nI nr)), some (.int (nI hd)), some (.int (nI (msk (altA 3 nr hd (shD ws)) i))), some (.int (nI (orW (shD ws) i))), some (.int (nI i)), o1, o2] [] σ := by
  have hb := hw i hi
  have hb3 : ws.getD (1 + i) 0 < 8 := hb
  have hb2 : i = 0 ∨ ws.getD i 0 < 8 := by
    rcases Nat.eq_zero_or_pos i with h | h
    · exact Or.inl h
    · have := hw (i - 1) (by omega)
      rw [show shD ws (i - 1) = ws.getD i 0 from congrArg (fun k => ws.getD k 0) (by omega)] at this
      exact Or.inr this
  have hor := orW_lt (shD ws) i (fun k hk => hw k (by omega))
  refine g_iload eL_alters_9 rfl ?_
  refine g_aload eL_alters_11 rfl ?_
  refine g_push eL_alters_12 ?_
  refine g_ialdN eL_alters_13 (by assumption) (by omega) (by omega) ?_
  refine g_icmp_geN eL_alters_14 (by omega) (by omega) (fun c14 => by exfalso; omega) (fun c14 => ?_)
  refine g_aload eL_alters_17 rfl ?_
  refine g_push eL_alters_18 ?_
  refine g_iload eL_alters_19 rfl ?_
  refine g_iaddN eL_alters_21 ?_
  refine g_ialdN eL_alters_22 (by assumption) (by omega) (by omega) ?_
  refine g_istore eL_alters_23 rfl ?_
  refine g_iload eL_alters_25 rfl ?_
  refine g_iload eL_alters_26 rfl ?_
  refine g_callSp eL_alters_28 kL_18 (l_in (m := nr) (k := shD ws i) (by omega) (by omega)) (by rfl) (by rfl) (by exact Nat.le_of_ble_eq_true rfl) (by exact Nat.le_of_ble_eq_true rfl) (by exact Nat.le_of_ble_eq_true rfl) (Nat.le_refl _) (Nat.le_refl _) ?_
  refine g_istore eL_alters_31 rfl ?_
  refine g_iload eL_alters_33 rfl ?_
  refine g_push eL_alters_34 ?_
  refine g_icmp_neN eL_alters_35 (by omega) (by omega) (fun c35 => by exfalso; omega) (fun c35 => ?_)
  refine g_iload eL_alters_38 rfl ?_
  refine g_if_leN eL_alters_40 (by omega) (fun c40 => ?_) (fun c40 => ?_)
  · refine g_push eL_alters_58 ?_
    refine g_istore eL_alters_59 rfl ?_
    refine g_iload eL_alters_61 rfl ?_
    refine g_push eL_alters_62 ?_
    refine g_icmp_neN eL_alters_63 (by omega) (by omega) (fun c63 => ?_) (fun c63 => by exfalso; omega)
    refine g_iload eL_alters_79 rfl ?_
    refine g_push eL_alters_80 ?_
    refine g_icmp_eqN eL_alters_81 (by omega) (by omega) (fun c81 => by exfalso; omega) (fun c81 => ?_)
    refine g_iload eL_alters_84 rfl ?_
    refine g_push eL_alters_85 ?_
    refine g_icmp_neN eL_alters_86 (by omega) (by omega) (fun c86 => ?_) (fun c86 => by exfalso; omega)
    refine g_iload eL_alters_97 rfl ?_
    refine g_push eL_alters_98 ?_
    refine g_icmp_neN eL_alters_99 (by omega) (by omega) (fun c99 => ?_) (fun c99 => by exfalso; omega)
    first
      | exact l_alters_112 ha hl h0 hw hn hh hi ih2 (isv := false) (by show false = (decide (0 < i) && nr.testBit (shD ws (i - 1))); rw [decide_eq_false (by omega), Bool.false_and])
      | exact l_alters_112 ha hl h0 hw hn hh hi ih2 (isv := false) (by show false = (decide (0 < i) && nr.testBit (shD ws (i - 1))); rw [show shD ws (i - 1) = ws.getD i 0 from congrArg (fun k => ws.getD k 0) (by omega), c51, Bool.and_false])
      | exact l_alters_112 ha hl h0 hw hn hh hi ih2 (isv := true) (by show true = (decide (0 < i) && nr.testBit (shD ws (i - 1))); rw [show shD ws (i - 1) = ws.getD i 0 from congrArg (fun k => ws.getD k 0) (by omega), c51, decide_eq_true (by omega)]; rfl)
  · refine g_iload eL_alters_43 rfl ?_
    refine g_aload eL_alters_44 rfl ?_
    refine g_iload eL_alters_45 rfl ?_
    refine g_ialdN eL_alters_47 (by assumption) (by omega) (by omega) ?_
    refine g_callSp eL_alters_48 kL_18 (l_in (m := nr) (k := ws.getD i 0) (by omega) (by omega)) (by rfl) (by rfl) (by exact Nat.le_of_ble_eq_true rfl) (by exact Nat.le_of_ble_eq_true rfl) (by exact Nat.le_of_ble_eq_true rfl) (Nat.le_refl _) (Nat.le_refl _) ?_
    refine g_if_eqN eL_alters_51 (bt_lt _) (fun c51 => ?_) (fun c51 => ?_)
    · have c51 := bl_0 c51
      refine g_push eL_alters_58 ?_
      refine g_istore eL_alters_59 rfl ?_
      refine g_iload eL_alters_61 rfl ?_
      refine g_push eL_alters_62 ?_
      refine g_icmp_neN eL_alters_63 (by omega) (by omega) (fun c63 => ?_) (fun c63 => by exfalso; omega)
      refine g_iload eL_alters_79 rfl ?_
      refine g_push eL_alters_80 ?_
      refine g_icmp_eqN eL_alters_81 (by omega) (by omega) (fun c81 => by exfalso; omega) (fun c81 => ?_)
      refine g_iload eL_alters_84 rfl ?_
      refine g_push eL_alters_85 ?_
      refine g_icmp_neN eL_alters_86 (by omega) (by omega) (fun c86 => ?_) (fun c86 => by exfalso; omega)
      refine g_iload eL_alters_97 rfl ?_
      refine g_push eL_alters_98 ?_
      refine g_icmp_neN eL_alters_99 (by omega) (by omega) (fun c99 => ?_) (fun c99 => by exfalso; omega)
      first
        | exact l_alters_112 ha hl h0 hw hn hh hi ih2 (isv := false) (by show false = (decide (0 < i) && nr.testBit (shD ws (i - 1))); rw [decide_eq_false (by omega), Bool.false_and])
        | exact l_alters_112 ha hl h0 hw hn hh hi ih2 (isv := false) (by show false = (decide (0 < i) && nr.testBit (shD ws (i - 1))); rw [show shD ws (i - 1) = ws.getD i 0 from congrArg (fun k => ws.getD k 0) (by omega), c51, Bool.and_false])
        | exact l_alters_112 ha hl h0 hw hn hh hi ih2 (isv := true) (by show true = (decide (0 < i) && nr.testBit (shD ws (i - 1))); rw [show shD ws (i - 1) = ws.getD i 0 from congrArg (fun k => ws.getD k 0) (by omega), c51, decide_eq_true (by omega)]; rfl)
    · have c51 := bl_1 c51
      refine g_push eL_alters_54 ?_
      refine g_goto eL_alters_55 ?_
      refine g_istore eL_alters_59 rfl ?_
      refine g_iload eL_alters_61 rfl ?_
      refine g_push eL_alters_62 ?_
      refine g_icmp_neN eL_alters_63 (by omega) (by omega) (fun c63 => ?_) (fun c63 => by exfalso; omega)
      refine g_iload eL_alters_79 rfl ?_
      refine g_push eL_alters_80 ?_
      refine g_icmp_eqN eL_alters_81 (by omega) (by omega) (fun c81 => by exfalso; omega) (fun c81 => ?_)
      refine g_iload eL_alters_84 rfl ?_
      refine g_push eL_alters_85 ?_
      refine g_icmp_neN eL_alters_86 (by omega) (by omega) (fun c86 => ?_) (fun c86 => by exfalso; omega)
      refine g_iload eL_alters_97 rfl ?_
      refine g_push eL_alters_98 ?_
      refine g_icmp_neN eL_alters_99 (by omega) (by omega) (fun c99 => ?_) (fun c99 => by exfalso; omega)
      first
        | exact l_alters_112 ha hl h0 hw hn hh hi ih2 (isv := false) (by show false = (decide (0 < i) && nr.testBit (shD ws (i - 1))); rw [decide_eq_false (by omega), Bool.false_and])
        | exact l_alters_112 ha hl h0 hw hn hh hi ih2 (isv := false) (by show false = (decide (0 < i) && nr.testBit (shD ws (i - 1))); rw [show shD ws (i - 1) = ws.getD i 0 from congrArg (fun k => ws.getD k 0) (by omega), c51, Bool.and_false])
        | exact l_alters_112 ha hl h0 hw hn hh hi ih2 (isv := true) (by show true = (decide (0 < i) && nr.testBit (shD ws (i - 1))); rw [show shD ws (i - 1) = ws.getD i 0 from congrArg (fun k => ws.getD k 0) (by omega), c51, decide_eq_true (by omega)]; rfl)
set_option maxRecDepth 20000 in
theorem l_alters_k4 {σ : aH} {a : Nat} {ws : List Nat} (ha : σ[a]? = some (aA ws)) (hl : ws.length = 26) (h0 : ws.getD 0 0 ≤ 10) (hw : ∀ k, k < ws.getD 0 0 → (shD ws) k < 8) {nr hd : Nat} (hn : nr < 256) (hh : hd < 256) {i : Nat} (hi : i < ws.getD 0 0) {o1 o2 : Option Value} (ih2 : ∀ o1 o2, GL_alters 1 0 0 (aPu (some (.int (nI (msk (altA 4 nr hd (shD ws)) (ws.getD 0 0))))) σ) 0 0 9 [some (.ref a), some (.int (nI 4)), some (.int (nI nr)), some (.int (nI hd)), some (.int (nI (msk (altA 4 nr hd (shD ws)) (i + 1)))), some (.int (nI (orW (shD ws) (i + 1)))), some (.int (nI (i + 1))), o1, o2] [] σ) : GL_alters 1 0 0 (aPu (some (.int (nI (msk (altA 4 nr hd (shD ws)) (ws.getD 0 0))))) σ) 0 0 9 [some (.ref a), some (.int (nI 4)), some (.int (nI nr)), some (.int (nI hd)), some (.int (nI (msk (altA 4 nr hd (shD ws)) i))), some (.int (nI (orW (shD ws) i))), some (.int (nI i)), o1, o2] [] σ := by
  have hb := hw i hi
  have hb3 : ws.getD (1 + i) 0 < 8 := hb
  have hb2 : i = 0 ∨ ws.getD i 0 < 8 := by
    rcases Nat.eq_zero_or_pos i with h | h
    · exact Or.inl h
    · have := hw (i - 1) (by omega)
      rw [show shD ws (i - 1) = ws.getD i 0 from congrArg (fun k => ws.getD k 0) (by omega)] at this
      exact Or.inr this
  have hor := orW_lt (shD ws) i (fun k hk => hw k (by omega))
  refine g_iload eL_alters_9 rfl ?_
  refine g_aload eL_alters_11 rfl ?_
  refine g_push eL_alters_12 ?_
  refine g_ialdN eL_alters_13 (by assumption) (by omega) (by omega) ?_
  refine g_icmp_geN eL_alters_14 (by omega) (by omega) (fun c14 => by exfalso; omega) (fun c14 => ?_)
  refine g_aload eL_alters_17 rfl ?_
  refine g_push eL_alters_18 ?_
  refine g_iload eL_alters_19 rfl ?_
  refine g_iaddN eL_alters_21 ?_
  refine g_ialdN eL_alters_22 (by assumption) (by omega) (by omega) ?_
  refine g_istore eL_alters_23 rfl ?_
  refine g_iload eL_alters_25 rfl ?_
  refine g_iload eL_alters_26 rfl ?_
  refine g_callSp eL_alters_28 kL_18 (l_in (m := nr) (k := shD ws i) (by omega) (by omega)) (by rfl) (by rfl) (by exact Nat.le_of_ble_eq_true rfl) (by exact Nat.le_of_ble_eq_true rfl) (by exact Nat.le_of_ble_eq_true rfl) (Nat.le_refl _) (Nat.le_refl _) ?_
  refine g_istore eL_alters_31 rfl ?_
  refine g_iload eL_alters_33 rfl ?_
  refine g_push eL_alters_34 ?_
  refine g_icmp_neN eL_alters_35 (by omega) (by omega) (fun c35 => ?_) (fun c35 => by exfalso; omega)
  refine g_iload eL_alters_61 rfl ?_
  refine g_push eL_alters_62 ?_
  refine g_icmp_neN eL_alters_63 (by omega) (by omega) (fun c63 => ?_) (fun c63 => by exfalso; omega)
  refine g_iload eL_alters_79 rfl ?_
  refine g_push eL_alters_80 ?_
  refine g_icmp_eqN eL_alters_81 (by omega) (by omega) (fun c81 => by exfalso; omega) (fun c81 => ?_)
  refine g_iload eL_alters_84 rfl ?_
  refine g_push eL_alters_85 ?_
  refine g_icmp_neN eL_alters_86 (by omega) (by omega) (fun c86 => by exfalso; omega) (fun c86 => ?_)
  refine g_iload eL_alters_89 rfl ?_
  refine g_if_neN eL_alters_91 (by omega) (fun c91 => ?_) (fun c91 => ?_)
  · refine g_iload eL_alters_97 rfl ?_
    refine g_push eL_alters_98 ?_
    refine g_icmp_neN eL_alters_99 (by omega) (by omega) (fun c99 => by exfalso; omega) (fun c99 => ?_)
    refine g_iload eL_alters_102 rfl ?_
    refine g_push eL_alters_104 ?_
    refine g_icmp_neN eL_alters_106 (by omega) (by omega) (fun c106 => ?_) (fun c106 => ?_)
    · first
        | exact l_alters_112 ha hl h0 hw hn hh hi ih2 (isv := true) (by show true = (nr.testBit (shD ws i) || decide (i = 0) || decide (shD ws i = 7)); rw [decide_eq_true c106, Bool.or_true])
        | exact l_alters_112 ha hl h0 hw hn hh hi ih2 (isv := true) (by show true = (nr.testBit (shD ws i) || decide (i = 0) || decide (shD ws i = 7)); rw [decide_eq_true c91, Bool.or_true, Bool.true_or])
        | exact l_alters_112 ha hl h0 hw hn hh hi ih2 (isv := nr.testBit (shD ws i)) (by show _ = (nr.testBit (shD ws i) || decide (i = 0) || decide (shD ws i = 7)); rw [decide_eq_false c91, decide_eq_false c106, Bool.or_false, Bool.or_false])
    · refine g_push eL_alters_109 ?_
      refine g_istore eL_alters_110 rfl ?_
      first
        | exact l_alters_112 ha hl h0 hw hn hh hi ih2 (isv := true) (by show true = (nr.testBit (shD ws i) || decide (i = 0) || decide (shD ws i = 7)); rw [decide_eq_true c106, Bool.or_true])
        | exact l_alters_112 ha hl h0 hw hn hh hi ih2 (isv := true) (by show true = (nr.testBit (shD ws i) || decide (i = 0) || decide (shD ws i = 7)); rw [decide_eq_true c91, Bool.or_true, Bool.true_or])
        | exact l_alters_112 ha hl h0 hw hn hh hi ih2 (isv := nr.testBit (shD ws i)) (by show _ = (nr.testBit (shD ws i) || decide (i = 0) || decide (shD ws i = 7)); rw [decide_eq_false c91, decide_eq_false c106, Bool.or_false, Bool.or_false])
  · refine g_push eL_alters_94 ?_
    refine g_istore eL_alters_95 rfl ?_
    refine g_iload eL_alters_97 rfl ?_
    refine g_push eL_alters_98 ?_
    refine g_icmp_neN eL_alters_99 (by omega) (by omega) (fun c99 => by exfalso; omega) (fun c99 => ?_)
    refine g_iload eL_alters_102 rfl ?_
    refine g_push eL_alters_104 ?_
    refine g_icmp_neN eL_alters_106 (by omega) (by omega) (fun c106 => ?_) (fun c106 => ?_)
    · first
        | exact l_alters_112 ha hl h0 hw hn hh hi ih2 (isv := true) (by show true = (nr.testBit (shD ws i) || decide (i = 0) || decide (shD ws i = 7)); rw [decide_eq_true c106, Bool.or_true])
        | exact l_alters_112 ha hl h0 hw hn hh hi ih2 (isv := true) (by show true = (nr.testBit (shD ws i) || decide (i = 0) || decide (shD ws i = 7)); rw [decide_eq_true c91, Bool.or_true, Bool.true_or])
        | exact l_alters_112 ha hl h0 hw hn hh hi ih2 (isv := nr.testBit (shD ws i)) (by show _ = (nr.testBit (shD ws i) || decide (i = 0) || decide (shD ws i = 7)); rw [decide_eq_false c91, decide_eq_false c106, Bool.or_false, Bool.or_false])
    · refine g_push eL_alters_109 ?_
      refine g_istore eL_alters_110 rfl ?_
      first
        | exact l_alters_112 ha hl h0 hw hn hh hi ih2 (isv := true) (by show true = (nr.testBit (shD ws i) || decide (i = 0) || decide (shD ws i = 7)); rw [decide_eq_true c106, Bool.or_true])
        | exact l_alters_112 ha hl h0 hw hn hh hi ih2 (isv := true) (by show true = (nr.testBit (shD ws i) || decide (i = 0) || decide (shD ws i = 7)); rw [decide_eq_true c91, Bool.or_true, Bool.true_or])
        | exact l_alters_112 ha hl h0 hw hn hh hi ih2 (isv := nr.testBit (shD ws i)) (by show _ = (nr.testBit (shD ws i) || decide (i = 0) || decide (shD ws i = 7)); rw [decide_eq_false c91, decide_eq_false c106, Bool.or_false, Bool.or_false])
set_option maxRecDepth 20000 in
theorem l_alters {σ : aH} {a : Nat} {ws : List Nat} (ha : σ[a]? = some (aA ws)) (hl : ws.length = 26) (h0 : ws.getD 0 0 ≤ 10) (hw : ∀ k, k < ws.getD 0 0 → (shD ws) k < 8) {kd nr hd : Nat} (hk : kd ≤ 4) (hn : nr < 256) (hh : hd < 256) : ML_alters 1 0 0 [.ref a, .int (nI kd), .int (nI nr), .int (nI hd)] σ (aPu (some (.int (nI (msk (altA kd nr hd (shD ws)) (ws.getD 0 0))))) σ) := by
  refine sL_alters (Nat.le_of_ble_eq_true rfl) ?_
  have key : ∀ d i, i + d = ws.getD 0 0 → ∀ o1 o2, GL_alters 1 0 0 (aPu (some (.int (nI (msk (altA kd nr hd (shD ws)) (ws.getD 0 0))))) σ) 0 0 9 [some (.ref a), some (.int (nI kd)), some (.int (nI nr)), some (.int (nI hd)), some (.int (nI (msk (altA kd nr hd (shD ws)) i))), some (.int (nI (orW (shD ws) i))), some (.int (nI i)), o1, o2] [] σ := by
    intro d
    induction d with
    | zero =>
      intro i hi o1 o2
      have hlt := msk_lt (altA kd nr hd (shD ws)) (ws.getD 0 0)
      obtain rfl : i = ws.getD 0 0 := by omega
      refine g_iload eL_alters_9 rfl ?_
      refine g_aload eL_alters_11 rfl ?_
      refine g_push eL_alters_12 ?_
      refine g_ialdN eL_alters_13 (by assumption) (by omega) (by omega) ?_
      refine g_icmp_geN eL_alters_14 (by omega) (by omega) (fun c14 => ?_) (fun c14 => by exfalso; omega)
      refine g_iload eL_alters_150 rfl ?_
      exact g_ret (eL_alters_152 _) (Nat.le_refl _) (Nat.le_refl _) ⟨rfl, rfl⟩
    | succ d ih =>
      intro i hi o1 o2
      have ih2 := ih (i + 1) (by omega)
      rcases (show kd = 0 ∨ kd = 1 ∨ kd = 2 ∨ kd = 3 ∨ kd = 4 by omega) with rfl | rfl | rfl | rfl | rfl
      · exact l_alters_k0 ha hl h0 hw hn hh (by omega) ih2
      · exact l_alters_k1 ha hl h0 hw hn hh (by omega) ih2
      · exact l_alters_k2 ha hl h0 hw hn hh (by omega) ih2
      · exact l_alters_k3 ha hl h0 hw hn hh (by omega) ih2
      · exact l_alters_k4 ha hl h0 hw hn hh (by omega) ih2
  refine g_push eL_alters_0 ?_
  refine g_istore eL_alters_1 rfl ?_
  refine g_push eL_alters_3 ?_
  refine g_istore eL_alters_4 rfl ?_
  refine g_push eL_alters_6 ?_
  refine g_istore eL_alters_7 rfl ?_
  exact key _ 0 (Nat.zero_add _) _ _
set_option maxRecDepth 20000 in
theorem l_now {σ : aH} {a b i : Nat} {ws bs : List Nat} (ha : σ[a]? = some (aA ws)) (hb : σ[b]? = some (aA bs)) (hl : ws.length = 26) (hlb : bs.length = 5) (h0 : ws.getD 0 0 ≤ 10) (hw : ∀ k, k < ws.getD 0 0 → (shD ws) k < 8) (hi : i < 4) (hk : ws.getD (13 + i) 0 ≤ 4) (hd : ws.getD (17 + i) 0 ≤ 4) (hn : bs.getD (ws.getD (17 + i) 0) 0 < 256) (hh : ws.getD (21 + i) 0 < 256) : ML_now 2 0 0 [.ref b, .ref a, .int (nI i)] σ (aPu (some (.int (nI (msk (altA (ws.getD (13 + i) 0) (bs.getD (ws.getD (17 + i) 0) 0) (ws.getD (21 + i) 0) (shD ws)) (ws.getD 0 0))))) σ) := by
  refine sL_now (Nat.le_of_ble_eq_true rfl) ?_
  refine g_aload eL_now_0 rfl ?_
  refine g_aload eL_now_1 rfl ?_
  refine g_push eL_now_2 ?_
  refine g_iload eL_now_4 rfl ?_
  refine g_iaddN eL_now_5 ?_
  refine g_ialdN eL_now_6 (by assumption) (by omega) (by omega) ?_
  refine g_aload eL_now_7 rfl ?_
  refine g_aload eL_now_8 rfl ?_
  refine g_push eL_now_9 ?_
  refine g_iload eL_now_11 rfl ?_
  refine g_iaddN eL_now_12 ?_
  refine g_ialdN eL_now_13 (by assumption) (by omega) (by omega) ?_
  refine g_ialdN eL_now_14 (by assumption) (by omega) (by omega) ?_
  refine g_aload eL_now_15 rfl ?_
  refine g_push eL_now_16 ?_
  refine g_iload eL_now_18 rfl ?_
  refine g_iaddN eL_now_19 ?_
  refine g_ialdN eL_now_20 (by assumption) (by omega) (by omega) ?_
  refine g_callSp eL_now_21 kL_31 (l_alters ha hl h0 hw hk hn hh) (by rfl) (by rfl) (by exact Nat.le_of_ble_eq_true rfl) (by exact Nat.le_of_ble_eq_true rfl) (by exact Nat.le_of_ble_eq_true rfl) (Nat.le_refl _) (Nat.le_refl _) ?_
  exact g_ret (eL_now_24 _) (Nat.le_refl _) (Nat.le_refl _) ⟨rfl, rfl⟩
