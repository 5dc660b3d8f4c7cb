/-! THE REFERENCE: its object at 25, its rows at 26 .. 39 -/
abbrev mob (pn : Nat) (x2 x3 x4 : Int32) (lm wd ch ct ac br hm : Nat) (sd kc kl ka kg kd : Int32) (ha : Int64) : aT := aO 12 [.ref 26, .int (nI pn), .int x2, .int x3, .int x4, .ref 27, .ref 28, .int (nI lm), .int (nI wd), .int (nI ch), .int (nI ct), .ref 29, .ref 30, .int (nI ac), .ref 31, .int (nI br), .ref 32, .ref 33, .int (nI hm), .ref 34, .ref 35, .int sd, .ref 36, .int kc, .int kl, .int ka, .int kg, .int kd, .ref 37, .ref 38, .ref 39, .long ha]
/-- a sheet as one number -/
def pk8 (s : List Nat) : Nat := match s with
  | [] => 0
  | x :: l => 8 * pk8 l + x
def CM (c : Cr) (sh rw hs : List Nat) : Prop := sh.length = 10 ∧ rw.length = 12 ∧ hs.length = 40 ∧ (∀ k, k < (shO c).length → sh.getD k 0 = (shO c).getD k 0) ∧ (∀ i, i < (mnO c).length → rw.getD (3 * i) 0 = (manO c i).1 ∧ rw.getD (3 * i + 1) 0 = (manO c i).2.1 ∧ rw.getD (3 * i + 2) 0 = (manO c i).2.2) ∧ (∀ i, i < (hdO c).length → hs.getD (5 * i) 0 = ((hdO c).getD i h0).1 ∧ hs.getD (5 * i + 1) 0 = ((hdO c).getD i h0).2.1 ∧ hs.getD (5 * i + 2) 0 = ((hdO c).getD i h0).2.2.1.toNat ∧ hs.getD (5 * i + 3) 0 = ((hdO c).getD i h0).2.2.2.1 ∧ hs.getD (5 * i + 4) 0 = pk8 ((hdO c).getD i h0).2.2.2.2)
def IM (t : St) (σ : aH) : Prop := ∃ (pg rn rs nr sh rw ro he hs th dr ks kr kh : List Nat) (x2 x3 x4 sd kc kl ka kg kd : Int32) (ha : Int64),
  σ[25]? = some (mob (pgO t).length x2 x3 x4 (lmO (crO t)) (shO (crO t)).length (chO (crO t)) (ctO t) (mnO (crO t)).length (brO t) (hdO (crO t)).length sd kc kl ka kg kd ha) ∧ σ[26]? = some (aA pg) ∧ σ[27]? = some (aA rn) ∧ σ[28]? = some (aA rs) ∧ σ[29]? = some (aA nr) ∧ σ[30]? = some (aA sh) ∧ σ[31]? = some (aA rw) ∧ σ[32]? = some (aA ro) ∧ σ[33]? = some (aA he) ∧ σ[34]? = some (aA hs) ∧ σ[35]? = some (aA th) ∧ σ[36]? = some (aA dr) ∧ σ[37]? = some (aA ks) ∧ σ[38]? = some (aA kr) ∧ σ[39]? = some (aA kh) ∧
  pg.length = 28 ∧ rn.length = 5 ∧ rs.length = 10 ∧ nr.length = 5 ∧ ro.length = 4 ∧ he.length = 5 ∧ th.length = 10 ∧ dr.length = 10 ∧ ks.length = 10 ∧ kr.length = 12 ∧ kh.length = 40 ∧
  (∀ k, k < (pgO t).length → pg.getD k 0 = (pgO t).getD k 0) ∧ (∀ d, d < 5 → nr.getD d 0 = (nrO t).getD d 0) ∧ CM (crO t) sh rw hs ∧
  (imO t = none → kc.toInt < (ctO t : Int)) ∧ (∀ c, imO t = some c → kc = nI (ctO t) ∧ kl = nI (lmO c) ∧ ka = nI (mnO c).length ∧ kg = nI (chO c) ∧ kd = nI (hdO c).length ∧ CM c ks kr kh ∧ (shO c).length = (shO (crO t)).length)
abbrev lM : List Nat := [25, 26, 27, 28, 29, 30, 31, 32, 33, 34, 35, 36, 37, 38, 39]
abbrev FrM (σ σ' : aH) : Prop := EqO lM σ σ'
theorem EqO.sr {l : List Nat} {σ τ : aH} (h : EqO l σ τ) {i : Nat} {c d : aT} (hi : i ∈ l) (_ : σ[i]? = some d) : EqO l σ (τ.set i c) := h.st hi
theorem lgc_lt {x y : Int64} : lg_cmp x y < 0 ↔ x.toInt < y.toInt := by
  have h := lg_cmp_ge x y
  rw [Int64.le_iff_toInt_le, Int32.le_iff_toInt_le] at h
  rw [Int32.lt_iff_toInt_lt]
  have h0 : (0 : Int32).toInt = 0 := rfl
  rw [h0] at h ⊢
  omega
theorem lgc_gt {x y : Int64} : 0 < lg_cmp x y ↔ y.toInt < x.toInt := by
  unfold lg_cmp
  by_cases h : y < x
  · rw [if_pos h]
    exact ⟨fun _ => Int64.lt_iff_toInt_lt.mp h, fun _ => by decide⟩
  · rw [if_neg h]
    rw [Int64.lt_iff_toInt_lt] at h
    refine ⟨fun z => ?_, fun z => absurd z h⟩
    exfalso
    split at z <;> exact absurd z (by decide)
theorem in_t {v a b : Int64} (h1 : ¬ lg_cmp v a < 0) (h2 : ¬ 0 < lg_cmp v b) : a.toInt ≤ v.toInt ∧ v.toInt ≤ b.toInt := by
  rw [lgc_lt] at h1
  rw [lgc_gt] at h2
  omega
theorem in_f1 {v a b : Int64} (h1 : lg_cmp v a < 0) : ¬ (a.toInt ≤ v.toInt ∧ v.toInt ≤ b.toInt) := by
  rw [lgc_lt] at h1
  omega
theorem in_f2 {v a b : Int64} (h1 : 0 < lg_cmp v b) : ¬ (a.toInt ≤ v.toInt ∧ v.toInt ≤ b.toInt) := by
  rw [lgc_gt] at h1
  omega
set_option maxRecDepth 20000 in
theorem c_in {σ : aH} {v a b : Int64} : MX12_in 0 0 0 [.long v, .long a, .long b] σ (aPu (some (.int (nI (decide (a.toInt ≤ v.toInt ∧ v.toInt ≤ b.toInt)).toNat))) σ) := by
  refine sX12_in (Nat.le_of_ble_eq_true rfl) ?_
  refine g_lload eX12_in_0 rfl ?_
  refine g_lload eX12_in_1 rfl ?_
  refine g_lcmp eX12_in_2 ?_
  refine g_if_lt eX12_in_3 (fun c3 => ?_) (fun c3 => ?_)
  · refine g_push eX12_in_17 ?_
    exact g_ret (eX12_in_18 _ (by first | exact Or.inl rfl | exact Or.inr rfl)) (Nat.le_refl _) (Nat.le_refl _) ⟨by first | (rw [decide_eq_true (in_t c3 c10)]; rfl) | (rw [decide_eq_false (in_f1 c3)]; rfl) | (rw [decide_eq_false (in_f2 c10)]; rfl), rfl⟩
  · refine g_lload eX12_in_6 rfl ?_
    refine g_lload eX12_in_7 rfl ?_
    refine g_lcmp eX12_in_9 ?_
    refine g_if_gt eX12_in_10 (fun c10 => ?_) (fun c10 => ?_)
    · refine g_push eX12_in_17 ?_
      exact g_ret (eX12_in_18 _ (by first | exact Or.inl rfl | exact Or.inr rfl)) (Nat.le_refl _) (Nat.le_refl _) ⟨by first | (rw [decide_eq_true (in_t c3 c10)]; rfl) | (rw [decide_eq_false (in_f1 c3)]; rfl) | (rw [decide_eq_false (in_f2 c10)]; rfl), rfl⟩
    · refine g_push eX12_in_13 ?_
      refine g_goto eX12_in_14 ?_
      exact g_ret (eX12_in_18 _ (by first | exact Or.inl rfl | exact Or.inr rfl)) (Nat.le_refl _) (Nat.le_refl _) ⟨by first | (rw [decide_eq_true (in_t c3 c10)]; rfl) | (rw [decide_eq_false (in_f1 c3)]; rfl) | (rw [decide_eq_false (in_f2 c10)]; rfl), rfl⟩
theorem c_inT {σ : aH} {x : Int32} {a b : Int64} {lo n j : Nat} (e : rg x lo n = some j) (ha : a.toInt = (lo : Int)) (hb : b.toInt = (n : Int) - 1) : MX12_in 0 0 0 [.long x.toInt64, .long a, .long b] σ (aPu (some (.int (nI 1))) σ) := c_in.weaken (fun v σ' h => by
  obtain ⟨rfl, rfl⟩ := h
  unfold rg at e
  split at e
  · rename_i hc
    rw [decide_eq_true (show a.toInt ≤ x.toInt64.toInt ∧ x.toInt64.toInt ≤ b.toInt by rw [Int32.toInt_toInt64]; omega)]
    exact ⟨rfl, rfl⟩
  · cases e)
theorem c_inN {σ : aH} {x : Int32} {a b : Int64} {lo n : Nat} (e : rg x lo n = none) (ha : a.toInt = (lo : Int)) (hb : b.toInt = (n : Int) - 1) : MX12_in 0 0 0 [.long x.toInt64, .long a, .long b] σ (aPu (some (.int (nI 0))) σ) := c_in.weaken (fun v σ' h => by
  obtain ⟨rfl, rfl⟩ := h
  have hr := rg_none e
  rw [decide_eq_false (show ¬ (a.toInt ≤ x.toInt64.toInt ∧ x.toInt64.toInt ≤ b.toInt) by rw [Int32.toInt_toInt64]; omega)]
  exact ⟨rfl, rfl⟩)
theorem sub1_to {w : Nat} (hw : w ≤ 10) : (nI w - nI 1).toInt64.toInt = (w : Int) - 1 := co_dec (N := 11) (P := fun w => (nI w - nI 1).toInt64.toInt = (w : Int) - 1) (by decide +kernel) (by omega)
theorem list_eq {l m : List Nat} (h : l.length = m.length) (h2 : ∀ j, j < m.length → l.getD j 0 = m.getD j 0) : l = m := by
  apply List.ext_getElem?
  intro i
  by_cases hi : i < m.length
  · have h3 := h2 i hi
    rw [List.getD_eq_getElem?_getD, List.getD_eq_getElem?_getD, List.getElem?_eq_getElem hi, List.getElem?_eq_getElem (h ▸ hi)] at h3
    rw [List.getElem?_eq_getElem hi, List.getElem?_eq_getElem (h ▸ hi)]
    exact congrArg some h3
  · rw [List.getElem?_eq_none (by omega), List.getElem?_eq_none (by omega)]
theorem set_same {σ : aH} {i : Nat} {c : aT} (h : σ[i]? = some c) : σ.set i c = σ := by
  apply List.ext_getElem?
  intro j
  rw [List.getElem?_set]
  by_cases e : i = j
  · subst e
    rw [if_pos rfl, if_pos (List.getElem?_eq_some_iff.mp h).1, h]
  · rw [if_neg e]
set_option maxRecDepth 20000 in
theorem c_copy {σ : aH} {a b : Nat} {xs ys : List Nat} (hab : b ≠ a) (h1 : σ[a]? = some (aA xs)) (h2 : σ[b]? = some (aA ys)) (hl : ys.length = xs.length) (hs : xs.length < 65536) : MX12_copy 0 0 0 [.ref a, .ref b] σ (aPu none (σ.set b (aA xs))) := by
  refine sX12_copy (Nat.le_of_ble_eq_true rfl) ?_
  have key : ∀ d j ys', j + d = xs.length → ys'.length = xs.length → (∀ i, i < j → ys'.getD i 0 = xs.getD i 0) → GX12_copy 0 0 0 (aPu none (σ.set b (aA xs))) 0 0 2 [some (.ref a), some (.ref b), some (.int (nI j))] [] (σ.set b (aA ys')) := by
    intro d
    induction d with
    | zero =>
      intro j ys' hj hl' hy
      obtain rfl : j = xs.length := by omega
      obtain rfl := list_eq hl' hy
      refine g_iload eX12_copy_2 rfl ?_
      refine g_aload eX12_copy_3 rfl ?_
      refine g_ilenN eX12_copy_4 (at_ne hab h1) ?_
      refine g_icmp_geN eX12_copy_5 (by omega) (by omega) (fun c5 => ?_) (fun c5 => by exfalso; omega)
      exact g_ret eX12_copy_20 (Nat.le_refl _) (Nat.le_refl _) ⟨rfl, rfl⟩
    | succ d ih =>
      intro j ys' hj hl' hy
      refine g_iload eX12_copy_2 rfl ?_
      refine g_aload eX12_copy_3 rfl ?_
      refine g_ilenN eX12_copy_4 (at_ne hab h1) ?_
      refine g_icmp_geN eX12_copy_5 (by omega) (by omega) (fun c5 => by exfalso; omega) (fun c5 => ?_)
      refine g_aload eX12_copy_8 rfl ?_
      refine g_iload eX12_copy_9 rfl ?_
      refine g_aload eX12_copy_10 rfl ?_
      refine g_iload eX12_copy_11 rfl ?_
      refine g_ialdN eX12_copy_12 (at_ne hab h1) (by omega) (by omega) ?_
      refine g_iastN eX12_copy_13 (at_eq h2) (by omega) (by omega) ?_
      refine g_iincN eX12_copy_14 rfl rfl ?_
      refine g_goto eX12_copy_17 ?_
      rw [List.set_set]
      refine ih (j + 1) _ (by omega) (by rw [List.length_set]; exact hl') (fun i hi => ?_)
      rw [getD_set]
      by_cases hij : j = i
      · rw [if_pos ⟨hij, by omega⟩, hij]
      · rw [if_neg (fun z => hij z.1)]
        exact hy i (by omega)
  have hb0 : σ.set b (aA ys) = σ := by
    exact set_same h2
  refine g_push eX12_copy_0 ?_
  refine g_istore eX12_copy_1 rfl ?_
  have := key xs.length 0 ys (by omega) hl (fun i hi => absurd hi (Nat.not_lt_zero i))
  rw [hb0] at this
  exact this
set_option maxRecDepth 20000 in
theorem c_ones {σ : aH} {m : Nat} (hm : m < 2147483648) : MX12_ones 0 0 0 [.int (nI m)] σ (aPu (some (.int (nI (popc m)))) σ) := by
  refine sX12_ones (Nat.le_of_ble_eq_true rfl) ?_
  have key : ∀ d j, j + d = 10 → GX12_ones 0 0 0 (aPu (some (.int (nI (popc m)))) σ) 0 0 4 [some (.int (nI m)), some (.int (nI (cnt (fun i => m.testBit i) j))), some (.int (nI j))] [] σ := by
    intro d
    induction d with
    | zero =>
      intro j hj
      obtain rfl : j = 10 := by omega
      refine g_iload eX12_ones_4 rfl ?_
      refine g_push eX12_ones_5 ?_
      refine g_icmp_geN eX12_ones_7 (by omega) (by omega) (fun c7 => ?_) (fun c7 => by exfalso; omega)
      refine g_iload eX12_ones_24 rfl ?_
      exact g_ret (eX12_ones_25 _) (Nat.le_refl _) (Nat.le_refl _) ⟨rfl, rfl⟩
    | succ d ih =>
      intro j hj
      refine g_iload eX12_ones_4 rfl ?_
      refine g_push eX12_ones_5 ?_
      refine g_icmp_geN eX12_ones_7 (by omega) (by omega) (fun c7 => by exfalso; omega) (fun c7 => ?_)
      refine g_iload eX12_ones_10 rfl ?_
      refine g_iload eX12_ones_11 rfl ?_
      refine g_iload eX12_ones_12 rfl ?_
      refine g_ishrN eX12_ones_13 (by omega) (by omega) ?_
      refine g_push eX12_ones_14 ?_
      refine g_iandN eX12_ones_15 ?_
      refine g_iaddN eX12_ones_16 ?_
      refine g_istore eX12_ones_17 rfl ?_
      refine g_iincN eX12_ones_18 rfl rfl ?_
      refine g_goto eX12_ones_21 ?_
      rw [nbit]
      exact ih (j + 1) (by omega)
  refine g_push eX12_ones_0 ?_
  refine g_istore eX12_ones_1 rfl ?_
  refine g_push eX12_ones_2 ?_
  refine g_istore eX12_ones_3 rfl ?_
  exact key 10 0 rfl
theorem m1_bit : ∀ j, j < 10 → ((-1 : Int32) >>> (nI j &&& 31)) &&& nI 1 = nI 1 := by decide +kernel
set_option maxRecDepth 20000 in
theorem c_ones1 {σ : aH} : MX12_ones 0 0 0 [.int (-1)] σ (aPu (some (.int (nI 10))) σ) := by
  refine sX12_ones (Nat.le_of_ble_eq_true rfl) ?_
  have key : ∀ d j, j + d = 10 → GX12_ones 0 0 0 (aPu (some (.int (nI 10))) σ) 0 0 4 [some (.int (-1)), some (.int (nI j)), some (.int (nI j))] [] σ := by
    intro d
    induction d with
    | zero =>
      intro j hj
      obtain rfl : j = 10 := by omega
      refine g_iload eX12_ones_4 rfl ?_
      refine g_push eX12_ones_5 ?_
      refine g_icmp_geN eX12_ones_7 (by omega) (by omega) (fun c7 => ?_) (fun c7 => by exfalso; omega)
      refine g_iload eX12_ones_24 rfl ?_
      exact g_ret (eX12_ones_25 _) (Nat.le_refl _) (Nat.le_refl _) ⟨rfl, rfl⟩
    | succ d ih =>
      intro j hj
      refine g_iload eX12_ones_4 rfl ?_
      refine g_push eX12_ones_5 ?_
      refine g_icmp_geN eX12_ones_7 (by omega) (by omega) (fun c7 => by exfalso; omega) (fun c7 => ?_)
      refine g_iload eX12_ones_10 rfl ?_
      refine g_iload eX12_ones_11 rfl ?_
      refine g_iload eX12_ones_12 rfl ?_
      refine g_ishr eX12_ones_13 ?_
      refine g_push eX12_ones_14 ?_
      refine g_iand eX12_ones_15 ?_
      rw [m1_bit j (by omega)]
      refine g_iaddN eX12_ones_16 ?_
      refine g_istore eX12_ones_17 rfl ?_
      refine g_iincN eX12_ones_18 rfl rfl ?_
      refine g_goto eX12_ones_21 ?_
      exact ih (j + 1) (by omega)
  refine g_push eX12_ones_0 ?_
  refine g_istore eX12_ones_1 rfl ?_
  refine g_push eX12_ones_2 ?_
  refine g_istore eX12_ones_3 rfl ?_
  exact key 10 0 rfl
set_option maxRecDepth 20000 in
theorem c_mlacks {σ : aH} {pn lm wd ch ct ac br hm : Nat} {x2 x3 x4 sd kc kl ka kg kd : Int32} {ha : Int64} (e25 : σ[25]? = some (mob pn x2 x3 x4 lm wd ch ct ac br hm sd kc kl ka kg kd ha)) (hw : wd ≤ 10) : MX12_lacks 0 0 0 [.ref 25] σ (aPu (some (.int (nI (decide (wd = 0)).toNat))) σ) := by
  refine sX12_lacks (Nat.le_of_ble_eq_true rfl) ?_
  refine g_aload eX12_lacks_0 rfl ?_
  refine g_get eX12_lacks_1 fX12_84_X12 e25 (by rfl) ?_
  refine g_if_neN eX12_lacks_4 (by omega) (fun c4 => ?_) (fun c4 => ?_)
  · refine g_push eX12_lacks_11 ?_
    exact g_ret (eX12_lacks_12 _ (by first | exact Or.inl rfl | exact Or.inr rfl)) (Nat.le_refl _) (Nat.le_refl _) ⟨by first | (rw [decide_eq_true c4]; rfl) | (rw [decide_eq_false c4]; rfl), rfl⟩
  · refine g_push eX12_lacks_7 ?_
    refine g_goto eX12_lacks_8 ?_
    exact g_ret (eX12_lacks_12 _ (by first | exact Or.inl rfl | exact Or.inr rfl)) (Nat.le_refl _) (Nat.le_refl _) ⟨by first | (rw [decide_eq_true c4]; rfl) | (rw [decide_eq_false c4]; rfl), rfl⟩
set_option maxRecDepth 20000 in
theorem c_isPlaceT {σ : aH} {pn lm wd ch ct ac br hm : Nat} {x2 x3 x4 sd kc kl ka kg kd : Int32} {ha : Int64} (e25 : σ[25]? = some (mob pn x2 x3 x4 lm wd ch ct ac br hm sd kc kl ka kg kd ha)) (hw : wd ≤ 10) {x : Int32} {j : Nat} (e : rg x 0 wd = some j) : MX12_isPlace 1 0 0 [.ref 25, .int x] σ (aPu (some (.int (nI 1))) σ) := by
  refine sX12_isPlace (Nat.le_of_ble_eq_true rfl) ?_
  refine g_iload eX12_isPlace_0 rfl ?_
  refine g_i2l eX12_isPlace_1 ?_
  refine g_lconst eX12_isPlace_2 rfl ?_
  refine g_aload eX12_isPlace_3 rfl ?_
  refine g_get eX12_isPlace_4 fX12_84_X12 e25 (by rfl) ?_
  refine g_push eX12_isPlace_7 ?_
  refine g_isub eX12_isPlace_8 ?_
  refine g_i2l eX12_isPlace_9 ?_
  refine g_callSp eX12_isPlace_10 kX12_58 (c_inT e rfl (by rw [sub1_to hw])) (by rfl) (by rfl) (by exact Nat.le_of_ble_eq_true rfl) (by exact Nat.le_of_ble_eq_true rfl) (by exact Nat.le_of_ble_eq_true rfl) (Nat.le_refl _) (Nat.le_refl _) ?_
  exact g_ret (eX12_isPlace_13 _ (by first | exact Or.inl rfl | exact Or.inr rfl)) (Nat.le_refl _) (Nat.le_refl _) ⟨rfl, rfl⟩
set_option maxRecDepth 20000 in
theorem c_isPlaceN {σ : aH} {pn lm wd ch ct ac br hm : Nat} {x2 x3 x4 sd kc kl ka kg kd : Int32} {ha : Int64} (e25 : σ[25]? = some (mob pn x2 x3 x4 lm wd ch ct ac br hm sd kc kl ka kg kd ha)) (hw : wd ≤ 10) {x : Int32} (e : rg x 0 wd = none) : MX12_isPlace 1 0 0 [.ref 25, .int x] σ (aPu (some (.int (nI 0))) σ) := by
  refine sX12_isPlace (Nat.le_of_ble_eq_true rfl) ?_
  refine g_iload eX12_isPlace_0 rfl ?_
  refine g_i2l eX12_isPlace_1 ?_
  refine g_lconst eX12_isPlace_2 rfl ?_
  refine g_aload eX12_isPlace_3 rfl ?_
  refine g_get eX12_isPlace_4 fX12_84_X12 e25 (by rfl) ?_
  refine g_push eX12_isPlace_7 ?_
  refine g_isub eX12_isPlace_8 ?_
  refine g_i2l eX12_isPlace_9 ?_
  refine g_callSp eX12_isPlace_10 kX12_58 (c_inN e rfl (by rw [sub1_to hw])) (by rfl) (by rfl) (by exact Nat.le_of_ble_eq_true rfl) (by exact Nat.le_of_ble_eq_true rfl) (by exact Nat.le_of_ble_eq_true rfl) (Nat.le_refl _) (Nat.le_refl _) ?_
  exact g_ret (eX12_isPlace_13 _ (by first | exact Or.inl rfl | exact Or.inr rfl)) (Nat.le_refl _) (Nat.le_refl _) ⟨rfl, rfl⟩
set_option maxRecDepth 20000 in
theorem c_isAccT {σ : aH} {pn lm wd ch ct ac br hm : Nat} {x2 x3 x4 sd kc kl ka kg kd : Int32} {ha : Int64} (e25 : σ[25]? = some (mob pn x2 x3 x4 lm wd ch ct ac br hm sd kc kl ka kg kd ha)) (hw : ac ≤ 10) {x : Int32} {j : Nat} (e : rg x 0 ac = some j) : MX12_isAccused 1 0 0 [.ref 25, .int x] σ (aPu (some (.int (nI 1))) σ) := by
  refine sX12_isAccused (Nat.le_of_ble_eq_true rfl) ?_
  refine g_iload eX12_isAccused_0 rfl ?_
  refine g_i2l eX12_isAccused_1 ?_
  refine g_lconst eX12_isAccused_2 rfl ?_
  refine g_aload eX12_isAccused_3 rfl ?_
  refine g_get eX12_isAccused_4 fX12_97_X12 e25 (by rfl) ?_
  refine g_push eX12_isAccused_7 ?_
  refine g_isub eX12_isAccused_8 ?_
  refine g_i2l eX12_isAccused_9 ?_
  refine g_callSp eX12_isAccused_10 kX12_58 (c_inT e rfl (by rw [sub1_to hw])) (by rfl) (by rfl) (by exact Nat.le_of_ble_eq_true rfl) (by exact Nat.le_of_ble_eq_true rfl) (by exact Nat.le_of_ble_eq_true rfl) (Nat.le_refl _) (Nat.le_refl _) ?_
  exact g_ret (eX12_isAccused_13 _ (by first | exact Or.inl rfl | exact Or.inr rfl)) (Nat.le_refl _) (Nat.le_refl _) ⟨rfl, rfl⟩
set_option maxRecDepth 20000 in
theorem c_isAccN {σ : aH} {pn lm wd ch ct ac br hm : Nat} {x2 x3 x4 sd kc kl ka kg kd : Int32} {ha : Int64} (e25 : σ[25]? = some (mob pn x2 x3 x4 lm wd ch ct ac br hm sd kc kl ka kg kd ha)) (hw : ac ≤ 10) {x : Int32} (e : rg x 0 ac = none) : MX12_isAccused 1 0 0 [.ref 25, .int x] σ (aPu (some (.int (nI 0))) σ) := by
  refine sX12_isAccused (Nat.le_of_ble_eq_true rfl) ?_
  refine g_iload eX12_isAccused_0 rfl ?_
  refine g_i2l eX12_isAccused_1 ?_
  refine g_lconst eX12_isAccused_2 rfl ?_
  refine g_aload eX12_isAccused_3 rfl ?_
  refine g_get eX12_isAccused_4 fX12_97_X12 e25 (by rfl) ?_
  refine g_push eX12_isAccused_7 ?_
  refine g_isub eX12_isAccused_8 ?_
  refine g_i2l eX12_isAccused_9 ?_
  refine g_callSp eX12_isAccused_10 kX12_58 (c_inN e rfl (by rw [sub1_to hw])) (by rfl) (by rfl) (by exact Nat.le_of_ble_eq_true rfl) (by exact Nat.le_of_ble_eq_true rfl) (by exact Nat.le_of_ble_eq_true rfl) (Nat.le_refl _) (Nat.le_refl _) ?_
  exact g_ret (eX12_isAccused_13 _ (by first | exact Or.inl rfl | exact Or.inr rfl)) (Nat.le_refl _) (Nat.le_refl _) ⟨rfl, rfl⟩
set_option maxRecDepth 20000 in
theorem m_letter {σ : aH} {t : St} (hI : IM t σ) (hwf : WF t) {x : Int32} : MX12_letter 1 0 0 [.ref 25, .int x] σ (fun v σ' => v = some (.int (oLetter t x).1) ∧ IM (oLetter t x).2 σ' ∧ FrM σ σ') := by
  refine sX12_letter (Nat.le_of_ble_eq_true rfl) ?_
  have hI' := hI
  have hwf' := hwf
  have hSs := hwf.hS
  obtain ⟨pg, rn, rs, nr, sh, rw, ro, he, hs, th, dr, ks, kr, kh, x2, x3, x4, sd, kc, kl, ka, kg, kd, ha, e25, e26, e27, e28, e29, e30, e31, e32, e33, e34, e35, e36, e37, e38, e39, lpg, lrn, lrs, lnr, lro, lhe, lth, ldr, lks, lkr, lkh, hpg, hnr, ⟨lsh, lrw, lhs, hsh, hrw, hhs⟩, hk0, hk1⟩ := hI
  obtain ⟨w1, w2, w3, w4, w5, ⟨w6, w7, w8, w9, w10, w11, w12⟩, w13, w14, w15, w16, w17⟩ := hwf
  unfold oLetter
  cases e : rg x 1 127 with
  | none =>
    dsimp only
    refine g_iload eX12_letter_0 rfl ?_
    refine g_i2l eX12_letter_1 ?_
    refine g_lconst eX12_letter_2 rfl ?_
    refine g_ldc2 eX12_letter_3 lX12_56 ?_
    refine g_callSp eX12_letter_6 kX12_58 (c_inN e rfl rfl) (by rfl) (by rfl) (by exact Nat.le_of_ble_eq_true rfl) (by exact Nat.le_of_ble_eq_true rfl) (by exact Nat.le_of_ble_eq_true rfl) (Nat.le_refl _) (Nat.le_refl _) ?_
    refine g_if_neN eX12_letter_9 (by omega) (fun c9 => absurd rfl c9) (fun c9 => ?_)
    refine g_push eX12_letter_12 ?_
    exact g_ret (eX12_letter_14 _) (Nat.le_refl _) (Nat.le_refl _) ⟨rfl, hI', EqO.rf⟩
  | some c =>
    dsimp only
    have e' := e
    obtain ⟨rfl, hc1, hc2⟩ := rg_some e
    refine g_iload eX12_letter_0 rfl ?_
    refine g_i2l eX12_letter_1 ?_
    refine g_lconst eX12_letter_2 rfl ?_
    refine g_ldc2 eX12_letter_3 lX12_56 ?_
    refine g_callSp eX12_letter_6 kX12_58 (c_inT e' rfl rfl) (by rfl) (by rfl) (by exact Nat.le_of_ble_eq_true rfl) (by exact Nat.le_of_ble_eq_true rfl) (by exact Nat.le_of_ble_eq_true rfl) (Nat.le_refl _) (Nat.le_refl _) ?_
    refine g_if_neN eX12_letter_9 (by omega) (fun c9 => ?_) (fun c9 => absurd c9 (by decide))
    refine g_aload eX12_letter_15 rfl ?_
    refine g_get eX12_letter_16 fX12_62_X12 e25 (by rfl) ?_
    refine g_push eX12_letter_19 ?_
    refine g_icmp_neN eX12_letter_21 (by omega) (by omega) (fun c21 => ?_) (fun c21 => ?_)
    · refine g_aload eX12_letter_27 rfl ?_
      refine g_get eX12_letter_28 fX12_7_X12 e25 (by rfl) ?_
      refine g_aload eX12_letter_31 rfl ?_
      refine g_get eX12_letter_32 fX12_62_X12 e25 (by rfl) ?_
      refine g_iload eX12_letter_35 rfl ?_
      refine g_iastN eX12_letter_36 e26 (by omega) (by omega) ?_
      refine g_aload eX12_letter_37 rfl ?_
      refine g_dup eX12_letter_38 rfl ?_
      refine g_get eX12_letter_39 fX12_62_X12 (at_ne (by decide) e25) (by rfl) ?_
      refine g_push eX12_letter_42 ?_
      refine g_iaddN eX12_letter_43 ?_
      refine g_putI eX12_letter_44 fX12_62_X12 pX12_1 (at_ne (by decide) e25) (by exact Nat.le_of_ble_eq_true rfl) ?_
      refine g_aload eX12_letter_47 rfl ?_
      refine g_get eX12_letter_48 fX12_62_X12 (at_eq (at_ne (by decide) e25)) (by rfl) ?_
      exact g_ret (eX12_letter_51 _) (Nat.le_refl _) (Nat.le_refl _) (by
        rw [if_pos (show (pgO t).length < 28 by omega)]
        have hl : (pgO t ++ [c]).length = (pgO t).length + 1 := by simp
        refine ⟨rfl, ⟨_, _, _, _, _, _, _, _, _, _, _, _, _, _, _, _, _, _, _, _, _, _, _, _, (by show _ = some (mob (pgO t ++ [c]).length _ _ _ _ _ _ _ _ _ _ _ _ _ _ _ _ _); rw [hl]; exact at_eq (at_ne (by decide) e25)), (at_ne (by decide) (at_eq e26)), (at_ne (by decide) (at_ne (by decide) e27)), (at_ne (by decide) (at_ne (by decide) e28)), (at_ne (by decide) (at_ne (by decide) e29)), (at_ne (by decide) (at_ne (by decide) e30)), (at_ne (by decide) (at_ne (by decide) e31)), (at_ne (by decide) (at_ne (by decide) e32)), (at_ne (by decide) (at_ne (by decide) e33)), (at_ne (by decide) (at_ne (by decide) e34)), (at_ne (by decide) (at_ne (by decide) e35)), (at_ne (by decide) (at_ne (by decide) e36)), (at_ne (by decide) (at_ne (by decide) e37)), (at_ne (by decide) (at_ne (by decide) e38)), (at_ne (by decide) (at_ne (by decide) e39)), (by rw [List.length_set]; exact lpg), lrn, lrs, lnr, lro, lhe, lth, ldr, lks, lkr, lkh, (fun k hk => ?_), hnr, ⟨lsh, lrw, lhs, hsh, hrw, hhs⟩, hk0, hk1⟩, ?_⟩
        · have hk2 : k < (pgO t ++ [c]).length := hk
          rw [hl] at hk2
          show _ = (pgO t ++ [c]).getD k 0
          rw [getD_set, getD_app]
          by_cases h : k < (pgO t).length
          · rw [if_neg (by omega), if_pos h]
            exact hpg k h
          · rw [if_pos (by omega), if_neg h, if_pos (by omega)]
        · exact (EqO.rf.st (by decide)).st (by decide))
    · refine g_push eX12_letter_24 ?_
      exact g_ret (eX12_letter_26 _) (Nat.le_refl _) (Nat.le_refl _) (by rw [if_neg (show ¬ (pgO t).length < 28 by omega)]; exact ⟨rfl, hI', EqO.rf⟩)
set_option maxRecDepth 20000 in
theorem m_blank {σ : aH} {t : St} (hI : IM t σ) (hwf : WF t)  : MX12_blank 0 0 0 [.ref 25] σ (fun v σ' => v = some (.int (oBlank t).1) ∧ IM (oBlank t).2 σ' ∧ FrM σ σ') := by
  refine sX12_blank (Nat.le_of_ble_eq_true rfl) ?_
  have hI' := hI
  have hwf' := hwf
  have hSs := hwf.hS
  obtain ⟨pg, rn, rs, nr, sh, rw, ro, he, hs, th, dr, ks, kr, kh, x2, x3, x4, sd, kc, kl, ka, kg, kd, ha, e25, e26, e27, e28, e29, e30, e31, e32, e33, e34, e35, e36, e37, e38, e39, lpg, lrn, lrs, lnr, lro, lhe, lth, ldr, lks, lkr, lkh, hpg, hnr, ⟨lsh, lrw, lhs, hsh, hrw, hhs⟩, hk0, hk1⟩ := hI
  obtain ⟨w1, w2, w3, w4, w5, ⟨w6, w7, w8, w9, w10, w11, w12⟩, w13, w14, w15, w16, w17⟩ := hwf
  refine g_aload eX12_blank_0 rfl ?_
  refine g_get eX12_blank_1 fX12_62_X12 e25 (by rfl) ?_
  refine g_istore eX12_blank_4 rfl ?_
  refine g_aload eX12_blank_5 rfl ?_
  refine g_push eX12_blank_6 ?_
  refine g_putI eX12_blank_7 fX12_62_X12 pX12_1 e25 (by exact Nat.le_of_ble_eq_true rfl) ?_
  refine g_iload eX12_blank_10 rfl ?_
  exact g_ret (eX12_blank_11 _) (Nat.le_refl _) (Nat.le_refl _) ⟨rfl, ⟨_, _, _, _, _, _, _, _, _, _, _, _, _, _, _, _, _, _, _, _, _, _, _, _, (at_eq e25), (at_ne (by decide) e26), (at_ne (by decide) e27), (at_ne (by decide) e28), (at_ne (by decide) e29), (at_ne (by decide) e30), (at_ne (by decide) e31), (at_ne (by decide) e32), (at_ne (by decide) e33), (at_ne (by decide) e34), (at_ne (by decide) e35), (at_ne (by decide) e36), (at_ne (by decide) e37), (at_ne (by decide) e38), (at_ne (by decide) e39), lpg, lrn, lrs, lnr, lro, lhe, lth, ldr, lks, lkr, lkh, (fun k hk => absurd hk (Nat.not_lt_zero k)), hnr, ⟨lsh, lrw, lhs, hsh, hrw, hhs⟩, hk0, hk1⟩, EqO.rf.st (by decide)⟩
set_option maxRecDepth 20000 in
theorem m_near {σ : aH} {t : St} (hI : IM t σ) (hwf : WF t) {x : Int32} : MX12_near 1 0 0 [.ref 25, .int x] σ (aPu (some (.int (oNear t x))) σ) := by
  refine sX12_near (Nat.le_of_ble_eq_true rfl) ?_
  have hI' := hI
  have hwf' := hwf
  have hSs := hwf.hS
  obtain ⟨pg, rn, rs, nr, sh, rw, ro, he, hs, th, dr, ks, kr, kh, x2, x3, x4, sd, kc, kl, ka, kg, kd, ha, e25, e26, e27, e28, e29, e30, e31, e32, e33, e34, e35, e36, e37, e38, e39, lpg, lrn, lrs, lnr, lro, lhe, lth, ldr, lks, lkr, lkh, hpg, hnr, ⟨lsh, lrw, lhs, hsh, hrw, hhs⟩, hk0, hk1⟩ := hI
  obtain ⟨w1, w2, w3, w4, w5, ⟨w6, w7, w8, w9, w10, w11, w12⟩, w13, w14, w15, w16, w17⟩ := hwf
  unfold oNear
  cases e : rg x 0 5 with
  | none =>
    dsimp only
    refine g_aload eX12_near_0 rfl ?_
    refine g_callVp (r := (RX12, TX12, 32)) eX12_near_1 kX12_106 e25 (by rfl) (c_mlacks e25 w6) (by rfl) (by rfl) (by exact Nat.le_of_ble_eq_true rfl) (by exact Nat.le_of_ble_eq_true rfl) (by exact Nat.le_of_ble_eq_true rfl) (Nat.le_refl _) (Nat.le_refl _) ?_
    refine g_if_neN eX12_near_4 (bt_lt _) (fun c4 => ?_) (fun c4 => ?_)
    · refine g_push eX12_near_28 ?_
      exact g_ret (eX12_near_30 _) (Nat.le_refl _) (Nat.le_refl _) ⟨rfl, rfl⟩
    · refine g_iload eX12_near_7 rfl ?_
      refine g_i2l eX12_near_8 ?_
      refine g_lconst eX12_near_9 rfl ?_
      refine g_ldc2 eX12_near_10 lX12_110 ?_
      refine g_callSp eX12_near_13 kX12_58 (c_inN e rfl rfl) (by rfl) (by rfl) (by exact Nat.le_of_ble_eq_true rfl) (by exact Nat.le_of_ble_eq_true rfl) (by exact Nat.le_of_ble_eq_true rfl) (Nat.le_refl _) (Nat.le_refl _) ?_
      refine g_if_eqN eX12_near_16 (by omega) (fun c16 => ?_) (fun c16 => absurd rfl c16)
      refine g_push eX12_near_28 ?_
      exact g_ret (eX12_near_30 _) (Nat.le_refl _) (Nat.le_refl _) ⟨rfl, rfl⟩
  | some d =>
    dsimp only
    have e' := e
    obtain ⟨rfl, -, hd5⟩ := rg_some e
    refine g_aload eX12_near_0 rfl ?_
    refine g_callVp (r := (RX12, TX12, 32)) eX12_near_1 kX12_106 e25 (by rfl) (c_mlacks e25 w6) (by rfl) (by rfl) (by exact Nat.le_of_ble_eq_true rfl) (by exact Nat.le_of_ble_eq_true rfl) (by exact Nat.le_of_ble_eq_true rfl) (Nat.le_refl _) (Nat.le_refl _) ?_
    refine g_if_neN eX12_near_4 (bt_lt _) (fun c4 => ?_) (fun c4 => ?_)
    · have hno := bt_1 c4
      refine g_push eX12_near_28 ?_
      exact g_ret (eX12_near_30 _) (Nat.le_refl _) (Nat.le_refl _) ⟨by first | (rw [if_neg (show ¬ hasC t from fun h => by have := hSs.mp h; omega)]) | (rw [if_pos (show hasC t from hSs.mpr (by omega)), hnr d hd5]), rfl⟩
    · have hyes := bt_0 c4
      refine g_iload eX12_near_7 rfl ?_
      refine g_i2l eX12_near_8 ?_
      refine g_lconst eX12_near_9 rfl ?_
      refine g_ldc2 eX12_near_10 lX12_110 ?_
      refine g_callSp eX12_near_13 kX12_58 (c_inT e' rfl rfl) (by rfl) (by rfl) (by exact Nat.le_of_ble_eq_true rfl) (by exact Nat.le_of_ble_eq_true rfl) (by exact Nat.le_of_ble_eq_true rfl) (Nat.le_refl _) (Nat.le_refl _) ?_
      refine g_if_eqN eX12_near_16 (by omega) (fun c16 => absurd c16 (by decide)) (fun c16 => ?_)
      refine g_aload eX12_near_19 rfl ?_
      refine g_get eX12_near_20 fX12_19_X12 e25 (by rfl) ?_
      refine g_iload eX12_near_23 rfl ?_
      refine g_ialdN eX12_near_24 e29 (by omega) (by omega) ?_
      refine g_goto eX12_near_25 ?_
      exact g_ret (eX12_near_30 _) (Nat.le_refl _) (Nat.le_refl _) ⟨by first | (rw [if_neg (show ¬ hasC t from fun h => by have := hSs.mp h; omega)]) | (rw [if_pos (show hasC t from hSs.mpr (by omega)), hnr d hd5]), rfl⟩
set_option maxRecDepth 20000 in
theorem m_word {σ : aH} {t : St} (hI : IM t σ) (hwf : WF t) {x : Int32} : MX12_word 2 0 0 [.ref 25, .int x] σ (aPu (some (.int (oWord t x))) σ) := by
  refine sX12_word (Nat.le_of_ble_eq_true rfl) ?_
  have hI' := hI
  have hwf' := hwf
  have hSs := hwf.hS
  obtain ⟨pg, rn, rs, nr, sh, rw, ro, he, hs, th, dr, ks, kr, kh, x2, x3, x4, sd, kc, kl, ka, kg, kd, ha, e25, e26, e27, e28, e29, e30, e31, e32, e33, e34, e35, e36, e37, e38, e39, lpg, lrn, lrs, lnr, lro, lhe, lth, ldr, lks, lkr, lkh, hpg, hnr, ⟨lsh, lrw, lhs, hsh, hrw, hhs⟩, hk0, hk1⟩ := hI
  obtain ⟨w1, w2, w3, w4, w5, ⟨w6, w7, w8, w9, w10, w11, w12⟩, w13, w14, w15, w16, w17⟩ := hwf
  unfold oWord
  cases e : rg x 0 (shO (crO t)).length with
  | none =>
    dsimp only
    refine g_aload eX12_word_0 rfl ?_
    refine g_iload eX12_word_1 rfl ?_
    refine g_callVp (r := (RX12, TX12, 32)) eX12_word_2 kX12_112 e25 (by rfl) (c_isPlaceN e25 w6 e) (by rfl) (by rfl) (by exact Nat.le_of_ble_eq_true rfl) (by exact Nat.le_of_ble_eq_true rfl) (by exact Nat.le_of_ble_eq_true rfl) (Nat.le_refl _) (Nat.le_refl _) ?_
    refine g_if_eqN eX12_word_5 (by omega) (fun c5 => ?_) (fun c5 => absurd rfl c5)
    refine g_push eX12_word_17 ?_
    exact g_ret (eX12_word_19 _) (Nat.le_refl _) (Nat.le_refl _) ⟨rfl, rfl⟩
  | some k =>
    dsimp only
    have e' := e
    obtain ⟨rfl, -, hk⟩ := rg_some e (by omega)
    refine g_aload eX12_word_0 rfl ?_
    refine g_iload eX12_word_1 rfl ?_
    refine g_callVp (r := (RX12, TX12, 32)) eX12_word_2 kX12_112 e25 (by rfl) (c_isPlaceT e25 w6 e') (by rfl) (by rfl) (by exact Nat.le_of_ble_eq_true rfl) (by exact Nat.le_of_ble_eq_true rfl) (by exact Nat.le_of_ble_eq_true rfl) (Nat.le_refl _) (Nat.le_refl _) ?_
    refine g_if_eqN eX12_word_5 (by omega) (fun c5 => absurd c5 (by decide)) (fun c5 => ?_)
    refine g_aload eX12_word_8 rfl ?_
    refine g_get eX12_word_9 fX12_22_X12 e25 (by rfl) ?_
    refine g_iload eX12_word_12 rfl ?_
    refine g_ialdN eX12_word_13 e30 (by omega) (by omega) ?_
    refine g_goto eX12_word_14 ?_
    exact g_ret (eX12_word_19 _) (Nat.le_refl _) (Nat.le_refl _) ⟨by rw [hsh k hk], rfl⟩
