/-! the law's cases -/
theorem IX.c0 {t : St} {σ : aH} (h : IX t σ) : ∃ fs, σ[0]? = some (aO 11 fs) := by
  obtain ⟨_, _, _, _, _, _, _, _, _, _, e0, -⟩ := h
  exact ⟨_, e0⟩
theorem IM.c25 {t : St} {σ : aH} (h : IM t σ) : ∃ fs, σ[25]? = some (aO 12 fs) := by
  obtain ⟨_, _, _, _, _, _, _, _, _, _, _, _, _, _, _, _, _, _, _, _, _, _, _, _, e25, -⟩ := h
  exact ⟨_, e25⟩
theorem Inv.up {t : St} {n : Nat} {σ : aH} (h : Inv t n σ) : Inv t (n + 1) σ := ⟨h.1, h.2.1, h.2.2.1, Nat.le_succ_of_le h.2.2.2.1, h.2.2.2.2⟩
theorem Inv.tx {t : St} {n : Nat} {σ σ' : aH} (h : Inv t n σ) (h1 : IX t σ') (h2 : FrX σ σ') : Half t t n σ' := h.half h1 h2 h.2.2.1 (Nat.le_succ _)
theorem lg_self (x : Int64) : lg_cmp x x = 0 := by
  unfold lg_cmp
  rw [if_neg (by rw [gt_iff_lt, Int64.lt_iff_toInt_lt]; omega), if_pos rfl]
theorem ct_letter (t : St) (x : Int32) : ctO (oLetter t x).2 ≤ ctO t + 1 := by
  unfold oLetter
  repeat' split
  all_goals exact Nat.le_succ _
theorem ct_blank (t : St)  : ctO (oBlank t).2 ≤ ctO t + 1 := by
  unfold oBlank
  repeat' split
  all_goals exact Nat.le_succ _
theorem ct_put (t : St) (x y : Int32) : ctO (oPut t x y).2 ≤ ctO t + 1 := by
  unfold oPut
  repeat' split
  all_goals exact Nat.le_succ _
theorem ct_limit (t : St) (x : Int32) : ctO (oLimit t x).2 ≤ ctO t + 1 := by
  unfold oLimit
  repeat' split
  all_goals exact Nat.le_succ _
theorem ct_accuse (t : St) (x y : Int32) : ctO (oAccuse t x y).2 ≤ ctO t + 1 := by
  unfold oAccuse
  repeat' split
  all_goals exact Nat.le_succ _
theorem ct_lesson (t : St) (x y : Int32) : ctO (oLesson t x y).2 ≤ ctO t + 1 := by
  unfold oLesson
  repeat' split
  all_goals exact Nat.le_succ _
theorem ct_unlearn (t : St) (x : Int32) : ctO (oUnlearn t x).2 ≤ ctO t + 1 := by
  unfold oUnlearn
  repeat' split
  all_goals exact Nat.le_succ _
theorem ct_brief (t : St) (x : Int32) : ctO (oBrief t x).2 ≤ ctO t + 1 := by
  unfold oBrief
  repeat' split
  all_goals exact Nat.le_succ _
theorem ct_hear (t : St) (x y : Int32) (b : Bool) : ctO (oHear t x y b).2 ≤ ctO t + 1 := by
  unfold oHear
  repeat' split
  all_goals exact Nat.le_succ _
theorem ct_forget (t : St)  : ctO (oForget t).2 ≤ ctO t + 1 := by
  unfold oForget
  repeat' split
  all_goals exact Nat.le_succ _
theorem ct_image (t : St)  : ctO (oImage t).2 ≤ ctO t + 1 := by
  unfold oImage
  repeat' split
  all_goals exact Nat.le_succ _
theorem ct_restore (t : St)  : ctO (oRestore t).2 ≤ ctO t + 1 := by
  unfold oRestore
  repeat' split
  all_goals exact Nat.le_succ _
/-- the law's post -/
abbrev lP : Option Value → aH → Prop := fun v _ => v = some (.int 1)
set_option maxRecDepth 20000 in
theorem law_letter {zb zN : Nat} {zx : Nat → Int32} {t : St} {σ : aH} {j k n : Nat} (hI : Inv t j σ) (hj : 4 * j + 4 ≤ zN) (hN : zN ≤ 2048) (hk : k ≤ 100 + j) (hn : n ≤ 1000 + j) (hc : ∀ t' σ' k' n', Inv t' (j + 1) σ' → k' ≤ k + 1 → n' ≤ n + 1 → GL zb zN zx yL_law cL_law 4 (some .boolean) 12 600000 7302250 lP k' n' 699 [none, some (.ref 0), some (.ref 25), some (.int (nI (4 * j)))] [] σ') : GL zb zN zx yL_law cL_law 4 (some .boolean) 12 600000 7302250 lP k n 136 [none, some (.ref 0), some (.ref 25), some (.int (nI (4 * j)))] [] σ := by
  have hw := hI.2.2.1
  have hct := hI.2.2.2.1
  obtain ⟨fs0, e0⟩ := hI.1.c0
  refine h_aload eL_law_136 rfl ?_
  refine h_scrk (x := nI (4 * j)) (v := nI 1) (z := 1) (by decide +kernel) (by decide +kernel) (by decide +kernel) (by decide +kernel) (by decide +kernel) (by decide +kernel) rfl (by rw [nI_add]; exact vp_in_nI (by omega) (by omega)) ?_
  refine h_callV (r := (RX11, TX11, 10)) eL_law_142 kL_13 e0 rfl (x_letter hI.1 hw) (by rfl) (by rfl) (by exact Nat.le_of_ble_eq_true rfl) (by exact Nat.le_of_ble_eq_true rfl) (by exact Nat.le_of_ble_eq_true rfl) (by omega) (by omega) (fun v1 σ1 hp1 hn1 => ?_)
  obtain ⟨rfl, hx1, hf1⟩ := hp1
  have hH : Half t (oLetter t (zx (nI (4 * j) + nI 1).toNatClampNeg)).2 j σ1 := hI.half hx1 hf1 (WF_letter hw _) (ct_letter t _)
  obtain ⟨fs1, e25⟩ := hH.2.1.c25
  refine h_aload eL_law_145 rfl ?_
  refine h_scrk (x := nI (4 * j)) (v := nI 1) (z := 1) (by decide +kernel) (by decide +kernel) (by decide +kernel) (by decide +kernel) (by decide +kernel) (by decide +kernel) rfl (by rw [nI_add]; exact vp_in_nI (by omega) (by omega)) ?_
  refine h_callV (r := (RX12, TX12, 32)) eL_law_151 kL_17 e25 rfl (m_letter hH.2.1 hw) (by rfl) (by rfl) (by exact Nat.le_of_ble_eq_true rfl) (by exact Nat.le_of_ble_eq_true rfl) (by exact Nat.le_of_ble_eq_true rfl) (by omega) (by omega) (fun v2 σ2 hp2 hn2 => ?_)
  obtain ⟨rfl, hm2, hf2⟩ := hp2
  have hI2 := hH.inv hm2 hf2
  exact h_icmp_eq eL_law_154 (fun _ => hc _ _ _ _ hI2 (by omega) (by omega)) (fun z => absurd rfl z)
set_option maxRecDepth 20000 in
theorem law_blank {zb zN : Nat} {zx : Nat → Int32} {t : St} {σ : aH} {j k n : Nat} (hI : Inv t j σ) (hj : 4 * j + 4 ≤ zN) (hN : zN ≤ 2048) (hk : k ≤ 100 + j) (hn : n ≤ 1000 + j) (hc : ∀ t' σ' k' n', Inv t' (j + 1) σ' → k' ≤ k + 1 → n' ≤ n + 1 → GL zb zN zx yL_law cL_law 4 (some .boolean) 12 600000 7302250 lP k' n' 699 [none, some (.ref 0), some (.ref 25), some (.int (nI (4 * j)))] [] σ') : GL zb zN zx yL_law cL_law 4 (some .boolean) 12 600000 7302250 lP k n 159 [none, some (.ref 0), some (.ref 25), some (.int (nI (4 * j)))] [] σ := by
  have hw := hI.2.2.1
  have hct := hI.2.2.2.1
  obtain ⟨fs0, e0⟩ := hI.1.c0
  refine h_aload eL_law_159 rfl ?_
  refine h_callV (r := (RX11, TX11, 10)) eL_law_160 kL_18 e0 rfl (x_blank hI.1 hw) (by rfl) (by rfl) (by exact Nat.le_of_ble_eq_true rfl) (by exact Nat.le_of_ble_eq_true rfl) (by exact Nat.le_of_ble_eq_true rfl) (by omega) (by omega) (fun v1 σ1 hp1 hn1 => ?_)
  obtain ⟨rfl, hx1, hf1⟩ := hp1
  have hH : Half t (oBlank t).2 j σ1 := hI.half hx1 hf1 (WF_blank hw) (ct_blank t)
  obtain ⟨fs1, e25⟩ := hH.2.1.c25
  refine h_aload eL_law_163 rfl ?_
  refine h_callV (r := (RX12, TX12, 32)) eL_law_164 kL_22 e25 rfl (m_blank hH.2.1 hw) (by rfl) (by rfl) (by exact Nat.le_of_ble_eq_true rfl) (by exact Nat.le_of_ble_eq_true rfl) (by exact Nat.le_of_ble_eq_true rfl) (by omega) (by omega) (fun v2 σ2 hp2 hn2 => ?_)
  obtain ⟨rfl, hm2, hf2⟩ := hp2
  have hI2 := hH.inv hm2 hf2
  exact h_icmp_eq eL_law_167 (fun _ => hc _ _ _ _ hI2 (by omega) (by omega)) (fun z => absurd rfl z)
set_option maxRecDepth 20000 in
theorem law_fault {zb zN : Nat} {zx : Nat → Int32} {t : St} {σ : aH} {j k n : Nat} (hI : Inv t j σ) (hj : 4 * j + 4 ≤ zN) (hN : zN ≤ 2048) (hk : k ≤ 100 + j) (hn : n ≤ 1000 + j) (hc : ∀ t' σ' k' n', Inv t' (j + 1) σ' → k' ≤ k + 1 → n' ≤ n + 1 → GL zb zN zx yL_law cL_law 4 (some .boolean) 12 600000 7302250 lP k' n' 699 [none, some (.ref 0), some (.ref 25), some (.int (nI (4 * j)))] [] σ') : GL zb zN zx yL_law cL_law 4 (some .boolean) 12 600000 7302250 lP k n 172 [none, some (.ref 0), some (.ref 25), some (.int (nI (4 * j)))] [] σ := by
  have hw := hI.2.2.1
  have hct := hI.2.2.2.1
  obtain ⟨fs0, e0⟩ := hI.1.c0
  refine h_aload eL_law_172 rfl ?_
  refine h_callV (r := (RX11, TX11, 10)) eL_law_173 kL_23 e0 rfl (x_fault hI.1 hw) (by rfl) (by rfl) (by exact Nat.le_of_ble_eq_true rfl) (by exact Nat.le_of_ble_eq_true rfl) (by exact Nat.le_of_ble_eq_true rfl) (by omega) (by omega) (fun v1 σ1 hp1 hn1 => ?_)
  obtain ⟨rfl, hx1, hf1⟩ := hp1
  have hH : Half t t j σ1 := hI.tx hx1 hf1
  obtain ⟨fs1, e25⟩ := hH.2.1.c25
  refine h_aload eL_law_176 rfl ?_
  refine h_callV (r := (RX12, TX12, 32)) eL_law_177 kL_26 e25 rfl (m_fault hH.2.1 hw) (by rfl) (by rfl) (by exact Nat.le_of_ble_eq_true rfl) (by exact Nat.le_of_ble_eq_true rfl) (by exact Nat.le_of_ble_eq_true rfl) (by omega) (by omega) (fun v2 σ2 hp2 hn2 => ?_)
  obtain ⟨rfl, hm2, hf2⟩ := hp2
  have hI2 := hH.inv hm2 hf2
  exact h_icmp_eq eL_law_180 (fun _ => hc _ _ _ _ hI2 (by omega) (by omega)) (fun z => absurd rfl z)
set_option maxRecDepth 20000 in
theorem law_court {zb zN : Nat} {zx : Nat → Int32} {t : St} {σ : aH} {j k n : Nat} (hI : Inv t j σ) (hj : 4 * j + 4 ≤ zN) (hN : zN ≤ 2048) (hk : k ≤ 100 + j) (hn : n ≤ 1000 + j) (hc : ∀ t' σ' k' n', Inv t' (j + 1) σ' → k' ≤ k + 1 → n' ≤ n + 1 → GL zb zN zx yL_law cL_law 4 (some .boolean) 12 600000 7302250 lP k' n' 699 [none, some (.ref 0), some (.ref 25), some (.int (nI (4 * j)))] [] σ') : GL zb zN zx yL_law cL_law 4 (some .boolean) 12 600000 7302250 lP k n 185 [none, some (.ref 0), some (.ref 25), some (.int (nI (4 * j)))] [] σ := by
  have hw := hI.2.2.1
  have hct := hI.2.2.2.1
  obtain ⟨fs0, e0⟩ := hI.1.c0
  refine h_aload eL_law_185 rfl ?_
  refine h_callV (r := (RX11, TX11, 10)) eL_law_186 kL_27 e0 rfl (x_court hI.1 hw) (by rfl) (by rfl) (by exact Nat.le_of_ble_eq_true rfl) (by exact Nat.le_of_ble_eq_true rfl) (by exact Nat.le_of_ble_eq_true rfl) (by omega) (by omega) (fun v1 σ1 hp1 hn1 => ?_)
  obtain ⟨rfl, hx1, hf1⟩ := hp1
  have hH : Half t (oCourt t).2 j σ1 := hI.half hx1 hf1 (WF_court hw (by omega)) (ct_court t)
  obtain ⟨fs1, e25⟩ := hH.2.1.c25
  refine h_aload eL_law_189 rfl ?_
  refine h_callV (r := (RX12, TX12, 32)) eL_law_190 kL_30 e25 rfl (m_court hH.2.1 hw) (by rfl) (by rfl) (by exact Nat.le_of_ble_eq_true rfl) (by exact Nat.le_of_ble_eq_true rfl) (by exact Nat.le_of_ble_eq_true rfl) (by omega) (by omega) (fun v2 σ2 hp2 hn2 => ?_)
  obtain ⟨rfl, hm2, hf2⟩ := hp2
  have hI2 := hH.inv hm2 hf2
  exact h_icmp_eq eL_law_193 (fun _ => hc _ _ _ _ hI2 (by omega) (by omega)) (fun z => absurd rfl z)
set_option maxRecDepth 20000 in
theorem law_near {zb zN : Nat} {zx : Nat → Int32} {t : St} {σ : aH} {j k n : Nat} (hI : Inv t j σ) (hj : 4 * j + 4 ≤ zN) (hN : zN ≤ 2048) (hk : k ≤ 100 + j) (hn : n ≤ 1000 + j) (hc : ∀ t' σ' k' n', Inv t' (j + 1) σ' → k' ≤ k + 1 → n' ≤ n + 1 → GL zb zN zx yL_law cL_law 4 (some .boolean) 12 600000 7302250 lP k' n' 699 [none, some (.ref 0), some (.ref 25), some (.int (nI (4 * j)))] [] σ') : GL zb zN zx yL_law cL_law 4 (some .boolean) 12 600000 7302250 lP k n 198 [none, some (.ref 0), some (.ref 25), some (.int (nI (4 * j)))] [] σ := by
  have hw := hI.2.2.1
  have hct := hI.2.2.2.1
  obtain ⟨fs0, e0⟩ := hI.1.c0
  refine h_aload eL_law_198 rfl ?_
  refine h_scrk (x := nI (4 * j)) (v := nI 1) (z := 1) (by decide +kernel) (by decide +kernel) (by decide +kernel) (by decide +kernel) (by decide +kernel) (by decide +kernel) rfl (by rw [nI_add]; exact vp_in_nI (by omega) (by omega)) ?_
  refine h_callV (r := (RX11, TX11, 10)) eL_law_204 kL_31 e0 rfl (x_near hI.1 hw) (by rfl) (by rfl) (by exact Nat.le_of_ble_eq_true rfl) (by exact Nat.le_of_ble_eq_true rfl) (by exact Nat.le_of_ble_eq_true rfl) (by omega) (by omega) (fun v1 σ1 hp1 hn1 => ?_)
  obtain ⟨rfl, rfl⟩ := hp1
  have hH : Half t t j σ1 := hI.tx hI.1 FrX.rf
  obtain ⟨fs1, e25⟩ := hH.2.1.c25
  refine h_aload eL_law_207 rfl ?_
  refine h_scrk (x := nI (4 * j)) (v := nI 1) (z := 1) (by decide +kernel) (by decide +kernel) (by decide +kernel) (by decide +kernel) (by decide +kernel) (by decide +kernel) rfl (by rw [nI_add]; exact vp_in_nI (by omega) (by omega)) ?_
  refine h_callV (r := (RX12, TX12, 32)) eL_law_213 kL_34 e25 rfl (m_near hH.2.1 hw) (by rfl) (by rfl) (by exact Nat.le_of_ble_eq_true rfl) (by exact Nat.le_of_ble_eq_true rfl) (by exact Nat.le_of_ble_eq_true rfl) (by omega) (by omega) (fun v2 σ2 hp2 hn2 => ?_)
  obtain ⟨rfl, rfl⟩ := hp2
  have hI2 := hI.up
  exact h_icmp_eq eL_law_216 (fun _ => hc _ _ _ _ hI2 (by omega) (by omega)) (fun z => absurd rfl z)
set_option maxRecDepth 20000 in
theorem law_word {zb zN : Nat} {zx : Nat → Int32} {t : St} {σ : aH} {j k n : Nat} (hI : Inv t j σ) (hj : 4 * j + 4 ≤ zN) (hN : zN ≤ 2048) (hk : k ≤ 100 + j) (hn : n ≤ 1000 + j) (hc : ∀ t' σ' k' n', Inv t' (j + 1) σ' → k' ≤ k + 1 → n' ≤ n + 1 → GL zb zN zx yL_law cL_law 4 (some .boolean) 12 600000 7302250 lP k' n' 699 [none, some (.ref 0), some (.ref 25), some (.int (nI (4 * j)))] [] σ') : GL zb zN zx yL_law cL_law 4 (some .boolean) 12 600000 7302250 lP k n 221 [none, some (.ref 0), some (.ref 25), some (.int (nI (4 * j)))] [] σ := by
  have hw := hI.2.2.1
  have hct := hI.2.2.2.1
  obtain ⟨fs0, e0⟩ := hI.1.c0
  refine h_aload eL_law_221 rfl ?_
  refine h_scrk (x := nI (4 * j)) (v := nI 1) (z := 1) (by decide +kernel) (by decide +kernel) (by decide +kernel) (by decide +kernel) (by decide +kernel) (by decide +kernel) rfl (by rw [nI_add]; exact vp_in_nI (by omega) (by omega)) ?_
  refine h_callV (r := (RX11, TX11, 10)) eL_law_227 kL_35 e0 rfl (x_word hI.1 hw) (by rfl) (by rfl) (by exact Nat.le_of_ble_eq_true rfl) (by exact Nat.le_of_ble_eq_true rfl) (by exact Nat.le_of_ble_eq_true rfl) (by omega) (by omega) (fun v1 σ1 hp1 hn1 => ?_)
  obtain ⟨rfl, rfl⟩ := hp1
  have hH : Half t t j σ1 := hI.tx hI.1 FrX.rf
  obtain ⟨fs1, e25⟩ := hH.2.1.c25
  refine h_aload eL_law_230 rfl ?_
  refine h_scrk (x := nI (4 * j)) (v := nI 1) (z := 1) (by decide +kernel) (by decide +kernel) (by decide +kernel) (by decide +kernel) (by decide +kernel) (by decide +kernel) rfl (by rw [nI_add]; exact vp_in_nI (by omega) (by omega)) ?_
  refine h_callV (r := (RX12, TX12, 32)) eL_law_236 kL_38 e25 rfl (m_word hH.2.1 hw) (by rfl) (by rfl) (by exact Nat.le_of_ble_eq_true rfl) (by exact Nat.le_of_ble_eq_true rfl) (by exact Nat.le_of_ble_eq_true rfl) (by omega) (by omega) (fun v2 σ2 hp2 hn2 => ?_)
  obtain ⟨rfl, rfl⟩ := hp2
  have hI2 := hI.up
  exact h_icmp_eq eL_law_239 (fun _ => hc _ _ _ _ hI2 (by omega) (by omega)) (fun z => absurd rfl z)
set_option maxRecDepth 20000 in
theorem law_put {zb zN : Nat} {zx : Nat → Int32} {t : St} {σ : aH} {j k n : Nat} (hI : Inv t j σ) (hj : 4 * j + 4 ≤ zN) (hN : zN ≤ 2048) (hk : k ≤ 100 + j) (hn : n ≤ 1000 + j) (hc : ∀ t' σ' k' n', Inv t' (j + 1) σ' → k' ≤ k + 1 → n' ≤ n + 1 → GL zb zN zx yL_law cL_law 4 (some .boolean) 12 600000 7302250 lP k' n' 699 [none, some (.ref 0), some (.ref 25), some (.int (nI (4 * j)))] [] σ') : GL zb zN zx yL_law cL_law 4 (some .boolean) 12 600000 7302250 lP k n 244 [none, some (.ref 0), some (.ref 25), some (.int (nI (4 * j)))] [] σ := by
  have hw := hI.2.2.1
  have hct := hI.2.2.2.1
  obtain ⟨fs0, e0⟩ := hI.1.c0
  refine h_aload eL_law_244 rfl ?_
  refine h_scrk (x := nI (4 * j)) (v := nI 1) (z := 1) (by decide +kernel) (by decide +kernel) (by decide +kernel) (by decide +kernel) (by decide +kernel) (by decide +kernel) rfl (by rw [nI_add]; exact vp_in_nI (by omega) (by omega)) ?_
  refine h_scrk (x := nI (4 * j)) (v := nI 2) (z := 2) (by decide +kernel) (by decide +kernel) (by decide +kernel) (by decide +kernel) (by decide +kernel) (by decide +kernel) rfl (by rw [nI_add]; exact vp_in_nI (by omega) (by omega)) ?_
  refine h_callV (r := (RX11, TX11, 10)) eL_law_255 kL_39 e0 rfl (x_put hI.1 hw) (by rfl) (by rfl) (by exact Nat.le_of_ble_eq_true rfl) (by exact Nat.le_of_ble_eq_true rfl) (by exact Nat.le_of_ble_eq_true rfl) (by omega) (by omega) (fun v1 σ1 hp1 hn1 => ?_)
  obtain ⟨rfl, hx1, hf1⟩ := hp1
  have hH : Half t (oPut t (zx (nI (4 * j) + nI 1).toNatClampNeg) (zx (nI (4 * j) + nI 2).toNatClampNeg)).2 j σ1 := hI.half hx1 hf1 (WF_put hw _ _) (ct_put t _ _)
  obtain ⟨fs1, e25⟩ := hH.2.1.c25
  refine h_aload eL_law_258 rfl ?_
  refine h_scrk (x := nI (4 * j)) (v := nI 1) (z := 1) (by decide +kernel) (by decide +kernel) (by decide +kernel) (by decide +kernel) (by decide +kernel) (by decide +kernel) rfl (by rw [nI_add]; exact vp_in_nI (by omega) (by omega)) ?_
  refine h_scrk (x := nI (4 * j)) (v := nI 2) (z := 2) (by decide +kernel) (by decide +kernel) (by decide +kernel) (by decide +kernel) (by decide +kernel) (by decide +kernel) rfl (by rw [nI_add]; exact vp_in_nI (by omega) (by omega)) ?_
  refine h_callV (r := (RX12, TX12, 32)) eL_law_269 kL_43 e25 rfl (m_put hH.2.1 hw) (by rfl) (by rfl) (by exact Nat.le_of_ble_eq_true rfl) (by exact Nat.le_of_ble_eq_true rfl) (by exact Nat.le_of_ble_eq_true rfl) (by omega) (by omega) (fun v2 σ2 hp2 hn2 => ?_)
  obtain ⟨rfl, hm2, hf2⟩ := hp2
  have hI2 := hH.inv hm2 hf2
  exact h_icmp_eq eL_law_272 (fun _ => hc _ _ _ _ hI2 (by omega) (by omega)) (fun z => absurd rfl z)
set_option maxRecDepth 20000 in
theorem law_limit {zb zN : Nat} {zx : Nat → Int32} {t : St} {σ : aH} {j k n : Nat} (hI : Inv t j σ) (hj : 4 * j + 4 ≤ zN) (hN : zN ≤ 2048) (hk : k ≤ 100 + j) (hn : n ≤ 1000 + j) (hc : ∀ t' σ' k' n', Inv t' (j + 1) σ' → k' ≤ k + 1 → n' ≤ n + 1 → GL zb zN zx yL_law cL_law 4 (some .boolean) 12 600000 7302250 lP k' n' 699 [none, some (.ref 0), some (.ref 25), some (.int (nI (4 * j)))] [] σ') : GL zb zN zx yL_law cL_law 4 (some .boolean) 12 600000 7302250 lP k n 277 [none, some (.ref 0), some (.ref 25), some (.int (nI (4 * j)))] [] σ := by
  have hw := hI.2.2.1
  have hct := hI.2.2.2.1
  obtain ⟨fs0, e0⟩ := hI.1.c0
  refine h_aload eL_law_277 rfl ?_
  refine h_scrk (x := nI (4 * j)) (v := nI 1) (z := 1) (by decide +kernel) (by decide +kernel) (by decide +kernel) (by decide +kernel) (by decide +kernel) (by decide +kernel) rfl (by rw [nI_add]; exact vp_in_nI (by omega) (by omega)) ?_
  refine h_callV (r := (RX11, TX11, 10)) eL_law_283 kL_44 e0 rfl (x_limit hI.1 hw) (by rfl) (by rfl) (by exact Nat.le_of_ble_eq_true rfl) (by exact Nat.le_of_ble_eq_true rfl) (by exact Nat.le_of_ble_eq_true rfl) (by omega) (by omega) (fun v1 σ1 hp1 hn1 => ?_)
  obtain ⟨rfl, hx1, hf1⟩ := hp1
  have hH : Half t (oLimit t (zx (nI (4 * j) + nI 1).toNatClampNeg)).2 j σ1 := hI.half hx1 hf1 (WF_limit hw _) (ct_limit t _)
  obtain ⟨fs1, e25⟩ := hH.2.1.c25
  refine h_aload eL_law_286 rfl ?_
  refine h_scrk (x := nI (4 * j)) (v := nI 1) (z := 1) (by decide +kernel) (by decide +kernel) (by decide +kernel) (by decide +kernel) (by decide +kernel) (by decide +kernel) rfl (by rw [nI_add]; exact vp_in_nI (by omega) (by omega)) ?_
  refine h_callV (r := (RX12, TX12, 32)) eL_law_292 kL_47 e25 rfl (m_limit hH.2.1 hw) (by rfl) (by rfl) (by exact Nat.le_of_ble_eq_true rfl) (by exact Nat.le_of_ble_eq_true rfl) (by exact Nat.le_of_ble_eq_true rfl) (by omega) (by omega) (fun v2 σ2 hp2 hn2 => ?_)
  obtain ⟨rfl, hm2, hf2⟩ := hp2
  have hI2 := hH.inv hm2 hf2
  exact h_icmp_eq eL_law_295 (fun _ => hc _ _ _ _ hI2 (by omega) (by omega)) (fun z => absurd rfl z)
set_option maxRecDepth 20000 in
theorem law_accuse {zb zN : Nat} {zx : Nat → Int32} {t : St} {σ : aH} {j k n : Nat} (hI : Inv t j σ) (hj : 4 * j + 4 ≤ zN) (hN : zN ≤ 2048) (hk : k ≤ 100 + j) (hn : n ≤ 1000 + j) (hc : ∀ t' σ' k' n', Inv t' (j + 1) σ' → k' ≤ k + 1 → n' ≤ n + 1 → GL zb zN zx yL_law cL_law 4 (some .boolean) 12 600000 7302250 lP k' n' 699 [none, some (.ref 0), some (.ref 25), some (.int (nI (4 * j)))] [] σ') : GL zb zN zx yL_law cL_law 4 (some .boolean) 12 600000 7302250 lP k n 300 [none, some (.ref 0), some (.ref 25), some (.int (nI (4 * j)))] [] σ := by
  have hw := hI.2.2.1
  have hct := hI.2.2.2.1
  obtain ⟨fs0, e0⟩ := hI.1.c0
  refine h_aload eL_law_300 rfl ?_
  refine h_scrk (x := nI (4 * j)) (v := nI 1) (z := 1) (by decide +kernel) (by decide +kernel) (by decide +kernel) (by decide +kernel) (by decide +kernel) (by decide +kernel) rfl (by rw [nI_add]; exact vp_in_nI (by omega) (by omega)) ?_
  refine h_scrk (x := nI (4 * j)) (v := nI 2) (z := 2) (by decide +kernel) (by decide +kernel) (by decide +kernel) (by decide +kernel) (by decide +kernel) (by decide +kernel) rfl (by rw [nI_add]; exact vp_in_nI (by omega) (by omega)) ?_
  refine h_callV (r := (RX11, TX11, 10)) eL_law_311 kL_48 e0 rfl (x_accuse hI.1 hw hI.2.2.2.2) (by rfl) (by rfl) (by exact Nat.le_of_ble_eq_true rfl) (by exact Nat.le_of_ble_eq_true rfl) (by exact Nat.le_of_ble_eq_true rfl) (by omega) (by omega) (fun v1 σ1 hp1 hn1 => ?_)
  obtain ⟨rfl, hx1, hf1⟩ := hp1
  have hH : Half t (oAccuse t (zx (nI (4 * j) + nI 1).toNatClampNeg) (zx (nI (4 * j) + nI 2).toNatClampNeg)).2 j σ1 := hI.half hx1 hf1 (WF_accuse hw _ _) (ct_accuse t _ _)
  obtain ⟨fs1, e25⟩ := hH.2.1.c25
  refine h_aload eL_law_314 rfl ?_
  refine h_scrk (x := nI (4 * j)) (v := nI 1) (z := 1) (by decide +kernel) (by decide +kernel) (by decide +kernel) (by decide +kernel) (by decide +kernel) (by decide +kernel) rfl (by rw [nI_add]; exact vp_in_nI (by omega) (by omega)) ?_
  refine h_scrk (x := nI (4 * j)) (v := nI 2) (z := 2) (by decide +kernel) (by decide +kernel) (by decide +kernel) (by decide +kernel) (by decide +kernel) (by decide +kernel) rfl (by rw [nI_add]; exact vp_in_nI (by omega) (by omega)) ?_
  refine h_callV (r := (RX12, TX12, 32)) eL_law_325 kL_51 e25 rfl (m_accuse hH.2.1 hw) (by rfl) (by rfl) (by exact Nat.le_of_ble_eq_true rfl) (by exact Nat.le_of_ble_eq_true rfl) (by exact Nat.le_of_ble_eq_true rfl) (by omega) (by omega) (fun v2 σ2 hp2 hn2 => ?_)
  obtain ⟨rfl, hm2, hf2⟩ := hp2
  have hI2 := hH.inv hm2 hf2
  exact h_icmp_eq eL_law_328 (fun _ => hc _ _ _ _ hI2 (by omega) (by omega)) (fun z => absurd rfl z)
set_option maxRecDepth 20000 in
theorem law_about {zb zN : Nat} {zx : Nat → Int32} {t : St} {σ : aH} {j k n : Nat} (hI : Inv t j σ) (hj : 4 * j + 4 ≤ zN) (hN : zN ≤ 2048) (hk : k ≤ 100 + j) (hn : n ≤ 1000 + j) (hc : ∀ t' σ' k' n', Inv t' (j + 1) σ' → k' ≤ k + 1 → n' ≤ n + 1 → GL zb zN zx yL_law cL_law 4 (some .boolean) 12 600000 7302250 lP k' n' 699 [none, some (.ref 0), some (.ref 25), some (.int (nI (4 * j)))] [] σ') : GL zb zN zx yL_law cL_law 4 (some .boolean) 12 600000 7302250 lP k n 333 [none, some (.ref 0), some (.ref 25), some (.int (nI (4 * j)))] [] σ := by
  have hw := hI.2.2.1
  have hct := hI.2.2.2.1
  obtain ⟨fs0, e0⟩ := hI.1.c0
  refine h_aload eL_law_333 rfl ?_
  refine h_scrk (x := nI (4 * j)) (v := nI 1) (z := 1) (by decide +kernel) (by decide +kernel) (by decide +kernel) (by decide +kernel) (by decide +kernel) (by decide +kernel) rfl (by rw [nI_add]; exact vp_in_nI (by omega) (by omega)) ?_
  refine h_scrk (x := nI (4 * j)) (v := nI 2) (z := 2) (by decide +kernel) (by decide +kernel) (by decide +kernel) (by decide +kernel) (by decide +kernel) (by decide +kernel) rfl (by rw [nI_add]; exact vp_in_nI (by omega) (by omega)) ?_
  refine h_callV (r := (RX11, TX11, 10)) eL_law_344 kL_52 e0 rfl (x_about hI.1 hw hw.hC) (by rfl) (by rfl) (by exact Nat.le_of_ble_eq_true rfl) (by exact Nat.le_of_ble_eq_true rfl) (by exact Nat.le_of_ble_eq_true rfl) (by omega) (by omega) (fun v1 σ1 hp1 hn1 => ?_)
  obtain ⟨rfl, rfl⟩ := hp1
  have hH : Half t t j σ1 := hI.tx hI.1 FrX.rf
  obtain ⟨fs1, e25⟩ := hH.2.1.c25
  refine h_aload eL_law_347 rfl ?_
  refine h_scrk (x := nI (4 * j)) (v := nI 1) (z := 1) (by decide +kernel) (by decide +kernel) (by decide +kernel) (by decide +kernel) (by decide +kernel) (by decide +kernel) rfl (by rw [nI_add]; exact vp_in_nI (by omega) (by omega)) ?_
  refine h_scrk (x := nI (4 * j)) (v := nI 2) (z := 2) (by decide +kernel) (by decide +kernel) (by decide +kernel) (by decide +kernel) (by decide +kernel) (by decide +kernel) rfl (by rw [nI_add]; exact vp_in_nI (by omega) (by omega)) ?_
  refine h_callV (r := (RX12, TX12, 32)) eL_law_358 kL_55 e25 rfl (m_about hH.2.1 hw) (by rfl) (by rfl) (by exact Nat.le_of_ble_eq_true rfl) (by exact Nat.le_of_ble_eq_true rfl) (by exact Nat.le_of_ble_eq_true rfl) (by omega) (by omega) (fun v2 σ2 hp2 hn2 => ?_)
  obtain ⟨rfl, hm2, hf2⟩ := hp2
  have hI2 := hH.inv hm2 hf2
  exact h_icmp_eq eL_law_361 (fun _ => hc _ _ _ _ hI2 (by omega) (by omega)) (fun z => absurd rfl z)
set_option maxRecDepth 20000 in
theorem law_as {zb zN : Nat} {zx : Nat → Int32} {t : St} {σ : aH} {j k n : Nat} (hI : Inv t j σ) (hj : 4 * j + 4 ≤ zN) (hN : zN ≤ 2048) (hk : k ≤ 100 + j) (hn : n ≤ 1000 + j) (hc : ∀ t' σ' k' n', Inv t' (j + 1) σ' → k' ≤ k + 1 → n' ≤ n + 1 → GL zb zN zx yL_law cL_law 4 (some .boolean) 12 600000 7302250 lP k' n' 699 [none, some (.ref 0), some (.ref 25), some (.int (nI (4 * j)))] [] σ') : GL zb zN zx yL_law cL_law 4 (some .boolean) 12 600000 7302250 lP k n 366 [none, some (.ref 0), some (.ref 25), some (.int (nI (4 * j)))] [] σ := by
  have hw := hI.2.2.1
  have hct := hI.2.2.2.1
  obtain ⟨fs0, e0⟩ := hI.1.c0
  refine h_aload eL_law_366 rfl ?_
  refine h_scrk (x := nI (4 * j)) (v := nI 1) (z := 1) (by decide +kernel) (by decide +kernel) (by decide +kernel) (by decide +kernel) (by decide +kernel) (by decide +kernel) rfl (by rw [nI_add]; exact vp_in_nI (by omega) (by omega)) ?_
  refine h_scrk (x := nI (4 * j)) (v := nI 2) (z := 2) (by decide +kernel) (by decide +kernel) (by decide +kernel) (by decide +kernel) (by decide +kernel) (by decide +kernel) rfl (by rw [nI_add]; exact vp_in_nI (by omega) (by omega)) ?_
  refine h_callV (r := (RX11, TX11, 10)) eL_law_377 kL_56 e0 rfl (x_as hI.1 hw) (by rfl) (by rfl) (by exact Nat.le_of_ble_eq_true rfl) (by exact Nat.le_of_ble_eq_true rfl) (by exact Nat.le_of_ble_eq_true rfl) (by omega) (by omega) (fun v1 σ1 hp1 hn1 => ?_)
  obtain ⟨rfl, rfl⟩ := hp1
  have hH : Half t t j σ1 := hI.tx hI.1 FrX.rf
  obtain ⟨fs1, e25⟩ := hH.2.1.c25
  refine h_aload eL_law_380 rfl ?_
  refine h_scrk (x := nI (4 * j)) (v := nI 1) (z := 1) (by decide +kernel) (by decide +kernel) (by decide +kernel) (by decide +kernel) (by decide +kernel) (by decide +kernel) rfl (by rw [nI_add]; exact vp_in_nI (by omega) (by omega)) ?_
  refine h_scrk (x := nI (4 * j)) (v := nI 2) (z := 2) (by decide +kernel) (by decide +kernel) (by decide +kernel) (by decide +kernel) (by decide +kernel) (by decide +kernel) rfl (by rw [nI_add]; exact vp_in_nI (by omega) (by omega)) ?_
  refine h_callV (r := (RX12, TX12, 32)) eL_law_391 kL_59 e25 rfl (m_as hH.2.1 hw) (by rfl) (by rfl) (by exact Nat.le_of_ble_eq_true rfl) (by exact Nat.le_of_ble_eq_true rfl) (by exact Nat.le_of_ble_eq_true rfl) (by omega) (by omega) (fun v2 σ2 hp2 hn2 => ?_)
  obtain ⟨rfl, rfl⟩ := hp2
  have hI2 := hI.up
  exact h_icmp_eq eL_law_394 (fun _ => hc _ _ _ _ hI2 (by omega) (by omega)) (fun z => absurd rfl z)
set_option maxRecDepth 20000 in
theorem law_lesson {zb zN : Nat} {zx : Nat → Int32} {t : St} {σ : aH} {j k n : Nat} (hI : Inv t j σ) (hj : 4 * j + 4 ≤ zN) (hN : zN ≤ 2048) (hk : k ≤ 100 + j) (hn : n ≤ 1000 + j) (hc : ∀ t' σ' k' n', Inv t' (j + 1) σ' → k' ≤ k + 1 → n' ≤ n + 1 → GL zb zN zx yL_law cL_law 4 (some .boolean) 12 600000 7302250 lP k' n' 699 [none, some (.ref 0), some (.ref 25), some (.int (nI (4 * j)))] [] σ') : GL zb zN zx yL_law cL_law 4 (some .boolean) 12 600000 7302250 lP k n 399 [none, some (.ref 0), some (.ref 25), some (.int (nI (4 * j)))] [] σ := by
  have hw := hI.2.2.1
  have hct := hI.2.2.2.1
  obtain ⟨fs0, e0⟩ := hI.1.c0
  refine h_aload eL_law_399 rfl ?_
  refine h_scrk (x := nI (4 * j)) (v := nI 1) (z := 1) (by decide +kernel) (by decide +kernel) (by decide +kernel) (by decide +kernel) (by decide +kernel) (by decide +kernel) rfl (by rw [nI_add]; exact vp_in_nI (by omega) (by omega)) ?_
  refine h_scrk (x := nI (4 * j)) (v := nI 2) (z := 2) (by decide +kernel) (by decide +kernel) (by decide +kernel) (by decide +kernel) (by decide +kernel) (by decide +kernel) rfl (by rw [nI_add]; exact vp_in_nI (by omega) (by omega)) ?_
  refine h_callV (r := (RX11, TX11, 10)) eL_law_410 kL_60 e0 rfl (x_lesson hI.1 hw) (by rfl) (by rfl) (by exact Nat.le_of_ble_eq_true rfl) (by exact Nat.le_of_ble_eq_true rfl) (by exact Nat.le_of_ble_eq_true rfl) (by omega) (by omega) (fun v1 σ1 hp1 hn1 => ?_)
  obtain ⟨rfl, hx1, hf1⟩ := hp1
  have hH : Half t (oLesson t (zx (nI (4 * j) + nI 1).toNatClampNeg) (zx (nI (4 * j) + nI 2).toNatClampNeg)).2 j σ1 := hI.half hx1 hf1 (WF_lesson hw _ _) (ct_lesson t _ _)
  obtain ⟨fs1, e25⟩ := hH.2.1.c25
  refine h_aload eL_law_413 rfl ?_
  refine h_scrk (x := nI (4 * j)) (v := nI 1) (z := 1) (by decide +kernel) (by decide +kernel) (by decide +kernel) (by decide +kernel) (by decide +kernel) (by decide +kernel) rfl (by rw [nI_add]; exact vp_in_nI (by omega) (by omega)) ?_
  refine h_scrk (x := nI (4 * j)) (v := nI 2) (z := 2) (by decide +kernel) (by decide +kernel) (by decide +kernel) (by decide +kernel) (by decide +kernel) (by decide +kernel) rfl (by rw [nI_add]; exact vp_in_nI (by omega) (by omega)) ?_
  refine h_callV (r := (RX12, TX12, 32)) eL_law_424 kL_63 e25 rfl (m_lesson hH.2.1 hw) (by rfl) (by rfl) (by exact Nat.le_of_ble_eq_true rfl) (by exact Nat.le_of_ble_eq_true rfl) (by exact Nat.le_of_ble_eq_true rfl) (by omega) (by omega) (fun v2 σ2 hp2 hn2 => ?_)
  obtain ⟨rfl, hm2, hf2⟩ := hp2
  have hI2 := hH.inv hm2 hf2
  exact h_icmp_eq eL_law_427 (fun _ => hc _ _ _ _ hI2 (by omega) (by omega)) (fun z => absurd rfl z)
set_option maxRecDepth 20000 in
theorem law_unlearn {zb zN : Nat} {zx : Nat → Int32} {t : St} {σ : aH} {j k n : Nat} (hI : Inv t j σ) (hj : 4 * j + 4 ≤ zN) (hN : zN ≤ 2048) (hk : k ≤ 100 + j) (hn : n ≤ 1000 + j) (hc : ∀ t' σ' k' n', Inv t' (j + 1) σ' → k' ≤ k + 1 → n' ≤ n + 1 → GL zb zN zx yL_law cL_law 4 (some .boolean) 12 600000 7302250 lP k' n' 699 [none, some (.ref 0), some (.ref 25), some (.int (nI (4 * j)))] [] σ') : GL zb zN zx yL_law cL_law 4 (some .boolean) 12 600000 7302250 lP k n 432 [none, some (.ref 0), some (.ref 25), some (.int (nI (4 * j)))] [] σ := by
  have hw := hI.2.2.1
  have hct := hI.2.2.2.1
  obtain ⟨fs0, e0⟩ := hI.1.c0
  refine h_aload eL_law_432 rfl ?_
  refine h_scrk (x := nI (4 * j)) (v := nI 1) (z := 1) (by decide +kernel) (by decide +kernel) (by decide +kernel) (by decide +kernel) (by decide +kernel) (by decide +kernel) rfl (by rw [nI_add]; exact vp_in_nI (by omega) (by omega)) ?_
  refine h_callV (r := (RX11, TX11, 10)) eL_law_438 kL_64 e0 rfl (x_unlearn hI.1 hw) (by rfl) (by rfl) (by exact Nat.le_of_ble_eq_true rfl) (by exact Nat.le_of_ble_eq_true rfl) (by exact Nat.le_of_ble_eq_true rfl) (by omega) (by omega) (fun v1 σ1 hp1 hn1 => ?_)
  obtain ⟨rfl, hx1, hf1⟩ := hp1
  have hH : Half t (oUnlearn t (zx (nI (4 * j) + nI 1).toNatClampNeg)).2 j σ1 := hI.half hx1 hf1 (WF_unlearn hw _) (ct_unlearn t _)
  obtain ⟨fs1, e25⟩ := hH.2.1.c25
  refine h_aload eL_law_441 rfl ?_
  refine h_scrk (x := nI (4 * j)) (v := nI 1) (z := 1) (by decide +kernel) (by decide +kernel) (by decide +kernel) (by decide +kernel) (by decide +kernel) (by decide +kernel) rfl (by rw [nI_add]; exact vp_in_nI (by omega) (by omega)) ?_
  refine h_callV (r := (RX12, TX12, 32)) eL_law_447 kL_67 e25 rfl (m_unlearn hH.2.1 hw) (by rfl) (by rfl) (by exact Nat.le_of_ble_eq_true rfl) (by exact Nat.le_of_ble_eq_true rfl) (by exact Nat.le_of_ble_eq_true rfl) (by omega) (by omega) (fun v2 σ2 hp2 hn2 => ?_)
  obtain ⟨rfl, hm2, hf2⟩ := hp2
  have hI2 := hH.inv hm2 hf2
  exact h_icmp_eq eL_law_450 (fun _ => hc _ _ _ _ hI2 (by omega) (by omega)) (fun z => absurd rfl z)
set_option maxRecDepth 20000 in
theorem law_brief {zb zN : Nat} {zx : Nat → Int32} {t : St} {σ : aH} {j k n : Nat} (hI : Inv t j σ) (hj : 4 * j + 4 ≤ zN) (hN : zN ≤ 2048) (hk : k ≤ 100 + j) (hn : n ≤ 1000 + j) (hc : ∀ t' σ' k' n', Inv t' (j + 1) σ' → k' ≤ k + 1 → n' ≤ n + 1 → GL zb zN zx yL_law cL_law 4 (some .boolean) 12 600000 7302250 lP k' n' 699 [none, some (.ref 0), some (.ref 25), some (.int (nI (4 * j)))] [] σ') : GL zb zN zx yL_law cL_law 4 (some .boolean) 12 600000 7302250 lP k n 455 [none, some (.ref 0), some (.ref 25), some (.int (nI (4 * j)))] [] σ := by
  have hw := hI.2.2.1
  have hct := hI.2.2.2.1
  obtain ⟨fs0, e0⟩ := hI.1.c0
  refine h_aload eL_law_455 rfl ?_
  refine h_scrk (x := nI (4 * j)) (v := nI 1) (z := 1) (by decide +kernel) (by decide +kernel) (by decide +kernel) (by decide +kernel) (by decide +kernel) (by decide +kernel) rfl (by rw [nI_add]; exact vp_in_nI (by omega) (by omega)) ?_
  refine h_callV (r := (RX11, TX11, 10)) eL_law_461 kL_68 e0 rfl (x_brief hI.1 hw) (by rfl) (by rfl) (by exact Nat.le_of_ble_eq_true rfl) (by exact Nat.le_of_ble_eq_true rfl) (by exact Nat.le_of_ble_eq_true rfl) (by omega) (by omega) (fun v1 σ1 hp1 hn1 => ?_)
  obtain ⟨rfl, hx1, hf1⟩ := hp1
  have hH : Half t (oBrief t (zx (nI (4 * j) + nI 1).toNatClampNeg)).2 j σ1 := hI.half hx1 hf1 (WF_brief hw _) (ct_brief t _)
  obtain ⟨fs1, e25⟩ := hH.2.1.c25
  refine h_aload eL_law_464 rfl ?_
  refine h_scrk (x := nI (4 * j)) (v := nI 1) (z := 1) (by decide +kernel) (by decide +kernel) (by decide +kernel) (by decide +kernel) (by decide +kernel) (by decide +kernel) rfl (by rw [nI_add]; exact vp_in_nI (by omega) (by omega)) ?_
  refine h_callV (r := (RX12, TX12, 32)) eL_law_470 kL_71 e25 rfl (m_brief hH.2.1 hw) (by rfl) (by rfl) (by exact Nat.le_of_ble_eq_true rfl) (by exact Nat.le_of_ble_eq_true rfl) (by exact Nat.le_of_ble_eq_true rfl) (by omega) (by omega) (fun v2 σ2 hp2 hn2 => ?_)
  obtain ⟨rfl, hm2, hf2⟩ := hp2
  have hI2 := hH.inv hm2 hf2
  exact h_icmp_eq eL_law_473 (fun _ => hc _ _ _ _ hI2 (by omega) (by omega)) (fun z => absurd rfl z)
set_option maxRecDepth 20000 in
theorem law_hide {zb zN : Nat} {zx : Nat → Int32} {t : St} {σ : aH} {j k n : Nat} (hI : Inv t j σ) (hj : 4 * j + 4 ≤ zN) (hN : zN ≤ 2048) (hk : k ≤ 100 + j) (hn : n ≤ 1000 + j) (hc : ∀ t' σ' k' n', Inv t' (j + 1) σ' → k' ≤ k + 1 → n' ≤ n + 1 → GL zb zN zx yL_law cL_law 4 (some .boolean) 12 600000 7302250 lP k' n' 699 [none, some (.ref 0), some (.ref 25), some (.int (nI (4 * j)))] [] σ') : GL zb zN zx yL_law cL_law 4 (some .boolean) 12 600000 7302250 lP k n 478 [none, some (.ref 0), some (.ref 25), some (.int (nI (4 * j)))] [] σ := by
  have hw := hI.2.2.1
  have hct := hI.2.2.2.1
  obtain ⟨fs0, e0⟩ := hI.1.c0
  refine h_aload eL_law_478 rfl ?_
  refine h_scrk (x := nI (4 * j)) (v := nI 1) (z := 1) (by decide +kernel) (by decide +kernel) (by decide +kernel) (by decide +kernel) (by decide +kernel) (by decide +kernel) rfl (by rw [nI_add]; exact vp_in_nI (by omega) (by omega)) ?_
  refine h_scrk (x := nI (4 * j)) (v := nI 2) (z := 2) (by decide +kernel) (by decide +kernel) (by decide +kernel) (by decide +kernel) (by decide +kernel) (by decide +kernel) rfl (by rw [nI_add]; exact vp_in_nI (by omega) (by omega)) ?_
  refine h_scrk (x := nI (4 * j)) (v := nI 3) (z := 3) (by decide +kernel) (by decide +kernel) (by decide +kernel) (by decide +kernel) (by decide +kernel) (by decide +kernel) rfl (by rw [nI_add]; exact vp_in_nI (by omega) (by omega)) ?_
  refine h_callV (r := (RX11, TX11, 10)) eL_law_494 kL_72 e0 rfl (x_hide hI.1 hw) (by rfl) (by rfl) (by exact Nat.le_of_ble_eq_true rfl) (by exact Nat.le_of_ble_eq_true rfl) (by exact Nat.le_of_ble_eq_true rfl) (by omega) (by omega) (fun v1 σ1 hp1 hn1 => ?_)
  obtain ⟨rfl, rfl⟩ := hp1
  have hH : Half t t j σ1 := hI.tx hI.1 FrX.rf
  obtain ⟨fs1, e25⟩ := hH.2.1.c25
  refine h_aload eL_law_497 rfl ?_
  refine h_scrk (x := nI (4 * j)) (v := nI 1) (z := 1) (by decide +kernel) (by decide +kernel) (by decide +kernel) (by decide +kernel) (by decide +kernel) (by decide +kernel) rfl (by rw [nI_add]; exact vp_in_nI (by omega) (by omega)) ?_
  refine h_scrk (x := nI (4 * j)) (v := nI 2) (z := 2) (by decide +kernel) (by decide +kernel) (by decide +kernel) (by decide +kernel) (by decide +kernel) (by decide +kernel) rfl (by rw [nI_add]; exact vp_in_nI (by omega) (by omega)) ?_
  refine h_scrk (x := nI (4 * j)) (v := nI 3) (z := 3) (by decide +kernel) (by decide +kernel) (by decide +kernel) (by decide +kernel) (by decide +kernel) (by decide +kernel) rfl (by rw [nI_add]; exact vp_in_nI (by omega) (by omega)) ?_
  refine h_callV (r := (RX12, TX12, 32)) eL_law_513 kL_76 e25 rfl (m_hide hH.2.1 hw) (by rfl) (by rfl) (by exact Nat.le_of_ble_eq_true rfl) (by exact Nat.le_of_ble_eq_true rfl) (by exact Nat.le_of_ble_eq_true rfl) (by omega) (by omega) (fun v2 σ2 hp2 hn2 => ?_)
  obtain ⟨rfl, rfl⟩ := hp2
  have hI2 := hI.up
  exact h_icmp_eq eL_law_516 (fun _ => hc _ _ _ _ hI2 (by omega) (by omega)) (fun z => absurd rfl z)
set_option maxRecDepth 20000 in
theorem law_hear {zb zN : Nat} {zx : Nat → Int32} {t : St} {σ : aH} {j k n : Nat} (hI : Inv t j σ) (hj : 4 * j + 4 ≤ zN) (hN : zN ≤ 2048) (hk : k ≤ 100 + j) (hn : n ≤ 1000 + j) (hc : ∀ t' σ' k' n', Inv t' (j + 1) σ' → k' ≤ k + 1 → n' ≤ n + 1 → GL zb zN zx yL_law cL_law 4 (some .boolean) 12 600000 7302250 lP k' n' 699 [none, some (.ref 0), some (.ref 25), some (.int (nI (4 * j)))] [] σ') : GL zb zN zx yL_law cL_law 4 (some .boolean) 12 600000 7302250 lP k n 521 [none, some (.ref 0), some (.ref 25), some (.int (nI (4 * j)))] [] σ := by
  have hw := hI.2.2.1
  have hct := hI.2.2.2.1
  obtain ⟨fs0, e0⟩ := hI.1.c0
  by_cases hz3 : (zx (nI (4 * j) + nI 3).toNatClampNeg) = 0
  · refine h_aload eL_law_521 rfl ?_
    refine h_scrk (x := nI (4 * j)) (v := nI 1) (z := 1) (by decide +kernel) (by decide +kernel) (by decide +kernel) (by decide +kernel) (by decide +kernel) (by decide +kernel) rfl (by rw [nI_add]; exact vp_in_nI (by omega) (by omega)) ?_
    refine h_scrk (x := nI (4 * j)) (v := nI 2) (z := 2) (by decide +kernel) (by decide +kernel) (by decide +kernel) (by decide +kernel) (by decide +kernel) (by decide +kernel) rfl (by rw [nI_add]; exact vp_in_nI (by omega) (by omega)) ?_
    refine h_scrk (x := nI (4 * j)) (v := nI 3) (z := 3) (by decide +kernel) (by decide +kernel) (by decide +kernel) (by decide +kernel) (by decide +kernel) (by decide +kernel) rfl (by rw [nI_add]; exact vp_in_nI (by omega) (by omega)) ?_
    refine h_if_eq eL_law_537 (fun _ => ?_) (fun z => absurd hz3 z)
    refine h_push eL_law_544 ?_
    refine h_callV (r := (RX11, TX11, 10)) eL_law_545 kL_77 e0 rfl (x_hear hI.1 hw (b := false)) (by rfl) (by rfl) (by exact Nat.le_of_ble_eq_true rfl) (by exact Nat.le_of_ble_eq_true rfl) (by exact Nat.le_of_ble_eq_true rfl) (by omega) (by omega) (fun v1 σ1 hp1 hn1 => ?_)
    obtain ⟨rfl, hx1, hf1⟩ := hp1
    have hH : Half t (oHear t (zx (nI (4 * j) + nI 1).toNatClampNeg) (zx (nI (4 * j) + nI 2).toNatClampNeg) false).2 j σ1 := hI.half hx1 hf1 (WF_hear hw _ _ _) (ct_hear t _ _ _)
    obtain ⟨fs1, e25⟩ := hH.2.1.c25
    refine h_aload eL_law_548 rfl ?_
    refine h_scrk (x := nI (4 * j)) (v := nI 1) (z := 1) (by decide +kernel) (by decide +kernel) (by decide +kernel) (by decide +kernel) (by decide +kernel) (by decide +kernel) rfl (by rw [nI_add]; exact vp_in_nI (by omega) (by omega)) ?_
    refine h_scrk (x := nI (4 * j)) (v := nI 2) (z := 2) (by decide +kernel) (by decide +kernel) (by decide +kernel) (by decide +kernel) (by decide +kernel) (by decide +kernel) rfl (by rw [nI_add]; exact vp_in_nI (by omega) (by omega)) ?_
    refine h_scrk (x := nI (4 * j)) (v := nI 3) (z := 3) (by decide +kernel) (by decide +kernel) (by decide +kernel) (by decide +kernel) (by decide +kernel) (by decide +kernel) rfl (by rw [nI_add]; exact vp_in_nI (by omega) (by omega)) ?_
    refine h_if_eq eL_law_564 (fun _ => ?_) (fun z => absurd hz3 z)
    refine h_push eL_law_571 ?_
    refine h_callV (r := (RX12, TX12, 32)) eL_law_572 kL_81 e25 rfl (m_hear hH.2.1 hw (b := false)) (by rfl) (by rfl) (by exact Nat.le_of_ble_eq_true rfl) (by exact Nat.le_of_ble_eq_true rfl) (by exact Nat.le_of_ble_eq_true rfl) (by omega) (by omega) (fun v2 σ2 hp2 hn2 => ?_)
    obtain ⟨rfl, hm2, hf2⟩ := hp2
    have hI2 := hH.inv hm2 hf2
    exact h_icmp_eq eL_law_575 (fun _ => hc _ _ _ _ hI2 (by omega) (by omega)) (fun z => absurd rfl z)
  · refine h_aload eL_law_521 rfl ?_
    refine h_scrk (x := nI (4 * j)) (v := nI 1) (z := 1) (by decide +kernel) (by decide +kernel) (by decide +kernel) (by decide +kernel) (by decide +kernel) (by decide +kernel) rfl (by rw [nI_add]; exact vp_in_nI (by omega) (by omega)) ?_
    refine h_scrk (x := nI (4 * j)) (v := nI 2) (z := 2) (by decide +kernel) (by decide +kernel) (by decide +kernel) (by decide +kernel) (by decide +kernel) (by decide +kernel) rfl (by rw [nI_add]; exact vp_in_nI (by omega) (by omega)) ?_
    refine h_scrk (x := nI (4 * j)) (v := nI 3) (z := 3) (by decide +kernel) (by decide +kernel) (by decide +kernel) (by decide +kernel) (by decide +kernel) (by decide +kernel) rfl (by rw [nI_add]; exact vp_in_nI (by omega) (by omega)) ?_
    refine h_if_eq eL_law_537 (fun z => absurd z hz3) (fun _ => ?_)
    refine h_push eL_law_540 ?_
    refine h_goto eL_law_541 ?_
    refine h_callV (r := (RX11, TX11, 10)) eL_law_545 kL_77 e0 rfl (x_hear hI.1 hw (b := true)) (by rfl) (by rfl) (by exact Nat.le_of_ble_eq_true rfl) (by exact Nat.le_of_ble_eq_true rfl) (by exact Nat.le_of_ble_eq_true rfl) (by omega) (by omega) (fun v1 σ1 hp1 hn1 => ?_)
    obtain ⟨rfl, hx1, hf1⟩ := hp1
    have hH : Half t (oHear t (zx (nI (4 * j) + nI 1).toNatClampNeg) (zx (nI (4 * j) + nI 2).toNatClampNeg) true).2 j σ1 := hI.half hx1 hf1 (WF_hear hw _ _ _) (ct_hear t _ _ _)
    obtain ⟨fs1, e25⟩ := hH.2.1.c25
    refine h_aload eL_law_548 rfl ?_
    refine h_scrk (x := nI (4 * j)) (v := nI 1) (z := 1) (by decide +kernel) (by decide +kernel) (by decide +kernel) (by decide +kernel) (by decide +kernel) (by decide +kernel) rfl (by rw [nI_add]; exact vp_in_nI (by omega) (by omega)) ?_
    refine h_scrk (x := nI (4 * j)) (v := nI 2) (z := 2) (by decide +kernel) (by decide +kernel) (by decide +kernel) (by decide +kernel) (by decide +kernel) (by decide +kernel) rfl (by rw [nI_add]; exact vp_in_nI (by omega) (by omega)) ?_
    refine h_scrk (x := nI (4 * j)) (v := nI 3) (z := 3) (by decide +kernel) (by decide +kernel) (by decide +kernel) (by decide +kernel) (by decide +kernel) (by decide +kernel) rfl (by rw [nI_add]; exact vp_in_nI (by omega) (by omega)) ?_
    refine h_if_eq eL_law_564 (fun z => absurd z hz3) (fun _ => ?_)
    refine h_push eL_law_567 ?_
    refine h_goto eL_law_568 ?_
    refine h_callV (r := (RX12, TX12, 32)) eL_law_572 kL_81 e25 rfl (m_hear hH.2.1 hw (b := true)) (by rfl) (by rfl) (by exact Nat.le_of_ble_eq_true rfl) (by exact Nat.le_of_ble_eq_true rfl) (by exact Nat.le_of_ble_eq_true rfl) (by omega) (by omega) (fun v2 σ2 hp2 hn2 => ?_)
    obtain ⟨rfl, hm2, hf2⟩ := hp2
    have hI2 := hH.inv hm2 hf2
    exact h_icmp_eq eL_law_575 (fun _ => hc _ _ _ _ hI2 (by omega) (by omega)) (fun z => absurd rfl z)
set_option maxRecDepth 20000 in
theorem law_forget {zb zN : Nat} {zx : Nat → Int32} {t : St} {σ : aH} {j k n : Nat} (hI : Inv t j σ) (hj : 4 * j + 4 ≤ zN) (hN : zN ≤ 2048) (hk : k ≤ 100 + j) (hn : n ≤ 1000 + j) (hc : ∀ t' σ' k' n', Inv t' (j + 1) σ' → k' ≤ k + 1 → n' ≤ n + 1 → GL zb zN zx yL_law cL_law 4 (some .boolean) 12 600000 7302250 lP k' n' 699 [none, some (.ref 0), some (.ref 25), some (.int (nI (4 * j)))] [] σ') : GL zb zN zx yL_law cL_law 4 (some .boolean) 12 600000 7302250 lP k n 580 [none, some (.ref 0), some (.ref 25), some (.int (nI (4 * j)))] [] σ := by
  have hw := hI.2.2.1
  have hct := hI.2.2.2.1
  obtain ⟨fs0, e0⟩ := hI.1.c0
  refine h_aload eL_law_580 rfl ?_
  refine h_callV (r := (RX11, TX11, 10)) eL_law_581 kL_82 e0 rfl (x_forget hI.1 hw) (by rfl) (by rfl) (by exact Nat.le_of_ble_eq_true rfl) (by exact Nat.le_of_ble_eq_true rfl) (by exact Nat.le_of_ble_eq_true rfl) (by omega) (by omega) (fun v1 σ1 hp1 hn1 => ?_)
  obtain ⟨rfl, hx1, hf1⟩ := hp1
  have hH : Half t (oForget t).2 j σ1 := hI.half hx1 hf1 (WF_forget hw) (ct_forget t)
  obtain ⟨fs1, e25⟩ := hH.2.1.c25
  refine h_aload eL_law_584 rfl ?_
  refine h_callV (r := (RX12, TX12, 32)) eL_law_585 kL_85 e25 rfl (m_forget hH.2.1 hw) (by rfl) (by rfl) (by exact Nat.le_of_ble_eq_true rfl) (by exact Nat.le_of_ble_eq_true rfl) (by exact Nat.le_of_ble_eq_true rfl) (by omega) (by omega) (fun v2 σ2 hp2 hn2 => ?_)
  obtain ⟨rfl, hm2, hf2⟩ := hp2
  have hI2 := hH.inv hm2 hf2
  exact h_icmp_eq eL_law_588 (fun _ => hc _ _ _ _ hI2 (by omega) (by omega)) (fun z => absurd rfl z)
set_option maxRecDepth 20000 in
theorem law_trials {zb zN : Nat} {zx : Nat → Int32} {t : St} {σ : aH} {j k n : Nat} (hI : Inv t j σ) (hj : 4 * j + 4 ≤ zN) (hN : zN ≤ 2048) (hk : k ≤ 100 + j) (hn : n ≤ 1000 + j) (hc : ∀ t' σ' k' n', Inv t' (j + 1) σ' → k' ≤ k + 1 → n' ≤ n + 1 → GL zb zN zx yL_law cL_law 4 (some .boolean) 12 600000 7302250 lP k' n' 699 [none, some (.ref 0), some (.ref 25), some (.int (nI (4 * j)))] [] σ') : GL zb zN zx yL_law cL_law 4 (some .boolean) 12 600000 7302250 lP k n 593 [none, some (.ref 0), some (.ref 25), some (.int (nI (4 * j)))] [] σ := by
  have hw := hI.2.2.1
  have hct := hI.2.2.2.1
  obtain ⟨fs0, e0⟩ := hI.1.c0
  refine h_aload eL_law_593 rfl ?_
  refine h_scrk (x := nI (4 * j)) (v := nI 1) (z := 1) (by decide +kernel) (by decide +kernel) (by decide +kernel) (by decide +kernel) (by decide +kernel) (by decide +kernel) rfl (by rw [nI_add]; exact vp_in_nI (by omega) (by omega)) ?_
  refine h_scrk (x := nI (4 * j)) (v := nI 2) (z := 2) (by decide +kernel) (by decide +kernel) (by decide +kernel) (by decide +kernel) (by decide +kernel) (by decide +kernel) rfl (by rw [nI_add]; exact vp_in_nI (by omega) (by omega)) ?_
  refine h_scrk (x := nI (4 * j)) (v := nI 3) (z := 3) (by decide +kernel) (by decide +kernel) (by decide +kernel) (by decide +kernel) (by decide +kernel) (by decide +kernel) rfl (by rw [nI_add]; exact vp_in_nI (by omega) (by omega)) ?_
  refine h_callV (r := (RX11, TX11, 10)) eL_law_609 kL_86 e0 rfl (x_trials hI.1 hw) (by rfl) (by rfl) (by exact Nat.le_of_ble_eq_true rfl) (by exact Nat.le_of_ble_eq_true rfl) (by exact Nat.le_of_ble_eq_true rfl) (by omega) (by omega) (fun v1 σ1 hp1 hn1 => ?_)
  obtain ⟨rfl, hx1, hf1⟩ := hp1
  have hH : Half t t j σ1 := hI.tx hx1 hf1
  obtain ⟨fs1, e25⟩ := hH.2.1.c25
  refine h_aload eL_law_612 rfl ?_
  refine h_scrk (x := nI (4 * j)) (v := nI 1) (z := 1) (by decide +kernel) (by decide +kernel) (by decide +kernel) (by decide +kernel) (by decide +kernel) (by decide +kernel) rfl (by rw [nI_add]; exact vp_in_nI (by omega) (by omega)) ?_
  refine h_scrk (x := nI (4 * j)) (v := nI 2) (z := 2) (by decide +kernel) (by decide +kernel) (by decide +kernel) (by decide +kernel) (by decide +kernel) (by decide +kernel) rfl (by rw [nI_add]; exact vp_in_nI (by omega) (by omega)) ?_
  refine h_scrk (x := nI (4 * j)) (v := nI 3) (z := 3) (by decide +kernel) (by decide +kernel) (by decide +kernel) (by decide +kernel) (by decide +kernel) (by decide +kernel) rfl (by rw [nI_add]; exact vp_in_nI (by omega) (by omega)) ?_
  refine h_callV (r := (RX12, TX12, 32)) eL_law_628 kL_89 e25 rfl (m_trials hH.2.1 hw) (by rfl) (by rfl) (by exact Nat.le_of_ble_eq_true rfl) (by exact Nat.le_of_ble_eq_true rfl) (by exact Nat.le_of_ble_eq_true rfl) (by omega) (by omega) (fun v2 σ2 hp2 hn2 => ?_)
  obtain ⟨rfl, hm2, hf2⟩ := hp2
  have hI2 := hH.inv hm2 hf2
  exact h_icmp_eq eL_law_631 (fun _ => hc _ _ _ _ hI2 (by omega) (by omega)) (fun z => absurd rfl z)
set_option maxRecDepth 20000 in
theorem law_image {zb zN : Nat} {zx : Nat → Int32} {t : St} {σ : aH} {j k n : Nat} (hI : Inv t j σ) (hj : 4 * j + 4 ≤ zN) (hN : zN ≤ 2048) (hk : k ≤ 100 + j) (hn : n ≤ 1000 + j) (hc : ∀ t' σ' k' n', Inv t' (j + 1) σ' → k' ≤ k + 1 → n' ≤ n + 1 → GL zb zN zx yL_law cL_law 4 (some .boolean) 12 600000 7302250 lP k' n' 699 [none, some (.ref 0), some (.ref 25), some (.int (nI (4 * j)))] [] σ') : GL zb zN zx yL_law cL_law 4 (some .boolean) 12 600000 7302250 lP k n 636 [none, some (.ref 0), some (.ref 25), some (.int (nI (4 * j)))] [] σ := by
  have hw := hI.2.2.1
  have hct := hI.2.2.2.1
  obtain ⟨fs0, e0⟩ := hI.1.c0
  refine h_aload eL_law_636 rfl ?_
  refine h_callV (r := (RX11, TX11, 10)) eL_law_637 kL_90 e0 rfl (x_image hI.1 hw) (by rfl) (by rfl) (by exact Nat.le_of_ble_eq_true rfl) (by exact Nat.le_of_ble_eq_true rfl) (by exact Nat.le_of_ble_eq_true rfl) (by omega) (by omega) (fun v1 σ1 hp1 hn1 => ?_)
  obtain ⟨rfl, hx1, hf1⟩ := hp1
  have hH : Half t (oImage t).2 j σ1 := hI.half hx1 hf1 (WF_image hw) (ct_image t)
  obtain ⟨fs1, e25⟩ := hH.2.1.c25
  refine h_aload eL_law_640 rfl ?_
  refine h_callV (r := (RX12, TX12, 32)) eL_law_641 kL_93 e25 rfl (m_image hH.2.1 hw) (by rfl) (by rfl) (by exact Nat.le_of_ble_eq_true rfl) (by exact Nat.le_of_ble_eq_true rfl) (by exact Nat.le_of_ble_eq_true rfl) (by omega) (by omega) (fun v2 σ2 hp2 hn2 => ?_)
  obtain ⟨rfl, hm2, hf2⟩ := hp2
  have hI2 := hH.inv hm2 hf2
  exact h_icmp_eq eL_law_644 (fun _ => hc _ _ _ _ hI2 (by omega) (by omega)) (fun z => absurd rfl z)
set_option maxRecDepth 20000 in
theorem law_restore {zb zN : Nat} {zx : Nat → Int32} {t : St} {σ : aH} {j k n : Nat} (hI : Inv t j σ) (hj : 4 * j + 4 ≤ zN) (hN : zN ≤ 2048) (hk : k ≤ 100 + j) (hn : n ≤ 1000 + j) (hc : ∀ t' σ' k' n', Inv t' (j + 1) σ' → k' ≤ k + 1 → n' ≤ n + 1 → GL zb zN zx yL_law cL_law 4 (some .boolean) 12 600000 7302250 lP k' n' 699 [none, some (.ref 0), some (.ref 25), some (.int (nI (4 * j)))] [] σ') : GL zb zN zx yL_law cL_law 4 (some .boolean) 12 600000 7302250 lP k n 649 [none, some (.ref 0), some (.ref 25), some (.int (nI (4 * j)))] [] σ := by
  have hw := hI.2.2.1
  have hct := hI.2.2.2.1
  obtain ⟨fs0, e0⟩ := hI.1.c0
  refine h_aload eL_law_649 rfl ?_
  refine h_callV (r := (RX11, TX11, 10)) eL_law_650 kL_94 e0 rfl (x_restore hI.1 hw) (by rfl) (by rfl) (by exact Nat.le_of_ble_eq_true rfl) (by exact Nat.le_of_ble_eq_true rfl) (by exact Nat.le_of_ble_eq_true rfl) (by omega) (by omega) (fun v1 σ1 hp1 hn1 => ?_)
  obtain ⟨rfl, hx1, hf1⟩ := hp1
  have hH : Half t (oRestore t).2 j σ1 := hI.half hx1 hf1 (WF_restore hw hI.2.1.kl) (ct_restore t)
  obtain ⟨fs1, e25⟩ := hH.2.1.c25
  refine h_aload eL_law_653 rfl ?_
  refine h_callV (r := (RX12, TX12, 32)) eL_law_654 kL_97 e25 rfl (m_restore hH.2.1 hw) (by rfl) (by rfl) (by exact Nat.le_of_ble_eq_true rfl) (by exact Nat.le_of_ble_eq_true rfl) (by exact Nat.le_of_ble_eq_true rfl) (by omega) (by omega) (fun v2 σ2 hp2 hn2 => ?_)
  obtain ⟨rfl, hm2, hf2⟩ := hp2
  have hI2 := hH.inv hm2 hf2
  exact h_icmp_eq eL_law_657 (fun _ => hc _ _ _ _ hI2 (by omega) (by omega)) (fun z => absurd rfl z)
set_option maxRecDepth 20000 in
theorem law_count {zb zN : Nat} {zx : Nat → Int32} {t : St} {σ : aH} {j k n : Nat} (hI : Inv t j σ) (hj : 4 * j + 4 ≤ zN) (hN : zN ≤ 2048) (hk : k ≤ 100 + j) (hn : n ≤ 1000 + j) (hc : ∀ t' σ' k' n', Inv t' (j + 1) σ' → k' ≤ k + 1 → n' ≤ n + 1 → GL zb zN zx yL_law cL_law 4 (some .boolean) 12 600000 7302250 lP k' n' 699 [none, some (.ref 0), some (.ref 25), some (.int (nI (4 * j)))] [] σ') : GL zb zN zx yL_law cL_law 4 (some .boolean) 12 600000 7302250 lP k n 662 [none, some (.ref 0), some (.ref 25), some (.int (nI (4 * j)))] [] σ := by
  have hw := hI.2.2.1
  have hct := hI.2.2.2.1
  obtain ⟨fs0, e0⟩ := hI.1.c0
  refine h_aload eL_law_662 rfl ?_
  refine h_scrk (x := nI (4 * j)) (v := nI 1) (z := 1) (by decide +kernel) (by decide +kernel) (by decide +kernel) (by decide +kernel) (by decide +kernel) (by decide +kernel) rfl (by rw [nI_add]; exact vp_in_nI (by omega) (by omega)) ?_
  refine h_callV (r := (RX11, TX11, 10)) eL_law_668 kL_98 e0 rfl (x_count hI.1 hw) (by rfl) (by rfl) (by exact Nat.le_of_ble_eq_true rfl) (by exact Nat.le_of_ble_eq_true rfl) (by exact Nat.le_of_ble_eq_true rfl) (by omega) (by omega) (fun v1 σ1 hp1 hn1 => ?_)
  obtain ⟨rfl, rfl⟩ := hp1
  have hH : Half t t j σ1 := hI.tx hI.1 FrX.rf
  obtain ⟨fs1, e25⟩ := hH.2.1.c25
  refine h_aload eL_law_671 rfl ?_
  refine h_scrk (x := nI (4 * j)) (v := nI 1) (z := 1) (by decide +kernel) (by decide +kernel) (by decide +kernel) (by decide +kernel) (by decide +kernel) (by decide +kernel) rfl (by rw [nI_add]; exact vp_in_nI (by omega) (by omega)) ?_
  refine h_callV (r := (RX12, TX12, 32)) eL_law_677 kL_101 e25 rfl (m_count hH.2.1 hw) (by rfl) (by rfl) (by exact Nat.le_of_ble_eq_true rfl) (by exact Nat.le_of_ble_eq_true rfl) (by exact Nat.le_of_ble_eq_true rfl) (by omega) (by omega) (fun v2 σ2 hp2 hn2 => ?_)
  obtain ⟨rfl, rfl⟩ := hp2
  have hI2 := hI.up
  exact h_icmp_eq eL_law_680 (fun _ => hc _ _ _ _ hI2 (by omega) (by omega)) (fun z => absurd rfl z)
set_option maxRecDepth 20000 in
theorem law_digest {zb zN : Nat} {zx : Nat → Int32} {t : St} {σ : aH} {j k n : Nat} (hI : Inv t j σ) (hj : 4 * j + 4 ≤ zN) (hN : zN ≤ 2048) (hk : k ≤ 100 + j) (hn : n ≤ 1000 + j) (hc : ∀ t' σ' k' n', Inv t' (j + 1) σ' → k' ≤ k + 1 → n' ≤ n + 1 → GL zb zN zx yL_law cL_law 4 (some .boolean) 12 600000 7302250 lP k' n' 699 [none, some (.ref 0), some (.ref 25), some (.int (nI (4 * j)))] [] σ') : GL zb zN zx yL_law cL_law 4 (some .boolean) 12 600000 7302250 lP k n 685 [none, some (.ref 0), some (.ref 25), some (.int (nI (4 * j)))] [] σ := by
  have hw := hI.2.2.1
  have hct := hI.2.2.2.1
  obtain ⟨fs0, e0⟩ := hI.1.c0
  refine h_aload eL_law_685 rfl ?_
  refine h_callV (r := (RX11, TX11, 10)) eL_law_686 kL_102 e0 rfl (x_digest hI.1 hw) (by rfl) (by rfl) (by exact Nat.le_of_ble_eq_true rfl) (by exact Nat.le_of_ble_eq_true rfl) (by exact Nat.le_of_ble_eq_true rfl) (by omega) (by omega) (fun v1 σ1 hp1 hn1 => ?_)
  obtain ⟨rfl, rfl⟩ := hp1
  have hH : Half t t j σ1 := hI.tx hI.1 FrX.rf
  obtain ⟨fs1, e25⟩ := hH.2.1.c25
  refine h_aload eL_law_689 rfl ?_
  refine h_callV (r := (RX12, TX12, 32)) eL_law_690 kL_106 e25 rfl (m_digest hH.2.1 hw) (by rfl) (by rfl) (by exact Nat.le_of_ble_eq_true rfl) (by exact Nat.le_of_ble_eq_true rfl) (by exact Nat.le_of_ble_eq_true rfl) (by omega) (by omega) (fun v2 σ2 hp2 hn2 => ?_)
  obtain ⟨rfl, hm2, hf2⟩ := hp2
  have hI2 := hH.inv hm2 hf2
  refine h_lcmp eL_law_693 ?_
  rw [lg_self]
  exact h_if_eq eL_law_694 (fun _ => hc _ _ _ _ hI2 (by omega) (by omega)) (fun z => absurd rfl z)
