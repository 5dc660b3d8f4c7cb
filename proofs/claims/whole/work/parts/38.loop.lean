/-! the law's loop, its start -/
theorem head_gt {zN j : Nat} (h1 : 4 * j ≤ zN) (h2 : zN ≤ 2048) : (Int32.ofNat zN - nI 4 < nI (4 * j)) ↔ zN < 4 * j + 4 := by
  show nI zN - nI 4 < nI (4 * j) ↔ _
  by_cases h : 4 ≤ zN
  · rw [pk_sub h, nI_ltI (by omega) (by omega)]
    omega
  · obtain rfl : j = 0 := by omega
    rcases (show zN = 0 ∨ zN = 1 ∨ zN = 2 ∨ zN = 3 by omega) with rfl | rfl | rfl | rfl <;> decide
set_option maxRecDepth 20000 in
theorem law_26 {zb zN : Nat} {zx : Nat → Int32} {t : St} {σ : aH} {j k n : Nat} (hI : Inv t j σ) (hj : 4 * j + 4 ≤ zN) (hN : zN ≤ 2048) (hk : k ≤ 100 + j) (hn : n ≤ 1000 + j) (hc : ∀ t' σ' k' n', Inv t' (j + 1) σ' → k' ≤ k + 1 → n' ≤ n + 1 → GL zb zN zx yL_law cL_law 4 (some .boolean) 12 600000 7302250 lP k' n' 699 [none, some (.ref 0), some (.ref 25), some (.int (nI (4 * j)))] [] σ') : GL zb zN zx yL_law cL_law 4 (some .boolean) 12 600000 7302250 lP k n 26 [none, some (.ref 0), some (.ref 25), some (.int (nI (4 * j)))] [] σ := by
  refine h_scr (x := nI (4 * j)) (by decide +kernel) (by decide +kernel) (by decide +kernel) rfl (vp_in_nI (by omega) (by omega)) ?_
  refine h_push eL_law_29 ?_
  refine h_iand eL_law_31 ?_
  generalize zx (nI (4 * j)).toNatClampNeg &&& nI 31 = sv
  by_cases h0 : sv.toInt = 0
  · exact h_tswIn (off := 104) (tgt := 136) eL_law_32 (by omega) (by omega) (by rw [h0]; rfl) (by decide) (law_letter hI hj hN hk hn hc)
  by_cases h1 : sv.toInt = 1
  · exact h_tswIn (off := 127) (tgt := 159) eL_law_32 (by omega) (by omega) (by rw [h1]; rfl) (by decide) (law_blank hI hj hN hk hn hc)
  by_cases h2 : sv.toInt = 2
  · exact h_tswIn (off := 140) (tgt := 172) eL_law_32 (by omega) (by omega) (by rw [h2]; rfl) (by decide) (law_fault hI hj hN hk hn hc)
  by_cases h3 : sv.toInt = 3
  · exact h_tswIn (off := 153) (tgt := 185) eL_law_32 (by omega) (by omega) (by rw [h3]; rfl) (by decide) (law_court hI hj hN hk hn hc)
  by_cases h4 : sv.toInt = 4
  · exact h_tswIn (off := 166) (tgt := 198) eL_law_32 (by omega) (by omega) (by rw [h4]; rfl) (by decide) (law_near hI hj hN hk hn hc)
  by_cases h5 : sv.toInt = 5
  · exact h_tswIn (off := 189) (tgt := 221) eL_law_32 (by omega) (by omega) (by rw [h5]; rfl) (by decide) (law_word hI hj hN hk hn hc)
  by_cases h6 : sv.toInt = 6
  · exact h_tswIn (off := 212) (tgt := 244) eL_law_32 (by omega) (by omega) (by rw [h6]; rfl) (by decide) (law_put hI hj hN hk hn hc)
  by_cases h7 : sv.toInt = 7
  · exact h_tswIn (off := 245) (tgt := 277) eL_law_32 (by omega) (by omega) (by rw [h7]; rfl) (by decide) (law_limit hI hj hN hk hn hc)
  by_cases h8 : sv.toInt = 8
  · exact h_tswIn (off := 268) (tgt := 300) eL_law_32 (by omega) (by omega) (by rw [h8]; rfl) (by decide) (law_accuse hI hj hN hk hn hc)
  by_cases h9 : sv.toInt = 9
  · exact h_tswIn (off := 301) (tgt := 333) eL_law_32 (by omega) (by omega) (by rw [h9]; rfl) (by decide) (law_about hI hj hN hk hn hc)
  by_cases h10 : sv.toInt = 10
  · exact h_tswIn (off := 334) (tgt := 366) eL_law_32 (by omega) (by omega) (by rw [h10]; rfl) (by decide) (law_as hI hj hN hk hn hc)
  by_cases h11 : sv.toInt = 11
  · exact h_tswIn (off := 367) (tgt := 399) eL_law_32 (by omega) (by omega) (by rw [h11]; rfl) (by decide) (law_lesson hI hj hN hk hn hc)
  by_cases h12 : sv.toInt = 12
  · exact h_tswIn (off := 400) (tgt := 432) eL_law_32 (by omega) (by omega) (by rw [h12]; rfl) (by decide) (law_unlearn hI hj hN hk hn hc)
  by_cases h13 : sv.toInt = 13
  · exact h_tswIn (off := 423) (tgt := 455) eL_law_32 (by omega) (by omega) (by rw [h13]; rfl) (by decide) (law_brief hI hj hN hk hn hc)
  by_cases h14 : sv.toInt = 14
  · exact h_tswIn (off := 446) (tgt := 478) eL_law_32 (by omega) (by omega) (by rw [h14]; rfl) (by decide) (law_hide hI hj hN hk hn hc)
  by_cases h15 : sv.toInt = 15
  · exact h_tswIn (off := 489) (tgt := 521) eL_law_32 (by omega) (by omega) (by rw [h15]; rfl) (by decide) (law_hear hI hj hN hk hn hc)
  by_cases h16 : sv.toInt = 16
  · exact h_tswIn (off := 548) (tgt := 580) eL_law_32 (by omega) (by omega) (by rw [h16]; rfl) (by decide) (law_forget hI hj hN hk hn hc)
  by_cases h17 : sv.toInt = 17
  · exact h_tswIn (off := 561) (tgt := 593) eL_law_32 (by omega) (by omega) (by rw [h17]; rfl) (by decide) (law_trials hI hj hN hk hn hc)
  by_cases h18 : sv.toInt = 18
  · exact h_tswIn (off := 604) (tgt := 636) eL_law_32 (by omega) (by omega) (by rw [h18]; rfl) (by decide) (law_image hI hj hN hk hn hc)
  by_cases h19 : sv.toInt = 19
  · exact h_tswIn (off := 617) (tgt := 649) eL_law_32 (by omega) (by omega) (by rw [h19]; rfl) (by decide) (law_restore hI hj hN hk hn hc)
  by_cases h20 : sv.toInt = 20
  · exact h_tswIn (off := 630) (tgt := 662) eL_law_32 (by omega) (by omega) (by rw [h20]; rfl) (by decide) (law_count hI hj hN hk hn hc)
  by_cases h21 : sv.toInt = 21
  · exact h_tswIn (off := 653) (tgt := 685) eL_law_32 (by omega) (by omega) (by rw [h21]; rfl) (by decide) (law_digest hI hj hN hk hn hc)
  exact h_tswOut (tgt := 699) eL_law_32 (by omega) (by decide) (hc _ _ _ _ hI.up (by omega) (by omega))
set_option maxRecDepth 20000 in
theorem law_18 {zb zN : Nat} {zx : Nat → Int32} (hN : zN ≤ 2048) : ∀ d j t σ k n, zN < 4 * (j + d) + 4 → Inv t j σ → k ≤ 100 + j → n ≤ 1000 + j → 4 * j ≤ zN → GL zb zN zx yL_law cL_law 4 (some .boolean) 12 600000 7302250 lP k n 18 [none, some (.ref 0), some (.ref 25), some (.int (nI (4 * j)))] [] σ := by
  intro d
  induction d with
  | zero =>
    intro j t σ k n hd hI hk hn hj
    refine h_iload eL_law_18 rfl ?_
    refine h_len (by decide +kernel) (by decide +kernel) ?_
    refine h_push eL_law_21 ?_
    refine h_isub eL_law_22 ?_
    refine h_icmp_gt eL_law_23 (fun _ => ?_) (fun z => absurd ((head_gt hj hN).mpr (by omega)) z)
    refine h_push eL_law_705 ?_
    exact h_ret (eL_law_706 _ (Or.inr rfl)) (by omega) (by omega) rfl
  | succ d ih =>
    intro j t σ k n hd hI hk hn hj
    refine h_iload eL_law_18 rfl ?_
    refine h_len (by decide +kernel) (by decide +kernel) ?_
    refine h_push eL_law_21 ?_
    refine h_isub eL_law_22 ?_
    refine h_icmp_gt eL_law_23 (fun _ => ?_) (fun z => ?_)
    · refine h_push eL_law_705 ?_
      exact h_ret (eL_law_706 _ (Or.inr rfl)) (by omega) (by omega) rfl
    · rw [head_gt hj hN] at z
      refine law_26 hI (by omega) hN hk hn (fun t' σ' k' n' hI' hk' hn' => ?_)
      refine h_iinc (by decide) eL_law_699 rfl rfl ?_
      refine h_goto eL_law_702 ?_
      have := ih (j + 1) t' σ' k' n' (by omega) hI' (by omega) (by omega) (by omega)
      rw [nI_add]
      exact this
set_option maxRecDepth 20000 in
theorem law_0 {zb zN : Nat} {zx : Nat → Int32} (hN : zN ≤ 2048) : GL zb zN zx yL_law cL_law 4 (some .boolean) 12 600000 7302250 lP 0 0 0 [none, none, none, none] [] ([] : aH) := by
  refine h_new (ci := 11) (r := (RX11, TX11, 10)) (fs := [.null, .null, .null, .null, .null, .null, .null, .int 0, .int 0, .int 0]) (ty := tyX11) eL_law_0 rfl uX11 tyX11_ok lL_7 nX11 iX11 (fun j hj => match j, hj with | 0, _ => rfl | 1, _ => rfl | 2, _ => rfl | 3, _ => rfl | 4, _ => rfl | 5, _ => rfl | 6, _ => rfl | 7, _ => rfl | 8, _ => rfl | 9, _ => rfl | n + 10, h => absurd (show n + 10 < 10 from h) (by omega)) (okV_all rfl) (by exact Nat.le_of_ble_eq_true rfl) (by exact Nat.le_of_ble_eq_true rfl) ?_
  show GL zb zN zx yL_law cL_law 4 (some .boolean) 12 600000 7302250 lP 1 10 3 [none, none, none, none] [.ref 0] hp_0
  refine h_dup eL_law_3 rfl ?_
  refine h_init eL_law_4 kL_9 c_init_X11_0 (by rfl) (by rfl) (by exact Nat.le_of_ble_eq_true rfl) (by exact Nat.le_of_ble_eq_true rfl) (by exact Nat.le_of_ble_eq_true rfl) (by exact Nat.le_of_ble_eq_true rfl) (by exact Nat.le_of_ble_eq_true rfl) (fun v σ' hp hn => ?_)
  obtain ⟨rfl, rfl⟩ := hp
  refine h_astore (by decide) eL_law_7 rfl ?_
  refine h_new (ci := 12) (r := (RX12, TX12, 32)) (fs := [.null, .int 0, .int 0, .int 0, .int 0, .null, .null, .int 0, .int 0, .int 0, .int 0, .null, .null, .int 0, .null, .int 0, .null, .null, .int 0, .null, .null, .int 0, .null, .int 0, .int 0, .int 0, .int 0, .int 0, .null, .null, .null, .long 0]) (ty := tyX12) eL_law_8 rfl uX12 tyX12_ok lL_10 nX12 iX12 (fun j hj => match j, hj with | 0, _ => rfl | 1, _ => rfl | 2, _ => rfl | 3, _ => rfl | 4, _ => rfl | 5, _ => rfl | 6, _ => rfl | 7, _ => rfl | 8, _ => rfl | 9, _ => rfl | 10, _ => rfl | 11, _ => rfl | 12, _ => rfl | 13, _ => rfl | 14, _ => rfl | 15, _ => rfl | 16, _ => rfl | 17, _ => rfl | 18, _ => rfl | 19, _ => rfl | 20, _ => rfl | 21, _ => rfl | 22, _ => rfl | 23, _ => rfl | 24, _ => rfl | 25, _ => rfl | 26, _ => rfl | 27, _ => rfl | 28, _ => rfl | 29, _ => rfl | 30, _ => rfl | 31, _ => rfl | n + 32, h => absurd (show n + 32 < 32 from h) (by omega)) (okV_all rfl) (by exact Nat.le_of_ble_eq_true rfl) (by exact Nat.le_of_ble_eq_true rfl) ?_
  show GL zb zN zx yL_law cL_law 4 (some .boolean) 12 600000 7302250 lP 26 194 11 [none, some (.ref 0), none, none] [.ref 25] hp_49
  refine h_dup eL_law_11 rfl ?_
  refine h_init eL_law_12 kL_12 c_init_X12_25 (by rfl) (by rfl) (by exact Nat.le_of_ble_eq_true rfl) (by exact Nat.le_of_ble_eq_true rfl) (by exact Nat.le_of_ble_eq_true rfl) (by exact Nat.le_of_ble_eq_true rfl) (by exact Nat.le_of_ble_eq_true rfl) (fun v σ' hp hn => ?_)
  obtain ⟨rfl, rfl⟩ := hp
  refine h_astore (by decide) eL_law_15 rfl ?_
  refine h_push eL_law_16 ?_
  refine h_istore (by decide) eL_law_17 rfl ?_
  exact law_18 hN zN 0 t0 hp_78 40 395 (by omega) Inv_0 (by omega) (by omega) (by omega)
