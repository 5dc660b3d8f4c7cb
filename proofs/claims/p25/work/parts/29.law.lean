/-! the law -/
abbrev lP : Option Value → aH → Prop := fun v _ => v = some (.int (nI 1))
theorem rg_hi {lo n j : Nat} (h : n ≤ j) (hj : j < 2147483648) : rg (nI j) lo n = none := by
  unfold rg
  rw [nI_toInt (by omega), if_neg (by omega)]
theorem rg_lo {lo n j : Nat} (h : j < lo) (hj : j < 2147483648) : rg (nI j) lo n = none := by
  unfold rg
  rw [nI_toInt (by omega), if_neg (by omega)]
theorem rg_m1 (lo n : Nat) : rg (-1) lo n = none := by
  unfold rg
  rw [show (-1 : Int32).toInt = -1 from by decide, if_neg (by omega)]
theorem no_near {t : St} {x : Int32} (h : rg x 0 5 = none) : oNear t x = -101 := by
  unfold oNear
  rw [h]
theorem no_word {t : St} {x : Int32} (h : rg x 0 (shO (crO t)).length = none) : oWord t x = -101 := by
  unfold oWord
  rw [h]
theorem no_put1 {t : St} {x y : Int32} (h : rg x 0 (shO (crO t)).length = none) : oPut t x y = (-101, t) := by
  unfold oPut
  rw [h]
theorem no_put2 {t : St} {k : Nat} {y : Int32} (hk : k < (shO (crO t)).length) (h10 : (shO (crO t)).length ≤ 10) (h : rg y 0 8 = none) : oPut t (nI k) y = (-102, t) := by
  unfold oPut
  rw [rg_nI (Nat.zero_le _) hk (by omega)]
  dsimp only
  rw [h]
theorem no_limit {t : St} {x : Int32} (h : rg x 1 11 = none) : oLimit t x = (-102, t) := by
  unfold oLimit
  rw [h]
theorem no_acc1 {t : St} {x y : Int32} (h : rg x 0 5 = none) : oAccuse t x y = (-102, t) := by
  unfold oAccuse
  rw [h]
theorem no_acc2 {t : St} {k : Nat} {y : Int32} (hk : k < 5) (h : rg y 0 5 = none) : oAccuse t (nI k) y = (-102, t) := by
  unfold oAccuse
  rw [rg_nI (Nat.zero_le _) hk]
  dsimp only
  rw [h]
theorem no_about1 {t : St} {x y : Int32} (h : rg x 0 (mnO (crO t)).length = none) : oAbout t x y = -101 := by
  unfold oAbout
  rw [h]
theorem no_about2 {t : St} {a : Nat} {y : Int32} (ha : a < (mnO (crO t)).length) (h4 : (mnO (crO t)).length ≤ 4) (h : rg y 0 8 = none) : oAbout t (nI a) y = -102 := by
  unfold oAbout
  rw [rg_nI (Nat.zero_le _) ha (by omega)]
  dsimp only
  rw [h]
theorem no_as1 {t : St} {x y : Int32} (h : rg x 0 (mnO (crO t)).length = none) : oAs t x y = -101 := by
  unfold oAs
  rw [h]
theorem no_as2 {t : St} {a : Nat} {y : Int32} (ha : a < (mnO (crO t)).length) (h4 : (mnO (crO t)).length ≤ 4) (h : rg y 0 5 = none) : oAs t (nI a) y = -102 := by
  unfold oAs
  rw [rg_nI (Nat.zero_le _) ha (by omega)]
  dsimp only
  rw [h]
theorem no_les1 {t : St} {x y : Int32} (h : rg x 0 (mnO (crO t)).length = none) : oLesson t x y = (-101, t) := by
  unfold oLesson
  rw [h]
theorem no_les2 {t : St} {a : Nat} {y : Int32} (ha : a < (mnO (crO t)).length) (h4 : (mnO (crO t)).length ≤ 4) (h : rg y 0 8 = none) : oLesson t (nI a) y = (-102, t) := by
  unfold oLesson
  rw [rg_nI (Nat.zero_le _) ha (by omega)]
  dsimp only
  rw [h]
theorem no_unl {t : St} {x : Int32} (h : rg x 0 (mnO (crO t)).length = none) : oUnlearn t x = (-101, t) := by
  unfold oUnlearn
  rw [h]
theorem no_tr1 {t : St} {x y z : Int32} (h : rg x 1 41 = none) : oTrials t x y z = -102 := by
  unfold oTrials
  rw [h]
theorem no_tr2 {t : St} {x : Nat} {y z : Int32} (h1 : 1 ≤ x) (h2 : x < 41) (h : rg y 0 2147483648 = none) : oTrials t (nI x) y z = -102 := by
  unfold oTrials
  rw [rg_nI h1 h2]
  dsimp only
  rw [h]
theorem no_tr3 {t : St} {x y : Nat} {z : Int32} (h1 : 1 ≤ x) (h2 : x < 41) (h3 : y < 2147483648) (h : rg z 0 3 = none) : oTrials t (nI x) (nI y) z = -102 := by
  unfold oTrials
  rw [rg_nI h1 h2]
  dsimp only
  rw [rg_nI (Nat.zero_le _) h3 (by decide)]
  dsimp only
  rw [h]
theorem oAs_yes {t : St} (h4 : (mnO (crO t)).length ≤ 4) {a k : Nat} (ha : a < (mnO (crO t)).length) (hk : k < 5) (h : k = 0 ∨ k = (manO (crO t) a).1 ∨ (k = 1 ∧ (manO (crO t) a).1 = 4)) : oAs t (nI a) (nI k) = nI a := by
  unfold oAs
  rw [rg_nI (Nat.zero_le _) ha (by omega)]
  dsimp only
  rw [rg_nI (Nat.zero_le _) hk]
  dsimp only
  refine if_pos ?_
  unfold isK
  rcases h with h | h | ⟨h, h'⟩
  · rw [decide_eq_true h]; rfl
  · rw [decide_eq_true h, Bool.or_true]; rfl
  · rw [decide_eq_true h, decide_eq_true h']; exact Bool.or_true _
theorem oAs_no {t : St} (h4 : (mnO (crO t)).length ≤ 4) {a k : Nat} (ha : a < (mnO (crO t)).length) (hk : k < 5) (h1 : ¬ k = 0) (h2 : ¬ k = (manO (crO t) a).1) (h3 : ¬ k = 1 ∨ ¬ (manO (crO t) a).1 = 4) : oAs t (nI a) (nI k) = -1 := by
  unfold oAs
  rw [rg_nI (Nat.zero_le _) ha (by omega)]
  dsimp only
  rw [rg_nI (Nat.zero_le _) hk]
  dsimp only
  refine if_neg ?_
  unfold isK
  rw [decide_eq_false h1, decide_eq_false h2]
  rcases h3 with h | h
  · rw [decide_eq_false h]; simp
  · rw [decide_eq_false h, Bool.and_false]; simp
theorem and_max (y : Int32) : ∃ sd, sd < 2147483648 ∧ y &&& nI 2147483647 = nI sd := by
  obtain ⟨m, hm, rfl⟩ := nI_all y
  exact ⟨m &&& 2147483647, Nat.lt_of_le_of_lt Nat.and_le_right (by decide), nA_and _ _⟩
set_option maxRecDepth 20000 in
theorem law_574 {zb zN : Nat} {zx : Nat → Int32} (hz : zN ≤ 260) {t : St} {σ : aH} {k n : Nat} {nn : Int32} {o8 : Option Value} (hI : IX t σ) (hwf : WF t) (hC : 0 < ctO t) (h28 : 28 ≤ σ.length) (hmen : 0 < (mnO (crO t)).length) (hk : k ≤ 1010) (hn : n ≤ 5010) : GL zb zN zx yL_law cL_law 9 (some .boolean) 8 600000 7302249 lP k n 574 [none, some (.ref 0), some (.ref 25), some (.ref 26), some (.ref 27), some (.int nn), some (.int (nI ((shO (crO t)).length))), some (.int (nI ((mnO (crO t)).length))), o8] [] σ := by
  obtain ⟨fs, e0⟩ := hI.e0
  have h10 := hwf.ten
  have h4 := hwf.four
  have hln := hwf.len hC
  refine h_aload eL_law_574 rfl ?_
  refine h_push eL_law_575 ?_
  refine h_push eL_law_576 ?_
  refine h_push eL_law_577 ?_
  refine h_callV0 (r := (RX11, TX11, 10)) eL_law_578 kL_101 e0 (by rfl) (x_trials hI hwf (x := (nI 0)) (y := (nI 0)) (z := (nI 0))) (by rfl) (by rfl) (by exact Nat.le_of_ble_eq_true rfl) (by exact Nat.le_of_ble_eq_true rfl) (by exact Nat.le_of_ble_eq_true rfl) (by omega) (by omega) (fun v578 σ578 hp578 hn578 => ?_)
  rw [no_tr1 (rg_lo (by decide) (by decide))] at hp578
  obtain ⟨rfl, hI, hF⟩ := hp578
  have hI : IX t _ := hI
  obtain ⟨fs, e0⟩ := hI.e0
  refine h_push eL_law_581 ?_
  refine h_icmp_ne eL_law_583 (fun c583 => absurd rfl c583) (fun c583 => ?_)
  refine h_aload eL_law_586 rfl ?_
  refine h_push eL_law_587 ?_
  refine h_push eL_law_589 ?_
  refine h_push eL_law_590 ?_
  refine h_callV0 (r := (RX11, TX11, 10)) eL_law_591 kL_101 e0 (by rfl) (x_trials hI hwf (x := (nI 41)) (y := (nI 0)) (z := (nI 0))) (by rfl) (by rfl) (by exact Nat.le_of_ble_eq_true rfl) (by exact Nat.le_of_ble_eq_true rfl) (by exact Nat.le_of_ble_eq_true rfl) (by omega) (by omega) (fun v591 σ591 hp591 hn591 => ?_)
  rw [no_tr1 (rg_hi (by decide) (by decide))] at hp591
  obtain ⟨rfl, hI, hF⟩ := hp591
  have hI : IX t _ := hI
  obtain ⟨fs, e0⟩ := hI.e0
  refine h_push eL_law_594 ?_
  refine h_icmp_ne eL_law_596 (fun c596 => absurd rfl c596) (fun c596 => ?_)
  refine h_aload eL_law_599 rfl ?_
  refine h_push eL_law_600 ?_
  refine h_push eL_law_601 ?_
  refine h_push eL_law_602 ?_
  refine h_callV0 (r := (RX11, TX11, 10)) eL_law_603 kL_101 e0 (by rfl) (x_trials hI hwf (x := (nI 1)) (y := (-1)) (z := (nI 0))) (by rfl) (by rfl) (by exact Nat.le_of_ble_eq_true rfl) (by exact Nat.le_of_ble_eq_true rfl) (by exact Nat.le_of_ble_eq_true rfl) (by omega) (by omega) (fun v603 σ603 hp603 hn603 => ?_)
  rw [no_tr2 (by decide) (by decide) (rg_m1 _ _)] at hp603
  obtain ⟨rfl, hI, hF⟩ := hp603
  have hI : IX t _ := hI
  obtain ⟨fs, e0⟩ := hI.e0
  refine h_push eL_law_606 ?_
  refine h_icmp_ne eL_law_608 (fun c608 => absurd rfl c608) (fun c608 => ?_)
  refine h_aload eL_law_611 rfl ?_
  refine h_push eL_law_612 ?_
  refine h_push eL_law_613 ?_
  refine h_push eL_law_614 ?_
  refine h_callV0 (r := (RX11, TX11, 10)) eL_law_615 kL_101 e0 (by rfl) (x_trials hI hwf (x := (nI 1)) (y := (nI 0)) (z := (nI 3))) (by rfl) (by rfl) (by exact Nat.le_of_ble_eq_true rfl) (by exact Nat.le_of_ble_eq_true rfl) (by exact Nat.le_of_ble_eq_true rfl) (by omega) (by omega) (fun v615 σ615 hp615 hn615 => ?_)
  rw [no_tr3 (by decide) (by decide) (by decide) (rg_hi (by decide) (by decide))] at hp615
  obtain ⟨rfl, hI, hF⟩ := hp615
  have hI : IX t _ := hI
  obtain ⟨fs, e0⟩ := hI.e0
  refine h_push eL_law_618 ?_
  refine h_icmp_ne eL_law_620 (fun c620 => absurd rfl c620) (fun c620 => ?_)
  refine h_push eL_law_623 ?_
  refine h_goto eL_law_624 ?_
  exact h_ret (eL_law_628 _ (Or.inr rfl)) (by omega) (by omega) rfl
set_option maxRecDepth 20000 in
theorem law_539 {zb zN : Nat} {zx : Nat → Int32} (hz : zN ≤ 260) {t : St} {σ : aH} {k n : Nat} {nn : Int32} {o8 : Option Value} (hI : IX t σ) (hwf : WF t) (hC : 0 < ctO t) (h28 : 28 ≤ σ.length) (hmen : 0 < (mnO (crO t)).length) (hk : k ≤ 1010) (hn : n ≤ 5010) : GL zb zN zx yL_law cL_law 9 (some .boolean) 8 600000 7302249 lP k n 539 [none, some (.ref 0), some (.ref 25), some (.ref 26), some (.ref 27), some (.int nn), some (.int (nI ((shO (crO t)).length))), some (.int (nI ((mnO (crO t)).length))), o8] [] σ := by
  obtain ⟨fs, e0⟩ := hI.e0
  have h10 := hwf.ten
  have h4 := hwf.four
  have hln := hwf.len hC
  refine h_aload eL_law_539 rfl ?_
  refine h_iload eL_law_540 rfl ?_
  refine h_push eL_law_542 ?_
  refine h_callV0 (r := (RX11, TX11, 10)) eL_law_543 kL_64 e0 (by rfl) (x_lesson hI hwf (x := (nI (mnO (crO t)).length)) (y := (nI 0))) (by rfl) (by rfl) (by exact Nat.le_of_ble_eq_true rfl) (by exact Nat.le_of_ble_eq_true rfl) (by exact Nat.le_of_ble_eq_true rfl) (by omega) (by omega) (fun v543 σ543 hp543 hn543 => ?_)
  rw [no_les1 (rg_hi (Nat.le_refl _) (by omega))] at hp543
  obtain ⟨rfl, hI, hF⟩ := hp543
  have hI : IX t _ := hI
  have h28 := Nat.le_trans h28 hF.1
  obtain ⟨fs, e0⟩ := hI.e0
  refine h_push eL_law_546 ?_
  refine h_icmp_ne eL_law_548 (fun c548 => absurd rfl c548) (fun c548 => ?_)
  refine h_aload eL_law_551 rfl ?_
  refine h_push eL_law_552 ?_
  refine h_push eL_law_553 ?_
  refine h_callV0 (r := (RX11, TX11, 10)) eL_law_555 kL_64 e0 (by rfl) (x_lesson hI hwf (x := (nI 0)) (y := (nI 8))) (by rfl) (by rfl) (by exact Nat.le_of_ble_eq_true rfl) (by exact Nat.le_of_ble_eq_true rfl) (by exact Nat.le_of_ble_eq_true rfl) (by omega) (by omega) (fun v555 σ555 hp555 hn555 => ?_)
  rw [no_les2 hmen h4 (rg_hi (by decide) (by decide))] at hp555
  obtain ⟨rfl, hI, hF⟩ := hp555
  have hI : IX t _ := hI
  have h28 := Nat.le_trans h28 hF.1
  obtain ⟨fs, e0⟩ := hI.e0
  refine h_push eL_law_558 ?_
  refine h_icmp_ne eL_law_560 (fun c560 => absurd rfl c560) (fun c560 => ?_)
  refine h_aload eL_law_563 rfl ?_
  refine h_iload eL_law_564 rfl ?_
  refine h_callV0 (r := (RX11, TX11, 10)) eL_law_566 kL_67 e0 (by rfl) (x_unlearn hI hwf (x := (nI (mnO (crO t)).length))) (by rfl) (by rfl) (by exact Nat.le_of_ble_eq_true rfl) (by exact Nat.le_of_ble_eq_true rfl) (by exact Nat.le_of_ble_eq_true rfl) (by omega) (by omega) (fun v566 σ566 hp566 hn566 => ?_)
  rw [no_unl (rg_hi (Nat.le_refl _) (by omega))] at hp566
  obtain ⟨rfl, hI, hF⟩ := hp566
  have hI : IX t _ := hI
  have h28 := Nat.le_trans h28 hF.1
  obtain ⟨fs, e0⟩ := hI.e0
  refine h_push eL_law_569 ?_
  refine h_icmp_ne eL_law_571 (fun c571 => absurd rfl c571) (fun c571 => ?_)
  exact law_574 hz hI hwf hC h28 hmen (by omega) (by omega)
set_option maxRecDepth 20000 in
theorem law_492 {zb zN : Nat} {zx : Nat → Int32} (hz : zN ≤ 260) {t : St} {σ : aH} {k n : Nat} {nn : Int32} {o8 : Option Value} (hI : IX t σ) (hwf : WF t) (hC : 0 < ctO t) (h28 : 28 ≤ σ.length) (hmen : 0 < (mnO (crO t)).length) (hk : k ≤ 1010) (hn : n ≤ 5010) : GL zb zN zx yL_law cL_law 9 (some .boolean) 8 600000 7302249 lP k n 492 [none, some (.ref 0), some (.ref 25), some (.ref 26), some (.ref 27), some (.int nn), some (.int (nI ((shO (crO t)).length))), some (.int (nI ((mnO (crO t)).length))), o8] [] σ := by
  obtain ⟨fs, e0⟩ := hI.e0
  have h10 := hwf.ten
  have h4 := hwf.four
  have hln := hwf.len hC
  refine h_aload eL_law_492 rfl ?_
  refine h_iload eL_law_493 rfl ?_
  refine h_push eL_law_495 ?_
  refine h_callVp (r := (RX11, TX11, 10)) eL_law_496 kL_48 e0 (by rfl) (x_about hI hwf (x := (nI (mnO (crO t)).length)) (y := (nI 0)) (Or.inl hln)) (by rfl) (by rfl) (by exact Nat.le_of_ble_eq_true rfl) (by exact Nat.le_of_ble_eq_true rfl) (by exact Nat.le_of_ble_eq_true rfl) (by omega) (by omega) ?_
  refine h_push eL_law_499 ?_
  refine h_icmp_ne eL_law_501 (fun c501 => absurd (no_about1 (rg_hi (Nat.le_refl _) (by omega))) c501) (fun c501 => ?_)
  refine h_aload eL_law_504 rfl ?_
  refine h_push eL_law_505 ?_
  refine h_push eL_law_506 ?_
  refine h_callVp (r := (RX11, TX11, 10)) eL_law_508 kL_48 e0 (by rfl) (x_about hI hwf (x := (nI 0)) (y := (nI 8)) (Or.inl hln)) (by rfl) (by rfl) (by exact Nat.le_of_ble_eq_true rfl) (by exact Nat.le_of_ble_eq_true rfl) (by exact Nat.le_of_ble_eq_true rfl) (by omega) (by omega) ?_
  refine h_push eL_law_511 ?_
  refine h_icmp_ne eL_law_513 (fun c513 => absurd (no_about2 hmen h4 (rg_hi (by decide) (by decide))) c513) (fun c513 => ?_)
  refine h_aload eL_law_516 rfl ?_
  refine h_iload eL_law_517 rfl ?_
  refine h_push eL_law_519 ?_
  refine h_callVp (r := (RX11, TX11, 10)) eL_law_520 kL_98 e0 (by rfl) (x_as hI hwf (x := (nI (mnO (crO t)).length)) (y := (nI 0))) (by rfl) (by rfl) (by exact Nat.le_of_ble_eq_true rfl) (by exact Nat.le_of_ble_eq_true rfl) (by exact Nat.le_of_ble_eq_true rfl) (by omega) (by omega) ?_
  refine h_push eL_law_523 ?_
  refine h_icmp_ne eL_law_525 (fun c525 => absurd (no_as1 (rg_hi (Nat.le_refl _) (by omega))) c525) (fun c525 => ?_)
  refine h_aload eL_law_528 rfl ?_
  refine h_push eL_law_529 ?_
  refine h_push eL_law_530 ?_
  refine h_callVp (r := (RX11, TX11, 10)) eL_law_531 kL_98 e0 (by rfl) (x_as hI hwf (x := (nI 0)) (y := (nI 5))) (by rfl) (by rfl) (by exact Nat.le_of_ble_eq_true rfl) (by exact Nat.le_of_ble_eq_true rfl) (by exact Nat.le_of_ble_eq_true rfl) (by omega) (by omega) ?_
  refine h_push eL_law_534 ?_
  refine h_icmp_ne eL_law_536 (fun c536 => absurd (no_as2 hmen h4 (rg_hi (by decide) (by decide))) c536) (fun c536 => ?_)
  exact law_539 hz hI hwf hC h28 hmen (by omega) (by omega)
set_option maxRecDepth 20000 in
theorem law_459 {zb zN : Nat} {zx : Nat → Int32} (hz : zN ≤ 260) {t : St} {σ : aH} {k n : Nat} {nn : Int32} {o8 : Option Value} (hI : IX t σ) (hwf : WF t) (hC : 0 < ctO t) (h28 : 28 ≤ σ.length) (hmen : 0 < (mnO (crO t)).length) (hk : k ≤ 1000) (hn : n ≤ 5000) : GL zb zN zx yL_law cL_law 9 (some .boolean) 8 600000 7302249 lP k n 459 [none, some (.ref 0), some (.ref 25), some (.ref 26), some (.ref 27), some (.int nn), some (.int (nI ((shO (crO t)).length))), some (.int (nI ((mnO (crO t)).length))), o8] [] σ := by
  obtain ⟨fs, e0⟩ := hI.e0
  have h10 := hwf.ten
  have h4 := hwf.four
  have hln := hwf.len hC
  refine h_aload eL_law_459 rfl ?_
  refine h_push eL_law_460 ?_
  refine h_push eL_law_461 ?_
  refine h_callV (r := (RX11, TX11, 10)) eL_law_462 kL_28 e0 (by rfl) (x_accuse hI hwf h28 (x := (nI 5)) (y := (nI 0))) (by rfl) (by rfl) (by exact Nat.le_of_ble_eq_true rfl) (by exact Nat.le_of_ble_eq_true rfl) (by exact Nat.le_of_ble_eq_true rfl) (by omega) (by omega) (fun v σ' hp hln_ => ?_)
  rw [no_acc1 (rg_hi (by decide) (by decide))] at hp
  obtain ⟨rfl, hI, hF⟩ := hp
  have hI : IX t _ := hI
  have h28 := Nat.le_trans h28 hF.1
  obtain ⟨fs, e0⟩ := hI.e0
  refine h_push eL_law_465 ?_
  refine h_icmp_ne eL_law_467 (fun c467 => absurd rfl c467) (fun c467 => ?_)
  refine h_aload eL_law_470 rfl ?_
  refine h_push eL_law_471 ?_
  refine h_push eL_law_472 ?_
  refine h_callV (r := (RX11, TX11, 10)) eL_law_473 kL_28 e0 (by rfl) (x_accuse hI hwf h28 (x := (nI 0)) (y := (nI 5))) (by rfl) (by rfl) (by exact Nat.le_of_ble_eq_true rfl) (by exact Nat.le_of_ble_eq_true rfl) (by exact Nat.le_of_ble_eq_true rfl) (by omega) (by omega) (fun v σ' hp hln_ => ?_)
  rw [no_acc2 (by decide) (rg_hi (by decide) (by decide))] at hp
  obtain ⟨rfl, hI, hF⟩ := hp
  have hI : IX t _ := hI
  have h28 := Nat.le_trans h28 hF.1
  obtain ⟨fs, e0⟩ := hI.e0
  refine h_push eL_law_476 ?_
  refine h_icmp_ne eL_law_478 (fun c478 => absurd rfl c478) (fun c478 => ?_)
  refine h_aload eL_law_481 rfl ?_
  refine h_push eL_law_482 ?_
  refine h_push eL_law_483 ?_
  refine h_callV (r := (RX11, TX11, 10)) eL_law_484 kL_28 e0 (by rfl) (x_accuse hI hwf h28 (x := (-1)) (y := (nI 0))) (by rfl) (by rfl) (by exact Nat.le_of_ble_eq_true rfl) (by exact Nat.le_of_ble_eq_true rfl) (by exact Nat.le_of_ble_eq_true rfl) (by omega) (by omega) (fun v σ' hp hln_ => ?_)
  rw [no_acc1 (rg_m1 _ _)] at hp
  obtain ⟨rfl, hI, hF⟩ := hp
  have hI : IX t _ := hI
  have h28 := Nat.le_trans h28 hF.1
  obtain ⟨fs, e0⟩ := hI.e0
  refine h_push eL_law_487 ?_
  refine h_icmp_ne eL_law_489 (fun c489 => absurd rfl c489) (fun c489 => ?_)
  exact law_492 hz hI hwf hC h28 hmen (by omega) (by omega)
set_option maxRecDepth 20000 in
theorem law_403 {zb zN : Nat} {zx : Nat → Int32} (hz : zN ≤ 260) {t : St} {σ : aH} {k n : Nat} {nn : Int32} {o8 : Option Value} (hI : IX t σ) (hwf : WF t) (hC : 0 < ctO t) (h28 : 28 ≤ σ.length) (hmen : 0 < (mnO (crO t)).length) (hk : k ≤ 1000) (hn : n ≤ 5000) : GL zb zN zx yL_law cL_law 9 (some .boolean) 8 600000 7302249 lP k n 403 [none, some (.ref 0), some (.ref 25), some (.ref 26), some (.ref 27), some (.int nn), some (.int (nI ((shO (crO t)).length))), some (.int (nI ((mnO (crO t)).length))), o8] [] σ := by
  obtain ⟨fs, e0⟩ := hI.e0
  have h10 := hwf.ten
  have h4 := hwf.four
  have hln := hwf.len hC
  refine h_aload eL_law_403 rfl ?_
  refine h_iload eL_law_404 rfl ?_
  refine h_push eL_law_406 ?_
  refine h_callV0 (r := (RX11, TX11, 10)) eL_law_407 kL_54 e0 (by rfl) (x_put hI hwf (x := (nI (shO (crO t)).length)) (y := (nI 0))) (by rfl) (by rfl) (by exact Nat.le_of_ble_eq_true rfl) (by exact Nat.le_of_ble_eq_true rfl) (by exact Nat.le_of_ble_eq_true rfl) (by omega) (by omega) (fun v407 σ407 hp407 hn407 => ?_)
  rw [no_put1 (rg_hi (Nat.le_refl _) (by omega))] at hp407
  obtain ⟨rfl, hI, hF⟩ := hp407
  have hI : IX t _ := hI
  have h28 := Nat.le_trans h28 hF.1
  obtain ⟨fs, e0⟩ := hI.e0
  refine h_push eL_law_410 ?_
  refine h_icmp_ne eL_law_412 (fun c412 => absurd rfl c412) (fun c412 => ?_)
  refine h_aload eL_law_415 rfl ?_
  refine h_push eL_law_416 ?_
  refine h_push eL_law_417 ?_
  refine h_callV0 (r := (RX11, TX11, 10)) eL_law_419 kL_54 e0 (by rfl) (x_put hI hwf (x := (nI 0)) (y := (nI 8))) (by rfl) (by rfl) (by exact Nat.le_of_ble_eq_true rfl) (by exact Nat.le_of_ble_eq_true rfl) (by exact Nat.le_of_ble_eq_true rfl) (by omega) (by omega) (fun v419 σ419 hp419 hn419 => ?_)
  rw [no_put2 hln h10 (rg_hi (by decide) (by decide))] at hp419
  obtain ⟨rfl, hI, hF⟩ := hp419
  have hI : IX t _ := hI
  have h28 := Nat.le_trans h28 hF.1
  obtain ⟨fs, e0⟩ := hI.e0
  refine h_push eL_law_422 ?_
  refine h_icmp_ne eL_law_424 (fun c424 => absurd rfl c424) (fun c424 => ?_)
  refine h_aload eL_law_427 rfl ?_
  refine h_push eL_law_428 ?_
  refine h_push eL_law_429 ?_
  refine h_callV0 (r := (RX11, TX11, 10)) eL_law_430 kL_54 e0 (by rfl) (x_put hI hwf (x := (nI 0)) (y := (-1))) (by rfl) (by rfl) (by exact Nat.le_of_ble_eq_true rfl) (by exact Nat.le_of_ble_eq_true rfl) (by exact Nat.le_of_ble_eq_true rfl) (by omega) (by omega) (fun v430 σ430 hp430 hn430 => ?_)
  rw [no_put2 hln h10 (rg_m1 _ _)] at hp430
  obtain ⟨rfl, hI, hF⟩ := hp430
  have hI : IX t _ := hI
  have h28 := Nat.le_trans h28 hF.1
  obtain ⟨fs, e0⟩ := hI.e0
  refine h_push eL_law_433 ?_
  refine h_icmp_ne eL_law_435 (fun c435 => absurd rfl c435) (fun c435 => ?_)
  refine h_aload eL_law_438 rfl ?_
  refine h_push eL_law_439 ?_
  refine h_callV0 (r := (RX11, TX11, 10)) eL_law_440 kL_57 e0 (by rfl) (x_limit hI hwf (x := (nI 0))) (by rfl) (by rfl) (by exact Nat.le_of_ble_eq_true rfl) (by exact Nat.le_of_ble_eq_true rfl) (by exact Nat.le_of_ble_eq_true rfl) (by omega) (by omega) (fun v440 σ440 hp440 hn440 => ?_)
  rw [no_limit (rg_lo (by decide) (by decide))] at hp440
  obtain ⟨rfl, hI, hF⟩ := hp440
  have hI : IX t _ := hI
  have h28 := Nat.le_trans h28 hF.1
  obtain ⟨fs, e0⟩ := hI.e0
  refine h_push eL_law_443 ?_
  refine h_icmp_ne eL_law_445 (fun c445 => absurd rfl c445) (fun c445 => ?_)
  refine h_aload eL_law_448 rfl ?_
  refine h_push eL_law_449 ?_
  refine h_callV0 (r := (RX11, TX11, 10)) eL_law_451 kL_57 e0 (by rfl) (x_limit hI hwf (x := (nI 11))) (by rfl) (by rfl) (by exact Nat.le_of_ble_eq_true rfl) (by exact Nat.le_of_ble_eq_true rfl) (by exact Nat.le_of_ble_eq_true rfl) (by omega) (by omega) (fun v451 σ451 hp451 hn451 => ?_)
  rw [no_limit (rg_hi (by decide) (by decide))] at hp451
  obtain ⟨rfl, hI, hF⟩ := hp451
  have hI : IX t _ := hI
  have h28 := Nat.le_trans h28 hF.1
  obtain ⟨fs, e0⟩ := hI.e0
  refine h_push eL_law_454 ?_
  refine h_icmp_ne eL_law_456 (fun c456 => absurd rfl c456) (fun c456 => ?_)
  exact law_459 hz hI hwf hC h28 hmen (by omega) (by omega)
set_option maxRecDepth 20000 in
theorem law_362 {zb zN : Nat} {zx : Nat → Int32} (hz : zN ≤ 260) {t : St} {σ : aH} {k n : Nat} {nn : Int32} {o8 : Option Value} (hI : IX t σ) (hwf : WF t) (hC : 0 < ctO t) (h28 : 28 ≤ σ.length) (hmen : 0 < (mnO (crO t)).length) (hk : k ≤ 1000) (hn : n ≤ 5000) : GL zb zN zx yL_law cL_law 9 (some .boolean) 8 600000 7302249 lP k n 362 [none, some (.ref 0), some (.ref 25), some (.ref 26), some (.ref 27), some (.int nn), some (.int (nI ((shO (crO t)).length))), some (.int (nI ((mnO (crO t)).length))), o8] [] σ := by
  obtain ⟨fs, e0⟩ := hI.e0
  have h10 := hwf.ten
  have h4 := hwf.four
  have hln := hwf.len hC
  refine h_aload eL_law_362 rfl ?_
  refine h_push eL_law_363 ?_
  refine h_callVp (r := (RX11, TX11, 10)) eL_law_364 kL_35 e0 (by rfl) (x_near hI hwf (x := (nI 5))) (by rfl) (by rfl) (by exact Nat.le_of_ble_eq_true rfl) (by exact Nat.le_of_ble_eq_true rfl) (by exact Nat.le_of_ble_eq_true rfl) (by omega) (by omega) ?_
  refine h_push eL_law_367 ?_
  refine h_icmp_ne eL_law_369 (fun c369 => absurd (no_near (rg_hi (by decide) (by decide))) c369) (fun c369 => ?_)
  refine h_aload eL_law_372 rfl ?_
  refine h_push eL_law_373 ?_
  refine h_callVp (r := (RX11, TX11, 10)) eL_law_374 kL_35 e0 (by rfl) (x_near hI hwf (x := (-1))) (by rfl) (by rfl) (by exact Nat.le_of_ble_eq_true rfl) (by exact Nat.le_of_ble_eq_true rfl) (by exact Nat.le_of_ble_eq_true rfl) (by omega) (by omega) ?_
  refine h_push eL_law_377 ?_
  refine h_icmp_ne eL_law_379 (fun c379 => absurd (no_near (rg_m1 _ _)) c379) (fun c379 => ?_)
  refine h_aload eL_law_382 rfl ?_
  refine h_iload eL_law_383 rfl ?_
  refine h_callVp (r := (RX11, TX11, 10)) eL_law_385 kL_38 e0 (by rfl) (x_word hI hwf (x := (nI (shO (crO t)).length))) (by rfl) (by rfl) (by exact Nat.le_of_ble_eq_true rfl) (by exact Nat.le_of_ble_eq_true rfl) (by exact Nat.le_of_ble_eq_true rfl) (by omega) (by omega) ?_
  refine h_push eL_law_388 ?_
  refine h_icmp_ne eL_law_390 (fun c390 => absurd (no_word (rg_hi (Nat.le_refl _) (by omega))) c390) (fun c390 => ?_)
  refine h_aload eL_law_393 rfl ?_
  refine h_push eL_law_394 ?_
  refine h_callVp (r := (RX11, TX11, 10)) eL_law_395 kL_38 e0 (by rfl) (x_word hI hwf (x := (-1))) (by rfl) (by rfl) (by exact Nat.le_of_ble_eq_true rfl) (by exact Nat.le_of_ble_eq_true rfl) (by exact Nat.le_of_ble_eq_true rfl) (by omega) (by omega) ?_
  refine h_push eL_law_398 ?_
  refine h_icmp_ne eL_law_400 (fun c400 => absurd (no_word (rg_m1 _ _)) c400) (fun c400 => ?_)
  exact law_403 hz hI hwf hC h28 hmen (by omega) (by omega)
set_option maxRecDepth 20000 in
theorem law_327 {zb zN : Nat} {zx : Nat → Int32} (hz : zN ≤ 260) {t : St} {σ : aH} {k n : Nat} {nn : Int32} {o6 o7 o8 : Option Value} (h : LI t σ) (hmen : 0 < (mnO (crO t)).length) (hk : k ≤ 900) (hn : n ≤ 4900) : GL zb zN zx yL_law cL_law 9 (some .boolean) 8 600000 7302249 lP k n 327 [none, some (.ref 0), some (.ref 25), some (.ref 26), some (.ref 27), some (.int nn), o6, o7, o8] [] σ := by
  have h' := h
  obtain ⟨hI, hwf, hC, h28, e25, ds, e26, hD⟩ := h
  obtain ⟨⟨d1, d2, d3, d4, d5⟩, d6, d7⟩ := hD
  obtain ⟨fs, e0⟩ := hI.e0
  have h10 := hwf.ten
  have h4 := hwf.four
  have hln := hwf.len hC
  refine h_aload eL_law_327 rfl ?_
  refine h_push eL_law_328 ?_
  refine h_ialdN eL_law_329 e26 (by omega) (by omega) ?_
  rw [d2]
  refine h_istore (by decide) eL_law_330 rfl ?_
  refine h_aload eL_law_332 rfl ?_
  refine h_push eL_law_333 ?_
  refine h_ialdN eL_law_335 e26 (by omega) (by omega) ?_
  rw [d4]
  refine h_istore (by decide) eL_law_336 rfl ?_
  refine h_aload eL_law_338 rfl ?_
  refine h_aload eL_law_339 rfl ?_
  refine h_aload eL_law_340 rfl ?_
  refine h_push eL_law_341 ?_
  refine h_push eL_law_343 ?_
  refine h_callS eL_law_344 kL_94 (l_trials h' (m := 40) (sd := 0) (by omega) (by omega) (by omega)) (by rfl) (by rfl) (by exact Nat.le_of_ble_eq_true rfl) (by exact Nat.le_of_ble_eq_true rfl) (by exact Nat.le_of_ble_eq_true rfl) (by omega) (by omega) (fun v σ' hp hln_ => ?_)
  obtain ⟨rfl, h2⟩ := hp
  refine h_if_eqN eL_law_347 (by omega) (fun c347 => by exfalso; omega) (fun c347 => ?_)
  refine h_aload eL_law_350 rfl ?_
  refine h_aload eL_law_351 rfl ?_
  refine h_aload eL_law_352 rfl ?_
  refine h_push eL_law_353 ?_
  refine h_ldc eL_law_354 lL_93 ?_
  rw [show (2147483647 : Int32) = nI 2147483647 from rfl]
  refine h_callS eL_law_356 kL_94 (l_trials h2 (m := 1) (sd := 2147483647) (by omega) (by omega) (by omega)) (by rfl) (by rfl) (by exact Nat.le_of_ble_eq_true rfl) (by exact Nat.le_of_ble_eq_true rfl) (by exact Nat.le_of_ble_eq_true rfl) (by omega) (by omega) (fun v σ' hp hln_ => ?_)
  obtain ⟨rfl, h3⟩ := hp
  refine h_if_eqN eL_law_359 (by omega) (fun c359 => by exfalso; omega) (fun c359 => ?_)
  obtain ⟨hI, hwf, hC, h28, -⟩ := h3
  exact law_362 hz hI hwf hC h28 hmen (by omega) (by omega)
set_option maxRecDepth 20000 in
theorem law_256 {zb zN : Nat} {zx : Nat → Int32} (hz : zN ≤ 260) {t : St} {σ : aH} {k n : Nat} {nn : Int32} {o8 : Option Value} (h : LI t σ) (hk : k ≤ 900) (hn : n ≤ 4900) {i : Nat} (hi : i < (mnO (crO t)).length) (ih : ∀ o7, GL zb zN zx yL_law cL_law 9 (some .boolean) 8 600000 7302249 lP k n 244 [none, some (.ref 0), some (.ref 25), some (.ref 26), some (.ref 27), some (.int nn), some (.int (nI (i + 1))), o7, o8] [] σ) : ∀ d j, j + d = 5 → GL zb zN zx yL_law cL_law 9 (some .boolean) 8 600000 7302249 lP k n 256 [none, some (.ref 0), some (.ref 25), some (.ref 26), some (.ref 27), some (.int nn), some (.int (nI (i))), some (.int (nI (j))), o8] [] σ := by
  obtain ⟨hI, hwf, hC, h28, e25, ds, e26, hD⟩ := h
  obtain ⟨⟨d1, d2, d3, d4, d5⟩, d6, d7⟩ := hD
  obtain ⟨fs, e0⟩ := hI.e0
  have h10 := hwf.ten
  have h4 := hwf.four
  have hln := hwf.len hC
  obtain ⟨f1, f2, f3⟩ := d5 i hi
  have m1 := (hwf.mn i).1
  intro d
  induction d with
  | zero =>
    intro j hj
    obtain rfl : j = 5 := by omega
    refine h_iload eL_law_256 rfl ?_
    refine h_push eL_law_258 ?_
    refine h_icmp_geN eL_law_259 (by omega) (by omega) (fun c259 => ?_) (fun c259 => by exfalso; omega)
    refine h_iincN (by decide) eL_law_321 rfl rfl ?_
    refine h_goto eL_law_324 ?_
    exact ih _
  | succ d ih2 =>
    intro j hj
    have ih3 := ih2 (j + 1) (by omega)
    refine h_iload eL_law_256 rfl ?_
    refine h_push eL_law_258 ?_
    refine h_icmp_geN eL_law_259 (by omega) (by omega) (fun c259 => by exfalso; omega) (fun c259 => ?_)
    refine h_aload eL_law_262 rfl ?_
    refine h_iload eL_law_263 rfl ?_
    refine h_iload eL_law_265 rfl ?_
    refine h_callVp (r := (RX11, TX11, 10)) eL_law_267 kL_98 e0 (by rfl) (x_as hI hwf (x := nI i) (y := nI j)) (by rfl) (by rfl) (by exact Nat.le_of_ble_eq_true rfl) (by exact Nat.le_of_ble_eq_true rfl) (by exact Nat.le_of_ble_eq_true rfl) (by omega) (by omega) ?_
    refine h_iload eL_law_270 rfl ?_
    refine h_if_eqN eL_law_272 (by omega) (fun c272 => ?_) (fun c272 => ?_)
    · refine h_iload eL_law_304 rfl ?_
      refine h_goto eL_law_306 ?_
      refine h_icmp_eq eL_law_310 (fun c310 => ?_) (fun c310 => absurd (by first | exact oAs_yes h4 hi (by omega) (by omega) | exact oAs_no h4 hi (by omega) (by omega) (by omega) (by omega)) c310)
      refine h_iincN (by decide) eL_law_315 rfl rfl ?_
      refine h_goto eL_law_318 ?_
      exact ih3
    · refine h_iload eL_law_275 rfl ?_
      refine h_aload eL_law_277 rfl ?_
      refine h_push eL_law_278 ?_
      refine h_iload eL_law_280 rfl ?_
      refine h_iaddN eL_law_282 ?_
      refine h_ialdN eL_law_283 e26 (by omega) (by omega) ?_
      rw [f1]
      refine h_icmp_eqN eL_law_284 (by omega) (by omega) (fun c284 => ?_) (fun c284 => ?_)
      · refine h_iload eL_law_304 rfl ?_
        refine h_goto eL_law_306 ?_
        refine h_icmp_eq eL_law_310 (fun c310 => ?_) (fun c310 => absurd (by first | exact oAs_yes h4 hi (by omega) (by omega) | exact oAs_no h4 hi (by omega) (by omega) (by omega) (by omega)) c310)
        refine h_iincN (by decide) eL_law_315 rfl rfl ?_
        refine h_goto eL_law_318 ?_
        exact ih3
      · refine h_iload eL_law_287 rfl ?_
        refine h_push eL_law_289 ?_
        refine h_icmp_neN eL_law_290 (by omega) (by omega) (fun c290 => ?_) (fun c290 => ?_)
        · refine h_push eL_law_309 ?_
          refine h_icmp_eq eL_law_310 (fun c310 => ?_) (fun c310 => absurd (by first | exact oAs_yes h4 hi (by omega) (by omega) | exact oAs_no h4 hi (by omega) (by omega) (by omega) (by omega)) c310)
          refine h_iincN (by decide) eL_law_315 rfl rfl ?_
          refine h_goto eL_law_318 ?_
          exact ih3
        · refine h_aload eL_law_293 rfl ?_
          refine h_push eL_law_294 ?_
          refine h_iload eL_law_296 rfl ?_
          refine h_iaddN eL_law_298 ?_
          refine h_ialdN eL_law_299 e26 (by omega) (by omega) ?_
          rw [f1]
          refine h_push eL_law_300 ?_
          refine h_icmp_neN eL_law_301 (by omega) (by omega) (fun c301 => ?_) (fun c301 => ?_)
          · refine h_push eL_law_309 ?_
            refine h_icmp_eq eL_law_310 (fun c310 => ?_) (fun c310 => absurd (by first | exact oAs_yes h4 hi (by omega) (by omega) | exact oAs_no h4 hi (by omega) (by omega) (by omega) (by omega)) c310)
            refine h_iincN (by decide) eL_law_315 rfl rfl ?_
            refine h_goto eL_law_318 ?_
            exact ih3
          · refine h_iload eL_law_304 rfl ?_
            refine h_goto eL_law_306 ?_
            refine h_icmp_eq eL_law_310 (fun c310 => ?_) (fun c310 => absurd (by first | exact oAs_yes h4 hi (by omega) (by omega) | exact oAs_no h4 hi (by omega) (by omega) (by omega) (by omega)) c310)
            refine h_iincN (by decide) eL_law_315 rfl rfl ?_
            refine h_goto eL_law_318 ?_
            exact ih3
set_option maxRecDepth 20000 in
theorem law_244 {zb zN : Nat} {zx : Nat → Int32} (hz : zN ≤ 260) {t : St} {σ : aH} {k n : Nat} {nn : Int32} {o8 : Option Value} (h : LI t σ) (hmen : 0 < (mnO (crO t)).length) (hk : k ≤ 900) (hn : n ≤ 4900) : ∀ d i, i + d = (mnO (crO t)).length → ∀ o7, GL zb zN zx yL_law cL_law 9 (some .boolean) 8 600000 7302249 lP k n 244 [none, some (.ref 0), some (.ref 25), some (.ref 26), some (.ref 27), some (.int nn), some (.int (nI (i))), o7, o8] [] σ := by
  have h' := h
  obtain ⟨hI, hwf, hC, h28, e25, ds, e26, hD⟩ := h
  obtain ⟨⟨d1, d2, d3, d4, d5⟩, d6, d7⟩ := hD
  obtain ⟨fs, e0⟩ := hI.e0
  have h10 := hwf.ten
  have h4 := hwf.four
  have hln := hwf.len hC
  intro d
  induction d with
  | zero =>
    intro i hi o7
    obtain rfl : i = (mnO (crO t)).length := by omega
    refine h_iload eL_law_244 rfl ?_
    refine h_aload eL_law_246 rfl ?_
    refine h_push eL_law_247 ?_
    refine h_ialdN eL_law_249 e26 (by omega) (by omega) ?_
    rw [d4]
    refine h_icmp_geN eL_law_250 (by omega) (by omega) (fun c250 => ?_) (fun c250 => by exfalso; omega)
    exact law_327 hz h' hmen hk hn
  | succ d ih =>
    intro i hi o7
    refine h_iload eL_law_244 rfl ?_
    refine h_aload eL_law_246 rfl ?_
    refine h_push eL_law_247 ?_
    refine h_ialdN eL_law_249 e26 (by omega) (by omega) ?_
    rw [d4]
    refine h_icmp_geN eL_law_250 (by omega) (by omega) (fun c250 => by exfalso; omega) (fun c250 => ?_)
    refine h_push eL_law_253 ?_
    refine h_istore (by decide) eL_law_254 rfl ?_
    exact law_256 hz h' hk hn (by omega) (ih (i + 1) (by omega)) 5 0 rfl
set_option maxRecDepth 20000 in
theorem law_224 {zb zN : Nat} {zx : Nat → Int32} {nn : Int32} {i : Nat} {t : St} {σ : aH} {k n k0 n0 : Nat} (hk0 : k ≤ k0 + 1) (hn0 : n ≤ n0 + 26) (hk : k0 ≤ 800) (hn : n0 ≤ 4800) (h : LI t σ) (hmen : 0 < (mnO (crO t)).length) (ih : ∀ t2 σ2 k2 n2, LI t2 σ2 → 0 < (mnO (crO t2)).length → k2 ≤ k0 + 1 → n2 ≤ n0 + 26 → ∀ o7 o8, GL zb zN zx yL_law cL_law 9 (some .boolean) 8 600000 7302249 lP k2 n2 140 [none, some (.ref 0), some (.ref 25), some (.ref 26), some (.ref 27), some (.int nn), some (.int (nI (i + 1))), o7, o8] [] σ2) {o7 o8 : Option Value} : GL zb zN zx yL_law cL_law 9 (some .boolean) 8 600000 7302249 lP k n 224 [none, some (.ref 0), some (.ref 25), some (.ref 26), some (.ref 27), some (.int nn), some (.int (nI (i))), o7, o8] [] σ := by
  refine h_aload eL_law_224 rfl ?_
  refine h_aload eL_law_225 rfl ?_
  refine h_aload eL_law_226 rfl ?_
  refine h_callSp eL_law_227 kL_86 (l_stands h) (by rfl) (by rfl) (by exact Nat.le_of_ble_eq_true rfl) (by exact Nat.le_of_ble_eq_true rfl) (by exact Nat.le_of_ble_eq_true rfl) (by omega) (by omega) ?_
  refine h_if_neN eL_law_230 (by omega) (fun c230 => ?_) (fun c230 => by exfalso; omega)
  refine h_iincN (by decide) eL_law_235 rfl rfl ?_
  refine h_goto eL_law_238 ?_
  exact ih t σ _ _ h hmen (by omega) (by omega) _ _
set_option maxRecDepth 20000 in
theorem law_147 {zb zN : Nat} {zx : Nat → Int32} (hz : zN ≤ 260) {nn : Int32} {i : Nat} (hi : i < 28) {t : St} {σ : aH} {k n : Nat} (hk : k ≤ 800) (hn : n ≤ 4800) (h : LI t σ) (hmen : 0 < (mnO (crO t)).length) (ih : ∀ t2 σ2 k2 n2, LI t2 σ2 → 0 < (mnO (crO t2)).length → k2 ≤ k + 1 → n2 ≤ n + 26 → ∀ o7 o8, GL zb zN zx yL_law cL_law 9 (some .boolean) 8 600000 7302249 lP k2 n2 140 [none, some (.ref 0), some (.ref 25), some (.ref 26), some (.ref 27), some (.int nn), some (.int (nI (i + 1))), o7, o8] [] σ2) {o7 o8 : Option Value} : GL zb zN zx yL_law cL_law 9 (some .boolean) 8 600000 7302249 lP k n 147 [none, some (.ref 0), some (.ref 25), some (.ref 26), some (.ref 27), some (.int nn), some (.int (nI (i))), o7, o8] [] σ := by
  refine h_z0 eL_law_147 ?_
  refine z_push eL_law_148 ?_
  refine z_iload eL_law_149 rfl ?_
  refine z_iadd eL_law_151 ?_
  refine z_call eL_law_152 kL_8 (l_cell (k := 5 + i) hz (by omega)) (by rfl) (by rfl) (by exact Nat.le_of_ble_eq_true rfl) (by exact Nat.le_of_ble_eq_true rfl) (by exact Nat.le_of_ble_eq_true rfl) (by omega) (by omega) (fun v σ' hp hln_ => ?_)
  obtain ⟨⟨x, rfl⟩, rfl⟩ := hp
  refine h_istore (by decide) eL_law_155 rfl ?_
  refine h_iload eL_law_157 rfl ?_
  refine h_push eL_law_159 ?_
  refine h_callSp eL_law_161 kL_14 (l_at (x := x) (n := 8) (by decide) (by decide)) (by rfl) (by rfl) (by exact Nat.le_of_ble_eq_true rfl) (by exact Nat.le_of_ble_eq_true rfl) (by exact Nat.le_of_ble_eq_true rfl) (by omega) (by omega) ?_
  have hso := atN_lt (x) (n := 8) (by decide)
  generalize atN (x) 8 = so at hso ⊢
  refine h_istore (by decide) eL_law_164 rfl ?_
  refine h_iload eL_law_166 rfl ?_
  refine h_push eL_law_168 ?_
  refine h_icmp_geN eL_law_170 (by omega) (by omega) (fun c170 => ?_) (fun c170 => ?_)
  · refine h_aload eL_law_188 rfl ?_
    refine h_aload eL_law_189 rfl ?_
    refine h_aload eL_law_190 rfl ?_
    refine h_push eL_law_191 ?_
    refine h_iload eL_law_192 rfl ?_
    refine h_push eL_law_194 ?_
    refine h_ishr eL_law_195 ?_
    refine h_push eL_law_196 ?_
    refine h_callSp eL_law_198 kL_14 (l_at (x := (x >>> (nI 3 &&& 31))) (n := 40) (by decide) (by decide)) (by rfl) (by rfl) (by exact Nat.le_of_ble_eq_true rfl) (by exact Nat.le_of_ble_eq_true rfl) (by exact Nat.le_of_ble_eq_true rfl) (by omega) (by omega) ?_
    have hm := atN_lt ((x >>> (nI 3 &&& 31))) (n := 40) (by decide)
    generalize atN ((x >>> (nI 3 &&& 31))) 40 = m at hm ⊢
    refine h_iaddN eL_law_201 ?_
    refine h_z0 eL_law_202 ?_
    refine z_push eL_law_203 ?_
    refine z_iload eL_law_205 rfl ?_
    refine z_push eL_law_207 ?_
    refine z_irem eL_law_208 (by omega) (by decide) (by decide) ?_
    refine z_iadd eL_law_209 ?_
    refine z_call eL_law_210 kL_8 (l_cell (k := 33 + i % 4) hz (by omega)) (by rfl) (by rfl) (by exact Nat.le_of_ble_eq_true rfl) (by exact Nat.le_of_ble_eq_true rfl) (by exact Nat.le_of_ble_eq_true rfl) (by omega) (by omega) (fun v σ' hp hln_ => ?_)
    obtain ⟨⟨y, rfl⟩, rfl⟩ := hp
    refine h_ldc eL_law_213 lL_93 ?_
    rw [show (2147483647 : Int32) = nI 2147483647 from rfl]
    refine h_iand eL_law_215 ?_
    obtain ⟨sd, hsd, esd⟩ := and_max y
    rw [esd]
    refine h_callS eL_law_216 kL_94 (l_trials h (m := 1 + m) (sd := sd) (by omega) (by omega) (by omega)) (by rfl) (by rfl) (by exact Nat.le_of_ble_eq_true rfl) (by exact Nat.le_of_ble_eq_true rfl) (by exact Nat.le_of_ble_eq_true rfl) (by omega) (by omega) (fun v σ' hp hln_ => ?_)
    obtain ⟨rfl, h2⟩ := hp
    refine h_if_neN eL_law_219 (by omega) (fun c219 => ?_) (fun c219 => by exfalso; omega)
    first
      | exact law_224 (by omega) (by omega) hk hn h' hmen' ih
      | exact law_224 (by omega) (by omega) hk hn h2 hmen ih
  · refine h_aload eL_law_173 rfl ?_
    refine h_aload eL_law_174 rfl ?_
    refine h_iload eL_law_175 rfl ?_
    refine h_push eL_law_177 ?_
    refine h_ishr eL_law_178 ?_
    refine h_callS eL_law_179 kL_90 (l_does h hmen (x := (x >>> (nI 3 &&& 31)))) (by rfl) (by rfl) (by exact Nat.le_of_ble_eq_true rfl) (by exact Nat.le_of_ble_eq_true rfl) (by exact Nat.le_of_ble_eq_true rfl) (by omega) (by omega) (fun v σ' hp hln_ => ?_)
    obtain ⟨rfl, t', h', hmen'⟩ := hp
    refine h_if_neN eL_law_182 (by omega) (fun c182 => ?_) (fun c182 => by exfalso; omega)
    first
      | exact law_224 (by omega) (by omega) hk hn h' hmen' ih
      | exact law_224 (by omega) (by omega) hk hn h2 hmen ih
set_option maxRecDepth 20000 in
theorem law_140 {zb zN : Nat} {zx : Nat → Int32} (hz : zN ≤ 260) {nn : Int32} : ∀ d i t σ k n, i + d = 28 → LI t σ → 0 < (mnO (crO t)).length → k ≤ 60 + i → n ≤ 300 + 26 * i → ∀ o7 o8, GL zb zN zx yL_law cL_law 9 (some .boolean) 8 600000 7302249 lP k n 140 [none, some (.ref 0), some (.ref 25), some (.ref 26), some (.ref 27), some (.int nn), some (.int (nI (i))), o7, o8] [] σ := by
  intro d
  induction d with
  | zero =>
    intro i t σ k n hi h hmen hk hn o7 o8
    obtain rfl : i = 28 := by omega
    refine h_iload eL_law_140 rfl ?_
    refine h_push eL_law_142 ?_
    refine h_icmp_geN eL_law_144 (by omega) (by omega) (fun c144 => ?_) (fun c144 => by exfalso; omega)
    refine h_push eL_law_241 ?_
    refine h_istore (by decide) eL_law_242 rfl ?_
    exact law_244 hz h hmen (by omega) (by omega) _ 0 (Nat.zero_add _) _
  | succ d ih =>
    intro i t σ k n hi h hmen hk hn o7 o8
    refine h_iload eL_law_140 rfl ?_
    refine h_push eL_law_142 ?_
    refine h_icmp_geN eL_law_144 (by omega) (by omega) (fun c144 => by exfalso; omega) (fun c144 => ?_)
    exact law_147 hz (by omega) (by omega) (by omega) h hmen (fun t2 σ2 k2 n2 a1 a2 a3 a4 o7 o8 => ih (i + 1) t2 σ2 k2 n2 (by omega) a1 a2 (by omega) (by omega) o7 o8)
set_option maxRecDepth 20000 in
theorem law_78 {zb zN : Nat} {zx : Nat → Int32} (hz : zN ≤ 260) {nn : Int32} : ∀ d i t σ k n, i + d = 3 → LI t σ → (0 < i → 0 < (mnO (crO t)).length) → k ≤ 40 + i → n ≤ 280 + i → ∀ o7 o8, GL zb zN zx yL_law cL_law 9 (some .boolean) 8 600000 7302249 lP k n 78 [none, some (.ref 0), some (.ref 25), some (.ref 26), some (.ref 27), some (.int nn), some (.int (nI (i))), o7, o8] [] σ := by
  intro d
  induction d with
  | zero =>
    intro i t σ k n hi h hmen hk hn o7 o8
    obtain rfl : i = 3 := by omega
    refine h_iload eL_law_78 rfl ?_
    refine h_push eL_law_80 ?_
    refine h_icmp_geN eL_law_81 (by omega) (by omega) (fun c81 => ?_) (fun c81 => by exfalso; omega)
    refine h_push eL_law_137 ?_
    refine h_istore (by decide) eL_law_138 rfl ?_
    exact law_140 hz 28 0 t σ _ _ rfl h (hmen (by decide)) (by omega) (by omega) _ _
  | succ d ih =>
    intro i t σ k n hi h hmen hk hn o7 o8
    refine h_iload eL_law_78 rfl ?_
    refine h_push eL_law_80 ?_
    refine h_icmp_geN eL_law_81 (by omega) (by omega) (fun c81 => by exfalso; omega) (fun c81 => ?_)
    refine h_aload eL_law_84 rfl ?_
    refine h_aload eL_law_85 rfl ?_
    refine h_z0 eL_law_86 ?_
    refine z_push eL_law_87 ?_
    refine z_call eL_law_88 kL_8 (l_cell (k := 3) hz (by omega)) (by rfl) (by rfl) (by exact Nat.le_of_ble_eq_true rfl) (by exact Nat.le_of_ble_eq_true rfl) (by exact Nat.le_of_ble_eq_true rfl) (by omega) (by omega) (fun v σ' hp hln_ => ?_)
    obtain ⟨⟨y1, rfl⟩, rfl⟩ := hp
    refine h_push eL_law_91 ?_
    refine h_iload eL_law_92 rfl ?_
    refine h_imulN eL_law_94 ?_
    refine h_ishr eL_law_95 ?_
    refine h_push eL_law_96 ?_
    refine h_callSp eL_law_97 kL_14 (l_at (x := (y1 >>> (nI (3 * i) &&& 31))) (n := 5) (by decide) (by decide)) (by rfl) (by rfl) (by exact Nat.le_of_ble_eq_true rfl) (by exact Nat.le_of_ble_eq_true rfl) (by exact Nat.le_of_ble_eq_true rfl) (by omega) (by omega) ?_
    have hkd := atN_lt ((y1 >>> (nI (3 * i) &&& 31))) (n := 5) (by decide)
    generalize atN ((y1 >>> (nI (3 * i) &&& 31))) 5 = kd at hkd ⊢
    refine h_z0 eL_law_100 ?_
    refine z_push eL_law_101 ?_
    refine z_call eL_law_102 kL_8 (l_cell (k := 4) hz (by omega)) (by rfl) (by rfl) (by exact Nat.le_of_ble_eq_true rfl) (by exact Nat.le_of_ble_eq_true rfl) (by exact Nat.le_of_ble_eq_true rfl) (by omega) (by omega) (fun v σ' hp hln_ => ?_)
    obtain ⟨⟨y2, rfl⟩, rfl⟩ := hp
    refine h_push eL_law_105 ?_
    refine h_iload eL_law_106 rfl ?_
    refine h_imulN eL_law_108 ?_
    refine h_ishr eL_law_109 ?_
    refine h_push eL_law_110 ?_
    refine h_callSp eL_law_111 kL_14 (l_at (x := (y2 >>> (nI (3 * i) &&& 31))) (n := 5) (by decide) (by decide)) (by rfl) (by rfl) (by exact Nat.le_of_ble_eq_true rfl) (by exact Nat.le_of_ble_eq_true rfl) (by exact Nat.le_of_ble_eq_true rfl) (by omega) (by omega) ?_
    have hdd := atN_lt ((y2 >>> (nI (3 * i) &&& 31))) (n := 5) (by decide)
    generalize atN ((y2 >>> (nI (3 * i) &&& 31))) 5 = dd at hdd ⊢
    refine h_callS eL_law_114 kL_60 (l_come h hkd hdd) (by rfl) (by rfl) (by exact Nat.le_of_ble_eq_true rfl) (by exact Nat.le_of_ble_eq_true rfl) (by exact Nat.le_of_ble_eq_true rfl) (by omega) (by omega) (fun v σ' hp hln_ => ?_)
    obtain ⟨rfl, t', h', hmen'⟩ := hp
    refine h_if_eqN eL_law_117 (by omega) (fun c117 => by exfalso; omega) (fun c117 => ?_)
    refine h_aload eL_law_120 rfl ?_
    refine h_aload eL_law_121 rfl ?_
    refine h_aload eL_law_122 rfl ?_
    refine h_callSp eL_law_123 kL_86 (l_stands h') (by rfl) (by rfl) (by exact Nat.le_of_ble_eq_true rfl) (by exact Nat.le_of_ble_eq_true rfl) (by exact Nat.le_of_ble_eq_true rfl) (by omega) (by omega) ?_
    refine h_if_neN eL_law_126 (by omega) (fun c126 => ?_) (fun c126 => by exfalso; omega)
    refine h_iincN (by decide) eL_law_131 rfl rfl ?_
    refine h_goto eL_law_134 ?_
    exact ih (i + 1) t' _ _ _ (by omega) h' (fun _ => hmen') (by omega) (by omega) _ _
set_option maxRecDepth 20000 in
theorem law_0 {zb zN : Nat} {zx : Nat → Int32} (hz : zN ≤ 260) : GL zb zN zx yL_law cL_law 9 (some .boolean) 8 600000 7302249 lP 0 0 0 [none, none, none, none, none, none, none, none, none] [] ([] : aH) := by
  refine h_new (ci := 11) (r := (RX11, TX11, 10)) (fs := [.null, .null, .null, .null, .null, .null, .null, .int 0, .int 0, .int 0]) (ty := tyX11) eL_law_0 rfl uX11 tyX11_ok lL_23 nX11 iX11 (fun j hj => match j, hj with | 0, _ => rfl | 1, _ => rfl | 2, _ => rfl | 3, _ => rfl | 4, _ => rfl | 5, _ => rfl | 6, _ => rfl | 7, _ => rfl | 8, _ => rfl | 9, _ => rfl | n + 10, h => absurd (show n + 10 < 10 from h) (by omega)) (okV_all rfl) (by exact Nat.le_of_ble_eq_true rfl) (by exact Nat.le_of_ble_eq_true rfl) ?_
  show GL zb zN zx yL_law cL_law 9 (some .boolean) 8 600000 7302249 lP 1 10 3 [none, none, none, none, none, none, none, none, none] [.ref 0] hp_0
  refine h_dup eL_law_3 rfl ?_
  refine h_init eL_law_4 kL_70 c_init_X11_0 (by rfl) (by rfl) (by exact Nat.le_of_ble_eq_true rfl) (by exact Nat.le_of_ble_eq_true rfl) (by exact Nat.le_of_ble_eq_true rfl) (by exact Nat.le_of_ble_eq_true rfl) (by exact Nat.le_of_ble_eq_true rfl) (fun v σ' hp hln_ => ?_)
  obtain ⟨rfl, rfl⟩ := hp
  refine h_astore (by decide) eL_law_7 rfl ?_
  refine h_push (v := nI 5) eL_law_8 ?_
  refine h_newa (N := 5) eL_law_9 rfl (by exact Nat.le_of_ble_eq_true rfl) (by exact Nat.le_of_ble_eq_true rfl) (by exact Nat.le_of_ble_eq_true rfl) ?_
  show GL zb zN zx yL_law cL_law 9 (some .boolean) 8 600000 7302249 lP 26 167 11 [none, some (.ref 0), none, none, none, none, none, none, none] [.ref 25] (hp_48 ++ [(.inl (List.replicate 5 0) : aT)])
  refine h_astore (by decide) eL_law_11 rfl ?_
  refine h_push (v := nI 26) eL_law_12 ?_
  refine h_newa (N := 26) eL_law_14 rfl (by exact Nat.le_of_ble_eq_true rfl) (by exact Nat.le_of_ble_eq_true rfl) (by exact Nat.le_of_ble_eq_true rfl) ?_
  show GL zb zN zx yL_law cL_law 9 (some .boolean) 8 600000 7302249 lP 27 193 16 [none, some (.ref 0), some (.ref 25), none, none, none, none, none, none] [.ref 26] ((hp_48 ++ [(.inl (List.replicate 5 0) : aT)]) ++ [(.inl (List.replicate 26 0) : aT)])
  refine h_astore (by decide) eL_law_16 rfl ?_
  refine h_push (v := nI 28) eL_law_17 ?_
  refine h_newa (N := 28) eL_law_19 rfl (by exact Nat.le_of_ble_eq_true rfl) (by exact Nat.le_of_ble_eq_true rfl) (by exact Nat.le_of_ble_eq_true rfl) ?_
  show GL zb zN zx yL_law cL_law 9 (some .boolean) 8 600000 7302249 lP 28 221 21 [none, some (.ref 0), some (.ref 25), some (.ref 26), none, none, none, none, none] [.ref 27] (((hp_48 ++ [(.inl (List.replicate 5 0) : aT)]) ++ [(.inl (List.replicate 26 0) : aT)]) ++ [(.inl (List.replicate 28 0) : aT)])
  have hI : IX t0 (((hp_48 ++ [(.inl (List.replicate 5 0) : aT)]) ++ [(.inl (List.replicate 26 0) : aT)]) ++ [(.inl (List.replicate 28 0) : aT)]) := IX_25.pu.pu.pu
  have e25 : (((hp_48 ++ [(.inl (List.replicate 5 0) : aT)]) ++ [(.inl (List.replicate 26 0) : aT)]) ++ [(.inl (List.replicate 28 0) : aT)])[25]? = some (aA (List.replicate 5 0)) := repA rfl
  have e26 : (((hp_48 ++ [(.inl (List.replicate 5 0) : aT)]) ++ [(.inl (List.replicate 26 0) : aT)]) ++ [(.inl (List.replicate 28 0) : aT)])[26]? = some (aA (List.replicate 26 0)) := repA rfl
  have e27 : (((hp_48 ++ [(.inl (List.replicate 5 0) : aT)]) ++ [(.inl (List.replicate 26 0) : aT)]) ++ [(.inl (List.replicate 28 0) : aT)])[27]? = some (aA (List.replicate 28 0)) := repA rfl
  have hlen : (((hp_48 ++ [(.inl (List.replicate 5 0) : aT)]) ++ [(.inl (List.replicate 26 0) : aT)]) ++ [(.inl (List.replicate 28 0) : aT)]).length = 28 := rfl
  generalize (((hp_48 ++ [(.inl (List.replicate 5 0) : aT)]) ++ [(.inl (List.replicate 26 0) : aT)]) ++ [(.inl (List.replicate 28 0) : aT)]) = τ at *
  refine h_astore (by decide) eL_law_21 rfl ?_
  refine h_z0 eL_law_23 ?_
  refine z_push eL_law_24 ?_
  refine z_aload eL_law_25 rfl ?_
  refine z_aload eL_law_26 rfl ?_
  refine z_aload eL_law_27 rfl ?_
  refine z_call eL_law_29 kL_71 (l_courtText hz e25 e26 e27 (by rfl) (by rfl) (by rfl)) (by rfl) (by rfl) (by exact Nat.le_of_ble_eq_true rfl) (by exact Nat.le_of_ble_eq_true rfl) (by exact Nat.le_of_ble_eq_true rfl) (by exact Nat.le_of_ble_eq_true rfl) (by exact Nat.le_of_ble_eq_true rfl) (fun v σ1 hp hln => ?_)
  obtain ⟨bs, ds, ts, n, sh, rfl, hE, e25, e26, e27, hCT⟩ := hp
  have hI1 : IX t0 σ1 := hI.keep (fun j hj => hE.2 j (by simp only [List.mem_cons, List.not_mem_nil, or_false]; omega)) (fun j hj _ => hE.2 j (by simp only [List.mem_cons, List.not_mem_nil, or_false]; omega))
  have hl1 : 28 ≤ σ1.length := by rw [hE.1, hlen]; exact Nat.le_refl _
  obtain ⟨fs, e0⟩ := hI1.e0
  have hn28 : n ≤ 28 := hCT.2.2.1
  have hdl : ds.length = 26 := hCT.2.1
  have hd0 : ds.getD 0 0 = sh.length := hCT.2.2.2.2.2.1
  obtain ⟨l, hT⟩ := hCT.2.2.2.2.1
  refine h_istore (by decide) eL_law_32 rfl ?_
  refine h_aload eL_law_34 rfl ?_
  refine h_aload eL_law_35 rfl ?_
  refine h_iload eL_law_37 rfl ?_
  refine h_callS0 eL_law_39 kL_75 (l_write (tr := t0.2) hI1 WF_0 e27 hT.1 hn28 hT.2.2.2.2) (by rfl) (by rfl) (by exact Nat.le_of_ble_eq_true rfl) (by exact Nat.le_of_ble_eq_true rfl) (by exact Nat.le_of_ble_eq_true rfl) (by omega) (by omega) (fun v39 σ39 hp39 hn39 => ?_)
  obtain ⟨rfl, hI2, hwf2, hF2⟩ := hp39
  obtain ⟨fs2, e02⟩ := hI2.e0
  refine h_if_eqN eL_law_42 (by omega) (fun c42 => by exfalso; omega) (fun c42 => ?_)
  refine h_aload eL_law_45 rfl ?_
  refine h_callV0 (r := (RX11, TX11, 10)) eL_law_46 kL_79 e02 (by rfl) (x_fault hI2 hwf2) (by rfl) (by rfl) (by exact Nat.le_of_ble_eq_true rfl) (by exact Nat.le_of_ble_eq_true rfl) (by exact Nat.le_of_ble_eq_true rfl) (by omega) (by omega) (fun v46 σ46 hp46 hn46 => ?_)
  rw [oFault_eq hCT] at hp46
  obtain ⟨rfl, hI3, hF3⟩ := hp46
  obtain ⟨fs3, e03⟩ := hI3.e0
  refine h_iload eL_law_49 rfl ?_
  refine h_icmp_ne eL_law_51 (fun c51 => absurd rfl c51) (fun c51 => ?_)
  refine h_aload eL_law_54 rfl ?_
  refine h_callV0 (r := (RX11, TX11, 10)) eL_law_55 kL_83 e03 (by rfl) (x_court hI3 hwf2) (by rfl) (by rfl) (by exact Nat.le_of_ble_eq_true rfl) (by exact Nat.le_of_ble_eq_true rfl) (by exact Nat.le_of_ble_eq_true rfl) (by omega) (by omega) (fun v55 σ55 hp55 hn55 => ?_)
  rw [oCourt_eq hCT] at hp55
  obtain ⟨rfl, hI4, hF4⟩ := hp55
  have hF := (hF2.tr hF3).tr hF4
  have hLI := LI_court hCT hwf2 hI4 hF hl1 e25 e26
  refine h_aload eL_law_58 rfl ?_
  refine h_push eL_law_59 ?_
  refine h_ialdN eL_law_60 (hF.at (by decide) e26) (by omega) (by omega) ?_
  rw [hd0]
  refine h_icmp_ne eL_law_61 (fun c61 => absurd rfl c61) (fun c61 => ?_)
  refine h_aload eL_law_64 rfl ?_
  refine h_aload eL_law_65 rfl ?_
  refine h_aload eL_law_66 rfl ?_
  refine h_callSp eL_law_67 kL_86 (l_stands hLI) (by rfl) (by rfl) (by exact Nat.le_of_ble_eq_true rfl) (by exact Nat.le_of_ble_eq_true rfl) (by exact Nat.le_of_ble_eq_true rfl) (by omega) (by omega) ?_
  refine h_if_neN eL_law_70 (by omega) (fun c70 => ?_) (fun c70 => by exfalso; omega)
  refine h_push eL_law_75 ?_
  refine h_istore (by decide) eL_law_76 rfl ?_
  exact law_78 hz 3 0 _ _ _ _ rfl hLI (fun h => absurd h (Nat.lt_irrefl 0)) (by omega) (by omega) _ _
