/-! the law's own acts: come, does -/
theorem getD_setI {l : List Nat} {i c : Nat} (hi : i < l.length) (k : Nat) : (l.set i c).getD k 0 = if k = i then c else l.getD k 0 := by
  rw [getD_set]
  by_cases h : k = i
  · rw [if_pos h, if_pos ⟨h.symm, hi⟩]
  · rw [if_neg h, if_neg (fun z => h z.1.symm)]
theorem LI.mk {t t' : St} {τ σ' : aH} {ds' : List Nat} (hI' : IX t' σ') (hF : FrX τ σ') (hW : WF t') (hC : 0 < ctO t') (hn : nrO t' = nrO t) (h28 : 28 ≤ τ.length) (e25 : τ[25]? = some (aA (nrO t))) (e26 : τ[26]? = some (aA ds')) (hD : DX t' ds') : LI t' σ' :=
  ⟨hI', hW, hC, Nat.le_trans h28 hF.1, by rw [hn]; exact hF.at (by decide) e25, ds', hF.at (by decide) e26, hD⟩
theorem DX_come {t : St} {ds : List Nat} (hD : DX t ds) (h10 : (shO (crO t)).length ≤ 10) (hm : (mnO (crO t)).length < 4) (kd d : Nat) {ds' : List Nat} (e : ds' = (((ds.set (13 + (mnO (crO t)).length) kd).set (17 + (mnO (crO t)).length) d).set (21 + (mnO (crO t)).length) 0)) : DX (wcr t (shO (crO t), lmO (crO t), mnO (crO t) ++ [(kd, d, 0)], chO (crO t), hdO (crO t))) (ds'.set 12 (ds'.getD 12 0 + 1)) := by
  obtain ⟨⟨d1, d2, d3, d4, d5⟩, d6, d7⟩ := hD
  have l' : ds'.length = 26 := by rw [e]; simp only [List.length_set]; exact d1
  have h' : ∀ j, ds'.getD j 0 = if j = 21 + (mnO (crO t)).length then 0 else if j = 17 + (mnO (crO t)).length then d else if j = 13 + (mnO (crO t)).length then kd else ds.getD j 0 := fun j => by
    rw [e, getD_setI (by simp only [List.length_set]; omega), getD_setI (by simp only [List.length_set]; omega), getD_setI (by omega)]
  have h12 : ds'.getD 12 0 = (mnO (crO t)).length := by
    rw [h']
    repeat' split
    all_goals omega
  have h2 : ∀ j, (ds'.set 12 (ds'.getD 12 0 + 1)).getD j 0 = if j = 12 then (mnO (crO t)).length + 1 else ds'.getD j 0 := fun j => by
    rw [getD_setI (by omega), h12]
  have h3 : ∀ j, j ≠ 12 → (j < 13 ∨ j = 25) → (ds'.set 12 (ds'.getD 12 0 + 1)).getD j 0 = ds.getD j 0 := fun j a b => by
    rw [h2, h']
    repeat' split
    all_goals omega
  have g13 : ∀ i, i ≤ (mnO (crO t)).length → (ds'.set 12 (ds'.getD 12 0 + 1)).getD (13 + i) 0 = if i = (mnO (crO t)).length then kd else ds.getD (13 + i) 0 := fun i hi => by
    rw [h2, h']
    repeat' split
    all_goals omega
  have g17 : ∀ i, i ≤ (mnO (crO t)).length → (ds'.set 12 (ds'.getD 12 0 + 1)).getD (17 + i) 0 = if i = (mnO (crO t)).length then d else ds.getD (17 + i) 0 := fun i hi => by
    rw [h2, h']
    repeat' split
    all_goals omega
  have g21 : ∀ i, i ≤ (mnO (crO t)).length → (ds'.set 12 (ds'.getD 12 0 + 1)).getD (21 + i) 0 = if i = (mnO (crO t)).length then 0 else ds.getD (21 + i) 0 := fun i hi => by
    rw [h2, h']
    repeat' split
    all_goals omega
  refine ⟨⟨by rw [List.length_set]; exact l', (h3 0 (by decide) (by omega)).trans d2, (h3 11 (by decide) (by omega)).trans d3, ?_, fun i hi => ?_⟩, fun k hk => ?_, (h3 25 (by decide) (by omega)).trans d7⟩
  · rw [h2, if_pos rfl]
    show _ = (mnO (crO t) ++ [(kd, d, 0)]).length
    simp
  · have hi2 : i < (mnO (crO t)).length + 1 := by
      have : i < (mnO (crO t) ++ [(kd, d, 0)]).length := hi
      simpa using this
    show _ = ((mnO (crO t) ++ [(kd, d, 0)]).getD i m0).1 ∧ _ = ((mnO (crO t) ++ [(kd, d, 0)]).getD i m0).2.1 ∧ _ = ((mnO (crO t) ++ [(kd, d, 0)]).getD i m0).2.2
    rw [g13 i (by omega), g17 i (by omega), g21 i (by omega)]
    by_cases hl : i < (mnO (crO t)).length
    · obtain ⟨f1, f2, f3⟩ := d5 i hl
      have ne : ¬ i = (mnO (crO t)).length := by omega
      have em : (mnO (crO t) ++ [(kd, d, 0)]).getD i m0 = manO (crO t) i := by rw [getD_app, if_pos hl]
      rw [em, if_neg ne, if_neg ne, if_neg ne]
      exact ⟨f1, f2, f3⟩
    · obtain rfl : i = (mnO (crO t)).length := by omega
      have em : (mnO (crO t) ++ [(kd, d, 0)]).getD (mnO (crO t)).length m0 = (kd, d, 0) := by rw [getD_app, if_neg hl, if_pos rfl]
      rw [em, if_pos rfl, if_pos rfl, if_pos rfl]
      exact ⟨rfl, rfl, rfl⟩
  · have hk : k < (shO (crO t)).length := hk
    exact (h3 (1 + k) (by omega) (by omega)).trans (d6 k hk)
theorem DX_put {t : St} {ds : List Nat} (hD : DX t ds) (h10 : (shO (crO t)).length ≤ 10) (h4 : (mnO (crO t)).length ≤ 4) {k w : Nat} (hk : k < (shO (crO t)).length) {ds' : List Nat} (e : ds' = ds.set (1 + k) w) : DX (wcr t ((shO (crO t)).set k w, lmO (crO t), mnO (crO t), chO (crO t) + 1, hdO (crO t))) (ds'.set 25 (ds'.getD 25 0 + 1)) := by
  obtain ⟨⟨d1, d2, d3, d4, d5⟩, d6, d7⟩ := hD
  have l' : ds'.length = 26 := by rw [e, List.length_set]; exact d1
  have h' : ∀ j, ds'.getD j 0 = if j = 1 + k then w else ds.getD j 0 := fun j => by rw [e, getD_setI (by omega)]
  have h25 : ds'.getD 25 0 = chO (crO t) := by
    rw [h']
    repeat' split
    all_goals omega
  have h2 : ∀ j, (ds'.set 25 (ds'.getD 25 0 + 1)).getD j 0 = if j = 25 then chO (crO t) + 1 else if j = 1 + k then w else ds.getD j 0 := fun j => by
    rw [getD_setI (by omega), h25, h']
  have h3 : ∀ j, j ≠ 25 → j ≠ 1 + k → (ds'.set 25 (ds'.getD 25 0 + 1)).getD j 0 = ds.getD j 0 := fun j a b => by rw [h2, if_neg a, if_neg b]
  refine ⟨⟨by rw [List.length_set]; exact l', ?_, (h3 11 (by decide) (by omega)).trans d3, (h3 12 (by decide) (by omega)).trans d4, fun i hi => ?_⟩, fun j hj => ?_, by rw [h2, if_pos rfl]⟩
  · show _ = ((shO (crO t)).set k w).length
    rw [List.length_set, h3 0 (by decide) (by omega), d2]
  · have hi : i < (mnO (crO t)).length := hi
    obtain ⟨f1, f2, f3⟩ := d5 i hi
    exact ⟨(h3 (13 + i) (by omega) (by omega)).trans f1, (h3 (17 + i) (by omega) (by omega)).trans f2, (h3 (21 + i) (by omega) (by omega)).trans f3⟩
  · have hj : j < ((shO (crO t)).set k w).length := hj
    rw [List.length_set] at hj
    show (ds'.set 25 (ds'.getD 25 0 + 1)).getD (1 + j) 0 = ((shO (crO t)).set k w).getD j 0
    have d6 : ds.getD (1 + j) 0 = (shO (crO t)).getD j 0 := d6 j hj
    rw [h2, getD_setI hk]
    repeat' split
    all_goals omega
theorem DX_limit {t : St} {ds : List Nat} (hD : DX t ds) (h10 : (shO (crO t)).length ≤ 10) (h4 : (mnO (crO t)).length ≤ 4) {w : Nat} {ds' : List Nat} (e : ds' = ds.set 11 w) : DX (wcr t (shO (crO t), w, mnO (crO t), chO (crO t) + 1, hdO (crO t))) (ds'.set 25 (ds'.getD 25 0 + 1)) := by
  obtain ⟨⟨d1, d2, d3, d4, d5⟩, d6, d7⟩ := hD
  have l' : ds'.length = 26 := by rw [e, List.length_set]; exact d1
  have h' : ∀ j, ds'.getD j 0 = if j = 11 then w else ds.getD j 0 := fun j => by rw [e, getD_setI (by omega)]
  have h25 : ds'.getD 25 0 = chO (crO t) := by
    rw [h']
    repeat' split
    all_goals omega
  have h2 : ∀ j, (ds'.set 25 (ds'.getD 25 0 + 1)).getD j 0 = if j = 25 then chO (crO t) + 1 else if j = 11 then w else ds.getD j 0 := fun j => by
    rw [getD_setI (by omega), h25, h']
  have h3 : ∀ j, j ≠ 25 → j ≠ 11 → (ds'.set 25 (ds'.getD 25 0 + 1)).getD j 0 = ds.getD j 0 := fun j a b => by rw [h2, if_neg a, if_neg b]
  refine ⟨⟨by rw [List.length_set]; exact l', (h3 0 (by decide) (by decide)).trans d2, by rw [h2, if_neg (by decide), if_pos rfl], (h3 12 (by decide) (by decide)).trans d4, fun i hi => ?_⟩, fun j hj => ?_, by rw [h2, if_pos rfl]⟩
  · have hi : i < (mnO (crO t)).length := hi
    obtain ⟨f1, f2, f3⟩ := d5 i hi
    exact ⟨(h3 (13 + i) (by omega) (by omega)).trans f1, (h3 (17 + i) (by omega) (by omega)).trans f2, (h3 (21 + i) (by omega) (by omega)).trans f3⟩
  · have hj : j < (shO (crO t)).length := hj
    exact (h3 (1 + j) (by omega) (by omega)).trans (d6 j hj)
theorem DX_hide {t : St} {ds : List Nat} (hD : DX t ds) (h10 : (shO (crO t)).length ≤ 10) (h4 : (mnO (crO t)).length ≤ 4) {a h : Nat} (ha : a < (mnO (crO t)).length) {ds' : List Nat} (e : ds' = ds.set (21 + a) h) : DX (wcr t (setH (crO t) a h)) (ds'.set 25 (ds'.getD 25 0 + 1)) := by
  obtain ⟨⟨d1, d2, d3, d4, d5⟩, d6, d7⟩ := hD
  have l' : ds'.length = 26 := by rw [e, List.length_set]; exact d1
  have h' : ∀ j, ds'.getD j 0 = if j = 21 + a then h else ds.getD j 0 := fun j => by rw [e, getD_setI (by omega)]
  have h25 : ds'.getD 25 0 = chO (crO t) := by
    rw [h']
    repeat' split
    all_goals omega
  have h2 : ∀ j, (ds'.set 25 (ds'.getD 25 0 + 1)).getD j 0 = if j = 25 then chO (crO t) + 1 else if j = 21 + a then h else ds.getD j 0 := fun j => by
    rw [getD_setI (by omega), h25, h']
  have h3 : ∀ j, j ≠ 25 → j ≠ 21 + a → (ds'.set 25 (ds'.getD 25 0 + 1)).getD j 0 = ds.getD j 0 := fun j a b => by rw [h2, if_neg a, if_neg b]
  have hm : ∀ i, manO (setH (crO t) a h) i = if a = i then ((manO (crO t) a).1, (manO (crO t) a).2.1, h) else manO (crO t) i := fun i => by
    show ((mnO (crO t)).set a ((manO (crO t) a).1, (manO (crO t) a).2.1, h)).getD i m0 = _
    rw [getD_set]
    by_cases e : a = i
    · rw [if_pos ⟨e, ha⟩, if_pos e]
    · rw [if_neg (fun z => e z.1), if_neg e]
  have hlen : (mnO (setH (crO t) a h)).length = (mnO (crO t)).length := List.length_set
  refine ⟨⟨by rw [List.length_set]; exact l', (h3 0 (by decide) (by omega)).trans d2, (h3 11 (by decide) (by omega)).trans d3, ?_, fun i hi => ?_⟩, fun j hj => ?_, by rw [h2, if_pos rfl]; rfl⟩
  · show _ = (mnO (setH (crO t) a h)).length
    rw [hlen, h3 12 (by decide) (by omega), d4]
  · have hi : i < (mnO (setH (crO t) a h)).length := hi
    rw [hlen] at hi
    obtain ⟨f1, f2, f3⟩ := d5 i hi
    show _ = (manO (setH (crO t) a h) i).1 ∧ _ = (manO (setH (crO t) a h) i).2.1 ∧ _ = (manO (setH (crO t) a h) i).2.2
    have g21 : (ds'.set 25 (ds'.getD 25 0 + 1)).getD (21 + i) 0 = if a = i then h else ds.getD (21 + i) 0 := by
      rw [h2]
      repeat' split
      all_goals omega
    rw [hm, h3 (13 + i) (by omega) (by omega), h3 (17 + i) (by omega) (by omega), g21]
    by_cases z : a = i
    · subst z
      rw [if_pos rfl, if_pos rfl]
      exact ⟨f1, f2, rfl⟩
    · rw [if_neg z, if_neg z]
      exact ⟨f1, f2, f3⟩
  · have hj : j < (shO (crO t)).length := hj
    exact (h3 (1 + j) (by omega) (by omega)).trans (d6 j hj)
theorem oAccuse_eq {t : St} (hC : 0 < ctO t) {kd d : Nat} (h1 : kd < 5) (h2 : d < 5) (hm : (mnO (crO t)).length < 4) : oAccuse t (nI kd) (nI d) = (nI (mnO (crO t)).length, wcr t (shO (crO t), lmO (crO t), mnO (crO t) ++ [(kd, d, 0)], chO (crO t), hdO (crO t))) := by
  unfold oAccuse
  rw [rg_nI (Nat.zero_le _) h1]
  dsimp only
  rw [rg_nI (Nat.zero_le _) h2]
  dsimp only
  rw [if_pos hC, if_pos hm]
theorem oAccuse_4 {t : St} (hC : 0 < ctO t) {kd d : Nat} (h1 : kd < 5) (h2 : d < 5) (hm : ¬ (mnO (crO t)).length < 4) : oAccuse t (nI kd) (nI d) = (-104, t) := by
  unfold oAccuse
  rw [rg_nI (Nat.zero_le _) h1]
  dsimp only
  rw [rg_nI (Nat.zero_le _) h2]
  dsimp only
  rw [if_pos hC, if_neg hm]
theorem oPut_eq {t : St} (h : (shO (crO t)).length ≤ 10) {k w : Nat} (hk : k < (shO (crO t)).length) (hw : w < 8) : oPut t (nI k) (nI w) = (nI ((shO (crO t)).getD k 0), wcr t ((shO (crO t)).set k w, lmO (crO t), mnO (crO t), chO (crO t) + 1, hdO (crO t))) := by
  unfold oPut
  rw [rg_nI (Nat.zero_le _) hk (by omega)]
  dsimp only
  rw [rg_nI (Nat.zero_le _) hw]
theorem oLimit_eq {t : St} (hC : 0 < ctO t) {w : Nat} (h1 : 1 ≤ w) (h2 : w < 11) : oLimit t (nI w) = (nI (lmO (crO t)), wcr t (shO (crO t), w, mnO (crO t), chO (crO t) + 1, hdO (crO t))) := by
  unfold oLimit
  rw [rg_nI h1 h2]
  dsimp only
  rw [if_pos hC]
theorem oLesson_eq {t : St} (h : (mnO (crO t)).length ≤ 4) {a w : Nat} (ha : a < (mnO (crO t)).length) (hw : w < 8) (hb : (manO (crO t) a).2.2.testBit w = false) : oLesson t (nI a) (nI w) = (nI (popc ((manO (crO t) a).2.2 ||| 2 ^ w)), wcr t (setH (crO t) a ((manO (crO t) a).2.2 ||| 2 ^ w))) := by
  unfold oLesson
  rw [rg_nI (Nat.zero_le _) ha (by omega)]
  dsimp only
  rw [rg_nI (Nat.zero_le _) hw]
  dsimp only
  rw [if_neg (by rw [hb]; decide)]
theorem oLesson_no {t : St} (h : (mnO (crO t)).length ≤ 4) {a w : Nat} (ha : a < (mnO (crO t)).length) (hw : w < 8) (hb : (manO (crO t) a).2.2.testBit w = true) : oLesson t (nI a) (nI w) = (-103, t) := by
  unfold oLesson
  rw [rg_nI (Nat.zero_le _) ha (by omega)]
  dsimp only
  rw [rg_nI (Nat.zero_le _) hw]
  dsimp only
  rw [if_pos hb]
theorem oUnlearn_eq {t : St} (h : (mnO (crO t)).length ≤ 4) {a : Nat} (ha : a < (mnO (crO t)).length) : oUnlearn t (nI a) = (nI (popc (manO (crO t) a).2.2), wcr t (setH (crO t) a 0)) := by
  unfold oUnlearn
  rw [rg_nI (Nat.zero_le _) ha (by omega)]
/-- behind an act of the law's: 1, and some state stands -/
abbrev pAct : Option Value → aH → Prop := fun v σ' => v = some (.int (nI 1)) ∧ ∃ t', LI t' σ' ∧ 0 < (mnO (crO t')).length
set_option maxRecDepth 20000 in
theorem l_come {t : St} {σ : aH} (h : LI t σ) {kd d : Nat} (hk : kd < 5) (hd : d < 5) : ML_come 6 1 1 [.ref 0, .ref 26, .int (nI kd), .int (nI d)] σ pAct := by
  obtain ⟨hI, hwf, hC, h28, e25, ds, e26, hD⟩ := h
  have hD' := hD
  obtain ⟨⟨d1, d2, d3, d4, d5⟩, d6, d7⟩ := hD
  obtain ⟨fs, e0⟩ := hI.e0
  have h10 := hwf.ten
  have h4 := hwf.four
  have hlm := hwf.lm
  have hln := hwf.len hC
  refine sL_come (Nat.le_of_ble_eq_true rfl) ?_
  refine g_aload eL_come_0 rfl ?_
  refine g_push eL_come_1 ?_
  refine g_ialdN eL_come_3 (by assumption) (by omega) (by omega) ?_
  rw [d4]
  refine g_istore eL_come_4 rfl ?_
  refine g_iload eL_come_6 rfl ?_
  refine g_push eL_come_8 ?_
  refine g_icmp_neN eL_come_9 (by omega) (by omega) (fun c9 => ?_) (fun c9 => ?_)
  · have hm : (mnO (crO t)).length < 4 := by omega
    refine g_aload eL_come_29 rfl ?_
    refine g_push eL_come_30 ?_
    refine g_iload eL_come_32 rfl ?_
    refine g_iaddN eL_come_34 ?_
    refine g_iload eL_come_35 rfl ?_
    refine g_iastN eL_come_36 e26 (by omega) (by omega) ?_
    refine g_aload eL_come_37 rfl ?_
    refine g_push eL_come_38 ?_
    refine g_iload eL_come_40 rfl ?_
    refine g_iaddN eL_come_42 ?_
    refine g_iload eL_come_43 rfl ?_
    refine g_iastN eL_come_44 (at_eq e26) (by simp only [List.length_set]; omega) (by simp only [List.length_set]; omega) ?_
    refine g_aload eL_come_45 rfl ?_
    refine g_push eL_come_46 ?_
    refine g_iload eL_come_48 rfl ?_
    refine g_iaddN eL_come_50 ?_
    refine g_push eL_come_51 ?_
    refine g_iastN eL_come_52 (at_eq (at_eq e26)) (by simp only [List.length_set]; omega) (by simp only [List.length_set]; omega) ?_
    refine g_aload eL_come_53 rfl ?_
    refine g_push eL_come_54 ?_
    refine g_dup2 eL_come_56 rfl rfl ?_
    refine g_ialdN eL_come_57 (at_eq (at_eq (at_eq e26))) (by simp only [List.length_set]; omega) (by simp only [List.length_set]; omega) ?_
    refine g_push eL_come_58 ?_
    refine g_iaddN eL_come_59 ?_
    refine g_iastN eL_come_60 (at_eq (at_eq (at_eq e26))) (by simp only [List.length_set]; omega) (by simp only [List.length_set]; omega) ?_
    refine g_aload eL_come_61 rfl ?_
    refine g_iload eL_come_62 rfl ?_
    refine g_iload eL_come_63 rfl ?_
    have hs : FrX σ σ := FrX.rf
    refine g_callV (r := (RX11, TX11, 10)) eL_come_64 kL_28 (at_ne (by decide) (at_ne (by decide) (at_ne (by decide) (at_ne (by decide) e0)))) (by rfl) (x_accuse (((hI.st (by decide) (by omega)).st (by decide) (by omega)).st (by decide) (by omega) |>.st (by decide) (by omega)) hwf (by simp only [List.length_set]; exact h28) (x := nI kd) (y := nI d)) (by rfl) (by rfl) (by exact Nat.le_of_ble_eq_true rfl) (by exact Nat.le_of_ble_eq_true rfl) (by exact Nat.le_of_ble_eq_true rfl) (by omega) (by omega) (fun v σ' hp hn => ?_)
    rw [oAccuse_eq hC hk hd hm] at hp
    obtain ⟨rfl, hI2, hF⟩ := hp
    refine g_iload eL_come_67 rfl ?_
    refine g_icmp_ne eL_come_69 (fun c69 => absurd rfl c69) (fun c69 => ?_)
    refine g_push eL_come_72 ?_
    refine g_goto eL_come_73 ?_
    exact g_ret (eL_come_77 _ (Or.inr rfl)) (by omega) (by omega) ⟨rfl, _, LI.mk (t := t) hI2 hF (by have := WF_accuse hwf (nI kd) (nI d); rw [oAccuse_eq hC hk hd hm] at this; exact this) hC rfl (by simp only [List.length_set]; exact h28) (at_ne (by decide) (at_ne (by decide) (at_ne (by decide) (at_ne (by decide) e25)))) (at_eq (at_eq (at_eq (at_eq e26)))) (DX_come hD' h10 hm kd d rfl), by show 0 < (mnO (crO t) ++ [(kd, d, 0)]).length; simp⟩
  · have hm : ¬ (mnO (crO t)).length < 4 := by omega
    refine g_aload eL_come_12 rfl ?_
    refine g_iload eL_come_13 rfl ?_
    refine g_iload eL_come_14 rfl ?_
    refine g_callV (r := (RX11, TX11, 10)) eL_come_15 kL_28 e0 (by rfl) (x_accuse hI hwf h28 (x := nI kd) (y := nI d)) (by rfl) (by rfl) (by exact Nat.le_of_ble_eq_true rfl) (by exact Nat.le_of_ble_eq_true rfl) (by exact Nat.le_of_ble_eq_true rfl) (by omega) (by omega) (fun v σ' hp hn => ?_)
    rw [oAccuse_4 hC hk hd hm] at hp
    obtain ⟨rfl, hI2, hF⟩ := hp
    refine g_push eL_come_18 ?_
    refine g_icmp_ne eL_come_20 (fun c20 => absurd rfl c20) (fun c20 => ?_)
    refine g_push eL_come_23 ?_
    refine g_goto eL_come_24 ?_
    exact g_ret (eL_come_28 _ (Or.inr rfl)) (by omega) (by omega) ⟨rfl, t, LI.mk hI2 hF hwf hC rfl h28 e25 e26 hD', by omega⟩
