/-! the page, the court: as the law reads them -/
theorem wfa_of_pre {pg : Nat → Nat} : ∀ d k s s', wpre pg k = some s → wpre pg (k + d) = some s' → wfa pg d k s = (k + d, s')
  | 0, k, s, s', h, h' => by
    have : some s = some s' := h.symm.trans h'
    rw [Option.some.inj this]
    rfl
  | d + 1, k, s, s', h, h' => by
    have h2 : wpre pg (k + 1 + d) = some s' := by
      rw [show k + 1 + d = k + (d + 1) by omega]
      exact h'
    obtain ⟨s1, h1⟩ := wpre_le h2
    have e : wstep s (pg k) = some s1 := (wpre_s h).symm.trans h1
    rw [wfa_some e, wfa_of_pre d (k + 1) s1 s' h1 h2, show k + 1 + d = k + (d + 1) by omega]
theorem take_getD {ts : List Nat} {n j : Nat} (h : j < n) : (ts.take n).getD j 0 = ts.getD j 0 := by
  rw [List.getD_eq_getElem?_getD, List.getD_eq_getElem?_getD, List.getElem?_take, if_pos h]
theorem take_len {ts : List Nat} {n : Nat} (h : n ≤ ts.length) : (ts.take n).length = n := by
  rw [List.length_take]
  omega
theorem take_s {ts : List Nat} {n : Nat} (h : n < ts.length) : ts.take n ++ [ts.getD n 0] = ts.take (n + 1) := by
  rw [List.take_add_one, List.getD_eq_getElem?_getD, List.getElem?_eq_getElem h]
  rfl
theorem oLetter_eq {tr : List Nat × Cr × Option Cr × Nat × Nat} {ts : List Nat} {i : Nat} (ht : ts.length = 28) (hi : i < 28) (hc : 1 ≤ ts.getD i 0 ∧ ts.getD i 0 < 127) : oLetter (ts.take i, tr) (nI (ts.getD i 0)) = (nI (i + 1), (ts.take (i + 1), tr)) := by
  unfold oLetter
  rw [rg_nI hc.1 hc.2]
  show (if (ts.take i).length < 28 then (nI ((ts.take i).length + 1), (ts.take i ++ [ts.getD i 0], tr)) else _) = _
  rw [take_len (by omega), if_pos hi, take_s (by omega)]
set_option maxRecDepth 20000 in
theorem l_write {tr : List Nat × Cr × Option Cr × Nat × Nat} {σ : aH} (hI : IX ([], tr) σ) (hwf : WF ([], tr)) {ts : List Nat} (e27 : σ[27]? = some (aA ts)) (ht : ts.length = 28) {n : Nat} (hn : n ≤ 28) (hc : ∀ j, j < n → 1 ≤ ts.getD j 0 ∧ ts.getD j 0 < 127) : ML_write 2 0 0 [.ref 0, .ref 27, .int (nI n)] σ (fun v σ' => v = some (.int (nI 1)) ∧ IX (ts.take n, tr) σ' ∧ WF (ts.take n, tr) ∧ FrX σ σ') := by
  refine sL_write (Nat.le_of_ble_eq_true rfl) ?_
  have key : ∀ d i ρ, i + d = n → IX (ts.take i, tr) ρ → WF (ts.take i, tr) → FrX σ ρ → GL_write 2 0 0 (fun v σ' => v = some (.int (nI 1)) ∧ IX (ts.take n, tr) σ' ∧ WF (ts.take n, tr) ∧ FrX σ σ') 0 0 2 [some (.ref 0), some (.ref 27), some (.int (nI n)), some (.int (nI i))] [] ρ := by
    intro d
    induction d with
    | zero =>
      intro i ρ hi hI hwf hF
      obtain rfl : i = n := by omega
      refine g_iload eL_write_2 rfl ?_
      refine g_iload eL_write_3 rfl ?_
      refine g_icmp_geN eL_write_4 (by omega) (by omega) (fun c4 => ?_) (fun c4 => by exfalso; omega)
      refine g_push eL_write_28 ?_
      exact g_ret (eL_write_29 _ (Or.inr rfl)) (Nat.le_refl _) (Nat.le_refl _) ⟨rfl, hI, hwf, hF⟩
    | succ d ih =>
      intro i ρ hi hI hwf hF
      obtain ⟨fs, e0⟩ := hI.e0
      have hci := hc i (by omega)
      have hL := oLetter_eq (tr := tr) ht (show i < 28 by omega) hci
      have hwf2 := WF_letter hwf (nI (ts.getD i 0))
      rw [hL] at hwf2
      refine g_iload eL_write_2 rfl ?_
      refine g_iload eL_write_3 rfl ?_
      refine g_icmp_geN eL_write_4 (by omega) (by omega) (fun c4 => by exfalso; omega) (fun c4 => ?_)
      refine g_aload eL_write_7 rfl ?_
      refine g_aload eL_write_8 rfl ?_
      refine g_iload eL_write_9 rfl ?_
      refine g_ialdN eL_write_10 (hF.at (by decide) e27) (by omega) (by omega) ?_
      refine g_callV0 (r := (RX11, TX11, 10)) eL_write_11 kL_22 e0 (by rfl) (x_letter hI hwf (x := nI (ts.getD i 0))) (by rfl) (by rfl) (by exact Nat.le_of_ble_eq_true rfl) (by exact Nat.le_of_ble_eq_true rfl) (by exact Nat.le_of_ble_eq_true rfl) (Nat.le_refl _) (Nat.le_refl _) (fun v11 σ11 hp11 hn11 => ?_)
      rw [hL] at hp11
      obtain ⟨rfl, hI2, hF2⟩ := hp11
      refine g_iload eL_write_14 rfl ?_
      refine g_push eL_write_15 ?_
      refine g_iaddN eL_write_16 ?_
      refine g_icmp_eq eL_write_17 (fun c17 => ?_) (fun c17 => absurd rfl c17)
      refine g_iincN eL_write_22 rfl rfl ?_
      refine g_goto eL_write_25 ?_
      exact ih (i + 1) _ (by omega) hI2 hwf2 (hF.tr hF2)
  refine g_push eL_write_0 ?_
  refine g_istore eL_write_1 rfl ?_
  exact key n 0 σ (Nat.zero_add _) hI hwf FrX.rf
/-- the state behind the law's court -/
abbrev tC (bs sh : List Nat) : St := ([], bs, (sh, 2, [], 0, []), none, 1, 0)
theorem oFault_eq {n : Nat} {bs ds ts sh : List Nat} (h : CT n bs ds ts sh) : oFault (ts.take n, t0.2) = nI n := by
  obtain ⟨c1, c2, c3, c4, ⟨l, hT⟩, -⟩ := h
  have e : ∀ j, j < n → shW (ts.take n) j = shW ts j := fun j hj => take_getD hj
  have hp := (wpre_congr e).trans hT.2.1
  have := wfa_of_pre n 0 (0, 0, 0) _ rfl (by rw [Nat.zero_add]; exact hp)
  show nI (wfa (shW (ts.take n)) (ts.take n).length 0 (0, 0, 0)).1 = _
  rw [take_len (by rw [hT.1]; exact c3), this, Nat.zero_add]
theorem list_ext5 {a b : List Nat} (ha : a.length = 5) (hb : b.length = 5) (h : ∀ e, a.getD e 0 = b.getD e 0) : a = b := by
  apply List.ext_getElem?
  intro j
  by_cases hj : j < 5
  · have := h j
    rw [List.getD_eq_getElem?_getD, List.getD_eq_getElem?_getD, List.getElem?_eq_getElem (by omega), List.getElem?_eq_getElem (by omega)] at this
    rw [List.getElem?_eq_getElem (by omega), List.getElem?_eq_getElem (by omega)]
    exact congrArg some this
  · rw [List.getElem?_eq_none (by omega), List.getElem?_eq_none (by omega)]
theorem oCourt_eq {n : Nat} {bs ds ts sh : List Nat} (h : CT n bs ds ts sh) : oCourt (ts.take n, t0.2) = (nI sh.length, tC bs sh) := by
  obtain ⟨c1, c2, c3, c4, ⟨l, hT⟩, -⟩ := h
  have e : ∀ j, j < n → shW (ts.take n) j = shW ts j := fun j hj => take_getD hj
  have hp := (wpre_congr e).trans hT.2.1
  have hw := wfa_of_pre n 0 (0, 0, 0) _ rfl (by rw [Nat.zero_add]; exact hp)
  have hr := rdc_congr2 e
  have hlen : (ts.take n).length = n := take_len (by rw [hT.1]; exact c3)
  have hn : (rdc (shW ts) n).2.1 = bs := list_ext5 (RV_of n _ hT.2.1).2.2.2.1 c1 hT.2.2.1
  have hs : (rdc (shW ts) n).2.2 = sh := hT.2.2.2.1
  have hct : wcourt (shW (ts.take n)) n = true := by
    unfold wcourt
    rw [hw, Nat.zero_add]
    exact decide_eq_true ⟨rfl, rfl, c4⟩
  unfold oCourt
  show (if wcourt (shW (ts.take n)) (ts.take n).length = true then (nI (rdc (shW (ts.take n)) (ts.take n).length).2.2.length, (([] : List Nat), (rdc (shW (ts.take n)) (ts.take n).length).2.1, ((rdc (shW (ts.take n)) (ts.take n).length).2.2, 2, [], 0, []), none, 0 + 1, 0)) else _) = _
  rw [hlen, if_pos hct, hr, hn, hs]
theorem LI_court {n : Nat} {bs ds ts sh : List Nat} (h : CT n bs ds ts sh) {τ σ' : aH} (hwf : WF (ts.take n, t0.2)) (hI : IX (tC bs sh) σ') (hF : FrX τ σ') (h28 : 28 ≤ τ.length) (e25 : τ[25]? = some (aA bs)) (e26 : τ[26]? = some (aA ds)) : LI (tC bs sh) σ' := by
  have hW := WF_court hwf (show (0 : Nat) < 1000 by decide)
  rw [oCourt_eq h] at hW
  obtain ⟨c1, c2, c3, c4, c5, c6, c7, c8, c9, c10⟩ := h
  exact LI.mk (t := tC bs sh) hI hF hW (show (0 : Nat) < 1 by decide) rfl h28 e25 e26 ⟨⟨c2, c6, c8, c9, fun i hi => absurd hi (Nat.not_lt_zero i)⟩, c7, c10⟩
