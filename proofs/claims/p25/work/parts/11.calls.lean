/-! THE CALLS, as the document has them: the answer, and the state then -/
/-- a number out of lo .. n-1 -/
def rg (x : Int32) (lo n : Nat) : Option Nat := if (lo : Int) ≤ x.toInt ∧ x.toInt < (n : Int) then some x.toInt.toNat else none
theorem rg_some {x : Int32} {lo n j : Nat} (h : rg x lo n = some j) (hn : n ≤ 2147483648 := by decide) : x = nI j ∧ lo ≤ j ∧ j < n := by
  unfold rg at h
  split at h
  · rename_i hc
    cases h
    refine ⟨(i_eq (by omega)).mpr (by omega), by omega, by omega⟩
  · cases h
theorem rg_none {x : Int32} {lo n : Nat} (h : rg x lo n = none) : x.toInt < (lo : Int) ∨ (n : Int) ≤ x.toInt := by
  unfold rg at h
  split at h
  · cases h
  · rename_i hc
    omega
theorem rg_nI {lo n j : Nat} (h1 : lo ≤ j) (h2 : j < n) (hn : n ≤ 2147483648 := by decide) : rg (nI j) lo n = some j := by
  unfold rg
  rw [nI_toInt (by omega), if_pos (by omega)]
  simp
/-- what the letters of a page say: part, near, sheet -/
def rdc (pg : Nat → Nat) : Nat → Nat × List Nat × List Nat
  | 0 => (0, [0, 0, 0, 0, 0], [])
  | k + 1 => if 97 ≤ pg k ∧ pg k < 105 then (if (rdc pg k).1 < 4 then ((rdc pg k).1, (rdc pg k).2.1.set (rdc pg k).1 ((rdc pg k).2.1.getD (rdc pg k).1 0 ||| 2 ^ (pg k - 97)), (rdc pg k).2.2) else ((rdc pg k).1, (rdc pg k).2.1, (rdc pg k).2.2 ++ [pg k - 97])) else ((rdc pg k).1 + 1, (rdc pg k).2.1, (rdc pg k).2.2)
abbrev hasC (t : St) : Prop := 0 < ctO t
def oLetter (t : St) (x : Int32) : Int32 × St := match rg x 1 127 with
  | none => (-102, t)
  | some c => if (pgO t).length < 28 then (nI ((pgO t).length + 1), (pgO t ++ [c], t.2)) else (-104, t)
def oBlank (t : St) : Int32 × St := (nI (pgO t).length, ([], t.2))
def oFault (t : St) : Int32 := nI (wfa (shW (pgO t)) (pgO t).length 0 (0, 0, 0)).1
def oCourt (t : St) : Int32 × St := if wcourt (shW (pgO t)) (pgO t).length = true then (nI (rdc (shW (pgO t)) (pgO t).length).2.2.length, ([], (rdc (shW (pgO t)) (pgO t).length).2.1, ((rdc (shW (pgO t)) (pgO t).length).2.2, 2, [], 0, []), none, ctO t + 1, brO t)) else (-103, t)
def oNear (t : St) (x : Int32) : Int32 := match rg x 0 5 with
  | none => -101
  | some d => if hasC t then nI ((nrO t).getD d 0) else -101
def oWord (t : St) (x : Int32) : Int32 := match rg x 0 (shO (crO t)).length with
  | none => -101
  | some k => nI ((shO (crO t)).getD k 0)
/-- another core -/
abbrev wcr (t : St) (c : Cr) : St := (pgO t, nrO t, c, t.2.2.2)
def oPut (t : St) (x v : Int32) : Int32 × St := match rg x 0 (shO (crO t)).length with
  | none => (-101, t)
  | some k => match rg v 0 8 with
    | none => (-102, t)
    | some w => (nI ((shO (crO t)).getD k 0), wcr t ((shO (crO t)).set k w, lmO (crO t), mnO (crO t), chO (crO t) + 1, hdO (crO t)))
def oLimit (t : St) (x : Int32) : Int32 × St := match rg x 1 11 with
  | none => (-102, t)
  | some v => if hasC t then (nI (lmO (crO t)), wcr t (shO (crO t), v, mnO (crO t), chO (crO t) + 1, hdO (crO t))) else (-103, t)
def oAccuse (t : St) (x y : Int32) : Int32 × St := match rg x 0 5 with
  | none => (-102, t)
  | some kd => match rg y 0 5 with
    | none => (-102, t)
    | some d => if hasC t then (if (mnO (crO t)).length < 4 then (nI (mnO (crO t)).length, wcr t (shO (crO t), lmO (crO t), mnO (crO t) ++ [(kd, d, 0)], chO (crO t), hdO (crO t))) else (-104, t)) else (-103, t)
abbrev altM (t : St) (a : Nat) : Nat := manM t a (shW (shO (crO t))) (shO (crO t)).length
def oTell (t : St) (a what : Nat) : Int32 := match what with
  | 0 => nI (manO (crO t) a).1
  | 1 => nI (manO (crO t) a).2.1
  | 2 => nI (altM t a)
  | 3 => nI (popc (altM t a))
  | 4 => nI (decide (lmO (crO t) ≤ popc (altM t a))).toNat
  | 5 => nI (manO (crO t) a).2.2
  | 6 => nI (lefM t a)
  | _ => lisF t a
def oAbout (t : St) (x y : Int32) : Int32 := match rg x 0 (mnO (crO t)).length with
  | none => -101
  | some a => match rg y 0 8 with
    | none => -102
    | some w => oTell t a w
def isK (of kd : Nat) : Bool := decide (kd = 0) || decide (kd = of) || (decide (kd = 1) && decide (of = 4))
def oAs (t : St) (x y : Int32) : Int32 := match rg x 0 (mnO (crO t)).length with
  | none => -101
  | some a => match rg y 0 5 with
    | none => -102
    | some k => if isK (manO (crO t) a).1 k = true then nI a else -1
def setH (c : Cr) (a h : Nat) : Cr := (shO c, lmO c, (mnO c).set a ((manO c a).1, (manO c a).2.1, h), chO c + 1, hdO c)
def oLesson (t : St) (x y : Int32) : Int32 × St := match rg x 0 (mnO (crO t)).length with
  | none => (-101, t)
  | some a => match rg y 0 8 with
    | none => (-102, t)
    | some w => if (manO (crO t) a).2.2.testBit w = true then (-103, t) else (nI (popc ((manO (crO t) a).2.2 ||| 2 ^ w)), wcr t (setH (crO t) a ((manO (crO t) a).2.2 ||| 2 ^ w)))
def oUnlearn (t : St) (x : Int32) : Int32 × St := match rg x 0 (mnO (crO t)).length with
  | none => (-101, t)
  | some a => (nI (popc (manO (crO t) a).2.2), wcr t (setH (crO t) a 0))
/-- what of SHORT is asked: 0, or 10 to 13 -/
def brW (x : Int32) : Option Nat := match rg x 0 1 with
  | some _ => some 0
  | none => rg x 10 14
abbrev basM (t : St) (a : Nat) : Nat := msk (altA (manO (crO t) a).1 ((nrO t).getD (manO (crO t) a).2.1 0) 0 (shW (shO (crO t)))) (shO (crO t)).length
def hidW (t : St) (a n : Nat) : Nat := wth (shW (shO (crO t))) (shO (crO t)).length (basM t a) n 0
def hidA (t : St) (a n w : Nat) : Int32 := if w = 0 then nI (hidW t a n) else nI (popc (basM t a &&& (plM (shW (shO (crO t))) (shO (crO t)).length (hidW t a n) ^^^ 4294967295)))
def oHide (t : St) (x y z : Int32) : Int32 := match rg x 0 (mnO (crO t)).length with
  | none => -101
  | some a => match rg y 0 9 with
    | none => -102
    | some n => match rg z 0 2 with
      | none => -102
      | some w => hidA t a n w
def oHear (t : St) (x y : Int32) (b : Bool) : Int32 × St := match rg x 0 (mnO (crO t)).length with
  | none => (-101, t)
  | some a => match rg y 0 (shO (crO t)).length with
    | none => (-101, t)
    | some p => if (hdO (crO t)).length < 8 then (nI ((hdO (crO t)).length + 1), wcr t (shO (crO t), lmO (crO t), mnO (crO t), chO (crO t), hdO (crO t) ++ [(a, p, b, (manO (crO t) a).2.2, shO (crO t))])) else (-104, t)
def oForget (t : St) : Int32 × St := (nI (hdO (crO t)).length, wcr t (shO (crO t), lmO (crO t), mnO (crO t), chO (crO t), []))
/-- hanged, places, seed behind so many drawn sheets -/
def trl (t : St) (x : Nat) : Nat → Nat × Nat × Nat
  | 0 => (0, 0, x)
  | n + 1 => ((trl t x n).1 + hangN t (drw (trl t x n).2.2) (shO (crO t)).length, (trl t x n).2.1 + allN t (drw (trl t x n).2.2) (shO (crO t)).length, sdN (trl t x n).2.2 (shO (crO t)).length)
def trW (w : Nat) (r : Nat × Nat × Nat) : Int32 := match w with
  | 0 => nI r.1
  | 1 => nI r.2.1
  | _ => nI r.2.2
def oTrials (t : St) (x y z : Int32) : Int32 := match rg x 1 41 with
  | none => -102
  | some n => match rg y 0 2147483648 with
    | none => -102
    | some sd => match rg z 0 3 with
      | none => -102
      | some w => if hasC t then trW w (trl t sd n) else -103
def oImage (t : St) : Int32 × St := if hasC t then (nI (chO (crO t)), (pgO t, nrO t, crO t, some (crO t), ctO t, brO t)) else (-103, t)
def oRestore (t : St) : Int32 × St := match imO t with
  | none => (-103, t)
  | some c => (nI (chO c), wcr t c)
def oCnt (t : St) (w : Nat) : Int32 := match w with
  | 0 => nI (shO (crO t)).length
  | 1 => nI (lmO (crO t))
  | 2 => nI (mnO (crO t)).length
  | 3 => nI (hangN t (shW (shO (crO t))) (shO (crO t)).length)
  | 4 => nI (popc (orW (shW (shO (crO t))) (shO (crO t)).length))
  | 5 => nI (chO (crO t))
  | 6 => nI (hdO (crO t)).length
  | 7 => nI (pgO t).length
  | 8 => nI (ctO t)
  | _ => nI (brO t)
def oCount (t : St) (x : Int32) : Int32 := match rg x 0 10 with
  | none => -102
  | some w => oCnt t w
def say (h : Int64) (x : Int32) : Int64 := 31 * h + x.toInt64
def sayL (f : Nat → Int32) (h : Int64) : Nat → Int64
  | 0 => h
  | n + 1 => say (sayL f h n) (f n)
def sayM (t : St) (h : Int64) (a : Nat) : Int64 := say (say (sayL (fun w => oTell t a w) h 8) (hidA t a 2 0)) (hidA t a 2 1)
def sayA (t : St) (h : Int64) : Nat → Int64
  | 0 => h
  | n + 1 => sayM t (sayA t h n) n
def oDigest (t : St) : Int64 :=
  let h1 := if hasC t then sayL (fun d => nI ((nrO t).getD d 0)) 1019 5 else 1019
  let h2 := sayL (fun k => nI ((shO (crO t)).getD k 0)) h1 (shO (crO t)).length
  let h3 := sayA t h2 (mnO (crO t)).length
  let h4 := sayL (fun k => nI ((pgO t).getD k 0)) h3 (pgO t).length
  sayL (fun w => oCnt t w) h4 10
/-! the class's small tests, by what is known -/
theorem c_hasT {σ : aH} {a b sz : Nat} (h1 : σ[a]? = some (aO 6 [.ref b, .int (nI sz)])) (hs : sz ≤ 10) {j : Nat} (hj : j < sz) : MX6_has 0 0 0 [.ref a, .int (nI j)] σ (aPu (some (.int (nI 1))) σ) := (c_has h1 hs).weaken (fun v σ' h => by
  obtain ⟨h, rfl⟩ := h
  rcases h with ⟨-, -, -, rfl⟩ | ⟨h, -⟩
  · exact ⟨rfl, rfl⟩
  · exact absurd rfl (h j hj))
theorem c_hasN {σ : aH} {a b sz : Nat} (h1 : σ[a]? = some (aO 6 [.ref b, .int (nI sz)])) (hs : sz ≤ 10) {x : Int32} (hx : x.toInt < 0 ∨ ((sz : Nat) : Int) ≤ x.toInt) : MX6_has 0 0 0 [.ref a, .int x] σ (aPu (some (.int (nI 0))) σ) := (c_has h1 hs).weaken (fun v σ' h => by
  obtain ⟨h, rfl⟩ := h
  rcases h with ⟨j, hj, rfl, -⟩ | ⟨-, rfl⟩
  · rw [nI_toInt (by omega)] at hx
    omega
  · exact ⟨rfl, rfl⟩)
theorem c_isWordT {σ : aH} {j : Nat} (hj : j < 8) : MX11_isWord 0 0 0 [.int (nI j)] σ (aPu (some (.int (nI 1))) σ) := (c_isWord).weaken (fun v σ' h => by
  obtain ⟨h, rfl⟩ := h
  rcases h with ⟨-, -, -, rfl⟩ | ⟨h, -⟩
  · exact ⟨rfl, rfl⟩
  · exact absurd rfl (h j hj))
theorem c_isWordN {σ : aH} {x : Int32} (hx : x.toInt < 0 ∨ ((8 : Nat) : Int) ≤ x.toInt) : MX11_isWord 0 0 0 [.int x] σ (aPu (some (.int (nI 0))) σ) := (c_isWord).weaken (fun v σ' h => by
  obtain ⟨h, rfl⟩ := h
  rcases h with ⟨j, hj, rfl, -⟩ | ⟨-, rfl⟩
  · rw [nI_toInt (by omega)] at hx
    omega
  · exact ⟨rfl, rfl⟩)
set_option maxRecDepth 20000 in
theorem c_isKind {σ : aH} {x : Int32} : MX11_isKind 0 0 0 [.int x] σ (fun v σ' => ((∃ j, j < 5 ∧ x = nI j ∧ v = some (.int (nI 1))) ∨ ((∀ j, j < 5 → x ≠ nI j) ∧ v = some (.int (nI 0)))) ∧ σ' = σ) := by
  refine sX11_isKind (Nat.le_of_ble_eq_true rfl) ?_
  refine g_iload eX11_isKind_0 rfl ?_
  refine g_if_lt eX11_isKind_1 (fun c1 => ?_) (fun c1 => ?_)
  · refine g_push eX11_isKind_13 ?_
    exact g_ret (eX11_isKind_14 _ (by first | exact Or.inl rfl | exact Or.inr rfl)) (Nat.le_refl _) (Nat.le_refl _) ⟨by first | exact hasT2_ c1 c6 (by decide) | exact hasF2_ (by first | exact Or.inl c1 | exact Or.inr c6) (by decide), rfl⟩
  · refine g_iload eX11_isKind_4 rfl ?_
    refine g_push eX11_isKind_5 ?_
    refine g_icmp_ge eX11_isKind_6 (fun c6 => ?_) (fun c6 => ?_)
    · refine g_push eX11_isKind_13 ?_
      exact g_ret (eX11_isKind_14 _ (by first | exact Or.inl rfl | exact Or.inr rfl)) (Nat.le_refl _) (Nat.le_refl _) ⟨by first | exact hasT2_ c1 c6 (by decide) | exact hasF2_ (by first | exact Or.inl c1 | exact Or.inr c6) (by decide), rfl⟩
    · refine g_push eX11_isKind_9 ?_
      refine g_goto eX11_isKind_10 ?_
      exact g_ret (eX11_isKind_14 _ (by first | exact Or.inl rfl | exact Or.inr rfl)) (Nat.le_refl _) (Nat.le_refl _) ⟨by first | exact hasT2_ c1 c6 (by decide) | exact hasF2_ (by first | exact Or.inl c1 | exact Or.inr c6) (by decide), rfl⟩
theorem c_isKindT {σ : aH} {j : Nat} (hj : j < 5) : MX11_isKind 0 0 0 [.int (nI j)] σ (aPu (some (.int (nI 1))) σ) := (c_isKind).weaken (fun v σ' h => by
  obtain ⟨h, rfl⟩ := h
  rcases h with ⟨-, -, -, rfl⟩ | ⟨h, -⟩
  · exact ⟨rfl, rfl⟩
  · exact absurd rfl (h j hj))
theorem c_isKindN {σ : aH} {x : Int32} (hx : x.toInt < 0 ∨ ((5 : Nat) : Int) ≤ x.toInt) : MX11_isKind 0 0 0 [.int x] σ (aPu (some (.int (nI 0))) σ) := (c_isKind).weaken (fun v σ' h => by
  obtain ⟨h, rfl⟩ := h
  rcases h with ⟨j, hj, rfl, -⟩ | ⟨-, rfl⟩
  · rw [nI_toInt (by omega)] at hx
    omega
  · exact ⟨rfl, rfl⟩)
theorem c_isAccusedT {σ : aH} {t : St} (hI : IX t σ) (hwf : WF t) {j : Nat} (hj : j < (mnO (crO t)).length) : MX11_isAccused 0 0 0 [.ref 0, .int (nI j)] σ (aPu (some (.int (nI 1))) σ) := (c_isAccused hI hwf).weaken (fun v σ' h => by
  obtain ⟨h, rfl⟩ := h
  rcases h with ⟨-, -, -, rfl⟩ | ⟨h, -⟩
  · exact ⟨rfl, rfl⟩
  · exact absurd rfl (h j hj))
theorem c_isAccusedN {σ : aH} {t : St} (hI : IX t σ) (hwf : WF t) {x : Int32} (hx : x.toInt < 0 ∨ (((mnO (crO t)).length : Nat) : Int) ≤ x.toInt) : MX11_isAccused 0 0 0 [.ref 0, .int x] σ (aPu (some (.int (nI 0))) σ) := (c_isAccused hI hwf).weaken (fun v σ' h => by
  obtain ⟨h, rfl⟩ := h
  rcases h with ⟨j, hj, rfl, -⟩ | ⟨-, rfl⟩
  · have := hwf.2.2.2.2.2.1.2.2.2.1
    rw [nI_toInt (by omega)] at hx
    omega
  · exact ⟨rfl, rfl⟩)
theorem nm7 {l : List Nat} {j : Nat} (h : ∀ i ∈ l, i < 25) (hj : 28 ≤ j) : j ∉ l := fun z => by have := h j z; omega
theorem IX.page {t : St} {σ τ : aH} (hI : IX t σ) (h : EqO [1, 2] σ τ) {pg : List Nat} {cd' : List Nat} (g1 : τ[1]? = some (aO 5 [.ref 2, .ref 3, .int (nI pg.length)])) (g2 : τ[2]? = some (aA cd')) (l1 : cd'.length = 28) (l2 : ∀ k, k < pg.length → cd'.getD k 0 = pg.getD k 0) (l3 : ∀ k, cd'.getD k 0 < 1000) : IX (pg, t.2) τ := by
  obtain ⟨cd, y0, y1, y2, mr, dws, dsz, bp, bw, bs, e0, e1, e2, e3, e4, e5, e20, e21, e22, e23, e24, hn, hk, hki, lcd, hcd, bcd, lmr, ldws, lbp, lbw, hmen⟩ := hI
  refine ⟨cd', y0, y1, y2, mr, dws, dsz, bp, bw, bs, h.at (by decide) e0, g1, g2, h.at (by decide) e3, h.at (by decide) e4, h.at (by decide) e5, h.at (by decide) e20, h.at (by decide) e21, h.at (by decide) e22, h.at (by decide) e23, h.at (by decide) e24, hn.at (fun j a b => h.2 j ?_), hk.at (fun j a b => h.2 j ?_), fun c hc => (hki c hc).at (fun j a b => h.2 j ?_), l1, l2, l3, lmr, ldws, lbp, lbw, fun i hi => ?_⟩
  · simp only [List.mem_cons, List.not_mem_nil, or_false]; omega
  · simp only [List.mem_cons, List.not_mem_nil, or_false]; omega
  · simp only [List.mem_cons, List.not_mem_nil, or_false]; omega
  · obtain ⟨q, a1, a2, a3⟩ := hmen i hi
    exact ⟨q, a1, a2, h.at (nm7 (by decide) a2) a3⟩
theorem IX.core {t : St} {σ τ : aH} (hI : IX t σ) (h : EqO [6, 7, 8, 9, 10, 11, 12] σ τ) {c : Cr} (hn' : IS 6 (shW (nrO t)) c τ) (hm : ∀ i, i < (mnO c).length → i < (mnO (crO t)).length ∧ (manO c i).1 = (manO (crO t) i).1 ∧ (manO c i).2.1 = (manO (crO t) i).2.1) : IX (wcr t c) τ := by
  obtain ⟨cd, y0, y1, y2, mr, dws, dsz, bp, bw, bs, e0, e1, e2, e3, e4, e5, e20, e21, e22, e23, e24, hn, hk, hki, lcd, hcd, bcd, lmr, ldws, lbp, lbw, hmen⟩ := hI
  refine ⟨cd, y0, y1, y2, mr, dws, dsz, bp, bw, bs, h.at (by decide) e0, h.at (by decide) e1, h.at (by decide) e2, h.at (by decide) e3, h.at (by decide) e4, h.at (by decide) e5, h.at (by decide) e20, h.at (by decide) e21, h.at (by decide) e22, h.at (by decide) e23, h.at (by decide) e24, hn', hk.at (fun j a b => h.2 j ?_), fun c hc => (hki c hc).at (fun j a b => h.2 j ?_), lcd, hcd, bcd, lmr, ldws, lbp, lbw, fun i hi => ?_⟩
  · simp only [List.mem_cons, List.not_mem_nil, or_false]; omega
  · simp only [List.mem_cons, List.not_mem_nil, or_false]; omega
  · obtain ⟨b1, b2, b3⟩ := hm i hi
    obtain ⟨q, a1, a2, a3⟩ := hmen i b1
    refine ⟨q, a1, a2, ?_⟩
    show τ[q]? = some (aO (ciK (manO c i).1) [.int (nI (manO c i).2.1)])
    rw [b2, b3]
    exact h.at (nm7 (by decide) a2) a3
theorem getD_app {α : Type} (l : List α) (c d : α) (k : Nat) : (l ++ [c]).getD k d = if k < l.length then l.getD k d else if k = l.length then c else d := by
  rw [List.getD_eq_getElem?_getD, List.getD_eq_getElem?_getD, List.getElem?_append]
  by_cases h : k < l.length
  · rw [if_pos h, if_pos h]
  · rw [if_neg h, if_neg h]
    by_cases h2 : k = l.length
    · subst h2
      simp
    · rw [if_neg h2, List.getElem?_eq_none (by simp; omega)]
      rfl
theorem getD_set {α : Type} (l : List α) (i : Nat) (c d : α) (k : Nat) : (l.set i c).getD k d = if i = k ∧ i < l.length then c else l.getD k d := by
  rw [List.getD_eq_getElem?_getD, List.getD_eq_getElem?_getD, List.getElem?_set]
  by_cases h : i = k
  · subst h
    by_cases h2 : i < l.length
    · simp [h2]
    · simp [h2]
  · simp [h]
theorem IX.letter {t : St} {σ : aH} (hI : IX t σ) {cd : List Nat} {c : Nat} (q1 : (pgO t).length < 28) (hc : c < 127) (e1 : σ[1]? = some (aO 5 [.ref 2, .ref 3, .int (nI (pgO t).length)])) (e2 : σ[2]? = some (aA cd)) (lcd : cd.length = 28) (hcd : ∀ k, k < (pgO t).length → cd.getD k 0 = (pgO t).getD k 0) (bcd : ∀ k, cd.getD k 0 < 1000) : IX (pgO t ++ [c], t.2) ((σ.set 2 (aA (cd.set (pgO t).length c))).set 1 (aO 5 [.ref 2, .ref 3, .int (nI ((pgO t).length + 1))])) := by
  refine hI.page ((EqO.rf.st (by decide)).st (by decide)) (cd' := cd.set (pgO t).length c) (by rw [List.length_append]; exact at_eq (at_ne (by decide) e1)) (at_ne (by decide) (at_eq e2)) (by rw [List.length_set]; exact lcd) (fun k hk => ?_) (fun k => ?_)
  · rw [getD_set, getD_app]
    rw [List.length_append, List.length_singleton] at hk
    by_cases h : k < (pgO t).length
    · rw [if_neg (by omega), if_pos h, hcd k h]
    · rw [if_pos (by omega), if_neg h, if_pos (by omega)]
  · rw [getD_set]
    split
    · omega
    · exact bcd k
set_option maxRecDepth 20000 in
theorem x_letter {σ : aH} {t : St} (hI : IX t σ) (hwf : WF t) {x : Int32} : MX11_letter 1 0 0 [.ref 0, .int x] σ (fun v σ' => v = some (.int (oLetter t x).1) ∧ IX (oLetter t x).2 σ' ∧ FrX σ σ') := by
  refine sX11_letter (Nat.le_of_ble_eq_true rfl) ?_
  have hI' := hI
  have hwf' := hwf
  obtain ⟨cd, x0, x1, x2, mr, dws, dsz, bp, bw, bs, e0, e1, e2, e3, e4, e5, e20, e21, e22, e23, e24, ⟨ws, wm, dm, hid, e6, e7, e8, e9, e10, e11, e12, lws, hws, lwm, ldm, bwm, lhid, hhid, hhd⟩, hk, hki, lcd, hcd, bcd, lmr, ldws, lbp, lbw, hmen⟩ := hI
  obtain ⟨w1, w2, w3, w4, w5, ⟨w6, w7, w8, w9, w10, w11, w12⟩, w13, w14, w15, w16, w17⟩ := hwf
  unfold oLetter
  cases e : rg x 1 127 with
  | none =>
    dsimp only
    have hr := rg_none e
    refine g_iload eX11_letter_0 rfl ?_
    refine g_push eX11_letter_1 ?_
    refine g_icmp_ltI eX11_letter_2 (by decide) (fun c2 => ?_) (fun c2 => ?_)
    · refine g_push eX11_letter_11 ?_
      exact g_ret (eX11_letter_13 _) (Nat.le_refl _) (Nat.le_refl _) ⟨rfl, hI', FrX.rf⟩
    · refine g_iload eX11_letter_5 rfl ?_
      refine g_push eX11_letter_6 ?_
      refine g_icmp_leI eX11_letter_8 (by decide) (fun c8 => by exfalso; omega) (fun c8 => ?_)
      refine g_push eX11_letter_11 ?_
      exact g_ret (eX11_letter_13 _) (Nat.le_refl _) (Nat.le_refl _) ⟨rfl, hI', FrX.rf⟩
  | some c =>
    dsimp only
    obtain ⟨rfl, hc1, hc2⟩ := rg_some e
    refine g_iload eX11_letter_0 rfl ?_
    refine g_push eX11_letter_1 ?_
    refine g_icmp_ltN eX11_letter_2 (by omega) (by omega) (fun c2 => by exfalso; omega) (fun c2 => ?_)
    refine g_iload eX11_letter_5 rfl ?_
    refine g_push eX11_letter_6 ?_
    refine g_icmp_leN eX11_letter_8 (by omega) (by omega) (fun c8 => ?_) (fun c8 => by exfalso; omega)
    refine g_aload eX11_letter_14 rfl ?_
    refine g_get eX11_letter_15 fX11_10_X11 e0 (by rfl) ?_
    refine g_iload eX11_letter_18 rfl ?_
    refine g_callV0 (r := (RX5, TX5, 3)) eX11_letter_19 kX11_50 e1 (by rfl) (c_padd (c := c) e1 e2 lcd w1 (by decide)) (by rfl) (by rfl) (by exact Nat.le_of_ble_eq_true rfl) (by exact Nat.le_of_ble_eq_true rfl) (by exact Nat.le_of_ble_eq_true rfl) (Nat.le_refl _) (Nat.le_refl _) (fun v19 σ19 hp19 hn19 => ?_)
    rcases hp19 with ⟨q1, rfl, rfl⟩ | ⟨q1, rfl, rfl⟩
    · refine g_if_eqN eX11_letter_22 (by omega) (fun c22 => by exfalso; omega) (fun c22 => ?_)
      refine g_aload eX11_letter_25 rfl ?_
      refine g_get eX11_letter_26 fX11_10_X11 (at_ne (by decide) (at_ne (by decide) e0)) (by rfl) ?_
      refine g_callVp (r := (RX5, TX5, 3)) eX11_letter_29 kX11_54 (at_eq (at_ne (by decide) e1)) (by rfl) (c_psize (at_eq (at_ne (by decide) e1))) (by rfl) (by rfl) (by exact Nat.le_of_ble_eq_true rfl) (by exact Nat.le_of_ble_eq_true rfl) (by exact Nat.le_of_ble_eq_true rfl) (Nat.le_refl _) (Nat.le_refl _) ?_
      refine g_goto eX11_letter_32 ?_
      exact g_ret (eX11_letter_37 _) (Nat.le_refl _) (Nat.le_refl _) (by rw [if_pos q1]; exact ⟨rfl, IX.letter hI' q1 hc2 e1 e2 lcd hcd bcd, (FrX.rf.st (by decide)).st (by decide)⟩)
    · refine g_if_eqN eX11_letter_22 (by omega) (fun c22 => ?_) (fun c22 => absurd rfl c22)
      refine g_push eX11_letter_35 ?_
      exact g_ret (eX11_letter_37 _) (Nat.le_refl _) (Nat.le_refl _) (by rw [if_neg (by omega)]; exact ⟨rfl, hI', FrX.rf⟩)
