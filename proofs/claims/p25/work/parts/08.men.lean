/-! THE STATE, as the document has it: page, near, the court's core (sheet, limit, men, changes, heard), the image, courts read, briefs done -/
abbrev Mn : Type := Nat × Nat × Nat
abbrev Hd : Type := Nat × Nat × Bool × Nat × List Nat
abbrev Cr : Type := List Nat × Nat × List Mn × Nat × List Hd
abbrev St : Type := List Nat × List Nat × Cr × Option Cr × Nat × Nat
abbrev shO (c : Cr) : List Nat := c.1
abbrev lmO (c : Cr) : Nat := c.2.1
abbrev mnO (c : Cr) : List Mn := c.2.2.1
abbrev chO (c : Cr) : Nat := c.2.2.2.1
abbrev hdO (c : Cr) : List Hd := c.2.2.2.2
abbrev pgO (t : St) : List Nat := t.1
abbrev nrO (t : St) : List Nat := t.2.1
abbrev crO (t : St) : Cr := t.2.2.1
abbrev imO (t : St) : Option Cr := t.2.2.2.1
abbrev ctO (t : St) : Nat := t.2.2.2.2.1
abbrev brO (t : St) : Nat := t.2.2.2.2.2
abbrev m0 : Mn := (0, 0, 0)
abbrev manO (c : Cr) (i : Nat) : Mn := (mnO c).getD i m0
/-- where one alters by his deed, his kind; hides apart -/
def altB (kind : Nat) (nr : Nat) (s : Nat → Nat) (k : Nat) : Bool := match kind with
  | 1 => nr.testBit (s k) || decide (k = 0)
  | 2 => nr.testBit (s k) && !seenB s k (s k)
  | 3 => decide (0 < k) && nr.testBit (s (k - 1))
  | 4 => nr.testBit (s k) || decide (k = 0) || decide (s k = 7)
  | _ => nr.testBit (s k)
def altA (kind nr hides : Nat) (s : Nat → Nat) (k : Nat) : Bool := !hides.testBit (s k) && altB kind nr s k
abbrev h0 : Hd := (0, 0, false, 0, [])
/-- whether a deed fits what is heard of one of a kind -/
def fitB (near : Nat → Nat) (kind : Nat) (h : Hd) (d : Nat) : Bool := altA kind (near d) h.2.2.2.1 (shW h.2.2.2.2) h.2.1 == h.2.2.1
def cwf (c : Cr) : Prop := (shO c).length ≤ 10 ∧ (∀ k, (shO c).getD k 0 < 8) ∧ lmO c ≤ 10 ∧ (mnO c).length ≤ 4 ∧ (∀ i, (manO c i).1 ≤ 4 ∧ (manO c i).2.1 ≤ 4 ∧ (manO c i).2.2 < 256) ∧ (hdO c).length ≤ 8 ∧ (∀ h ∈ hdO c, h.1 < (mnO c).length ∧ h.2.1 < h.2.2.2.2.length ∧ h.2.2.2.2.length ≤ 10 ∧ h.2.2.2.1 < 256 ∧ ∀ k, h.2.2.2.2.getD k 0 < 8)
def WF (t : St) : Prop := (pgO t).length ≤ 28 ∧ (∀ k, (pgO t).getD k 0 < 127) ∧ (nrO t).length = 5 ∧ (∀ d, (nrO t).getD d 0 < 256) ∧ (nrO t).getD 4 0 = 0 ∧ cwf (crO t) ∧ (∀ c, imO t = some c → cwf c ∧ (mnO c).length ≤ (mnO (crO t)).length ∧ (∀ i, i < (mnO c).length → (manO c i).1 = (manO (crO t) i).1 ∧ (manO c i).2.1 = (manO (crO t) i).2.1) ∧ 0 < (shO c).length) ∧ (ctO t = 0 ↔ (shO (crO t)).length = 0) ∧ ctO t ≤ 1000 ∧ brO t ≤ 30 ∧ (ctO t = 0 → mnO (crO t) = [] ∧ hdO (crO t) = [] ∧ imO t = none)
/-- the cells of a 'State' object at place o -/
def IS (o : Nat) (near : Nat → Nat) (c : Cr) (σ : aH) : Prop := ∃ (ws wm dm hid : List Nat),
  σ[o]? = some (aO 8 [.ref (o + 1), .ref (o + 3), .ref (o + 6), .int (nI (lmO c)), .int (nI (mnO c).length), .int (nI (chO c))]) ∧
  σ[o + 1]? = some (aO 6 [.ref (o + 2), .int (nI (shO c).length)]) ∧ σ[o + 2]? = some (aA ws) ∧
  σ[o + 3]? = some (aO 3 [.ref (o + 4), .ref (o + 5), .int (nI (hdO c).length)]) ∧ σ[o + 4]? = some (aA wm) ∧ σ[o + 5]? = some (aA dm) ∧ σ[o + 6]? = some (aA hid) ∧
  ws.length = 10 ∧ (∀ k, k < (shO c).length → ws.getD k 0 = (shO c).getD k 0) ∧ wm.length = 8 ∧ dm.length = 8 ∧ (∀ k, wm.getD k 0 < 65536) ∧ hid.length = 4 ∧ (∀ i, i < (mnO c).length → hid.getD i 0 = (manO c i).2.2) ∧
  (∀ i, i < (hdO c).length → wm.getD i 0 = ((hdO c).getD i h0).1 ∧ dm.getD i 0 = msk (fitB near (manO c ((hdO c).getD i h0).1).1 ((hdO c).getD i h0)) 5)
/-- the same cells, whatever they hold -/
def ISh (o : Nat) (σ : aH) : Prop := ∃ (ws wm dm hid : List Nat) (y0 y1 y2 y3 y4 : Int32),
  σ[o]? = some (aO 8 [.ref (o + 1), .ref (o + 3), .ref (o + 6), .int y0, .int y1, .int y2]) ∧
  σ[o + 1]? = some (aO 6 [.ref (o + 2), .int y3]) ∧ σ[o + 2]? = some (aA ws) ∧
  σ[o + 3]? = some (aO 3 [.ref (o + 4), .ref (o + 5), .int y4]) ∧ σ[o + 4]? = some (aA wm) ∧ σ[o + 5]? = some (aA dm) ∧ σ[o + 6]? = some (aA hid) ∧
  ws.length = 10 ∧ wm.length = 8 ∧ dm.length = 8 ∧ hid.length = 4
def ciK (kind : Nat) : Nat := match kind with
  | 1 => 7
  | 2 => 0
  | 3 => 1
  | 4 => 10
  | _ => 4
def imB (t : St) : Nat := match imO t with
  | none => 0
  | some _ => 1
/-- the class's cells stand for the state t -/
def IX (t : St) (σ : aH) : Prop := ∃ (cd : List Nat) (x0 x1 x2 : Int32) (mr : List (Option Nat)) (dws : List Nat) (dsz : Int32) (bp bw : List Nat) (bs : Int32),
  σ[0]? = some (aO 11 [.ref 1, .ref 4, .ref 5, .ref 6, .ref 13, .ref 20, .ref 22, .int (nI (imB t)), .int (nI (ctO t)), .int (nI (brO t))]) ∧
  σ[1]? = some (aO 5 [.ref 2, .ref 3, .int (nI (pgO t).length)]) ∧ σ[2]? = some (aA cd) ∧ σ[3]? = some (aO 9 [.int x0, .int x1, .int x2]) ∧
  σ[4]? = some (aA (nrO t)) ∧ σ[5]? = some (.inr (.inl mr)) ∧
  σ[20]? = some (aO 6 [.ref 21, .int dsz]) ∧ σ[21]? = some (aA dws) ∧ σ[22]? = some (aO 2 [.ref 23, .ref 24, .int bs]) ∧ σ[23]? = some (aA bp) ∧ σ[24]? = some (aA bw) ∧
  IS 6 (shW (nrO t)) (crO t) σ ∧ ISh 13 σ ∧ (∀ c, imO t = some c → IS 13 (shW (nrO t)) c σ) ∧
  cd.length = 28 ∧ (∀ k, k < (pgO t).length → cd.getD k 0 = (pgO t).getD k 0) ∧ (∀ k, cd.getD k 0 < 1000) ∧ mr.length = 4 ∧ dws.length = 10 ∧ bp.length = 8 ∧ bw.length = 4 ∧
  (∀ i, i < (mnO (crO t)).length → ∃ q, mr[i]? = some (some q) ∧ 28 ≤ q ∧ σ[q]? = some (aO (ciK (manO (crO t) i).1) [.int (nI (manO (crO t) i).2.1)]))
/-- what a class's method leaves alone: all but its first 25 cells -/
def FrX (σ σ' : aH) : Prop := σ.length ≤ σ'.length ∧ ∀ j, 25 ≤ j → j < σ.length → σ'[j]? = σ[j]?
theorem FrX.rf {σ : aH} : FrX σ σ := ⟨Nat.le_refl _, fun _ _ _ => rfl⟩
theorem FrX.st {σ τ : aH} {i : Nat} {c : aT} (h : FrX σ τ) (hi : i < 25) : FrX σ (τ.set i c) := ⟨by rw [List.length_set]; exact h.1, fun j h1 h2 => by rw [List.getElem?_set_ne (by omega)]; exact h.2 j h1 h2⟩
theorem FrX.tr {σ τ υ : aH} (h : FrX σ τ) (h2 : FrX τ υ) : FrX σ υ := ⟨Nat.le_trans h.1 h2.1, fun j a b => (h2.2 j a (Nat.lt_of_lt_of_le b h.1)).trans (h.2 j a b)⟩
theorem FrX.at {σ τ : aH} {i : Nat} {c : aT} (h : FrX σ τ) (hi : 25 ≤ i) (hc : σ[i]? = some c) : τ[i]? = some c := (h.2 i hi (List.getElem?_eq_some_iff.mp hc).1).trans hc
/-! MEN: kinds, deeds -/
set_option maxRecDepth 20000 in
theorem c_X4_pbd {σ : aH} {a b sz : Nat} {ws : List Nat} (h1 : σ[a]? = some (aO 6 [.ref b, .int (nI sz)])) (h2 : σ[b]? = some (aA ws)) (hl : ws.length = 10) (hs : sz ≤ 10) (hw : ∀ k, k < sz → ws.getD k 0 < 8) {q w : Nat} (hw2 : w < 2147483648) : MX4_placesByDeed 1 0 0 [.ref q, .ref a, .int (nI w)] σ (aPu (some (.int (nI (msk (fun k => w.testBit (ws.getD k 0)) sz)))) σ) := by
  refine sX4_placesByDeed (Nat.le_of_ble_eq_true rfl) ?_
  refine g_aload eX4_placesByDeed_0 rfl ?_
  refine g_iload eX4_placesByDeed_1 rfl ?_
  refine g_callVp (r := (RX6, TX6, 2)) eX4_placesByDeed_2 kX4_13 h1 (by rfl) (c_placesOf h1 h2 hl hs hw hw2) (by rfl) (by rfl) (by exact Nat.le_of_ble_eq_true rfl) (by exact Nat.le_of_ble_eq_true rfl) (by exact Nat.le_of_ble_eq_true rfl) (Nat.le_refl _) (Nat.le_refl _) ?_
  exact g_ret (eX4_placesByDeed_5 _) (Nat.le_refl _) (Nat.le_refl _) ⟨rfl, rfl⟩
set_option maxRecDepth 20000 in
theorem c_X0_pbd {σ : aH} {a b sz : Nat} {ws : List Nat} (h1 : σ[a]? = some (aO 6 [.ref b, .int (nI sz)])) (h2 : σ[b]? = some (aA ws)) (hl : ws.length = 10) (hs : sz ≤ 10) (hw : ∀ k, k < sz → ws.getD k 0 < 8) {q w : Nat} (hw2 : w < 2147483648) : MX0_placesByDeed 1 0 0 [.ref q, .ref a, .int (nI w)] σ (aPu (some (.int (nI (msk (fun k => w.testBit (ws.getD k 0) && !seenB (shW ws) k (ws.getD k 0)) sz)))) σ) := by
  refine sX0_placesByDeed (Nat.le_of_ble_eq_true rfl) ?_
  refine g_aload eX0_placesByDeed_0 rfl ?_
  refine g_iload eX0_placesByDeed_1 rfl ?_
  refine g_callVp (r := (RX6, TX6, 2)) eX0_placesByDeed_2 kX0_7 h1 (by rfl) (c_firstPlacesOf h1 h2 hl hs hw hw2) (by rfl) (by rfl) (by exact Nat.le_of_ble_eq_true rfl) (by exact Nat.le_of_ble_eq_true rfl) (by exact Nat.le_of_ble_eq_true rfl) (Nat.le_refl _) (Nat.le_refl _) ?_
  exact g_ret (eX0_placesByDeed_5 _) (Nat.le_refl _) (Nat.le_refl _) ⟨rfl, rfl⟩
set_option maxRecDepth 20000 in
theorem c_X1_pbd {σ : aH} {a b sz : Nat} {ws : List Nat} (h1 : σ[a]? = some (aO 6 [.ref b, .int (nI sz)])) (h2 : σ[b]? = some (aA ws)) (hl : ws.length = 10) (hs : sz ≤ 10) (hw : ∀ k, k < sz → ws.getD k 0 < 8) {q w : Nat} (hw2 : w < 2147483648) : MX1_placesByDeed 1 0 0 [.ref q, .ref a, .int (nI w)] σ (aPu (some (.int (nI (msk (fun k => decide (0 < k) && w.testBit (ws.getD (k - 1) 0)) sz)))) σ) := by
  refine sX1_placesByDeed (Nat.le_of_ble_eq_true rfl) ?_
  have hlt : msk (fun k => w.testBit (ws.getD k 0)) sz < 1024 := Nat.lt_of_lt_of_le (msk_lt _ _) (show 2 ^ sz ≤ 2 ^ 10 from Nat.pow_le_pow_right (by omega) hs)
  refine g_aload eX1_placesByDeed_0 rfl ?_
  refine g_aload eX1_placesByDeed_1 rfl ?_
  refine g_iload eX1_placesByDeed_2 rfl ?_
  refine g_callVp (r := (RX6, TX6, 2)) eX1_placesByDeed_3 kX1_7 h1 (by rfl) (c_placesOf h1 h2 hl hs hw hw2) (by rfl) (by rfl) (by exact Nat.le_of_ble_eq_true rfl) (by exact Nat.le_of_ble_eq_true rfl) (by exact Nat.le_of_ble_eq_true rfl) (Nat.le_refl _) (Nat.le_refl _) ?_
  refine g_callVp (r := (RX6, TX6, 2)) eX1_placesByDeed_6 kX1_13 h1 (by rfl) (c_placesBehind h1 hs hlt) (by rfl) (by rfl) (by exact Nat.le_of_ble_eq_true rfl) (by exact Nat.le_of_ble_eq_true rfl) (by exact Nat.le_of_ble_eq_true rfl) (Nat.le_refl _) (Nat.le_refl _) ?_
  exact g_ret (eX1_placesByDeed_9 _) (Nat.le_refl _) (Nat.le_refl _) ⟨by
      congr 3
      refine msk_congr (fun k hk => ?_)
      rw [msk_tb]
      by_cases h0 : 0 < k
      · simp [h0, show k - 1 < sz by omega]
      · simp [h0], rfl⟩
set_option maxRecDepth 20000 in
theorem c_X4_any {σ : aH} {q a : Nat} : MX4_placesAnyhow 0 0 0 [.ref q, .ref a] σ (aPu (some (.int (nI 0))) σ) := by
  refine sX4_placesAnyhow (Nat.le_of_ble_eq_true rfl) ?_
  refine g_push eX4_placesAnyhow_0 ?_
  exact g_ret (eX4_placesAnyhow_1 _) (Nat.le_refl _) (Nat.le_refl _) ⟨rfl, rfl⟩
set_option maxRecDepth 20000 in
theorem c_X7_any {σ : aH} {q a : Nat} : MX7_placesAnyhow 0 0 0 [.ref q, .ref a] σ (aPu (some (.int (nI 1))) σ) := by
  refine sX7_placesAnyhow (Nat.le_of_ble_eq_true rfl) ?_
  refine g_push eX7_placesAnyhow_0 ?_
  exact g_ret (eX7_placesAnyhow_1 _) (Nat.le_refl _) (Nat.le_refl _) ⟨rfl, rfl⟩
set_option maxRecDepth 20000 in
theorem c_X10_any {σ : aH} {a b sz : Nat} {ws : List Nat} (h1 : σ[a]? = some (aO 6 [.ref b, .int (nI sz)])) (h2 : σ[b]? = some (aA ws)) (hl : ws.length = 10) (hs : sz ≤ 10) (hw : ∀ k, k < sz → ws.getD k 0 < 8) {q : Nat} {fs : List Value} (hq : σ[q]? = some (aO 10 fs)) : MX10_placesAnyhow 1 0 0 [.ref q, .ref a] σ (aPu (some (.int (nI (1 ||| msk (fun k => (128).testBit (ws.getD k 0)) sz)))) σ) := by
  refine sX10_placesAnyhow (Nat.le_of_ble_eq_true rfl) ?_
  refine g_aload eX10_placesAnyhow_0 rfl ?_
  refine g_aload eX10_placesAnyhow_1 rfl ?_
  refine g_callSup (r := (RX10, TX10, 1)) eX10_placesAnyhow_2 kX10_7 hq (by rfl) (c_X7_any) (by rfl) (by rfl) (by exact Nat.le_of_ble_eq_true rfl) (by exact Nat.le_of_ble_eq_true rfl) (by exact Nat.le_of_ble_eq_true rfl) (Nat.le_refl _) (Nat.le_refl _) ?_
  refine g_aload eX10_placesAnyhow_5 rfl ?_
  refine g_push eX10_placesAnyhow_6 ?_
  refine g_callVp (r := (RX6, TX6, 2)) eX10_placesAnyhow_9 kX10_13 h1 (by rfl) (c_placesOf (w := 128) h1 h2 hl hs hw (by omega)) (by rfl) (by rfl) (by exact Nat.le_of_ble_eq_true rfl) (by exact Nat.le_of_ble_eq_true rfl) (by exact Nat.le_of_ble_eq_true rfl) (Nat.le_refl _) (Nat.le_refl _) ?_
  refine g_iorN eX10_placesAnyhow_12 ?_
  exact g_ret (eX10_placesAnyhow_13 _) (Nat.le_refl _) (Nat.le_refl _) ⟨rfl, rfl⟩
set_option maxRecDepth 20000 in
theorem c_deed {σ : aH} {q ci : Nat} {x : Int32} (hq : σ[q]? = some (aO ci [.int x])) (hc : ci = 0 ∨ ci = 1 ∨ ci = 4 ∨ ci = 7 ∨ ci = 10) : MX4_deed 0 0 0 [.ref q] σ (aPu (some (.int x)) σ) := by
  refine sX4_deed (Nat.le_of_ble_eq_true rfl) ?_
  rcases hc with rfl | rfl | rfl | rfl | rfl
  · refine g_aload eX4_deed_0 rfl ?_
    refine g_get eX4_deed_1 fX4_7_X0 hq (by rfl) ?_
    exact g_ret (eX4_deed_4 _) (Nat.le_refl _) (Nat.le_refl _) ⟨rfl, rfl⟩
  · refine g_aload eX4_deed_0 rfl ?_
    refine g_get eX4_deed_1 fX4_7_X1 hq (by rfl) ?_
    exact g_ret (eX4_deed_4 _) (Nat.le_refl _) (Nat.le_refl _) ⟨rfl, rfl⟩
  · refine g_aload eX4_deed_0 rfl ?_
    refine g_get eX4_deed_1 fX4_7_X4 hq (by rfl) ?_
    exact g_ret (eX4_deed_4 _) (Nat.le_refl _) (Nat.le_refl _) ⟨rfl, rfl⟩
  · refine g_aload eX4_deed_0 rfl ?_
    refine g_get eX4_deed_1 fX4_7_X7 hq (by rfl) ?_
    exact g_ret (eX4_deed_4 _) (Nat.le_refl _) (Nat.le_refl _) ⟨rfl, rfl⟩
  · refine g_aload eX4_deed_0 rfl ?_
    refine g_get eX4_deed_1 fX4_7_X10 hq (by rfl) ?_
    exact g_ret (eX4_deed_4 _) (Nat.le_refl _) (Nat.le_refl _) ⟨rfl, rfl⟩
set_option maxRecDepth 20000 in
theorem c_X4_kind {σ : aH} {q : Nat} : MX4_kind 0 0 0 [.ref q] σ (aPu (some (.int (nI 0))) σ) := by
  refine sX4_kind (Nat.le_of_ble_eq_true rfl) ?_
  refine g_push eX4_kind_0 ?_
  exact g_ret (eX4_kind_1 _) (Nat.le_refl _) (Nat.le_refl _) ⟨rfl, rfl⟩
set_option maxRecDepth 20000 in
theorem c_X7_kind {σ : aH} {q : Nat} : MX7_kind 0 0 0 [.ref q] σ (aPu (some (.int (nI 1))) σ) := by
  refine sX7_kind (Nat.le_of_ble_eq_true rfl) ?_
  refine g_push eX7_kind_0 ?_
  exact g_ret (eX7_kind_1 _) (Nat.le_refl _) (Nat.le_refl _) ⟨rfl, rfl⟩
set_option maxRecDepth 20000 in
theorem c_X0_kind {σ : aH} {q : Nat} : MX0_kind 0 0 0 [.ref q] σ (aPu (some (.int (nI 2))) σ) := by
  refine sX0_kind (Nat.le_of_ble_eq_true rfl) ?_
  refine g_push eX0_kind_0 ?_
  exact g_ret (eX0_kind_1 _) (Nat.le_refl _) (Nat.le_refl _) ⟨rfl, rfl⟩
set_option maxRecDepth 20000 in
theorem c_X1_kind {σ : aH} {q : Nat} : MX1_kind 0 0 0 [.ref q] σ (aPu (some (.int (nI 3))) σ) := by
  refine sX1_kind (Nat.le_of_ble_eq_true rfl) ?_
  refine g_push eX1_kind_0 ?_
  exact g_ret (eX1_kind_1 _) (Nat.le_refl _) (Nat.le_refl _) ⟨rfl, rfl⟩
set_option maxRecDepth 20000 in
theorem c_X10_kind {σ : aH} {q : Nat} : MX10_kind 0 0 0 [.ref q] σ (aPu (some (.int (nI 4))) σ) := by
  refine sX10_kind (Nat.le_of_ble_eq_true rfl) ?_
  refine g_push eX10_kind_0 ?_
  exact g_ret (eX10_kind_1 _) (Nat.le_refl _) (Nat.le_refl _) ⟨rfl, rfl⟩
def pbd (kind w : Nat) (ws : List Nat) (sz : Nat) : Nat := match kind with
  | 2 => msk (fun k => w.testBit (ws.getD k 0) && !seenB (shW ws) k (ws.getD k 0)) sz
  | 3 => msk (fun k => decide (0 < k) && w.testBit (ws.getD (k - 1) 0)) sz
  | _ => msk (fun k => w.testBit (ws.getD k 0)) sz
def pany (kind : Nat) (ws : List Nat) (sz : Nat) : Nat := match kind with
  | 1 => 1
  | 4 => 1 ||| msk (fun k => (128).testBit (ws.getD k 0)) sz
  | _ => 0
set_option maxRecDepth 20000 in
theorem g_kind {Y : MethodName} {cc : ByteArray} {nL : Nat} {rt : Option FieldType} {lv mc ms : Nat} {post : Option Value → aH → Prop} {k n pc pc' : Nat} {L : List (Option Value)} {S : List Value} {σ : aH} {q kind : Nat} {fs : List Value} (hY : Y.cls = RX11) (hd : aI3 cc pc (.invokevirtual 122) pc') (hk : kind ≤ 4) (hq : σ[q]? = some (aO (ciK kind) fs)) (hlv : 1 ≤ lv) (hsum : (S.map fun v => v.category).sum ≤ 8) (hmc : k ≤ mc) (hms : n ≤ ms) (kk : G Y cc nL rt lv mc ms post k n pc' L (.int (nI kind) :: S) σ) : G Y cc nL rt lv mc ms post k n pc L (.ref q :: S) σ := by
  rcases (show kind = 0 ∨ kind = 1 ∨ kind = 2 ∨ kind = 3 ∨ kind = 4 by omega) with rfl | rfl | rfl | rfl | rfl
  · exact g_callVp (r := (RX4, TX4, 1)) hd (hY ▸ kX11_122_X4) hq rfl (c_X4_kind) rfl rfl (by omega) (Nat.le_of_ble_eq_true rfl) hsum hmc hms kk
  · exact g_callUp (r := (RX7, TX7, 1)) hd (hY ▸ kX11_122_X7) hq rfl (c_X7_kind) rfl rfl (by omega) (Nat.le_of_ble_eq_true rfl) hsum hmc hms kk
  · exact g_callUp (r := (RX0, TX0, 1)) hd (hY ▸ kX11_122_X0) hq rfl (c_X0_kind) rfl rfl (by omega) (Nat.le_of_ble_eq_true rfl) hsum hmc hms kk
  · exact g_callUp (r := (RX1, TX1, 1)) hd (hY ▸ kX11_122_X1) hq rfl (c_X1_kind) rfl rfl (by omega) (Nat.le_of_ble_eq_true rfl) hsum hmc hms kk
  · exact g_callUp (r := (RX10, TX10, 1)) hd (hY ▸ kX11_122_X10) hq rfl (c_X10_kind) rfl rfl (by omega) (Nat.le_of_ble_eq_true rfl) hsum hmc hms kk
set_option maxRecDepth 20000 in
theorem g_deed {Y : MethodName} {cc : ByteArray} {nL : Nat} {rt : Option FieldType} {lv mc ms : Nat} {post : Option Value → aH → Prop} {k n pc pc' : Nat} {L : List (Option Value)} {S : List Value} {σ : aH} {q kind : Nat} {fs : List Value} {x : Int32} (hfs : fs = [.int x]) (hY : Y.cls = RX11) (hd : aI3 cc pc (.invokevirtual 125) pc') (hk : kind ≤ 4) (hq : σ[q]? = some (aO (ciK kind) fs)) (hlv : 1 ≤ lv) (hsum : (S.map fun v => v.category).sum ≤ 8) (hmc : k ≤ mc) (hms : n ≤ ms) (kk : G Y cc nL rt lv mc ms post k n pc' L (.int x :: S) σ) : G Y cc nL rt lv mc ms post k n pc L (.ref q :: S) σ := by
  rcases (show kind = 0 ∨ kind = 1 ∨ kind = 2 ∨ kind = 3 ∨ kind = 4 by omega) with rfl | rfl | rfl | rfl | rfl
  · exact g_callVp (r := (RX4, TX4, 1)) hd (hY ▸ kX11_125_X4) hq rfl (c_deed (by rw [hq, hfs]) (by decide)) rfl rfl (by omega) (Nat.le_of_ble_eq_true rfl) hsum hmc hms kk
  · exact g_callUp (r := (RX7, TX7, 1)) hd (hY ▸ kX11_125_X7) hq rfl (c_deed (by rw [hq, hfs]) (by decide)) rfl rfl (by omega) (Nat.le_of_ble_eq_true rfl) hsum hmc hms kk
  · exact g_callUp (r := (RX0, TX0, 1)) hd (hY ▸ kX11_125_X0) hq rfl (c_deed (by rw [hq, hfs]) (by decide)) rfl rfl (by omega) (Nat.le_of_ble_eq_true rfl) hsum hmc hms kk
  · exact g_callUp (r := (RX1, TX1, 1)) hd (hY ▸ kX11_125_X1) hq rfl (c_deed (by rw [hq, hfs]) (by decide)) rfl rfl (by omega) (Nat.le_of_ble_eq_true rfl) hsum hmc hms kk
  · exact g_callUp (r := (RX10, TX10, 1)) hd (hY ▸ kX11_125_X10) hq rfl (c_deed (by rw [hq, hfs]) (by decide)) rfl rfl (by omega) (Nat.le_of_ble_eq_true rfl) hsum hmc hms kk
set_option maxRecDepth 20000 in
theorem g_pbd {Y : MethodName} {cc : ByteArray} {nL : Nat} {rt : Option FieldType} {lv mc ms : Nat} {post : Option Value → aH → Prop} {k n pc pc' : Nat} {L : List (Option Value)} {S : List Value} {σ : aH} {q kind : Nat} {fs : List Value} {a b sz : Nat} {ws : List Nat} (h1 : σ[a]? = some (aO 6 [.ref b, .int (nI sz)])) (h2 : σ[b]? = some (aA ws)) (hl : ws.length = 10) (hs : sz ≤ 10) (hw : ∀ k, k < sz → ws.getD k 0 < 8) {w : Nat} (hw2 : w < 2147483648) (hY : Y.cls = RX11) (hd : aI3 cc pc (.invokevirtual 246) pc') (hk : kind ≤ 4) (hq : σ[q]? = some (aO (ciK kind) fs)) (hlv : 2 ≤ lv) (hsum : (S.map fun v => v.category).sum ≤ 8) (hmc : k ≤ mc) (hms : n ≤ ms) (kk : G Y cc nL rt lv mc ms post k n pc' L (.int (nI (pbd kind w ws sz)) :: S) σ) : G Y cc nL rt lv mc ms post k n pc L (.int (nI w) :: .ref a :: .ref q :: S) σ := by
  rcases (show kind = 0 ∨ kind = 1 ∨ kind = 2 ∨ kind = 3 ∨ kind = 4 by omega) with rfl | rfl | rfl | rfl | rfl
  · exact g_callVp (r := (RX4, TX4, 1)) hd (hY ▸ kX11_246_X4) hq rfl (c_X4_pbd h1 h2 hl hs hw hw2) rfl rfl (by omega) (Nat.le_of_ble_eq_true rfl) hsum hmc hms kk
  · exact g_callUp (r := (RX7, TX7, 1)) hd (hY ▸ kX11_246_X7) hq rfl (c_X4_pbd h1 h2 hl hs hw hw2) rfl rfl (by omega) (Nat.le_of_ble_eq_true rfl) hsum hmc hms kk
  · exact g_callUp (r := (RX0, TX0, 1)) hd (hY ▸ kX11_246_X0) hq rfl (c_X0_pbd h1 h2 hl hs hw hw2) rfl rfl (by omega) (Nat.le_of_ble_eq_true rfl) hsum hmc hms kk
  · exact g_callUp (r := (RX1, TX1, 1)) hd (hY ▸ kX11_246_X1) hq rfl (c_X1_pbd h1 h2 hl hs hw hw2) rfl rfl (by omega) (Nat.le_of_ble_eq_true rfl) hsum hmc hms kk
  · exact g_callUp (r := (RX10, TX10, 1)) hd (hY ▸ kX11_246_X10) hq rfl (c_X4_pbd h1 h2 hl hs hw hw2) rfl rfl (by omega) (Nat.le_of_ble_eq_true rfl) hsum hmc hms kk
set_option maxRecDepth 20000 in
theorem g_any {Y : MethodName} {cc : ByteArray} {nL : Nat} {rt : Option FieldType} {lv mc ms : Nat} {post : Option Value → aH → Prop} {k n pc pc' : Nat} {L : List (Option Value)} {S : List Value} {σ : aH} {q kind : Nat} {fs : List Value} {a b sz : Nat} {ws : List Nat} (h1 : σ[a]? = some (aO 6 [.ref b, .int (nI sz)])) (h2 : σ[b]? = some (aA ws)) (hl : ws.length = 10) (hs : sz ≤ 10) (hw : ∀ k, k < sz → ws.getD k 0 < 8) (hY : Y.cls = RX11) (hd : aI3 cc pc (.invokevirtual 250) pc') (hk : kind ≤ 4) (hq : σ[q]? = some (aO (ciK kind) fs)) (hlv : 2 ≤ lv) (hsum : (S.map fun v => v.category).sum ≤ 8) (hmc : k ≤ mc) (hms : n ≤ ms) (kk : G Y cc nL rt lv mc ms post k n pc' L (.int (nI (pany kind ws sz)) :: S) σ) : G Y cc nL rt lv mc ms post k n pc L (.ref a :: .ref q :: S) σ := by
  rcases (show kind = 0 ∨ kind = 1 ∨ kind = 2 ∨ kind = 3 ∨ kind = 4 by omega) with rfl | rfl | rfl | rfl | rfl
  · exact g_callVp (r := (RX4, TX4, 1)) hd (hY ▸ kX11_250_X4) hq rfl (c_X4_any) rfl rfl (by omega) (Nat.le_of_ble_eq_true rfl) hsum hmc hms kk
  · exact g_callUp (r := (RX7, TX7, 1)) hd (hY ▸ kX11_250_X7) hq rfl (c_X7_any) rfl rfl (by omega) (Nat.le_of_ble_eq_true rfl) hsum hmc hms kk
  · exact g_callUp (r := (RX0, TX0, 1)) hd (hY ▸ kX11_250_X0) hq rfl (c_X4_any) rfl rfl (by omega) (Nat.le_of_ble_eq_true rfl) hsum hmc hms kk
  · exact g_callUp (r := (RX1, TX1, 1)) hd (hY ▸ kX11_250_X1) hq rfl (c_X4_any) rfl rfl (by omega) (Nat.le_of_ble_eq_true rfl) hsum hmc hms kk
  · exact g_callUp (r := (RX10, TX10, 1)) hd (hY ▸ kX11_250_X10) hq rfl (c_X10_any h1 h2 hl hs hw hq) rfl rfl (by omega) (Nat.le_of_ble_eq_true rfl) hsum hmc hms kk
theorem alt_eq {kind w hid : Nat} {ws : List Nat} {sz : Nat} (hk : kind ≤ 4) (hs : sz ≤ 10) (h0 : 0 < sz) (hw : ∀ k, k < sz → ws.getD k 0 < 8) : ((pbd kind w ws sz ||| pany kind ws sz) &&& (msk (fun k => hid.testBit (ws.getD k 0)) sz ^^^ 4294967295)) = msk (altA kind w hid (shW ws)) sz := by
  have t128 : ∀ x, x < 8 → (128).testBit x = decide (x = 7) := fun x hx => co_dec (N := 8) (P := fun x => (128).testBit x = decide (x = 7)) (by decide +kernel) hx
  have hone : ∀ i, (1 : Nat).testBit i = decide (i = 0) := fun i => by
    rw [show (1 : Nat) = 2 ^ 0 from rfl, Nat.testBit_two_pow, decide_eq_decide]
    exact eq_comm
  have hlt : (pbd kind w ws sz ||| pany kind ws sz) < 2 ^ sz := by
    refine Nat.or_lt_two_pow ?_ ?_
    · unfold pbd
      split <;> exact msk_lt _ _
    · have h1 : 1 < 2 ^ sz := Nat.one_lt_two_pow (by omega)
      unfold pany
      split
      · exact h1
      · exact Nat.or_lt_two_pow h1 (msk_lt _ _)
      · omega
  refine msk_ext (Nat.lt_of_le_of_lt Nat.and_le_left hlt) (fun i hi => ?_)
  rw [Nat.testBit_and, Nat.testBit_or, Nat.testBit_xor, tb_ones i (by omega), msk_tb]
  have ht := t128 _ (hw i hi)
  rcases (show kind = 0 ∨ kind = 1 ∨ kind = 2 ∨ kind = 3 ∨ kind = 4 by omega) with rfl | rfl | rfl | rfl | rfl <;>
    simp [pbd, pany, altA, altB, msk_tb, hi, hone, ht, Bool.and_comm, Bool.or_assoc, shW, -List.getD_eq_getElem?_getD]
set_option maxRecDepth 20000 in
theorem c_hasCourt {σ : aH} {t : St} (hI : IX t σ) (hwf : WF t) : MX11_hasCourt 0 0 0 [.ref 0] σ (aPu (some (.int (nI (decide (0 < ctO t)).toNat))) σ) := by
  refine sX11_hasCourt (Nat.le_of_ble_eq_true rfl) ?_
  obtain ⟨cd, x0, x1, x2, mr, dws, dsz, bp, bw, bs, e0, e1, e2, e3, e4, e5, e20, e21, e22, e23, e24, ⟨ws, wm, dm, hid, e6, e7, e8, e9, e10, e11, e12, lws, hws, lwm, ldm, bwm, lhid, hhid, hhd⟩, hk, hki, lcd, hcd, bcd, lmr, ldws, lbp, lbw, hmen⟩ := hI
  obtain ⟨w1, w2, w3, w4, w5, ⟨w6, w7, w8, w9, w10, w11, w12⟩, w13, w14, w15, w16, w17⟩ := hwf
  refine g_aload eX11_hasCourt_0 rfl ?_
  refine g_get eX11_hasCourt_1 fX11_75_X11 e0 (by rfl) ?_
  refine g_if_leN eX11_hasCourt_4 (by omega) (fun c4 => ?_) (fun c4 => ?_)
  · refine g_push eX11_hasCourt_11 ?_
    exact g_ret (eX11_hasCourt_12 _ (by first | exact Or.inl rfl | exact Or.inr rfl)) (Nat.le_refl _) (Nat.le_refl _) ⟨by first | rw [decide_eq_true (by omega)]; rfl | rw [decide_eq_false (by omega)]; rfl, rfl⟩
  · refine g_push eX11_hasCourt_7 ?_
    refine g_goto eX11_hasCourt_8 ?_
    exact g_ret (eX11_hasCourt_12 _ (by first | exact Or.inl rfl | exact Or.inr rfl)) (Nat.le_refl _) (Nat.le_refl _) ⟨by first | rw [decide_eq_true (by omega)]; rfl | rw [decide_eq_false (by omega)]; rfl, rfl⟩
theorem ac4_ {x : Int32} {m : Nat} (c1 : ¬ x < 0) (c12 : ¬ nI m ≤ x) (hm : m ≤ 4) : ¬ nI 4 ≤ x := by
  obtain ⟨j, hj, rfl⟩ := nI_of c1
  rw [nI_leI (by omega) hj] at c12 ⊢
  omega
set_option maxRecDepth 20000 in
theorem c_isAccused {σ : aH} {t : St} (hI : IX t σ) (hwf : WF t) {x : Int32} : MX11_isAccused 0 0 0 [.ref 0, .int x] σ (fun v σ' => ((∃ j, j < (mnO (crO t)).length ∧ x = nI j ∧ v = some (.int (nI 1))) ∨ ((∀ j, j < (mnO (crO t)).length → x ≠ nI j) ∧ v = some (.int (nI 0)))) ∧ σ' = σ) := by
  refine sX11_isAccused (Nat.le_of_ble_eq_true rfl) ?_
  obtain ⟨cd, x0, x1, x2, mr, dws, dsz, bp, bw, bs, e0, e1, e2, e3, e4, e5, e20, e21, e22, e23, e24, ⟨ws, wm, dm, hid, e6, e7, e8, e9, e10, e11, e12, lws, hws, lwm, ldm, bwm, lhid, hhid, hhd⟩, hk, hki, lcd, hcd, bcd, lmr, ldws, lbp, lbw, hmen⟩ := hI
  obtain ⟨w1, w2, w3, w4, w5, ⟨w6, w7, w8, w9, w10, w11, w12⟩, w13, w14, w15, w16, w17⟩ := hwf
  refine g_iload eX11_isAccused_0 rfl ?_
  refine g_if_lt eX11_isAccused_1 (fun c1 => ?_) (fun c1 => ?_)
  · refine g_push eX11_isAccused_24 ?_
    exact g_ret (eX11_isAccused_25 _ (by first | exact Or.inl rfl | exact Or.inr rfl)) (Nat.le_refl _) (Nat.le_refl _) ⟨by first | exact hasT2_ c1 c12 (by omega) | exact hasF2_ (by first | exact Or.inl c1 | exact Or.inr c12) (by omega), rfl⟩
  · refine g_iload eX11_isAccused_4 rfl ?_
    refine g_aload eX11_isAccused_5 rfl ?_
    refine g_get eX11_isAccused_6 fX11_29_X11 e0 (by rfl) ?_
    refine g_get eX11_isAccused_9 fX11_109_X8 e6 (by rfl) ?_
    refine g_icmp_ge eX11_isAccused_12 (fun c12 => ?_) (fun c12 => ?_)
    · refine g_push eX11_isAccused_24 ?_
      exact g_ret (eX11_isAccused_25 _ (by first | exact Or.inl rfl | exact Or.inr rfl)) (Nat.le_refl _) (Nat.le_refl _) ⟨by first | exact hasT2_ c1 c12 (by omega) | exact hasF2_ (by first | exact Or.inl c1 | exact Or.inr c12) (by omega), rfl⟩
    · refine g_iload eX11_isAccused_15 rfl ?_
      refine g_push eX11_isAccused_16 ?_
      refine g_icmp_ge eX11_isAccused_17 (fun c17 => ?_) (fun c17 => ?_)
      · exact absurd c17 (ac4_ c1 c12 w9)
      · refine g_push eX11_isAccused_20 ?_
        refine g_goto eX11_isAccused_21 ?_
        exact g_ret (eX11_isAccused_25 _ (by first | exact Or.inl rfl | exact Or.inr rfl)) (Nat.le_refl _) (Nat.le_refl _) ⟨by first | exact hasT2_ c1 c12 (by omega) | exact hasF2_ (by first | exact Or.inl c1 | exact Or.inr c12) (by omega), rfl⟩
set_option maxRecDepth 20000 in
theorem c_manOf {σ : aH} {t : St} (hI : IX t σ) (hwf : WF t) {i : Nat} (hi : i < (mnO (crO t)).length) {q : Nat} {mr : List (Option Nat)} (e5 : σ[5]? = some (.inr (.inl mr))) (hlm : mr.length = 4) (hq : mr[i]? = some (some q)) : MX11_manOf 1 0 0 [.ref 0, .int (nI i)] σ (aPu (some (.ref q)) σ) := by
  refine sX11_manOf (Nat.le_of_ble_eq_true rfl) ?_
  have hI' := hI
  have hwf' := hwf
  obtain ⟨cd, x0, x1, x2, mr0, dws, dsz, bp, bw, bs, e0, e1, e2, e3, e4, e50, e20, e21, e22, e23, e24, ⟨ws, wm, dm, hid, e6, e7, e8, e9, e10, e11, e12, lws, hws, lwm, ldm, bwm, lhid, hhid, hhd⟩, hk, hki, lcd, hcd, bcd, lmr, ldws, lbp, lbw, hmen⟩ := hI
  obtain ⟨w1, w2, w3, w4, w5, ⟨w6, w7, w8, w9, w10, w11, w12⟩, w13, w14, w15, w16, w17⟩ := hwf
  refine g_aload eX11_manOf_0 rfl ?_
  refine g_iload eX11_manOf_1 rfl ?_
  refine g_callV0 (r := (RX11, TX11, 10)) eX11_manOf_2 kX11_156 e0 (by rfl) (c_isAccused hI' hwf') (by rfl) (by rfl) (by exact Nat.le_of_ble_eq_true rfl) (by exact Nat.le_of_ble_eq_true rfl) (by exact Nat.le_of_ble_eq_true rfl) (Nat.le_refl _) (Nat.le_refl _) (fun v2 σ2 hp2 hn2 => ?_)
  obtain ⟨hx, rfl⟩ := hp2
  obtain ⟨j', -, -, rfl⟩ := hx.resolve_right (fun z => z.1 i hi rfl)
  refine g_if_eqN eX11_manOf_5 (by omega) (fun c5 => absurd c5 (by decide)) (fun c5 => ?_)
  refine g_aload eX11_manOf_8 rfl ?_
  refine g_get eX11_manOf_9 fX11_22_X11 e0 (by rfl) ?_
  refine g_iload eX11_manOf_12 rfl ?_
  refine g_aald eX11_manOf_13 e5 (by rw [hlm]; exact vp_in_nI (by omega) (by omega)) (by rw [nI_clamp (by omega)]; exact hq) ?_
  refine g_goto eX11_manOf_14 ?_
  exact g_ret (eX11_manOf_18 _) (Nat.le_refl _) (Nat.le_refl _) ⟨rfl, rfl⟩
set_option maxRecDepth 20000 in
theorem c_manOfN {σ : aH} {t : St} (hI : IX t σ) (hwf : WF t) {x : Int32} (hi : ∀ j, j < (mnO (crO t)).length → x ≠ nI j) : MX11_manOf 1 0 0 [.ref 0, .int x] σ (aPu (some .null) σ) := by
  refine sX11_manOf (Nat.le_of_ble_eq_true rfl) ?_
  have hI' := hI
  have hwf' := hwf
  obtain ⟨cd, x0, x1, x2, mr, dws, dsz, bp, bw, bs, e0, e1, e2, e3, e4, e5, e20, e21, e22, e23, e24, ⟨ws, wm, dm, hid, e6, e7, e8, e9, e10, e11, e12, lws, hws, lwm, ldm, bwm, lhid, hhid, hhd⟩, hk, hki, lcd, hcd, bcd, lmr, ldws, lbp, lbw, hmen⟩ := hI
  obtain ⟨w1, w2, w3, w4, w5, ⟨w6, w7, w8, w9, w10, w11, w12⟩, w13, w14, w15, w16, w17⟩ := hwf
  refine g_aload eX11_manOf_0 rfl ?_
  refine g_iload eX11_manOf_1 rfl ?_
  refine g_callV0 (r := (RX11, TX11, 10)) eX11_manOf_2 kX11_156 e0 (by rfl) (c_isAccused hI' hwf') (by rfl) (by rfl) (by exact Nat.le_of_ble_eq_true rfl) (by exact Nat.le_of_ble_eq_true rfl) (by exact Nat.le_of_ble_eq_true rfl) (Nat.le_refl _) (Nat.le_refl _) (fun v2 σ2 hp2 hn2 => ?_)
  obtain ⟨hx, rfl⟩ := hp2
  obtain ⟨-, rfl⟩ := hx.resolve_left (fun ⟨j', z1, z2, _⟩ => hi j' z1 z2)
  refine g_if_eqN eX11_manOf_5 (by omega) (fun c5 => ?_) (fun c5 => absurd rfl c5)
  refine g_null eX11_manOf_17 ?_
  exact g_ret eX11_manOf_18N (Nat.le_refl _) (Nat.le_refl _) ⟨rfl, rfl⟩
set_option maxRecDepth 20000 in
theorem c_deedOf {σ : aH} {t : St} (hI : IX t σ) (hwf : WF t) {i : Nat} (hi : i < (mnO (crO t)).length) : MX11_deedOf 2 0 0 [.ref 0, .int (nI i)] σ (aPu (some (.int (nI (manO (crO t) i).2.1))) σ) := by
  refine sX11_deedOf (Nat.le_of_ble_eq_true rfl) ?_
  have hI' := hI
  have hwf' := hwf
  obtain ⟨cd, x0, x1, x2, mr, dws, dsz, bp, bw, bs, e0, e1, e2, e3, e4, e5, e20, e21, e22, e23, e24, ⟨ws, wm, dm, hid, e6, e7, e8, e9, e10, e11, e12, lws, hws, lwm, ldm, bwm, lhid, hhid, hhd⟩, hk, hki, lcd, hcd, bcd, lmr, ldws, lbp, lbw, hmen⟩ := hI
  obtain ⟨w1, w2, w3, w4, w5, ⟨w6, w7, w8, w9, w10, w11, w12⟩, w13, w14, w15, w16, w17⟩ := hwf
  obtain ⟨q, g1, g2, g3⟩ := hmen i hi
  have hkd := (w10 i).1
  refine g_aload eX11_deedOf_0 rfl ?_
  refine g_iload eX11_deedOf_1 rfl ?_
  refine g_callVp (r := (RX11, TX11, 10)) eX11_deedOf_2 kX11_118 e0 (by rfl) (c_manOf hI' hwf' hi e5 lmr g1) (by rfl) (by rfl) (by exact Nat.le_of_ble_eq_true rfl) (by exact Nat.le_of_ble_eq_true rfl) (by exact Nat.le_of_ble_eq_true rfl) (Nat.le_refl _) (Nat.le_refl _) ?_
  refine g_astore eX11_deedOf_5 rfl ?_
  refine g_aload eX11_deedOf_6 rfl ?_
  refine g_ifnonnull eX11_deedOf_7 ?_
  refine g_aload eX11_deedOf_14 rfl ?_
  refine g_deed (fs := _) rfl rfl eX11_deedOf_15 hkd g3 (by exact Nat.le_of_ble_eq_true rfl) (by exact Nat.le_of_ble_eq_true rfl) (Nat.le_refl _) (Nat.le_refl _) ?_
  exact g_ret (eX11_deedOf_18 _) (Nat.le_refl _) (Nat.le_refl _) ⟨rfl, rfl⟩
set_option maxRecDepth 20000 in
theorem c_hiddenBy {σ : aH} {t : St} (hI : IX t σ) (hwf : WF t) {i : Nat} (hi : i < (mnO (crO t)).length) : MX11_hiddenBy 1 0 0 [.ref 0, .int (nI i)] σ (aPu (some (.int (nI (manO (crO t) i).2.2))) σ) := by
  refine sX11_hiddenBy (Nat.le_of_ble_eq_true rfl) ?_
  have hI' := hI
  have hwf' := hwf
  obtain ⟨cd, x0, x1, x2, mr, dws, dsz, bp, bw, bs, e0, e1, e2, e3, e4, e5, e20, e21, e22, e23, e24, ⟨ws, wm, dm, hid, e6, e7, e8, e9, e10, e11, e12, lws, hws, lwm, ldm, bwm, lhid, hhid, hhd⟩, hk, hki, lcd, hcd, bcd, lmr, ldws, lbp, lbw, hmen⟩ := hI
  obtain ⟨w1, w2, w3, w4, w5, ⟨w6, w7, w8, w9, w10, w11, w12⟩, w13, w14, w15, w16, w17⟩ := hwf
  rw [← hhid i hi]
  refine g_aload eX11_hiddenBy_0 rfl ?_
  refine g_iload eX11_hiddenBy_1 rfl ?_
  refine g_callV0 (r := (RX11, TX11, 10)) eX11_hiddenBy_2 kX11_156 e0 (by rfl) (c_isAccused hI' hwf') (by rfl) (by rfl) (by exact Nat.le_of_ble_eq_true rfl) (by exact Nat.le_of_ble_eq_true rfl) (by exact Nat.le_of_ble_eq_true rfl) (Nat.le_refl _) (Nat.le_refl _) (fun v2 σ2 hp2 hn2 => ?_)
  obtain ⟨hx, rfl⟩ := hp2
  obtain ⟨j', -, -, rfl⟩ := hx.resolve_right (fun z => z.1 i hi rfl)
  refine g_if_eqN eX11_hiddenBy_5 (by omega) (fun c5 => absurd c5 (by decide)) (fun c5 => ?_)
  refine g_aload eX11_hiddenBy_8 rfl ?_
  refine g_get eX11_hiddenBy_9 fX11_29_X11 e0 (by rfl) ?_
  refine g_get eX11_hiddenBy_12 fX11_115_X8 e6 (by rfl) ?_
  refine g_iload eX11_hiddenBy_15 rfl ?_
  refine g_ialdN eX11_hiddenBy_16 e12 (by omega) (by omega) ?_
  refine g_goto eX11_hiddenBy_17 ?_
  exact g_ret (eX11_hiddenBy_21 _) (Nat.le_refl _) (Nat.le_refl _) ⟨rfl, rfl⟩
set_option maxRecDepth 20000 in
theorem c_wouldAlter {σ : aH} {t : St} (hI : IX t σ) (hwf : WF t) {i : Nat} (hi : i < (mnO (crO t)).length) {a b sz : Nat} {ws' : List Nat} (h1 : σ[a]? = some (aO 6 [.ref b, .int (nI sz)])) (h2 : σ[b]? = some (aA ws')) (hl : ws'.length = 10) (hs : sz ≤ 10) (hz : 0 < sz) (hw : ∀ k, k < sz → ws'.getD k 0 < 8) {d hh : Nat} (hd : d ≤ 4) (hh2 : hh < 2147483648) : MX11_wouldAlter 2 0 0 [.ref 0, .int (nI i), .ref a, .int (nI d), .int (nI hh)] σ (aPu (some (.int (nI (msk (altA (manO (crO t) i).1 ((nrO t).getD d 0) hh (shW ws')) sz)))) σ) := by
  refine sX11_wouldAlter (Nat.le_of_ble_eq_true rfl) ?_
  have hI' := hI
  have hwf' := hwf
  obtain ⟨cd, x0, x1, x2, mr, dws, dsz, bp, bw, bs, e0, e1, e2, e3, e4, e5, e20, e21, e22, e23, e24, ⟨ws, wm, dm, hid, e6, e7, e8, e9, e10, e11, e12, lws, hws, lwm, ldm, bwm, lhid, hhid, hhd⟩, hk, hki, lcd, hcd, bcd, lmr, ldws, lbp, lbw, hmen⟩ := hI
  obtain ⟨w1, w2, w3, w4, w5, ⟨w6, w7, w8, w9, w10, w11, w12⟩, w13, w14, w15, w16, w17⟩ := hwf
  obtain ⟨q, g1, g2, g3⟩ := hmen i hi
  have hkd := (w10 i).1
  have hnr := w4 d
  refine g_aload eX11_wouldAlter_0 rfl ?_
  refine g_iload eX11_wouldAlter_1 rfl ?_
  refine g_callVp (r := (RX11, TX11, 10)) eX11_wouldAlter_2 kX11_118 e0 (by rfl) (c_manOf hI' hwf' hi e5 lmr g1) (by rfl) (by rfl) (by exact Nat.le_of_ble_eq_true rfl) (by exact Nat.le_of_ble_eq_true rfl) (by exact Nat.le_of_ble_eq_true rfl) (Nat.le_refl _) (Nat.le_refl _) ?_
  refine g_astore eX11_wouldAlter_5 rfl ?_
  refine g_aload eX11_wouldAlter_7 rfl ?_
  refine g_ifnull eX11_wouldAlter_9 ?_
  refine g_aload eX11_wouldAlter_12 rfl ?_
  refine g_ifnull eX11_wouldAlter_13 ?_
  refine g_iload eX11_wouldAlter_16 rfl ?_
  refine g_if_ltN eX11_wouldAlter_17 (by omega) ?_
  refine g_iload eX11_wouldAlter_20 rfl ?_
  refine g_push eX11_wouldAlter_21 ?_
  refine g_icmp_ltN eX11_wouldAlter_22 (by omega) (by omega) (fun c22 => ?_) (fun c22 => by exfalso; omega)
  refine g_aload eX11_wouldAlter_27 rfl ?_
  refine g_aload eX11_wouldAlter_29 rfl ?_
  refine g_aload eX11_wouldAlter_30 rfl ?_
  refine g_get eX11_wouldAlter_31 fX11_16_X11 e0 (by rfl) ?_
  refine g_iload eX11_wouldAlter_34 rfl ?_
  refine g_ialdN eX11_wouldAlter_35 e4 (by omega) (by omega) ?_
  refine g_pbd h1 h2 hl hs hw (by omega) rfl eX11_wouldAlter_36 hkd g3 (by exact Nat.le_of_ble_eq_true rfl) (by exact Nat.le_of_ble_eq_true rfl) (Nat.le_refl _) (Nat.le_refl _) ?_
  refine g_aload eX11_wouldAlter_39 rfl ?_
  refine g_aload eX11_wouldAlter_41 rfl ?_
  refine g_any h1 h2 hl hs hw rfl eX11_wouldAlter_42 hkd g3 (by exact Nat.le_of_ble_eq_true rfl) (by exact Nat.le_of_ble_eq_true rfl) (Nat.le_refl _) (Nat.le_refl _) ?_
  refine g_iorN eX11_wouldAlter_45 ?_
  refine g_istore eX11_wouldAlter_46 rfl ?_
  refine g_iload eX11_wouldAlter_48 rfl ?_
  refine g_aload eX11_wouldAlter_50 rfl ?_
  refine g_iload eX11_wouldAlter_51 rfl ?_
  refine g_callVp (r := (RX6, TX6, 2)) eX11_wouldAlter_53 kX11_179 h1 (by rfl) (c_placesOf h1 h2 hl hs hw hh2) (by rfl) (by rfl) (by exact Nat.le_of_ble_eq_true rfl) (by exact Nat.le_of_ble_eq_true rfl) (by exact Nat.le_of_ble_eq_true rfl) (Nat.le_refl _) (Nat.le_refl _) ?_
  refine g_push (v := nI 4294967295) (nA_m1 ▸ eX11_wouldAlter_56) ?_
  refine g_ixorN eX11_wouldAlter_57 ?_
  refine g_iandN eX11_wouldAlter_58 ?_
  exact g_ret (eX11_wouldAlter_59 _) (Nat.le_refl _) (Nat.le_refl _) ⟨congrArg (fun x => some (Value.int (nI x))) (alt_eq hkd hs hz hw), rfl⟩
set_option maxRecDepth 20000 in
theorem c_alteredBy {σ : aH} {t : St} (hI : IX t σ) (hwf : WF t) {i : Nat} (hi : i < (mnO (crO t)).length) {a b sz : Nat} {ws' : List Nat} (h1 : σ[a]? = some (aO 6 [.ref b, .int (nI sz)])) (h2 : σ[b]? = some (aA ws')) (hl : ws'.length = 10) (hs : sz ≤ 10) (hz : 0 < sz) (hw : ∀ k, k < sz → ws'.getD k 0 < 8) : MX11_alteredBy 3 0 0 [.ref 0, .int (nI i), .ref a] σ (aPu (some (.int (nI (msk (altA (manO (crO t) i).1 ((nrO t).getD (manO (crO t) i).2.1 0) (manO (crO t) i).2.2 (shW ws')) sz)))) σ) := by
  refine sX11_alteredBy (Nat.le_of_ble_eq_true rfl) ?_
  have hI' := hI
  have hwf' := hwf
  obtain ⟨cd, x0, x1, x2, mr, dws, dsz, bp, bw, bs, e0, e1, e2, e3, e4, e5, e20, e21, e22, e23, e24, ⟨ws, wm, dm, hid, e6, e7, e8, e9, e10, e11, e12, lws, hws, lwm, ldm, bwm, lhid, hhid, hhd⟩, hk, hki, lcd, hcd, bcd, lmr, ldws, lbp, lbw, hmen⟩ := hI
  obtain ⟨w1, w2, w3, w4, w5, ⟨w6, w7, w8, w9, w10, w11, w12⟩, w13, w14, w15, w16, w17⟩ := hwf
  have hkd := w10 i
  refine g_aload eX11_alteredBy_0 rfl ?_
  refine g_iload eX11_alteredBy_1 rfl ?_
  refine g_aload eX11_alteredBy_2 rfl ?_
  refine g_aload eX11_alteredBy_3 rfl ?_
  refine g_iload eX11_alteredBy_4 rfl ?_
  refine g_callVp (r := (RX11, TX11, 10)) eX11_alteredBy_5 kX11_168 e0 (by rfl) (c_deedOf hI' hwf' hi) (by rfl) (by rfl) (by exact Nat.le_of_ble_eq_true rfl) (by exact Nat.le_of_ble_eq_true rfl) (by exact Nat.le_of_ble_eq_true rfl) (Nat.le_refl _) (Nat.le_refl _) ?_
  refine g_aload eX11_alteredBy_8 rfl ?_
  refine g_iload eX11_alteredBy_9 rfl ?_
  refine g_callVp (r := (RX11, TX11, 10)) eX11_alteredBy_10 kX11_137 e0 (by rfl) (c_hiddenBy hI' hwf' hi) (by rfl) (by rfl) (by exact Nat.le_of_ble_eq_true rfl) (by exact Nat.le_of_ble_eq_true rfl) (by exact Nat.le_of_ble_eq_true rfl) (Nat.le_refl _) (Nat.le_refl _) ?_
  refine g_callVp (r := (RX11, TX11, 10)) eX11_alteredBy_13 kX11_171 e0 (by rfl) (c_wouldAlter hI' hwf' hi h1 h2 hl hs hz hw hkd.2.1 (Nat.lt_trans hkd.2.2 (by decide))) (by rfl) (by rfl) (by exact Nat.le_of_ble_eq_true rfl) (by exact Nat.le_of_ble_eq_true rfl) (by exact Nat.le_of_ble_eq_true rfl) (Nat.le_refl _) (Nat.le_refl _) ?_
  exact g_ret (eX11_alteredBy_16 _) (Nat.le_refl _) (Nat.le_refl _) ⟨rfl, rfl⟩
