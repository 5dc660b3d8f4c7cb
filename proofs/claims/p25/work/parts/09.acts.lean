/-! what is told of the men on a sheet; listening; hiding; draws -/
def manM (t : St) (i : Nat) (s : Nat → Nat) (n : Nat) : Nat := msk (altA (manO (crO t) i).1 ((nrO t).getD (manO (crO t) i).2.1 0) (manO (crO t) i).2.2 s) n
def sumN (f : Nat → Nat) : Nat → Nat
  | 0 => 0
  | n + 1 => sumN f n + f n
theorem sumN_le {f : Nat → Nat} {b : Nat} (h : ∀ i, f i ≤ b) : ∀ n, sumN f n ≤ b * n
  | 0 => Nat.le_refl _
  | n + 1 => by
    have h1 := sumN_le h n
    have h2 := h n
    show sumN f n + f n ≤ b * (n + 1)
    rw [Nat.mul_succ]
    omega
def hangB (t : St) (s : Nat → Nat) (n : Nat) (i : Nat) : Bool := decide (lmO (crO t) ≤ popc (manM t i s n))
def hangN (t : St) (s : Nat → Nat) (n : Nat) : Nat := cnt (hangB t s n) (mnO (crO t)).length
def allN (t : St) (s : Nat → Nat) (n : Nat) : Nat := sumN (fun i => popc (manM t i s n)) (mnO (crO t)).length
theorem manM_lt (t : St) (i : Nat) (s : Nat → Nat) {n : Nat} (hn : n ≤ 10) : manM t i s n < 1024 := Nat.lt_of_lt_of_le (msk_lt _ _) (show 2 ^ n ≤ 2 ^ 10 from Nat.pow_le_pow_right (by omega) hn)
/-- with which deeds he would alter at a place of THE SHEET -/
def dalB (t : St) (i p : Nat) (d : Nat) : Bool := altA (manO (crO t) i).1 ((nrO t).getD d 0) (manO (crO t) i).2.2 (shW (shO (crO t))) p
def leftB (near : Nat → Nat) (kind : Nat) (hd : Nat → Hd) (a : Nat) : Nat → Nat → Bool
  | 0, _ => true
  | n + 1, d => leftB near kind hd a n d && (!decide ((hd n).1 = a) || fitB near kind (hd n) d)
abbrev hdF (c : Cr) : Nat → Hd := fun i => (hdO c).getD i h0
def lefB (t : St) (a : Nat) (d : Nat) : Bool := leftB (shW (nrO t)) (manO (crO t) a).1 (hdF (crO t)) a (hdO (crO t)).length d
def lefM (t : St) (a : Nat) : Nat := msk (lefB t a) 5
def oI : Option Nat → Int32
  | none => -1
  | some k => nI k
def lstn (w : Nat → Nat) : Nat → Option Nat × Nat
  | 0 => (none, 6)
  | k + 1 => if w k < (lstn w k).2 then (some k, w k) else lstn w k
def wrs (l a : Nat → Bool) : Nat := max (cnt (fun d => l d && a d) 5) (cnt (fun d => l d && !a d) 5)
def lisF (t : St) (a : Nat) : Int32 := if lefM t a = 0 then -1 else oI (lstn (fun k => wrs (lefB t a) (dalB t a k)) (shO (crO t)).length).1
theorem lstn_le (w : Nat → Nat) : ∀ n, (lstn w n).2 ≤ 6
  | 0 => Nat.le_refl _
  | n + 1 => by
    have h := lstn_le w n
    unfold lstn
    split
    · show w n ≤ 6
      omega
    · exact h
theorem dleft_eq {near : Nat → Nat} {kd : Nat → Nat} {hd : Nat → Hd} {wm dm : Nat → Nat} (a : Nat) : ∀ n, (∀ i, i < n → wm i = (hd i).1 ∧ dm i = msk (fitB near (kd (hd i).1) (hd i)) 5) → dleft wm dm a n = msk (leftB near (kd a) hd a n) 5
  | 0, _ => by
    show 31 = msk (leftB near (kd a) hd a 0) 5
    have e := msk_congr (f := leftB near (kd a) hd a 0) (g := fun _ => true) (n := 5) (fun i _ => rfl)
    rw [e]
    decide
  | n + 1, h => by
    have ih := dleft_eq a n (fun i hi => h i (by omega))
    obtain ⟨h1, h2⟩ := h n (by omega)
    unfold dleft
    rw [ih, h1, h2]
    by_cases hw : (hd n).1 = a
    · rw [if_pos hw, hw]
      apply Nat.eq_of_testBit_eq
      intro i
      rw [Nat.testBit_and, msk_tb, msk_tb, msk_tb]
      simp only [leftB, hw, decide_true, Bool.not_true, Bool.false_or]
      by_cases hi : i < 5 <;> simp [hi]
    · rw [if_neg hw]
      exact msk_congr (fun i _ => by simp [leftB, hw])
theorem popc_and {l a : Nat → Bool} : popc (msk l 5 &&& msk a 5) = cnt (fun d => l d && a d) 5 := by
  rw [← popc_msk (f := fun d => l d && a d) (n := 5) (by decide)]
  congr 1
  refine msk_ext (Nat.lt_of_le_of_lt Nat.and_le_left (msk_lt _ _)) (fun i hi => ?_)
  rw [Nat.testBit_and, msk_tb, msk_tb]
  simp [hi]
theorem popc_andn {l a : Nat → Bool} : popc (msk l 5 &&& (msk a 5 ^^^ 4294967295)) = cnt (fun d => l d && !a d) 5 := by
  rw [← popc_msk (f := fun d => l d && !a d) (n := 5) (by decide)]
  congr 1
  refine msk_ext (Nat.lt_of_le_of_lt Nat.and_le_left (msk_lt _ _)) (fun i hi => ?_)
  rw [Nat.testBit_and, Nat.testBit_xor, tb_ones i (by omega), msk_tb, msk_tb]
  simp [hi]
def hvy (wt : Nat → Nat) : Nat → Option Nat × Nat
  | 0 => (none, 0)
  | k + 1 => if (hvy wt k).2 < wt k then (some k, wt k) else hvy wt k
theorem hvy_le {wt : Nat → Nat} {b : Nat} (h : ∀ k, wt k ≤ b) : ∀ n, (hvy wt n).2 ≤ b ∧ ∀ k, (hvy wt n).1 = some k → k < n
  | 0 => ⟨Nat.zero_le _, fun k h => by cases h⟩
  | n + 1 => by
    obtain ⟨h1, h2⟩ := hvy_le h n
    unfold hvy
    split
    · exact ⟨h n, fun k e => by cases e; omega⟩
    · exact ⟨h1, fun k e => Nat.lt_succ_of_lt (h2 k e)⟩
abbrev plM (s : Nat → Nat) (n h : Nat) : Nat := msk (fun k => h.testBit (s k)) n
def hvyW (s : Nat → Nat) (n m : Nat) : Option Nat := (hvy (fun w => popc (m &&& plM s n (2 ^ w))) 8).1
theorem hvyW_lt {s : Nat → Nat} {n m k : Nat} (h : hvyW s n m = some k) : k < 8 := (hvy_le (fun w => popc_le _) 8).2 k h
def wth (s : Nat → Nat) (n m : Nat) : Nat → Nat → Nat
  | 0, h => h
  | d + 1, h => match hvyW s n (m &&& (plM s n h ^^^ 4294967295)) with
    | none => h
    | some w => wth s n m d (h ||| 2 ^ w)
theorem wth_none {s : Nat → Nat} {n m d h : Nat} (e : hvyW s n (m &&& (plM s n h ^^^ 4294967295)) = none) : wth s n m (d + 1) h = h := by simp only [wth, e]
theorem wth_some {s : Nat → Nat} {n m d h w : Nat} (e : hvyW s n (m &&& (plM s n h ^^^ 4294967295)) = some w) : wth s n m (d + 1) h = wth s n m d (h ||| 2 ^ w) := by simp only [wth, e]
def lcg (x : Nat) : Nat := (1103515245 * x + 12345) % 2147483648
def sdN (x : Nat) : Nat → Nat
  | 0 => x
  | n + 1 => lcg (sdN x n)
def drw (x k : Nat) : Nat := sdN x (k + 1) / 65536 % 8
theorem sdN_lt {x : Nat} (h : x < 2147483648) : ∀ n, sdN x n < 2147483648
  | 0 => h
  | n + 1 => Nat.mod_lt _ (by decide)
theorem sdN_add (x : Nat) (a : Nat) : ∀ b, sdN x (a + b) = sdN (sdN x a) b
  | 0 => rfl
  | b + 1 => by
    show lcg (sdN x (a + b)) = lcg (sdN (sdN x a) b)
    rw [sdN_add x a b]
theorem lcg_int (x : Nat) : (nI 1103515245 * nI x + nI 12345) &&& nI 2147483647 = nI (lcg x) := by
  rw [pk_mul, nI_add, nA_and, show (2147483647 : Nat) = 2 ^ 31 - 1 from rfl, Nat.and_two_pow_sub_one_eq_mod]
  rfl
/-- the same heap but at these places -/
def EqO (l : List Nat) (σ σ' : aH) : Prop := σ'.length = σ.length ∧ ∀ j, j ∉ l → σ'[j]? = σ[j]?
theorem EqO.rf {l : List Nat} {σ : aH} : EqO l σ σ := ⟨rfl, fun _ _ => rfl⟩
theorem EqO.st {l : List Nat} {σ τ : aH} {i : Nat} {c : aT} (h : EqO l σ τ) (hi : i ∈ l) : EqO l σ (τ.set i c) := ⟨by rw [List.length_set]; exact h.1, fun j hj => by rw [List.getElem?_set_ne (fun e : i = j => hj (by rw [← e]; exact hi))]; exact h.2 j hj⟩
theorem EqO.at {l : List Nat} {σ τ : aH} {i : Nat} {c : aT} (h : EqO l σ τ) (hi : i ∉ l) (hc : σ[i]? = some c) : τ[i]? = some c := (h.2 i hi).trans hc
theorem EqO.tr {l : List Nat} {σ τ υ : aH} (h : EqO l σ τ) (h2 : EqO l τ υ) : EqO l σ υ := ⟨h2.1.trans h.1, fun j hj => (h2.2 j hj).trans (h.2 j hj)⟩
theorem EqO.fr {l : List Nat} {σ τ : aH} (h : EqO l σ τ) (hl : ∀ i ∈ l, i < 25) : FrX σ τ := ⟨Nat.le_of_eq h.1.symm, fun j h1 _ => h.2 j (fun hj => by have := hl j hj; omega)⟩
theorem IS.at {o : Nat} {near : Nat → Nat} {c : Cr} {σ τ : aH} (h : IS o near c σ) (e : ∀ j, o ≤ j → j < o + 7 → τ[j]? = σ[j]?) : IS o near c τ := by
  obtain ⟨ws, wm, dm, hid, e6, e7, e8, e9, e10, e11, e12, r⟩ := h
  exact ⟨ws, wm, dm, hid, by rw [e _ (by omega) (by omega)]; exact e6, by rw [e _ (by omega) (by omega)]; exact e7, by rw [e _ (by omega) (by omega)]; exact e8, by rw [e _ (by omega) (by omega)]; exact e9, by rw [e _ (by omega) (by omega)]; exact e10, by rw [e _ (by omega) (by omega)]; exact e11, by rw [e _ (by omega) (by omega)]; exact e12, r⟩
theorem ISh.at {o : Nat} {σ τ : aH} (h : ISh o σ) (e : ∀ j, o ≤ j → j < o + 7 → τ[j]? = σ[j]?) : ISh o τ := by
  obtain ⟨ws, wm, dm, hid, y0, y1, y2, y3, y4, e6, e7, e8, e9, e10, e11, e12, r⟩ := h
  exact ⟨ws, wm, dm, hid, y0, y1, y2, y3, y4, by rw [e _ (by omega) (by omega)]; exact e6, by rw [e _ (by omega) (by omega)]; exact e7, by rw [e _ (by omega) (by omega)]; exact e8, by rw [e _ (by omega) (by omega)]; exact e9, by rw [e _ (by omega) (by omega)]; exact e10, by rw [e _ (by omega) (by omega)]; exact e11, by rw [e _ (by omega) (by omega)]; exact e12, r⟩
theorem IS.sh {o : Nat} {near : Nat → Nat} {c : Cr} {σ : aH} (h : IS o near c σ) : ISh o σ := by
  obtain ⟨ws, wm, dm, hid, e6, e7, e8, e9, e10, e11, e12, l1, -, l2, l3, -, l4, -⟩ := h
  exact ⟨ws, wm, dm, hid, _, _, _, _, _, e6, e7, e8, e9, e10, e11, e12, l1, l2, l3, l4⟩
/-- THE WALK, the drawn sheet and the seeker's rows are nobody's business -/
theorem IX.junk {t : St} {σ τ : aH} (hI : IX t σ) (h : EqO [3, 20, 21, 22, 23, 24] σ τ) {x0 x1 x2 dsz bs : Int32} {dws bp bw : List Nat} (g3 : τ[3]? = some (aO 9 [.int x0, .int x1, .int x2])) (g20 : τ[20]? = some (aO 6 [.ref 21, .int dsz])) (g21 : τ[21]? = some (aA dws)) (g22 : τ[22]? = some (aO 2 [.ref 23, .ref 24, .int bs])) (g23 : τ[23]? = some (aA bp)) (g24 : τ[24]? = some (aA bw)) (l1 : dws.length = 10) (l2 : bp.length = 8) (l3 : bw.length = 4) : IX t τ := by
  obtain ⟨cd, y0, y1, y2, mr, dws0, dsz0, bp0, bw0, bs0, e0, e1, e2, e3, e4, e5, e20, e21, e22, e23, e24, hn, hk, hki, lcd, hcd, bcd, lmr, ldws, lbp, lbw, hmen⟩ := hI
  refine ⟨cd, x0, x1, x2, mr, dws, dsz, bp, bw, bs, h.at (by decide) e0, h.at (by decide) e1, h.at (by decide) e2, g3, h.at (by decide) e4, h.at (by decide) e5, g20, g21, g22, g23, g24, hn.at (fun j a b => h.2 j ?_), hk.at (fun j a b => h.2 j ?_), fun c hc => (hki c hc).at (fun j a b => h.2 j ?_), lcd, hcd, bcd, lmr, l1, l2, l3, fun i hi => ?_⟩
  · simp only [List.mem_cons, List.not_mem_nil, or_false]; omega
  · simp only [List.mem_cons, List.not_mem_nil, or_false]; omega
  · simp only [List.mem_cons, List.not_mem_nil, or_false]; omega
  · obtain ⟨q, a1, a2, a3⟩ := hmen i hi
    exact ⟨q, a1, a2, h.at (by simp only [List.mem_cons, List.not_mem_nil, or_false]; omega) a3⟩
set_option maxRecDepth 20000 in
theorem c_hangingAt {σ : aH} {t : St} (hI : IX t σ) (hwf : WF t) {a b sz : Nat} {ws' : List Nat} (h1 : σ[a]? = some (aO 6 [.ref b, .int (nI sz)])) (h2 : σ[b]? = some (aA ws')) (hl : ws'.length = 10) (hs : sz ≤ 10) (hz : 0 < sz ∨ (mnO (crO t)).length = 0) (hw : ∀ k, k < sz → ws'.getD k 0 < 8) : MX11_hangingAt 4 0 0 [.ref 0, .ref a] σ (aPu (some (.int (nI (hangN t (shW ws') sz)))) σ) := by
  refine sX11_hangingAt (Nat.le_of_ble_eq_true rfl) ?_
  have hI' := hI
  have hwf' := hwf
  obtain ⟨cd, x0, x1, x2, mr, dws, dsz, bp, bw, bs, e0, e1, e2, e3, e4, e5, e20, e21, e22, e23, e24, ⟨ws, wm, dm, hid, e6, e7, e8, e9, e10, e11, e12, lws, hws, lwm, ldm, bwm, lhid, hhid, hhd⟩, hk, hki, lcd, hcd, bcd, lmr, ldws, lbp, lbw, hmen⟩ := hI
  obtain ⟨w1, w2, w3, w4, w5, ⟨w6, w7, w8, w9, w10, w11, w12⟩, w13, w14, w15, w16, w17⟩ := hwf
  have key : ∀ d i, i + d = (mnO (crO t)).length → GX11_hangingAt 4 0 0 (aPu (some (.int (nI (hangN t (shW ws') sz)))) σ) 0 0 4 [some (.ref 0), some (.ref a), some (.int (nI (cnt (hangB t (shW ws') sz) i))), some (.int (nI i))] [] σ := by
    intro d
    induction d with
    | zero =>
      intro i hi
      refine g_iload eX11_hangingAt_4 rfl ?_
      refine g_aload eX11_hangingAt_5 rfl ?_
      refine g_get eX11_hangingAt_6 fX11_29_X11 e0 (by rfl) ?_
      refine g_get eX11_hangingAt_9 fX11_109_X8 e6 (by rfl) ?_
      refine g_icmp_geN eX11_hangingAt_12 (by omega) (by omega) (fun c12 => ?_) (fun c12 => by exfalso; omega)
      refine g_iload eX11_hangingAt_43 rfl ?_
      exact g_ret (eX11_hangingAt_44 _) (Nat.le_refl _) (Nat.le_refl _) ⟨by rw [show i = (mnO (crO t)).length by omega]; rfl, rfl⟩
    | succ d ih =>
      intro i hi
      have hi2 : i < (mnO (crO t)).length := by omega
      have hm := manM_lt t i (shW ws') hs
      have hp := popc_le (manM t i (shW ws') sz)
      have hc := cnt_le (hangB t (shW ws') sz) i
      have ih2 := ih (i + 1) (by omega)
      refine g_iload eX11_hangingAt_4 rfl ?_
      refine g_aload eX11_hangingAt_5 rfl ?_
      refine g_get eX11_hangingAt_6 fX11_29_X11 e0 (by rfl) ?_
      refine g_get eX11_hangingAt_9 fX11_109_X8 e6 (by rfl) ?_
      refine g_icmp_geN eX11_hangingAt_12 (by omega) (by omega) (fun c12 => by exfalso; omega) (fun c12 => ?_)
      refine g_aload eX11_hangingAt_15 rfl ?_
      refine g_iload eX11_hangingAt_16 rfl ?_
      refine g_aload eX11_hangingAt_17 rfl ?_
      refine g_callVp (r := (RX11, TX11, 10)) eX11_hangingAt_18 kX11_128 e0 (by rfl) (c_alteredBy hI' hwf' hi2 h1 h2 hl hs (hz.resolve_right (by omega)) hw) (by rfl) (by rfl) (by exact Nat.le_of_ble_eq_true rfl) (by exact Nat.le_of_ble_eq_true rfl) (by exact Nat.le_of_ble_eq_true rfl) (Nat.le_refl _) (Nat.le_refl _) ?_
      refine g_callSp eX11_hangingAt_21 kX11_132 (c_bitCount hm) (by rfl) (by rfl) (by exact Nat.le_of_ble_eq_true rfl) (by exact Nat.le_of_ble_eq_true rfl) (by exact Nat.le_of_ble_eq_true rfl) (Nat.le_refl _) (Nat.le_refl _) ?_
      refine g_aload eX11_hangingAt_24 rfl ?_
      refine g_get eX11_hangingAt_25 fX11_29_X11 e0 (by rfl) ?_
      refine g_get eX11_hangingAt_28 fX11_103_X8 e6 (by rfl) ?_
      refine g_icmp_ltN eX11_hangingAt_31 (Nat.lt_of_le_of_lt hp (by decide)) (by omega) (fun c31 => ?_) (fun c31 => ?_)
      · refine g_iincN eX11_hangingAt_37 rfl rfl ?_
        refine g_goto eX11_hangingAt_40 ?_
        first
          | (have e2 : cnt (hangB t (shW ws') sz) (i + 1) = cnt (hangB t (shW ws') sz) i + 1 := congrArg (fun b : Bool => cnt (hangB t (shW ws') sz) i + b.toNat) (decide_eq_true c31)
             rw [e2] at ih2; exact ih2)
          | (have e2 : cnt (hangB t (shW ws') sz) (i + 1) = cnt (hangB t (shW ws') sz) i := congrArg (fun b : Bool => cnt (hangB t (shW ws') sz) i + b.toNat) (decide_eq_false (Nat.not_le.mpr c31))
             rw [e2] at ih2; exact ih2)
      · refine g_iincN eX11_hangingAt_34 rfl rfl ?_
        refine g_iincN eX11_hangingAt_37 rfl rfl ?_
        refine g_goto eX11_hangingAt_40 ?_
        first
          | (have e2 : cnt (hangB t (shW ws') sz) (i + 1) = cnt (hangB t (shW ws') sz) i + 1 := congrArg (fun b : Bool => cnt (hangB t (shW ws') sz) i + b.toNat) (decide_eq_true c31)
             rw [e2] at ih2; exact ih2)
          | (have e2 : cnt (hangB t (shW ws') sz) (i + 1) = cnt (hangB t (shW ws') sz) i := congrArg (fun b : Bool => cnt (hangB t (shW ws') sz) i + b.toNat) (decide_eq_false (Nat.not_le.mpr c31))
             rw [e2] at ih2; exact ih2)
  refine g_push eX11_hangingAt_0 ?_
  refine g_istore eX11_hangingAt_1 rfl ?_
  refine g_push eX11_hangingAt_2 ?_
  refine g_istore eX11_hangingAt_3 rfl ?_
  exact key (mnO (crO t)).length 0 (by omega)
set_option maxRecDepth 20000 in
theorem c_allAltering {σ : aH} {t : St} (hI : IX t σ) (hwf : WF t) {a b sz : Nat} {ws' : List Nat} (h1 : σ[a]? = some (aO 6 [.ref b, .int (nI sz)])) (h2 : σ[b]? = some (aA ws')) (hl : ws'.length = 10) (hs : sz ≤ 10) (hz : 0 < sz ∨ (mnO (crO t)).length = 0) (hw : ∀ k, k < sz → ws'.getD k 0 < 8) : MX11_allAltering 4 0 0 [.ref 0, .ref a] σ (aPu (some (.int (nI (allN t (shW ws') sz)))) σ) := by
  refine sX11_allAltering (Nat.le_of_ble_eq_true rfl) ?_
  have hI' := hI
  have hwf' := hwf
  obtain ⟨cd, x0, x1, x2, mr, dws, dsz, bp, bw, bs, e0, e1, e2, e3, e4, e5, e20, e21, e22, e23, e24, ⟨ws, wm, dm, hid, e6, e7, e8, e9, e10, e11, e12, lws, hws, lwm, ldm, bwm, lhid, hhid, hhd⟩, hk, hki, lcd, hcd, bcd, lmr, ldws, lbp, lbw, hmen⟩ := hI
  obtain ⟨w1, w2, w3, w4, w5, ⟨w6, w7, w8, w9, w10, w11, w12⟩, w13, w14, w15, w16, w17⟩ := hwf
  have key : ∀ d i, i + d = (mnO (crO t)).length → GX11_allAltering 4 0 0 (aPu (some (.int (nI (allN t (shW ws') sz)))) σ) 0 0 4 [some (.ref 0), some (.ref a), some (.int (nI (sumN (fun i => popc (manM t i (shW ws') sz)) i))), some (.int (nI i))] [] σ := by
    intro d
    induction d with
    | zero =>
      intro i hi
      refine g_iload eX11_allAltering_4 rfl ?_
      refine g_aload eX11_allAltering_5 rfl ?_
      refine g_get eX11_allAltering_6 fX11_29_X11 e0 (by rfl) ?_
      refine g_get eX11_allAltering_9 fX11_109_X8 e6 (by rfl) ?_
      refine g_icmp_geN eX11_allAltering_12 (by omega) (by omega) (fun c12 => ?_) (fun c12 => by exfalso; omega)
      refine g_iload eX11_allAltering_33 rfl ?_
      exact g_ret (eX11_allAltering_34 _) (Nat.le_refl _) (Nat.le_refl _) ⟨by rw [show i = (mnO (crO t)).length by omega]; rfl, rfl⟩
    | succ d ih =>
      intro i hi
      have hi2 : i < (mnO (crO t)).length := by omega
      have hm := manM_lt t i (shW ws') hs
      refine g_iload eX11_allAltering_4 rfl ?_
      refine g_aload eX11_allAltering_5 rfl ?_
      refine g_get eX11_allAltering_6 fX11_29_X11 e0 (by rfl) ?_
      refine g_get eX11_allAltering_9 fX11_109_X8 e6 (by rfl) ?_
      refine g_icmp_geN eX11_allAltering_12 (by omega) (by omega) (fun c12 => by exfalso; omega) (fun c12 => ?_)
      refine g_iload eX11_allAltering_15 rfl ?_
      refine g_aload eX11_allAltering_16 rfl ?_
      refine g_iload eX11_allAltering_17 rfl ?_
      refine g_aload eX11_allAltering_18 rfl ?_
      refine g_callVp (r := (RX11, TX11, 10)) eX11_allAltering_19 kX11_128 e0 (by rfl) (c_alteredBy hI' hwf' hi2 h1 h2 hl hs (hz.resolve_right (by omega)) hw) (by rfl) (by rfl) (by exact Nat.le_of_ble_eq_true rfl) (by exact Nat.le_of_ble_eq_true rfl) (by exact Nat.le_of_ble_eq_true rfl) (Nat.le_refl _) (Nat.le_refl _) ?_
      refine g_callSp eX11_allAltering_22 kX11_132 (c_bitCount hm) (by rfl) (by rfl) (by exact Nat.le_of_ble_eq_true rfl) (by exact Nat.le_of_ble_eq_true rfl) (by exact Nat.le_of_ble_eq_true rfl) (Nat.le_refl _) (Nat.le_refl _) ?_
      refine g_iaddN eX11_allAltering_25 ?_
      refine g_istore eX11_allAltering_26 rfl ?_
      refine g_iincN eX11_allAltering_27 rfl rfl ?_
      refine g_goto eX11_allAltering_30 ?_
      exact ih (i + 1) (by omega)
  refine g_push eX11_allAltering_0 ?_
  refine g_istore eX11_allAltering_1 rfl ?_
  refine g_push eX11_allAltering_2 ?_
  refine g_istore eX11_allAltering_3 rfl ?_
  exact key (mnO (crO t)).length 0 (by omega)
theorem shw_eq {c : Cr} {ws : List Nat} (hws : ∀ k, k < (shO c).length → ws.getD k 0 = (shO c).getD k 0) (hw : ∀ k, (shO c).getD k 0 < 8) : ∀ k, k < (shO c).length → ws.getD k 0 < 8 := fun k hk => by rw [hws k hk]; exact hw k
theorem seenB_congr {s u : Nat → Nat} : ∀ {n x}, (∀ k, k < n → s k = u k) → seenB s n x = seenB u n x
  | 0, _, _ => rfl
  | n + 1, x, h => by
    unfold seenB
    rw [seenB_congr (fun k hk => h k (by omega)), h n (by omega)]
theorem altB_congr {kind w k : Nat} {s u : Nat → Nat} (h : ∀ j, j ≤ k → s j = u j) : altB kind w s k = altB kind w u k := by
  unfold altB
  rw [h k (Nat.le_refl _)]
  split
  · rfl
  · rw [seenB_congr (fun j hj => h j (by omega))]
  · rw [h (k - 1) (by omega)]
  · rfl
  · rfl
theorem altA_congr {kind w hid k : Nat} {s u : Nat → Nat} (h : ∀ j, j ≤ k → s j = u j) : altA kind w hid s k = altA kind w hid u k := by
  unfold altA
  rw [altB_congr h, h k (Nat.le_refl _)]
theorem mskA_congr {kind w hid n : Nat} {s u : Nat → Nat} (h : ∀ j, j < n → s j = u j) : msk (altA kind w hid s) n = msk (altA kind w hid u) n := msk_congr (fun k hk => altA_congr (fun j hj => h j (by omega)))
theorem manM_congr {t : St} {i n : Nat} {s u : Nat → Nat} (h : ∀ j, j < n → s j = u j) : manM t i s n = manM t i u n := mskA_congr h
theorem hangN_congr {t : St} {n : Nat} {s u : Nat → Nat} (h : ∀ j, j < n → s j = u j) : hangN t s n = hangN t u n := cnt_congr (fun i _ => by unfold hangB; rw [manM_congr h])
theorem sumN_congr {f g : Nat → Nat} : ∀ {n}, (∀ i, i < n → f i = g i) → sumN f n = sumN g n
  | 0, _ => rfl
  | n + 1, h => by
    show sumN f n + f n = sumN g n + g n
    rw [sumN_congr (fun i hi => h i (by omega)), h n (by omega)]
theorem allN_congr {t : St} {n : Nat} {s u : Nat → Nat} (h : ∀ j, j < n → s j = u j) : allN t s n = allN t u n := sumN_congr (fun i _ => by rw [manM_congr h])
set_option maxRecDepth 20000 in
theorem c_deedsAltering {σ : aH} {t : St} (hI : IX t σ) (hwf : WF t) {i : Nat} (hi : i < (mnO (crO t)).length) {p : Nat} (hp : p < (shO (crO t)).length) : MX11_deedsAltering 3 0 0 [.ref 0, .int (nI i), .int (nI p)] σ (aPu (some (.int (nI (msk (dalB t i p) 5)))) σ) := by
  refine sX11_deedsAltering (Nat.le_of_ble_eq_true rfl) ?_
  have hI' := hI
  have hwf' := hwf
  obtain ⟨cd, x0, x1, x2, mr, dws, dsz, bp, bw, bs, e0, e1, e2, e3, e4, e5, e20, e21, e22, e23, e24, ⟨ws, wm, dm, hid, e6, e7, e8, e9, e10, e11, e12, lws, hws, lwm, ldm, bwm, lhid, hhid, hhd⟩, hk, hki, lcd, hcd, bcd, lmr, ldws, lbp, lbw, hmen⟩ := hI
  obtain ⟨w1, w2, w3, w4, w5, ⟨w6, w7, w8, w9, w10, w11, w12⟩, w13, w14, w15, w16, w17⟩ := hwf
  have hz : 0 < (shO (crO t)).length := by omega
  have hkd := w10 i
  have key : ∀ d j, j + d = 5 → ∀ z, GX11_deedsAltering 3 0 0 (aPu (some (.int (nI (msk (dalB t i p) 5)))) σ) 0 0 5 [some (.ref 0), some (.int (nI i)), some (.int (nI p)), some (.int (nI (msk (dalB t i p) j))), some (.int (nI j)), z] [] σ := by
    intro d
    induction d with
    | zero =>
      intro j hj z
      obtain rfl : j = 5 := by omega
      refine g_iload eX11_deedsAltering_5 rfl ?_
      refine g_push eX11_deedsAltering_7 ?_
      refine g_icmp_geN eX11_deedsAltering_8 (by omega) (by omega) (fun c8 => ?_) (fun c8 => by exfalso; omega)
      refine g_iload eX11_deedsAltering_50 rfl ?_
      exact g_ret (eX11_deedsAltering_51 _) (Nat.le_refl _) (Nat.le_refl _) ⟨rfl, rfl⟩
    | succ d ih =>
      intro j hj z
      have hlt : msk (altA (manO (crO t) i).1 ((nrO t).getD j 0) (manO (crO t) i).2.2 (shW ws)) (shO (crO t)).length < 1024 := Nat.lt_of_lt_of_le (msk_lt _ _) (show 2 ^ _ ≤ 2 ^ 10 from Nat.pow_le_pow_right (by omega) w6)
      refine g_iload eX11_deedsAltering_5 rfl ?_
      refine g_push eX11_deedsAltering_7 ?_
      refine g_icmp_geN eX11_deedsAltering_8 (by omega) (by omega) (fun c8 => by exfalso; omega) (fun c8 => ?_)
      refine g_aload eX11_deedsAltering_11 rfl ?_
      refine g_iload eX11_deedsAltering_12 rfl ?_
      refine g_aload eX11_deedsAltering_13 rfl ?_
      refine g_get eX11_deedsAltering_14 fX11_29_X11 e0 (by rfl) ?_
      refine g_get eX11_deedsAltering_17 fX11_79_X8 e6 (by rfl) ?_
      refine g_iload eX11_deedsAltering_20 rfl ?_
      refine g_aload eX11_deedsAltering_22 rfl ?_
      refine g_iload eX11_deedsAltering_23 rfl ?_
      refine g_callVp (r := (RX11, TX11, 10)) eX11_deedsAltering_24 kX11_137 e0 (by rfl) (c_hiddenBy hI' hwf' hi) (by rfl) (by rfl) (by exact Nat.le_of_ble_eq_true rfl) (by exact Nat.le_of_ble_eq_true rfl) (by exact Nat.le_of_ble_eq_true rfl) (Nat.le_refl _) (Nat.le_refl _) ?_
      refine g_callVp (r := (RX11, TX11, 10)) eX11_deedsAltering_27 kX11_171 e0 (by rfl) (c_wouldAlter (d := j) hI' hwf' hi e7 e8 lws w6 hz (shw_eq hws w7) (by omega) (Nat.lt_trans hkd.2.2 (by decide))) (by rfl) (by rfl) (by exact Nat.le_of_ble_eq_true rfl) (by exact Nat.le_of_ble_eq_true rfl) (by exact Nat.le_of_ble_eq_true rfl) (Nat.le_refl _) (Nat.le_refl _) ?_
      refine g_istore eX11_deedsAltering_30 rfl ?_
      refine g_iload eX11_deedsAltering_32 rfl ?_
      refine g_iload eX11_deedsAltering_33 rfl ?_
      refine g_iload eX11_deedsAltering_35 rfl ?_
      refine g_ishrN eX11_deedsAltering_36 (by omega) (by omega) ?_
      refine g_push eX11_deedsAltering_37 ?_
      refine g_iandN eX11_deedsAltering_38 ?_
      refine g_iload eX11_deedsAltering_39 rfl ?_
      refine g_ishlN eX11_deedsAltering_41 (by omega) (bit_shl _ _ (by omega)) ?_
      refine g_iorN eX11_deedsAltering_42 ?_
      refine g_istore eX11_deedsAltering_43 rfl ?_
      refine g_iincN eX11_deedsAltering_44 rfl rfl ?_
      refine g_goto eX11_deedsAltering_47 ?_
      rw [nbit, msk_tb, decide_eq_true hp, Bool.true_and, altA_congr (u := shW (shO (crO t))) (fun q hq => hws q (by omega))]
      exact ih (j + 1) (by omega) _
  refine g_push eX11_deedsAltering_0 ?_
  refine g_istore eX11_deedsAltering_1 rfl ?_
  refine g_push eX11_deedsAltering_2 ?_
  refine g_istore eX11_deedsAltering_3 rfl ?_
  exact key 5 0 (by omega) _
set_option maxRecDepth 20000 in
theorem c_placeToListen {σ : aH} {t : St} (hI : IX t σ) (hwf : WF t) {i : Nat} (hi : i < (mnO (crO t)).length) : MX11_placeToListen 4 0 0 [.ref 0, .int (nI i)] σ (aPu (some (.int (lisF t i))) σ) := by
  refine sX11_placeToListen (Nat.le_of_ble_eq_true rfl) ?_
  have hI' := hI
  have hwf' := hwf
  obtain ⟨cd, x0, x1, x2, mr, dws, dsz, bp, bw, bs, e0, e1, e2, e3, e4, e5, e20, e21, e22, e23, e24, ⟨ws, wm, dm, hid, e6, e7, e8, e9, e10, e11, e12, lws, hws, lwm, ldm, bwm, lhid, hhid, hhd⟩, hk, hki, lcd, hcd, bcd, lmr, ldws, lbp, lbw, hmen⟩ := hI
  obtain ⟨w1, w2, w3, w4, w5, ⟨w6, w7, w8, w9, w10, w11, w12⟩, w13, w14, w15, w16, w17⟩ := hwf
  have hdl : dleft (shW wm) (shW dm) i (hdO (crO t)).length = lefM t i := dleft_eq (kd := fun a => (manO (crO t) a).1) i _ hhd
  have hle : lefM t i < 32 := msk_lt _ _
  have key : ∀ d j, j + d = (shO (crO t)).length → ¬ lefM t i = 0 → ∀ z y, GX11_placeToListen 4 0 0 (aPu (some (.int (lisF t i))) σ) 0 0 27 [some (.ref 0), some (.int (nI i)), some (.int (nI (lefM t i))), some (.int (oI (lstn (fun k => wrs (lefB t i) (dalB t i k)) j).1)), some (.int (nI (lstn (fun k => wrs (lefB t i) (dalB t i k)) j).2)), some (.int (nI j)), z, y] [] σ := by
    intro d
    induction d with
    | zero =>
      intro j hj hnz z y
      refine g_iload eX11_placeToListen_27 rfl ?_
      refine g_aload eX11_placeToListen_29 rfl ?_
      refine g_get eX11_placeToListen_30 fX11_29_X11 e0 (by rfl) ?_
      refine g_get eX11_placeToListen_33 fX11_79_X8 e6 (by rfl) ?_
      refine g_callVp (r := (RX6, TX6, 2)) eX11_placeToListen_36 kX11_82 e7 (by rfl) (c_size e7) (by rfl) (by rfl) (by exact Nat.le_of_ble_eq_true rfl) (by exact Nat.le_of_ble_eq_true rfl) (by exact Nat.le_of_ble_eq_true rfl) (Nat.le_refl _) (Nat.le_refl _) ?_
      refine g_icmp_geN eX11_placeToListen_39 (by omega) (by omega) (fun c39 => ?_) (fun c39 => by exfalso; omega)
      refine g_iload eX11_placeToListen_92 rfl ?_
      exact g_ret (eX11_placeToListen_93 _) (Nat.le_refl _) (Nat.le_refl _) ⟨by rw [show j = (shO (crO t)).length by omega]; unfold lisF; rw [if_neg hnz], rfl⟩
    | succ d ih =>
      intro j hj hnz z y
      have hj2 : j < (shO (crO t)).length := by omega
      have hda : msk (dalB t i j) 5 < 32 := msk_lt _ _
      have hb1 : lefM t i &&& msk (dalB t i j) 5 < 1024 := Nat.lt_of_le_of_lt Nat.and_le_left (Nat.lt_trans hle (by decide))
      have hb2 : lefM t i &&& (msk (dalB t i j) 5 ^^^ 4294967295) < 1024 := Nat.lt_of_le_of_lt Nat.and_le_left (Nat.lt_trans hle (by decide))
      have hq1 := popc_le (lefM t i &&& msk (dalB t i j) 5)
      have hq2 := popc_le (lefM t i &&& (msk (dalB t i j) 5 ^^^ 4294967295))
      have hwr : max (popc (lefM t i &&& msk (dalB t i j) 5)) (popc (lefM t i &&& (msk (dalB t i j) 5 ^^^ 4294967295))) = wrs (lefB t i) (dalB t i j) := by
        rw [show lefM t i = msk (lefB t i) 5 from rfl, popc_and, popc_andn]
        rfl
      have hwl : wrs (lefB t i) (dalB t i j) < 2147483648 := by rw [← hwr]; omega
      have hl2 := lstn_le (fun k => wrs (lefB t i) (dalB t i k)) j
      have ih2 := ih (j + 1) (by omega) hnz
      refine g_iload eX11_placeToListen_27 rfl ?_
      refine g_aload eX11_placeToListen_29 rfl ?_
      refine g_get eX11_placeToListen_30 fX11_29_X11 e0 (by rfl) ?_
      refine g_get eX11_placeToListen_33 fX11_79_X8 e6 (by rfl) ?_
      refine g_callVp (r := (RX6, TX6, 2)) eX11_placeToListen_36 kX11_82 e7 (by rfl) (c_size e7) (by rfl) (by rfl) (by exact Nat.le_of_ble_eq_true rfl) (by exact Nat.le_of_ble_eq_true rfl) (by exact Nat.le_of_ble_eq_true rfl) (Nat.le_refl _) (Nat.le_refl _) ?_
      refine g_icmp_geN eX11_placeToListen_39 (by omega) (by omega) (fun c39 => by exfalso; omega) (fun c39 => ?_)
      refine g_aload eX11_placeToListen_42 rfl ?_
      refine g_iload eX11_placeToListen_43 rfl ?_
      refine g_iload eX11_placeToListen_44 rfl ?_
      refine g_callVp (r := (RX11, TX11, 10)) eX11_placeToListen_46 kX11_182 e0 (by rfl) (c_deedsAltering hI' hwf' hi hj2) (by rfl) (by rfl) (by exact Nat.le_of_ble_eq_true rfl) (by exact Nat.le_of_ble_eq_true rfl) (by exact Nat.le_of_ble_eq_true rfl) (Nat.le_refl _) (Nat.le_refl _) ?_
      refine g_istore eX11_placeToListen_49 rfl ?_
      refine g_iload eX11_placeToListen_51 rfl ?_
      refine g_iload eX11_placeToListen_52 rfl ?_
      refine g_iandN eX11_placeToListen_54 ?_
      refine g_callSp eX11_placeToListen_55 kX11_132 (c_bitCount hb1) (by rfl) (by rfl) (by exact Nat.le_of_ble_eq_true rfl) (by exact Nat.le_of_ble_eq_true rfl) (by exact Nat.le_of_ble_eq_true rfl) (Nat.le_refl _) (Nat.le_refl _) ?_
      refine g_iload eX11_placeToListen_58 rfl ?_
      refine g_iload eX11_placeToListen_59 rfl ?_
      refine g_push (v := nI 4294967295) (nA_m1 ▸ eX11_placeToListen_61) ?_
      refine g_ixorN eX11_placeToListen_62 ?_
      refine g_iandN eX11_placeToListen_63 ?_
      refine g_callSp eX11_placeToListen_64 kX11_132 (c_bitCount hb2) (by rfl) (by rfl) (by exact Nat.le_of_ble_eq_true rfl) (by exact Nat.le_of_ble_eq_true rfl) (by exact Nat.le_of_ble_eq_true rfl) (Nat.le_refl _) (Nat.le_refl _) ?_
      refine g_maxN eX11_placeToListen_67 kX11_253 (by exact Nat.le_of_ble_eq_true rfl) (by exact Nat.le_of_ble_eq_true rfl) (Nat.le_refl _) (Nat.le_refl _) (by omega) (by omega) ?_
      rw [hwr]
      refine g_istore eX11_placeToListen_70 rfl ?_
      refine g_iload eX11_placeToListen_72 rfl ?_
      refine g_iload eX11_placeToListen_74 rfl ?_
      refine g_icmp_geN eX11_placeToListen_76 (by omega) (by omega) (fun c76 => ?_) (fun c76 => ?_)
      · refine g_iincN eX11_placeToListen_86 rfl rfl ?_
        refine g_goto eX11_placeToListen_89 ?_
        first
          | (have e2 : lstn (fun k => wrs (lefB t i) (dalB t i k)) (j + 1) = (some j, wrs (lefB t i) (dalB t i j)) := if_pos c76
             rw [e2] at ih2; exact ih2 _ _)
          | (have e2 : lstn (fun k => wrs (lefB t i) (dalB t i k)) (j + 1) = lstn (fun k => wrs (lefB t i) (dalB t i k)) j := if_neg (Nat.not_lt.mpr c76)
             rw [e2] at ih2; exact ih2 _ _)
      · refine g_iload eX11_placeToListen_79 rfl ?_
        refine g_istore eX11_placeToListen_81 rfl ?_
        refine g_iload eX11_placeToListen_83 rfl ?_
        refine g_istore eX11_placeToListen_85 rfl ?_
        refine g_iincN eX11_placeToListen_86 rfl rfl ?_
        refine g_goto eX11_placeToListen_89 ?_
        first
          | (have e2 : lstn (fun k => wrs (lefB t i) (dalB t i k)) (j + 1) = (some j, wrs (lefB t i) (dalB t i j)) := if_pos c76
             rw [e2] at ih2; exact ih2 _ _)
          | (have e2 : lstn (fun k => wrs (lefB t i) (dalB t i k)) (j + 1) = lstn (fun k => wrs (lefB t i) (dalB t i k)) j := if_neg (Nat.not_lt.mpr c76)
             rw [e2] at ih2; exact ih2 _ _)
  refine g_aload eX11_placeToListen_0 rfl ?_
  refine g_get eX11_placeToListen_1 fX11_29_X11 e0 (by rfl) ?_
  refine g_get eX11_placeToListen_4 fX11_140_X8 e6 (by rfl) ?_
  refine g_iload eX11_placeToListen_7 rfl ?_
  refine g_callVp (r := (RX3, TX3, 3)) eX11_placeToListen_8 kX11_144 e9 (by rfl) (c_deedsLeft e9 e10 e11 lwm ldm w11 bwm (n := i) (by omega)) (by rfl) (by rfl) (by exact Nat.le_of_ble_eq_true rfl) (by exact Nat.le_of_ble_eq_true rfl) (by exact Nat.le_of_ble_eq_true rfl) (Nat.le_refl _) (Nat.le_refl _) ?_
  rw [hdl]
  refine g_istore eX11_placeToListen_11 rfl ?_
  refine g_iload eX11_placeToListen_12 rfl ?_
  refine g_if_neN eX11_placeToListen_13 (by omega) (fun c13 => ?_) (fun c13 => ?_)
  · refine g_push eX11_placeToListen_18 ?_
    refine g_istore eX11_placeToListen_19 rfl ?_
    refine g_push eX11_placeToListen_20 ?_
    refine g_istore eX11_placeToListen_22 rfl ?_
    refine g_push eX11_placeToListen_24 ?_
    refine g_istore eX11_placeToListen_25 rfl ?_
    exact key (shO (crO t)).length 0 (by omega) c13 _ _
  · refine g_push (v := -1) eX11_placeToListen_16 ?_
    exact g_ret (eX11_placeToListen_17 _) (Nat.le_refl _) (Nat.le_refl _) ⟨by unfold lisF; rw [if_pos c13], rfl⟩
theorem plM_congr {s u : Nat → Nat} {n h : Nat} (e : ∀ j, j < n → s j = u j) : plM s n h = plM u n h := msk_congr (fun k hk => by rw [e k hk])
theorem hvyW_congr {s u : Nat → Nat} {n m : Nat} (e : ∀ j, j < n → s j = u j) : hvyW s n m = hvyW u n m := by
  unfold hvyW
  rw [funext (fun w => by rw [plM_congr e] : ∀ w, popc (m &&& plM s n (2 ^ w)) = popc (m &&& plM u n (2 ^ w)))]
theorem oI_some {o : Option Nat} {n : Nat} (h : ∀ k, o = some k → k < n) (hn : n ≤ 1000) (hne : ¬ oI o = -1) : ∃ k, o = some k ∧ k < n := by
  cases o with
  | none => exact absurd rfl hne
  | some k => exact ⟨k, rfl, h k rfl⟩
theorem oI_none {o : Option Nat} {n : Nat} (h : ∀ k, o = some k → k < n) (hn : n ≤ 1000) (he : oI o = -1) : o = none := by
  cases o with
  | none => rfl
  | some k =>
    have h1 := h k rfl
    have h2 := congrArg Int32.toInt he
    have h3 : (oI (some k)).toInt = (k : Int) := nI_toInt (by omega)
    rw [h3, show (-1 : Int32).toInt = -1 from rfl] at h2
    omega
set_option maxRecDepth 20000 in
theorem c_drawSheet {σ : aH} {t : St} (hI : IX t σ) (hwf : WF t) {x : Nat} (hx : x < 2147483648) : MX11_drawSheet 1 0 0 [.ref 0, .int (nI x)] σ (fun v σ' => ∃ w', w'.length = 10 ∧ (∀ k, k < (shO (crO t)).length → w'.getD k 0 = drw x k) ∧ v = some (.int (nI (sdN x (shO (crO t)).length))) ∧ EqO [20, 21] σ σ' ∧ σ'[20]? = some (aO 6 [.ref 21, .int (nI (shO (crO t)).length)]) ∧ σ'[21]? = some (aA w')) := by
  refine sX11_drawSheet (Nat.le_of_ble_eq_true rfl) ?_
  have hI' := hI
  have hwf' := hwf
  obtain ⟨cd, x0, x1, x2, mr, dws, dsz, bp, bw, bs, e0, e1, e2, e3, e4, e5, e20, e21, e22, e23, e24, ⟨ws, wm, dm, hid, e6, e7, e8, e9, e10, e11, e12, lws, hws, lwm, ldm, bwm, lhid, hhid, hhd⟩, hk, hki, lcd, hcd, bcd, lmr, ldws, lbp, lbw, hmen⟩ := hI
  obtain ⟨w1, w2, w3, w4, w5, ⟨w6, w7, w8, w9, w10, w11, w12⟩, w13, w14, w15, w16, w17⟩ := hwf
  have key : ∀ d j τ w', j + d = (shO (crO t)).length → w'.length = 10 → (∀ k, k < j → w'.getD k 0 = drw x k) → EqO [20, 21] σ τ → τ[20]? = some (aO 6 [.ref 21, .int (nI j)]) → τ[21]? = some (aA w') → GX11_drawSheet 1 0 0 (fun v σ' => ∃ w', w'.length = 10 ∧ (∀ k, k < (shO (crO t)).length → w'.getD k 0 = drw x k) ∧ v = some (.int (nI (sdN x (shO (crO t)).length))) ∧ EqO [20, 21] σ σ' ∧ σ'[20]? = some (aO 6 [.ref 21, .int (nI (shO (crO t)).length)]) ∧ σ'[21]? = some (aA w')) 0 0 11 [some (.ref 0), some (.int (nI x)), some (.int (nI (sdN x j))), some (.int (nI j))] [] τ := by
    intro d
    induction d with
    | zero =>
      intro j τ w' hj hlw hwk hE g20 g21
      have a0 := hE.at (by decide) e0
      have a6 := hE.at (by decide) e6
      have a7 := hE.at (by decide) e7
      obtain rfl : j = (shO (crO t)).length := by omega
      refine g_iload eX11_drawSheet_11 rfl ?_
      refine g_aload eX11_drawSheet_12 rfl ?_
      refine g_get eX11_drawSheet_13 fX11_29_X11 a0 (by rfl) ?_
      refine g_get eX11_drawSheet_16 fX11_79_X8 a6 (by rfl) ?_
      refine g_callVp (r := (RX6, TX6, 2)) eX11_drawSheet_19 kX11_82 a7 (by rfl) (c_size a7) (by rfl) (by rfl) (by exact Nat.le_of_ble_eq_true rfl) (by exact Nat.le_of_ble_eq_true rfl) (by exact Nat.le_of_ble_eq_true rfl) (Nat.le_refl _) (Nat.le_refl _) ?_
      refine g_icmp_geN eX11_drawSheet_22 (by omega) (by omega) (fun c22 => ?_) (fun c22 => by exfalso; omega)
      refine g_iload eX11_drawSheet_60 rfl ?_
      exact g_ret (eX11_drawSheet_61 _) (Nat.le_refl _) (Nat.le_refl _) ⟨w', hlw, hwk, rfl, hE, g20, g21⟩
    | succ d ih =>
      intro j τ w' hj hlw hwk hE g20 g21
      have a0 := hE.at (by decide) e0
      have a6 := hE.at (by decide) e6
      have a7 := hE.at (by decide) e7
      have hlt := sdN_lt hx (j + 1)
      refine g_iload eX11_drawSheet_11 rfl ?_
      refine g_aload eX11_drawSheet_12 rfl ?_
      refine g_get eX11_drawSheet_13 fX11_29_X11 a0 (by rfl) ?_
      refine g_get eX11_drawSheet_16 fX11_79_X8 a6 (by rfl) ?_
      refine g_callVp (r := (RX6, TX6, 2)) eX11_drawSheet_19 kX11_82 a7 (by rfl) (c_size a7) (by rfl) (by rfl) (by exact Nat.le_of_ble_eq_true rfl) (by exact Nat.le_of_ble_eq_true rfl) (by exact Nat.le_of_ble_eq_true rfl) (Nat.le_refl _) (Nat.le_refl _) ?_
      refine g_icmp_geN eX11_drawSheet_22 (by omega) (by omega) (fun c22 => by exfalso; omega) (fun c22 => ?_)
      refine g_ldc (v := nI 1103515245) eX11_drawSheet_25 lX11_262 ?_
      refine g_iload eX11_drawSheet_28 rfl ?_
      refine g_imul eX11_drawSheet_29 ?_
      refine g_push eX11_drawSheet_30 ?_
      refine g_iadd eX11_drawSheet_33 ?_
      refine g_ldc (v := nI 2147483647) eX11_drawSheet_34 lX11_263 ?_
      refine g_iand eX11_drawSheet_37 ?_
      rw [lcg_int, show lcg (sdN x j) = sdN x (j + 1) from rfl]
      refine g_istore eX11_drawSheet_38 rfl ?_
      refine g_aload eX11_drawSheet_39 rfl ?_
      refine g_get eX11_drawSheet_40 fX11_39_X11 a0 (by rfl) ?_
      refine g_iload eX11_drawSheet_43 rfl ?_
      refine g_ldc (v := nI 65536) eX11_drawSheet_44 lX11_264 ?_
      refine g_idivN eX11_drawSheet_47 (by omega) (by omega) (by omega) ?_
      refine g_push eX11_drawSheet_48 ?_
      refine g_iremN eX11_drawSheet_50 (by omega) (by omega) (by omega) ?_
      refine g_callVp (r := (RX6, TX6, 2)) eX11_drawSheet_51 kX11_244 g20 (by rfl) (c_add g20 g21 hlw (by omega) (by decide) (by omega)) (by rfl) (by rfl) (by exact Nat.le_of_ble_eq_true rfl) (by exact Nat.le_of_ble_eq_true rfl) (by exact Nat.le_of_ble_eq_true rfl) (Nat.le_refl _) (Nat.le_refl _) ?_
      refine g_iincN eX11_drawSheet_54 rfl rfl ?_
      refine g_goto eX11_drawSheet_57 ?_
      refine ih (j + 1) _ (w'.set j (drw x j)) (by omega) (by rw [List.length_set]; exact hlw) (fun k hk => ?_) ((hE.st (by decide)).st (by decide)) (at_eq (at_ne (by decide) g20)) (at_ne (by decide) (at_eq g21))
      rw [List.getD_eq_getElem?_getD, List.getElem?_set]
      by_cases hkj : j = k
      · subst hkj
        rw [if_pos rfl, if_pos (by omega)]
        rfl
      · rw [if_neg hkj, ← List.getD_eq_getElem?_getD]
        exact hwk k (by omega)
  refine g_iload eX11_drawSheet_0 rfl ?_
  refine g_istore eX11_drawSheet_1 rfl ?_
  refine g_aload eX11_drawSheet_2 rfl ?_
  refine g_get eX11_drawSheet_3 fX11_39_X11 e0 (by rfl) ?_
  refine g_callVp (r := (RX6, TX6, 2)) eX11_drawSheet_6 kX11_261 e20 (by rfl) (c_clear e20) (by rfl) (by rfl) (by exact Nat.le_of_ble_eq_true rfl) (by exact Nat.le_of_ble_eq_true rfl) (by exact Nat.le_of_ble_eq_true rfl) (Nat.le_refl _) (Nat.le_refl _) ?_
  refine g_push eX11_drawSheet_9 ?_
  refine g_istore eX11_drawSheet_10 rfl ?_
  exact key (shO (crO t)).length 0 _ dws (by omega) ldws (fun k hk => by omega) (EqO.rf.st (by decide)) (at_eq e20) (at_ne (by decide) e21)
