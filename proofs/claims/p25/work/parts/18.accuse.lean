/-! the class's accuse -/
def okV : Value → Bool
  | .int _ => true
  | .null => true
  | .long _ => true
  | _ => false
theorem okV_all {fs : List Value} (h : fs.all okV = true) : ∀ v ∈ fs, (∃ x, v = .int x) ∨ v = .null ∨ (∃ x, v = .long x) := by
  intro v hv
  have := List.all_eq_true.mp h v hv
  cases v with
  | int x => exact Or.inl ⟨x, rfl⟩
  | null => exact Or.inr (Or.inl rfl)
  | long x => exact Or.inr (Or.inr ⟨x, rfl⟩)
  | _ => cases this
theorem app_set {σ : aH} {c d : aT} : (σ ++ [c]).set σ.length d = σ ++ [d] := by
  rw [List.set_append_right _ _ (Nat.le_refl _), Nat.sub_self]
  rfl
theorem app_new {σ : aH} {d : aT} : (σ ++ [d])[σ.length]? = some d := by simp
set_option maxRecDepth 20000 in
theorem c_X4_init {σ : aH} {q ci : Nat} {x y : Int32} (hc : ci = 0 ∨ ci = 1 ∨ ci = 4 ∨ ci = 7 ∨ ci = 10) (hq : σ[q]? = some (aO ci [.int y])) : MX4_init 1 0 0 [.ref q, .int x] σ (aPu none (σ.set q (aO ci [.int x]))) := by
  refine sX4_init (Nat.le_of_ble_eq_true rfl) ?_
  rcases hc with rfl | rfl | rfl | rfl | rfl
  · refine g_aload eX4_init_0 rfl ?_
    refine g_obj eX4_init_1 kX4_1 (by exact Nat.le_of_ble_eq_true rfl) (by exact Nat.le_of_ble_eq_true rfl) ?_
    refine g_aload eX4_init_4 rfl ?_
    refine g_iload eX4_init_5 rfl ?_
    refine g_putIF eX4_init_6 fX4_7_X0 pX0_0 rfl (fun q h => by cases h; rfl) hq (by exact Nat.le_of_ble_eq_true rfl) ?_
    exact g_ret eX4_init_9 (Nat.le_refl _) (Nat.le_refl _) ⟨rfl, rfl⟩
  · refine g_aload eX4_init_0 rfl ?_
    refine g_obj eX4_init_1 kX4_1 (by exact Nat.le_of_ble_eq_true rfl) (by exact Nat.le_of_ble_eq_true rfl) ?_
    refine g_aload eX4_init_4 rfl ?_
    refine g_iload eX4_init_5 rfl ?_
    refine g_putIF eX4_init_6 fX4_7_X1 pX1_0 rfl (fun q h => by cases h; rfl) hq (by exact Nat.le_of_ble_eq_true rfl) ?_
    exact g_ret eX4_init_9 (Nat.le_refl _) (Nat.le_refl _) ⟨rfl, rfl⟩
  · refine g_aload eX4_init_0 rfl ?_
    refine g_obj eX4_init_1 kX4_1 (by exact Nat.le_of_ble_eq_true rfl) (by exact Nat.le_of_ble_eq_true rfl) ?_
    refine g_aload eX4_init_4 rfl ?_
    refine g_iload eX4_init_5 rfl ?_
    refine g_putIF eX4_init_6 fX4_7_X4 pX4_0 rfl (fun q h => by cases h; rfl) hq (by exact Nat.le_of_ble_eq_true rfl) ?_
    exact g_ret eX4_init_9 (Nat.le_refl _) (Nat.le_refl _) ⟨rfl, rfl⟩
  · refine g_aload eX4_init_0 rfl ?_
    refine g_obj eX4_init_1 kX4_1 (by exact Nat.le_of_ble_eq_true rfl) (by exact Nat.le_of_ble_eq_true rfl) ?_
    refine g_aload eX4_init_4 rfl ?_
    refine g_iload eX4_init_5 rfl ?_
    refine g_putIF eX4_init_6 fX4_7_X7 pX7_0 rfl (fun q h => by cases h; rfl) hq (by exact Nat.le_of_ble_eq_true rfl) ?_
    exact g_ret eX4_init_9 (Nat.le_refl _) (Nat.le_refl _) ⟨rfl, rfl⟩
  · refine g_aload eX4_init_0 rfl ?_
    refine g_obj eX4_init_1 kX4_1 (by exact Nat.le_of_ble_eq_true rfl) (by exact Nat.le_of_ble_eq_true rfl) ?_
    refine g_aload eX4_init_4 rfl ?_
    refine g_iload eX4_init_5 rfl ?_
    refine g_putIF eX4_init_6 fX4_7_X10 pX10_0 rfl (fun q h => by cases h; rfl) hq (by exact Nat.le_of_ble_eq_true rfl) ?_
    exact g_ret eX4_init_9 (Nat.le_refl _) (Nat.le_refl _) ⟨rfl, rfl⟩
set_option maxRecDepth 20000 in
theorem c_X7_init {σ : aH} {q ci : Nat} {x y : Int32} (hc : ci = 7 ∨ ci = 10) (hq : σ[q]? = some (aO ci [.int y])) : MX7_init 2 0 0 [.ref q, .int x] σ (aPu none (σ.set q (aO ci [.int x]))) := by
  refine sX7_init (Nat.le_of_ble_eq_true rfl) ?_
  refine g_aload eX7_init_0 rfl ?_
  refine g_iload eX7_init_1 rfl ?_
  refine g_init eX7_init_2 kX7_1 (c_X4_init (x := x) (by omega) hq) (by rfl) (by rfl) (by exact Nat.le_of_ble_eq_true rfl) (by exact Nat.le_of_ble_eq_true rfl) (by exact Nat.le_of_ble_eq_true rfl) (by decide) (by decide) (fun v σ' hp hn => ?_)
  obtain ⟨rfl, rfl⟩ := hp
  exact g_ret eX7_init_5 (Nat.le_refl _) (Nat.le_refl _) ⟨rfl, rfl⟩
set_option maxRecDepth 20000 in
theorem c_X0_init {σ : aH} {q ci : Nat} {x y : Int32} (hc : ci = 0) (hq : σ[q]? = some (aO ci [.int y])) : MX0_init 2 0 0 [.ref q, .int x] σ (aPu none (σ.set q (aO ci [.int x]))) := by
  refine sX0_init (Nat.le_of_ble_eq_true rfl) ?_
  refine g_aload eX0_init_0 rfl ?_
  refine g_iload eX0_init_1 rfl ?_
  refine g_init eX0_init_2 kX0_1 (c_X4_init (x := x) (by omega) hq) (by rfl) (by rfl) (by exact Nat.le_of_ble_eq_true rfl) (by exact Nat.le_of_ble_eq_true rfl) (by exact Nat.le_of_ble_eq_true rfl) (by decide) (by decide) (fun v σ' hp hn => ?_)
  obtain ⟨rfl, rfl⟩ := hp
  exact g_ret eX0_init_5 (Nat.le_refl _) (Nat.le_refl _) ⟨rfl, rfl⟩
set_option maxRecDepth 20000 in
theorem c_X1_init {σ : aH} {q ci : Nat} {x y : Int32} (hc : ci = 1) (hq : σ[q]? = some (aO ci [.int y])) : MX1_init 2 0 0 [.ref q, .int x] σ (aPu none (σ.set q (aO ci [.int x]))) := by
  refine sX1_init (Nat.le_of_ble_eq_true rfl) ?_
  refine g_aload eX1_init_0 rfl ?_
  refine g_iload eX1_init_1 rfl ?_
  refine g_init eX1_init_2 kX1_1 (c_X4_init (x := x) (by omega) hq) (by rfl) (by rfl) (by exact Nat.le_of_ble_eq_true rfl) (by exact Nat.le_of_ble_eq_true rfl) (by exact Nat.le_of_ble_eq_true rfl) (by decide) (by decide) (fun v σ' hp hn => ?_)
  obtain ⟨rfl, rfl⟩ := hp
  exact g_ret eX1_init_5 (Nat.le_refl _) (Nat.le_refl _) ⟨rfl, rfl⟩
set_option maxRecDepth 20000 in
theorem c_X10_init {σ : aH} {q ci : Nat} {x y : Int32} (hc : ci = 10) (hq : σ[q]? = some (aO ci [.int y])) : MX10_init 3 0 0 [.ref q, .int x] σ (aPu none (σ.set q (aO ci [.int x]))) := by
  refine sX10_init (Nat.le_of_ble_eq_true rfl) ?_
  refine g_aload eX10_init_0 rfl ?_
  refine g_iload eX10_init_1 rfl ?_
  refine g_init eX10_init_2 kX10_1 (c_X7_init (x := x) (by omega) hq) (by rfl) (by rfl) (by exact Nat.le_of_ble_eq_true rfl) (by exact Nat.le_of_ble_eq_true rfl) (by exact Nat.le_of_ble_eq_true rfl) (by decide) (by decide) (fun v σ' hp hn => ?_)
  obtain ⟨rfl, rfl⟩ := hp
  exact g_ret eX10_init_5 (Nat.le_refl _) (Nat.le_refl _) ⟨rfl, rfl⟩
set_option maxRecDepth 20000 in
theorem c_manOfKind {σ : aH} {kd : Nat} {x : Int32} (hk : kd < 5) : MX11_manOfKind 4 1 1 [.int (nI kd), .int x] σ (aPu (some (.ref σ.length)) (σ ++ [aO (ciK kd) [.int x]])) := by
  refine sX11_manOfKind (Nat.le_of_ble_eq_true rfl) ?_
  rcases (show kd = 0 ∨ kd = 1 ∨ kd = 2 ∨ kd = 3 ∨ kd = 4 by omega) with rfl | rfl | rfl | rfl | rfl
  · refine g_iload eX11_manOfKind_0 rfl ?_
    refine g_tswOut (tgt := 68) eX11_manOfKind_1 (by decide) (by decide) ?_
    refine g_new (ci := 4) (r := (RX4, TX4, 1)) (fs := [.int 0]) (ty := tyX4) eX11_manOfKind_68 rfl uX4 tyX4_ok lX11_20 nX4 iX4 (fun j hj => match j, hj with | 0, _ => rfl | n + 1, h => absurd (show n + 1 < 1 from h) (by omega)) (okV_all rfl) (by exact Nat.le_of_ble_eq_true rfl) (by exact Nat.le_of_ble_eq_true rfl) ?_
    refine g_dup eX11_manOfKind_71 rfl ?_
    refine g_iload eX11_manOfKind_72 rfl ?_
    refine g_init eX11_manOfKind_73 kX11_240 (c_X4_init (x := x) (ci := 4) (by omega) app_new) (by rfl) (by rfl) (by exact Nat.le_of_ble_eq_true rfl) (by exact Nat.le_of_ble_eq_true rfl) (by exact Nat.le_of_ble_eq_true rfl) (by decide) (by decide) (fun v σ' hp hn => ?_)
    obtain ⟨rfl, rfl⟩ := hp
    rw [app_set]
    exact g_ret (eX11_manOfKind_76 _) (by decide) (by decide) ⟨rfl, rfl⟩
  · refine g_iload eX11_manOfKind_0 rfl ?_
    refine g_tswIn (off := 31) (tgt := 32) eX11_manOfKind_1 (by decide +kernel) (by decide +kernel) (by decide +kernel) (by decide) ?_
    refine g_new (ci := 7) (r := (RX7, TX7, 1)) (fs := [.int 0]) (ty := tyX7) eX11_manOfKind_32 rfl uX7 tyX7_ok lX11_226 nX7 iX7 (fun j hj => match j, hj with | 0, _ => rfl | n + 1, h => absurd (show n + 1 < 1 from h) (by omega)) (okV_all rfl) (by exact Nat.le_of_ble_eq_true rfl) (by exact Nat.le_of_ble_eq_true rfl) ?_
    refine g_dup eX11_manOfKind_35 rfl ?_
    refine g_iload eX11_manOfKind_36 rfl ?_
    refine g_init eX11_manOfKind_37 kX11_228 (c_X7_init (x := x) (ci := 7) (by omega) app_new) (by rfl) (by rfl) (by exact Nat.le_of_ble_eq_true rfl) (by exact Nat.le_of_ble_eq_true rfl) (by exact Nat.le_of_ble_eq_true rfl) (by decide) (by decide) (fun v σ' hp hn => ?_)
    obtain ⟨rfl, rfl⟩ := hp
    rw [app_set]
    exact g_ret (eX11_manOfKind_40 _) (by decide) (by decide) ⟨rfl, rfl⟩
  · refine g_iload eX11_manOfKind_0 rfl ?_
    refine g_tswIn (off := 40) (tgt := 41) eX11_manOfKind_1 (by decide +kernel) (by decide +kernel) (by decide +kernel) (by decide) ?_
    refine g_new (ci := 0) (r := (RX0, TX0, 1)) (fs := [.int 0]) (ty := tyX0) eX11_manOfKind_41 rfl uX0 tyX0_ok lX11_231 nX0 iX0 (fun j hj => match j, hj with | 0, _ => rfl | n + 1, h => absurd (show n + 1 < 1 from h) (by omega)) (okV_all rfl) (by exact Nat.le_of_ble_eq_true rfl) (by exact Nat.le_of_ble_eq_true rfl) ?_
    refine g_dup eX11_manOfKind_44 rfl ?_
    refine g_iload eX11_manOfKind_45 rfl ?_
    refine g_init eX11_manOfKind_46 kX11_233 (c_X0_init (x := x) (ci := 0) (by omega) app_new) (by rfl) (by rfl) (by exact Nat.le_of_ble_eq_true rfl) (by exact Nat.le_of_ble_eq_true rfl) (by exact Nat.le_of_ble_eq_true rfl) (by decide) (by decide) (fun v σ' hp hn => ?_)
    obtain ⟨rfl, rfl⟩ := hp
    rw [app_set]
    exact g_ret (eX11_manOfKind_49 _) (by decide) (by decide) ⟨rfl, rfl⟩
  · refine g_iload eX11_manOfKind_0 rfl ?_
    refine g_tswIn (off := 49) (tgt := 50) eX11_manOfKind_1 (by decide +kernel) (by decide +kernel) (by decide +kernel) (by decide) ?_
    refine g_new (ci := 1) (r := (RX1, TX1, 1)) (fs := [.int 0]) (ty := tyX1) eX11_manOfKind_50 rfl uX1 tyX1_ok lX11_234 nX1 iX1 (fun j hj => match j, hj with | 0, _ => rfl | n + 1, h => absurd (show n + 1 < 1 from h) (by omega)) (okV_all rfl) (by exact Nat.le_of_ble_eq_true rfl) (by exact Nat.le_of_ble_eq_true rfl) ?_
    refine g_dup eX11_manOfKind_53 rfl ?_
    refine g_iload eX11_manOfKind_54 rfl ?_
    refine g_init eX11_manOfKind_55 kX11_236 (c_X1_init (x := x) (ci := 1) (by omega) app_new) (by rfl) (by rfl) (by exact Nat.le_of_ble_eq_true rfl) (by exact Nat.le_of_ble_eq_true rfl) (by exact Nat.le_of_ble_eq_true rfl) (by decide) (by decide) (fun v σ' hp hn => ?_)
    obtain ⟨rfl, rfl⟩ := hp
    rw [app_set]
    exact g_ret (eX11_manOfKind_58 _) (by decide) (by decide) ⟨rfl, rfl⟩
  · refine g_iload eX11_manOfKind_0 rfl ?_
    refine g_tswIn (off := 58) (tgt := 59) eX11_manOfKind_1 (by decide +kernel) (by decide +kernel) (by decide +kernel) (by decide) ?_
    refine g_new (ci := 10) (r := (RX10, TX10, 1)) (fs := [.int 0]) (ty := tyX10) eX11_manOfKind_59 rfl uX10 tyX10_ok lX11_237 nX10 iX10 (fun j hj => match j, hj with | 0, _ => rfl | n + 1, h => absurd (show n + 1 < 1 from h) (by omega)) (okV_all rfl) (by exact Nat.le_of_ble_eq_true rfl) (by exact Nat.le_of_ble_eq_true rfl) ?_
    refine g_dup eX11_manOfKind_62 rfl ?_
    refine g_iload eX11_manOfKind_63 rfl ?_
    refine g_init eX11_manOfKind_64 kX11_239 (c_X10_init (x := x) (ci := 10) (by omega) app_new) (by rfl) (by rfl) (by exact Nat.le_of_ble_eq_true rfl) (by exact Nat.le_of_ble_eq_true rfl) (by exact Nat.le_of_ble_eq_true rfl) (by decide) (by decide) (fun v σ' hp hn => ?_)
    obtain ⟨rfl, rfl⟩ := hp
    rw [app_set]
    exact g_ret (eX11_manOfKind_67 _) (by decide) (by decide) ⟨rfl, rfl⟩
theorem ciK_cl {kd : Nat} (hk : kd < 5) : ∃ r, vwCl[ciK kd]? = some r ∧ (r.1 = "ReadAloud$Man" ∨ (r.1, "ReadAloud$Man") ∈ aCy) := by
  rcases (show kd = 0 ∨ kd = 1 ∨ kd = 2 ∨ kd = 3 ∨ kd = 4 by omega) with rfl | rfl | rfl | rfl | rfl
  · exact ⟨_, rfl, Or.inl rfl⟩
  · exact ⟨_, rfl, Or.inr (List.mem_of_getElem? (i := 1) rfl)⟩
  · exact ⟨_, rfl, Or.inr (List.mem_of_getElem? (i := 2) rfl)⟩
  · exact ⟨_, rfl, Or.inr (List.mem_of_getElem? (i := 3) rfl)⟩
  · exact ⟨_, rfl, Or.inr (List.mem_of_getElem? (i := 4) rfl)⟩
theorem getD_mem {α : Type} {l : List α} {i : Nat} {d : α} (h : i < l.length) : l.getD i d ∈ l := by
  rw [List.getD_eq_getElem?_getD, List.getElem?_eq_getElem h]
  exact List.getElem_mem h
theorem FrX.app {σ : aH} {c : aT} : FrX σ (σ ++ [c]) := ⟨by simp, fun j _ h => List.getElem?_append_left h⟩
theorem IX.man {t : St} {σ : aH} (hI : IX t σ) (hwf : WF t) (h40 : 28 ≤ σ.length) {kd d : Nat} {mr : List (Option Nat)} (lmr : mr.length = 4) (hm4 : (mnO (crO t)).length < 4) (e0 : σ[0]? = some (aO 11 [.ref 1, .ref 4, .ref 5, .ref 6, .ref 13, .ref 20, .ref 22, .int (nI (imB t)), .int (nI (ctO t)), .int (nI (brO t))])) (e5 : σ[5]? = some (.inr (.inl mr))) (hmr : ∀ i, i < (mnO (crO t)).length → ∃ q, mr[i]? = some (some q) ∧ 28 ≤ q ∧ σ[q]? = some (aO (ciK (manO (crO t) i).1) [.int (nI (manO (crO t) i).2.1)])) {ws wm dm hid : List Nat}
  (e6 : σ[6]? = some (aO 8 [.ref 7, .ref 9, .ref 12, .int (nI (lmO (crO t))), .int (nI (mnO (crO t)).length), .int (nI (chO (crO t)))])) (e7 : σ[7]? = some (aO 6 [.ref 8, .int (nI (shO (crO t)).length)])) (e8 : σ[8]? = some (aA ws)) (e9 : σ[9]? = some (aO 3 [.ref 10, .ref 11, .int (nI (hdO (crO t)).length)])) (e10 : σ[10]? = some (aA wm)) (e11 : σ[11]? = some (aA dm)) (e12 : σ[12]? = some (aA hid)) (lws : ws.length = 10) (hws : ∀ k, k < (shO (crO t)).length → ws.getD k 0 = (shO (crO t)).getD k 0) (lwm : wm.length = 8) (ldm : dm.length = 8) (bwm : ∀ k, wm.getD k 0 < 65536) (lhid : hid.length = 4) (hhid : ∀ i, i < (mnO (crO t)).length → hid.getD i 0 = (manO (crO t) i).2.2)
  (hhd : ∀ i, i < (hdO (crO t)).length → wm.getD i 0 = ((hdO (crO t)).getD i h0).1 ∧ dm.getD i 0 = msk (fitB (shW (nrO t)) (manO (crO t) ((hdO (crO t)).getD i h0).1).1 ((hdO (crO t)).getD i h0)) 5) :
  IX (wcr t (shO (crO t), lmO (crO t), mnO (crO t) ++ [(kd, d, 0)], chO (crO t), hdO (crO t))) ((((σ ++ [aO (ciK kd) [.int (nI d)]]).set 5 (.inr (.inl (mr.set (mnO (crO t)).length (some σ.length))))).set 12 (aA (hid.set (mnO (crO t)).length 0))).set 6 (aO 8 [.ref 7, .ref 9, .ref 12, .int (nI (lmO (crO t))), .int (nI ((mnO (crO t)).length + 1)), .int (nI (chO (crO t)))])) := by
  have h3 : ∀ j, j ≠ 5 → j ≠ 12 → j ≠ 6 → j < σ.length → ((((σ ++ [aO (ciK kd) [.int (nI d)]]).set 5 (.inr (.inl (mr.set (mnO (crO t)).length (some σ.length))))).set 12 (aA (hid.set (mnO (crO t)).length 0))).set 6 (aO 8 [.ref 7, .ref 9, .ref 12, .int (nI (lmO (crO t))), .int (nI ((mnO (crO t)).length + 1)), .int (nI (chO (crO t)))]))[j]? = σ[j]? := fun j a b c h => by
    rw [List.getElem?_set_ne (Ne.symm c), List.getElem?_set_ne (Ne.symm b), List.getElem?_set_ne (Ne.symm a), List.getElem?_append_left h]
  have h4 : ∀ j c, σ[j]? = some c → j ≠ 5 → j ≠ 12 → j ≠ 6 → ((((σ ++ [aO (ciK kd) [.int (nI d)]]).set 5 (.inr (.inl (mr.set (mnO (crO t)).length (some σ.length))))).set 12 (aA (hid.set (mnO (crO t)).length 0))).set 6 (aO 8 [.ref 7, .ref 9, .ref 12, .int (nI (lmO (crO t))), .int (nI ((mnO (crO t)).length + 1)), .int (nI (chO (crO t)))]))[j]? = some c := fun j c z a b e => (h3 j a b e (List.getElem?_eq_some_iff.mp z).1).trans z
  have hw12 := hwf.2.2.2.2.2.1.2.2.2.2.2.2
  obtain ⟨cd, y0, y1, y2, mr0, dws, dsz, bp, bw, bs, f0, f1, f2, f3, f4, f5, f20, f21, f22, f23, f24, hn, hk, hki, lcd, hcd, bcd, lmr0, ldws, lbp, lbw, hmen⟩ := hI
  refine ⟨cd, y0, y1, y2, _, dws, dsz, bp, bw, bs, h4 _ _ e0 (by decide) (by decide) (by decide), h4 _ _ f1 (by decide) (by decide) (by decide), h4 _ _ f2 (by decide) (by decide) (by decide), h4 _ _ f3 (by decide) (by decide) (by decide), h4 _ _ f4 (by decide) (by decide) (by decide), at_ne (by decide) (at_ne (by decide) (at_eq (at_pl e5))), h4 _ _ f20 (by decide) (by decide) (by decide), h4 _ _ f21 (by decide) (by decide) (by decide), h4 _ _ f22 (by decide) (by decide) (by decide), h4 _ _ f23 (by decide) (by decide) (by decide), h4 _ _ f24 (by decide) (by decide) (by decide), ?_, hk.at (fun j a b => h3 j (by omega) (by omega) (by omega) (by omega)), fun c hc => (hki c hc).at (fun j a b => h3 j (by omega) (by omega) (by omega) (by omega)), lcd, hcd, bcd, by rw [List.length_set]; exact lmr, ldws, lbp, lbw, fun i hi => ?_⟩
  · refine ⟨ws, wm, dm, hid.set (mnO (crO t)).length 0, ?_, h4 _ _ e7 (by decide) (by decide) (by decide), h4 _ _ e8 (by decide) (by decide) (by decide), h4 _ _ e9 (by decide) (by decide) (by decide), h4 _ _ e10 (by decide) (by decide) (by decide), h4 _ _ e11 (by decide) (by decide) (by decide), at_ne (by decide) (at_eq (at_ne (by decide) (at_pl e12))), lws, hws, lwm, ldm, bwm, by rw [List.length_set]; exact lhid, fun i hi => ?_, fun i hi => ?_⟩
    · show _ = some (aO 8 [.ref 7, .ref 9, .ref 12, .int (nI (lmO (crO t))), .int (nI (mnO (crO t) ++ [(kd, d, 0)]).length), .int (nI (chO (crO t)))])
      rw [List.length_append, List.length_singleton]
      exact at_eq (at_ne (by decide) (at_ne (by decide) (at_pl e6)))
    · have hi2 : i < (mnO (crO t)).length + 1 := by
        have : (mnO (crO t) ++ [(kd, d, 0)]).length = (mnO (crO t)).length + 1 := by simp
        exact this ▸ hi
      show _ = ((mnO (crO t) ++ [(kd, d, 0)]).getD i m0).2.2
      rw [getD_set, getD_app]
      by_cases h : i < (mnO (crO t)).length
      · rw [if_neg (by omega), if_pos h]
        exact hhid i h
      · rw [if_pos (by omega), if_neg h, if_pos (by omega)]
    · obtain ⟨g1, g2⟩ := hhd i hi
      refine ⟨g1, ?_⟩
      have hlt := (hw12 ((hdO (crO t)).getD i h0) (getD_mem (d := h0) hi)).1
      have hq : (mnO (crO t) ++ [(kd, d, 0)]).getD ((hdO (crO t)).getD i h0).1 m0 = manO (crO t) ((hdO (crO t)).getD i h0).1 := by
        rw [getD_app, if_pos hlt]
      exact g2.trans (congrArg (fun z : Mn => msk (fitB (shW (nrO t)) z.1 ((hdO (crO t)).getD i h0)) 5) hq.symm)
  · have hi2 : i < (mnO (crO t)).length + 1 := by
      have : (mnO (crO t) ++ [(kd, d, 0)]).length = (mnO (crO t)).length + 1 := by simp
      exact this ▸ hi
    show ∃ q, _ ∧ _ ∧ _ = some (aO (ciK ((mnO (crO t) ++ [(kd, d, 0)]).getD i m0).1) [.int (nI ((mnO (crO t) ++ [(kd, d, 0)]).getD i m0).2.1)])
    rw [getD_app]
    by_cases h : i < (mnO (crO t)).length
    · rw [if_pos h]
      obtain ⟨q, a1, a2, a3⟩ := hmr i h
      exact ⟨q, by rw [List.getElem?_set_ne (by omega)]; exact a1, a2, h4 _ _ a3 (by omega) (by omega) (by omega)⟩
    · obtain rfl : i = (mnO (crO t)).length := by omega
      rw [if_neg h, if_pos rfl]
      exact ⟨σ.length, List.getElem?_set_self (by omega), h40, by rw [List.getElem?_set_ne (by omega), List.getElem?_set_ne (by omega), List.getElem?_set_ne (by omega)]; exact app_new⟩
set_option maxRecDepth 20000 in
theorem x_accuse {σ : aH} {t : St} (hI : IX t σ) (hwf : WF t) (h40 : 28 ≤ σ.length) {x y : Int32} : MX11_accuse 5 1 1 [.ref 0, .int x, .int y] σ (fun v σ' => v = some (.int (oAccuse t x y).1) ∧ IX (oAccuse t x y).2 σ' ∧ FrX σ σ') := by
  refine sX11_accuse (Nat.le_of_ble_eq_true rfl) ?_
  have hI' := hI
  have hwf' := hwf
  obtain ⟨cd, x0, x1, x2, mr, dws, dsz, bp, bw, bs, e0, e1, e2, e3, e4, e5, e20, e21, e22, e23, e24, ⟨ws, wm, dm, hid, e6, e7, e8, e9, e10, e11, e12, lws, hws, lwm, ldm, bwm, lhid, hhid, hhd⟩, hk, hki, lcd, hcd, bcd, lmr, ldws, lbp, lbw, hmen⟩ := hI
  obtain ⟨w1, w2, w3, w4, w5, ⟨w6, w7, w8, w9, w10, w11, w12⟩, w13, w14, w15, w16, w17⟩ := hwf
  unfold oAccuse
  cases e : rg x 0 5 with
  | none =>
    dsimp only
    have hr := rg_none e
    refine g_iload eX11_accuse_0 rfl ?_
    refine g_callSp eX11_accuse_1 kX11_106 (c_isKindN hr) (by rfl) (by rfl) (by exact Nat.le_of_ble_eq_true rfl) (by exact Nat.le_of_ble_eq_true rfl) (by exact Nat.le_of_ble_eq_true rfl) (by decide) (by decide) ?_
    refine g_if_eqN eX11_accuse_4 (by omega) (fun c4 => ?_) (fun c4 => absurd rfl c4)
    refine g_push eX11_accuse_16 ?_
    exact g_ret (eX11_accuse_18 _) (by decide) (by decide) ⟨rfl, hI', FrX.rf⟩
  | some kd =>
    dsimp only
    obtain ⟨rfl, -, hkd⟩ := rg_some e
    cases f : rg y 0 5 with
    | none =>
      dsimp only
      have hr := rg_none f
      refine g_iload eX11_accuse_0 rfl ?_
      refine g_callSp eX11_accuse_1 kX11_106 (c_isKindT hkd) (by rfl) (by rfl) (by exact Nat.le_of_ble_eq_true rfl) (by exact Nat.le_of_ble_eq_true rfl) (by exact Nat.le_of_ble_eq_true rfl) (by decide) (by decide) ?_
      refine g_if_eqN eX11_accuse_4 (by omega) (fun c4 => absurd c4 (by decide)) (fun c4 => ?_)
      refine g_iload eX11_accuse_7 rfl ?_
      refine g_if_ltI eX11_accuse_8 (fun c8 => ?_) (fun c8 => ?_)
      · refine g_push eX11_accuse_16 ?_
        exact g_ret (eX11_accuse_18 _) (by decide) (by decide) ⟨rfl, hI', FrX.rf⟩
      · refine g_iload eX11_accuse_11 rfl ?_
        refine g_push eX11_accuse_12 ?_
        refine g_icmp_ltI eX11_accuse_13 (by decide) (fun c13 => by exfalso; omega) (fun c13 => ?_)
        refine g_push eX11_accuse_16 ?_
        exact g_ret (eX11_accuse_18 _) (by decide) (by decide) ⟨rfl, hI', FrX.rf⟩
    | some d =>
      dsimp only
      obtain ⟨rfl, -, hd5⟩ := rg_some f
      obtain ⟨r, hr1, hr2⟩ := ciK_cl hkd
      refine g_iload eX11_accuse_0 rfl ?_
      refine g_callSp eX11_accuse_1 kX11_106 (c_isKindT hkd) (by rfl) (by rfl) (by exact Nat.le_of_ble_eq_true rfl) (by exact Nat.le_of_ble_eq_true rfl) (by exact Nat.le_of_ble_eq_true rfl) (by decide) (by decide) ?_
      refine g_if_eqN eX11_accuse_4 (by omega) (fun c4 => absurd c4 (by decide)) (fun c4 => ?_)
      refine g_iload eX11_accuse_7 rfl ?_
      refine g_if_ltN eX11_accuse_8 (by omega) ?_
      refine g_iload eX11_accuse_11 rfl ?_
      refine g_push eX11_accuse_12 ?_
      refine g_icmp_ltN eX11_accuse_13 (by omega) (by omega) (fun c13 => ?_) (fun c13 => by exfalso; omega)
      refine g_aload eX11_accuse_19 rfl ?_
      refine g_callVp (r := (RX11, TX11, 10)) eX11_accuse_20 kX11_83 e0 (by rfl) (c_hasCourt hI' hwf') (by rfl) (by rfl) (by exact Nat.le_of_ble_eq_true rfl) (by exact Nat.le_of_ble_eq_true rfl) (by exact Nat.le_of_ble_eq_true rfl) (by decide) (by decide) ?_
      refine g_if_neN eX11_accuse_23 (bt_lt _) (fun c23 => ?_) (fun c23 => ?_)
      · have hyes := bt_1 c23
        refine g_aload eX11_accuse_29 rfl ?_
        refine g_get eX11_accuse_30 fX11_29_X11 e0 (by rfl) ?_
        refine g_get eX11_accuse_33 fX11_109_X8 e6 (by rfl) ?_
        refine g_istore eX11_accuse_36 rfl ?_
        refine g_iload eX11_accuse_37 rfl ?_
        refine g_if_ltN eX11_accuse_38 (by omega) ?_
        refine g_iload eX11_accuse_41 rfl ?_
        refine g_push eX11_accuse_42 ?_
        refine g_icmp_ltN eX11_accuse_43 (by omega) (by omega) (fun c43 => ?_) (fun c43 => ?_)
        · refine g_aload eX11_accuse_49 rfl ?_
          refine g_get eX11_accuse_50 fX11_22_X11 e0 (by rfl) ?_
          refine g_iload eX11_accuse_53 rfl ?_
          refine g_iload eX11_accuse_54 rfl ?_
          refine g_iload eX11_accuse_55 rfl ?_
          refine g_callS eX11_accuse_56 kX11_111 (c_manOfKind (x := nI d) hkd) (by rfl) (by rfl) (by exact Nat.le_of_ble_eq_true rfl) (by exact Nat.le_of_ble_eq_true rfl) (by exact Nat.le_of_ble_eq_true rfl) (by decide) (by decide) (fun v σ' hp hn => ?_)
          obtain ⟨rfl, rfl⟩ := hp
          refine g_aast eX11_accuse_59 (at_pl e5) app_new hr1 hr2 (by rw [lmr]; exact vp_in_nI (by omega) (by omega)) ?_
          rw [nI_clamp (by omega)]
          refine g_aload eX11_accuse_60 rfl ?_
          refine g_get eX11_accuse_61 fX11_29_X11 (at_ne (by decide) (at_pl e0)) (by rfl) ?_
          refine g_get eX11_accuse_64 fX11_115_X8 (at_ne (by decide) (at_pl e6)) (by rfl) ?_
          refine g_iload eX11_accuse_67 rfl ?_
          refine g_push eX11_accuse_68 ?_
          refine g_iastN eX11_accuse_69 (at_ne (by decide) (at_pl e12)) (by omega) (by omega) ?_
          refine g_aload eX11_accuse_70 rfl ?_
          refine g_get eX11_accuse_71 fX11_29_X11 (at_ne (by decide) (at_ne (by decide) (at_pl e0))) (by rfl) ?_
          refine g_dup eX11_accuse_74 rfl ?_
          refine g_get eX11_accuse_75 fX11_109_X8 (at_ne (by decide) (at_ne (by decide) (at_pl e6))) (by rfl) ?_
          refine g_push eX11_accuse_78 ?_
          refine g_iaddN eX11_accuse_79 ?_
          refine g_putI eX11_accuse_80 fX11_109_X8 pX8_4 (at_ne (by decide) (at_ne (by decide) (at_pl e6))) (by exact Nat.le_of_ble_eq_true rfl) ?_
          refine g_iload eX11_accuse_83 rfl ?_
          exact g_ret (eX11_accuse_84 _) (by decide) (by decide) (by
            rw [if_pos hyes, if_pos (show (mnO (crO t)).length < 4 by omega)]
            refine ⟨rfl, IX.man hI' hwf' h40 lmr (by omega) e0 e5 hmen e6 e7 e8 e9 e10 e11 e12 lws hws lwm ldm bwm lhid hhid hhd, ?_⟩
            exact (((FrX.app).st (by decide)).st (by decide)).st (by decide))
        · refine g_push eX11_accuse_46 ?_
          exact g_ret (eX11_accuse_48 _) (by decide) (by decide) (by rw [if_pos hyes, if_neg (show ¬ (mnO (crO t)).length < 4 by omega)]; exact ⟨rfl, hI', FrX.rf⟩)
      · have hno := bt_0 c23
        refine g_push eX11_accuse_26 ?_
        exact g_ret (eX11_accuse_28 _) (by decide) (by decide) (by rw [if_neg hno]; exact ⟨rfl, hI', FrX.rf⟩)
