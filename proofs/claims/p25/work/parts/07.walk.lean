/-! what is heard; the walk over the page; the page -/
def lw : Nat → Int32
  | 0 => -1
  | n + 1 => nI n
theorem lw_le {v l : Nat} (hv : v < 1000) (hl : l < 1000) : nI v ≤ lw l ↔ v < l := by
  cases l with
  | zero =>
    constructor
    · intro h
      have h1 := Int32.le_iff_toInt_le.mp h
      rw [nI_toInt (by omega), show (lw 0).toInt = -1 from rfl] at h1
      omega
    · omega
  | succ l =>
    show nI v ≤ nI l ↔ _
    rw [nI_leI (by omega) (by omega)]
    omega
abbrev wO (s : Nat × Nat × Nat) : aT := aO 9 [.int (nI s.1), .int (nI s.2.1), .int (lw s.2.2)]
def pword (p m l v : Nat) : Bool := if p < 4 then decide (m < 3 ∧ l ≤ v) else decide (m < 10)
def wstep (s : Nat × Nat × Nat) (c : Nat) : Option (Nat × Nat × Nat) :=
  if 97 ≤ c ∧ c < 105 then (if pword s.1 s.2.1 s.2.2 (c - 97) then some (s.1, s.2.1 + 1, c - 97 + 1) else none)
  else if s.1 < 4 ∧ 0 < s.2.1 ∧ c = (if s.1 = 3 then 59 else 44) then some (s.1 + 1, 0, 0) else none
def wok (s : Nat × Nat × Nat) : Prop := s.1 ≤ 4 ∧ s.2.1 ≤ 10 ∧ s.2.2 ≤ 8
theorem wstep_ok {s s' : Nat × Nat × Nat} {c : Nat} (h : wok s) (e : wstep s c = some s') : wok s' := by
  obtain ⟨p, m, l⟩ := s
  obtain ⟨h1, h2, h3⟩ := h
  simp only at h1 h2 h3
  unfold wstep at e
  by_cases a : 97 ≤ c ∧ c < 105
  · rw [if_pos a] at e
    by_cases hp : pword p m l (c - 97) = true
    · rw [if_pos hp] at e
      cases e
      unfold pword at hp
      refine ⟨h1, ?_, by show c - 97 + 1 ≤ 8; omega⟩
      show m + 1 ≤ 10
      by_cases h4 : p < 4
      · rw [if_pos h4] at hp
        have := of_decide_eq_true hp
        omega
      · rw [if_neg h4] at hp
        have := of_decide_eq_true hp
        omega
    · rw [if_neg hp] at e
      cases e
  · rw [if_neg a] at e
    by_cases b : p < 4 ∧ 0 < m ∧ c = (if p = 3 then 59 else 44)
    · rw [if_pos b] at e
      cases e
      exact ⟨by show p + 1 ≤ 4; omega, by show 0 ≤ 10; omega, by show 0 ≤ 8; omega⟩
    · rw [if_neg b] at e
      cases e
def wfa (pg : Nat → Nat) : Nat → Nat → Nat × Nat × Nat → Nat × (Nat × Nat × Nat)
  | 0, k, s => (k, s)
  | d + 1, k, s => match wstep s (pg k) with
    | some s' => wfa pg d (k + 1) s'
    | none => (k, s)
theorem wfa_some {pg : Nat → Nat} {d k : Nat} {s s' : Nat × Nat × Nat} (e : wstep s (pg k) = some s') : wfa pg (d + 1) k s = wfa pg d (k + 1) s' := by simp only [wfa, e]
theorem wfa_none {pg : Nat → Nat} {d k : Nat} {s : Nat × Nat × Nat} (e : wstep s (pg k) = none) : wfa pg (d + 1) k s = (k, s) := by simp only [wfa, e]
theorem wfa_ok (pg : Nat → Nat) : ∀ d k s, wok s → wok (wfa pg d k s).2 ∧ k ≤ (wfa pg d k s).1 ∧ (wfa pg d k s).1 ≤ k + d
  | 0, k, s, h => ⟨h, Nat.le_refl _, Nat.le_refl _⟩
  | d + 1, k, s, h => by
    cases e : wstep s (pg k) with
    | none =>
      rw [wfa_none e]
      exact ⟨h, Nat.le_refl _, Nat.le_add_right _ _⟩
    | some s' =>
      rw [wfa_some e]
      have := wfa_ok pg d (k + 1) s' (wstep_ok h e)
      exact ⟨this.1, by omega, by omega⟩
def wcourt (pg : Nat → Nat) (n : Nat) : Bool := decide ((wfa pg n 0 (0, 0, 0)).1 = n ∧ (wfa pg n 0 (0, 0, 0)).2.1 = 4 ∧ 0 < (wfa pg n 0 (0, 0, 0)).2.2.1)
def dleft (wm dm : Nat → Nat) (n : Nat) : Nat → Nat
  | 0 => 31
  | i + 1 => if wm i = n then dleft wm dm n i &&& dm i else dleft wm dm n i
theorem dleft_le (wm dm : Nat → Nat) (n : Nat) : ∀ i, dleft wm dm n i ≤ 31
  | 0 => Nat.le_refl _
  | i + 1 => by
    have h := dleft_le wm dm n i
    unfold dleft
    split
    · exact Nat.le_trans Nat.and_le_left h
    · exact h
set_option maxRecDepth 20000 in
theorem c_hsize {σ : aH} {a b c hs : Nat} (h1 : σ[a]? = some (aO 3 [.ref b, .ref c, .int (nI hs)])) : MX3_size 0 0 0 [.ref a] σ (aPu (some (.int (nI hs))) σ) := by
  refine sX3_size (Nat.le_of_ble_eq_true rfl) ?_
  refine g_aload eX3_size_0 rfl ?_
  refine g_get eX3_size_1 fX3_18_X3 (by assumption) (by rfl) ?_
  exact g_ret (eX3_size_4 _) (Nat.le_refl _) (Nat.le_refl _) ⟨rfl, rfl⟩
set_option maxRecDepth 20000 in
theorem c_hclear {σ : aH} {a b c : Nat} {z : Int32} (h1 : σ[a]? = some (aO 3 [.ref b, .ref c, .int z])) : MX3_clear 0 0 0 [.ref a] σ (aPu none (σ.set a (aO 3 [.ref b, .ref c, .int (nI 0)]))) := by
  refine sX3_clear (Nat.le_of_ble_eq_true rfl) ?_
  refine g_aload eX3_clear_0 rfl ?_
  refine g_push eX3_clear_1 ?_
  refine g_putI eX3_clear_2 fX3_18_X3 pX3_2 (by assumption) (by exact Nat.le_of_ble_eq_true rfl) ?_
  exact g_ret eX3_clear_5 (Nat.le_refl _) (Nat.le_refl _) ⟨rfl, rfl⟩
set_option maxRecDepth 20000 in
theorem c_deedsLeft {σ : aH} {a b c hs : Nat} {wm dm : List Nat} (h1 : σ[a]? = some (aO 3 [.ref b, .ref c, .int (nI hs)])) (h2 : σ[b]? = some (aA wm)) (h3 : σ[c]? = some (aA dm)) (hl2 : wm.length = 8) (hl3 : dm.length = 8) (hs8 : hs ≤ 8) (hw : ∀ k, wm.getD k 0 < 65536) {n : Nat} (hn : n < 65536) : MX3_deedsLeft 0 0 0 [.ref a, .int (nI n)] σ (aPu (some (.int (nI (dleft (shW wm) (shW dm) n hs)))) σ) := by
  refine sX3_deedsLeft (Nat.le_of_ble_eq_true rfl) ?_
  have key : ∀ d i, i + d = hs → GX3_deedsLeft 0 0 0 (aPu (some (.int (nI (dleft (shW wm) (shW dm) n hs)))) σ) 0 0 5 [some (.ref a), some (.int (nI n)), some (.int (nI (dleft (shW wm) (shW dm) n i))), some (.int (nI i))] [] σ := by
    intro d
    induction d with
    | zero =>
      intro i hi
      obtain rfl : i = hs := by omega
      refine g_iload eX3_deedsLeft_5 rfl ?_
      refine g_aload eX3_deedsLeft_6 rfl ?_
      refine g_get eX3_deedsLeft_7 fX3_18_X3 (by assumption) (by rfl) ?_
      refine g_icmp_geN eX3_deedsLeft_10 (by omega) (by omega) (fun c10 => ?_) (fun c10 => by exfalso; omega)
      refine g_iload eX3_deedsLeft_38 rfl ?_
      exact g_ret (eX3_deedsLeft_39 _) (Nat.le_refl _) (Nat.le_refl _) ⟨rfl, rfl⟩
    | succ d ih =>
      intro i hi
      have hb := hw i
      have ih2 := ih (i + 1) (by omega)
      refine g_iload eX3_deedsLeft_5 rfl ?_
      refine g_aload eX3_deedsLeft_6 rfl ?_
      refine g_get eX3_deedsLeft_7 fX3_18_X3 (by assumption) (by rfl) ?_
      refine g_icmp_geN eX3_deedsLeft_10 (by omega) (by omega) (fun c10 => by exfalso; omega) (fun c10 => ?_)
      refine g_aload eX3_deedsLeft_13 rfl ?_
      refine g_get eX3_deedsLeft_14 fX3_9_X3 (by assumption) (by rfl) ?_
      refine g_iload eX3_deedsLeft_17 rfl ?_
      refine g_ialdN eX3_deedsLeft_18 (by assumption) (by omega) (by omega) ?_
      refine g_iload eX3_deedsLeft_19 rfl ?_
      refine g_icmp_neN eX3_deedsLeft_20 (by omega) (by omega) (fun c20 => ?_) (fun c20 => ?_)
      · refine g_iincN eX3_deedsLeft_32 rfl rfl ?_
        refine g_goto eX3_deedsLeft_35 ?_
        first
          | (have e2 : dleft (shW wm) (shW dm) n (i + 1) = (dleft (shW wm) (shW dm) n i &&& dm.getD i 0) := if_pos c20
             rw [e2] at ih2; exact ih2)
          | (have e2 : dleft (shW wm) (shW dm) n (i + 1) = dleft (shW wm) (shW dm) n i := if_neg c20
             rw [e2] at ih2; exact ih2)
      · refine g_iload eX3_deedsLeft_23 rfl ?_
        refine g_aload eX3_deedsLeft_24 rfl ?_
        refine g_get eX3_deedsLeft_25 fX3_15_X3 (by assumption) (by rfl) ?_
        refine g_iload eX3_deedsLeft_28 rfl ?_
        refine g_ialdN eX3_deedsLeft_29 (by assumption) (by omega) (by omega) ?_
        refine g_iandN eX3_deedsLeft_30 ?_
        refine g_istore eX3_deedsLeft_31 rfl ?_
        refine g_iincN eX3_deedsLeft_32 rfl rfl ?_
        refine g_goto eX3_deedsLeft_35 ?_
        first
          | (have e2 : dleft (shW wm) (shW dm) n (i + 1) = (dleft (shW wm) (shW dm) n i &&& dm.getD i 0) := if_pos c20
             rw [e2] at ih2; exact ih2)
          | (have e2 : dleft (shW wm) (shW dm) n (i + 1) = dleft (shW wm) (shW dm) n i := if_neg c20
             rw [e2] at ih2; exact ih2)
  refine g_push eX3_deedsLeft_0 ?_
  refine g_istore eX3_deedsLeft_2 rfl ?_
  refine g_push eX3_deedsLeft_3 ?_
  refine g_istore eX3_deedsLeft_4 rfl ?_
  exact key hs 0 (by omega)
set_option maxRecDepth 20000 in
theorem c_enter {σ : aH} {w : Nat} {x0 x1 x2 : Int32} (h1 : σ[w]? = some (aO 9 [.int x0, .int x1, .int x2])) {x : Int32} : MX9_enter 0 0 0 [.ref w, .int x] σ (aPu none (σ.set w (aO 9 [.int x, .int (nI 0), .int (-1)]))) := by
  refine sX9_enter (Nat.le_of_ble_eq_true rfl) ?_
  refine g_aload eX9_enter_0 rfl ?_
  refine g_iload eX9_enter_1 rfl ?_
  refine g_putI eX9_enter_2 fX9_22_X9 pX9_0 h1 (by exact Nat.le_of_ble_eq_true rfl) ?_
  refine g_aload eX9_enter_5 rfl ?_
  refine g_push eX9_enter_6 ?_
  refine g_putI eX9_enter_7 fX9_26_X9 pX9_1 (at_eq h1) (by exact Nat.le_of_ble_eq_true rfl) ?_
  refine g_aload eX9_enter_10 rfl ?_
  refine g_push eX9_enter_11 ?_
  refine g_putI eX9_enter_12 fX9_29_X9 pX9_2 (at_eq (at_eq h1)) (by exact Nat.le_of_ble_eq_true rfl) ?_
  exact g_ret eX9_enter_15 (Nat.le_refl _) (Nat.le_refl _) ⟨rfl, by rw [List.set_set, List.set_set]; rfl⟩
set_option maxRecDepth 20000 in
theorem c_begin {σ : aH} {w : Nat} {x0 x1 x2 : Int32} (h1 : σ[w]? = some (aO 9 [.int x0, .int x1, .int x2])) : MX9_begin 1 0 0 [.ref w] σ (aPu none (σ.set w (wO (0, 0, 0)))) := by
  refine sX9_begin (Nat.le_of_ble_eq_true rfl) ?_
  refine g_aload eX9_begin_0 rfl ?_
  refine g_push eX9_begin_1 ?_
  refine g_callV0 (r := (RX9, TX9, 3)) eX9_begin_2 kX9_9 (by assumption) (by rfl) (c_enter h1) (by rfl) (by rfl) (by exact Nat.le_of_ble_eq_true rfl) (by exact Nat.le_of_ble_eq_true rfl) (by exact Nat.le_of_ble_eq_true rfl) (Nat.le_refl _) (Nat.le_refl _) (fun v2 σ2 hp2 hn2 => ?_)
  obtain ⟨rfl, rfl⟩ := hp2
  exact g_ret eX9_begin_5 (Nat.le_refl _) (Nat.le_refl _) ⟨rfl, rfl⟩
set_option maxRecDepth 20000 in
theorem c_isWhole {σ : aH} {w : Nat} {s : Nat × Nat × Nat} (h1 : σ[w]? = some (wO s)) (ho : wok s) : MX9_isWhole 0 0 0 [.ref w] σ (fun v σ' => v = some (.int (nI (decide (s.1 = 4 ∧ 0 < s.2.1)).toNat)) ∧ σ' = σ) := by
  refine sX9_isWhole (Nat.le_of_ble_eq_true rfl) ?_
  obtain ⟨ho1, ho2, ho3⟩ := ho
  refine g_aload eX9_isWhole_0 rfl ?_
  refine g_get eX9_isWhole_1 fX9_22_X9 (by assumption) (by rfl) ?_
  refine g_push eX9_isWhole_4 ?_
  refine g_icmp_neN eX9_isWhole_5 (by omega) (by omega) (fun c5 => ?_) (fun c5 => ?_)
  · refine g_push eX9_isWhole_19 ?_
    exact g_ret (eX9_isWhole_20 _ (by first | exact Or.inl rfl | exact Or.inr rfl)) (Nat.le_refl _) (Nat.le_refl _) ⟨by first | rw [decide_eq_true (by omega)]; rfl | rw [decide_eq_false (by omega)]; rfl, rfl⟩
  · refine g_aload eX9_isWhole_8 rfl ?_
    refine g_get eX9_isWhole_9 fX9_26_X9 (by assumption) (by rfl) ?_
    refine g_if_leN eX9_isWhole_12 (by omega) (fun c12 => ?_) (fun c12 => ?_)
    · refine g_push eX9_isWhole_19 ?_
      exact g_ret (eX9_isWhole_20 _ (by first | exact Or.inl rfl | exact Or.inr rfl)) (Nat.le_refl _) (Nat.le_refl _) ⟨by first | rw [decide_eq_true (by omega)]; rfl | rw [decide_eq_false (by omega)]; rfl, rfl⟩
    · refine g_push eX9_isWhole_15 ?_
      refine g_goto eX9_isWhole_16 ?_
      exact g_ret (eX9_isWhole_20 _ (by first | exact Or.inl rfl | exact Or.inr rfl)) (Nat.le_refl _) (Nat.le_refl _) ⟨by first | rw [decide_eq_true (by omega)]; rfl | rw [decide_eq_false (by omega)]; rfl, rfl⟩
set_option maxRecDepth 20000 in
theorem c_passesWord {σ : aH} {w : Nat} {s : Nat × Nat × Nat} (h1 : σ[w]? = some (wO s)) (ho : wok s) {v : Nat} (hv : v < 8) : MX9_passesWord 0 0 0 [.ref w, .int (nI v)] σ (fun r σ' => (pword s.1 s.2.1 s.2.2 v = true ∧ r = some (.int (nI 1)) ∧ σ' = σ.set w (wO (s.1, s.2.1 + 1, v + 1))) ∨ (pword s.1 s.2.1 s.2.2 v = false ∧ r = some (.int (nI 0)) ∧ σ' = σ)) := by
  refine sX9_passesWord (Nat.le_of_ble_eq_true rfl) ?_
  obtain ⟨ho1, ho2, ho3⟩ := ho
  refine g_aload eX9_passesWord_0 rfl ?_
  refine g_get eX9_passesWord_1 fX9_22_X9 (by assumption) (by rfl) ?_
  refine g_push eX9_passesWord_4 ?_
  refine g_icmp_geN eX9_passesWord_5 (by omega) (by omega) (fun c5 => ?_) (fun c5 => ?_)
  · refine g_aload eX9_passesWord_33 rfl ?_
    refine g_get eX9_passesWord_34 fX9_26_X9 (by assumption) (by rfl) ?_
    refine g_push eX9_passesWord_37 ?_
    refine g_icmp_geN eX9_passesWord_39 (by omega) (by omega) (fun c39 => ?_) (fun c39 => ?_)
    · refine g_push eX9_passesWord_46 ?_
      refine g_istore eX9_passesWord_47 rfl ?_
      refine g_iload eX9_passesWord_48 rfl ?_
      refine g_if_eqN eX9_passesWord_49 (by omega) (fun c49 => ?_) (fun c49 => ?_)
      · refine g_iload eX9_passesWord_67 rfl ?_
        exact g_ret (eX9_passesWord_68 _ (Or.inl rfl)) (Nat.le_refl _) (Nat.le_refl _) (Or.inr ⟨by unfold pword; first | (rw [if_pos (by omega)]; exact decide_eq_false (by omega)) | (rw [if_neg (by omega)]; exact decide_eq_false (by omega)), rfl, rfl⟩)
      · exact absurd rfl c49
    · refine g_push eX9_passesWord_42 ?_
      refine g_goto eX9_passesWord_43 ?_
      refine g_istore eX9_passesWord_47 rfl ?_
      refine g_iload eX9_passesWord_48 rfl ?_
      refine g_if_eqN eX9_passesWord_49 (by omega) (fun c49 => ?_) (fun c49 => ?_)
      · exact absurd c49 (by decide)
      · refine g_aload eX9_passesWord_52 rfl ?_
        refine g_dup eX9_passesWord_53 rfl ?_
        refine g_get eX9_passesWord_54 fX9_26_X9 h1 (by rfl) ?_
        refine g_push eX9_passesWord_57 ?_
        refine g_iaddN eX9_passesWord_58 ?_
        refine g_putI eX9_passesWord_59 fX9_26_X9 pX9_1 h1 (by exact Nat.le_of_ble_eq_true rfl) ?_
        refine g_aload eX9_passesWord_62 rfl ?_
        refine g_iload eX9_passesWord_63 rfl ?_
        refine g_putI eX9_passesWord_64 fX9_29_X9 pX9_2 (at_eq h1) (by exact Nat.le_of_ble_eq_true rfl) ?_
        refine g_iload eX9_passesWord_67 rfl ?_
        exact g_ret (eX9_passesWord_68 _ (Or.inr rfl)) (Nat.le_refl _) (Nat.le_refl _) (Or.inl ⟨by unfold pword; first | (rw [if_pos (by omega)]; exact decide_eq_true (by omega)) | (rw [if_neg (by omega)]; exact decide_eq_true (by omega)), rfl, by rw [List.set_set]; rfl⟩)
  · refine g_aload eX9_passesWord_8 rfl ?_
    refine g_get eX9_passesWord_9 fX9_26_X9 (by assumption) (by rfl) ?_
    refine g_push eX9_passesWord_12 ?_
    refine g_icmp_geN eX9_passesWord_13 (by omega) (by omega) (fun c13 => ?_) (fun c13 => ?_)
    · refine g_push eX9_passesWord_28 ?_
      refine g_istore eX9_passesWord_29 rfl ?_
      refine g_goto eX9_passesWord_30 ?_
      refine g_iload eX9_passesWord_48 rfl ?_
      refine g_if_eqN eX9_passesWord_49 (by omega) (fun c49 => ?_) (fun c49 => ?_)
      · refine g_iload eX9_passesWord_67 rfl ?_
        exact g_ret (eX9_passesWord_68 _ (Or.inl rfl)) (Nat.le_refl _) (Nat.le_refl _) (Or.inr ⟨by unfold pword; first | (rw [if_pos (by omega)]; exact decide_eq_false (by omega)) | (rw [if_neg (by omega)]; exact decide_eq_false (by omega)), rfl, rfl⟩)
      · exact absurd rfl c49
    · refine g_iload eX9_passesWord_16 rfl ?_
      refine g_aload eX9_passesWord_17 rfl ?_
      refine g_get eX9_passesWord_18 fX9_29_X9 (by assumption) (by rfl) ?_
      refine g_icmp_le eX9_passesWord_21 (fun c21 => ?_) (fun c21 => ?_)
      · have c21 := (lw_le (by omega) (by omega)).mp c21
        refine g_push eX9_passesWord_28 ?_
        refine g_istore eX9_passesWord_29 rfl ?_
        refine g_goto eX9_passesWord_30 ?_
        refine g_iload eX9_passesWord_48 rfl ?_
        refine g_if_eqN eX9_passesWord_49 (by omega) (fun c49 => ?_) (fun c49 => ?_)
        · refine g_iload eX9_passesWord_67 rfl ?_
          exact g_ret (eX9_passesWord_68 _ (Or.inl rfl)) (Nat.le_refl _) (Nat.le_refl _) (Or.inr ⟨by unfold pword; first | (rw [if_pos (by omega)]; exact decide_eq_false (by omega)) | (rw [if_neg (by omega)]; exact decide_eq_false (by omega)), rfl, rfl⟩)
        · exact absurd rfl c49
      · have c21 : ¬ v < s.2.2 := fun z => c21 ((lw_le (by omega) (by omega)).mpr z)
        refine g_push eX9_passesWord_24 ?_
        refine g_goto eX9_passesWord_25 ?_
        refine g_istore eX9_passesWord_29 rfl ?_
        refine g_goto eX9_passesWord_30 ?_
        refine g_iload eX9_passesWord_48 rfl ?_
        refine g_if_eqN eX9_passesWord_49 (by omega) (fun c49 => ?_) (fun c49 => ?_)
        · exact absurd c49 (by decide)
        · refine g_aload eX9_passesWord_52 rfl ?_
          refine g_dup eX9_passesWord_53 rfl ?_
          refine g_get eX9_passesWord_54 fX9_26_X9 h1 (by rfl) ?_
          refine g_push eX9_passesWord_57 ?_
          refine g_iaddN eX9_passesWord_58 ?_
          refine g_putI eX9_passesWord_59 fX9_26_X9 pX9_1 h1 (by exact Nat.le_of_ble_eq_true rfl) ?_
          refine g_aload eX9_passesWord_62 rfl ?_
          refine g_iload eX9_passesWord_63 rfl ?_
          refine g_putI eX9_passesWord_64 fX9_29_X9 pX9_2 (at_eq h1) (by exact Nat.le_of_ble_eq_true rfl) ?_
          refine g_iload eX9_passesWord_67 rfl ?_
          exact g_ret (eX9_passesWord_68 _ (Or.inr rfl)) (Nat.le_refl _) (Nat.le_refl _) (Or.inl ⟨by unfold pword; first | (rw [if_pos (by omega)]; exact decide_eq_true (by omega)) | (rw [if_neg (by omega)]; exact decide_eq_true (by omega)), rfl, by rw [List.set_set]; rfl⟩)
theorem hasT2_ {x : Int32} {sz : Nat} (c1 : ¬ x < 0) (c9 : ¬ nI sz ≤ x) (hs : sz ≤ 1000) : (∃ j, j < sz ∧ x = nI j ∧ (some (Value.int (nI 1)) = some (Value.int (nI 1)))) ∨ ((∀ j, j < sz → x ≠ nI j) ∧ some (Value.int (nI 1)) = some (Value.int (nI 0))) := by
  obtain ⟨j, hj, rfl⟩ := nI_of c1
  refine Or.inl ⟨j, ?_, rfl, rfl⟩
  rw [nI_leI (by omega) hj] at c9
  omega
theorem hasF2_ {x : Int32} {sz : Nat} (c : x < 0 ∨ nI sz ≤ x) (hs : sz ≤ 1000) : (∃ j, j < sz ∧ x = nI j ∧ (some (Value.int (nI 0)) = some (Value.int (nI 1)))) ∨ ((∀ j, j < sz → x ≠ nI j) ∧ some (Value.int (nI 0)) = some (Value.int (nI 0))) := by
  refine Or.inr ⟨fun j hj => ?_, rfl⟩
  rintro rfl
  rcases c with c | c
  · exact nA_lt0 (by omega) c
  · rw [nI_leI (by omega) (by omega)] at c
    omega
set_option maxRecDepth 20000 in
theorem c_isWord {σ : aH} {x : Int32} : MX11_isWord 0 0 0 [.int x] σ (fun v σ' => ((∃ j, j < 8 ∧ x = nI j ∧ v = some (.int (nI 1))) ∨ ((∀ j, j < 8 → x ≠ nI j) ∧ v = some (.int (nI 0)))) ∧ σ' = σ) := by
  refine sX11_isWord (Nat.le_of_ble_eq_true rfl) ?_
  refine g_iload eX11_isWord_0 rfl ?_
  refine g_if_lt eX11_isWord_1 (fun c1 => ?_) (fun c1 => ?_)
  · refine g_push eX11_isWord_14 ?_
    exact g_ret (eX11_isWord_15 _ (by first | exact Or.inl rfl | exact Or.inr rfl)) (Nat.le_refl _) (Nat.le_refl _) ⟨by first | exact hasT2_ c1 c7 (by decide) | exact hasF2_ (by first | exact Or.inl c1 | exact Or.inr c7) (by decide), rfl⟩
  · refine g_iload eX11_isWord_4 rfl ?_
    refine g_push eX11_isWord_5 ?_
    refine g_icmp_ge eX11_isWord_7 (fun c7 => ?_) (fun c7 => ?_)
    · refine g_push eX11_isWord_14 ?_
      exact g_ret (eX11_isWord_15 _ (by first | exact Or.inl rfl | exact Or.inr rfl)) (Nat.le_refl _) (Nat.le_refl _) ⟨by first | exact hasT2_ c1 c7 (by decide) | exact hasF2_ (by first | exact Or.inl c1 | exact Or.inr c7) (by decide), rfl⟩
    · refine g_push eX11_isWord_10 ?_
      refine g_goto eX11_isWord_11 ?_
      exact g_ret (eX11_isWord_15 _ (by first | exact Or.inl rfl | exact Or.inr rfl)) (Nat.le_refl _) (Nat.le_refl _) ⟨by first | exact hasT2_ c1 c7 (by decide) | exact hasF2_ (by first | exact Or.inl c1 | exact Or.inr c7) (by decide), rfl⟩
theorem c97 {c : Nat} (hc : c < 1000) {j : Nat} (hj : j < 8) : nI c - nI 97 = nI j ↔ c = j + 97 := by
  constructor
  · intro h
    have h1 := congrArg Int32.toInt h
    rw [pk_sub_toInt (by omega) (by omega), nI_toInt (by omega)] at h1
    omega
  · rintro rfl
    rw [pk_sub (by omega), Nat.add_sub_cancel]
theorem wstep_none {s : Nat × Nat × Nat} {c : Nat} (h1 : ¬ (97 ≤ c ∧ c < 105)) (h2 : s.1 < 4 → 0 < s.2.1 → c = (if s.1 = 3 then 59 else 44) → False) : wstep s c = none := by
  unfold wstep
  rw [if_neg h1, if_neg (fun h => h2 h.1 h.2.1 h.2.2)]
theorem wstep_sep {s : Nat × Nat × Nat} {c : Nat} (h1 : ¬ (97 ≤ c ∧ c < 105)) (h2 : s.1 < 4) (h3 : 0 < s.2.1) (h4 : c = (if s.1 = 3 then 59 else 44)) : wstep s c = some (s.1 + 1, 0, 0) := by
  unfold wstep
  rw [if_neg h1, if_pos ⟨h2, h3, h4⟩]
set_option maxRecDepth 20000 in
theorem c_passes {σ : aH} {w : Nat} {s : Nat × Nat × Nat} (h1 : σ[w]? = some (wO s)) (ho : wok s) {c : Nat} (hc : c < 1000) : MX9_passes 1 0 0 [.ref w, .int (nI c)] σ (fun r σ' => (∃ s', wstep s c = some s' ∧ r = some (.int (nI 1)) ∧ σ' = σ.set w (wO s')) ∨ (wstep s c = none ∧ r = some (.int (nI 0)) ∧ σ' = σ)) := by
  refine sX9_passes (Nat.le_of_ble_eq_true rfl) ?_
  have ho' := ho
  obtain ⟨ho1, ho2, ho3⟩ := ho'
  refine g_iload eX9_passes_0 rfl ?_
  refine g_push eX9_passes_1 ?_
  refine g_isub eX9_passes_3 ?_
  refine g_istore eX9_passes_4 rfl ?_
  refine g_iload eX9_passes_5 rfl ?_
  refine g_callSn0 eX9_passes_6 kX9_15 (c_isWord) (by rfl) (by rfl) (by exact Nat.le_of_ble_eq_true rfl) (by exact Nat.le_of_ble_eq_true rfl) (by exact Nat.le_of_ble_eq_true rfl) (Nat.le_refl _) (Nat.le_refl _) (fun v6 σ6 hp6 hn6 => ?_)
  obtain ⟨h6, rfl⟩ := hp6
  rcases h6 with ⟨j, hj, e6, rfl⟩ | ⟨h6, rfl⟩
  · refine g_if_eqN eX9_passes_9 (by omega) (fun c9 => absurd c9 (by decide)) (fun c9 => ?_)
    refine g_aload eX9_passes_12 rfl ?_
    refine g_iload eX9_passes_13 rfl ?_
    rw [e6]
    refine g_callV0 (r := (RX9, TX9, 3)) eX9_passes_14 kX9_19 (by assumption) (by rfl) (c_passesWord h1 ho hj) (by rfl) (by rfl) (by exact Nat.le_of_ble_eq_true rfl) (by exact Nat.le_of_ble_eq_true rfl) (by exact Nat.le_of_ble_eq_true rfl) (Nat.le_refl _) (Nat.le_refl _) (fun v14 σ14 hp14 hn14 => ?_)
    obtain rfl := (c97 hc hj).mp e6
    rcases hp14 with ⟨q1, rfl, rfl⟩ | ⟨q1, rfl, rfl⟩
    · exact g_ret (eX9_passes_17 _ (Or.inr rfl)) (Nat.le_refl _) (Nat.le_refl _) (Or.inl ⟨_, by unfold wstep; rw [if_pos (by omega), Nat.add_sub_cancel, if_pos q1], rfl, rfl⟩)
    · exact g_ret (eX9_passes_17 _ (Or.inl rfl)) (Nat.le_refl _) (Nat.le_refl _) (Or.inr ⟨by unfold wstep; rw [if_pos (by omega), Nat.add_sub_cancel, if_neg (fun h => by rw [q1] at h; cases h)], rfl, rfl⟩)
  · refine g_if_eqN eX9_passes_9 (by omega) (fun c9 => ?_) (fun c9 => absurd rfl c9)
    have hno : ¬ (97 ≤ c ∧ c < 105) := fun h => h6 (c - 97) (by omega) ((c97 hc (by omega)).mpr (by omega))
    refine g_aload eX9_passes_18 rfl ?_
    refine g_get eX9_passes_19 fX9_22_X9 (by assumption) (by rfl) ?_
    refine g_push eX9_passes_22 ?_
    refine g_icmp_geN eX9_passes_23 (by omega) (by omega) (fun c23 => ?_) (fun c23 => ?_)
    · refine g_push eX9_passes_33 ?_
      exact g_ret (eX9_passes_34 _ (Or.inl rfl)) (Nat.le_refl _) (Nat.le_refl _) (Or.inr ⟨wstep_none (fun h => by omega) (fun h1 h2 h3 => by first | omega | (rw [if_pos (by omega)] at h3; omega) | (rw [if_neg (by omega)] at h3; omega)), rfl, rfl⟩)
    · refine g_aload eX9_passes_26 rfl ?_
      refine g_get eX9_passes_27 fX9_26_X9 (by assumption) (by rfl) ?_
      refine g_if_neN eX9_passes_30 (by omega) (fun c30 => ?_) (fun c30 => ?_)
      · refine g_iload eX9_passes_35 rfl ?_
        refine g_aload eX9_passes_36 rfl ?_
        refine g_get eX9_passes_37 fX9_22_X9 (by assumption) (by rfl) ?_
        refine g_push eX9_passes_40 ?_
        refine g_icmp_neN eX9_passes_41 (by omega) (by omega) (fun c41 => ?_) (fun c41 => ?_)
        · refine g_push eX9_passes_49 ?_
          refine g_icmp_eqN eX9_passes_51 (by omega) (by omega) (fun c51 => ?_) (fun c51 => ?_)
          · refine g_aload eX9_passes_56 rfl ?_
            refine g_aload eX9_passes_57 rfl ?_
            refine g_get eX9_passes_58 fX9_22_X9 (by assumption) (by rfl) ?_
            refine g_push eX9_passes_61 ?_
            refine g_iaddN eX9_passes_62 ?_
            refine g_callV0 (r := (RX9, TX9, 3)) eX9_passes_63 kX9_9 (by assumption) (by rfl) (c_enter h1) (by rfl) (by rfl) (by exact Nat.le_of_ble_eq_true rfl) (by exact Nat.le_of_ble_eq_true rfl) (by exact Nat.le_of_ble_eq_true rfl) (Nat.le_refl _) (Nat.le_refl _) (fun v63 σ63 hp63 hn63 => ?_)
            obtain ⟨rfl, rfl⟩ := hp63
            refine g_push eX9_passes_66 ?_
            exact g_ret (eX9_passes_67 _ (Or.inr rfl)) (Nat.le_refl _) (Nat.le_refl _) (Or.inl ⟨_, wstep_sep (fun h => by omega) (by omega) (by omega) (by first | (rw [if_pos (by omega)]; omega) | (rw [if_neg (by omega)]; omega)), rfl, rfl⟩)
          · refine g_push eX9_passes_54 ?_
            exact g_ret (eX9_passes_55 _ (Or.inl rfl)) (Nat.le_refl _) (Nat.le_refl _) (Or.inr ⟨wstep_none (fun h => by omega) (fun h1 h2 h3 => by first | omega | (rw [if_pos (by omega)] at h3; omega) | (rw [if_neg (by omega)] at h3; omega)), rfl, rfl⟩)
        · refine g_push eX9_passes_44 ?_
          refine g_goto eX9_passes_46 ?_
          refine g_icmp_eqN eX9_passes_51 (by omega) (by omega) (fun c51 => ?_) (fun c51 => ?_)
          · refine g_aload eX9_passes_56 rfl ?_
            refine g_aload eX9_passes_57 rfl ?_
            refine g_get eX9_passes_58 fX9_22_X9 (by assumption) (by rfl) ?_
            refine g_push eX9_passes_61 ?_
            refine g_iaddN eX9_passes_62 ?_
            refine g_callV0 (r := (RX9, TX9, 3)) eX9_passes_63 kX9_9 (by assumption) (by rfl) (c_enter h1) (by rfl) (by rfl) (by exact Nat.le_of_ble_eq_true rfl) (by exact Nat.le_of_ble_eq_true rfl) (by exact Nat.le_of_ble_eq_true rfl) (Nat.le_refl _) (Nat.le_refl _) (fun v63 σ63 hp63 hn63 => ?_)
            obtain ⟨rfl, rfl⟩ := hp63
            refine g_push eX9_passes_66 ?_
            exact g_ret (eX9_passes_67 _ (Or.inr rfl)) (Nat.le_refl _) (Nat.le_refl _) (Or.inl ⟨_, wstep_sep (fun h => by omega) (by omega) (by omega) (by first | (rw [if_pos (by omega)]; omega) | (rw [if_neg (by omega)]; omega)), rfl, rfl⟩)
          · refine g_push eX9_passes_54 ?_
            exact g_ret (eX9_passes_55 _ (Or.inl rfl)) (Nat.le_refl _) (Nat.le_refl _) (Or.inr ⟨wstep_none (fun h => by omega) (fun h1 h2 h3 => by first | omega | (rw [if_pos (by omega)] at h3; omega) | (rw [if_neg (by omega)] at h3; omega)), rfl, rfl⟩)
      · refine g_push eX9_passes_33 ?_
        exact g_ret (eX9_passes_34 _ (Or.inl rfl)) (Nat.le_refl _) (Nat.le_refl _) (Or.inr ⟨wstep_none (fun h => by omega) (fun h1 h2 h3 => by first | omega | (rw [if_pos (by omega)] at h3; omega) | (rw [if_neg (by omega)] at h3; omega)), rfl, rfl⟩)
set_option maxRecDepth 20000 in
theorem c_psize {σ : aH} {a b w n : Nat} (h1 : σ[a]? = some (aO 5 [.ref b, .ref w, .int (nI n)])) : MX5_size 0 0 0 [.ref a] σ (aPu (some (.int (nI n))) σ) := by
  refine sX5_size (Nat.le_of_ble_eq_true rfl) ?_
  refine g_aload eX5_size_0 rfl ?_
  refine g_get eX5_size_1 fX5_22_X5 (by assumption) (by rfl) ?_
  exact g_ret (eX5_size_4 _) (Nat.le_refl _) (Nat.le_refl _) ⟨rfl, rfl⟩
set_option maxRecDepth 20000 in
theorem c_pclear {σ : aH} {a b w : Nat} {z : Int32} (h1 : σ[a]? = some (aO 5 [.ref b, .ref w, .int z])) : MX5_clear 0 0 0 [.ref a] σ (aPu none (σ.set a (aO 5 [.ref b, .ref w, .int (nI 0)]))) := by
  refine sX5_clear (Nat.le_of_ble_eq_true rfl) ?_
  refine g_aload eX5_clear_0 rfl ?_
  refine g_push eX5_clear_1 ?_
  refine g_putI eX5_clear_2 fX5_22_X5 pX5_2 (by assumption) (by exact Nat.le_of_ble_eq_true rfl) ?_
  exact g_ret eX5_clear_5 (Nat.le_refl _) (Nat.le_refl _) ⟨rfl, rfl⟩
set_option maxRecDepth 20000 in
theorem c_codeAt {σ : aH} {a b w n : Nat} {cd : List Nat} (h1 : σ[a]? = some (aO 5 [.ref b, .ref w, .int (nI n)])) (h2 : σ[b]? = some (aA cd)) (hl : cd.length = 28) (hn : n ≤ 28) {k : Nat} (hk : k < n) : MX5_codeAt 0 0 0 [.ref a, .int (nI k)] σ (aPu (some (.int (nI (cd.getD k 0)))) σ) := by
  refine sX5_codeAt (Nat.le_of_ble_eq_true rfl) ?_
  refine g_iload eX5_codeAt_0 rfl ?_
  refine g_if_ltN eX5_codeAt_1 (by omega) ?_
  refine g_iload eX5_codeAt_4 rfl ?_
  refine g_aload eX5_codeAt_5 rfl ?_
  refine g_get eX5_codeAt_6 fX5_22_X5 (by assumption) (by rfl) ?_
  refine g_icmp_geN eX5_codeAt_9 (by omega) (by omega) (fun c9 => by exfalso; omega) (fun c9 => ?_)
  refine g_aload eX5_codeAt_12 rfl ?_
  refine g_get eX5_codeAt_13 fX5_9_X5 (by assumption) (by rfl) ?_
  refine g_iload eX5_codeAt_16 rfl ?_
  refine g_ialdN eX5_codeAt_17 (by assumption) (by omega) (by omega) ?_
  refine g_goto eX5_codeAt_18 ?_
  exact g_ret (eX5_codeAt_22 _) (Nat.le_refl _) (Nat.le_refl _) ⟨rfl, rfl⟩
set_option maxRecDepth 20000 in
theorem c_padd {σ : aH} {a b w n : Nat} {cd : List Nat} (h1 : σ[a]? = some (aO 5 [.ref b, .ref w, .int (nI n)])) (h2 : σ[b]? = some (aA cd)) (hl : cd.length = 28) (hn : n ≤ 28) (hab : b ≠ a) {c : Nat} : MX5_add 0 0 0 [.ref a, .int (nI c)] σ (fun v σ' => (n < 28 ∧ v = some (.int (nI 1)) ∧ σ' = (σ.set b (aA (cd.set n c))).set a (aO 5 [.ref b, .ref w, .int (nI (n + 1))])) ∨ (n = 28 ∧ v = some (.int (nI 0)) ∧ σ' = σ)) := by
  refine sX5_add (Nat.le_of_ble_eq_true rfl) ?_
  refine g_aload eX5_add_0 rfl ?_
  refine g_get eX5_add_1 fX5_22_X5 (by assumption) (by rfl) ?_
  refine g_aload eX5_add_4 rfl ?_
  refine g_get eX5_add_5 fX5_9_X5 (by assumption) (by rfl) ?_
  refine g_ilenN eX5_add_8 (by assumption) ?_
  refine g_icmp_ltN eX5_add_9 (by omega) (by omega) (fun c9 => ?_) (fun c9 => ?_)
  · refine g_aload eX5_add_14 rfl ?_
    refine g_get eX5_add_15 fX5_9_X5 (by assumption) (by rfl) ?_
    refine g_aload eX5_add_18 rfl ?_
    refine g_get eX5_add_19 fX5_22_X5 (by assumption) (by rfl) ?_
    refine g_iload eX5_add_22 rfl ?_
    refine g_iastN eX5_add_23 (by assumption) (by omega) (by omega) ?_
    refine g_aload eX5_add_24 rfl ?_
    refine g_dup eX5_add_25 rfl ?_
    refine g_get eX5_add_26 fX5_22_X5 (at_ne hab h1) (by rfl) ?_
    refine g_push eX5_add_29 ?_
    refine g_iaddN eX5_add_30 ?_
    refine g_putI eX5_add_31 fX5_22_X5 pX5_2 (at_ne hab h1) (by exact Nat.le_of_ble_eq_true rfl) ?_
    refine g_push eX5_add_34 ?_
    exact g_ret (eX5_add_35 _ (Or.inr rfl)) (Nat.le_refl _) (Nat.le_refl _) (Or.inl ⟨by omega, rfl, rfl⟩)
  · refine g_push eX5_add_12 ?_
    exact g_ret (eX5_add_13 _ (Or.inl rfl)) (Nat.le_refl _) (Nat.le_refl _) (Or.inr ⟨by omega, rfl, rfl⟩)
set_option maxRecDepth 20000 in
theorem c_faultPlace {σ : aH} {a b w n : Nat} {cd : List Nat} (h1 : σ[a]? = some (aO 5 [.ref b, .ref w, .int (nI n)])) (h2 : σ[b]? = some (aA cd)) (hl : cd.length = 28) (hn : n ≤ 28) {x0 x1 x2 : Int32} (h3 : σ[w]? = some (aO 9 [.int x0, .int x1, .int x2])) (n1 : w ≠ a) (n2 : w ≠ b) (hc : ∀ k, cd.getD k 0 < 1000) : MX5_faultPlace 2 0 0 [.ref a] σ (aPu (some (.int (nI (wfa (shW cd) n 0 (0, 0, 0)).1))) (σ.set w (wO (wfa (shW cd) n 0 (0, 0, 0)).2))) := by
  refine sX5_faultPlace (Nat.le_of_ble_eq_true rfl) ?_
  have key : ∀ d i s, i + d = n → wok s → wfa (shW cd) d i s = wfa (shW cd) n 0 (0, 0, 0) → GX5_faultPlace 2 0 0 (aPu (some (.int (nI (wfa (shW cd) n 0 (0, 0, 0)).1))) (σ.set w (wO (wfa (shW cd) n 0 (0, 0, 0)).2))) 0 0 9 [some (.ref a), some (.int (nI i))] [] (σ.set w (wO s)) := by
    intro d
    induction d with
    | zero =>
      intro i s hi hs he
      obtain rfl : i = n := by omega
      rw [← he]
      refine g_iload eX5_faultPlace_9 rfl ?_
      refine g_aload eX5_faultPlace_10 rfl ?_
      refine g_get eX5_faultPlace_11 fX5_22_X5 (at_ne n1 h1) (by rfl) ?_
      refine g_icmp_geN eX5_faultPlace_14 (by omega) (by omega) (fun c14 => ?_) (fun c14 => by exfalso; omega)
      refine g_iload eX5_faultPlace_39 rfl ?_
      exact g_ret (eX5_faultPlace_40 _) (Nat.le_refl _) (Nat.le_refl _) ⟨rfl, rfl⟩
    | succ d ih =>
      intro i s hi hs he
      refine g_iload eX5_faultPlace_9 rfl ?_
      refine g_aload eX5_faultPlace_10 rfl ?_
      refine g_get eX5_faultPlace_11 fX5_22_X5 (at_ne n1 h1) (by rfl) ?_
      refine g_icmp_geN eX5_faultPlace_14 (by omega) (by omega) (fun c14 => by exfalso; omega) (fun c14 => ?_)
      refine g_aload eX5_faultPlace_17 rfl ?_
      refine g_get eX5_faultPlace_18 fX5_18_X5 (at_ne n1 h1) (by rfl) ?_
      refine g_aload eX5_faultPlace_21 rfl ?_
      refine g_get eX5_faultPlace_22 fX5_9_X5 (at_ne n1 h1) (by rfl) ?_
      refine g_iload eX5_faultPlace_25 rfl ?_
      refine g_ialdN eX5_faultPlace_26 (at_ne n2 h2) (by omega) (by omega) ?_
      refine g_callV0 (r := (RX9, TX9, 3)) eX5_faultPlace_27 kX5_29 (at_eq h3) (by rfl) (c_passes (s := s) (at_eq h3) hs (hc i)) (by rfl) (by rfl) (by exact Nat.le_of_ble_eq_true rfl) (by exact Nat.le_of_ble_eq_true rfl) (by exact Nat.le_of_ble_eq_true rfl) (Nat.le_refl _) (Nat.le_refl _) (fun v27 σ27 hp27 hn27 => ?_)
      rcases hp27 with ⟨s2, e2, rfl, rfl⟩ | ⟨e2, rfl, rfl⟩
      · refine g_if_eqN eX5_faultPlace_30 (by omega) (fun c30 => absurd c30 (by decide)) (fun c30 => ?_)
        refine g_iincN eX5_faultPlace_33 rfl rfl ?_
        refine g_goto eX5_faultPlace_36 ?_
        rw [List.set_set]
        exact ih (i + 1) s2 (by omega) (wstep_ok hs e2) ((wfa_some (pg := shW cd) e2).symm.trans he)
      · refine g_if_eqN eX5_faultPlace_30 (by omega) (fun c30 => ?_) (fun c30 => absurd rfl c30)
        refine g_iload eX5_faultPlace_39 rfl ?_
        exact g_ret (eX5_faultPlace_40 _) (Nat.le_refl _) (Nat.le_refl _) (by rw [← he, wfa_none (pg := shW cd) e2]; exact ⟨rfl, rfl⟩)
  refine g_aload eX5_faultPlace_0 rfl ?_
  refine g_get eX5_faultPlace_1 fX5_18_X5 h1 (by rfl) ?_
  refine g_callV0 (r := (RX9, TX9, 3)) eX5_faultPlace_4 kX5_26 h3 (by rfl) (c_begin h3) (by rfl) (by rfl) (by exact Nat.le_of_ble_eq_true rfl) (by exact Nat.le_of_ble_eq_true rfl) (by exact Nat.le_of_ble_eq_true rfl) (Nat.le_refl _) (Nat.le_refl _) (fun v4 σ4 hp4 hn4 => ?_)
  obtain ⟨rfl, rfl⟩ := hp4
  refine g_push eX5_faultPlace_7 ?_
  refine g_istore eX5_faultPlace_8 rfl ?_
  exact key n 0 (0, 0, 0) (by omega) ⟨by decide, by decide, by decide⟩ rfl
theorem crt_t {A B : Prop} [d : Decidable B] (a : A) (c : ¬ (decide B).toNat = 0) : A ∧ B := ⟨a, Classical.byContradiction fun h => c (by rw [decide_eq_false h]; rfl)⟩
theorem crt_f {A B : Prop} [d : Decidable B] (c : (decide B).toNat = 0) : ¬ (A ∧ B) := fun h => by rw [decide_eq_true h.2] at c; cases c
set_option maxRecDepth 20000 in
theorem c_isCourt {σ : aH} {a b w n : Nat} {cd : List Nat} (h1 : σ[a]? = some (aO 5 [.ref b, .ref w, .int (nI n)])) (h2 : σ[b]? = some (aA cd)) (hl : cd.length = 28) (hn : n ≤ 28) {x0 x1 x2 : Int32} (h3 : σ[w]? = some (aO 9 [.int x0, .int x1, .int x2])) (n1 : w ≠ a) (n2 : w ≠ b) (hc : ∀ k, cd.getD k 0 < 1000) : MX5_isCourt 3 0 0 [.ref a] σ (aPu (some (.int (nI (wcourt (shW cd) n).toNat))) (σ.set w (wO (wfa (shW cd) n 0 (0, 0, 0)).2))) := by
  refine sX5_isCourt (Nat.le_of_ble_eq_true rfl) ?_
  have hok := wfa_ok (shW cd) n 0 (0, 0, 0) ⟨by decide, by decide, by decide⟩
  refine g_aload eX5_isCourt_0 rfl ?_
  refine g_callV0 (r := (RX5, TX5, 3)) eX5_isCourt_1 kX5_33 h1 (by rfl) (c_faultPlace h1 h2 hl hn h3 n1 n2 hc) (by rfl) (by rfl) (by exact Nat.le_of_ble_eq_true rfl) (by exact Nat.le_of_ble_eq_true rfl) (by exact Nat.le_of_ble_eq_true rfl) (Nat.le_refl _) (Nat.le_refl _) (fun v1 σ1 hp1 hn1 => ?_)
  obtain ⟨rfl, rfl⟩ := hp1
  refine g_aload eX5_isCourt_4 rfl ?_
  refine g_get eX5_isCourt_5 fX5_22_X5 (at_ne n1 h1) (by rfl) ?_
  refine g_icmp_neN eX5_isCourt_8 (by omega) (by omega) (fun c8 => ?_) (fun c8 => ?_)
  · refine g_push eX5_isCourt_25 ?_
    exact g_ret (eX5_isCourt_26 _ (by first | exact Or.inl rfl | exact Or.inr rfl)) (Nat.le_refl _) (Nat.le_refl _) (by unfold wcourt; first | (rw [decide_eq_true (crt_t c8 c18)]; exact ⟨rfl, rfl⟩) | (rw [decide_eq_false (crt_f c18)]; exact ⟨rfl, rfl⟩) | (rw [decide_eq_false (fun h => c8 h.1)]; exact ⟨rfl, rfl⟩))
  · refine g_aload eX5_isCourt_11 rfl ?_
    refine g_get eX5_isCourt_12 fX5_18_X5 (at_ne n1 h1) (by rfl) ?_
    refine g_callV0 (r := (RX9, TX9, 3)) eX5_isCourt_15 kX5_37 (at_eq h3) (by rfl) (c_isWhole (s := (wfa (shW cd) n 0 (0, 0, 0)).2) (at_eq h3) hok.1) (by rfl) (by rfl) (by exact Nat.le_of_ble_eq_true rfl) (by exact Nat.le_of_ble_eq_true rfl) (by exact Nat.le_of_ble_eq_true rfl) (Nat.le_refl _) (Nat.le_refl _) (fun v15 σ15 hp15 hn15 => ?_)
    obtain ⟨rfl, rfl⟩ := hp15
    refine g_if_eqN eX5_isCourt_18 (by have := Bool.toNat_le (decide ((wfa (shW cd) n 0 (0, 0, 0)).2.1 = 4 ∧ 0 < (wfa (shW cd) n 0 (0, 0, 0)).2.2.1)); omega) (fun c18 => ?_) (fun c18 => ?_)
    · refine g_push eX5_isCourt_25 ?_
      exact g_ret (eX5_isCourt_26 _ (by first | exact Or.inl rfl | exact Or.inr rfl)) (Nat.le_refl _) (Nat.le_refl _) (by unfold wcourt; first | (rw [decide_eq_true (crt_t c8 c18)]; exact ⟨rfl, rfl⟩) | (rw [decide_eq_false (crt_f c18)]; exact ⟨rfl, rfl⟩) | (rw [decide_eq_false (fun h => c8 h.1)]; exact ⟨rfl, rfl⟩))
    · refine g_push eX5_isCourt_21 ?_
      refine g_goto eX5_isCourt_22 ?_
      exact g_ret (eX5_isCourt_26 _ (by first | exact Or.inl rfl | exact Or.inr rfl)) (Nat.le_refl _) (Nat.le_refl _) (by unfold wcourt; first | (rw [decide_eq_true (crt_t c8 c18)]; exact ⟨rfl, rfl⟩) | (rw [decide_eq_false (crt_f c18)]; exact ⟨rfl, rfl⟩) | (rw [decide_eq_false (fun h => c8 h.1)]; exact ⟨rfl, rfl⟩))
