/-! what the calls keep (whole's rows) -/
theorem WF.core {t : St} (h : WF t) {c : Cr} (hc : cwf c) (hl : (shO c).length = (shO (crO t)).length) (him : ∀ i, imO t = some i → (mnO i).length ≤ (mnO c).length ∧ ∀ j, j < (mnO i).length → (manO i j).1 = (manO c j).1 ∧ (manO i j).2.1 = (manO c j).2.1) (h17 : ctO t = 0 → mnO c = [] ∧ hdO c = []) : WF (wcr t c) := by
  obtain ⟨w1, w2, w3, w4, w5, w6, w13, w14, w15, w16, w17⟩ := h
  exact ⟨w1, w2, w3, w4, w5, hc, fun i hi => ⟨(w13 i hi).1, (him i hi).1, (him i hi).2, (w13 i hi).2.2.2⟩, w14.trans (by rw [show (shO (crO (wcr t c))).length = (shO c).length from rfl, hl]), w15, w16, fun z => ⟨(h17 z).1, (h17 z).2, (w17 z).2.2⟩⟩
theorem getD_nil {α : Type} (k : Nat) (d : α) : ([] : List α).getD k d = d := by
  rw [List.getD_eq_getElem?_getD]
  simp
theorem WF_letter {t : St} (h : WF t) (x : Int32) : WF (oLetter t x).2 := by
  unfold oLetter
  cases e : rg x 1 127 with
  | none => exact h
  | some c =>
    obtain ⟨-, h1, h2⟩ := rg_some e
    dsimp only
    by_cases q : (pgO t).length < 28
    · rw [if_pos q]
      obtain ⟨w1, w2, w⟩ := h
      refine ⟨?_, fun k => ?_, w⟩
      · show (pgO t ++ [c]).length ≤ 28
        simp
        omega
      · show (pgO t ++ [c]).getD k 0 < 127
        rw [getD_app]
        split
        · exact w2 k
        · split
          · exact h2
          · decide
    · rw [if_neg q]
      exact h
theorem WF_court {t : St} (h : WF t) (hc : ctO t < 1000) : WF (oCourt t).2 := by
  unfold oCourt
  by_cases q : wcourt (shW (pgO t)) (pgO t).length = true
  · rw [if_pos q]
    obtain ⟨s, hs, h4, h0⟩ := wcourt_pre q
    obtain ⟨o, r1, r2, r3, r4, r5, r6⟩ := RV_of _ s hs
    rw [if_pos h4] at r2
    obtain ⟨w1, w2, w3, w4, w5, w6, w13, w14, w15, w16, w17⟩ := h
    refine ⟨Nat.zero_le _, fun k => ?_, r3, r4, r5, ⟨?_, r6, (by decide : 2 ≤ 10), Nat.zero_le _, fun i => ?_, Nat.zero_le _, fun x hx => (nomatch hx)⟩, fun c hi => (nomatch (show (none : Option Cr) = some c from hi)), ?_, ?_, w16, fun z => ?_⟩
    · show ([] : List Nat).getD k 0 < 127
      rw [getD_nil]
      decide
    · show (rdc (shW (pgO t)) (pgO t).length).2.2.length ≤ 10
      have := o.2.1
      omega
    · show (([] : List Mn).getD i m0).1 ≤ 4 ∧ (([] : List Mn).getD i m0).2.1 ≤ 4 ∧ (([] : List Mn).getD i m0).2.2 < 256
      rw [getD_nil]
      decide
    · show ctO t + 1 = 0 ↔ (rdc (shW (pgO t)) (pgO t).length).2.2.length = 0
      omega
    · show ctO t + 1 ≤ 1000
      omega
    · have : ctO t + 1 = 0 := z
      omega
  · rw [if_neg q]
    exact h
theorem WF_put {t : St} (h : WF t) (x y : Int32) : WF (oPut t x y).2 := by
  unfold oPut
  cases e : rg x 0 (shO (crO t)).length with
  | none => exact h
  | some k =>
    dsimp only
    cases f : rg y 0 8 with
    | none => exact h
    | some w =>
      dsimp only
      obtain ⟨-, -, hw⟩ := rg_some f
      have h' := h
      obtain ⟨w1, w2, w3, w4, w5, ⟨a1, a2, a3, a4, a5, a6, a7⟩, w13, w14, w15, w16, w17⟩ := h
      refine h'.core ⟨?_, fun j => ?_, a3, a4, a5, a6, a7⟩ ?_ (fun i hi => ⟨(w13 i hi).2.1, (w13 i hi).2.2.1⟩) (fun z => ⟨(w17 z).1, (w17 z).2.1⟩)
      · show ((shO (crO t)).set k w).length ≤ 10
        rw [List.length_set]
        exact a1
      · show ((shO (crO t)).set k w).getD j 0 < 8
        rw [getD_set]
        split
        · exact hw
        · exact a2 j
      · show ((shO (crO t)).set k w).length = _
        rw [List.length_set]
theorem WF_limit {t : St} (h : WF t) (x : Int32) : WF (oLimit t x).2 := by
  unfold oLimit
  cases e : rg x 1 11 with
  | none => exact h
  | some v =>
    dsimp only
    obtain ⟨-, -, hv⟩ := rg_some e
    by_cases q : hasC t
    · rw [if_pos q]
      have h' := h
      obtain ⟨w1, w2, w3, w4, w5, ⟨a1, a2, a3, a4, a5, a6, a7⟩, w13, w14, w15, w16, w17⟩ := h
      exact h'.core ⟨a1, a2, by show v ≤ 10; omega, a4, a5, a6, a7⟩ rfl (fun i hi => ⟨(w13 i hi).2.1, (w13 i hi).2.2.1⟩) (fun z => ⟨(w17 z).1, (w17 z).2.1⟩)
    · rw [if_neg q]
      exact h
theorem WF_accuse {t : St} (h : WF t) (x y : Int32) : WF (oAccuse t x y).2 := by
  unfold oAccuse
  cases e : rg x 0 5 with
  | none => exact h
  | some kd =>
    dsimp only
    cases f : rg y 0 5 with
    | none => exact h
    | some d =>
      dsimp only
      obtain ⟨-, -, hk⟩ := rg_some e
      obtain ⟨-, -, hd⟩ := rg_some f
      by_cases q : hasC t
      · rw [if_pos q]
        by_cases q2 : (mnO (crO t)).length < 4
        · rw [if_pos q2]
          have h' := h
          obtain ⟨w1, w2, w3, w4, w5, ⟨a1, a2, a3, a4, a5, a6, a7⟩, w13, w14, w15, w16, w17⟩ := h
          have hll : (mnO (crO t) ++ [(kd, d, 0)]).length = (mnO (crO t)).length + 1 := by simp
          refine h'.core ⟨a1, a2, a3, ?_, fun i => ?_, a6, fun z hz => ?_⟩ rfl (fun i hi => ?_) (fun z => absurd q (by show ¬ 0 < ctO t; omega))
          · show (mnO (crO t) ++ [(kd, d, 0)]).length ≤ 4
            omega
          · show ((mnO (crO t) ++ [(kd, d, 0)]).getD i m0).1 ≤ 4 ∧ ((mnO (crO t) ++ [(kd, d, 0)]).getD i m0).2.1 ≤ 4 ∧ ((mnO (crO t) ++ [(kd, d, 0)]).getD i m0).2.2 < 256
            rw [getD_app]
            split
            · exact a5 i
            · split
              · exact ⟨by show kd ≤ 4; omega, by show d ≤ 4; omega, by show 0 < 256; decide⟩
              · decide
          · obtain ⟨b1, b2⟩ := a7 z hz
            exact ⟨by show z.1 < (mnO (crO t) ++ [(kd, d, 0)]).length; omega, b2⟩
          · obtain ⟨-, b1, b2, -⟩ := w13 i hi
            refine ⟨by show _ ≤ (mnO (crO t) ++ [(kd, d, 0)]).length; omega, fun j hj => ?_⟩
            show (manO i j).1 = ((mnO (crO t) ++ [(kd, d, 0)]).getD j m0).1 ∧ (manO i j).2.1 = ((mnO (crO t) ++ [(kd, d, 0)]).getD j m0).2.1
            rw [getD_app, if_pos (by omega)]
            exact b2 j hj
        · rw [if_neg q2]
          exact h
      · rw [if_neg q]
        exact h
theorem WF_setH {t : St} (h : WF t) {a l : Nat} (ha : a < (mnO (crO t)).length) (hl : l < 256) : WF (wcr t (setH (crO t) a l)) := by
  have h' := h
  obtain ⟨w1, w2, w3, w4, w5, ⟨a1, a2, a3, a4, a5, a6, a7⟩, w13, w14, w15, w16, w17⟩ := h
  have hm : ∀ i, manO (setH (crO t) a l) i = if a = i then ((manO (crO t) a).1, (manO (crO t) a).2.1, l) else manO (crO t) i := fun i => by
    show ((mnO (crO t)).set a ((manO (crO t) a).1, (manO (crO t) a).2.1, l)).getD i m0 = _
    rw [getD_set]
    by_cases e : a = i
    · rw [if_pos ⟨e, ha⟩, if_pos e]
    · rw [if_neg (fun z => e z.1), if_neg e]
  have hlen : (mnO (setH (crO t) a l)).length = (mnO (crO t)).length := List.length_set
  refine h'.core ⟨a1, a2, a3, by rw [hlen]; exact a4, fun i => ?_, a6, fun z hz => ?_⟩ rfl (fun i hi => ?_) (fun z => ?_)
  · rw [hm]
    split
    · exact ⟨(a5 a).1, (a5 a).2.1, hl⟩
    · exact a5 i
  · obtain ⟨b1, b2⟩ := a7 z hz
    exact ⟨by rw [hlen]; exact b1, b2⟩
  · obtain ⟨-, b1, b2, -⟩ := w13 i hi
    refine ⟨by rw [hlen]; exact b1, fun j hj => ?_⟩
    rw [hm]
    by_cases e : a = j
    · subst e
      rw [if_pos rfl]
      exact b2 a hj
    · rw [if_neg e]
      exact b2 j hj
  · rw [(w17 z).1] at ha
    exact absurd ha (Nat.not_lt_zero _)
theorem WF_lesson {t : St} (h : WF t) (x y : Int32) : WF (oLesson t x y).2 := by
  unfold oLesson
  cases e : rg x 0 (mnO (crO t)).length with
  | none => exact h
  | some a =>
    dsimp only
    cases f : rg y 0 8 with
    | none => exact h
    | some w =>
      dsimp only
      have h4 := h.2.2.2.2.2.1.2.2.2.1
      obtain ⟨-, -, ha⟩ := rg_some e (by omega)
      obtain ⟨-, -, hw⟩ := rg_some f
      split
      · exact h
      · exact WF_setH h ha (Nat.or_lt_two_pow (n := 8) (h.2.2.2.2.2.1.2.2.2.2.1 a).2.2 (pow_lt8 hw))
theorem WF_unlearn {t : St} (h : WF t) (x : Int32) : WF (oUnlearn t x).2 := by
  unfold oUnlearn
  cases e : rg x 0 (mnO (crO t)).length with
  | none => exact h
  | some a =>
    dsimp only
    have h4 := h.2.2.2.2.2.1.2.2.2.1
    obtain ⟨-, -, ha⟩ := rg_some e (by omega)
    exact WF_setH h ha (by decide)
