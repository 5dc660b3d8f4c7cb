/-! the two objects together -/
theorem IM_40 : IM t0 hp_78 := by
  refine ⟨List.replicate 28 0, List.replicate 5 0, List.replicate 10 0, List.replicate 5 0, List.replicate 10 0, List.replicate 12 0, List.replicate 4 0, List.replicate 5 0, List.replicate 40 0, List.replicate 10 0, List.replicate 10 0, List.replicate 10 0, List.replicate 12 0, List.replicate 40 0, 0, 0, 0, 0, -1, 0, 0, 0, 0, 0, rfl, repA rfl, repA rfl, repA rfl, repA rfl, repA rfl, repA rfl, repA rfl, repA rfl, repA rfl, repA rfl, repA rfl, repA rfl, repA rfl, repA rfl, rfl, rfl, rfl, rfl, rfl, rfl, rfl, rfl, rfl, rfl, rfl, fun k hk => absurd hk (Nat.not_lt_zero k), fun d hd => ?_, ⟨rfl, rfl, rfl, fun k hk => absurd hk (Nat.not_lt_zero k), fun k hk => absurd hk (Nat.not_lt_zero k), fun k hk => absurd hk (Nat.not_lt_zero k)⟩, fun _ => by decide, fun c hc => (nomatch (show (none : Option Cr) = some c from hc))⟩
  show (List.replicate 5 0).getD d 0 = [0, 0, 0, 0, 0].getD d 0
  rfl
theorem IM.kl {t : St} {σ : aH} (h : IM t σ) : ∀ c, imO t = some c → (shO c).length = (shO (crO t)).length := by
  obtain ⟨_, _, _, _, _, _, _, _, _, _, _, _, _, _, _, _, _, _, _, _, _, _, _, _, -, -, -, -, -, -, -, -, -, -, -, -, -, -, -, -, -, -, -, -, -, -, -, -, -, -, -, -, -, -, h1⟩ := h
  exact fun c hc => (h1 c hc).2.2.2.2.2.2
/-- both hold the same state -/
def Inv (t : St) (n : Nat) (σ : aH) : Prop := IX t σ ∧ IM t σ ∧ WF t ∧ ctO t ≤ n ∧ 40 ≤ σ.length
theorem Inv_0 : Inv t0 0 hp_78 := ⟨IX_40, IM_40, WF_0, by decide, by decide⟩
/-- behind the class's call: the class has the new state, the reference the old one -/
def Half (t t' : St) (n : Nat) (σ : aH) : Prop := IX t' σ ∧ IM t σ ∧ WF t ∧ WF t' ∧ ctO t' ≤ n + 1 ∧ 40 ≤ σ.length
theorem Inv.half {t t' : St} {n : Nat} {σ σ' : aH} (h : Inv t n σ) (h1 : IX t' σ') (h2 : FrX σ σ') (h3 : WF t') (h4 : ctO t' ≤ ctO t + 1) : Half t t' n σ' := ⟨h1, h.2.1.frx h2, h.2.2.1, h3, Nat.le_trans h4 (Nat.succ_le_succ h.2.2.2.1), Nat.le_trans h.2.2.2.2 h2.1⟩
theorem Half.inv {t t' : St} {n : Nat} {σ σ' : aH} (h : Half t t' n σ) (h1 : IM t' σ') (h2 : FrM σ σ') : Inv t' (n + 1) σ' := ⟨h.1.frm h2, h1, h.2.2.2.1, h.2.2.2.2.1, by rw [h2.1]; exact h.2.2.2.2.2⟩
