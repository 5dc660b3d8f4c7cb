/-! the shortest sheet: all sheets one after the other, and the rising ones alone -/
def orD (f : Nat → Nat) : Nat → Nat
  | 0 => 0
  | n + 1 => orD f n ||| f n
theorem orD_tb {f : Nat → Nat} {i : Nat} : ∀ n, (orD f n).testBit i = true ↔ ∃ k, k < n ∧ (f k).testBit i = true
  | 0 => by simp [orD]
  | n + 1 => by
    have ih := orD_tb (f := f) (i := i) n
    rw [orD, Nat.testBit_or, Bool.or_eq_true, ih]
    constructor
    · rintro (⟨k, h1, h2⟩ | h)
      · exact ⟨k, by omega, h2⟩
      · exact ⟨n, by omega, h⟩
    · rintro ⟨k, h1, h2⟩
      by_cases e : k = n
      · subst e
        exact Or.inr h2
      · exact Or.inl ⟨k, by omega, h2⟩
theorem orD_congr {f g : Nat → Nat} : ∀ {n}, (∀ k, k < n → f k = g k) → orD f n = orD g n
  | 0, _ => rfl
  | n + 1, h => by rw [orD, orD, orD_congr (fun k hk => h k (by omega)), h n (by omega)]
theorem orD_0 {f : Nat → Nat} : ∀ n, orD f (n + 1) = f 0 ||| orD (fun k => f (k + 1)) n
  | 0 => by simp [orD]
  | n + 1 => by
    rw [orD, orD_0 n, orD, Nat.or_assoc]
def dg (m x k : Nat) : Nat := x / 8 ^ (m - 1 - k) % 8
def tol (pt : Nat → Nat) (m x : Nat) : Nat := orD (fun k => pt (dg m x k)) m
theorem dg_lt (m x k : Nat) : dg m x k < 8 := Nat.mod_lt _ (by decide)
theorem p8 (m : Nat) : 0 < 8 ^ m := Nat.pow_pos (by decide)
theorem cons_div {m w x : Nat} (hx : x < 8 ^ m) : (w * 8 ^ m + x) / 8 ^ m = w := by
  rw [Nat.mul_comm, Nat.mul_add_div (p8 m), Nat.div_eq_of_lt hx, Nat.add_zero]
theorem cons_mod {m w x : Nat} (hx : x < 8 ^ m) : (w * 8 ^ m + x) % 8 ^ m = x := by
  rw [Nat.mul_comm, Nat.mul_add_mod, Nat.mod_eq_of_lt hx]
theorem cons_eq (m y : Nat) : y / 8 ^ m * 8 ^ m + y % 8 ^ m = y := by
  rw [Nat.mul_comm]
  exact Nat.div_add_mod y (8 ^ m)
theorem dg_0 {m w x : Nat} (hx : x < 8 ^ m) (hw : w < 8) : dg (m + 1) (w * 8 ^ m + x) 0 = w := by
  unfold dg
  rw [show m + 1 - 1 - 0 = m by omega, cons_div hx, Nat.mod_eq_of_lt hw]
theorem dg_s {m w x k : Nat} (hk : k < m) : dg (m + 1) (w * 8 ^ m + x) (k + 1) = dg m x k := by
  unfold dg
  rw [show m + 1 - 1 - (k + 1) = m - 1 - k by omega]
  have e : 8 ^ m = 8 ^ (m - 1 - k) * (8 * 8 ^ k) := by
    rw [← Nat.mul_assoc, ← Nat.pow_succ, ← Nat.pow_add]
    congr 1
    omega
  rw [show w * 8 ^ m + x = 8 ^ (m - 1 - k) * (8 * (8 ^ k * w)) + x by rw [e, Nat.mul_comm w, Nat.mul_assoc, Nat.mul_assoc], Nat.mul_add_div (p8 _), Nat.mul_add_mod]
theorem tol_cons {pt : Nat → Nat} {m w x : Nat} (hx : x < 8 ^ m) (hw : w < 8) : tol pt (m + 1) (w * 8 ^ m + x) = pt w ||| tol pt m x := by
  unfold tol
  rw [orD_0, dg_0 hx hw]
  congr 1
  exact orD_congr (fun k hk => by rw [dg_s hk])
def ris : Nat → Nat → Nat → Bool
  | 0, _, _ => true
  | m + 1, l, x => decide (l ≤ x / 8 ^ m) && ris m (x / 8 ^ m + 1) (x % 8 ^ m)
theorem or8 {c w : Nat} (hw : w < 8) : c * 2 ^ 3 ||| w = c * 8 + w := by
  rw [Nat.mul_comm c (2 ^ 3), ← Nat.two_pow_add_eq_or_of_lt (i := 3) hw, Nat.mul_comm]
theorem div8_lt {m y : Nat} (h : y < 8 ^ (m + 1)) : y / 8 ^ m < 8 := by
  rw [Nat.div_lt_iff_lt_mul (p8 m)]
  rw [Nat.pow_succ] at h
  omega
theorem fsh_spec (pt : Nat → Nat) : ∀ m l t c0, l ≤ 8 → (∀ c, fsh pt m l t c0 = some c → ∃ x, x < 8 ^ m ∧ c = c0 * 8 ^ m + x ∧ t ||| tol pt m x = 1023 ∧ ∀ y, y < x → ris m l y = true → ¬ t ||| tol pt m y = 1023) ∧ (fsh pt m l t c0 = none → ∀ y, y < 8 ^ m → ris m l y = true → ¬ t ||| tol pt m y = 1023)
  | 0, l, t, c0, _ => by
    have ht : ∀ x, t ||| tol pt 0 x = t := fun x => Nat.or_zero t
    constructor
    · intro c h
      unfold fsh at h
      split at h
      · rename_i h1
        cases h
        exact ⟨0, by decide, by simp, by rw [ht]; exact h1, fun y hy => absurd hy (Nat.not_lt_zero y)⟩
      · cases h
    · intro h y _ _
      unfold fsh at h
      split at h
      · cases h
      · rename_i h1
        rw [ht]
        exact h1
  | m + 1, l, t, c0, hl => by
    have inner : ∀ d w, w + d = 8 → (∀ c, fshL (fun w => fsh pt m (w + 1) (t ||| pt w) (c0 * 2 ^ 3 ||| w)) d w = some c → ∃ x, x < 8 ^ (m + 1) ∧ c = c0 * 8 ^ (m + 1) + x ∧ t ||| tol pt (m + 1) x = 1023 ∧ ∀ y, y < x → w ≤ y / 8 ^ m → ris m (y / 8 ^ m + 1) (y % 8 ^ m) = true → ¬ t ||| tol pt (m + 1) y = 1023) ∧ (fshL (fun w => fsh pt m (w + 1) (t ||| pt w) (c0 * 2 ^ 3 ||| w)) d w = none → ∀ y, y < 8 ^ (m + 1) → w ≤ y / 8 ^ m → ris m (y / 8 ^ m + 1) (y % 8 ^ m) = true → ¬ t ||| tol pt (m + 1) y = 1023) := by
      intro d
      induction d with
      | zero =>
        intro w hw
        refine ⟨(fun c h => by cases h), fun _ y hy hwy _ => ?_⟩
        have := div8_lt hy
        omega
      | succ d ih =>
        intro w hw
        obtain ⟨ih1, ih2⟩ := ih (w + 1) (by omega)
        obtain ⟨f1, f2⟩ := fsh_spec pt m (w + 1) (t ||| pt w) (c0 * 2 ^ 3 ||| w) (by omega)
        have hty : ∀ y, y / 8 ^ m = w → tol pt (m + 1) y = pt w ||| tol pt m (y % 8 ^ m) := fun y hy => by
          have := tol_cons (pt := pt) (m := m) (w := w) (x := y % 8 ^ m) (Nat.mod_lt _ (p8 m)) (by omega)
          rw [← hy, cons_eq] at this
          rw [← hy]
          exact this
        cases e : fsh pt m (w + 1) (t ||| pt w) (c0 * 2 ^ 3 ||| w) with
        | some c' =>
          refine ⟨fun c h => ?_, fun h => ?_⟩
          · rw [fshL_some (F := fun w => fsh pt m (w + 1) (t ||| pt w) (c0 * 2 ^ 3 ||| w)) (d := d) (w := w) e] at h
            obtain rfl : c' = c := Option.some.inj h
            obtain ⟨x', hx', hc, ht, hmin⟩ := f1 c' e
            have hxl : w * 8 ^ m + x' < 8 ^ (m + 1) := by
              rw [Nat.pow_succ, Nat.mul_comm (8 ^ m) 8]
              have : (w + 1) * 8 ^ m ≤ 8 * 8 ^ m := Nat.mul_le_mul_right _ (by omega)
              rw [Nat.add_mul] at this
              omega
            refine ⟨w * 8 ^ m + x', hxl, ?_, ?_, fun y hy hwy hr => ?_⟩
            · rw [hc, or8 (by omega), Nat.pow_succ, Nat.add_mul, Nat.mul_assoc, Nat.mul_comm 8, Nat.add_assoc]
            · rw [tol_cons hx' (by omega), ← Nat.or_assoc]
              exact ht
            · have hyd : y / 8 ^ m = w := by
                have : y / 8 ^ m < w + 1 := by
                  rw [Nat.div_lt_iff_lt_mul (p8 m), Nat.add_mul]
                  omega
                omega
              rw [hty y hyd, ← Nat.or_assoc]
              refine hmin (y % 8 ^ m) ?_ (hyd ▸ hr)
              have := cons_eq m y
              rw [hyd] at this
              omega
          · rw [fshL_some (F := fun w => fsh pt m (w + 1) (t ||| pt w) (c0 * 2 ^ 3 ||| w)) (d := d) (w := w) e] at h
            cases h
        | none =>
          have hno : ∀ y, y < 8 ^ (m + 1) → y / 8 ^ m = w → ris m (y / 8 ^ m + 1) (y % 8 ^ m) = true → ¬ t ||| tol pt (m + 1) y = 1023 := fun y hy hyd hr => by
            rw [hty y hyd, ← Nat.or_assoc]
            exact f2 e (y % 8 ^ m) (Nat.mod_lt _ (p8 m)) (hyd ▸ hr)
          refine ⟨fun c h => ?_, fun h y hy hwy hr => ?_⟩
          · rw [fshL_none (F := fun w => fsh pt m (w + 1) (t ||| pt w) (c0 * 2 ^ 3 ||| w)) (d := d) (w := w) e] at h
            obtain ⟨x, hx, hc, ht, hmin⟩ := ih1 c h
            refine ⟨x, hx, hc, ht, fun y hy hwy hr => ?_⟩
            by_cases ew : y / 8 ^ m = w
            · exact hno y (by omega) ew hr
            · exact hmin y hy (by omega) hr
          · rw [fshL_none (F := fun w => fsh pt m (w + 1) (t ||| pt w) (c0 * 2 ^ 3 ||| w)) (d := d) (w := w) e] at h
            by_cases ew : y / 8 ^ m = w
            · exact hno y hy ew hr
            · exact ih2 h y hy (by omega) hr
    obtain ⟨i1, i2⟩ := inner (8 - l) l (by omega)
    constructor
    · intro c h
      obtain ⟨x, hx, hc, ht, hmin⟩ := i1 c h
      refine ⟨x, hx, hc, ht, fun y hy hr => ?_⟩
      have hr' : l ≤ y / 8 ^ m ∧ ris m (y / 8 ^ m + 1) (y % 8 ^ m) = true := by
        simpa [ris] using hr
      exact hmin y hy hr'.1 hr'.2
    · intro h y hy hr
      have hr' : l ≤ y / 8 ^ m ∧ ris m (y / 8 ^ m + 1) (y % 8 ^ m) = true := by
        simpa [ris] using hr
      exact i2 h y hy hr'.1 hr'.2
/-- the words of a sheet -/
abbrev wsH (m x : Nat) : Nat := tol (fun w => 2 ^ w) m x
theorem tol_tb {pt : Nat → Nat} {m x i : Nat} : (tol pt m x).testBit i = true ↔ ∃ w, (wsH m x).testBit w = true ∧ (pt w).testBit i = true := by
  unfold wsH tol
  rw [orD_tb]
  constructor
  · rintro ⟨k, hk, h⟩
    refine ⟨dg m x k, (orD_tb m).mpr ⟨k, hk, ?_⟩, h⟩
    rw [Nat.testBit_two_pow]
    simp
  · rintro ⟨w, hw, h⟩
    obtain ⟨k, hk, h2⟩ := (orD_tb m).mp hw
    rw [Nat.testBit_two_pow] at h2
    have e : dg m x k = w := by simpa using h2
    exact ⟨k, hk, by rw [e]; exact h⟩
theorem tol_eq {pt : Nat → Nat} {m x m' y : Nat} (h : wsH m x = wsH m' y) : tol pt m x = tol pt m' y := by
  apply Nat.eq_of_testBit_eq
  intro i
  rw [Bool.eq_iff_iff, tol_tb, tol_tb, h]
/-- a sheet that does not rise: two words that stand together changed about, or one of two like ones left out -/
def fxS (m x : Nat) : Nat → Nat × Nat
  | 0 => (m, x)
  | k + 1 => if x / 8 ^ (k + 1) % 8 = x / 8 ^ k % 8 then (m - 1, x / 8 ^ (k + 1) * 8 ^ k + x % 8 ^ k) else if x / 8 ^ k % 8 < x / 8 ^ (k + 1) % 8 then (m, x + (x / 8 ^ (k + 1) % 8 - x / 8 ^ k % 8) * 8 ^ k - (x / 8 ^ (k + 1) % 8 - x / 8 ^ k % 8) * 8 ^ (k + 1)) else fxS m x k
def fxOk (m x : Nat) : Bool := ris m 0 x || (decide (wsH (fxS m x (m - 1)).1 (fxS m x (m - 1)).2 = wsH m x) && decide ((fxS m x (m - 1)).2 < 8 ^ (fxS m x (m - 1)).1) && ((decide ((fxS m x (m - 1)).1 = m) && decide ((fxS m x (m - 1)).2 < x)) || (decide ((fxS m x (m - 1)).1 + 1 = m) && decide (1 ≤ (fxS m x (m - 1)).1))))
theorem fx1 : (List.range 8).all (fun x => fxOk 1 x) = true := by decide +kernel
theorem fx2 : (List.range 64).all (fun x => fxOk 2 x) = true := by decide +kernel
theorem fx3 : (List.range 512).all (fun x => fxOk 3 x) = true := by decide +kernel
theorem fx4 : (List.range 4096).all (fun x => fxOk 4 x) = true := by decide +kernel
theorem fx_ok {m x : Nat} (h1 : 1 ≤ m) (h4 : m ≤ 4) (hx : x < 8 ^ m) : fxOk m x = true := by
  rcases (show m = 1 ∨ m = 2 ∨ m = 3 ∨ m = 4 by omega) with rfl | rfl | rfl | rfl
  · exact List.all_eq_true.mp fx1 x (List.mem_range.mpr hx)
  · exact List.all_eq_true.mp fx2 x (List.mem_range.mpr hx)
  · exact List.all_eq_true.mp fx3 x (List.mem_range.mpr hx)
  · exact List.all_eq_true.mp fx4 x (List.mem_range.mpr hx)
theorem fx_sp {m x : Nat} (h1 : 1 ≤ m) (h4 : m ≤ 4) (hx : x < 8 ^ m) : ris m 0 x = true ∨ ∃ m' y, wsH m' y = wsH m x ∧ y < 8 ^ m' ∧ ((m' = m ∧ y < x) ∨ (m' + 1 = m ∧ 1 ≤ m')) := by
  have h := fx_ok h1 h4 hx
  unfold fxOk at h
  rw [Bool.or_eq_true] at h
  rcases h with h | h
  · exact Or.inl h
  · refine Or.inr ⟨(fxS m x (m - 1)).1, (fxS m x (m - 1)).2, ?_⟩
    simpa [and_assoc] using h
/-- no sheet of so many words, up to here, tells all deeds apart -/
theorem bru_no {pt : Nat → Nat} {l n : Nat} (h1 : 1 ≤ l) (h4 : l ≤ 4) (hn : n ≤ 8 ^ l) (hp : ∀ l', 1 ≤ l' → l' < l → ∀ y, y < 8 ^ l' → ¬ tol pt l' y = 1023) (hr : ∀ y, y < n → ris l 0 y = true → ¬ tol pt l y = 1023) : ∀ y, y < n → ¬ tol pt l y = 1023 := by
  intro y
  induction y using Nat.strongRecOn with
  | _ y ih =>
    intro hy ht
    rcases fx_sp h1 h4 (show y < 8 ^ l by omega) with h | ⟨m', z, e, hz, ⟨hm, hzy⟩ | ⟨hm, hm1⟩⟩
    · exact hr y hy h ht
    · subst hm
      exact ih z hzy (by omega) ((tol_eq e).trans ht)
    · exact hp m' hm1 (by omega) z hz ((tol_eq e).trans ht)
/-- what all sheets, one after the other, give -/
theorem brf_bru {pt : Nat → Nat} : ∀ d l, l + d = 5 → 1 ≤ l → (∀ l', 1 ≤ l' → l' < l → ∀ y, y < 8 ^ l' → ¬ tol pt l' y = 1023) → (brfL pt d l = none → ∀ l', 1 ≤ l' → l' < 5 → ∀ y, y < 8 ^ l' → ¬ tol pt l' y = 1023) ∧ (∀ q, brfL pt d l = some q → l ≤ q.1 ∧ q.1 < 5 ∧ q.2 < 8 ^ q.1 ∧ tol pt q.1 q.2 = 1023 ∧ (∀ y, y < q.2 → ¬ tol pt q.1 y = 1023) ∧ ∀ l', 1 ≤ l' → l' < q.1 → ∀ y, y < 8 ^ l' → ¬ tol pt l' y = 1023)
  | 0, l, hl, h1, hp => ⟨fun _ l' a b => hp l' a (by omega), (fun q h => by cases h)⟩
  | d + 1, l, hl, h1, hp => by
    obtain ⟨f1, f2⟩ := fsh_spec pt l 0 0 0 (by decide)
    cases e : fsh pt l 0 0 0 with
    | some c =>
      rw [brfL_some e]
      refine ⟨(fun h => by cases h), fun q h => ?_⟩
      obtain rfl : (l, c) = q := Option.some.inj h
      obtain ⟨x, hx, hc, ht, hmin⟩ := f1 c e
      rw [Nat.zero_mul, Nat.zero_add] at hc
      subst hc
      rw [Nat.zero_or] at ht
      refine ⟨Nat.le_refl _, by show l < 5; omega, hx, ht, ?_, hp⟩
      exact bru_no h1 (by omega) (Nat.le_of_lt hx) hp (fun y hy hr => by have := hmin y hy hr; rw [Nat.zero_or] at this; exact this)
    | none =>
      rw [brfL_none e]
      have hno := bru_no (n := 8 ^ l) h1 (by omega) (Nat.le_refl _) hp (fun y hy hr => by have := f2 e y hy hr; rw [Nat.zero_or] at this; exact this)
      have ih := brf_bru (pt := pt) d (l + 1) (by omega) (by omega) (fun l' a b y hy => by
        by_cases el : l' = l
        · subst el
          exact hno y hy
        · exact hp l' a (by omega) y hy)
      exact ⟨ih.1, fun q h => by obtain ⟨a, b⟩ := ih.2 q h; exact ⟨by omega, b⟩⟩
