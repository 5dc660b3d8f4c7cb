/-! the fewest words to hide: all sets one after the other, and the heaviest word again and again -/
def sumB (f : Nat → Bool) (W : Nat → Int) : Nat → Int
  | 0 => 0
  | n + 1 => sumB f W n + (if f n = true then W n else 0)
theorem sumB_congr {f g : Nat → Bool} {W : Nat → Int} : ∀ {n}, (∀ w, w < n → f w = g w) → sumB f W n = sumB g W n
  | 0, _ => rfl
  | n + 1, h => by
    show sumB f W n + _ = sumB g W n + _
    rw [sumB_congr (fun w hw => h w (by omega)), h n (by omega)]
theorem sumB_le {f : Nat → Bool} {W : Nat → Int} : ∀ {n}, (∀ w, w < n → f w = true → W w ≤ 0) → sumB f W n ≤ 0
  | 0, _ => Int.le_refl _
  | n + 1, h => by
    have h1 := sumB_le (f := f) (W := W) (n := n) (fun w hw => h w (by omega))
    have h2 := h n (by omega)
    show sumB f W n + (if f n = true then W n else 0) ≤ 0
    split
    · have := h2 (by assumption)
      omega
    · omega
theorem sumB_lin {f : Nat → Bool} {X Z : Nat → Int} : ∀ n, sumB f (fun w => 4096 * X w - 256 - Z w) n = 4096 * sumB f X n - 256 * sumB f (fun _ => 1) n - sumB f Z n
  | 0 => rfl
  | n + 1 => by
    have h := sumB_lin (f := f) (X := X) (Z := Z) n
    show sumB f (fun w => 4096 * X w - 256 - Z w) n + (if f n = true then _ else 0) = 4096 * (sumB f X n + (if f n = true then _ else 0)) - 256 * (sumB f (fun _ => 1) n + (if f n = true then _ else 0)) - (sumB f Z n + (if f n = true then _ else 0))
    split <;> (try dsimp only) <;> omega
theorem sumB_add {f : Nat → Bool} {X Z : Nat → Int} : ∀ n, sumB f (fun w => X w + Z w) n = sumB f X n + sumB f Z n
  | 0 => rfl
  | n + 1 => by
    have h := sumB_add (f := f) (X := X) (Z := Z) n
    show sumB f (fun w => X w + Z w) n + (if f n = true then _ else 0) = (sumB f X n + (if f n = true then _ else 0)) + (sumB f Z n + (if f n = true then _ else 0))
    split <;> (try dsimp only) <;> omega
theorem sumB_one {f : Nat → Bool} {x : Nat} {a : Int} : ∀ n, sumB f (fun w => if x = w then a else 0) n = if x < n ∧ f x = true then a else 0
  | 0 => by simp [sumB]
  | n + 1 => by
    have h := sumB_one (f := f) (x := x) (a := a) n
    show sumB f (fun w => if x = w then a else 0) n + (if f n = true then (if x = n then a else 0) else 0) = _
    rw [h]
    by_cases e : x = n
    · subst e
      by_cases hf : f x = true
      · simp [hf]
      · simp [hf]
    · by_cases hl : x < n
      · simp [e, hl, Nat.lt_succ_of_lt hl]
      · simp [e, hl, show ¬ x < n + 1 by omega]
/-- one word taken away -/
abbrev rmv (f : Nat → Bool) (y : Nat) : Nat → Bool := fun w => f w && !decide (y = w)
theorem sumB_rm {f : Nat → Bool} {W : Nat → Int} {y : Nat} (hy : f y = true) : ∀ n, y < n → sumB f W n = W y + sumB (rmv f y) W n
  | 0, h => absurd h (Nat.not_lt_zero _)
  | n + 1, h => by
    show sumB f W n + (if f n = true then W n else 0) = W y + (sumB (rmv f y) W n + (if (f n && !decide (y = n)) = true then W n else 0))
    by_cases e : y = n
    · subst e
      have h1 : sumB (rmv f y) W y = sumB f W y := sumB_congr (fun w hw => by simp [show ¬ y = w by omega])
      rw [h1, hy]
      simp
      omega
    · have ih := sumB_rm (W := W) hy n (by omega)
      rw [ih]
      simp [e]
      omega
theorem cnt_rm {f : Nat → Bool} {y : Nat} (hy : f y = true) : ∀ n, y < n → cnt f n = 1 + cnt (rmv f y) n
  | 0, h => absurd h (Nat.not_lt_zero _)
  | n + 1, h => by
    show cnt f n + (f n).toNat = 1 + (cnt (rmv f y) n + (f n && !decide (y = n)).toNat)
    by_cases e : y = n
    · subst e
      have h1 : cnt (rmv f y) y = cnt f y := cnt_congr (fun w hw => by simp [show ¬ y = w by omega])
      rw [h1, hy]
      simp
      omega
    · have ih := cnt_rm hy n (by omega)
      rw [ih]
      simp [e]
      omega
theorem cnt_pos {f : Nat → Bool} : ∀ n, 0 < cnt f n → ∃ y, y < n ∧ f y = true
  | 0, h => absurd h (Nat.lt_irrefl 0)
  | n + 1, h => by
    have h' : 0 < cnt f n + (f n).toNat := h
    by_cases hf : f n = true
    · exact ⟨n, by omega, hf⟩
    · have e : f n = false := Bool.eq_false_iff.mpr hf
      rw [e] at h'
      obtain ⟨y, a, b⟩ := cnt_pos n (by simpa using h')
      exact ⟨y, by omega, b⟩
theorem cnt_none {f : Nat → Bool} : ∀ n, cnt f n = 0 → ∀ y, y < n → f y = false
  | 0, _, y, hy => absurd hy (Nat.not_lt_zero _)
  | n + 1, h, y, hy => by
    have h' : cnt f n + (f n).toNat = 0 := h
    by_cases e : y = n
    · subst e
      cases hf : f y
      · rfl
      · rw [hf] at h'
        simp at h'
    · exact cnt_none n (by omega) y (by omega)
theorem hvy_spec {wt : Nat → Nat} : ∀ n, ((hvy wt n).1 = none → (hvy wt n).2 = 0) ∧ (∀ w, w < n → wt w ≤ (hvy wt n).2) ∧ (∀ x, (hvy wt n).1 = some x → (hvy wt n).2 = wt x ∧ 0 < wt x ∧ x < n ∧ ∀ w, w < x → wt w < wt x)
  | 0 => ⟨fun _ => rfl, fun w h => absurd h (Nat.not_lt_zero _), fun x h => by cases h⟩
  | n + 1 => by
    obtain ⟨h1, h2, h3⟩ := hvy_spec (wt := wt) n
    by_cases h : (hvy wt n).2 < wt n
    · have e : hvy wt (n + 1) = (some n, wt n) := by
        show (if _ then _ else _) = _
        rw [if_pos h]
      rw [e]
      refine ⟨(fun z => by cases z), fun w hw => ?_, fun x hx => ?_⟩
      · by_cases ew : w = n
        · subst ew
          exact Nat.le_refl _
        · have := h2 w (by omega)
          show wt w ≤ wt n
          omega
      · obtain rfl : n = x := Option.some.inj hx
        exact ⟨rfl, by omega, by omega, fun w hw => by have := h2 w hw; omega⟩
    · have e : hvy wt (n + 1) = hvy wt n := by
        show (if _ then _ else _) = _
        rw [if_neg h]
      rw [e]
      refine ⟨h1, fun w hw => ?_, fun x hx => ?_⟩
      · by_cases ew : w = n
        · subst ew
          omega
        · exact h2 w (by omega)
      · obtain ⟨a, b, c, d⟩ := h3 x hx
        exact ⟨a, b, by omega, d⟩
/-- places of a word among those told of by g -/
def cW (g : Nat → Bool) (s : Nat → Nat) (n w : Nat) : Nat := cnt (fun k => g k && decide (s k = w)) n
def vS (g : Nat → Bool) (s : Nat → Nat) (n S : Nat) : Nat := cnt (fun k => g k && !S.testBit (s k)) n
theorem vS_pop {g : Nat → Bool} {s : Nat → Nat} {n S : Nat} (hn : n ≤ 10) : popc (msk g n &&& (plM s n S ^^^ 4294967295)) = vS g s n S := by
  unfold vS
  rw [← popc_msk (f := fun k => g k && !S.testBit (s k)) hn]
  congr 1
  refine msk_ext (Nat.lt_of_le_of_lt Nat.and_le_left (msk_lt _ _)) (fun i hi => ?_)
  rw [Nat.testBit_and, Nat.testBit_xor, tb_ones i (by omega), msk_tb, msk_tb]
  simp [hi]
theorem wt_pop {g : Nat → Bool} {s : Nat → Nat} {n h w : Nat} (hn : n ≤ 10) : popc ((msk g n &&& (plM s n h ^^^ 4294967295)) &&& plM s n (2 ^ w)) = if h.testBit w = true then 0 else cW g s n w := by
  have e : popc ((msk g n &&& (plM s n h ^^^ 4294967295)) &&& plM s n (2 ^ w)) = cnt (fun k => g k && !h.testBit (s k) && decide (s k = w)) n := by
    rw [← popc_msk (f := fun k => g k && !h.testBit (s k) && decide (s k = w)) hn]
    congr 1
    refine msk_ext (Nat.lt_of_le_of_lt Nat.and_le_left (Nat.lt_of_le_of_lt Nat.and_le_left (msk_lt _ _))) (fun i hi => ?_)
    rw [Nat.testBit_and, Nat.testBit_and, Nat.testBit_xor, tb_ones i (by omega), msk_tb, msk_tb, msk_tb, Nat.testBit_two_pow]
    simp only [hi, decide_true, Bool.true_and, Bool.xor_true]
    rw [show decide (w = s i) = decide (s i = w) from decide_eq_decide.mpr eq_comm]
  rw [e]
  by_cases hw : h.testBit w = true
  · rw [if_pos hw]
    have : ∀ n, cnt (fun k => g k && !h.testBit (s k) && decide (s k = w)) n = 0 := by
      intro n
      induction n with
      | zero => rfl
      | succ n ih =>
        show cnt _ n + (g n && !h.testBit (s n) && decide (s n = w)).toNat = 0
        rw [ih]
        by_cases e2 : s n = w
        · rw [e2, hw]
          simp
        · simp [e2]
    exact this n
  · rw [if_neg hw]
    unfold cW
    refine cnt_congr (fun k hk => ?_)
    by_cases e2 : s k = w
    · rw [e2, Bool.eq_false_iff.mpr hw]
      simp
    · simp [e2]
theorem cS_sum {g : Nat → Bool} {s : Nat → Nat} {S : Nat} : ∀ n, (∀ k, k < n → s k < 8) → (cnt (fun k => g k && S.testBit (s k)) n : Int) = sumB S.testBit (fun w => (cW g s n w : Int)) 8
  | 0, _ => by
    have : ∀ m, sumB S.testBit (fun w => (cW g s 0 w : Int)) m = 0 := by
      intro m
      induction m with
      | zero => rfl
      | succ m ih =>
        show sumB _ _ m + (if S.testBit m = true then ((cW g s 0 m : Nat) : Int) else 0) = 0
        rw [ih]
        show (0 : Int) + (if S.testBit m = true then ((0 : Nat) : Int) else 0) = 0
        split <;> rfl
    exact (this 8).symm
  | n + 1, h => by
    have ih := cS_sum (g := g) (s := s) (S := S) n (fun k hk => h k (by omega))
    have h8 := h n (by omega)
    have e : (fun w => (cW g s (n + 1) w : Int)) = fun w => (cW g s n w : Int) + (if s n = w then ((g n).toNat : Int) else 0) := by
      funext w
      show ((cW g s n w + (g n && decide (s n = w)).toNat : Nat) : Int) = _
      by_cases ew : s n = w
      · simp [ew]
      · simp [ew]
    rw [e, sumB_add, ← ih, sumB_one]
    show ((cnt (fun k => g k && S.testBit (s k)) n + (g n && S.testBit (s n)).toNat : Nat) : Int) = _
    by_cases hb : S.testBit (s n) = true
    · simp [hb, h8]
    · simp [hb]
theorem pop_sum {S : Nat} (h : S < 256) : (popc S : Int) = sumB S.testBit (fun _ => 1) 8 := co_dec (N := 256) (P := fun S => (popc S : Int) = sumB S.testBit (fun _ => 1) 8) (by decide +kernel) h
theorem bin_sum {S : Nat} (h : S < 256) : (S : Int) = sumB S.testBit (fun w => 2 ^ w) 8 := co_dec (N := 256) (P := fun S => (S : Int) = sumB S.testBit (fun w => 2 ^ w) 8) (by decide +kernel) h
theorem pop_8 {S : Nat} (h : S < 256) : popc S = cnt S.testBit 8 ∧ popc S ≤ 8 := co_dec (N := 256) (P := fun S => popc S = cnt S.testBit 8 ∧ popc S ≤ 8) (by decide +kernel) h
def cost (v S : Nat) : Nat := 4096 * v + 256 * popc S + S
def Wt (g : Nat → Bool) (s : Nat → Nat) (n w : Nat) : Int := 4096 * (cW g s n w : Int) - 256 - 2 ^ w
theorem cost_eq {g : Nat → Bool} {s : Nat → Nat} {n S : Nat} (hs : ∀ k, k < n → s k < 8) (h : S < 256) : (cost (vS g s n S) S : Int) = 4096 * (cnt g n : Int) - sumB S.testBit (Wt g s n) 8 := by
  have h1 := cnt_split g (fun k => S.testBit (s k)) n
  have h2 := cS_sum (g := g) (S := S) n hs
  have h3 := pop_sum h
  have h4 := bin_sum h
  have h5 : sumB S.testBit (Wt g s n) 8 = 4096 * sumB S.testBit (fun w => (cW g s n w : Int)) 8 - 256 * sumB S.testBit (fun _ => 1) 8 - sumB S.testBit (fun w => 2 ^ w) 8 := sumB_lin 8
  unfold cost vS
  rw [h5, ← h2, ← h3, ← h4]
  omega
theorem or_bit {h x w : Nat} : (h ||| 2 ^ x).testBit w = (h.testBit w || decide (x = w)) := by rw [Nat.testBit_or, Nat.testBit_two_pow]
theorem sumB_or {h x : Nat} {W : Nat → Int} (hx : h.testBit x = false) (hx8 : x < 8) : sumB (h ||| 2 ^ x).testBit W 8 = sumB h.testBit W 8 + W x := by
  have h1 := sumB_rm (f := (h ||| 2 ^ x).testBit) (W := W) (y := x) (by rw [or_bit]; simp) 8 hx8
  have h2 : sumB (rmv (h ||| 2 ^ x).testBit x) W 8 = sumB h.testBit W 8 := sumB_congr (fun w _ => by
    show ((h ||| 2 ^ x).testBit w && !decide (x = w)) = _
    rw [or_bit]
    by_cases e : x = w
    · subst e
      simp [hx]
    · simp [e])
  omega
theorem cnt_or {h x : Nat} (hx : h.testBit x = false) (hx8 : x < 8) : cnt (h ||| 2 ^ x).testBit 8 = cnt h.testBit 8 + 1 := by
  have h1 := cnt_rm (f := (h ||| 2 ^ x).testBit) (y := x) (by rw [or_bit]; simp) 8 hx8
  have h2 : cnt (rmv (h ||| 2 ^ x).testBit x) 8 = cnt h.testBit 8 := cnt_congr (fun w _ => by
    show ((h ||| 2 ^ x).testBit w && !decide (x = w)) = _
    rw [or_bit]
    by_cases e : x = w
    · subst e
      simp [hx]
    · simp [e])
  omega
theorem hvyW_some {g : Nat → Bool} {s : Nat → Nat} {n h x : Nat} (hn : n ≤ 10) (e : hvyW s n (msk g n &&& (plM s n h ^^^ 4294967295)) = some x) : x < 8 ∧ h.testBit x = false ∧ 0 < cW g s n x ∧ ∀ y, y < 8 → h.testBit y = false → ¬ x = y → cW g s n y < cW g s n x ∨ (cW g s n y = cW g s n x ∧ x < y) := by
  unfold hvyW at e
  obtain ⟨h1, h2, h3⟩ := hvy_spec (wt := fun w => popc ((msk g n &&& (plM s n h ^^^ 4294967295)) &&& plM s n (2 ^ w))) 8
  obtain ⟨a, b, c, d⟩ := h3 x e
  simp only [wt_pop hn] at a b d h2
  have hx : h.testBit x = false := by
    cases hb : h.testBit x
    · rfl
    · rw [hb] at b
      simp at b
  have ex : (if h.testBit x = true then 0 else cW g s n x) = cW g s n x := by rw [hx]; rfl
  rw [ex] at a b
  refine ⟨c, hx, b, fun y hy hyh hxy => ?_⟩
  have h4 := h2 y hy
  rw [a, hyh] at h4
  have h4' : cW g s n y ≤ cW g s n x := by simpa using h4
  by_cases hlt : y < x
  · have h5 := d y hlt
    rw [hyh, ex] at h5
    have h5' : cW g s n y < cW g s n x := by simpa using h5
    exact Or.inl h5'
  · by_cases he : cW g s n y = cW g s n x
    · exact Or.inr ⟨he, by omega⟩
    · exact Or.inl (by omega)
theorem hvyW_none {g : Nat → Bool} {s : Nat → Nat} {n h : Nat} (hn : n ≤ 10) (e : hvyW s n (msk g n &&& (plM s n h ^^^ 4294967295)) = none) : ∀ y, y < 8 → h.testBit y = false → cW g s n y = 0 := by
  intro y hy hyh
  unfold hvyW at e
  obtain ⟨h1, h2, h3⟩ := hvy_spec (wt := fun w => popc ((msk g n &&& (plM s n h ^^^ 4294967295)) &&& plM s n (2 ^ w))) 8
  have a := h1 e
  have b := h2 y hy
  rw [a] at b
  simp only [wt_pop hn] at b
  rw [hyh] at b
  simpa using b
theorem pow_le7 {y : Nat} (h : y < 8) : (2 : Int) ^ y ≤ 128 ∧ (0 : Int) < 2 ^ y := co_dec (N := 8) (P := fun y => (2 : Int) ^ y ≤ 128 ∧ (0 : Int) < 2 ^ y) (by decide +kernel) h
theorem pow_ltI {x y : Nat} (h : x < y) (hy : y < 8) : (2 : Int) ^ x < 2 ^ y := by
  have := co_dec (N := 64) (P := fun z => z / 8 < z % 8 → (2 : Int) ^ (z / 8) < 2 ^ (z % 8)) (by decide +kernel) (show 8 * x + y < 64 by omega)
  rw [show (8 * x + y) / 8 = x by omega, show (8 * x + y) % 8 = y by omega] at this
  exact this h
theorem greedy {g : Nat → Bool} {s : Nat → Nat} {n : Nat} (hn : n ≤ 10) : ∀ d h f, (∀ w, w < 8 → f w = true → h.testBit w = false) → cnt f 8 ≤ d → sumB f (Wt g s n) 8 ≤ sumB (wth s n (msk g n) d h).testBit (Wt g s n) 8 - sumB h.testBit (Wt g s n) 8
  | 0, h, f, hf, hc => by
    have h0 := cnt_none 8 (Nat.le_zero.mp hc)
    have h1 : sumB f (Wt g s n) 8 = sumB (fun _ => false) (Wt g s n) 8 := sumB_congr h0
    have h2 : sumB (fun _ => false) (Wt g s n) 8 = 0 := rfl
    show sumB f (Wt g s n) 8 ≤ sumB h.testBit (Wt g s n) 8 - sumB h.testBit (Wt g s n) 8
    omega
  | d + 1, h, f, hf, hc => by
    cases e : hvyW s n (msk g n &&& (plM s n h ^^^ 4294967295)) with
    | none =>
      rw [wth_none e]
      have h1 := sumB_le (f := f) (W := Wt g s n) (n := 8) (fun w hw hfw => by
        have h2 := hvyW_none hn e w hw (hf w hw hfw)
        have h3 := (pow_le7 hw).2
        unfold Wt
        rw [h2]
        omega)
      omega
    | some x =>
      rw [wth_some e]
      obtain ⟨hx8, hxh, hxp, hxm⟩ := hvyW_some hn e
      have hor := sumB_or (W := Wt g s n) hxh hx8
      have px := pow_le7 hx8
      have hWx : 0 < Wt g s n x := by
        unfold Wt
        omega
      by_cases hfx : f x = true
      · have h1 := sumB_rm (W := Wt g s n) hfx 8 hx8
        have h2 := cnt_rm hfx 8 hx8
        have ih := greedy (g := g) (s := s) hn d (h ||| 2 ^ x) (rmv f x) (fun w hw hfw => by
          have h3 : f w = true ∧ ¬ x = w := by simpa using hfw
          rw [or_bit, hf w hw h3.1]
          simp [h3.2]) (by omega)
        omega
      · by_cases hp : 0 < cnt f 8
        · obtain ⟨y, hy, hfy⟩ := cnt_pos 8 hp
          have hxy : ¬ x = y := fun z => hfx (z ▸ hfy)
          have h1 := sumB_rm (W := Wt g s n) hfy 8 hy
          have h2 := cnt_rm hfy 8 hy
          have ih := greedy (g := g) (s := s) hn d (h ||| 2 ^ x) (rmv f y) (fun w hw hfw => by
            have h3 : f w = true ∧ ¬ y = w := by simpa using hfw
            have h4 : ¬ x = w := fun z => hfx (z ▸ h3.1)
            rw [or_bit, hf w hw h3.1]
            simp [h4]) (by omega)
          have hW : Wt g s n y ≤ Wt g s n x := by
            have py := pow_le7 hy
            unfold Wt
            rcases hxm y hy (hf y hy hfy) hxy with z | ⟨z, z2⟩
            · omega
            · have := pow_ltI z2 hy
              rw [z]
              omega
          omega
        · have h0 := cnt_none 8 (show cnt f 8 = 0 by omega)
          have h1 : sumB f (Wt g s n) 8 = sumB (fun _ => false) (Wt g s n) 8 := sumB_congr h0
          have h2 : sumB (fun _ => false) (Wt g s n) 8 = 0 := rfl
          have ih := greedy (g := g) (s := s) hn d (h ||| 2 ^ x) f (fun w hw hfw => by rw [h0 w hw] at hfw; cases hfw) (by omega)
          omega
theorem wth_b {g : Nat → Bool} {s : Nat → Nat} {n : Nat} (hn : n ≤ 10) : ∀ d h, h < 256 → wth s n (msk g n) d h < 256 ∧ cnt (wth s n (msk g n) d h).testBit 8 ≤ cnt h.testBit 8 + d
  | 0, h, hh => ⟨hh, Nat.le_refl _⟩
  | d + 1, h, hh => by
    cases e : hvyW s n (msk g n &&& (plM s n h ^^^ 4294967295)) with
    | none =>
      rw [wth_none e]
      exact ⟨hh, by omega⟩
    | some x =>
      rw [wth_some e]
      obtain ⟨hx8, hxh, -, -⟩ := hvyW_some hn e
      have ih := wth_b (g := g) (s := s) hn d (h ||| 2 ^ x) (Nat.or_lt_two_pow (n := 8) hh (pow_lt8 hx8))
      have := cnt_or hxh hx8
      exact ⟨ih.1, by omega⟩
theorem wth_best {g : Nat → Bool} {s : Nat → Nat} {n m : Nat} (hn : n ≤ 10) (hs : ∀ k, k < n → s k < 8) {S : Nat} (hS : S < 256) (hp : popc S ≤ m) : cost (vS g s n (wth s n (msk g n) m 0)) (wth s n (msk g n) m 0) ≤ cost (vS g s n S) S := by
  obtain ⟨b1, b2⟩ := wth_b (g := g) (s := s) hn m 0 (by decide)
  have h1 := cost_eq (g := g) hs hS
  have h2 := cost_eq (g := g) hs b1
  have h3 := greedy (g := g) (s := s) hn m 0 S.testBit (fun w _ _ => Nat.zero_testBit w) (by rw [← (pop_8 hS).1]; exact hp)
  have h4 : sumB (Nat.testBit 0) (Wt g s n) 8 = 0 := by
    rw [sumB_congr (g := fun _ => false) (fun w _ => Nat.zero_testBit w)]
    rfl
  omega
def pO : Option Nat → Nat
  | none => 10
  | some b => popc b
def bst (V : Nat → Nat) (m : Nat) : Nat → Option Nat × Nat
  | 0 => (none, 11)
  | k + 1 => if popc k ≤ m ∧ (V k < (bst V m k).2 ∨ (V k = (bst V m k).2 ∧ popc k < pO (bst V m k).1)) then (some k, V k) else bst V m k
theorem bst_t {V : Nat → Nat} {m k : Nat} (h1 : popc k ≤ m) (h2 : V k < (bst V m k).2 ∨ (V k = (bst V m k).2 ∧ popc k < pO (bst V m k).1)) : bst V m (k + 1) = (some k, V k) := by
  show (if _ then _ else _) = _
  rw [if_pos ⟨h1, h2⟩]
theorem bst_f {V : Nat → Nat} {m k : Nat} (h : ¬ (popc k ≤ m ∧ (V k < (bst V m k).2 ∨ (V k = (bst V m k).2 ∧ popc k < pO (bst V m k).1)))) : bst V m (k + 1) = bst V m k := by
  show (if _ then _ else _) = _
  rw [if_neg h]
theorem bst_inv {V : Nat → Nat} {m : Nat} (hV : ∀ S, V S ≤ 10) : ∀ k, k ≤ 256 → (bst V m k = (none, 11) ∧ ∀ S, S < k → ¬ popc S ≤ m) ∨ ∃ b, b < k ∧ bst V m k = (some b, V b) ∧ popc b ≤ m ∧ ∀ S, S < k → popc S ≤ m → cost (V b) b ≤ cost (V S) S
  | 0, _ => Or.inl ⟨rfl, fun S h => absurd h (Nat.not_lt_zero _)⟩
  | k + 1, hk => by
    have hVk := hV k
    have hpk := (pop_8 (show k < 256 by omega)).2
    rcases bst_inv (V := V) (m := m) hV k (by omega) with ⟨h1, h2⟩ | ⟨b, hb, h1, h2, h3⟩
    · by_cases hp : popc k ≤ m
      · refine Or.inr ⟨k, by omega, bst_t hp (Or.inl (by rw [h1]; show V k < 11; omega)), hp, fun S hS hpS => ?_⟩
        by_cases e : S = k
        · rw [e]
          exact Nat.le_refl _
        · exact absurd hpS (h2 S (by omega))
      · refine Or.inl ⟨(bst_f (fun z => hp z.1)).trans h1, fun S hS => ?_⟩
        by_cases e : S = k
        · rw [e]
          exact hp
        · exact h2 S (by omega)
    · have hVb := hV b
      have hpb := (pop_8 (show b < 256 by omega)).2
      by_cases hc : popc k ≤ m ∧ (V k < V b ∨ (V k = V b ∧ popc k < popc b))
      · refine Or.inr ⟨k, by omega, bst_t hc.1 (by rw [h1]; exact hc.2), hc.1, fun S hS hpS => ?_⟩
        by_cases e : S = k
        · rw [e]
          exact Nat.le_refl _
        · have := h3 S (by omega) hpS
          have hlt : cost (V k) k ≤ cost (V b) b := by
            unfold cost
            omega
          omega
      · refine Or.inr ⟨b, by omega, (bst_f (by rw [h1]; exact hc)).trans h1, h2, fun S hS hpS => ?_⟩
        by_cases e : S = k
        · subst e
          unfold cost
          omega
        · exact h3 S (by omega) hpS
theorem bst_eq {V : Nat → Nat} {m G : Nat} (hV : ∀ S, V S ≤ 10) (hG : G < 256) (hp : popc G ≤ m) (hb : ∀ S, S < 256 → popc S ≤ m → cost (V G) G ≤ cost (V S) S) : bst V m 256 = (some G, V G) := by
  rcases bst_inv (V := V) (m := m) hV 256 (Nat.le_refl _) with ⟨h1, h2⟩ | ⟨b, hb1, h1, h2, h3⟩
  · exact absurd hp (h2 G hG)
  · have a := h3 G hG hp
    have c := hb b hb1 h2
    have e : G = b := by
      have h4 := hV b
      have h5 := hV G
      have h6 := (pop_8 hb1).2
      have h7 := (pop_8 hG).2
      unfold cost at a c
      omega
    rw [h1, e]
