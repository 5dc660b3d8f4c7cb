/-! the text of a court, as the law writes it -/
theorem wpre_congr {p q : Nat → Nat} : ∀ {n}, (∀ j, j < n → p j = q j) → wpre p n = wpre q n
  | 0, _ => rfl
  | n + 1, h => by
    have e := wpre_congr (p := p) (q := q) (n := n) (fun j hj => h j (by omega))
    cases w : wpre q n with
    | none =>
      rw [w] at e
      rw [wpre_n e, wpre_n w]
    | some s =>
      rw [w] at e
      rw [wpre_s e, wpre_s w, h n (by omega)]
theorem rdc_congr2 {p q : Nat → Nat} : ∀ {n}, (∀ j, j < n → p j = q j) → rdc p n = rdc q n
  | 0, _ => rfl
  | n + 1, h => by
    unfold rdc
    rw [rdc_congr2 (p := p) (q := q) (n := n) (fun j hj => h j (by omega)), h n (by omega)]
/-- n letters stand: how the walk stands behind them, what they say -/
def TI (ts : List Nat) (n : Nat) (s : Nat × Nat × Nat) (nr : Nat → Nat) (sh : List Nat) : Prop := ts.length = 28 ∧ wpre (shW ts) n = some s ∧ (∀ e, (rdc (shW ts) n).2.1.getD e 0 = nr e) ∧ (rdc (shW ts) n).2.2 = sh ∧ ∀ j, j < n → 1 ≤ ts.getD j 0 ∧ ts.getD j 0 < 127
theorem TI.congr {ts : List Nat} {n : Nat} {s : Nat × Nat × Nat} {nr nr' : Nat → Nat} {sh : List Nat} (h : TI ts n s nr sh) (e : ∀ i, nr i = nr' i) : TI ts n s nr' sh := ⟨h.1, h.2.1, fun i => (h.2.2.1 i).trans (e i), h.2.2.2⟩
theorem TI_0 {ts : List Nat} (h : ts.length = 28) : TI ts 0 (0, 0, 0) (fun _ => 0) [] := ⟨h, rfl, fun e => by
  show [0, 0, 0, 0, 0].getD e 0 = 0
  rw [List.getD_eq_getElem?_getD]
  rcases e with _ | _ | _ | _ | _ | e <;> simp, rfl, fun j hj => absurd hj (Nat.not_lt_zero j)⟩
theorem TI_step {ts : List Nat} {n : Nat} {s : Nat × Nat × Nat} {nr : Nat → Nat} {sh : List Nat} (h : TI ts n s nr sh) (hn : n < 28) (c : Nat) : shW (ts.set n c) n = c ∧ wpre (shW (ts.set n c)) n = some s ∧ rdc (shW (ts.set n c)) n = rdc (shW ts) n ∧ (rdc (shW ts) n).1 = s.1 := by
  obtain ⟨h1, h2, h3, h4, h5⟩ := h
  have e : ∀ j, j < n → shW (ts.set n c) j = shW ts j := fun j hj => by
    show (ts.set n c).getD j 0 = ts.getD j 0
    rw [getD_setI (by omega), if_neg (by omega)]
  refine ⟨?_, (wpre_congr e).trans h2, rdc_congr2 e, (RV_of n s h2).2.1⟩
  show (ts.set n c).getD n 0 = c
  rw [getD_setI (by omega), if_pos rfl]
theorem TI_codes {ts : List Nat} {n c : Nat} (h1 : ts.length = 28) (hn : n < 28) (h5 : ∀ j, j < n → 1 ≤ ts.getD j 0 ∧ ts.getD j 0 < 127) (hc : 1 ≤ c ∧ c < 127) : ∀ j, j < n + 1 → 1 ≤ (ts.set n c).getD j 0 ∧ (ts.set n c).getD j 0 < 127 := fun j hj => by
  rw [getD_setI (by omega)]
  by_cases z : j = n
  · rw [if_pos z]
    exact hc
  · rw [if_neg z]
    exact h5 j (by omega)
theorem TI_letter {ts : List Nat} {n d c l v : Nat} {nr : Nat → Nat} {sh : List Nat} (h : TI ts n (d, c, l) nr sh) (hn : n < 28) (hd : d < 4) (hc : c < 3) (hl : l ≤ v) (hv : v < 8) : TI (ts.set n (97 + v)) (n + 1) (d, c + 1, v + 1) (fun e => if e = d then nr d ||| 2 ^ v else nr e) sh := by
  obtain ⟨a1, a2, a3, a4⟩ := TI_step h hn (97 + v)
  obtain ⟨h1, h2, h3, h4, h5⟩ := h
  have a4 : (rdc (shW ts) n).1 = d := a4
  have hr : 97 ≤ 97 + v ∧ 97 + v < 105 := by omega
  have hr2 : 97 ≤ shW (ts.set n (97 + v)) n ∧ shW (ts.set n (97 + v)) n < 105 := by rw [a1]; exact hr
  have hrd := rdc_l hr2 (by rw [a3, a4]; exact hd)
  rw [a1, a3, a4, show 97 + v - 97 = v by omega] at hrd
  refine ⟨by rw [List.length_set]; exact h1, ?_, fun e => ?_, ?_, TI_codes h1 hn h5 (by omega)⟩
  · rw [wpre_s a2, a1]
    unfold wstep
    rw [if_pos hr]
    unfold pword
    rw [if_pos hd, show 97 + v - 97 = v by omega, decide_eq_true ⟨hc, hl⟩]
    rfl
  · rw [hrd]
    show ((rdc (shW ts) n).2.1.set d ((rdc (shW ts) n).2.1.getD d 0 ||| 2 ^ v)).getD e 0 = _
    have h5l : (rdc (shW ts) n).2.1.length = 5 := (RV_of n _ h2).2.2.2.1
    rw [getD_setI (by omega), h3 d]
    show _ = (if e = d then nr d ||| 2 ^ v else nr e)
    by_cases z : e = d
    · rw [if_pos z, if_pos z]
    · rw [if_neg z, if_neg z]
      exact h3 e
  · rw [hrd]
    exact h4
theorem TI_sep {ts : List Nat} {n d c l : Nat} {nr : Nat → Nat} {sh : List Nat} (h : TI ts n (d, c, l) nr sh) (hn : n < 28) (hd : d < 4) (hc : 0 < c) {z : Nat} (hz : z = (if d = 3 then 59 else 44)) : TI (ts.set n z) (n + 1) (d + 1, 0, 0) nr sh := by
  obtain ⟨a1, a2, a3, a4⟩ := TI_step h hn z
  obtain ⟨h1, h2, h3, h4, h5⟩ := h
  have hz2 : z = 59 ∨ z = 44 := by
    rw [hz]
    split
    · exact Or.inl rfl
    · exact Or.inr rfl
  have hr : ¬ (97 ≤ z ∧ z < 105) := by omega
  have hrd := rdc_o (pg := shW (ts.set n z)) (k := n) (by rw [a1]; exact hr)
  rw [a3] at hrd
  refine ⟨by rw [List.length_set]; exact h1, ?_, fun e => ?_, ?_, TI_codes h1 hn h5 (by omega)⟩
  · rw [wpre_s a2, a1]
    unfold wstep
    rw [if_neg hr, if_pos ⟨hd, hc, hz⟩]
  · rw [hrd]
    exact h3 e
  · rw [hrd]
    exact h4
theorem TI_word {ts : List Nat} {n c l v : Nat} {nr : Nat → Nat} {sh : List Nat} (h : TI ts n (4, c, l) nr sh) (hn : n < 28) (hc : c < 10) (hv : v < 8) : TI (ts.set n (97 + v)) (n + 1) (4, c + 1, v + 1) nr (sh ++ [v]) := by
  obtain ⟨a1, a2, a3, a4⟩ := TI_step h hn (97 + v)
  obtain ⟨h1, h2, h3, h4, h5⟩ := h
  have a4 : (rdc (shW ts) n).1 = 4 := a4
  have hr : 97 ≤ 97 + v ∧ 97 + v < 105 := by omega
  have hr2 : 97 ≤ shW (ts.set n (97 + v)) n ∧ shW (ts.set n (97 + v)) n < 105 := by rw [a1]; exact hr
  have hrd := rdc_r hr2 (by rw [a3, a4]; decide)
  rw [a1, a3, a4, show 97 + v - 97 = v by omega] at hrd
  refine ⟨by rw [List.length_set]; exact h1, ?_, fun e => ?_, ?_, TI_codes h1 hn h5 (by omega)⟩
  · rw [wpre_s a2, a1]
    unfold wstep
    rw [if_pos hr]
    unfold pword
    rw [show 97 + v - 97 = v by omega]
    show (if (if (4 : Nat) < 4 then decide (c < 3 ∧ l ≤ v) else decide (c < 10)) = true then some (4, c + 1, v + 1) else none) = _
    rw [if_neg (Nat.lt_irrefl 4), decide_eq_true hc]
    rfl
  · rw [hrd]
    exact h3 e
  · rw [hrd]
    show (rdc (shW ts) n).2.2 ++ [v] = _
    rw [h4]
/-- of one to three words -/
def G3 (g : Nat) : Prop := g < 256 ∧ 0 < cnt (fun i => g.testBit i) 8 ∧ cnt (fun i => g.testBit i) 8 ≤ 3
theorem g3_all : ∀ a, a < 8 → ∀ b, b < 8 → ∀ c, c < 8 → (1 * 2 ^ a ||| 1 * 2 ^ b ||| 1 * 2 ^ c) < 256 ∧ 0 < cnt (fun i => (1 * 2 ^ a ||| 1 * 2 ^ b ||| 1 * 2 ^ c).testBit i) 8 ∧ cnt (fun i => (1 * 2 ^ a ||| 1 * 2 ^ b ||| 1 * 2 ^ c).testBit i) 8 ≤ 3 := by decide +kernel
theorem g3_ {a b c : Nat} (ha : a < 8) (hb : b < 8) (hc : c < 8) : G3 (1 * 2 ^ a ||| 1 * 2 ^ b ||| 1 * 2 ^ c) := g3_all a ha b hb c hc
theorem cnt_mono (f : Nat → Bool) : ∀ {a b}, a ≤ b → cnt f a ≤ cnt f b
  | a, 0, h => by
    obtain rfl : a = 0 := by omega
    exact Nat.le_refl _
  | a, b + 1, h => by
    by_cases z : a = b + 1
    · rw [z]
      exact Nat.le_refl _
    · exact Nat.le_trans (cnt_mono f (show a ≤ b by omega)) (Nat.le_add_right _ _)
theorem mod_or {g k : Nat} (h : g.testBit k = true) : g % 2 ^ k ||| 2 ^ k = g % 2 ^ (k + 1) := by
  apply Nat.eq_of_testBit_eq
  intro i
  rw [Nat.testBit_or, Nat.testBit_mod_two_pow, Nat.testBit_mod_two_pow, Nat.testBit_two_pow]
  by_cases z : i = k
  · subst z
    simp [h]
  · by_cases y : i < k
    · simp [y, z, show i < k + 1 by omega, show ¬ k = i from fun e => z e.symm]
    · simp [y, z, show ¬ i < k + 1 by omega, show ¬ k = i from fun e => z e.symm]
theorem mod_no {g k : Nat} (h : g.testBit k = false) : g % 2 ^ (k + 1) = g % 2 ^ k := by
  apply Nat.eq_of_testBit_eq
  intro i
  rw [Nat.testBit_mod_two_pow, Nat.testBit_mod_two_pow]
  by_cases z : i = k
  · subst z
    simp [h]
  · by_cases y : i < k
    · simp [y, show i < k + 1 by omega]
    · simp [y, show ¬ i < k + 1 by omega]
/-- near while a deed's words are written -/
def nrK (bs : List Nat) (d g k e : Nat) : Nat := if e < d then bs.getD e 0 else if e = d then g % 2 ^ k else 0
theorem nrK_s {bs : List Nat} {d g k : Nat} (h : g.testBit k = true) (e : Nat) : (if e = d then nrK bs d g k d ||| 2 ^ k else nrK bs d g k e) = nrK bs d g (k + 1) e := by
  have hd : nrK bs d g k d = g % 2 ^ k := by
    unfold nrK
    rw [if_neg (Nat.lt_irrefl d), if_pos rfl]
  rw [hd, mod_or h]
  unfold nrK
  repeat' split
  all_goals first | rfl | omega
theorem nrK_n {bs : List Nat} {d g k : Nat} (h : g.testBit k = false) (e : Nat) : nrK bs d g k e = nrK bs d g (k + 1) e := by
  unfold nrK
  rw [mod_no h]
/-- what courtText leaves -/
def CT (n : Nat) (bs ds ts sh : List Nat) : Prop := bs.length = 5 ∧ ds.length = 26 ∧ n ≤ 28 ∧ 0 < sh.length ∧ (∃ l, TI ts n (4, sh.length, l) (fun e => bs.getD e 0) sh) ∧ ds.getD 0 0 = sh.length ∧ (∀ k, k < sh.length → shD ds k = sh.getD k 0) ∧ ds.getD 11 0 = 2 ∧ ds.getD 12 0 = 0 ∧ ds.getD 25 0 = 0
set_option maxRecDepth 20000 in
theorem l_cell {zb zN : Nat} {zx : Nat → Int32} (hz : zN ≤ 260) {σ : aH} {k : Nat} (hk : k < 65536) : BMet zb zN zx yL_cell cL_cell 2 (some .int) 0 0 0 [.int (nI k)] σ (fun v σ' => (∃ y, v = some (.int y)) ∧ σ' = σ) := by
  refine BMet_of_GL (by decide +kernel) (by exact Nat.le_of_ble_eq_true rfl) ?_
  refine h_iload eL_cell_0 rfl ?_
  refine h_len eL_cell_1 eL_cell_2 ?_
  refine h_icmp_geN (a := k) (b := zN) eL_cell_3 (by omega) (by omega) (fun c => ?_) (fun c => ?_)
  · refine h_ldc eL_cell_12 lL_7 ?_
    refine h_iload eL_cell_14 rfl ?_
    refine h_push eL_cell_15 ?_
    refine h_iadd eL_cell_16 ?_
    refine h_imul eL_cell_17 ?_
    exact h_ret (eL_cell_18 _) (Nat.le_refl _) (Nat.le_refl _) ⟨⟨_, rfl⟩, rfl⟩
  · refine h_scr (i := 1) eL_cell_6 eL_cell_7 eL_cell_8 rfl (vp_in_nI c (by omega)) ?_
    refine h_goto eL_cell_9 ?_
    exact h_ret (eL_cell_18 _) (Nat.le_refl _) (Nat.le_refl _) ⟨⟨_, rfl⟩, rfl⟩
set_option maxRecDepth 20000 in
theorem l_ct_199 {zb zN : Nat} {zx : Nat → Int32} {σ : aH} {bs : List Nat} (hb5 : bs.length = 5) {len : Nat} (hlen : 1 ≤ len ∧ len ≤ 10) {x y z : Int32} {n0 : Nat} (hn0 : n0 ≤ 16) : ∀ d k ρ ds ts sh l, k + d = len → EqO [25, 26, 27] σ ρ → ρ[25]? = some (aA bs) → ρ[26]? = some (aA ds) → ρ[27]? = some (aA ts) → ds.length = 26 → ds.getD 0 0 = len → (∀ j, j < k → shD ds j = sh.getD j 0) → (∀ j, 11 ≤ j → ds.getD j 0 = 0) → sh.length = k → TI ts (n0 + k) (4, k, l) (fun e => bs.getD e 0) sh → ∀ o, GL zb zN zx yL_courtText cL_courtText 11 (some .int) 1 0 0 (fun v σ' => ∃ bs ds ts n sh, v = some (.int (nI n)) ∧ EqO [25, 26, 27] σ σ' ∧ σ'[25]? = some (aA bs) ∧ σ'[26]? = some (aA ds) ∧ σ'[27]? = some (aA ts) ∧ CT n bs ds ts sh) 0 0 199 [none, some (.int (nI 0)), some (.ref 25), some (.ref 26), some (.ref 27), some (.int (nI (n0 + k))), some (.int x), some (.int y), some (.int z), some (.int (nI (k))), o] [] ρ := by
  intro d
  induction d with
  | zero =>
    intro k ρ ds ts sh l hk hE e25 e26 e27 hd26 d0 dj dz hsl hT o
    obtain rfl : k = len := by omega
    refine h_iload eL_courtText_199 rfl ?_
    refine h_aload eL_courtText_201 rfl ?_
    refine h_push eL_courtText_202 ?_
    refine h_ialdN eL_courtText_203 e26 (by omega) (by omega) ?_
    rw [d0]
    refine h_icmp_geN eL_courtText_204 (by omega) (by omega) (fun c204 => ?_) (fun c204 => by exfalso; omega)
    refine h_aload eL_courtText_264 rfl ?_
    refine h_push eL_courtText_265 ?_
    refine h_push eL_courtText_267 ?_
    refine h_iastN eL_courtText_268 e26 (by omega) (by omega) ?_
    refine h_iload eL_courtText_269 rfl ?_
    exact h_ret (eL_courtText_271 _) (Nat.le_refl _) (Nat.le_refl _) ⟨bs, ds.set 11 2, ts, n0 + k, sh, rfl, hE.st (by decide), at_ne (by decide) e25, at_eq e26, at_ne (by decide) e27, hb5, by rw [List.length_set]; exact hd26, by omega, by omega, ⟨l, by rw [hsl]; exact hT⟩, by rw [getD_setI (by omega), if_neg (by decide), hsl]; exact d0, fun j hj => by
          show (ds.set 11 2).getD (1 + j) 0 = _
          rw [getD_setI (by omega), if_neg (by omega)]
          exact dj j (by omega), by rw [getD_setI (by omega), if_pos rfl], by rw [getD_setI (by omega), if_neg (by decide)]; exact dz 12 (by decide), by rw [getD_setI (by omega), if_neg (by decide)]; exact dz 25 (by decide)⟩
  | succ d ih =>
    intro k ρ ds ts sh l hk hE e25 e26 e27 hd26 d0 dj dz hsl hT o
    have hts := hT.1
    refine h_iload eL_courtText_199 rfl ?_
    refine h_aload eL_courtText_201 rfl ?_
    refine h_push eL_courtText_202 ?_
    refine h_ialdN eL_courtText_203 e26 (by omega) (by omega) ?_
    rw [d0]
    refine h_icmp_geN eL_courtText_204 (by omega) (by omega) (fun c204 => by exfalso; omega) (fun c204 => ?_)
    refine h_aload eL_courtText_207 rfl ?_
    refine h_push eL_courtText_208 ?_
    refine h_iload eL_courtText_209 rfl ?_
    refine h_iaddN eL_courtText_211 ?_
    refine h_iload eL_courtText_212 rfl ?_
    refine h_push eL_courtText_214 ?_
    refine h_iload eL_courtText_215 rfl ?_
    refine h_imulN eL_courtText_217 ?_
    refine h_ishr eL_courtText_218 ?_
    refine h_iload eL_courtText_219 rfl ?_
    refine h_push eL_courtText_221 ?_
    refine h_ishr eL_courtText_223 ?_
    refine h_push eL_courtText_224 ?_
    refine h_callSp eL_courtText_225 kL_14 (l_at (x := (y >>> (nI 20 &&& 31))) (n := 2) (by decide) (by decide)) (by rfl) (by rfl) (by exact Nat.le_of_ble_eq_true rfl) (by exact Nat.le_of_ble_eq_true rfl) (by exact Nat.le_of_ble_eq_true rfl) (Nat.le_refl _) (Nat.le_refl _) ?_
    refine h_if_neN eL_courtText_228 (Nat.lt_trans (atN_lt _ (by decide)) (by decide)) (fun c228 => ?_) (fun c228 => ?_)
    · refine h_push eL_courtText_236 ?_
      refine h_callSp eL_courtText_237 kL_14 (l_at (x := (z >>> (nI (2 * k) &&& 31))) (n := 4) (by decide) (by decide)) (by rfl) (by rfl) (by exact Nat.le_of_ble_eq_true rfl) (by exact Nat.le_of_ble_eq_true rfl) (by exact Nat.le_of_ble_eq_true rfl) (Nat.le_refl _) (Nat.le_refl _) ?_
      have hw := atN_lt ((z >>> (nI (2 * k) &&& 31))) (n := 4) (by decide)
      generalize atN ((z >>> (nI (2 * k) &&& 31))) 4 = w at hw ⊢
      refine h_iastN eL_courtText_240 e26 (by omega) (by omega) ?_
      refine h_aload eL_courtText_241 rfl ?_
      refine h_iload eL_courtText_243 rfl ?_
      refine h_iincN (by decide) eL_courtText_245 rfl rfl ?_
      refine h_push eL_courtText_248 ?_
      refine h_aload eL_courtText_250 rfl ?_
      refine h_push eL_courtText_251 ?_
      refine h_iload eL_courtText_252 rfl ?_
      refine h_iaddN eL_courtText_254 ?_
      refine h_ialdN eL_courtText_255 (at_eq e26) (by rw [List.length_set]; omega) (by rw [List.length_set]; omega) ?_
      rw [getD_setI (by omega), if_pos rfl]
      refine h_iaddN eL_courtText_256 ?_
      refine h_iastN eL_courtText_257 (at_ne (by decide) e27) (by omega) (by omega) ?_
      refine h_iincN (by decide) eL_courtText_258 rfl rfl ?_
      refine h_goto eL_courtText_261 ?_
      exact ih (k + 1) _ (ds.set (1 + k) w) (ts.set (n0 + k) (97 + w)) (sh ++ [w]) (w + 1) (by omega) ((hE.st (by decide)).st (by decide)) (at_ne (by decide) (at_ne (by decide) e25)) (at_ne (by decide) (at_eq e26)) (at_eq (at_ne (by decide) e27)) (by rw [List.length_set]; exact hd26) (by rw [getD_setI (by omega), if_neg (by omega)]; exact d0) (fun j hj => by
        show (ds.set (1 + k) w).getD (1 + j) 0 = _
        rw [getD_setI (by omega), getD_app, hsl]
        by_cases e : j = k
        · rw [if_pos (by omega), if_neg (by omega), if_pos e]
        · rw [if_neg (by omega), if_pos (by omega)]
          exact dj j (by omega)) (fun j hj => by
        rw [getD_setI (by omega), if_neg (by omega)]
        exact dz j hj) (by rw [List.length_append, hsl]; rfl) (TI_word hT (by omega) (by omega) (by omega)) _
    · refine h_push eL_courtText_231 ?_
      refine h_goto eL_courtText_233 ?_
      refine h_callSp eL_courtText_237 kL_14 (l_at (x := (z >>> (nI (2 * k) &&& 31))) (n := 8) (by decide) (by decide)) (by rfl) (by rfl) (by exact Nat.le_of_ble_eq_true rfl) (by exact Nat.le_of_ble_eq_true rfl) (by exact Nat.le_of_ble_eq_true rfl) (Nat.le_refl _) (Nat.le_refl _) ?_
      have hw := atN_lt ((z >>> (nI (2 * k) &&& 31))) (n := 8) (by decide)
      generalize atN ((z >>> (nI (2 * k) &&& 31))) 8 = w at hw ⊢
      refine h_iastN eL_courtText_240 e26 (by omega) (by omega) ?_
      refine h_aload eL_courtText_241 rfl ?_
      refine h_iload eL_courtText_243 rfl ?_
      refine h_iincN (by decide) eL_courtText_245 rfl rfl ?_
      refine h_push eL_courtText_248 ?_
      refine h_aload eL_courtText_250 rfl ?_
      refine h_push eL_courtText_251 ?_
      refine h_iload eL_courtText_252 rfl ?_
      refine h_iaddN eL_courtText_254 ?_
      refine h_ialdN eL_courtText_255 (at_eq e26) (by rw [List.length_set]; omega) (by rw [List.length_set]; omega) ?_
      rw [getD_setI (by omega), if_pos rfl]
      refine h_iaddN eL_courtText_256 ?_
      refine h_iastN eL_courtText_257 (at_ne (by decide) e27) (by omega) (by omega) ?_
      refine h_iincN (by decide) eL_courtText_258 rfl rfl ?_
      refine h_goto eL_courtText_261 ?_
      exact ih (k + 1) _ (ds.set (1 + k) w) (ts.set (n0 + k) (97 + w)) (sh ++ [w]) (w + 1) (by omega) ((hE.st (by decide)).st (by decide)) (at_ne (by decide) (at_ne (by decide) e25)) (at_ne (by decide) (at_eq e26)) (at_eq (at_ne (by decide) e27)) (by rw [List.length_set]; exact hd26) (by rw [getD_setI (by omega), if_neg (by omega)]; exact d0) (fun j hj => by
        show (ds.set (1 + k) w).getD (1 + j) 0 = _
        rw [getD_setI (by omega), getD_app, hsl]
        by_cases e : j = k
        · rw [if_pos (by omega), if_neg (by omega), if_pos e]
        · rw [if_neg (by omega), if_pos (by omega)]
          exact dj j (by omega)) (fun j hj => by
        rw [getD_setI (by omega), if_neg (by omega)]
        exact dz j hj) (by rw [List.length_append, hsl]; rfl) (TI_word hT (by omega) (by omega) (by omega)) _
set_option maxRecDepth 20000 in
theorem l_ct_163 {zb zN : Nat} {zx : Nat → Int32} {σ : aH} {bs ts : List Nat} (hb5 : bs.length = 5) {x y z : Int32} {n0 : Nat} (hn0 : n0 ≤ 16) {l : Nat} (hT : TI ts n0 (4, 0, l) (fun e => bs.getD e 0) []) : ∀ d k ρ ds, k + d = 26 → EqO [25, 26, 27] σ ρ → ρ[25]? = some (aA bs) → ρ[26]? = some (aA ds) → ρ[27]? = some (aA ts) → ds.length = 26 → (∀ j, j < k → ds.getD j 0 = 0) → ∀ o, GL zb zN zx yL_courtText cL_courtText 11 (some .int) 1 0 0 (fun v σ' => ∃ bs ds ts n sh, v = some (.int (nI n)) ∧ EqO [25, 26, 27] σ σ' ∧ σ'[25]? = some (aA bs) ∧ σ'[26]? = some (aA ds) ∧ σ'[27]? = some (aA ts) ∧ CT n bs ds ts sh) 0 0 163 [none, some (.int (nI 0)), some (.ref 25), some (.ref 26), some (.ref 27), some (.int (nI (n0))), some (.int x), some (.int y), some (.int z), some (.int (nI (k))), o] [] ρ := by
  intro d
  induction d with
  | zero =>
    intro k ρ ds hk hE e25 e26 e27 hd26 dj o
    obtain rfl : k = 26 := by omega
    refine h_iload eL_courtText_163 rfl ?_
    refine h_push eL_courtText_165 ?_
    refine h_icmp_geN eL_courtText_167 (by omega) (by omega) (fun c167 => ?_) (fun c167 => by exfalso; omega)
    refine h_aload eL_courtText_181 rfl ?_
    refine h_push eL_courtText_182 ?_
    refine h_push eL_courtText_183 ?_
    refine h_iload eL_courtText_184 rfl ?_
    refine h_push eL_courtText_186 ?_
    refine h_ishr eL_courtText_188 ?_
    refine h_push eL_courtText_189 ?_
    refine h_callSp eL_courtText_191 kL_14 (l_at (x := (y >>> (nI 14 &&& 31))) (n := 10) (by decide) (by decide)) (by rfl) (by rfl) (by exact Nat.le_of_ble_eq_true rfl) (by exact Nat.le_of_ble_eq_true rfl) (by exact Nat.le_of_ble_eq_true rfl) (Nat.le_refl _) (Nat.le_refl _) ?_
    have ha := atN_lt ((y >>> (nI 14 &&& 31))) (n := 10) (by decide)
    generalize atN ((y >>> (nI 14 &&& 31))) 10 = a at ha ⊢
    refine h_iaddN eL_courtText_194 ?_
    refine h_iastN eL_courtText_195 e26 (by omega) (by omega) ?_
    refine h_push eL_courtText_196 ?_
    refine h_istore (by decide) eL_courtText_197 rfl ?_
    exact l_ct_199 hb5 (len := 1 + a) (by omega) hn0 (1 + a) 0 _ (ds.set 0 (1 + a)) ts [] l (by omega) (hE.st (by decide)) (at_ne (by decide) e25) (at_eq e26) (at_ne (by decide) e27) (by rw [List.length_set]; exact hd26) (by rw [getD_setI (by omega), if_pos rfl]) (fun j hj => absurd hj (Nat.not_lt_zero j)) (fun j hj => by
      rw [getD_setI (by omega), if_neg (by omega)]
      by_cases e : j < 26
      · exact dj j e
      · rw [List.getD_eq_getElem?_getD, List.getElem?_eq_none (by omega)]
        rfl) rfl hT _
  | succ d ih =>
    intro k ρ ds hk hE e25 e26 e27 hd26 dj o
    refine h_iload eL_courtText_163 rfl ?_
    refine h_push eL_courtText_165 ?_
    refine h_icmp_geN eL_courtText_167 (by omega) (by omega) (fun c167 => by exfalso; omega) (fun c167 => ?_)
    refine h_aload eL_courtText_170 rfl ?_
    refine h_iload eL_courtText_171 rfl ?_
    refine h_push eL_courtText_173 ?_
    refine h_iastN eL_courtText_174 e26 (by omega) (by omega) ?_
    refine h_iincN (by decide) eL_courtText_175 rfl rfl ?_
    refine h_goto eL_courtText_178 ?_
    exact ih (k + 1) _ (ds.set k 0) (by omega) (hE.st (by decide)) (at_ne (by decide) e25) (at_eq e26) (at_ne (by decide) e27) (by rw [List.length_set]; exact hd26) (fun j hj => by
      rw [getD_setI (by omega)]
      by_cases e : j = k
      · rw [if_pos e]
      · rw [if_neg e]
        exact dj j (by omega)) _
set_option maxRecDepth 20000 in
theorem l_ct_91 {zb zN : Nat} {zx : Nat → Int32} {σ : aH} {bs ds : List Nat} (hb5 : bs.length = 5) {x y z : Int32} {d0 n0 g : Nat} (hd0 : d0 < 4) (hn0 : n0 ≤ 12) (hg : G3 g) (hbg : bs.getD d0 0 = g) (ih : ∀ ρ2 ts2 n2, n2 ≤ n0 + 4 → EqO [25, 26, 27] σ ρ2 → ρ2[25]? = some (aA bs) → ρ2[26]? = some (aA ds) → ρ2[27]? = some (aA ts2) → TI ts2 n2 (d0 + 1, 0, 0) (fun e => if e < d0 + 1 then bs.getD e 0 else 0) [] → ∀ o, GL zb zN zx yL_courtText cL_courtText 11 (some .int) 1 0 0 (fun v σ' => ∃ bs ds ts n sh, v = some (.int (nI n)) ∧ EqO [25, 26, 27] σ σ' ∧ σ'[25]? = some (aA bs) ∧ σ'[26]? = some (aA ds) ∧ σ'[27]? = some (aA ts) ∧ CT n bs ds ts sh) 0 0 31 [none, some (.int (nI 0)), some (.ref 25), some (.ref 26), some (.ref 27), some (.int (nI (n2))), some (.int x), some (.int y), some (.int z), some (.int (nI (d0 + 1))), o] [] ρ2) : ∀ d k ρ ts l, k + d = 8 → EqO [25, 26, 27] σ ρ → ρ[25]? = some (aA bs) → ρ[26]? = some (aA ds) → ρ[27]? = some (aA ts) → l ≤ k → TI ts (n0 + cnt (fun i => g.testBit i) k) (d0, cnt (fun i => g.testBit i) k, l) (nrK bs d0 g k) [] → GL zb zN zx yL_courtText cL_courtText 11 (some .int) 1 0 0 (fun v σ' => ∃ bs ds ts n sh, v = some (.int (nI n)) ∧ EqO [25, 26, 27] σ σ' ∧ σ'[25]? = some (aA bs) ∧ σ'[26]? = some (aA ds) ∧ σ'[27]? = some (aA ts) ∧ CT n bs ds ts sh) 0 0 91 [none, some (.int (nI 0)), some (.ref 25), some (.ref 26), some (.ref 27), some (.int (nI (n0 + cnt (fun i => g.testBit i) k))), some (.int x), some (.int y), some (.int z), some (.int (nI (d0))), some (.int (nI (k)))] [] ρ := by
  obtain ⟨hg1, hg2, hg3⟩ := hg
  intro d
  induction d with
  | zero =>
    intro k ρ ts l hk hE e25 e26 e27 hl hT
    have hts := hT.1
    obtain rfl : k = 8 := by omega
    have hT2 : ∀ zz, zz = (if d0 = 3 then 59 else 44) → TI (ts.set (n0 + cnt (fun i => g.testBit i) 8) zz) (n0 + cnt (fun i => g.testBit i) 8 + 1) (d0 + 1, 0, 0) (fun e => if e < d0 + 1 then bs.getD e 0 else 0) [] := fun zz hzz => (TI_sep hT (by omega) hd0 hg2 hzz).congr (fun e => by
      unfold nrK
      rw [show g % 2 ^ 8 = g from Nat.mod_eq_of_lt hg1, ← hbg]
      by_cases z1 : e < d0
      · rw [if_pos z1, if_pos (by omega)]
      · by_cases z2 : e = d0
        · rw [if_neg z1, if_pos z2, if_pos (by omega), z2]
        · rw [if_neg z1, if_neg z2, if_neg (by omega)])
    refine h_iload eL_courtText_91 rfl ?_
    refine h_push eL_courtText_93 ?_
    refine h_icmp_geN eL_courtText_95 (by omega) (by omega) (fun c95 => ?_) (fun c95 => by exfalso; omega)
    refine h_aload eL_courtText_129 rfl ?_
    refine h_iload eL_courtText_131 rfl ?_
    refine h_iincN (by decide) eL_courtText_133 rfl rfl ?_
    refine h_iload eL_courtText_136 rfl ?_
    refine h_push eL_courtText_138 ?_
    refine h_icmp_geN eL_courtText_139 (by omega) (by omega) (fun c139 => ?_) (fun c139 => ?_)
    · refine h_push eL_courtText_147 ?_
      refine h_iastN eL_courtText_149 e27 (by omega) (by omega) ?_
      refine h_iincN (by decide) eL_courtText_150 rfl rfl ?_
      refine h_goto eL_courtText_153 ?_
      first
        | exact ih _ _ _ (by omega) (hE.st (by decide)) (at_ne (by decide) e25) (at_ne (by decide) e26) (at_eq e27) (hT2 59 (by rw [if_pos (by omega)])) _
        | exact ih _ _ _ (by omega) (hE.st (by decide)) (at_ne (by decide) e25) (at_ne (by decide) e26) (at_eq e27) (hT2 44 (by rw [if_neg (by omega)])) _
    · refine h_push eL_courtText_142 ?_
      refine h_goto eL_courtText_144 ?_
      refine h_iastN eL_courtText_149 e27 (by omega) (by omega) ?_
      refine h_iincN (by decide) eL_courtText_150 rfl rfl ?_
      refine h_goto eL_courtText_153 ?_
      first
        | exact ih _ _ _ (by omega) (hE.st (by decide)) (at_ne (by decide) e25) (at_ne (by decide) e26) (at_eq e27) (hT2 59 (by rw [if_pos (by omega)])) _
        | exact ih _ _ _ (by omega) (hE.st (by decide)) (at_ne (by decide) e25) (at_ne (by decide) e26) (at_eq e27) (hT2 44 (by rw [if_neg (by omega)])) _
  | succ d ih2 =>
    intro k ρ ts l hk hE e25 e26 e27 hl hT
    have hts := hT.1
    have hm := cnt_mono (fun i => g.testBit i) (show k ≤ 8 by omega)
    have hm2 := cnt_mono (fun i => g.testBit i) (show k + 1 ≤ 8 by omega)
    have hc1 : g.testBit k = true → cnt (fun i => g.testBit i) (k + 1) = cnt (fun i => g.testBit i) k + 1 := fun h => by
      show cnt (fun i => g.testBit i) k + (g.testBit k).toNat = _
      rw [h]
      rfl
    have hc0 : g.testBit k = false → cnt (fun i => g.testBit i) (k + 1) = cnt (fun i => g.testBit i) k := fun h => by
      show cnt (fun i => g.testBit i) k + (g.testBit k).toNat = _
      rw [h]
      rfl
    refine h_iload eL_courtText_91 rfl ?_
    refine h_push eL_courtText_93 ?_
    refine h_icmp_geN eL_courtText_95 (by omega) (by omega) (fun c95 => by exfalso; omega) (fun c95 => ?_)
    refine h_aload eL_courtText_98 rfl ?_
    refine h_iload eL_courtText_99 rfl ?_
    refine h_ialdN eL_courtText_101 e25 (by omega) (by omega) ?_
    rw [hbg]
    refine h_iload eL_courtText_102 rfl ?_
    refine h_callSp eL_courtText_104 kL_18 (l_in (m := g) (k := k) (by omega) (by omega)) (by rfl) (by rfl) (by exact Nat.le_of_ble_eq_true rfl) (by exact Nat.le_of_ble_eq_true rfl) (by exact Nat.le_of_ble_eq_true rfl) (Nat.le_refl _) (Nat.le_refl _) ?_
    refine h_if_eqN eL_courtText_107 (bt_lt _) (fun c107 => ?_) (fun c107 => ?_)
    · have c107 := bl_0 c107
      refine h_iincN (by decide) eL_courtText_123 rfl rfl ?_
      refine h_goto eL_courtText_126 ?_
      first
        | (have h3 := ih2 (k + 1) _ (ts.set (n0 + cnt (fun i => g.testBit i) k) (97 + k)) (k + 1) (by omega) (hE.st (by decide)) (at_ne (by decide) e25) (at_ne (by decide) e26) (at_eq e27) (Nat.le_refl _) (by rw [hc2]; exact (TI_letter hT (by omega) hd0 (by omega) hl (by omega)).congr (fun e => nrK_s c107 e))
           rw [hc2] at h3
           exact h3)
        | (have h3 := ih2 (k + 1) _ ts l (by omega) hE e25 e26 e27 (by omega) (by rw [hc0 c107]; exact hT.congr (fun e => nrK_n c107 e))
           rw [hc0 c107] at h3
           exact h3)
    · have c107 := bl_1 c107
      have hc2 := hc1 c107
      refine h_aload eL_courtText_110 rfl ?_
      refine h_iload eL_courtText_112 rfl ?_
      refine h_iincN (by decide) eL_courtText_114 rfl rfl ?_
      refine h_push eL_courtText_117 ?_
      refine h_iload eL_courtText_119 rfl ?_
      refine h_iaddN eL_courtText_121 ?_
      refine h_iastN eL_courtText_122 e27 (by omega) (by omega) ?_
      refine h_iincN (by decide) eL_courtText_123 rfl rfl ?_
      refine h_goto eL_courtText_126 ?_
      first
        | (have h3 := ih2 (k + 1) _ (ts.set (n0 + cnt (fun i => g.testBit i) k) (97 + k)) (k + 1) (by omega) (hE.st (by decide)) (at_ne (by decide) e25) (at_ne (by decide) e26) (at_eq e27) (Nat.le_refl _) (by rw [hc2]; exact (TI_letter hT (by omega) hd0 (by omega) hl (by omega)).congr (fun e => nrK_s c107 e))
           rw [hc2] at h3
           exact h3)
        | (have h3 := ih2 (k + 1) _ ts l (by omega) hE e25 e26 e27 (by omega) (by rw [hc0 c107]; exact hT.congr (fun e => nrK_n c107 e))
           rw [hc0 c107] at h3
           exact h3)
set_option maxRecDepth 20000 in
theorem l_ct_31 {zb zN : Nat} {zx : Nat → Int32} {σ : aH} {ds : List Nat} (hd26 : ds.length = 26) {x y z : Int32} : ∀ d d0 ρ bs ts n, d0 + d = 4 → n ≤ 4 * d0 → bs.length = 5 → EqO [25, 26, 27] σ ρ → ρ[25]? = some (aA bs) → ρ[26]? = some (aA ds) → ρ[27]? = some (aA ts) → TI ts n (d0, 0, 0) (fun e => if e < d0 then bs.getD e 0 else 0) [] → ∀ o, GL zb zN zx yL_courtText cL_courtText 11 (some .int) 1 0 0 (fun v σ' => ∃ bs ds ts n sh, v = some (.int (nI n)) ∧ EqO [25, 26, 27] σ σ' ∧ σ'[25]? = some (aA bs) ∧ σ'[26]? = some (aA ds) ∧ σ'[27]? = some (aA ts) ∧ CT n bs ds ts sh) 0 0 31 [none, some (.int (nI 0)), some (.ref 25), some (.ref 26), some (.ref 27), some (.int (nI (n))), some (.int x), some (.int y), some (.int z), some (.int (nI (d0))), o] [] ρ := by
  intro d
  induction d with
  | zero =>
    intro d0 ρ bs ts n hd hn hb5 hE e25 e26 e27 hT o
    obtain rfl : d0 = 4 := by omega
    refine h_iload eL_courtText_31 rfl ?_
    refine h_push eL_courtText_33 ?_
    refine h_icmp_geN eL_courtText_34 (by omega) (by omega) (fun c34 => ?_) (fun c34 => by exfalso; omega)
    refine h_aload eL_courtText_156 rfl ?_
    refine h_push eL_courtText_157 ?_
    refine h_push eL_courtText_158 ?_
    refine h_iastN eL_courtText_159 e25 (by omega) (by omega) ?_
    refine h_push eL_courtText_160 ?_
    refine h_istore (by decide) eL_courtText_161 rfl ?_
    exact l_ct_163 (bs := bs.set 4 0) (ts := ts) (by rw [List.length_set]; exact hb5) (by omega) (hT.congr (fun e => by
      rw [getD_setI (by omega)]
      by_cases e1 : e < 4
      · rw [if_pos e1, if_neg (by omega)]
      · by_cases e2 : e = 4
        · rw [if_neg e1, if_pos e2]
        · rw [if_neg e1, if_neg e2, List.getD_eq_getElem?_getD, List.getElem?_eq_none (by omega)]
          rfl)) 26 0 _ ds rfl (hE.st (by decide)) (at_eq e25) (at_ne (by decide) e26) (at_ne (by decide) e27) hd26 (fun j hj => absurd hj (Nat.not_lt_zero j)) _
  | succ d ih =>
    intro d0 ρ bs ts n hd hn hb5 hE e25 e26 e27 hT o
    have hts := hT.1
    refine h_iload eL_courtText_31 rfl ?_
    refine h_push eL_courtText_33 ?_
    refine h_icmp_geN eL_courtText_34 (by omega) (by omega) (fun c34 => by exfalso; omega) (fun c34 => ?_)
    refine h_aload eL_courtText_37 rfl ?_
    refine h_iload eL_courtText_38 rfl ?_
    refine h_push eL_courtText_40 ?_
    refine h_iload eL_courtText_41 rfl ?_
    refine h_push eL_courtText_43 ?_
    refine h_iload eL_courtText_44 rfl ?_
    refine h_imulN eL_courtText_46 ?_
    refine h_ishr eL_courtText_47 ?_
    refine h_push eL_courtText_48 ?_
    refine h_callSp eL_courtText_50 kL_14 (l_at (x := (x >>> (nI (3 * d0) &&& 31))) (n := 8) (by decide) (by decide)) (by rfl) (by rfl) (by exact Nat.le_of_ble_eq_true rfl) (by exact Nat.le_of_ble_eq_true rfl) (by exact Nat.le_of_ble_eq_true rfl) (Nat.le_refl _) (Nat.le_refl _) ?_
    have h1 := atN_lt ((x >>> (nI (3 * d0) &&& 31))) (n := 8) (by decide)
    generalize atN ((x >>> (nI (3 * d0) &&& 31))) 8 = a1 at h1 ⊢
    refine h_ishlN eL_courtText_53 (by omega) (one_shl _ (by omega)) ?_
    refine h_push eL_courtText_54 ?_
    refine h_iload eL_courtText_55 rfl ?_
    refine h_push eL_courtText_57 ?_
    refine h_push eL_courtText_59 ?_
    refine h_iload eL_courtText_60 rfl ?_
    refine h_imulN eL_courtText_62 ?_
    refine h_iaddN eL_courtText_63 ?_
    refine h_ishr eL_courtText_64 ?_
    refine h_push eL_courtText_65 ?_
    refine h_callSp eL_courtText_67 kL_14 (l_at (x := (x >>> (nI (12 + 3 * d0) &&& 31))) (n := 8) (by decide) (by decide)) (by rfl) (by rfl) (by exact Nat.le_of_ble_eq_true rfl) (by exact Nat.le_of_ble_eq_true rfl) (by exact Nat.le_of_ble_eq_true rfl) (Nat.le_refl _) (Nat.le_refl _) ?_
    have h2 := atN_lt ((x >>> (nI (12 + 3 * d0) &&& 31))) (n := 8) (by decide)
    generalize atN ((x >>> (nI (12 + 3 * d0) &&& 31))) 8 = a2 at h2 ⊢
    refine h_ishlN eL_courtText_70 (by omega) (one_shl _ (by omega)) ?_
    refine h_iorN eL_courtText_71 ?_
    refine h_push eL_courtText_72 ?_
    refine h_iload eL_courtText_73 rfl ?_
    refine h_push eL_courtText_75 ?_
    refine h_iload eL_courtText_76 rfl ?_
    refine h_imulN eL_courtText_78 ?_
    refine h_ishr eL_courtText_79 ?_
    refine h_push eL_courtText_80 ?_
    refine h_callSp eL_courtText_82 kL_14 (l_at (x := (y >>> (nI (3 * d0) &&& 31))) (n := 8) (by decide) (by decide)) (by rfl) (by rfl) (by exact Nat.le_of_ble_eq_true rfl) (by exact Nat.le_of_ble_eq_true rfl) (by exact Nat.le_of_ble_eq_true rfl) (Nat.le_refl _) (Nat.le_refl _) ?_
    have h3 := atN_lt ((y >>> (nI (3 * d0) &&& 31))) (n := 8) (by decide)
    generalize atN ((y >>> (nI (3 * d0) &&& 31))) 8 = a3 at h3 ⊢
    refine h_ishlN eL_courtText_85 (by omega) (one_shl _ (by omega)) ?_
    refine h_iorN eL_courtText_86 ?_
    have hg := g3_ h1 h2 h3
    generalize (1 * 2 ^ a1 ||| 1 * 2 ^ a2 ||| 1 * 2 ^ a3) = g at hg ⊢
    refine h_iastN eL_courtText_87 e25 (by omega) (by omega) ?_
    refine h_push eL_courtText_88 ?_
    refine h_istore (by decide) eL_courtText_89 rfl ?_
    have hT0 : TI ts (n + cnt (fun i => g.testBit i) 0) (d0, cnt (fun i => g.testBit i) 0, 0) (nrK (bs.set d0 g) d0 g 0) [] := hT.congr (fun e => by
      unfold nrK
      rw [getD_setI (by omega)]
      by_cases z1 : e < d0
      · rw [if_pos z1, if_pos z1, if_neg (by omega)]
      · by_cases z2 : e = d0
        · rw [if_neg z1, if_neg z1, if_pos z2, Nat.pow_zero, Nat.mod_one]
        · rw [if_neg z1, if_neg z1, if_neg z2])
    exact l_ct_91 (bs := bs.set d0 g) (ds := ds) (by rw [List.length_set]; exact hb5) (by omega) (by omega) hg (by rw [getD_setI (by omega), if_pos rfl]) (fun ρ2 ts2 n2 a1 a2 a3 a4 a5 a6 o2 => ih (d0 + 1) ρ2 (bs.set d0 g) ts2 n2 (by omega) (by omega) (by rw [List.length_set]; exact hb5) a2 a3 a4 a5 a6 o2) 8 0 _ ts 0 rfl (hE.st (by decide)) (at_eq e25) (at_ne (by decide) e26) (at_ne (by decide) e27) (Nat.le_refl _) hT0
set_option maxRecDepth 20000 in
theorem l_courtText {zb zN : Nat} {zx : Nat → Int32} (hz : zN ≤ 260) {σ : aH} {bs ds ts : List Nat} (e25 : σ[25]? = some (aA bs)) (e26 : σ[26]? = some (aA ds)) (e27 : σ[27]? = some (aA ts)) (hb5 : bs.length = 5) (hd26 : ds.length = 26) (ht28 : ts.length = 28) : BMet zb zN zx yL_courtText cL_courtText 11 (some .int) 1 0 0 [.int (nI 0), .ref 25, .ref 26, .ref 27] σ (fun v σ' => ∃ bs ds ts n sh, v = some (.int (nI n)) ∧ EqO [25, 26, 27] σ σ' ∧ σ'[25]? = some (aA bs) ∧ σ'[26]? = some (aA ds) ∧ σ'[27]? = some (aA ts) ∧ CT n bs ds ts sh) := by
  refine BMet_of_GL (by decide +kernel) (by exact Nat.le_of_ble_eq_true rfl) ?_
  refine h_push eL_courtText_0 ?_
  refine h_istore (by decide) eL_courtText_1 rfl ?_
  refine h_z0 eL_courtText_3 ?_
  refine z_iload eL_courtText_4 rfl ?_
  refine z_call eL_courtText_5 kL_8 (l_cell (k := 0) hz (by decide)) (by rfl) (by rfl) (by exact Nat.le_of_ble_eq_true rfl) (by exact Nat.le_of_ble_eq_true rfl) (by exact Nat.le_of_ble_eq_true rfl) (Nat.le_refl _) (Nat.le_refl _) (fun v σ' hp hn => ?_)
  obtain ⟨⟨x, rfl⟩, rfl⟩ := hp
  refine h_istore (by decide) eL_courtText_8 rfl ?_
  refine h_z0 eL_courtText_10 ?_
  refine z_iload eL_courtText_11 rfl ?_
  refine z_push eL_courtText_12 ?_
  refine z_iadd eL_courtText_13 ?_
  refine z_call eL_courtText_14 kL_8 (l_cell (k := 0 + 1) hz (by decide)) (by rfl) (by rfl) (by exact Nat.le_of_ble_eq_true rfl) (by exact Nat.le_of_ble_eq_true rfl) (by exact Nat.le_of_ble_eq_true rfl) (Nat.le_refl _) (Nat.le_refl _) (fun v σ' hp hn => ?_)
  obtain ⟨⟨y, rfl⟩, rfl⟩ := hp
  refine h_istore (by decide) eL_courtText_17 rfl ?_
  refine h_z0 eL_courtText_19 ?_
  refine z_iload eL_courtText_20 rfl ?_
  refine z_push eL_courtText_21 ?_
  refine z_iadd eL_courtText_22 ?_
  refine z_call eL_courtText_23 kL_8 (l_cell (k := 0 + 2) hz (by decide)) (by rfl) (by rfl) (by exact Nat.le_of_ble_eq_true rfl) (by exact Nat.le_of_ble_eq_true rfl) (by exact Nat.le_of_ble_eq_true rfl) (Nat.le_refl _) (Nat.le_refl _) (fun v σ' hp hn => ?_)
  obtain ⟨⟨z, rfl⟩, rfl⟩ := hp
  refine h_istore (by decide) eL_courtText_26 rfl ?_
  refine h_push eL_courtText_28 ?_
  refine h_istore (by decide) eL_courtText_29 rfl ?_
  exact l_ct_31 hd26 4 0 _ bs ts 0 rfl (Nat.le_refl _) hb5 EqO.rf e25 e26 e27 ((TI_0 ht28).congr (fun e => (if_neg (Nat.not_lt_zero e)).symm)) _
