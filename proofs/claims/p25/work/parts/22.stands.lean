/-! the law's state: the class's cells 0 .. 24, near at 25, the numbers at 26, the text at 27 -/
theorem IX.keep {t : St} {σ τ : aH} (hI : IX t σ) (hlo : ∀ j, j < 25 → τ[j]? = σ[j]?) (hhi : ∀ j, 28 ≤ j → j < σ.length → τ[j]? = σ[j]?) : IX t τ := by
  obtain ⟨cd, y0, y1, y2, mr, dws, dsz, bp, bw, bs, e0, e1, e2, e3, e4, e5, e20, e21, e22, e23, e24, hn, hk, hki, lcd, hcd, bcd, lmr, ldws, lbp, lbw, hmen⟩ := hI
  refine ⟨cd, y0, y1, y2, mr, dws, dsz, bp, bw, bs, (hlo 0 (by decide)).trans e0, (hlo 1 (by decide)).trans e1, (hlo 2 (by decide)).trans e2, (hlo 3 (by decide)).trans e3, (hlo 4 (by decide)).trans e4, (hlo 5 (by decide)).trans e5, (hlo 20 (by decide)).trans e20, (hlo 21 (by decide)).trans e21, (hlo 22 (by decide)).trans e22, (hlo 23 (by decide)).trans e23, (hlo 24 (by decide)).trans e24, hn.at (fun j a b => hlo j (by omega)), hk.at (fun j a b => hlo j (by omega)), fun c hc => (hki c hc).at (fun j a b => hlo j (by omega)), lcd, hcd, bcd, lmr, ldws, lbp, lbw, fun i hi => ?_⟩
  obtain ⟨q, a1, a2, a3⟩ := hmen i hi
  exact ⟨q, a1, a2, (hhi q a2 (List.getElem?_eq_some_iff.mp a3).1).trans a3⟩
theorem IX.st {t : St} {σ : aH} (hI : IX t σ) {i : Nat} {c : aT} (h1 : 25 ≤ i) (h2 : i < 28 ∨ σ.length ≤ i) : IX t (σ.set i c) := hI.keep (fun j hj => List.getElem?_set_ne (by omega)) (fun j hj hl => List.getElem?_set_ne (by omega))
theorem IX.pu {t : St} {σ : aH} (hI : IX t σ) {c : aT} : IX t (σ ++ [c]) := by
  have hl : 25 ≤ σ.length := by
    obtain ⟨cd, y0, y1, y2, mr, dws, dsz, bp, bw, bs, e0, e1, e2, e3, e4, e5, e20, e21, e22, e23, e24, -⟩ := hI
    have := (List.getElem?_eq_some_iff.mp e24).1
    omega
  exact hI.keep (fun j hj => List.getElem?_append_left (by omega)) (fun j hj hl => List.getElem?_append_left hl)
theorem IX.e0 {t : St} {σ : aH} (hI : IX t σ) : ∃ fs, σ[0]? = some (aO 11 fs) := by
  obtain ⟨cd, y0, y1, y2, mr, dws, dsz, bp, bw, bs, e0, -⟩ := hI
  exact ⟨_, e0⟩
theorem IX_25 : IX t0 hp_48 := by
  refine ⟨List.replicate 28 0, 0, 0, 0, List.replicate 4 none, List.replicate 10 0, 0, List.replicate 8 0, List.replicate 4 0, 0, rfl, rfl, repA rfl, rfl, rfl, rfl, rfl, repA rfl, rfl, repA rfl, repA rfl, ?_, ?_, fun c hc => (nomatch (show (none : Option Cr) = some c from hc)), rfl, fun k hk => absurd hk (Nat.not_lt_zero k), fun k => repD 28 k 1000 (by decide), rfl, rfl, rfl, rfl, fun i hi => absurd hi (Nat.not_lt_zero i)⟩
  · exact ⟨List.replicate 10 0, List.replicate 8 0, List.replicate 8 0, List.replicate 4 0, rfl, rfl, repA rfl, rfl, repA rfl, repA rfl, repA rfl, rfl, fun k hk => absurd hk (Nat.not_lt_zero k), rfl, rfl, fun k => repD 8 k 65536 (by decide), rfl, fun i hi => absurd hi (Nat.not_lt_zero i), fun i hi => absurd hi (Nat.not_lt_zero i)⟩
  · exact ⟨List.replicate 10 0, List.replicate 8 0, List.replicate 8 0, List.replicate 4 0, 0, 0, 0, 0, 0, rfl, rfl, repA rfl, rfl, repA rfl, repA rfl, repA rfl, rfl, rfl, rfl, rfl⟩
/-- the men's numbers, the sheet's length -/
def DM (t : St) (ds : List Nat) : Prop := ds.length = 26 ∧ ds.getD 0 0 = (shO (crO t)).length ∧ ds.getD 11 0 = lmO (crO t) ∧ ds.getD 12 0 = (mnO (crO t)).length ∧ ∀ i, i < (mnO (crO t)).length → ds.getD (13 + i) 0 = (manO (crO t) i).1 ∧ ds.getD (17 + i) 0 = (manO (crO t) i).2.1 ∧ ds.getD (21 + i) 0 = (manO (crO t) i).2.2
def DX (t : St) (ds : List Nat) : Prop := DM t ds ∧ (∀ k, k < (shO (crO t)).length → shD ds k = (shO (crO t)).getD k 0) ∧ ds.getD 25 0 = chO (crO t)
def LI (t : St) (σ : aH) : Prop := IX t σ ∧ WF t ∧ 0 < ctO t ∧ 28 ≤ σ.length ∧ σ[25]? = some (aA (nrO t)) ∧ ∃ ds, σ[26]? = some (aA ds) ∧ DX t ds
theorem WF.len {t : St} (h : WF t) (hC : 0 < ctO t) : 0 < (shO (crO t)).length := by
  have := h.2.2.2.2.2.2.2.1
  omega
theorem WF.ten {t : St} (h : WF t) : (shO (crO t)).length ≤ 10 := h.2.2.2.2.2.1.1
theorem WF.wd {t : St} (h : WF t) (k : Nat) : (shO (crO t)).getD k 0 < 8 := h.2.2.2.2.2.1.2.1 k
theorem WF.lm {t : St} (h : WF t) : lmO (crO t) ≤ 10 := h.2.2.2.2.2.1.2.2.1
theorem WF.four {t : St} (h : WF t) : (mnO (crO t)).length ≤ 4 := h.2.2.2.2.2.1.2.2.2.1
theorem WF.mn {t : St} (h : WF t) (i : Nat) : (manO (crO t) i).1 ≤ 4 ∧ (manO (crO t) i).2.1 ≤ 4 ∧ (manO (crO t) i).2.2 < 256 := h.2.2.2.2.2.1.2.2.2.2.1 i
theorem WF.nr {t : St} (h : WF t) (d : Nat) : (nrO t).getD d 0 < 256 := h.2.2.2.1 d
theorem WF.nl {t : St} (h : WF t) : (nrO t).length = 5 := h.2.2.1
theorem l_nowM {t : St} {σ : aH} (hwf : WF t) {a b i : Nat} {ws : List Nat} {s : Nat → Nat} (ha : σ[a]? = some (aA ws)) (hb : σ[b]? = some (aA (nrO t))) (hM : DM t ws) (hs : ∀ k, k < (shO (crO t)).length → shD ws k = s k) (hs8 : ∀ k, k < (shO (crO t)).length → s k < 8) (hi : i < (mnO (crO t)).length) : ML_now 2 0 0 [.ref b, .ref a, .int (nI i)] σ (aPu (some (.int (nI (manM t i s (shO (crO t)).length)))) σ) := by
  obtain ⟨d1, d2, d3, d4, d5⟩ := hM
  obtain ⟨f1, f2, f3⟩ := d5 i hi
  obtain ⟨m1, m2, m3⟩ := hwf.mn i
  have h4 := hwf.four
  have := l_now (i := i) ha hb d1 hwf.nl (by rw [d2]; exact hwf.ten) (fun k hk => by rw [d2] at hk; rw [hs k hk]; exact hs8 k hk) (by omega) (by rw [f1]; exact m1) (by rw [f2]; exact m2) (hwf.nr _) (by rw [f3]; exact m3)
  rw [f1, f2, f3, d2, mskA_congr hs] at this
  exact this
theorem oNear_eq {t : St} (hC : 0 < ctO t) {d : Nat} (hd : d < 5) : oNear t (nI d) = nI ((nrO t).getD d 0) := by
  unfold oNear
  rw [rg_nI (Nat.zero_le _) hd]
  exact if_pos hC
theorem oWord_eq {t : St} (h : (shO (crO t)).length ≤ 10) {k : Nat} (hk : k < (shO (crO t)).length) : oWord t (nI k) = nI ((shO (crO t)).getD k 0) := by
  unfold oWord
  rw [rg_nI (Nat.zero_le _) hk (by omega)]
theorem oAbout_eq {t : St} (h : (mnO (crO t)).length ≤ 4) {a w : Nat} (ha : a < (mnO (crO t)).length) (hw : w < 8) : oAbout t (nI a) (nI w) = oTell t a w := by
  unfold oAbout
  rw [rg_nI (Nat.zero_le _) ha (by omega)]
  dsimp only
  rw [rg_nI (Nat.zero_le _) hw]
theorem oCount_eq {t : St} {w : Nat} (hw : w < 10) : oCount t (nI w) = oCnt t w := by
  unfold oCount
  rw [rg_nI (Nat.zero_le _) hw]
set_option maxRecDepth 20000 in
theorem l_stands_225 {t : St} {σ : aH} (hI : IX t σ) (hwf : WF t) (hC : 0 < ctO t) (e25 : σ[25]? = some (aA (nrO t))) {ds : List Nat} (e26 : σ[26]? = some (aA ds)) (hD : DX t ds) {o1 o2 o3 : Option Value} : GL_stands 6 0 0 (aPu (some (.int (nI 1))) σ) 0 0 225 [some (.ref 0), some (.ref 25), some (.ref 26), some (.int (nI (cnt (hangB t (shW (shO (crO t))) (shO (crO t)).length) (mnO (crO t)).length))), some (.int (nI (orW (shD ds) (shO (crO t)).length))), o1, o2, o3] [] σ := by
  obtain ⟨fs, e0⟩ := hI.e0
  obtain ⟨⟨d1, d2, d3, d4, d5⟩, d6, d7⟩ := hD
  have h10 := hwf.ten
  have h4 := hwf.four
  have hlm := hwf.lm
  have hor := orW_lt (shD ds) (shO (crO t)).length (fun k hk => by rw [d6 k hk]; exact hwf.wd k)
  refine g_aload eL_stands_225 rfl ?_
  refine g_push eL_stands_226 ?_
  refine g_callVp (r := (RX11, TX11, 10)) eL_stands_227 kL_51 e0 (by rfl) (x_count hI hwf (x := nI 0)) (by rfl) (by rfl) (by exact Nat.le_of_ble_eq_true rfl) (by exact Nat.le_of_ble_eq_true rfl) (by exact Nat.le_of_ble_eq_true rfl) (Nat.le_refl _) (Nat.le_refl _) ?_
  refine g_aload eL_stands_230 rfl ?_
  refine g_push eL_stands_231 ?_
  refine g_ialdN eL_stands_232 (by assumption) (by omega) (by omega) ?_
  refine g_icmp_ne eL_stands_233 (fun c233 => absurd (show oCount t (nI 0) = nI (ds.getD 0 0) by rw [oCount_eq (by decide), d2]; rfl) c233) (fun c233 => ?_)
  refine g_aload eL_stands_236 rfl ?_
  refine g_push eL_stands_237 ?_
  refine g_callVp (r := (RX11, TX11, 10)) eL_stands_238 kL_51 e0 (by rfl) (x_count hI hwf (x := nI 1)) (by rfl) (by rfl) (by exact Nat.le_of_ble_eq_true rfl) (by exact Nat.le_of_ble_eq_true rfl) (by exact Nat.le_of_ble_eq_true rfl) (Nat.le_refl _) (Nat.le_refl _) ?_
  refine g_aload eL_stands_241 rfl ?_
  refine g_push eL_stands_242 ?_
  refine g_ialdN eL_stands_244 (by assumption) (by omega) (by omega) ?_
  refine g_icmp_ne eL_stands_245 (fun c245 => absurd (show oCount t (nI 1) = nI (ds.getD 11 0) by rw [oCount_eq (by decide), d3]; rfl) c245) (fun c245 => ?_)
  refine g_aload eL_stands_248 rfl ?_
  refine g_push eL_stands_249 ?_
  refine g_callVp (r := (RX11, TX11, 10)) eL_stands_250 kL_51 e0 (by rfl) (x_count hI hwf (x := nI 2)) (by rfl) (by rfl) (by exact Nat.le_of_ble_eq_true rfl) (by exact Nat.le_of_ble_eq_true rfl) (by exact Nat.le_of_ble_eq_true rfl) (Nat.le_refl _) (Nat.le_refl _) ?_
  refine g_aload eL_stands_253 rfl ?_
  refine g_push eL_stands_254 ?_
  refine g_ialdN eL_stands_256 (by assumption) (by omega) (by omega) ?_
  refine g_icmp_ne eL_stands_257 (fun c257 => absurd (show oCount t (nI 2) = nI (ds.getD 12 0) by rw [oCount_eq (by decide), d4]; rfl) c257) (fun c257 => ?_)
  refine g_aload eL_stands_260 rfl ?_
  refine g_push eL_stands_261 ?_
  refine g_callVp (r := (RX11, TX11, 10)) eL_stands_262 kL_51 e0 (by rfl) (x_count hI hwf (x := nI 3)) (by rfl) (by rfl) (by exact Nat.le_of_ble_eq_true rfl) (by exact Nat.le_of_ble_eq_true rfl) (by exact Nat.le_of_ble_eq_true rfl) (Nat.le_refl _) (Nat.le_refl _) ?_
  refine g_iload eL_stands_265 rfl ?_
  refine g_icmp_ne eL_stands_266 (fun c266 => absurd (show oCount t (nI 3) = nI (cnt (hangB t (shW (shO (crO t))) (shO (crO t)).length) (mnO (crO t)).length) by rw [oCount_eq (by decide)]; rfl) c266) (fun c266 => ?_)
  refine g_aload eL_stands_269 rfl ?_
  refine g_push eL_stands_270 ?_
  refine g_callVp (r := (RX11, TX11, 10)) eL_stands_271 kL_51 e0 (by rfl) (x_count hI hwf (x := nI 4)) (by rfl) (by rfl) (by exact Nat.le_of_ble_eq_true rfl) (by exact Nat.le_of_ble_eq_true rfl) (by exact Nat.le_of_ble_eq_true rfl) (Nat.le_refl _) (Nat.le_refl _) ?_
  refine g_iload eL_stands_274 rfl ?_
  refine g_callSp eL_stands_276 kL_45 (l_size (m := orW (shD ds) (shO (crO t)).length) (by omega)) (by rfl) (by rfl) (by exact Nat.le_of_ble_eq_true rfl) (by exact Nat.le_of_ble_eq_true rfl) (by exact Nat.le_of_ble_eq_true rfl) (Nat.le_refl _) (Nat.le_refl _) ?_
  refine g_icmp_ne eL_stands_279 (fun c279 => absurd (show oCount t (nI 4) = nI (popc (orW (shD ds) (shO (crO t)).length)) by rw [oCount_eq (by decide), orW_congr (s := shD ds) (u := shW (shO (crO t))) d6]; rfl) c279) (fun c279 => ?_)
  refine g_aload eL_stands_282 rfl ?_
  refine g_push eL_stands_283 ?_
  refine g_callVp (r := (RX11, TX11, 10)) eL_stands_284 kL_51 e0 (by rfl) (x_count hI hwf (x := nI 5)) (by rfl) (by rfl) (by exact Nat.le_of_ble_eq_true rfl) (by exact Nat.le_of_ble_eq_true rfl) (by exact Nat.le_of_ble_eq_true rfl) (Nat.le_refl _) (Nat.le_refl _) ?_
  refine g_aload eL_stands_287 rfl ?_
  refine g_push eL_stands_288 ?_
  refine g_ialdN eL_stands_290 (by assumption) (by omega) (by omega) ?_
  refine g_icmp_ne eL_stands_291 (fun c291 => absurd (show oCount t (nI 5) = nI (ds.getD 25 0) by rw [oCount_eq (by decide), d7]; rfl) c291) (fun c291 => ?_)
  refine g_push eL_stands_294 ?_
  refine g_goto eL_stands_295 ?_
  exact g_ret (eL_stands_299 _ (Or.inr rfl)) (Nat.le_refl _) (Nat.le_refl _) ⟨rfl, rfl⟩
set_option maxRecDepth 20000 in
theorem l_stands_120 {t : St} {σ : aH} (hI : IX t σ) (hwf : WF t) (hC : 0 < ctO t) (e25 : σ[25]? = some (aA (nrO t))) {ds : List Nat} (e26 : σ[26]? = some (aA ds)) (hD : DX t ds) {i : Nat} (hi : i < (mnO (crO t)).length) {hb : Bool} (hv : hb = hangB t (shW (shO (crO t))) (shO (crO t)).length i) {o2 : Option Value} (ih : ∀ o1 o2, GL_stands 6 0 0 (aPu (some (.int (nI 1))) σ) 0 0 85 [some (.ref 0), some (.ref 25), some (.ref 26), some (.int (nI (cnt (hangB t (shW (shO (crO t))) (shO (crO t)).length) (i + 1)))), some (.int (nI (orW (shD ds) (shO (crO t)).length))), some (.int (nI (i + 1))), o1, o2] [] σ) : GL_stands 6 0 0 (aPu (some (.int (nI 1))) σ) 0 0 120 [some (.ref 0), some (.ref 25), some (.ref 26), some (.int (nI (cnt (hangB t (shW (shO (crO t))) (shO (crO t)).length) i))), some (.int (nI (orW (shD ds) (shO (crO t)).length))), some (.int (nI (i))), some (.int (nI (altM t i))), o2] [.int (nI hb.toNat)] σ := by
  obtain ⟨fs, e0⟩ := hI.e0
  obtain ⟨⟨d1, d2, d3, d4, d5⟩, d6, d7⟩ := hD
  have h10 := hwf.ten
  have h4 := hwf.four
  have hlm := hwf.lm
  obtain ⟨f1, f2, f3⟩ := d5 i hi
  refine g_istore eL_stands_120 rfl ?_
  refine g_aload eL_stands_122 rfl ?_
  refine g_iload eL_stands_123 rfl ?_
  refine g_push eL_stands_125 ?_
  refine g_callVp (r := (RX11, TX11, 10)) eL_stands_126 kL_48 e0 (by rfl) (x_about hI hwf (x := nI i) (y := nI 0) (Or.inl (hwf.len hC))) (by rfl) (by rfl) (by exact Nat.le_of_ble_eq_true rfl) (by exact Nat.le_of_ble_eq_true rfl) (by exact Nat.le_of_ble_eq_true rfl) (Nat.le_refl _) (Nat.le_refl _) ?_
  refine g_aload eL_stands_129 rfl ?_
  refine g_push eL_stands_130 ?_
  refine g_iload eL_stands_132 rfl ?_
  refine g_iaddN eL_stands_134 ?_
  refine g_ialdN eL_stands_135 (by assumption) (by omega) (by omega) ?_
  refine g_icmp_ne eL_stands_136 (fun c136 => absurd (show oAbout t (nI i) (nI 0) = nI (ds.getD (13 + i) 0) by rw [oAbout_eq h4 hi (by decide), f1]; rfl) c136) (fun c136 => ?_)
  refine g_aload eL_stands_139 rfl ?_
  refine g_iload eL_stands_140 rfl ?_
  refine g_push eL_stands_142 ?_
  refine g_callVp (r := (RX11, TX11, 10)) eL_stands_143 kL_48 e0 (by rfl) (x_about hI hwf (x := nI i) (y := nI 1) (Or.inl (hwf.len hC))) (by rfl) (by rfl) (by exact Nat.le_of_ble_eq_true rfl) (by exact Nat.le_of_ble_eq_true rfl) (by exact Nat.le_of_ble_eq_true rfl) (Nat.le_refl _) (Nat.le_refl _) ?_
  refine g_aload eL_stands_146 rfl ?_
  refine g_push eL_stands_147 ?_
  refine g_iload eL_stands_149 rfl ?_
  refine g_iaddN eL_stands_151 ?_
  refine g_ialdN eL_stands_152 (by assumption) (by omega) (by omega) ?_
  refine g_icmp_ne eL_stands_153 (fun c153 => absurd (show oAbout t (nI i) (nI 1) = nI (ds.getD (17 + i) 0) by rw [oAbout_eq h4 hi (by decide), f2]; rfl) c153) (fun c153 => ?_)
  refine g_aload eL_stands_156 rfl ?_
  refine g_iload eL_stands_157 rfl ?_
  refine g_push eL_stands_159 ?_
  refine g_callVp (r := (RX11, TX11, 10)) eL_stands_160 kL_48 e0 (by rfl) (x_about hI hwf (x := nI i) (y := nI 2) (Or.inl (hwf.len hC))) (by rfl) (by rfl) (by exact Nat.le_of_ble_eq_true rfl) (by exact Nat.le_of_ble_eq_true rfl) (by exact Nat.le_of_ble_eq_true rfl) (Nat.le_refl _) (Nat.le_refl _) ?_
  refine g_iload eL_stands_163 rfl ?_
  refine g_icmp_ne eL_stands_165 (fun c165 => absurd (show oAbout t (nI i) (nI 2) = nI (altM t i) by rw [oAbout_eq h4 hi (by decide)]; rfl) c165) (fun c165 => ?_)
  refine g_aload eL_stands_168 rfl ?_
  refine g_iload eL_stands_169 rfl ?_
  refine g_push eL_stands_171 ?_
  refine g_callVp (r := (RX11, TX11, 10)) eL_stands_172 kL_48 e0 (by rfl) (x_about hI hwf (x := nI i) (y := nI 3) (Or.inl (hwf.len hC))) (by rfl) (by rfl) (by exact Nat.le_of_ble_eq_true rfl) (by exact Nat.le_of_ble_eq_true rfl) (by exact Nat.le_of_ble_eq_true rfl) (Nat.le_refl _) (Nat.le_refl _) ?_
  refine g_iload eL_stands_175 rfl ?_
  refine g_callSp eL_stands_177 kL_45 (l_size (m := altM t i) (manM_lt t i _ h10)) (by rfl) (by rfl) (by exact Nat.le_of_ble_eq_true rfl) (by exact Nat.le_of_ble_eq_true rfl) (by exact Nat.le_of_ble_eq_true rfl) (Nat.le_refl _) (Nat.le_refl _) ?_
  refine g_icmp_ne eL_stands_180 (fun c180 => absurd (show oAbout t (nI i) (nI 3) = nI (popc (altM t i)) by rw [oAbout_eq h4 hi (by decide)]; rfl) c180) (fun c180 => ?_)
  refine g_aload eL_stands_183 rfl ?_
  refine g_iload eL_stands_184 rfl ?_
  refine g_push eL_stands_186 ?_
  refine g_callVp (r := (RX11, TX11, 10)) eL_stands_187 kL_48 e0 (by rfl) (x_about hI hwf (x := nI i) (y := nI 4) (Or.inl (hwf.len hC))) (by rfl) (by rfl) (by exact Nat.le_of_ble_eq_true rfl) (by exact Nat.le_of_ble_eq_true rfl) (by exact Nat.le_of_ble_eq_true rfl) (Nat.le_refl _) (Nat.le_refl _) ?_
  refine g_iload eL_stands_190 rfl ?_
  refine g_icmp_ne eL_stands_192 (fun c192 => absurd (show oAbout t (nI i) (nI 4) = nI hb.toNat by rw [oAbout_eq h4 hi (by decide), hv]; rfl) c192) (fun c192 => ?_)
  refine g_aload eL_stands_195 rfl ?_
  refine g_iload eL_stands_196 rfl ?_
  refine g_push eL_stands_198 ?_
  refine g_callVp (r := (RX11, TX11, 10)) eL_stands_199 kL_48 e0 (by rfl) (x_about hI hwf (x := nI i) (y := nI 5) (Or.inl (hwf.len hC))) (by rfl) (by rfl) (by exact Nat.le_of_ble_eq_true rfl) (by exact Nat.le_of_ble_eq_true rfl) (by exact Nat.le_of_ble_eq_true rfl) (Nat.le_refl _) (Nat.le_refl _) ?_
  refine g_aload eL_stands_202 rfl ?_
  refine g_push eL_stands_203 ?_
  refine g_iload eL_stands_205 rfl ?_
  refine g_iaddN eL_stands_207 ?_
  refine g_ialdN eL_stands_208 (by assumption) (by omega) (by omega) ?_
  refine g_icmp_eq eL_stands_209 (fun c209 => ?_) (fun c209 => absurd (show oAbout t (nI i) (nI 5) = nI (ds.getD (21 + i) 0) by rw [oAbout_eq h4 hi (by decide), f3]; rfl) c209)
  refine g_iload eL_stands_214 rfl ?_
  refine g_iload eL_stands_215 rfl ?_
  refine g_iaddN eL_stands_217 ?_
  refine g_istore eL_stands_218 rfl ?_
  refine g_iincN eL_stands_219 rfl rfl ?_
  refine g_goto eL_stands_222 ?_
  rw [show cnt (hangB t (shW (shO (crO t))) (shO (crO t)).length) i + hb.toNat = cnt (hangB t (shW (shO (crO t))) (shO (crO t)).length) (i + 1) by rw [hv]; rfl]
  exact ih _ _
set_option maxRecDepth 20000 in
theorem l_stands_85 {t : St} {σ : aH} (hI : IX t σ) (hwf : WF t) (hC : 0 < ctO t) (e25 : σ[25]? = some (aA (nrO t))) {ds : List Nat} (e26 : σ[26]? = some (aA ds)) (hD : DX t ds) : ∀ d i, i + d = (mnO (crO t)).length → ∀ o1 o2, GL_stands 6 0 0 (aPu (some (.int (nI 1))) σ) 0 0 85 [some (.ref 0), some (.ref 25), some (.ref 26), some (.int (nI (cnt (hangB t (shW (shO (crO t))) (shO (crO t)).length) (i)))), some (.int (nI (orW (shD ds) (shO (crO t)).length))), some (.int (nI (i))), o1, o2] [] σ := by
  obtain ⟨fs, e0⟩ := hI.e0
  obtain ⟨⟨d1, d2, d3, d4, d5⟩, d6, d7⟩ := hD
  have h10 := hwf.ten
  have h4 := hwf.four
  have hlm := hwf.lm
  intro d
  induction d with
  | zero =>
    intro i hi o1 o2
    obtain rfl : i = (mnO (crO t)).length := by omega
    refine g_iload eL_stands_85 rfl ?_
    refine g_aload eL_stands_87 rfl ?_
    refine g_push eL_stands_88 ?_
    refine g_ialdN eL_stands_90 (by assumption) (by omega) (by omega) ?_
    refine g_icmp_geN eL_stands_91 (by omega) (by omega) (fun c91 => ?_) (fun c91 => by exfalso; omega)
    exact l_stands_225 hI hwf hC e25 e26 ⟨⟨d1, d2, d3, d4, d5⟩, d6, d7⟩
  | succ d ih =>
    intro i hi o1 o2
    have ih2 := ih (i + 1) (by omega)
    have hp := popc_le (altM t i)
    have h120 : ∀ hb : Bool, hb = hangB t (shW (shO (crO t))) (shO (crO t)).length i → ∀ o2, GL_stands 6 0 0 (aPu (some (.int (nI 1))) σ) 0 0 120 [some (.ref 0), some (.ref 25), some (.ref 26), some (.int (nI (cnt (hangB t (shW (shO (crO t))) (shO (crO t)).length) i))), some (.int (nI (orW (shD ds) (shO (crO t)).length))), some (.int (nI (i))), some (.int (nI (altM t i))), o2] [.int (nI hb.toNat)] σ := fun hb hv o2 => l_stands_120 hI hwf hC e25 e26 ⟨⟨d1, d2, d3, d4, d5⟩, d6, d7⟩ (by omega) hv ih2
    refine g_iload eL_stands_85 rfl ?_
    refine g_aload eL_stands_87 rfl ?_
    refine g_push eL_stands_88 ?_
    refine g_ialdN eL_stands_90 (by assumption) (by omega) (by omega) ?_
    refine g_icmp_geN eL_stands_91 (by omega) (by omega) (fun c91 => by exfalso; omega) (fun c91 => ?_)
    refine g_aload eL_stands_94 rfl ?_
    refine g_aload eL_stands_95 rfl ?_
    refine g_iload eL_stands_96 rfl ?_
    refine g_callSp eL_stands_98 kL_41 (l_nowM (i := i) hwf e26 e25 ⟨d1, d2, d3, d4, d5⟩ d6 (fun k _ => hwf.wd k) (by omega)) (by rfl) (by rfl) (by exact Nat.le_of_ble_eq_true rfl) (by exact Nat.le_of_ble_eq_true rfl) (by exact Nat.le_of_ble_eq_true rfl) (Nat.le_refl _) (Nat.le_refl _) ?_
    refine g_istore eL_stands_101 rfl ?_
    refine g_iload eL_stands_103 rfl ?_
    refine g_callSp eL_stands_105 kL_45 (l_size (m := altM t i) (manM_lt t i _ h10)) (by rfl) (by rfl) (by exact Nat.le_of_ble_eq_true rfl) (by exact Nat.le_of_ble_eq_true rfl) (by exact Nat.le_of_ble_eq_true rfl) (Nat.le_refl _) (Nat.le_refl _) ?_
    refine g_aload eL_stands_108 rfl ?_
    refine g_push eL_stands_109 ?_
    refine g_ialdN eL_stands_111 (by assumption) (by omega) (by omega) ?_
    refine g_icmp_ltN eL_stands_112 (by omega) (by omega) (fun c112 => ?_) (fun c112 => ?_)
    · refine g_push eL_stands_119 ?_
      first
        | exact h120 true (by show true = decide (lmO (crO t) ≤ popc (altM t i)); rw [decide_eq_true (by omega)]) _
        | exact h120 false (by show false = decide (lmO (crO t) ≤ popc (altM t i)); rw [decide_eq_false (by omega)]) _
    · refine g_push eL_stands_115 ?_
      refine g_goto eL_stands_116 ?_
      first
        | exact h120 true (by show true = decide (lmO (crO t) ≤ popc (altM t i)); rw [decide_eq_true (by omega)]) _
        | exact h120 false (by show false = decide (lmO (crO t) ≤ popc (altM t i)); rw [decide_eq_false (by omega)]) _
set_option maxRecDepth 20000 in
theorem l_stands_38 {t : St} {σ : aH} (hI : IX t σ) (hwf : WF t) (hC : 0 < ctO t) (e25 : σ[25]? = some (aA (nrO t))) {ds : List Nat} (e26 : σ[26]? = some (aA ds)) (hD : DX t ds) : ∀ d i, i + d = (shO (crO t)).length → ∀ o1 o2, GL_stands 6 0 0 (aPu (some (.int (nI 1))) σ) 0 0 38 [some (.ref 0), some (.ref 25), some (.ref 26), some (.int (nI (0))), some (.int (nI (orW (shD ds) (i)))), some (.int (nI (i))), o1, o2] [] σ := by
  obtain ⟨fs, e0⟩ := hI.e0
  obtain ⟨⟨d1, d2, d3, d4, d5⟩, d6, d7⟩ := hD
  have h10 := hwf.ten
  have h4 := hwf.four
  have hlm := hwf.lm
  intro d
  induction d with
  | zero =>
    intro i hi o1 o2
    obtain rfl : i = (shO (crO t)).length := by omega
    refine g_iload eL_stands_38 rfl ?_
    refine g_aload eL_stands_40 rfl ?_
    refine g_push eL_stands_41 ?_
    refine g_ialdN eL_stands_42 (by assumption) (by omega) (by omega) ?_
    refine g_icmp_geN eL_stands_43 (by omega) (by omega) (fun c43 => ?_) (fun c43 => by exfalso; omega)
    refine g_push eL_stands_82 ?_
    refine g_istore eL_stands_83 rfl ?_
    exact l_stands_85 hI hwf hC e25 e26 ⟨⟨d1, d2, d3, d4, d5⟩, d6, d7⟩ _ 0 (Nat.zero_add _) _ _
  | succ d ih =>
    intro i hi o1 o2
    have ih2 := ih (i + 1) (by omega)
    have h6 : ds.getD (1 + i) 0 = (shO (crO t)).getD i 0 := d6 i (by omega)
    have h8 : ds.getD (1 + i) 0 < 8 := by rw [h6]; exact hwf.wd i
    have hor := orW_s (shD ds) i
    refine g_iload eL_stands_38 rfl ?_
    refine g_aload eL_stands_40 rfl ?_
    refine g_push eL_stands_41 ?_
    refine g_ialdN eL_stands_42 (by assumption) (by omega) (by omega) ?_
    refine g_icmp_geN eL_stands_43 (by omega) (by omega) (fun c43 => by exfalso; omega) (fun c43 => ?_)
    refine g_aload eL_stands_46 rfl ?_
    refine g_iload eL_stands_47 rfl ?_
    refine g_callVp (r := (RX11, TX11, 10)) eL_stands_49 kL_38 e0 (by rfl) (x_word hI hwf (x := nI i)) (by rfl) (by rfl) (by exact Nat.le_of_ble_eq_true rfl) (by exact Nat.le_of_ble_eq_true rfl) (by exact Nat.le_of_ble_eq_true rfl) (Nat.le_refl _) (Nat.le_refl _) ?_
    refine g_aload eL_stands_52 rfl ?_
    refine g_push eL_stands_53 ?_
    refine g_iload eL_stands_54 rfl ?_
    refine g_iaddN eL_stands_56 ?_
    refine g_ialdN eL_stands_57 (by assumption) (by omega) (by omega) ?_
    refine g_icmp_eq eL_stands_58 (fun c58 => ?_) (fun c58 => absurd (by rw [h6]; exact oWord_eq h10 (by omega)) c58)
    refine g_iload eL_stands_63 rfl ?_
    refine g_push eL_stands_65 ?_
    refine g_aload eL_stands_66 rfl ?_
    refine g_push eL_stands_67 ?_
    refine g_iload eL_stands_68 rfl ?_
    refine g_iaddN eL_stands_70 ?_
    refine g_ialdN eL_stands_71 (by assumption) (by omega) (by omega) ?_
    refine g_ishlN eL_stands_72 (by omega) (one_shl _ (by omega)) ?_
    refine g_iorN eL_stands_73 ?_
    refine g_istore eL_stands_74 rfl ?_
    refine g_iincN eL_stands_76 rfl rfl ?_
    refine g_goto eL_stands_79 ?_
    rw [hor] at ih2
    exact ih2 _ _
set_option maxRecDepth 20000 in
theorem l_stands {t : St} {σ : aH} (h : LI t σ) : ML_stands 6 0 0 [.ref 0, .ref 25, .ref 26] σ (aPu (some (.int (nI 1))) σ) := by
  obtain ⟨hI, hwf, hC, h28, e25, ds, e26, hD⟩ := h
  obtain ⟨fs, e0⟩ := hI.e0
  have hnl := hwf.nl
  refine sL_stands (Nat.le_of_ble_eq_true rfl) ?_
  have key : ∀ d i, i + d = 5 → ∀ o1 o2, GL_stands 6 0 0 (aPu (some (.int (nI 1))) σ) 0 0 8 [some (.ref 0), some (.ref 25), some (.ref 26), some (.int (nI (0))), some (.int (nI (0))), some (.int (nI (i))), o1, o2] [] σ := by
    intro d
    induction d with
    | zero =>
      intro i hi o1 o2
      obtain rfl : i = 5 := by omega
      refine g_iload eL_stands_8 rfl ?_
      refine g_push eL_stands_10 ?_
      refine g_icmp_geN eL_stands_11 (by omega) (by omega) (fun c11 => ?_) (fun c11 => by exfalso; omega)
      refine g_push eL_stands_35 ?_
      refine g_istore eL_stands_36 rfl ?_
      exact l_stands_38 hI hwf hC e25 e26 hD _ 0 (Nat.zero_add _) _ _
    | succ d ih =>
      intro i hi o1 o2
      have ih2 := ih (i + 1) (by omega)
      refine g_iload eL_stands_8 rfl ?_
      refine g_push eL_stands_10 ?_
      refine g_icmp_geN eL_stands_11 (by omega) (by omega) (fun c11 => by exfalso; omega) (fun c11 => ?_)
      refine g_aload eL_stands_14 rfl ?_
      refine g_iload eL_stands_15 rfl ?_
      refine g_callVp (r := (RX11, TX11, 10)) eL_stands_17 kL_35 e0 (by rfl) (x_near hI hwf (x := nI i)) (by rfl) (by rfl) (by exact Nat.le_of_ble_eq_true rfl) (by exact Nat.le_of_ble_eq_true rfl) (by exact Nat.le_of_ble_eq_true rfl) (Nat.le_refl _) (Nat.le_refl _) ?_
      refine g_aload eL_stands_20 rfl ?_
      refine g_iload eL_stands_21 rfl ?_
      refine g_ialdN eL_stands_23 (by assumption) (by omega) (by omega) ?_
      refine g_icmp_eq eL_stands_24 (fun c24 => ?_) (fun c24 => absurd (oNear_eq hC (by omega)) c24)
      refine g_iincN eL_stands_29 rfl rfl ?_
      refine g_goto eL_stands_32 ?_
      exact ih2 _ _
  refine g_push eL_stands_0 ?_
  refine g_istore eL_stands_1 rfl ?_
  refine g_push eL_stands_2 ?_
  refine g_istore eL_stands_3 rfl ?_
  refine g_push eL_stands_5 ?_
  refine g_istore eL_stands_6 rfl ?_
  exact key 5 0 rfl _ _
