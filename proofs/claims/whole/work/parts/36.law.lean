/-! THE LAW's own frame: G, and the script at local 0 -/
def aZ (zb zN : Nat) (zx : Nat → Int32) (s : State) (A : Nat → Prop) (ls : Array Slot) : Prop := ls[0]? = some (.val (.ref zb)) ∧ va_X zb zN zx s s.heap ∧ zb < s.heap.size ∧ ¬ A zb
def GL (zb zN : Nat) (zx : Nat → Int32) (Y : MethodName) (cc : ByteArray) (nL : Nat) (rt : Option FieldType) (lv mc ms : Nat) (post : Option Value → aH → Prop) (k n pc : Nat) (L : List (Option Value)) (S : List Value) (σ : aH) : Prop :=
  ∀ (D : va_G) (cI cM : ClassId) (p : Program) (l : Launch) (e : Env) (R : Room) (s : State) (m : MethodId) (args : Array Value) (below : List Frame) (meth : Method) (c : Code) (A : Nat → Prop) (Q : State → Prop) (ad0 : Nat → Nat) (n0 : Nat) (H : Heap) (locs : List Loc) (ls : Array Slot) (ad : Nat → Nat),
    aCx D cI cM p l e R s m args below meth c A Q ad0 n0 Y cc nL rt lv mc ms post → aSt D cI cM A s.heap ad0 n0 H locs ad σ → aLo ad ls nL L σ.length → (∀ v ∈ S, aSc σ.length v) → aZ zb zN zx s A ls → W p l e R s m args below meth c H locs k n Q (F0 m pc ls (S.map (aRe ad)))
theorem GL.use {zb zN : Nat} {zx : Nat → Int32} {Y : MethodName} {cc : ByteArray} {nL : Nat} {rt : Option FieldType} {lv mc ms : Nat} {post : Option Value → aH → Prop} {k n pc : Nat} {L : List (Option Value)} {S : List Value} {σ : aH} (h : GL zb zN zx Y cc nL rt lv mc ms post k n pc L S σ) {D : va_G} {cI cM : ClassId} {p : Program} {l : Launch} {e : Env} {R : Room} {s : State} {m : MethodId} {args : Array Value} {below : List Frame} {meth : Method} {c : Code} {A : Nat → Prop} {Q : State → Prop} {ad0 : Nat → Nat} {n0 : Nat} {H : Heap} {locs : List Loc} {ls : Array Slot} {ad : Nat → Nat} (hz : aZ zb zN zx s A ls) (C : aCx D cI cM p l e R s m args below meth c A Q ad0 n0 Y cc nL rt lv mc ms post) (X : aSt D cI cM A s.heap ad0 n0 H locs ad σ) (hl : aLo ad ls nL L σ.length) (hS : ∀ v ∈ S, aSc σ.length v) : W p l e R s m args below meth c H locs k n Q (F0 m pc ls (S.map (aRe ad))) := h D cI cM p l e R s m args below meth c A Q ad0 n0 H locs ls ad C X hl hS hz
theorem aZ_sto {zb zN : Nat} {zx : Nat → Int32} {s : State} {A : Nat → Prop} {ls ls' : Array Slot} {nL i : Nat} {v : Value} {l : List (Nat × Value)} (hz : aZ zb zN zx s A ls) (hi : 0 < i) (h' : lv_has ls' nL ((i, v) :: ((0, .ref zb) :: l).filter (fun q => !(q.1 == i) && !(q.1 + 1 == i && q.2.category == 2)))) : aZ zb zN zx s A ls' ∧ lv_has ls' nL ((i, v) :: l.filter (fun q => !(q.1 == i) && !(q.1 + 1 == i && q.2.category == 2))) := by
  have h0 : ((0 : Nat), Value.ref zb) ∈ ((0, .ref zb) :: l).filter (fun q => !(q.1 == i) && !(q.1 + 1 == i && q.2.category == 2)) := List.mem_filter.mpr ⟨List.mem_cons_self, by
    have e : ((0 : Nat) == i) = false := by
      rw [beq_eq_decide]
      exact decide_eq_false (by omega)
    simp [e, Value.category]⟩
  refine ⟨⟨h'.2.2 _ (List.mem_cons_of_mem _ h0), hz.2⟩, lv_less h' (fun q hq => ?_)⟩
  rcases List.mem_cons.mp hq with h | h
  · rw [h]
    exact List.mem_cons_self
  · obtain ⟨a, c⟩ := List.mem_filter.mp h
    exact List.mem_cons_of_mem _ (List.mem_filter.mpr ⟨List.mem_cons_of_mem _ a, c⟩)
theorem aZ_has {zb zN : Nat} {zx : Nat → Int32} {s : State} {A : Nat → Prop} {ls : Array Slot} {nL : Nat} {l : List (Nat × Value)} (hz : aZ zb zN zx s A ls) (h : lv_has ls nL l) : lv_has ls nL ((0, .ref zb) :: l) := ⟨h.1, h.2.1, fun q hq => by
  rcases List.mem_cons.mp hq with e | e
  · rw [e]
    exact hz.1
  · exact h.2.2 q e⟩
section AL
variable {zb zN : Nat} {zx : Nat → Int32} {Y : MethodName} {cc : ByteArray} {nL : Nat} {rt : Option FieldType} {lv mc ms : Nat} {post : Option Value → aH → Prop} {k n pc pc' tgt : Nat} {L L' : List (Option Value)} {S S0 : List Value} {σ : aH}
variable {y : MethodName} {cc' : ByteArray} {nL' : Nat} {rt' : Option FieldType} {lv' mc' ms' : Nat} {post' : Option Value → aH → Prop} {As : List Value} {b index np : Nat}
theorem h_push {v : Int32} (hd : aPI cc pc v pc') (kk : GL zb zN zx Y cc nL rt lv mc ms post k n pc' L (.int v :: S) σ) : GL zb zN zx Y cc nL rt lv mc ms post k n pc L S σ := by
  intro D cI cM p l e R s m args below meth c A Q ad0 n0 H locs ls ad C X hl hS hz
  rcases hd with ⟨z, h1, h2, rfl⟩ | ⟨z, h1, h2, rfl⟩ | ⟨z, h1, h2, rfl⟩
  · exact lv_iconst C.1 C.2.1 h1 h2 (kk.use hz C X hl (aSI hS))
  · exact lv_bipush C.1 C.2.1 h1 h2 (kk.use hz C X hl (aSI hS))
  · exact lv_sipush C.1 C.2.1 h1 h2 (kk.use hz C X hl (aSI hS))
theorem h_iload {i : Nat} {x : Int32} (hd : aIL cc pc i pc') (hi : L[i]? = some (some (.int x))) (kk : GL zb zN zx Y cc nL rt lv mc ms post k n pc' L (.int x :: S) σ) : GL zb zN zx Y cc nL rt lv mc ms post k n pc L S σ := by
  intro D cI cM p l e R s m args below meth c A Q ad0 n0 H locs ls ad C X hl hS hz
  have hs := (aLo_at hl hi).1
  rcases hd with ⟨z, h1, h2, rfl⟩ | ⟨h1, rfl⟩
  · exact lv_iload_n C.1 C.2.1 h1 h2 hs (kk.use hz C X hl (aSI hS))
  · exact lv_iload C.1 C.2.1 h1 hs (kk.use hz C X hl (aSI hS))
theorem h_aload {i a : Nat} (hd : aAL cc pc i pc') (hi : L[i]? = some (some (.ref a))) (kk : GL zb zN zx Y cc nL rt lv mc ms post k n pc' L (.ref a :: S) σ) : GL zb zN zx Y cc nL rt lv mc ms post k n pc L S σ := by
  intro D cI cM p l e R s m args below meth c A Q ad0 n0 H locs ls ad C X hl hS hz
  obtain ⟨hs, hv⟩ := aLo_at hl hi
  rcases hd with ⟨z, h1, h2, rfl⟩ | ⟨h1, rfl⟩
  · exact lv_aload_n C.1 C.2.1 h1 h2 hs (kk.use hz C X hl (aSC hv hS))
  · exact lv_aload C.1 C.2.1 h1 hs (kk.use hz C X hl (aSC hv hS))
theorem h_dup {v : Value} (hd : aI1 cc pc .dup pc') (hv : v.category = 1) (kk : GL zb zN zx Y cc nL rt lv mc ms post k n pc' L (v :: v :: S) σ) : GL zb zN zx Y cc nL rt lv mc ms post k n pc L (v :: S) σ := by
  intro D cI cM p l e R s m args below meth c A Q ad0 n0 H locs ls ad C X hl hS hz
  obtain ⟨hd, rfl⟩ := hd
  exact lv_dup C.1 C.2.1 hd (by rw [aRe_cat]; exact hv) (kk.use hz C X hl (aSC (hS v List.mem_cons_self) hS))
theorem h_iand {x y : Int32} (hd : aI1 cc pc .iand pc') (kk : GL zb zN zx Y cc nL rt lv mc ms post k n pc' L (.int (x &&& y) :: S) σ) : GL zb zN zx Y cc nL rt lv mc ms post k n pc L (.int y :: .int x :: S) σ := by
  intro D cI cM p l e R s m args below meth c A Q ad0 n0 H locs ls ad C X hl hS hz
  obtain ⟨hd, rfl⟩ := hd
  exact lv_iand C.1 C.2.1 hd (kk.use hz C X hl (aSI (aS2 hS)))
theorem h_if_eq {x : Int32} (hd : aIf_eq cc pc pc' tgt) (kt : x = 0 → GL zb zN zx Y cc nL rt lv mc ms post k n tgt L S σ) (kf : ¬ x = 0 → GL zb zN zx Y cc nL rt lv mc ms post k n pc' L S σ) : GL zb zN zx Y cc nL rt lv mc ms post k n pc L (.int x :: S) σ := by
  intro D cI cM p l e R s m args below meth c A Q ad0 n0 H locs ls ad C X hl hS hz
  obtain ⟨off, hd, rfl, ht⟩ := hd
  exact lv_if_eq C.1 C.2.1 hd ht (fun h => (kt h).use hz C X hl (aS1 hS)) (fun h => (kf h).use hz C X hl (aS1 hS))
theorem h_if_ne {x : Int32} (hd : aIf_ne cc pc pc' tgt) (kt : ¬ x = 0 → GL zb zN zx Y cc nL rt lv mc ms post k n tgt L S σ) (kf : x = 0 → GL zb zN zx Y cc nL rt lv mc ms post k n pc' L S σ) : GL zb zN zx Y cc nL rt lv mc ms post k n pc L (.int x :: S) σ := by
  intro D cI cM p l e R s m args below meth c A Q ad0 n0 H locs ls ad C X hl hS hz
  obtain ⟨off, hd, rfl, ht⟩ := hd
  exact lv_if_ne C.1 C.2.1 hd ht (fun h => (kt h).use hz C X hl (aS1 hS)) (fun h => (kf h).use hz C X hl (aS1 hS))
theorem h_icmp_eq {x y : Int32} (hd : aIc_eq cc pc pc' tgt) (kt : x = y → GL zb zN zx Y cc nL rt lv mc ms post k n tgt L S σ) (kf : ¬ x = y → GL zb zN zx Y cc nL rt lv mc ms post k n pc' L S σ) : GL zb zN zx Y cc nL rt lv mc ms post k n pc L (.int y :: .int x :: S) σ := by
  intro D cI cM p l e R s m args below meth c A Q ad0 n0 H locs ls ad C X hl hS hz
  obtain ⟨off, hd, rfl, ht⟩ := hd
  exact lv_icmp_eq C.1 C.2.1 hd ht (fun h => (kt h).use hz C X hl (aS2 hS)) (fun h => (kf h).use hz C X hl (aS2 hS))
theorem h_goto (hd : aGo cc pc tgt) (kk : GL zb zN zx Y cc nL rt lv mc ms post k n tgt L S σ) : GL zb zN zx Y cc nL rt lv mc ms post k n pc L S σ := by
  intro D cI cM p l e R s m args below meth c A Q ad0 n0 H locs ls ad C X hl hS hz
  obtain ⟨off, hd, ht⟩ := hd
  exact lv_goto C.1 C.2.1 hd ht (kk.use hz C X hl hS)
theorem h_tswOut {dflt lo hi : Int} {offs : Array Int} {len : Nat} {x : Int32} (hd : decode cc pc = .ok (.tableswitch dflt lo hi offs, len)) (h : x.toInt < lo ∨ hi < x.toInt) (ht : (pc : Int) + dflt = (tgt : Int)) (kk : GL zb zN zx Y cc nL rt lv mc ms post k n tgt L S σ) : GL zb zN zx Y cc nL rt lv mc ms post k n pc L (.int x :: S) σ := by
  intro D cI cM p l e R s m args below meth c A Q ad0 n0 H locs ls ad C X hl hS hz
  exact lv_tableOut C.1 C.2.1 hd h ht (kk.use hz C X hl (aS1 hS))
theorem h_tswIn {dflt lo hi : Int} {offs : Array Int} {len : Nat} {x : Int32} {off : Int} (hd : decode cc pc = .ok (.tableswitch dflt lo hi offs, len)) (h1 : ¬ x.toInt < lo) (h2 : ¬ hi < x.toInt) (ho : offs[(x.toInt - lo).toNat]? = some off) (ht : (pc : Int) + off = (tgt : Int)) (kk : GL zb zN zx Y cc nL rt lv mc ms post k n tgt L S σ) : GL zb zN zx Y cc nL rt lv mc ms post k n pc L (.int x :: S) σ := by
  intro D cI cM p l e R s m args below meth c A Q ad0 n0 H locs ls ad C X hl hS hz
  exact lv_tableIn C.1 C.2.1 hd h1 h2 ho ht (kk.use hz C X hl (aS1 hS))
theorem h_isub {x y : Int32} (hd : aI1 cc pc .isub pc') (kk : GL zb zN zx Y cc nL rt lv mc ms post k n pc' L (.int (x - y) :: S) σ) : GL zb zN zx Y cc nL rt lv mc ms post k n pc L (.int y :: .int x :: S) σ := by
  intro D cI cM p l e R s m args below meth c A Q ad0 n0 H locs ls ad C X hl hS hz
  obtain ⟨hd, rfl⟩ := hd
  exact lv_isub C.1 C.2.1 hd (kk.use hz C X hl (aSI (aS2 hS)))
theorem h_icmp_gt {x y : Int32} (hd : aIc_gt cc pc pc' tgt) (kt : y < x → GL zb zN zx Y cc nL rt lv mc ms post k n tgt L S σ) (kf : ¬ y < x → GL zb zN zx Y cc nL rt lv mc ms post k n pc' L S σ) : GL zb zN zx Y cc nL rt lv mc ms post k n pc L (.int y :: .int x :: S) σ := by
  intro D cI cM p l e R s m args below meth c A Q ad0 n0 H locs ls ad C X hl hS hz
  obtain ⟨off, hd, rfl, ht⟩ := hd
  exact lv_icmp_gt C.1 C.2.1 hd ht (fun h => (kt h).use hz C X hl (aS2 hS)) (fun h => (kf h).use hz C X hl (aS2 hS))
theorem h_lcmp {x y : Int64} (hd : aI1 cc pc .lcmp pc') (kk : GL zb zN zx Y cc nL rt lv mc ms post k n pc' L (.int (lg_cmp x y) :: S) σ) : GL zb zN zx Y cc nL rt lv mc ms post k n pc L (.long y :: .long x :: S) σ := by
  intro D cI cM p l e R s m args below meth c A Q ad0 n0 H locs ls ad C X hl hS hz
  obtain ⟨hd, rfl⟩ := hd
  exact W.lcmp C.1 C.2.1 hd (kk.use hz C X hl (aSI (aS2 hS)))
theorem h_new {index ci : Nat} {r : vw_C} {fs : List Value} {ty : Nat → FieldType} (hd : aI3 cc pc (.new index) pc') (hr : vwCl[ci]? = some r) (hin : ∀ w ∈ u_ws r.1 r.2.1 r.2.2, w ∈ aWd) (hty : ∀ k, k < r.2.2 → parseFieldDescriptor (r.2.1 k).2.2.1 = some (ty k)) (hw1 : Cond.classLink Y.cls index r.1 ∈ aWd) (hw2 : Cond.instantiable r.1 r.2.2 ∈ aWd) (hw3 : Cond.initialized r.1 ∈ aWd) (hfs : ∀ j, j < r.2.2 → defaultValue (ty j) = vp_V fs j) (hno : ∀ v ∈ fs, (∃ x, v = .int x) ∨ v = .null ∨ (∃ x, v = .long x)) (hmc : k + 1 ≤ mc) (hms : n + r.2.2 ≤ ms) (kk : GL zb zN zx Y cc nL rt lv mc ms post (k + 1) (n + r.2.2) pc' L (.ref σ.length :: S) (σ ++ [.inr (.inr (ci, fs))])) : GL zb zN zx Y cc nL rt lv mc ms post k n pc L S σ := by
  intro D cI cM p l e R s m args below meth c A Q ad0 n0 H locs ls ad C X hl hS hz
  obtain ⟨hd, rfl⟩ := hd
  have hre : fs.map (aRe ad) = fs := by
    conv => rhs; rw [← List.map_id fs]
    refine List.map_congr_left (fun v hv => ?_)
    rcases hno v hv with ⟨x, rfl⟩ | rfl | ⟨x, rfl⟩ <;> rfl
  have hRm := C.2.2.2.2.2.2.2.2.1.2.2
  refine va_new (ci := ci) (fs := fs) C.1 C.2.1 C.2.2.2.2.1 hin ty hty C.2.2.2.1 (C.2.2.2.2.1 _ hw1) (C.2.2.2.2.1 _ hw2) (C.2.2.2.2.1 _ hw3) C.2.2.2.2.2.2.1.1 X.1 X.2.1 X.2.2.1 C.2.2.2.2.2.2.2.1 hr hfs (by omega) (by omega) hd (fun q H1 hP hD hS1 => ?_)
  have hre2 : fs.map (aRe (fun i => if i = σ.length then q else ad i)) = fs := by
    conv => rhs; rw [← List.map_id fs]
    refine List.map_congr_left (fun v hv => ?_)
    rcases hno v hv with ⟨x, rfl⟩ | rfl | ⟨x, rfl⟩ <;> rfl
  have hsc : aScC (σ.length + 1) (.inr (.inr (ci, fs))) := fun v hv => by
    rcases hno v hv with ⟨x, rfl⟩ | rfl | ⟨x, rfl⟩
    · exact aSc_int
    · exact aSc_null
    · exact aSc_long
  have X' := X.push (c := .inr (.inr (ci, fs))) hsc (by show va_P D vwCl (aW cI cM ad σ ++ [(q, .inr (ci, fs.map (aRe (fun i => if i = σ.length then q else ad i))))]) H1; rw [hre2]; exact hP) (by show va_D A (aW cI cM ad σ ++ [(q, .inr (ci, fs.map (aRe (fun i => if i = σ.length then q else ad i))))]); rw [hre2]; exact hD) hS1
  have he : ∀ i, i < σ.length → (fun i => if i = σ.length then q else ad i) i = ad i := fun i hi => by simp [Nat.ne_of_lt hi]
  have hlen : (σ ++ [(.inr (.inr (ci, fs)) : aT)]).length = σ.length + 1 := by simp
  have hw := kk.use hz C X' (by rw [hlen]; exact aLo_ad hl (Nat.le_succ _) he) (by rw [hlen]; exact aSC (aSc_ref (Nat.lt_succ_self _)) (fun v hv => aSc_mono (Nat.le_succ _) (hS v hv)))
  rw [List.map_cons, aRe_map he hS] at hw
  simp only [aRe, if_true] at hw
  exact hw
theorem h_init (hd : aI3 cc pc (.invokespecial index) pc') (hk : aLI Y.cls index y cc' nL' np) (hM : AMet y cc' nL' none lv' mc' ms' (.ref b :: As) σ post') (hst : S0 = As.reverse ++ .ref b :: S) (hnp : As.length = np) (hlv : lv' + 1 ≤ lv) (hnl : nL' ≤ 41) (hsum : (S.map fun v => v.category).sum ≤ 8) (hmc : k + mc' ≤ mc) (hms : n + ms' ≤ ms) (kk : ∀ v σ', post' v σ' → σ.length ≤ σ'.length → GL zb zN zx Y cc nL rt lv mc ms post (k + mc') (n + ms') pc' L (v.toList ++ S) σ') : GL zb zN zx Y cc nL rt lv mc ms post k n pc L S0 σ := by
  intro D cI cM p l e R s m args below meth c A Q ad0 n0 H locs ls ad C X hl hS hz
  subst hst
  obtain ⟨hd, rfl⟩ := hd
  have hRm := C.2.2.2.2.2.2.2.2.1
  have hK := C.2.2.2.2.2.2.1
  have hA0 : ∀ v ∈ (.ref b :: As), aSc σ.length v := fun v hv => hS v (aMemA hv)
  have hS2 : ∀ v ∈ S, aSc σ.length v := fun v hv => hS v (List.mem_append_right _ (List.mem_cons_of_mem _ hv))
  have hM' := hM X.2.2.2.1 hA0 l D cI cM ad H.size
  have hpre : ∀ U : State, U.heap = H → s.WarmedH U.vm → aPr D cI cM ad σ H.size U := fun U hU hW => ⟨by rw [hU], by rw [hU]; exact X.1, aK.warm hW hK, X.2.1.weaken (fun _ _ _ _ => trivial)⟩
  have hb2 : (aRm lv' mc' ms').frames + 1 ≤ R.frames ∧ 8 + (nL' + 11) + (aRm lv' mc' ms').locals ≤ R.locals := by
    have h1 := hRm.1
    have h2 := hRm.2.1
    show lv' + 1 ≤ R.frames ∧ 8 + (nL' + 11) + (60 * lv' + 20) ≤ R.locals
    omega
  have hf : k + mc' ≤ R.cells ∧ n + ms' ≤ R.slots := ⟨Nat.le_trans hmc hRm.2.2.1, Nat.le_trans hms hRm.2.2.2⟩
  have hW8 : 2 * (F0 m pc ls ((As.reverse ++ .ref b :: S).map (aRe ad))).monitorRoom + ((S.map (aRe ad)).map fun v => v.category).sum ≤ 8 := by
    rw [aCatSum]
    exact lv_room hsum
  have hAl : (As.map (aRe ad)).length = np := by rw [List.length_map]; exact hnp
  obtain ⟨w1, w2, w3, w4, w5, w6⟩ := hk
  have hrun := va_runI (e := e) (below := below) (meth := meth) (locs := locs) (cells := k) (slots := n) (rest := S.map (aRe ad)) (g := F0 m pc ls ((As.reverse ++ .ref b :: S).map (aRe ad))) (As := As.map (aRe ad)) ⟨C.1, C.2.1, C.2.2.1, C.2.2.2.1, C.2.2.2.2.1⟩ hM' (cwI np C.2.2.2.2.1 (aGood (aWd_c w4)) rfl rfl rfl (C.2.2.2.2.1 _ w3) (C.2.2.2.2.1 _ w1) (C.2.2.2.2.1 _ w2) w5 w6 hb2) ⟨aPr_blind, fun U hU hW => ⟨rfl, hpre U hU hW⟩⟩ rfl hAl hl.1.1 (by show List.map _ _ = _; rw [aRevMap]; rfl) hW8 hd hf
  refine a_call hrun X (a_free X C.2.2.2.2.2.2.2.1) (fun v σ' ad' H1 locs1 hp hw hln had X' => ?_)
  rw [← aRe_map had hS2, aTail]
  exact (kk v σ' hp hln).use hz C X' (aLo_ad hl hln had) (aTailSc hw (fun w h => aSc_mono hln (hS2 w h)))
theorem h_callV {ci : Nat} {fs : List Value} {r : vw_C} (hd : aI3 cc pc (.invokevirtual index) pc') (hk : aLV Y.cls index r.1 y cc' nL' rt' np) (hσ : σ[b]? = some (.inr (.inr (ci, fs)))) (hr : vwCl[ci]? = some r) (hM : AMet y cc' nL' rt' lv' mc' ms' (.ref b :: As) σ post') (hst : S0 = As.reverse ++ .ref b :: S) (hnp : As.length = np) (hlv : lv' + 1 ≤ lv) (hnl : nL' ≤ 41) (hsum : (S.map fun v => v.category).sum ≤ 8) (hmc : k + mc' ≤ mc) (hms : n + ms' ≤ ms) (kk : ∀ v σ', post' v σ' → σ.length ≤ σ'.length → GL zb zN zx Y cc nL rt lv mc ms post (k + mc') (n + ms') pc' L (v.toList ++ S) σ') : GL zb zN zx Y cc nL rt lv mc ms post k n pc L S0 σ := by
  intro D cI cM p l e R s m args below meth c A Q ad0 n0 H locs ls ad C X hl hS hz
  subst hst
  obtain ⟨hd, rfl⟩ := hd
  have hRm := C.2.2.2.2.2.2.2.2.1
  have hK := C.2.2.2.2.2.2.1
  have hA0 : ∀ v ∈ (.ref b :: As), aSc σ.length v := fun v hv => hS v (aMemA hv)
  have hS2 : ∀ v ∈ S, aSc σ.length v := fun v hv => hS v (List.mem_append_right _ (List.mem_cons_of_mem _ hv))
  have hM' := hM X.2.2.2.1 hA0 l D cI cM ad H.size
  have hpre : ∀ U : State, U.heap = H → s.WarmedH U.vm → aPr D cI cM ad σ H.size U := fun U hU hW => ⟨by rw [hU], by rw [hU]; exact X.1, aK.warm hW hK, X.2.1.weaken (fun _ _ _ _ => trivial)⟩
  have hb2 : (aRm lv' mc' ms').frames + 1 ≤ R.frames ∧ 8 + (nL' + 11) + (aRm lv' mc' ms').locals ≤ R.locals := by
    have h1 := hRm.1
    have h2 := hRm.2.1
    show lv' + 1 ≤ R.frames ∧ 8 + (nL' + 11) + (60 * lv' + 20) ≤ R.locals
    omega
  have hf : k + mc' ≤ R.cells ∧ n + ms' ≤ R.slots := ⟨Nat.le_trans hmc hRm.2.2.1, Nat.le_trans hms hRm.2.2.2⟩
  have hW8 : 2 * (F0 m pc ls ((As.reverse ++ .ref b :: S).map (aRe ad))).monitorRoom + ((S.map (aRe ad)).map fun v => v.category).sum ≤ 8 := by
    rw [aCatSum]
    exact lv_room hsum
  have hAl : (As.map (aRe ad)).length = np := by rw [List.length_map]; exact hnp
  obtain ⟨w1, w2, w3, w4, w5, w6, w7⟩ := hk
  have hrun := va_runV (e := e) (below := below) (meth := meth) (locs := locs) (cells := k) (slots := n) (rest := S.map (aRe ad)) (g := F0 m pc ls ((As.reverse ++ .ref b :: S).map (aRe ad))) (As := As.map (aRe ad)) ⟨C.1, C.2.1, C.2.2.1, C.2.2.2.1, C.2.2.2.2.1⟩ hM' (cwV np C.2.2.2.2.1 (aGood (by unfold wsV; exact aCons4 w1 w2 w3 w4 (aWd_c w5))) rfl rfl rfl ⟨w6, w7⟩ hb2) ⟨aPr_blind, va_recv hK.1 X.1 hr (aW_at (cI := cI) (cM := cM) (ad := ad) hσ), fun U hU hW => ⟨rfl, hpre U hU hW⟩⟩ rfl hAl hl.1.1 (by show List.map _ _ = _; rw [aRevMap]; rfl) hW8 hd hf
  refine a_call hrun X (a_free X C.2.2.2.2.2.2.2.1) (fun v σ' ad' H1 locs1 hp hw hln had X' => ?_)
  rw [← aRe_map had hS2, aTail]
  exact (kk v σ' hp hln).use hz C X' (aLo_ad hl hln had) (aTailSc hw (fun w h => aSc_mono hln (hS2 w h)))
theorem h_ret {v : Option Value} (hr : aRet cc rt pc v) (hk : k ≤ mc) (hn : n ≤ ms) (hp : post v σ) : GL zb zN zx Y cc nL rt lv mc ms post k n pc L v.toList σ := by
  intro D cI cM p l e R s m args below meth c A Q ad0 n0 H locs ls ad C X hl hS hz
  exact C.2.2.2.2.2.2.2.2.2 hp hk hn X (fun w hw => hS w (by rw [hw]; exact List.mem_cons_self)) hr
theorem h_istore {i : Nat} {x : Int32} (hp : 0 < i) (hd : aIS cc pc i pc') (hi : aSto1 L i (.int x) = some L') (kk : GL zb zN zx Y cc nL rt lv mc ms post k n pc' L' S σ) : GL zb zN zx Y cc nL rt lv mc ms post k n pc L (.int x :: S) σ := by
  intro D cI cM p l e R s m args below meth c A Q ad0 n0 H locs ls ad C X hl hS hz
  have hlt := (aSto1_spec hi).1
  have hll := hl.2.1
  have hv : aSc σ.length (.int x) := aSc_int
  rcases hd with ⟨z, h1, h2, rfl⟩ | ⟨h1, rfl⟩
  · exact lv_istore_n C.1 C.2.1 h1 h2 (aZ_has hz hl.1) (by omega) rfl (fun ls' h' => kk.use (aZ_sto hz hp h').1 C X (aLo_sto1 hi hll hl.2.2 hv (aZ_sto hz hp h').2) (aS1 hS))
  · exact lv_istore C.1 C.2.1 h1 (aZ_has hz hl.1) (by omega) rfl (fun ls' h' => kk.use (aZ_sto hz hp h').1 C X (aLo_sto1 hi hll hl.2.2 hv (aZ_sto hz hp h').2) (aS1 hS))
theorem h_astore {i : Nat} {x : Nat} (hp : 0 < i) (hd : aAS cc pc i pc') (hi : aSto1 L i (.ref x) = some L') (kk : GL zb zN zx Y cc nL rt lv mc ms post k n pc' L' S σ) : GL zb zN zx Y cc nL rt lv mc ms post k n pc L (.ref x :: S) σ := by
  intro D cI cM p l e R s m args below meth c A Q ad0 n0 H locs ls ad C X hl hS hz
  have hlt := (aSto1_spec hi).1
  have hll := hl.2.1
  have hv : aSc σ.length (.ref x) := hS _ List.mem_cons_self
  rcases hd with ⟨z, h1, h2, rfl⟩ | ⟨h1, rfl⟩
  · exact lv_astore_n C.1 C.2.1 h1 h2 (aZ_has hz hl.1) (by omega) rfl (fun ls' h' => kk.use (aZ_sto hz hp h').1 C X (aLo_sto1 hi hll hl.2.2 hv (aZ_sto hz hp h').2) (aS1 hS))
  · exact lv_astore C.1 C.2.1 h1 (aZ_has hz hl.1) (by omega) rfl (fun ls' h' => kk.use (aZ_sto hz hp h').1 C X (aLo_sto1 hi hll hl.2.2 hv (aZ_sto hz hp h').2) (aS1 hS))
theorem h_iinc {i : Nat} {x v : Int32} (hp : 0 < i) (hd : aII cc pc i v pc') (hx : L[i]? = some (some (.int x))) (hi : aSto1 L i (.int (x + v)) = some L') (kk : GL zb zN zx Y cc nL rt lv mc ms post k n pc' L' S σ) : GL zb zN zx Y cc nL rt lv mc ms post k n pc L S σ := by
  intro D cI cM p l e R s m args below meth c A Q ad0 n0 H locs ls ad C X hl hS hz
  obtain ⟨z, h1, rfl, rfl⟩ := hd
  have hlt := (aSto1_spec hi).1
  have hll := hl.2.1
  obtain ⟨q, hq⟩ := List.getElem?_of_mem (List.mem_cons_of_mem (0, Value.ref zb) (aL2_mem (ad := ad).mpr ⟨.int x, hx, rfl⟩))
  exact lv_iinc C.1 C.2.1 h1 (aZ_has hz hl.1) hq rfl (by omega) rfl (fun ls' h' => kk.use (aZ_sto hz hp h').1 C X (aLo_sto1 hi hll hl.2.2 aSc_int (aZ_sto hz hp h').2) hS)
theorem h_len (d0 : decode cc pc = .ok (.aload_n 0, 1)) (d1 : decode cc (pc + 1) = .ok (.arraylength, 1)) (kk : GL zb zN zx Y cc nL rt lv mc ms post k n (pc + 2) L (.int (Int32.ofNat zN) :: S) σ) : GL zb zN zx Y cc nL rt lv mc ms post k n pc L S σ := by
  intro D cI cM p l e R s m args below meth c A Q ad0 n0 H locs ls ad C X hl hS hz
  refine lv_aload_n C.1 C.2.1 d0 rfl hz.1 ?_
  exact va_slen C.1 C.2.1 hz.2.1 hz.2.2.1 hz.2.2.2 X.2.2.1 d1 (kk.use hz C X hl (aSI hS))
theorem h_scr {x : Int32} (d0 : decode cc pc = .ok (.aload_n 0, 1)) (d1 : decode cc (pc + 1) = .ok (.iload_n 3, 1)) (d2 : decode cc (pc + 2) = .ok (.iaload, 1)) (hx : L[3]? = some (some (.int x))) (hin : vp_in x zN) (kk : GL zb zN zx Y cc nL rt lv mc ms post k n (pc + 3) L (.int (zx x.toNatClampNeg) :: S) σ) : GL zb zN zx Y cc nL rt lv mc ms post k n pc L S σ := by
  intro D cI cM p l e R s m args below meth c A Q ad0 n0 H locs ls ad C X hl hS hz
  refine lv_aload_n C.1 C.2.1 d0 rfl hz.1 ?_
  refine lv_iload_n C.1 C.2.1 d1 rfl (aLo_at hl hx).1 ?_
  exact va_sld C.1 C.2.1 hz.2.1 hz.2.2.1 hz.2.2.2 X.2.2.1 hin d2 (kk.use hz C X hl (aSI hS))
theorem h_scrk {x v : Int32} {z : Int} (d0 : decode cc pc = .ok (.aload_n 0, 1)) (d1 : decode cc (pc + 1) = .ok (.iload_n 3, 1)) (d2 : decode cc (pc + 2) = .ok (.iconst z, 1)) (hv : Int32.ofInt z = v) (d3 : decode cc (pc + 3) = .ok (.iadd, 1)) (d4 : decode cc (pc + 4) = .ok (.iaload, 1)) (hx : L[3]? = some (some (.int x))) (hin : vp_in (x + v) zN) (kk : GL zb zN zx Y cc nL rt lv mc ms post k n (pc + 5) L (.int (zx (x + v).toNatClampNeg) :: S) σ) : GL zb zN zx Y cc nL rt lv mc ms post k n pc L S σ := by
  intro D cI cM p l e R s m args below meth c A Q ad0 n0 H locs ls ad C X hl hS hz
  refine lv_aload_n C.1 C.2.1 d0 rfl hz.1 ?_
  refine lv_iload_n C.1 C.2.1 d1 rfl (aLo_at hl hx).1 ?_
  refine lv_iconst C.1 C.2.1 d2 hv ?_
  refine lv_iadd C.1 C.2.1 d3 ?_
  exact va_sld C.1 C.2.1 hz.2.1 hz.2.2.1 hz.2.2.2 X.2.2.1 hin d4 (kk.use hz C X hl (aSI hS))
end AL
