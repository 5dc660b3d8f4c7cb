/-! THE LAW's own frame: G, and the script at local 0 -/
def aZ (zb zN : Nat) (zx : Nat → Int32) (s : State) (A : Nat → Prop) (ls : Array Slot) : Prop := ls[0]? = some (.val (.ref zb)) ∧ va_X zb zN zx s s.heap ∧ zb < s.heap.size ∧ ¬ A zb
def GL (zb zN : Nat) (zx : Nat → Int32) (Y : MethodName) (cc : ByteArray) (nL : Nat) (rt : Option FieldType) (lv mc ms : Nat) (post : Option Value → aH → Prop) (k n pc : Nat) (L : List (Option Value)) (S : List Value) (σ : aH) : Prop :=
  ∀ (D : va_G) (cI cM : ClassId) (p : Program) (l : Launch) (e : Env) (R : Room) (s : State) (m : MethodId) (args : Array Value) (below : List Frame) (meth : Method) (c : Code) (A : Nat → Prop) (Q : State → Prop) (ad0 : Nat → Nat) (n0 : Nat) (H : Heap) (locs : List Loc) (ls : Array Slot) (ad : Nat → Nat),
    aCx D cI cM p l e R s m args below meth c A Q ad0 n0 Y cc nL rt lv mc ms post → aSt D cI cM A s.heap ad0 n0 H locs ad σ → aLo ad ls nL L σ.length → (∀ v ∈ S, aSc σ.length v) → aZ zb zN zx s A ls → W p l e R s m args below meth c H locs k n Q (F0 m pc ls (S.map (aRe ad)))
theorem GL.use {zb zN : Nat} {zx : Nat → Int32} {Y : MethodName} {cc : ByteArray} {nL : Nat} {rt : Option FieldType} {lv mc ms : Nat} {post : Option Value → aH → Prop} {k n pc : Nat} {L : List (Option Value)} {S : List Value} {σ : aH} (h : GL zb zN zx Y cc nL rt lv mc ms post k n pc L S σ) {D : va_G} {cI cM : ClassId} {p : Program} {l : Launch} {e : Env} {R : Room} {s : State} {m : MethodId} {args : Array Value} {below : List Frame} {meth : Method} {c : Code} {A : Nat → Prop} {Q : State → Prop} {ad0 : Nat → Nat} {n0 : Nat} {H : Heap} {locs : List Loc} {ls : Array Slot} {ad : Nat → Nat} (hz : aZ zb zN zx s A ls) (C : aCx D cI cM p l e R s m args below meth c A Q ad0 n0 Y cc nL rt lv mc ms post) (X : aSt D cI cM A s.heap ad0 n0 H locs ad σ) (hl : aLo ad ls nL L σ.length) (hS : ∀ v ∈ S, aSc σ.length v) : W p l e R s m args below meth c H locs k n Q (F0 m pc ls (S.map (aRe ad))) := h D cI cM p l e R s m args below meth c A Q ad0 n0 H locs ls ad C X hl hS hz
theorem aZ_sto {zb zN : Nat} {zx : Nat → Int32} {s : State} {A : Nat → Prop} {ls ls' : Array Slot} {nL i : Nat} {v : Value} {l : List (Nat × Value)} (hz : aZ zb zN zx s A ls) (hi : 0 < i) (h' : lv_has ls' nL ((i, v) :: ((0, .ref zb) :: l).filter (fun q => !(q.1 == i) && !(q.1 + 1 == i && q.2.category == 2)))) : aZ zb zN zx s A ls' ∧ lv_has ls' nL ((i, v) :: l.filter (fun q => !(q.1 == i) && !(q.1 + 1 == i && q.2.category == 2))) := by
  have h0 : ((0 : Nat), Value.ref zb) ∈ ((0, .ref zb) :: l).filter (fun q => !(q.1 == i) && !(q.1 + 1 == i && q.2.category == 2)) := List.mem_filter.mpr ⟨List.mem_cons_self, by
    have e : ((0 : Nat) == i) = false := by
      rw [beq_eq_decide]
      exact decide_eq_false (by omega)
    simp [e, Value.category]⟩
  refine ⟨⟨h'.2.2 _ (List.mem_cons_of_mem _ h0), hz.2⟩, lv_less h' (fun q hq => ?_)⟩
  rcases List.mem_cons.mp hq with h | h
  · rw [h]
    exact List.mem_cons_self
  · obtain ⟨a, c⟩ := List.mem_filter.mp h
    exact List.mem_cons_of_mem _ (List.mem_filter.mpr ⟨List.mem_cons_of_mem _ a, c⟩)
theorem aZ_has {zb zN : Nat} {zx : Nat → Int32} {s : State} {A : Nat → Prop} {ls : Array Slot} {nL : Nat} {l : List (Nat × Value)} (hz : aZ zb zN zx s A ls) (h : lv_has ls nL l) : lv_has ls nL ((0, .ref zb) :: l) := ⟨h.1, h.2.1, fun q hq => by
  rcases List.mem_cons.mp hq with e | e
  · rw [e]
    exact hz.1
  · exact h.2.2 q e⟩
section AL
variable {zb zN : Nat} {zx : Nat → Int32} {Y : MethodName} {cc : ByteArray} {nL : Nat} {rt : Option FieldType} {lv mc ms : Nat} {post : Option Value → aH → Prop} {k n pc pc' tgt : Nat} {L L' : List (Option Value)} {S S0 : List Value} {σ : aH}
variable {rt' : Option FieldType} {y : MethodName} {cc' : ByteArray} {nL' : Nat} {lv' mc' ms' : Nat} {post' : Option Value → aH → Prop} {As : List Value} {b index np : Nat}
theorem h_push {v : Int32} (hd : aPI cc pc v pc') (kk : GL zb zN zx Y cc nL rt lv mc ms post k n pc' L (.int v :: S) σ) : GL zb zN zx Y cc nL rt lv mc ms post k n pc L S σ := by
  intro D cI cM p l e R s m args below meth c A Q ad0 n0 H locs ls ad C X hl hS hz
  rcases hd with ⟨z, h1, h2, rfl⟩ | ⟨z, h1, h2, rfl⟩ | ⟨z, h1, h2, rfl⟩
  · exact lv_iconst C.1 C.2.1 h1 h2 (kk.use hz C X hl (aSI hS))
  · exact lv_bipush C.1 C.2.1 h1 h2 (kk.use hz C X hl (aSI hS))
  · exact lv_sipush C.1 C.2.1 h1 h2 (kk.use hz C X hl (aSI hS))
theorem h_ldc {i : Nat} {v : Int32} (hd : aLd cc pc i pc') (hw : Cond.constant Y.cls i v ∈ aWd) (kk : GL zb zN zx Y cc nL rt lv mc ms post k n pc' L (.int v :: S) σ) : GL zb zN zx Y cc nL rt lv mc ms post k n pc L S σ := by
  intro D cI cM p l e R s m args below meth c A Q ad0 n0 H locs ls ad C X hl hS hz
  have ho := C.2.2.2.1
  have hw := C.2.2.2.2.1 _ hw
  rcases hd with ⟨h1, rfl⟩ | ⟨h1, rfl⟩
  · exact lv_ldc C.1 C.2.1 ho hw h1 (kk.use hz C X hl (aSI hS))
  · exact lv_ldcw C.1 C.2.1 ho hw h1 (kk.use hz C X hl (aSI hS))
theorem h_iload {i : Nat} {x : Int32} (hd : aIL cc pc i pc') (hi : L[i]? = some (some (.int x))) (kk : GL zb zN zx Y cc nL rt lv mc ms post k n pc' L (.int x :: S) σ) : GL zb zN zx Y cc nL rt lv mc ms post k n pc L S σ := by
  intro D cI cM p l e R s m args below meth c A Q ad0 n0 H locs ls ad C X hl hS hz
  have hs := (aLo_at hl hi).1
  rcases hd with ⟨z, h1, h2, rfl⟩ | ⟨h1, rfl⟩
  · exact lv_iload_n C.1 C.2.1 h1 h2 hs (kk.use hz C X hl (aSI hS))
  · exact lv_iload C.1 C.2.1 h1 hs (kk.use hz C X hl (aSI hS))
theorem h_aload {i a : Nat} (hd : aAL cc pc i pc') (hi : L[i]? = some (some (.ref a))) (kk : GL zb zN zx Y cc nL rt lv mc ms post k n pc' L (.ref a :: S) σ) : GL zb zN zx Y cc nL rt lv mc ms post k n pc L S σ := by
  intro D cI cM p l e R s m args below meth c A Q ad0 n0 H locs ls ad C X hl hS hz
  obtain ⟨hs, hv⟩ := aLo_at hl hi
  rcases hd with ⟨z, h1, h2, rfl⟩ | ⟨h1, rfl⟩
  · exact lv_aload_n C.1 C.2.1 h1 h2 hs (kk.use hz C X hl (aSC hv hS))
  · exact lv_aload C.1 C.2.1 h1 hs (kk.use hz C X hl (aSC hv hS))
theorem h_iadd {x y : Int32} (hd : aI1 cc pc .iadd pc') (kk : GL zb zN zx Y cc nL rt lv mc ms post k n pc' L (.int (x + y) :: S) σ) : GL zb zN zx Y cc nL rt lv mc ms post k n pc L (.int y :: .int x :: S) σ := by
  intro D cI cM p l e R s m args below meth c A Q ad0 n0 H locs ls ad C X hl hS hz
  obtain ⟨hd, rfl⟩ := hd
  exact lv_iadd C.1 C.2.1 hd (kk.use hz C X hl (aSI (aS2 hS)))
theorem h_isub {x y : Int32} (hd : aI1 cc pc .isub pc') (kk : GL zb zN zx Y cc nL rt lv mc ms post k n pc' L (.int (x - y) :: S) σ) : GL zb zN zx Y cc nL rt lv mc ms post k n pc L (.int y :: .int x :: S) σ := by
  intro D cI cM p l e R s m args below meth c A Q ad0 n0 H locs ls ad C X hl hS hz
  obtain ⟨hd, rfl⟩ := hd
  exact lv_isub C.1 C.2.1 hd (kk.use hz C X hl (aSI (aS2 hS)))
theorem h_imul {x y : Int32} (hd : aI1 cc pc .imul pc') (kk : GL zb zN zx Y cc nL rt lv mc ms post k n pc' L (.int (x * y) :: S) σ) : GL zb zN zx Y cc nL rt lv mc ms post k n pc L (.int y :: .int x :: S) σ := by
  intro D cI cM p l e R s m args below meth c A Q ad0 n0 H locs ls ad C X hl hS hz
  obtain ⟨hd, rfl⟩ := hd
  exact lv_imul C.1 C.2.1 hd (kk.use hz C X hl (aSI (aS2 hS)))
theorem h_iand {x y : Int32} (hd : aI1 cc pc .iand pc') (kk : GL zb zN zx Y cc nL rt lv mc ms post k n pc' L (.int (x &&& y) :: S) σ) : GL zb zN zx Y cc nL rt lv mc ms post k n pc L (.int y :: .int x :: S) σ := by
  intro D cI cM p l e R s m args below meth c A Q ad0 n0 H locs ls ad C X hl hS hz
  obtain ⟨hd, rfl⟩ := hd
  exact lv_iand C.1 C.2.1 hd (kk.use hz C X hl (aSI (aS2 hS)))
theorem h_ior {x y : Int32} (hd : aI1 cc pc .ior pc') (kk : GL zb zN zx Y cc nL rt lv mc ms post k n pc' L (.int (x ||| y) :: S) σ) : GL zb zN zx Y cc nL rt lv mc ms post k n pc L (.int y :: .int x :: S) σ := by
  intro D cI cM p l e R s m args below meth c A Q ad0 n0 H locs ls ad C X hl hS hz
  obtain ⟨hd, rfl⟩ := hd
  exact lv_ior C.1 C.2.1 hd (kk.use hz C X hl (aSI (aS2 hS)))
theorem h_ishl {x y : Int32} (hd : aI1 cc pc .ishl pc') (kk : GL zb zN zx Y cc nL rt lv mc ms post k n pc' L (.int (x <<< (y &&& 31)) :: S) σ) : GL zb zN zx Y cc nL rt lv mc ms post k n pc L (.int y :: .int x :: S) σ := by
  intro D cI cM p l e R s m args below meth c A Q ad0 n0 H locs ls ad C X hl hS hz
  obtain ⟨hd, rfl⟩ := hd
  exact lv_ishl C.1 C.2.1 hd (kk.use hz C X hl (aSI (aS2 hS)))
theorem h_ishr {x y : Int32} (hd : aI1 cc pc .ishr pc') (kk : GL zb zN zx Y cc nL rt lv mc ms post k n pc' L (.int (x >>> (y &&& 31)) :: S) σ) : GL zb zN zx Y cc nL rt lv mc ms post k n pc L (.int y :: .int x :: S) σ := by
  intro D cI cM p l e R s m args below meth c A Q ad0 n0 H locs ls ad C X hl hS hz
  obtain ⟨hd, rfl⟩ := hd
  exact lv_ishr C.1 C.2.1 hd (kk.use hz C X hl (aSI (aS2 hS)))
theorem h_irem {x y : Int32} (hd : aI1 cc pc .irem pc') (hy : ¬ y = 0) (kk : GL zb zN zx Y cc nL rt lv mc ms post k n pc' L (.int (x - x / y * y) :: S) σ) : GL zb zN zx Y cc nL rt lv mc ms post k n pc L (.int y :: .int x :: S) σ := by
  intro D cI cM p l e R s m args below meth c A Q ad0 n0 H locs ls ad C X hl hS hz
  obtain ⟨hd, rfl⟩ := hd
  exact lv_irem C.1 C.2.1 hd hy (kk.use hz C X hl (aSI (aS2 hS)))
theorem h_dup {v : Value} (hd : aI1 cc pc .dup pc') (hv : v.category = 1) (kk : GL zb zN zx Y cc nL rt lv mc ms post k n pc' L (v :: v :: S) σ) : GL zb zN zx Y cc nL rt lv mc ms post k n pc L (v :: S) σ := by
  intro D cI cM p l e R s m args below meth c A Q ad0 n0 H locs ls ad C X hl hS hz
  obtain ⟨hd, rfl⟩ := hd
  exact lv_dup C.1 C.2.1 hd (by rw [aRe_cat]; exact hv) (kk.use hz C X hl (aSC (hS v List.mem_cons_self) hS))
theorem h_dup2 {v w : Value} (hd : aI1 cc pc .dup2 pc') (hv : v.category = 1) (hw : w.category = 1) (kk : GL zb zN zx Y cc nL rt lv mc ms post k n pc' L (v :: w :: v :: w :: S) σ) : GL zb zN zx Y cc nL rt lv mc ms post k n pc L (v :: w :: S) σ := by
  intro D cI cM p l e R s m args below meth c A Q ad0 n0 H locs ls ad C X hl hS hz
  obtain ⟨hd, rfl⟩ := hd
  exact lv_dup2_11 C.1 C.2.1 hd (by rw [aRe_cat]; exact hv) (by rw [aRe_cat]; exact hw) (kk.use hz C X hl (aSC (hS v List.mem_cons_self) (aSC (hS w (List.mem_cons_of_mem _ List.mem_cons_self)) hS)))
theorem h_if_eq {x : Int32} (hd : aIf_eq cc pc pc' tgt) (kt : x = 0 → GL zb zN zx Y cc nL rt lv mc ms post k n tgt L S σ) (kf : ¬ x = 0 → GL zb zN zx Y cc nL rt lv mc ms post k n pc' L S σ) : GL zb zN zx Y cc nL rt lv mc ms post k n pc L (.int x :: S) σ := by
  intro D cI cM p l e R s m args below meth c A Q ad0 n0 H locs ls ad C X hl hS hz
  obtain ⟨off, hd, rfl, ht⟩ := hd
  exact lv_if_eq C.1 C.2.1 hd ht (fun h => (kt h).use hz C X hl (aS1 hS)) (fun h => (kf h).use hz C X hl (aS1 hS))
theorem h_if_ne {x : Int32} (hd : aIf_ne cc pc pc' tgt) (kt : ¬ x = 0 → GL zb zN zx Y cc nL rt lv mc ms post k n tgt L S σ) (kf : x = 0 → GL zb zN zx Y cc nL rt lv mc ms post k n pc' L S σ) : GL zb zN zx Y cc nL rt lv mc ms post k n pc L (.int x :: S) σ := by
  intro D cI cM p l e R s m args below meth c A Q ad0 n0 H locs ls ad C X hl hS hz
  obtain ⟨off, hd, rfl, ht⟩ := hd
  exact lv_if_ne C.1 C.2.1 hd ht (fun h => (kt h).use hz C X hl (aS1 hS)) (fun h => (kf h).use hz C X hl (aS1 hS))
theorem h_if_lt {x : Int32} (hd : aIf_lt cc pc pc' tgt) (kt : x < 0 → GL zb zN zx Y cc nL rt lv mc ms post k n tgt L S σ) (kf : ¬ x < 0 → GL zb zN zx Y cc nL rt lv mc ms post k n pc' L S σ) : GL zb zN zx Y cc nL rt lv mc ms post k n pc L (.int x :: S) σ := by
  intro D cI cM p l e R s m args below meth c A Q ad0 n0 H locs ls ad C X hl hS hz
  obtain ⟨off, hd, rfl, ht⟩ := hd
  exact lv_if_lt C.1 C.2.1 hd ht (fun h => (kt h).use hz C X hl (aS1 hS)) (fun h => (kf h).use hz C X hl (aS1 hS))
theorem h_if_ge {x : Int32} (hd : aIf_ge cc pc pc' tgt) (kt : 0 ≤ x → GL zb zN zx Y cc nL rt lv mc ms post k n tgt L S σ) (kf : ¬ 0 ≤ x → GL zb zN zx Y cc nL rt lv mc ms post k n pc' L S σ) : GL zb zN zx Y cc nL rt lv mc ms post k n pc L (.int x :: S) σ := by
  intro D cI cM p l e R s m args below meth c A Q ad0 n0 H locs ls ad C X hl hS hz
  obtain ⟨off, hd, rfl, ht⟩ := hd
  exact lv_if_ge C.1 C.2.1 hd ht (fun h => (kt h).use hz C X hl (aS1 hS)) (fun h => (kf h).use hz C X hl (aS1 hS))
theorem h_if_gt {x : Int32} (hd : aIf_gt cc pc pc' tgt) (kt : 0 < x → GL zb zN zx Y cc nL rt lv mc ms post k n tgt L S σ) (kf : ¬ 0 < x → GL zb zN zx Y cc nL rt lv mc ms post k n pc' L S σ) : GL zb zN zx Y cc nL rt lv mc ms post k n pc L (.int x :: S) σ := by
  intro D cI cM p l e R s m args below meth c A Q ad0 n0 H locs ls ad C X hl hS hz
  obtain ⟨off, hd, rfl, ht⟩ := hd
  exact lv_if_gt C.1 C.2.1 hd ht (fun h => (kt h).use hz C X hl (aS1 hS)) (fun h => (kf h).use hz C X hl (aS1 hS))
theorem h_if_le {x : Int32} (hd : aIf_le cc pc pc' tgt) (kt : x ≤ 0 → GL zb zN zx Y cc nL rt lv mc ms post k n tgt L S σ) (kf : ¬ x ≤ 0 → GL zb zN zx Y cc nL rt lv mc ms post k n pc' L S σ) : GL zb zN zx Y cc nL rt lv mc ms post k n pc L (.int x :: S) σ := by
  intro D cI cM p l e R s m args below meth c A Q ad0 n0 H locs ls ad C X hl hS hz
  obtain ⟨off, hd, rfl, ht⟩ := hd
  exact lv_if_le C.1 C.2.1 hd ht (fun h => (kt h).use hz C X hl (aS1 hS)) (fun h => (kf h).use hz C X hl (aS1 hS))
theorem h_icmp_eq {x y : Int32} (hd : aIc_eq cc pc pc' tgt) (kt : x = y → GL zb zN zx Y cc nL rt lv mc ms post k n tgt L S σ) (kf : ¬ x = y → GL zb zN zx Y cc nL rt lv mc ms post k n pc' L S σ) : GL zb zN zx Y cc nL rt lv mc ms post k n pc L (.int y :: .int x :: S) σ := by
  intro D cI cM p l e R s m args below meth c A Q ad0 n0 H locs ls ad C X hl hS hz
  obtain ⟨off, hd, rfl, ht⟩ := hd
  exact lv_icmp_eq C.1 C.2.1 hd ht (fun h => (kt h).use hz C X hl (aS2 hS)) (fun h => (kf h).use hz C X hl (aS2 hS))
theorem h_icmp_ne {x y : Int32} (hd : aIc_ne cc pc pc' tgt) (kt : ¬ x = y → GL zb zN zx Y cc nL rt lv mc ms post k n tgt L S σ) (kf : x = y → GL zb zN zx Y cc nL rt lv mc ms post k n pc' L S σ) : GL zb zN zx Y cc nL rt lv mc ms post k n pc L (.int y :: .int x :: S) σ := by
  intro D cI cM p l e R s m args below meth c A Q ad0 n0 H locs ls ad C X hl hS hz
  obtain ⟨off, hd, rfl, ht⟩ := hd
  exact lv_icmp_ne C.1 C.2.1 hd ht (fun h => (kt h).use hz C X hl (aS2 hS)) (fun h => (kf h).use hz C X hl (aS2 hS))
theorem h_icmp_lt {x y : Int32} (hd : aIc_lt cc pc pc' tgt) (kt : x < y → GL zb zN zx Y cc nL rt lv mc ms post k n tgt L S σ) (kf : ¬ x < y → GL zb zN zx Y cc nL rt lv mc ms post k n pc' L S σ) : GL zb zN zx Y cc nL rt lv mc ms post k n pc L (.int y :: .int x :: S) σ := by
  intro D cI cM p l e R s m args below meth c A Q ad0 n0 H locs ls ad C X hl hS hz
  obtain ⟨off, hd, rfl, ht⟩ := hd
  exact lv_icmp_lt C.1 C.2.1 hd ht (fun h => (kt h).use hz C X hl (aS2 hS)) (fun h => (kf h).use hz C X hl (aS2 hS))
theorem h_icmp_ge {x y : Int32} (hd : aIc_ge cc pc pc' tgt) (kt : y ≤ x → GL zb zN zx Y cc nL rt lv mc ms post k n tgt L S σ) (kf : ¬ y ≤ x → GL zb zN zx Y cc nL rt lv mc ms post k n pc' L S σ) : GL zb zN zx Y cc nL rt lv mc ms post k n pc L (.int y :: .int x :: S) σ := by
  intro D cI cM p l e R s m args below meth c A Q ad0 n0 H locs ls ad C X hl hS hz
  obtain ⟨off, hd, rfl, ht⟩ := hd
  exact lv_icmp_ge C.1 C.2.1 hd ht (fun h => (kt h).use hz C X hl (aS2 hS)) (fun h => (kf h).use hz C X hl (aS2 hS))
theorem h_icmp_gt {x y : Int32} (hd : aIc_gt cc pc pc' tgt) (kt : y < x → GL zb zN zx Y cc nL rt lv mc ms post k n tgt L S σ) (kf : ¬ y < x → GL zb zN zx Y cc nL rt lv mc ms post k n pc' L S σ) : GL zb zN zx Y cc nL rt lv mc ms post k n pc L (.int y :: .int x :: S) σ := by
  intro D cI cM p l e R s m args below meth c A Q ad0 n0 H locs ls ad C X hl hS hz
  obtain ⟨off, hd, rfl, ht⟩ := hd
  exact lv_icmp_gt C.1 C.2.1 hd ht (fun h => (kt h).use hz C X hl (aS2 hS)) (fun h => (kf h).use hz C X hl (aS2 hS))
theorem h_icmp_le {x y : Int32} (hd : aIc_le cc pc pc' tgt) (kt : x ≤ y → GL zb zN zx Y cc nL rt lv mc ms post k n tgt L S σ) (kf : ¬ x ≤ y → GL zb zN zx Y cc nL rt lv mc ms post k n pc' L S σ) : GL zb zN zx Y cc nL rt lv mc ms post k n pc L (.int y :: .int x :: S) σ := by
  intro D cI cM p l e R s m args below meth c A Q ad0 n0 H locs ls ad C X hl hS hz
  obtain ⟨off, hd, rfl, ht⟩ := hd
  exact lv_icmp_le C.1 C.2.1 hd ht (fun h => (kt h).use hz C X hl (aS2 hS)) (fun h => (kf h).use hz C X hl (aS2 hS))
theorem h_goto (hd : aGo cc pc tgt) (kk : GL zb zN zx Y cc nL rt lv mc ms post k n tgt L S σ) : GL zb zN zx Y cc nL rt lv mc ms post k n pc L S σ := by
  intro D cI cM p l e R s m args below meth c A Q ad0 n0 H locs ls ad C X hl hS hz
  obtain ⟨off, hd, ht⟩ := hd
  exact lv_goto C.1 C.2.1 hd ht (kk.use hz C X hl hS)
theorem h_iald {a : Nat} {xs : List Int32} {i : Int32} (hd : aI1 cc pc .iaload pc') (hσ : σ[a]? = some (.inl xs)) (hi : vp_in i xs.length) (kk : GL zb zN zx Y cc nL rt lv mc ms post k n pc' L (.int (xs.getD i.toNatClampNeg 0) :: S) σ) : GL zb zN zx Y cc nL rt lv mc ms post k n pc L (.int i :: .ref a :: S) σ := by
  intro D cI cM p l e R s m args below meth c A Q ad0 n0 H locs ls ad C X hl hS hz
  obtain ⟨hd, rfl⟩ := hd
  exact va_iald C.1 C.2.1 C.2.2.2.2.2.2.1.1 X.1 a 0 (aW_at hσ) rfl hi hd (kk.use hz C X hl (aSI (aS2 hS)))
theorem h_iast {a : Nat} {xs : List Int32} {i x : Int32} (hd : aI1 cc pc .iastore pc') (hσ : σ[a]? = some (.inl xs)) (hi : vp_in i xs.length) (kk : GL zb zN zx Y cc nL rt lv mc ms post k n pc' L S (σ.set a (.inl (xs.set i.toNatClampNeg x)))) : GL zb zN zx Y cc nL rt lv mc ms post k n pc L (.int x :: .int i :: .ref a :: S) σ := by
  intro D cI cM p l e R s m args below meth c A Q ad0 n0 H locs ls ad C X hl hS hz
  obtain ⟨hd, rfl⟩ := hd
  have hlt : i.toNatClampNeg < xs.length := Nat.not_le.mp fun q => hi (Or.inr q)
  have hf : (fun k => (xs.set i.toNatClampNeg x).getD k 0) = upd (fun k => xs.getD k 0) i.toNatClampNeg x := by
    funext k
    simp only [upd, List.getD_eq_getElem?_getD, List.getElem?_set]
    by_cases h : k = i.toNatClampNeg
    · subst h
      simp [hlt]
    · have h2 : ¬ i.toNatClampNeg = k := fun z => h z.symm
      simp [h, h2]
  have hsc := aScH_at X.2.2.2.1 hσ
  refine va_iast C.1 C.2.1 C.2.2.2.2.2.2.1.1 X.1 X.2.1 X.2.2.1 a 0 (aW_at hσ) rfl hi hd (fun H1 locs1 hP hD hS1 => ?_)
  have hsc : aScC σ.length (.inl (xs.set i.toNatClampNeg x)) := by
    show (xs.set i.toNatClampNeg x).length < 65536
    rw [List.length_set]; exact hsc
  refine kk.use hz C (X.put hsc ?_ ?_ hS1) (by rw [List.length_set]; exact hl) (by rw [List.length_set]; exact aS3 hS)
  · show va_P D vwCl ((aW cI cM ad σ).set a (ad a, .inl (cI, (xs.set i.toNatClampNeg x).length, .inl (fun k => (xs.set i.toNatClampNeg x).getD k 0)))) H1
    rw [hf, List.length_set]; exact hP
  · show va_D A ((aW cI cM ad σ).set a (ad a, .inl (cI, (xs.set i.toNatClampNeg x).length, .inl (fun k => (xs.set i.toNatClampNeg x).getD k 0))))
    rw [hf, List.length_set]; exact hD
theorem h_new {index ci : Nat} {r : vw_C} {fs : List Value} {ty : Nat → FieldType} (hd : aI3 cc pc (.new index) pc') (hr : vwCl[ci]? = some r) (hin : ∀ w ∈ u_ws r.1 r.2.1 r.2.2, w ∈ aWd) (hty : ∀ k, k < r.2.2 → parseFieldDescriptor (r.2.1 k).2.2.1 = some (ty k)) (hw1 : Cond.classLink Y.cls index r.1 ∈ aWd) (hw2 : Cond.instantiable r.1 r.2.2 ∈ aWd) (hw3 : Cond.initialized r.1 ∈ aWd) (hfs : ∀ j, j < r.2.2 → defaultValue (ty j) = vp_V fs j) (hno : ∀ v ∈ fs, (∃ x, v = .int x) ∨ v = .null ∨ (∃ x, v = .long x)) (hmc : k + 1 ≤ mc) (hms : n + r.2.2 ≤ ms) (kk : GL zb zN zx Y cc nL rt lv mc ms post (k + 1) (n + r.2.2) pc' L (.ref σ.length :: S) (σ ++ [.inr (.inr (ci, fs))])) : GL zb zN zx Y cc nL rt lv mc ms post k n pc L S σ := by
  intro D cI cM p l e R s m args below meth c A Q ad0 n0 H locs ls ad C X hl hS hz
  obtain ⟨hd, rfl⟩ := hd
  have hre : fs.map (aRe ad) = fs := by
    conv => rhs; rw [← List.map_id fs]
    refine List.map_congr_left (fun v hv => ?_)
    rcases hno v hv with ⟨x, rfl⟩ | rfl | ⟨x, rfl⟩ <;> rfl
  have hRm := C.2.2.2.2.2.2.2.2.1.2.2
  refine va_new (ci := ci) (fs := fs) C.1 C.2.1 C.2.2.2.2.1 hin ty hty C.2.2.2.1 (C.2.2.2.2.1 _ hw1) (C.2.2.2.2.1 _ hw2) (C.2.2.2.2.1 _ hw3) C.2.2.2.2.2.2.1.1 X.1 X.2.1 X.2.2.1 C.2.2.2.2.2.2.2.1 hr hfs (by omega) (by omega) hd (fun q H1 hP hD hS1 => ?_)
  have hre2 : fs.map (aRe (fun i => if i = σ.length then q else ad i)) = fs := by
    conv => rhs; rw [← List.map_id fs]
    refine List.map_congr_left (fun v hv => ?_)
    rcases hno v hv with ⟨x, rfl⟩ | rfl | ⟨x, rfl⟩ <;> rfl
  have hsc : aScC (σ.length + 1) (.inr (.inr (ci, fs))) := fun v hv => by
    rcases hno v hv with ⟨x, rfl⟩ | rfl | ⟨x, rfl⟩
    · exact aSc_int
    · exact aSc_null
    · exact aSc_long
  have X' := X.push (c := .inr (.inr (ci, fs))) hsc (by show va_P D vwCl (aW cI cM ad σ ++ [(q, .inr (ci, fs.map (aRe (fun i => if i = σ.length then q else ad i))))]) H1; rw [hre2]; exact hP) (by show va_D A (aW cI cM ad σ ++ [(q, .inr (ci, fs.map (aRe (fun i => if i = σ.length then q else ad i))))]); rw [hre2]; exact hD) hS1
  have he : ∀ i, i < σ.length → (fun i => if i = σ.length then q else ad i) i = ad i := fun i hi => by simp [Nat.ne_of_lt hi]
  have hlen : (σ ++ [(.inr (.inr (ci, fs)) : aT)]).length = σ.length + 1 := by simp
  have hw := kk.use hz C X' (by rw [hlen]; exact aLo_ad hl (Nat.le_succ _) he) (by rw [hlen]; exact aSC (aSc_ref (Nat.lt_succ_self _)) (fun v hv => aSc_mono (Nat.le_succ _) (hS v hv)))
  rw [List.map_cons, aRe_map he hS] at hw
  simp only [aRe, if_true] at hw
  exact hw
theorem h_newa {x : Int32} {N : Nat} (hd : aI2 cc pc (.newarray .int) pc') (hx : x = nI N) (hN : N < 65536) (hmc : k + 1 ≤ mc) (hms : n + N ≤ ms) (kk : GL zb zN zx Y cc nL rt lv mc ms post (k + 1) (n + N) pc' L (.ref σ.length :: S) (σ ++ [.inl (List.replicate N 0)])) : GL zb zN zx Y cc nL rt lv mc ms post k n pc L (.int x :: S) σ := by
  intro D cI cM p l e R s m args below meth c A Q ad0 n0 H locs ls ad C X hl hS hz
  obtain ⟨hd, rfl⟩ := hd
  subst hx
  have hRm := C.2.2.2.2.2.2.2.2.1.2.2
  have hf : ∀ j : Nat, (List.replicate N (0 : Int32)).getD j 0 = 0 := fun j => by
    rw [List.getD_eq_getElem?_getD, List.getElem?_replicate]
    split <;> rfl
  refine va_newa (atype := .int) (ty := .int) (N' := N) (a0 := (N, .inl (fun _ => 0))) C.1 C.2.1 (C.2.2.2.2.1 (.arrayClass .int) aArr_in) rfl C.2.2.2.2.2.2.1.1 X.1 X.2.1 X.2.2.1 C.2.2.2.2.2.2.2.1 (fun cA => rfl) (nI_pos (by omega)) (nI_clamp (by omega)) (by show N * 4 ≤ _; omega) (by omega) (by omega) hd (fun q cA H1 hK hP hD hS1 => ?_)
  have hcA : cA = cI := by
    have h1 := (hK.2 2 (cA, .int) rfl).2
    have h2 := (C.2.2.2.2.2.2.1.1.2 0 (cI, .int) rfl).2
    exact Option.some.inj (h1.symm.trans h2)
  subst hcA
  have hsc : aScC (σ.length + 1) (.inl (List.replicate N 0)) := by
    show (List.replicate N (0 : Int32)).length < 65536
    rw [List.length_replicate]; exact hN
  have hE : aE cA cM (fun i => if i = σ.length then q else ad i) (.inl (List.replicate N 0)) = .inl (cA, N, .inl (fun _ => 0)) := by
    show Sum.inl (cA, (List.replicate N (0 : Int32)).length, Sum.inl (fun k => (List.replicate N (0 : Int32)).getD k 0)) = _
    rw [List.length_replicate, funext hf]
  have X' := X.push (c := .inl (List.replicate N 0)) hsc (by rw [hE]; exact hP) (by rw [hE]; exact hD) hS1
  have he : ∀ i, i < σ.length → (fun i => if i = σ.length then q else ad i) i = ad i := fun i hi => by simp [Nat.ne_of_lt hi]
  have hlen : (σ ++ [(.inl (List.replicate N 0) : aT)]).length = σ.length + 1 := by simp
  have hw := kk.use hz C X' (by rw [hlen]; exact aLo_ad hl (Nat.le_succ _) he) (by rw [hlen]; exact aSC (aSc_ref (Nat.lt_succ_self _)) (fun v hv => aSc_mono (Nat.le_succ _) (aS1 hS v hv)))
  rw [List.map_cons, aRe_map he (aS1 hS)] at hw
  simp only [aRe, if_true] at hw
  exact hw
theorem h_init (hd : aI3 cc pc (.invokespecial index) pc') (hk : aLI Y.cls index y cc' nL' np) (hM : AMet y cc' nL' none lv' mc' ms' (.ref b :: As) σ post') (hst : S0 = As.reverse ++ .ref b :: S) (hnp : As.length = np) (hlv : lv' + 1 ≤ lv) (hnl : nL' ≤ 21) (hsum : (S.map fun v => v.category).sum ≤ 8) (hmc : k + mc' ≤ mc) (hms : n + ms' ≤ ms) (kk : ∀ v σ', post' v σ' → σ.length ≤ σ'.length → GL zb zN zx Y cc nL rt lv mc ms post (k + mc') (n + ms') pc' L (v.toList ++ S) σ') : GL zb zN zx Y cc nL rt lv mc ms post k n pc L S0 σ := by
  intro D cI cM p l e R s m args below meth c A Q ad0 n0 H locs ls ad C X hl hS hz
  subst hst
  obtain ⟨hd, rfl⟩ := hd
  have hRm := C.2.2.2.2.2.2.2.2.1
  have hK := C.2.2.2.2.2.2.1
  have hA0 : ∀ v ∈ (.ref b :: As), aSc σ.length v := fun v hv => hS v (aMemA hv)
  have hS2 : ∀ v ∈ S, aSc σ.length v := fun v hv => hS v (List.mem_append_right _ (List.mem_cons_of_mem _ hv))
  have hM' := hM X.2.2.2.1 hA0 l D cI cM ad H.size
  have hpre : ∀ U : State, U.heap = H → s.WarmedH U.vm → aPr D cI cM ad σ H.size U := fun U hU hW => ⟨by rw [hU], by rw [hU]; exact X.1, aK.warm hW hK, X.2.1.weaken (fun _ _ _ _ => trivial)⟩
  have hb2 : (aRm lv' mc' ms').frames + 1 ≤ R.frames ∧ 8 + (nL' + 11) + (aRm lv' mc' ms').locals ≤ R.locals := by
    have h1 := hRm.1
    have h2 := hRm.2.1
    show lv' + 1 ≤ R.frames ∧ 8 + (nL' + 11) + (40 * lv' + 20) ≤ R.locals
    omega
  have hf : k + mc' ≤ R.cells ∧ n + ms' ≤ R.slots := ⟨Nat.le_trans hmc hRm.2.2.1, Nat.le_trans hms hRm.2.2.2⟩
  have hW8 : 2 * (F0 m pc ls ((As.reverse ++ .ref b :: S).map (aRe ad))).monitorRoom + ((S.map (aRe ad)).map fun v => v.category).sum ≤ 8 := by
    rw [aCatSum]
    exact lv_room hsum
  have hAl : (As.map (aRe ad)).length = np := by rw [List.length_map]; exact hnp
  obtain ⟨w1, w2, w3, w4, w5, w6⟩ := hk
  have hrun := va_runI (e := e) (below := below) (meth := meth) (locs := locs) (cells := k) (slots := n) (rest := S.map (aRe ad)) (g := F0 m pc ls ((As.reverse ++ .ref b :: S).map (aRe ad))) (As := As.map (aRe ad)) ⟨C.1, C.2.1, C.2.2.1, C.2.2.2.1, C.2.2.2.2.1⟩ hM' (cwI np C.2.2.2.2.1 (aGood (aWd_c w4)) rfl rfl rfl (C.2.2.2.2.1 _ w3) (C.2.2.2.2.1 _ w1) (C.2.2.2.2.1 _ w2) w5 w6 hb2) ⟨aPr_blind, fun U hU hW => ⟨rfl, hpre U hU hW⟩⟩ rfl hAl hl.1.1 (by show List.map _ _ = _; rw [aRevMap]; rfl) hW8 hd hf
  refine a_call hrun X (a_free X C.2.2.2.2.2.2.2.1) (fun v σ' ad' H1 locs1 hp hw hln had X' => ?_)
  rw [← aRe_map had hS2, aTail]
  exact (kk v σ' hp hln).use hz C X' (aLo_ad hl hln had) (aTailSc hw (fun w h => aSc_mono hln (hS2 w h)))
theorem h_callV {ci : Nat} {fs : List Value} {r : vw_C} (hd : aI3 cc pc (.invokevirtual index) pc') (hk : aLV Y.cls index r.1 y cc' nL' rt' np) (hσ : σ[b]? = some (.inr (.inr (ci, fs)))) (hr : vwCl[ci]? = some r) (hM : AMet y cc' nL' rt' lv' mc' ms' (.ref b :: As) σ post') (hst : S0 = As.reverse ++ .ref b :: S) (hnp : As.length = np) (hlv : lv' + 1 ≤ lv) (hnl : nL' ≤ 21) (hsum : (S.map fun v => v.category).sum ≤ 8) (hmc : k + mc' ≤ mc) (hms : n + ms' ≤ ms) (kk : ∀ v σ', post' v σ' → σ.length ≤ σ'.length → GL zb zN zx Y cc nL rt lv mc ms post (k + mc') (n + ms') pc' L (v.toList ++ S) σ') : GL zb zN zx Y cc nL rt lv mc ms post k n pc L S0 σ := by
  intro D cI cM p l e R s m args below meth c A Q ad0 n0 H locs ls ad C X hl hS hz
  subst hst
  obtain ⟨hd, rfl⟩ := hd
  have hRm := C.2.2.2.2.2.2.2.2.1
  have hK := C.2.2.2.2.2.2.1
  have hA0 : ∀ v ∈ (.ref b :: As), aSc σ.length v := fun v hv => hS v (aMemA hv)
  have hS2 : ∀ v ∈ S, aSc σ.length v := fun v hv => hS v (List.mem_append_right _ (List.mem_cons_of_mem _ hv))
  have hM' := hM X.2.2.2.1 hA0 l D cI cM ad H.size
  have hpre : ∀ U : State, U.heap = H → s.WarmedH U.vm → aPr D cI cM ad σ H.size U := fun U hU hW => ⟨by rw [hU], by rw [hU]; exact X.1, aK.warm hW hK, X.2.1.weaken (fun _ _ _ _ => trivial)⟩
  have hb2 : (aRm lv' mc' ms').frames + 1 ≤ R.frames ∧ 8 + (nL' + 11) + (aRm lv' mc' ms').locals ≤ R.locals := by
    have h1 := hRm.1
    have h2 := hRm.2.1
    show lv' + 1 ≤ R.frames ∧ 8 + (nL' + 11) + (40 * lv' + 20) ≤ R.locals
    omega
  have hf : k + mc' ≤ R.cells ∧ n + ms' ≤ R.slots := ⟨Nat.le_trans hmc hRm.2.2.1, Nat.le_trans hms hRm.2.2.2⟩
  have hW8 : 2 * (F0 m pc ls ((As.reverse ++ .ref b :: S).map (aRe ad))).monitorRoom + ((S.map (aRe ad)).map fun v => v.category).sum ≤ 8 := by
    rw [aCatSum]
    exact lv_room hsum
  have hAl : (As.map (aRe ad)).length = np := by rw [List.length_map]; exact hnp
  obtain ⟨w1, w2, w3, w4, w5, w6, w7⟩ := hk
  have hrun := va_runV (e := e) (below := below) (meth := meth) (locs := locs) (cells := k) (slots := n) (rest := S.map (aRe ad)) (g := F0 m pc ls ((As.reverse ++ .ref b :: S).map (aRe ad))) (As := As.map (aRe ad)) ⟨C.1, C.2.1, C.2.2.1, C.2.2.2.1, C.2.2.2.2.1⟩ hM' (cwV np C.2.2.2.2.1 (aGood (by unfold wsV; exact aCons4 w1 w2 w3 w4 (aWd_c w5))) rfl rfl rfl ⟨w6, w7⟩ hb2) ⟨aPr_blind, va_recv hK.1 X.1 hr (aW_at (cI := cI) (cM := cM) (ad := ad) hσ), fun U hU hW => ⟨rfl, hpre U hU hW⟩⟩ rfl hAl hl.1.1 (by show List.map _ _ = _; rw [aRevMap]; rfl) hW8 hd hf
  refine a_call hrun X (a_free X C.2.2.2.2.2.2.2.1) (fun v σ' ad' H1 locs1 hp hw hln had X' => ?_)
  rw [← aRe_map had hS2, aTail]
  exact (kk v σ' hp hln).use hz C X' (aLo_ad hl hln had) (aTailSc hw (fun w h => aSc_mono hln (hS2 w h)))
theorem h_callS (hd : aI3 cc pc (.invokestatic index) pc') (hk : aLSt Y.cls index y cc' nL' rt' np) (hM : AMet y cc' nL' rt' lv' mc' ms' As σ post') (hst : S0 = As.reverse ++ S) (hnp : As.length = np) (hlv : lv' + 1 ≤ lv) (hnl : nL' ≤ 21) (hsum : (S.map fun v => v.category).sum ≤ 8) (hmc : k + mc' ≤ mc) (hms : n + ms' ≤ ms) (kk : ∀ v σ', post' v σ' → σ.length ≤ σ'.length → GL zb zN zx Y cc nL rt lv mc ms post (k + mc') (n + ms') pc' L (v.toList ++ S) σ') : GL zb zN zx Y cc nL rt lv mc ms post k n pc L S0 σ := by
  intro D cI cM p l e R s m args below meth c A Q ad0 n0 H locs ls ad C X hl hS hz
  subst hst
  obtain ⟨hd, rfl⟩ := hd
  have hRm := C.2.2.2.2.2.2.2.2.1
  have hK := C.2.2.2.2.2.2.1
  have hA0 : ∀ v ∈ As, aSc σ.length v := fun v hv => hS v (List.mem_append_left _ (List.mem_reverse.mpr hv))
  have hS2 : ∀ v ∈ S, aSc σ.length v := fun v hv => hS v (List.mem_append_right _ hv)
  have hM' := hM X.2.2.2.1 hA0 l D cI cM ad H.size
  have hpre : ∀ U : State, U.heap = H → s.WarmedH U.vm → aPr D cI cM ad σ H.size U := fun U hU hW => ⟨by rw [hU], by rw [hU]; exact X.1, aK.warm hW hK, X.2.1.weaken (fun _ _ _ _ => trivial)⟩
  have hb2 : (aRm lv' mc' ms').frames + 1 ≤ R.frames ∧ 8 + (nL' + 11) + (aRm lv' mc' ms').locals ≤ R.locals := by
    have h1 := hRm.1
    have h2 := hRm.2.1
    show lv' + 1 ≤ R.frames ∧ 8 + (nL' + 11) + (40 * lv' + 20) ≤ R.locals
    omega
  have hf : k + mc' ≤ R.cells ∧ n + ms' ≤ R.slots := ⟨Nat.le_trans hmc hRm.2.2.1, Nat.le_trans hms hRm.2.2.2⟩
  have hW8 : 2 * (F0 m pc ls ((As.reverse ++ S).map (aRe ad))).monitorRoom + ((S.map (aRe ad)).map fun v => v.category).sum ≤ 8 := by
    rw [aCatSum]
    exact lv_room hsum
  have hAl : (As.map (aRe ad)).length = np := by rw [List.length_map]; exact hnp
  obtain ⟨w1, w2, w3, w4, w5⟩ := hk
  have hrun := va_runS (e := e) (below := below) (meth := meth) (locs := locs) (cells := k) (slots := n) (rest := S.map (aRe ad)) (g := F0 m pc ls ((As.reverse ++ S).map (aRe ad))) (As := As.map (aRe ad)) ⟨C.1, C.2.1, C.2.2.1, C.2.2.2.1, C.2.2.2.2.1⟩ hM' (va_cwS np C.2.2.2.2.1 (aGood (by unfold va_wsS; exact aCons3 w1 w2 w3 (aWd_c w4))) rfl rfl rfl w5 hb2) ⟨aPr_blind, fun U hU hW => ⟨rfl, hpre U hU hW⟩⟩ rfl hAl hl.1.1 (by show List.map _ _ = _; rw [aRevMap]) hW8 hd hf
  refine a_call hrun X (a_free X C.2.2.2.2.2.2.2.1) (fun v σ' ad' H1 locs1 hp hw hln had X' => ?_)
  rw [← aRe_map had hS2, aTail]
  exact (kk v σ' hp hln).use hz C X' (aLo_ad hl hln had) (aTailSc hw (fun w h => aSc_mono hln (hS2 w h)))
theorem h_ret {v : Option Value} (hr : aRet cc rt pc v) (hk : k ≤ mc) (hn : n ≤ ms) (hp : post v σ) : GL zb zN zx Y cc nL rt lv mc ms post k n pc L v.toList σ := by
  intro D cI cM p l e R s m args below meth c A Q ad0 n0 H locs ls ad C X hl hS hz
  exact C.2.2.2.2.2.2.2.2.2 hp hk hn X (fun w hw => hS w (by rw [hw]; exact List.mem_cons_self)) hr
theorem h_istore {i : Nat} {x : Int32} (hp : 0 < i) (hd : aIS cc pc i pc') (hi : aSto1 L i (.int x) = some L') (kk : GL zb zN zx Y cc nL rt lv mc ms post k n pc' L' S σ) : GL zb zN zx Y cc nL rt lv mc ms post k n pc L (.int x :: S) σ := by
  intro D cI cM p l e R s m args below meth c A Q ad0 n0 H locs ls ad C X hl hS hz
  have hlt := (aSto1_spec hi).1
  have hll := hl.2.1
  have hv : aSc σ.length (.int x) := aSc_int
  rcases hd with ⟨z, h1, h2, rfl⟩ | ⟨h1, rfl⟩
  · exact lv_istore_n C.1 C.2.1 h1 h2 (aZ_has hz hl.1) (by omega) rfl (fun ls' h' => kk.use (aZ_sto hz hp h').1 C X (aLo_sto1 hi hll hl.2.2 hv (aZ_sto hz hp h').2) (aS1 hS))
  · exact lv_istore C.1 C.2.1 h1 (aZ_has hz hl.1) (by omega) rfl (fun ls' h' => kk.use (aZ_sto hz hp h').1 C X (aLo_sto1 hi hll hl.2.2 hv (aZ_sto hz hp h').2) (aS1 hS))
theorem h_astore {i : Nat} {x : Nat} (hp : 0 < i) (hd : aAS cc pc i pc') (hi : aSto1 L i (.ref x) = some L') (kk : GL zb zN zx Y cc nL rt lv mc ms post k n pc' L' S σ) : GL zb zN zx Y cc nL rt lv mc ms post k n pc L (.ref x :: S) σ := by
  intro D cI cM p l e R s m args below meth c A Q ad0 n0 H locs ls ad C X hl hS hz
  have hlt := (aSto1_spec hi).1
  have hll := hl.2.1
  have hv : aSc σ.length (.ref x) := hS _ List.mem_cons_self
  rcases hd with ⟨z, h1, h2, rfl⟩ | ⟨h1, rfl⟩
  · exact lv_astore_n C.1 C.2.1 h1 h2 (aZ_has hz hl.1) (by omega) rfl (fun ls' h' => kk.use (aZ_sto hz hp h').1 C X (aLo_sto1 hi hll hl.2.2 hv (aZ_sto hz hp h').2) (aS1 hS))
  · exact lv_astore C.1 C.2.1 h1 (aZ_has hz hl.1) (by omega) rfl (fun ls' h' => kk.use (aZ_sto hz hp h').1 C X (aLo_sto1 hi hll hl.2.2 hv (aZ_sto hz hp h').2) (aS1 hS))
theorem h_iinc {i : Nat} {x v : Int32} (hp : 0 < i) (hd : aII cc pc i v pc') (hx : L[i]? = some (some (.int x))) (hi : aSto1 L i (.int (x + v)) = some L') (kk : GL zb zN zx Y cc nL rt lv mc ms post k n pc' L' S σ) : GL zb zN zx Y cc nL rt lv mc ms post k n pc L S σ := by
  intro D cI cM p l e R s m args below meth c A Q ad0 n0 H locs ls ad C X hl hS hz
  obtain ⟨z, h1, rfl, rfl⟩ := hd
  have hlt := (aSto1_spec hi).1
  have hll := hl.2.1
  obtain ⟨q, hq⟩ := List.getElem?_of_mem (List.mem_cons_of_mem (0, Value.ref zb) (aL2_mem (ad := ad).mpr ⟨.int x, hx, rfl⟩))
  exact lv_iinc C.1 C.2.1 h1 (aZ_has hz hl.1) hq rfl (by omega) rfl (fun ls' h' => kk.use (aZ_sto hz hp h').1 C X (aLo_sto1 hi hll hl.2.2 aSc_int (aZ_sto hz hp h').2) hS)
theorem h_iincN {i a b : Nat} (hp : 0 < i) (hd : aII cc pc i (nI b) pc') (hx : L[i]? = some (some (.int (nI a)))) (hi : aSto1 L i (.int (nI (a + b))) = some L') (kk : GL zb zN zx Y cc nL rt lv mc ms post k n pc' L' S σ) : GL zb zN zx Y cc nL rt lv mc ms post k n pc L S σ := h_iinc hp hd hx (by rw [nI_add]; exact hi) kk
theorem h_iaddN {a b : Nat} (hd : aI1 cc pc .iadd pc') (kk : GL zb zN zx Y cc nL rt lv mc ms post k n pc' L (.int (nI (a + b)) :: S) σ) : GL zb zN zx Y cc nL rt lv mc ms post k n pc L (.int (nI b) :: .int (nI a) :: S) σ := h_iadd hd (by rw [nI_add]; exact kk)
theorem h_imulN {a b : Nat} (hd : aI1 cc pc .imul pc') (kk : GL zb zN zx Y cc nL rt lv mc ms post k n pc' L (.int (nI (a * b)) :: S) σ) : GL zb zN zx Y cc nL rt lv mc ms post k n pc L (.int (nI b) :: .int (nI a) :: S) σ := h_imul hd (by rw [pk_mul]; exact kk)
theorem h_iandN {a b : Nat} (hd : aI1 cc pc .iand pc') (kk : GL zb zN zx Y cc nL rt lv mc ms post k n pc' L (.int (nI (a &&& b)) :: S) σ) : GL zb zN zx Y cc nL rt lv mc ms post k n pc L (.int (nI b) :: .int (nI a) :: S) σ := h_iand hd (by rw [nA_and]; exact kk)
theorem h_iorN {a b : Nat} (hd : aI1 cc pc .ior pc') (kk : GL zb zN zx Y cc nL rt lv mc ms post k n pc' L (.int (nI (a ||| b)) :: S) σ) : GL zb zN zx Y cc nL rt lv mc ms post k n pc L (.int (nI b) :: .int (nI a) :: S) σ := h_ior hd (by rw [nA_or]; exact kk)
theorem h_isubN {a b : Nat} (hd : aI1 cc pc .isub pc') (h : b ≤ a) (kk : GL zb zN zx Y cc nL rt lv mc ms post k n pc' L (.int (nI (a - b)) :: S) σ) : GL zb zN zx Y cc nL rt lv mc ms post k n pc L (.int (nI b) :: .int (nI a) :: S) σ := h_isub hd (by rw [pk_sub h]; exact kk)
theorem h_ishlN {a b : Nat} (hd : aI1 cc pc .ishl pc') (h1 : b < 32) (h2 : a * 2 ^ b < 4294967296) (kk : GL zb zN zx Y cc nL rt lv mc ms post k n pc' L (.int (nI (a * 2 ^ b)) :: S) σ) : GL zb zN zx Y cc nL rt lv mc ms post k n pc L (.int (nI b) :: .int (nI a) :: S) σ := h_ishl hd (by rw [nA_shl h1 h2]; exact kk)
theorem h_ishrN {a b : Nat} (hd : aI1 cc pc .ishr pc') (h1 : a < 2147483648) (h2 : b < 32) (kk : GL zb zN zx Y cc nL rt lv mc ms post k n pc' L (.int (nI (a / 2 ^ b)) :: S) σ) : GL zb zN zx Y cc nL rt lv mc ms post k n pc L (.int (nI b) :: .int (nI a) :: S) σ := h_ishr hd (by rw [nA_shr h1 h2]; exact kk)
theorem h_iremN {a b : Nat} (hd : aI1 cc pc .irem pc') (h1 : a < 2147483648) (h2 : 0 < b) (h3 : b < 2147483648) (kk : GL zb zN zx Y cc nL rt lv mc ms post k n pc' L (.int (nI (a % b)) :: S) σ) : GL zb zN zx Y cc nL rt lv mc ms post k n pc L (.int (nI b) :: .int (nI a) :: S) σ := h_irem hd (nI_ne0 h2 h3) (by rw [pk_rem h1 h2 h3]; exact kk)
theorem h_if_eqN {a : Nat} (hd : aIf_eq cc pc pc' tgt) (ha : a < 2147483648) (kt : a = 0 → GL zb zN zx Y cc nL rt lv mc ms post k n tgt L S σ) (kf : ¬ a = 0 → GL zb zN zx Y cc nL rt lv mc ms post k n pc' L S σ) : GL zb zN zx Y cc nL rt lv mc ms post k n pc L (.int (nI a) :: S) σ := h_if_eq hd (fun h => kt ((nA_eq0 ha).mp h)) (fun h => kf (fun z => h ((nA_eq0 ha).mpr z)))
theorem h_if_neN {a : Nat} (hd : aIf_ne cc pc pc' tgt) (ha : a < 2147483648) (kt : ¬ a = 0 → GL zb zN zx Y cc nL rt lv mc ms post k n tgt L S σ) (kf : a = 0 → GL zb zN zx Y cc nL rt lv mc ms post k n pc' L S σ) : GL zb zN zx Y cc nL rt lv mc ms post k n pc L (.int (nI a) :: S) σ := h_if_ne hd (fun h => kt (fun z => h ((nA_eq0 ha).mpr z))) (fun h => kf ((nA_eq0 ha).mp h))
theorem h_if_leN {a : Nat} (hd : aIf_le cc pc pc' tgt) (ha : a < 2147483648) (kt : a = 0 → GL zb zN zx Y cc nL rt lv mc ms post k n tgt L S σ) (kf : ¬ a = 0 → GL zb zN zx Y cc nL rt lv mc ms post k n pc' L S σ) : GL zb zN zx Y cc nL rt lv mc ms post k n pc L (.int (nI a) :: S) σ := h_if_le hd (fun h => kt ((nA_le0 ha).mp h)) (fun h => kf (fun z => h ((nA_le0 ha).mpr z)))
theorem h_if_gtN {a : Nat} (hd : aIf_gt cc pc pc' tgt) (ha : a < 2147483648) (kt : ¬ a = 0 → GL zb zN zx Y cc nL rt lv mc ms post k n tgt L S σ) (kf : a = 0 → GL zb zN zx Y cc nL rt lv mc ms post k n pc' L S σ) : GL zb zN zx Y cc nL rt lv mc ms post k n pc L (.int (nI a) :: S) σ := h_if_gt hd (fun h => kt ((nA_gt0 ha).mp h)) (fun h => kf (Classical.byContradiction fun z => h ((nA_gt0 ha).mpr z)))
theorem h_icmp_eqN {a b : Nat} (hd : aIc_eq cc pc pc' tgt) (ha : a < 2147483648) (hb : b < 2147483648) (kt : a = b → GL zb zN zx Y cc nL rt lv mc ms post k n tgt L S σ) (kf : ¬ a = b → GL zb zN zx Y cc nL rt lv mc ms post k n pc' L S σ) : GL zb zN zx Y cc nL rt lv mc ms post k n pc L (.int (nI b) :: .int (nI a) :: S) σ := h_icmp_eq hd (fun h => kt ((nI_eq ha hb).mp h)) (fun h => kf (fun z => h ((nI_eq ha hb).mpr z)))
theorem h_icmp_neN {a b : Nat} (hd : aIc_ne cc pc pc' tgt) (ha : a < 2147483648) (hb : b < 2147483648) (kt : ¬ a = b → GL zb zN zx Y cc nL rt lv mc ms post k n tgt L S σ) (kf : a = b → GL zb zN zx Y cc nL rt lv mc ms post k n pc' L S σ) : GL zb zN zx Y cc nL rt lv mc ms post k n pc L (.int (nI b) :: .int (nI a) :: S) σ := h_icmp_ne hd (fun h => kt (fun z => h ((nI_eq ha hb).mpr z))) (fun h => kf ((nI_eq ha hb).mp h))
theorem h_icmp_ltN {a b : Nat} (hd : aIc_lt cc pc pc' tgt) (ha : a < 2147483648) (hb : b < 2147483648) (kt : a < b → GL zb zN zx Y cc nL rt lv mc ms post k n tgt L S σ) (kf : b ≤ a → GL zb zN zx Y cc nL rt lv mc ms post k n pc' L S σ) : GL zb zN zx Y cc nL rt lv mc ms post k n pc L (.int (nI b) :: .int (nI a) :: S) σ := h_icmp_lt hd (fun h => kt ((nI_ltI ha hb).mp h)) (fun h => kf (Nat.not_lt.mp fun z => h ((nI_ltI ha hb).mpr z)))
theorem h_icmp_geN {a b : Nat} (hd : aIc_ge cc pc pc' tgt) (ha : a < 2147483648) (hb : b < 2147483648) (kt : b ≤ a → GL zb zN zx Y cc nL rt lv mc ms post k n tgt L S σ) (kf : a < b → GL zb zN zx Y cc nL rt lv mc ms post k n pc' L S σ) : GL zb zN zx Y cc nL rt lv mc ms post k n pc L (.int (nI b) :: .int (nI a) :: S) σ := h_icmp_ge hd (fun h => kt ((nI_leI hb ha).mp h)) (fun h => kf (Nat.not_le.mp fun z => h ((nI_leI hb ha).mpr z)))
theorem h_icmp_gtN {a b : Nat} (hd : aIc_gt cc pc pc' tgt) (ha : a < 2147483648) (hb : b < 2147483648) (kt : b < a → GL zb zN zx Y cc nL rt lv mc ms post k n tgt L S σ) (kf : a ≤ b → GL zb zN zx Y cc nL rt lv mc ms post k n pc' L S σ) : GL zb zN zx Y cc nL rt lv mc ms post k n pc L (.int (nI b) :: .int (nI a) :: S) σ := h_icmp_gt hd (fun h => kt ((nI_ltI hb ha).mp h)) (fun h => kf (Nat.not_lt.mp fun z => h ((nI_ltI hb ha).mpr z)))
theorem h_icmp_leN {a b : Nat} (hd : aIc_le cc pc pc' tgt) (ha : a < 2147483648) (hb : b < 2147483648) (kt : a ≤ b → GL zb zN zx Y cc nL rt lv mc ms post k n tgt L S σ) (kf : b < a → GL zb zN zx Y cc nL rt lv mc ms post k n pc' L S σ) : GL zb zN zx Y cc nL rt lv mc ms post k n pc L (.int (nI b) :: .int (nI a) :: S) σ := h_icmp_le hd (fun h => kt ((nI_leI ha hb).mp h)) (fun h => kf (Nat.not_le.mp fun z => h ((nI_leI ha hb).mpr z)))
theorem h_ialdN {a j : Nat} {ws : List Nat} (hd : aI1 cc pc .iaload pc') (hσ : σ[a]? = some (aA ws)) (hj : j < ws.length) (hs : ws.length < 65536) (kk : GL zb zN zx Y cc nL rt lv mc ms post k n pc' L (.int (nI (ws.getD j 0)) :: S) σ) : GL zb zN zx Y cc nL rt lv mc ms post k n pc L (.int (nI j) :: .ref a :: S) σ := h_iald hd hσ (by rw [List.length_map]; exact vp_in_nI hj (by omega)) (by rw [nI_clamp (by omega), nA_getD]; exact kk)
theorem h_iastN {a j v : Nat} {ws : List Nat} (hd : aI1 cc pc .iastore pc') (hσ : σ[a]? = some (aA ws)) (hj : j < ws.length) (hs : ws.length < 65536) (kk : GL zb zN zx Y cc nL rt lv mc ms post k n pc' L S (σ.set a (aA (ws.set j v)))) : GL zb zN zx Y cc nL rt lv mc ms post k n pc L (.int (nI v) :: .int (nI j) :: .ref a :: S) σ := h_iast hd hσ (by rw [List.length_map]; exact vp_in_nI hj (by omega)) (by rw [nI_clamp (by omega), nA_set]; exact kk)
theorem h_callV0 {ci : Nat} {fs : List Value} {r : vw_C} (hd : aI3 cc pc (.invokevirtual index) pc') (hk : aLV Y.cls index r.1 y cc' nL' rt' np) (hσ : σ[b]? = some (aO ci fs)) (hr : vwCl[ci]? = some r) (hM : AMet y cc' nL' rt' lv' 0 0 (.ref b :: As) σ post') (hst : S0 = As.reverse ++ .ref b :: S) (hnp : As.length = np) (hlv : lv' + 1 ≤ lv) (hnl : nL' ≤ 21) (hsum : (S.map fun v => v.category).sum ≤ 8) (hmc : k ≤ mc) (hms : n ≤ ms) (kk : ∀ v σ', post' v σ' → σ.length ≤ σ'.length → GL zb zN zx Y cc nL rt lv mc ms post k n pc' L (v.toList ++ S) σ') : GL zb zN zx Y cc nL rt lv mc ms post k n pc L S0 σ := h_callV hd hk hσ hr hM hst hnp hlv hnl hsum hmc hms kk
theorem h_callVp {ci : Nat} {fs : List Value} {r : vw_C} (hd : aI3 cc pc (.invokevirtual index) pc') (hk : aLV Y.cls index r.1 y cc' nL' rt' np) (hσ : σ[b]? = some (aO ci fs)) (hr : vwCl[ci]? = some r) {r' : Option Value} {σ2 : aH} (hM : AMet y cc' nL' rt' lv' 0 0 (.ref b :: As) σ (aPu r' σ2)) (hst : S0 = As.reverse ++ .ref b :: S) (hnp : As.length = np) (hlv : lv' + 1 ≤ lv) (hnl : nL' ≤ 21) (hsum : (S.map fun v => v.category).sum ≤ 8) (hmc : k ≤ mc) (hms : n ≤ ms) (kk : GL zb zN zx Y cc nL rt lv mc ms post k n pc' L (r'.toList ++ S) σ2) : GL zb zN zx Y cc nL rt lv mc ms post k n pc L S0 σ := h_callV hd hk hσ hr hM hst hnp hlv hnl hsum hmc hms (fun v σ' hp _ => by obtain ⟨rfl, rfl⟩ := hp; exact kk)
theorem h_callS0 (hd : aI3 cc pc (.invokestatic index) pc') (hk : aLSt Y.cls index y cc' nL' rt' np) (hM : AMet y cc' nL' rt' lv' 0 0 As σ post') (hst : S0 = As.reverse ++ S) (hnp : As.length = np) (hlv : lv' + 1 ≤ lv) (hnl : nL' ≤ 21) (hsum : (S.map fun v => v.category).sum ≤ 8) (hmc : k ≤ mc) (hms : n ≤ ms) (kk : ∀ v σ', post' v σ' → σ.length ≤ σ'.length → GL zb zN zx Y cc nL rt lv mc ms post k n pc' L (v.toList ++ S) σ') : GL zb zN zx Y cc nL rt lv mc ms post k n pc L S0 σ := h_callS hd hk hM hst hnp hlv hnl hsum hmc hms kk
theorem h_callSp (hd : aI3 cc pc (.invokestatic index) pc') (hk : aLSt Y.cls index y cc' nL' rt' np) {r' : Option Value} {σ2 : aH} (hM : AMet y cc' nL' rt' lv' 0 0 As σ (aPu r' σ2)) (hst : S0 = As.reverse ++ S) (hnp : As.length = np) (hlv : lv' + 1 ≤ lv) (hnl : nL' ≤ 21) (hsum : (S.map fun v => v.category).sum ≤ 8) (hmc : k ≤ mc) (hms : n ≤ ms) (kk : GL zb zN zx Y cc nL rt lv mc ms post k n pc' L (r'.toList ++ S) σ2) : GL zb zN zx Y cc nL rt lv mc ms post k n pc L S0 σ := h_callS hd hk hM hst hnp hlv hnl hsum hmc hms (fun v σ' hp _ => by obtain ⟨rfl, rfl⟩ := hp; exact kk)
theorem h_len (d0 : aAL cc pc 0 (pc + 1)) (d1 : aI1 cc (pc + 1) .arraylength pc') (kk : GL zb zN zx Y cc nL rt lv mc ms post k n pc' L (.int (Int32.ofNat zN) :: S) σ) : GL zb zN zx Y cc nL rt lv mc ms post k n pc L S σ := by
  intro D cI cM p l e R s m args below meth c A Q ad0 n0 H locs ls ad C X hl hS hz
  obtain ⟨d1, rfl⟩ := d1
  rcases d0 with ⟨z, h1, h2, -⟩ | ⟨-, h2⟩
  · refine lv_aload_n C.1 C.2.1 h1 h2 hz.1 ?_
    exact va_slen C.1 C.2.1 hz.2.1 hz.2.2.1 hz.2.2.2 X.2.2.1 d1 (kk.use hz C X hl (aSI hS))
  · omega
theorem h_scr {i : Nat} {x : Int32} (d0 : aAL cc pc 0 (pc + 1)) (d1 : aIL cc (pc + 1) i (pc + 2)) (d2 : aI1 cc (pc + 2) .iaload pc') (hx : L[i]? = some (some (.int x))) (hin : vp_in x zN) (kk : GL zb zN zx Y cc nL rt lv mc ms post k n pc' L (.int (zx x.toNatClampNeg) :: S) σ) : GL zb zN zx Y cc nL rt lv mc ms post k n pc L S σ := by
  intro D cI cM p l e R s m args below meth c A Q ad0 n0 H locs ls ad C X hl hS hz
  obtain ⟨d2, rfl⟩ := d2
  rcases d0 with ⟨z, h1, h2, -⟩ | ⟨-, h2⟩
  · refine lv_aload_n C.1 C.2.1 h1 h2 hz.1 ?_
    rcases d1 with ⟨z, h3, h4, -⟩ | ⟨-, h4⟩
    · refine lv_iload_n C.1 C.2.1 h3 h4 (aLo_at hl hx).1 ?_
      exact va_sld C.1 C.2.1 hz.2.1 hz.2.2.1 hz.2.2.2 X.2.2.1 hin d2 (kk.use hz C X hl (aSI hS))
    · omega
  · omega
end AL
/-! the script on the stack, numbers and references ahead of it and behind -/
def GZ (zb zN : Nat) (zx : Nat → Int32) (Y : MethodName) (cc : ByteArray) (nL : Nat) (rt : Option FieldType) (lv mc ms : Nat) (post : Option Value → aH → Prop) (k n pc : Nat) (L : List (Option Value)) (S1 S : List Value) (σ : aH) : Prop :=
  ∀ (D : va_G) (cI cM : ClassId) (p : Program) (l : Launch) (e : Env) (R : Room) (s : State) (m : MethodId) (args : Array Value) (below : List Frame) (meth : Method) (c : Code) (A : Nat → Prop) (Q : State → Prop) (ad0 : Nat → Nat) (n0 : Nat) (H : Heap) (locs : List Loc) (ls : Array Slot) (ad : Nat → Nat),
    aCx D cI cM p l e R s m args below meth c A Q ad0 n0 Y cc nL rt lv mc ms post → aSt D cI cM A s.heap ad0 n0 H locs ad σ → aLo ad ls nL L σ.length → (∀ v ∈ S1, aSc σ.length v) → (∀ v ∈ S, aSc σ.length v) → aZ zb zN zx s A ls → W p l e R s m args below meth c H locs k n Q (F0 m pc ls (S1.map (aRe ad) ++ .ref zb :: S.map (aRe ad)))
theorem GZ.use {zb zN : Nat} {zx : Nat → Int32} {Y : MethodName} {cc : ByteArray} {nL : Nat} {rt : Option FieldType} {lv mc ms : Nat} {post : Option Value → aH → Prop} {k n pc : Nat} {L : List (Option Value)} {S1 S : List Value} {σ : aH} (h : GZ zb zN zx Y cc nL rt lv mc ms post k n pc L S1 S σ) {D : va_G} {cI cM : ClassId} {p : Program} {l : Launch} {e : Env} {R : Room} {s : State} {m : MethodId} {args : Array Value} {below : List Frame} {meth : Method} {c : Code} {A : Nat → Prop} {Q : State → Prop} {ad0 : Nat → Nat} {n0 : Nat} {H : Heap} {locs : List Loc} {ls : Array Slot} {ad : Nat → Nat} (hz : aZ zb zN zx s A ls) (C : aCx D cI cM p l e R s m args below meth c A Q ad0 n0 Y cc nL rt lv mc ms post) (X : aSt D cI cM A s.heap ad0 n0 H locs ad σ) (hl : aLo ad ls nL L σ.length) (hS1 : ∀ v ∈ S1, aSc σ.length v) (hS : ∀ v ∈ S, aSc σ.length v) : W p l e R s m args below meth c H locs k n Q (F0 m pc ls (S1.map (aRe ad) ++ .ref zb :: S.map (aRe ad))) := h D cI cM p l e R s m args below meth c A Q ad0 n0 H locs ls ad C X hl hS1 hS hz
/-- a method's contract, the script its first argument -/
def aPrZ (zb zN : Nat) (zx : Nat → Int32) (D : va_G) (cI cM : ClassId) (ad : Nat → Nat) (σ : aH) (sz : Nat) (U : State) : Prop := aPr D cI cM ad σ sz U ∧ va_X zb zN zx U U.heap ∧ zb < sz ∧ ¬ va_A (aW cI cM ad σ) sz zb
def BMet (zb zN : Nat) (zx : Nat → Int32) (Y : MethodName) (cc : ByteArray) (nL : Nat) (rt : Option FieldType) (lv mc ms : Nat) (args : List Value) (σ : aH) (post : Option Value → aH → Prop) : Prop :=
  aScH σ → (∀ v ∈ args, aSc σ.length v) → ∀ (l : Launch) (D : va_G) (cI cM : ClassId) (ad : Nat → Nat) (sz : Nat),
    Met l Y (.code Y cc nL rt :: aWd) (aRm lv mc ms) (va_Pc (.ref zb :: args.map (aRe ad)) (aPrZ zb zN zx D cI cM ad σ sz)) (aQ D cI cM ad σ.length (va_A (aW cI cM ad σ) sz) post) mc ms (va_A (aW cI cM ad σ) sz)
theorem BMet.weaken {zb zN : Nat} {zx : Nat → Int32} {Y : MethodName} {cc : ByteArray} {nL : Nat} {rt : Option FieldType} {lv mc ms : Nat} {args : List Value} {σ : aH} {post post' : Option Value → aH → Prop} (h : BMet zb zN zx Y cc nL rt lv mc ms args σ post) (hp : ∀ v σ', post v σ' → post' v σ') : BMet zb zN zx Y cc nL rt lv mc ms args σ post' := by
  intro hσ hsc l D cI cM ad sz
  intro p e a1 a2 a3 s m args' below a4 a5 a6 a7
  obtain ⟨n, o, b1, b2, b3, ⟨⟨v, σ', ad', g1, g2, g3⟩, g4⟩, b5⟩ := h hσ hsc l D cI cM ad sz p e a1 a2 a3 s m args' below a4 a5 a6 a7
  exact ⟨n, o, b1, b2, b3, ⟨⟨v, σ', ad', g1, hp _ _ g2, g3⟩, g4⟩, b5⟩
theorem aPrZ_blind {zb zN : Nat} {zx : Nat → Int32} {D : va_G} {cI cM : ClassId} {ad : Nat → Nat} {σ : aH} {sz : Nat} {av : List Value} : FrameBlind (va_Pc av (aPrZ zb zN zx D cI cM ad σ sz)) := fun a U g mk q => by
  obtain ⟨q0, ⟨q1, qP, qK, qD⟩, qX, qr⟩ := q
  exact ⟨q0, ⟨q1, qP, aK.same rfl qK, qD⟩, va_X.moved (Vm.Alike.refl U.vm) qX, qr⟩
def aLZ (nL : Nat) (args : List Value) : List (Option Value) := none :: (aEn args ++ List.replicate (nL - 1 - (aEn args).length) none)
theorem BMet_of_GL {zb zN : Nat} {zx : Nat → Int32} {Y : MethodName} {cc : ByteArray} {nL : Nat} {rt : Option FieldType} {lv mc ms : Nat} {args : List Value} {σ : aH} {post : Option Value → aH → Prop} (hy : plainName Y.cls = true) (hlen : (aEn args).length + 1 ≤ nL) (hG : GL zb zN zx Y cc nL rt lv mc ms post 0 0 0 (aLZ nL args) [] σ) : BMet zb zN zx Y cc nL rt lv mc ms args σ post := by
  intro hσ hsc l D cI cM ad sz
  refine Met.ofW (cc := cc) (maxL := nL) (ret := rt) hy rfl ?_
  intro p e s m args' below meth c s₁ B hml hv
  obtain ⟨rfl, ⟨hsz, hP, hK, hD0⟩, hX, hzb, hzA⟩ := hv
  have hts : ∀ w ∈ (Cond.code Y cc nL rt :: aWd), w.before ((.ref zb :: args.map (aRe ad)).toArray) s = true := atoms_spec (ws := Cond.code Y cc nL rt :: aWd) B.pre
  subst hsz
  have hD := hD0.self (sz := s.heap.size)
  rw [lg_entry_eq]
  have hl := lv_entry (.ref zb :: args.map (aRe ad)) (n := nL) (by show (Slot.val (Value.ref zb) :: lg_sl (args.map (aRe ad))).length ≤ nL; rw [List.length_cons, aEn_len]; omega)
  refine hG.use (zb := zb) (zN := zN) (zx := zx) (A := va_A (aW cI cM ad σ) s.heap.size) (ad0 := ad) (n0 := σ.length) (ad := ad) ⟨hl.2.2 _ List.mem_cons_self, hX, hzb, hzA⟩ ⟨B.exec, B.bytes, hml, findClass_of_methodNamed B.named, fun w hw => hts w (List.mem_cons_of_mem _ hw), (name_of_methodNamed B.named B.method).1, hK, fun q h => Or.inr h, ⟨Nat.le_refl _, Nat.le_refl _, Nat.le_refl _, Nat.le_refl _⟩, ?_⟩ ⟨hP, hD, va_S.rf, hσ, fun _ _ => rfl, Nat.le_refl _⟩ ⟨lv_less hl ?_, ?_, ?_⟩ (fun v h => by cases h)
  · intro H locs ls ad' σ' k n pc v hp hk hn X hv hret
    refine W.widen (k := mc) (n := ms) hk hn ?_
    have hq : ∀ (t : State), t.heap = H → aQ D cI cM ad σ.length (va_A (aW cI cM ad σ) s.heap.size) post ((.ref zb :: args.map (aRe ad)).toArray) s (.returned (v.map (aRe ad'))) t := fun t ht =>
      ⟨⟨v, σ', ad', rfl, hp, hv, X.2.2.2.1, X.2.2.2.2.1, X.2.2.2.2.2, by rw [ht]; exact X.1, X.2.1⟩, X.2.2.1.F ht⟩
    rcases hret with ⟨rfl, rfl, hd⟩ | ⟨x, ty, rfl, rfl, hn, hd⟩ | ⟨x, rfl, rfl, hd⟩ | ⟨hv2, ⟨z, rfl⟩, hd⟩
    · exact W.vret B.exec B.bytes B.returns (fun t ht hW => hq t ht) X.2.2.1.2.2 hd (hlocks := B.notSynchronized)
    · exact W.zret B.exec B.bytes B.returns hn (fun t ht hW => hq t ht) X.2.2.1.2.2 hd (hlocks := B.notSynchronized)
    · exact W.lret B.exec B.bytes B.returns (fun t ht hW => hq t ht) X.2.2.1.2.2 hd (hlocks := B.notSynchronized)
    · rcases hv2 with rfl | ⟨i, rfl⟩
      · exact W.aret B.exec B.bytes B.returns (Or.inl ⟨z, rfl⟩) (Or.inl rfl) (fun t ht hW => hq t ht) X.2.2.1.2.2 hd (hlocks := B.notSynchronized)
      · exact W.aret B.exec B.bytes B.returns (Or.inl ⟨z, rfl⟩) (Or.inr ⟨_, rfl⟩) (fun t ht hW => hq t ht) X.2.2.1.2.2 hd (hlocks := B.notSynchronized)
  · rintro ⟨j, w⟩ hq
    obtain ⟨v, h1, h2⟩ := aL2_mem.mp hq
    cases j with
    | zero => cases h1
    | succ j =>
      have h1 : (aEn args ++ List.replicate (nL - 1 - (aEn args).length) none)[j]? = some (some v) := h1
      have h3 : (aEn args)[j]? = some (some v) := by
        rw [List.getElem?_append] at h1
        split at h1
        · exact h1
        · rw [List.getElem?_replicate] at h1
          split at h1 <;> cases h1
      have h4 := aEn_mem ad args 1 j v h3
      rw [h2, Nat.add_comm j 1]
      exact List.mem_cons_of_mem _ h4
  · unfold aLZ
    rw [List.length_cons, List.length_append, List.length_replicate]
    omega
  · intro v hv
    unfold aLZ at hv
    rcases List.mem_cons.mp hv with h | hv
    · cases h
    · rcases List.mem_append.mp hv with h | h
      · exact aEn_sc args hsc v h
      · have := List.eq_of_mem_replicate h
        cases this
section AZ
variable {zb zN : Nat} {zx : Nat → Int32} {Y : MethodName} {cc : ByteArray} {nL : Nat} {rt : Option FieldType} {lv mc ms : Nat} {post : Option Value → aH → Prop} {k n pc pc' tgt : Nat} {L L' : List (Option Value)} {S S0 : List Value} {σ : aH}
variable {rt' : Option FieldType} {y : MethodName} {cc' : ByteArray} {nL' : Nat} {lv' mc' ms' : Nat} {post' : Option Value → aH → Prop} {As S1 : List Value} {index np : Nat}
theorem h_z0 (hd : aAL cc pc 0 pc') (kk : GZ zb zN zx Y cc nL rt lv mc ms post k n pc' L [] S σ) : GL zb zN zx Y cc nL rt lv mc ms post k n pc L S σ := by
  intro D cI cM p l e R s m args below meth c A Q ad0 n0 H locs ls ad C X hl hS hz
  rcases hd with ⟨z, h1, h2, rfl⟩ | ⟨h1, rfl⟩
  · exact lv_aload_n C.1 C.2.1 h1 h2 hz.1 (kk.use hz C X hl (fun v h => nomatch h) hS)
  · exact lv_aload C.1 C.2.1 h1 hz.1 (kk.use hz C X hl (fun v h => nomatch h) hS)
theorem z_push {v : Int32} (hd : aPI cc pc v pc') (kk : GZ zb zN zx Y cc nL rt lv mc ms post k n pc' L (.int v :: S1) S σ) : GZ zb zN zx Y cc nL rt lv mc ms post k n pc L S1 S σ := by
  intro D cI cM p l e R s m args below meth c A Q ad0 n0 H locs ls ad C X hl hS1 hS hz
  rcases hd with ⟨z, h1, h2, rfl⟩ | ⟨z, h1, h2, rfl⟩ | ⟨z, h1, h2, rfl⟩
  · exact lv_iconst C.1 C.2.1 h1 h2 (kk.use hz C X hl (aSI hS1) hS)
  · exact lv_bipush C.1 C.2.1 h1 h2 (kk.use hz C X hl (aSI hS1) hS)
  · exact lv_sipush C.1 C.2.1 h1 h2 (kk.use hz C X hl (aSI hS1) hS)
theorem z_iload {i : Nat} {x : Int32} (hd : aIL cc pc i pc') (hi : L[i]? = some (some (.int x))) (kk : GZ zb zN zx Y cc nL rt lv mc ms post k n pc' L (.int x :: S1) S σ) : GZ zb zN zx Y cc nL rt lv mc ms post k n pc L S1 S σ := by
  intro D cI cM p l e R s m args below meth c A Q ad0 n0 H locs ls ad C X hl hS1 hS hz
  have hs := (aLo_at hl hi).1
  rcases hd with ⟨z, h1, h2, rfl⟩ | ⟨h1, rfl⟩
  · exact lv_iload_n C.1 C.2.1 h1 h2 hs (kk.use hz C X hl (aSI hS1) hS)
  · exact lv_iload C.1 C.2.1 h1 hs (kk.use hz C X hl (aSI hS1) hS)
theorem z_aload {i a : Nat} (hd : aAL cc pc i pc') (hi : L[i]? = some (some (.ref a))) (kk : GZ zb zN zx Y cc nL rt lv mc ms post k n pc' L (.ref a :: S1) S σ) : GZ zb zN zx Y cc nL rt lv mc ms post k n pc L S1 S σ := by
  intro D cI cM p l e R s m args below meth c A Q ad0 n0 H locs ls ad C X hl hS1 hS hz
  obtain ⟨hs, hv⟩ := aLo_at hl hi
  rcases hd with ⟨z, h1, h2, rfl⟩ | ⟨h1, rfl⟩
  · exact lv_aload_n C.1 C.2.1 h1 h2 hs (kk.use hz C X hl (aSC hv hS1) hS)
  · exact lv_aload C.1 C.2.1 h1 hs (kk.use hz C X hl (aSC hv hS1) hS)
theorem z_iadd {a b : Nat} (hd : aI1 cc pc .iadd pc') (kk : GZ zb zN zx Y cc nL rt lv mc ms post k n pc' L (.int (nI (a + b)) :: S1) S σ) : GZ zb zN zx Y cc nL rt lv mc ms post k n pc L (.int (nI b) :: .int (nI a) :: S1) S σ := by
  intro D cI cM p l e R s m args below meth c A Q ad0 n0 H locs ls ad C X hl hS1 hS hz
  obtain ⟨hd, rfl⟩ := hd
  exact lv_iadd C.1 C.2.1 hd (by rw [nI_add]; exact kk.use hz C X hl (aSI (aS2 hS1)) hS)
theorem z_irem {a b : Nat} (hd : aI1 cc pc .irem pc') (h1 : a < 2147483648) (h2 : 0 < b) (h3 : b < 2147483648) (kk : GZ zb zN zx Y cc nL rt lv mc ms post k n pc' L (.int (nI (a % b)) :: S1) S σ) : GZ zb zN zx Y cc nL rt lv mc ms post k n pc L (.int (nI b) :: .int (nI a) :: S1) S σ := by
  intro D cI cM p l e R s m args below meth c A Q ad0 n0 H locs ls ad C X hl hS1 hS hz
  obtain ⟨hd, rfl⟩ := hd
  exact lv_irem C.1 C.2.1 hd (nI_ne0 h2 h3) (by rw [pk_rem h1 h2 h3]; exact kk.use hz C X hl (aSI (aS2 hS1)) hS)
theorem z_call (hd : aI3 cc pc (.invokestatic index) pc') (hk : aLSt Y.cls index y cc' nL' rt' np) (hM : BMet zb zN zx y cc' nL' rt' lv' mc' ms' As σ post') (hst : S1 = As.reverse) (hnp : As.length + 1 = np) (hlv : lv' + 1 ≤ lv) (hnl : nL' ≤ 21) (hsum : (S.map fun v => v.category).sum ≤ 8) (hmc : k + mc' ≤ mc) (hms : n + ms' ≤ ms) (kk : ∀ v σ', post' v σ' → σ.length ≤ σ'.length → GL zb zN zx Y cc nL rt lv mc ms post (k + mc') (n + ms') pc' L (v.toList ++ S) σ') : GZ zb zN zx Y cc nL rt lv mc ms post k n pc L S1 S σ := by
  intro D cI cM p l e R s m args below meth c A Q ad0 n0 H locs ls ad C X hl hS1 hS hz
  subst hst
  obtain ⟨hd, rfl⟩ := hd
  have hRm := C.2.2.2.2.2.2.2.2.1
  have hK := C.2.2.2.2.2.2.1
  have hA0 : ∀ v ∈ As, aSc σ.length v := fun v hv => hS1 v (List.mem_reverse.mpr hv)
  have hS2 : ∀ v ∈ S, aSc σ.length v := hS
  have hM' := hM X.2.2.2.1 hA0 l D cI cM ad H.size
  have hpre : ∀ U : State, U.heap = H → s.WarmedH U.vm → aPrZ zb zN zx D cI cM ad σ H.size U := fun U hU hW => ⟨⟨by rw [hU], by rw [hU]; exact X.1, aK.warm hW hK, X.2.1.weaken (fun _ _ _ _ => trivial)⟩, by rw [hU]; exact va_X.moved hW.alike (va_X.kept hz.2.1 (X.2.2.1.2.1 zb hz.2.2.1 hz.2.2.2)), Nat.lt_of_lt_of_le hz.2.2.1 X.2.2.1.1, fun h => hz.2.2.2 (a_free X C.2.2.2.2.2.2.2.1 zb h)⟩
  have hb2 : (aRm lv' mc' ms').frames + 1 ≤ R.frames ∧ 8 + (nL' + 11) + (aRm lv' mc' ms').locals ≤ R.locals := by
    have h1 := hRm.1
    have h2 := hRm.2.1
    show lv' + 1 ≤ R.frames ∧ 8 + (nL' + 11) + (40 * lv' + 20) ≤ R.locals
    omega
  have hf : k + mc' ≤ R.cells ∧ n + ms' ≤ R.slots := ⟨Nat.le_trans hmc hRm.2.2.1, Nat.le_trans hms hRm.2.2.2⟩
  have hW8 : 2 * (F0 m pc ls (As.reverse.map (aRe ad) ++ .ref zb :: S.map (aRe ad))).monitorRoom + ((S.map (aRe ad)).map fun v => v.category).sum ≤ 8 := by
    rw [aCatSum]
    exact lv_room hsum
  have hAl : (.ref zb :: As.map (aRe ad)).length = np := by rw [List.length_cons, List.length_map]; exact hnp
  obtain ⟨w1, w2, w3, w4, w5⟩ := hk
  have hrun := va_runS (e := e) (below := below) (meth := meth) (locs := locs) (cells := k) (slots := n) (rest := S.map (aRe ad)) (g := F0 m pc ls (As.reverse.map (aRe ad) ++ .ref zb :: S.map (aRe ad))) (As := .ref zb :: As.map (aRe ad)) ⟨C.1, C.2.1, C.2.2.1, C.2.2.2.1, C.2.2.2.2.1⟩ hM' (va_cwS np C.2.2.2.2.1 (aGood (by unfold va_wsS; exact aCons3 w1 w2 w3 (aWd_c w4))) rfl rfl rfl w5 hb2) ⟨aPrZ_blind, fun U hU hW => ⟨rfl, hpre U hU hW⟩⟩ rfl hAl hl.1.1 (by show _ ++ _ = _; rw [List.map_reverse, List.reverse_cons, List.append_assoc]; rfl) hW8 hd hf
  refine a_call hrun X (a_free X C.2.2.2.2.2.2.2.1) (fun v σ' ad' H1 locs1 hp hw hln had X' => ?_)
  rw [← aRe_map had hS2, aTail]
  exact (kk v σ' hp hln).use hz C X' (aLo_ad hl hln had) (aTailSc hw (fun w h => aSc_mono hln (hS2 w h)))
end AZ
section AJ
variable {Y : MethodName} {cc : ByteArray} {nL : Nat} {rt : Option FieldType} {lv mc ms : Nat} {post : Option Value → aH → Prop} {k n pc pc' tgt : Nat} {L L' : List (Option Value)} {S S0 : List Value} {σ : aH}
theorem g_laddN {a b : Nat} (hd : aI1 cc pc .ladd pc') (kk : G Y cc nL rt lv mc ms post k n pc' L (.long (lN (a + b)) :: S) σ) : G Y cc nL rt lv mc ms post k n pc L (.long (lN b) :: .long (lN a) :: S) σ := g_ladd hd (by rw [lN_add]; exact kk)
theorem g_lmulN {a b : Nat} (hd : aI1 cc pc .lmul pc') (kk : G Y cc nL rt lv mc ms post k n pc' L (.long (lN (a * b)) :: S) σ) : G Y cc nL rt lv mc ms post k n pc L (.long (lN b) :: .long (lN a) :: S) σ := g_lmul hd (by rw [lN_mul]; exact kk)
theorem lN_ne0 {b : Nat} (h2 : 0 < b) (h3 : b < 9223372036854775808) : ¬ lN b = 0 := fun h => by
  have := (pk_lEQ (a := b) (b := 0) h3 (by decide)).mp h
  omega
theorem g_ldivN {a b : Nat} (hd : aI1 cc pc .ldiv pc') (h1 : a < 9223372036854775808) (h2 : 0 < b) (h3 : b < 9223372036854775808) (kk : G Y cc nL rt lv mc ms post k n pc' L (.long (lN (a / b)) :: S) σ) : G Y cc nL rt lv mc ms post k n pc L (.long (lN b) :: .long (lN a) :: S) σ := by
  intro D cI cM p l e R s m args below meth c A Q ad0 n0 H locs ls ad C X hl hS
  obtain ⟨hd, rfl⟩ := hd
  exact lv_ldiv C.1 C.2.1 hd (lN_ne0 h2 h3) (by rw [pk_lDiv h1 h2 h3]; exact kk.use C X hl (aSJ (aS2 hS)))
theorem g_lremN {a b : Nat} (hd : aI1 cc pc .lrem pc') (h1 : a < 9223372036854775808) (h2 : 0 < b) (h3 : b < 9223372036854775808) (kk : G Y cc nL rt lv mc ms post k n pc' L (.long (lN (a % b)) :: S) σ) : G Y cc nL rt lv mc ms post k n pc L (.long (lN b) :: .long (lN a) :: S) σ := by
  intro D cI cM p l e R s m args below meth c A Q ad0 n0 H locs ls ad C X hl hS
  obtain ⟨hd, rfl⟩ := hd
  exact lv_lrem C.1 C.2.1 hd (lN_ne0 h2 h3) (by rw [pk_lRem h1 h2 h3]; exact kk.use C X hl (aSJ (aS2 hS)))
theorem g_i2lN {a : Nat} (hd : aI1 cc pc .i2l pc') (h : a < 2147483648) (kk : G Y cc nL rt lv mc ms post k n pc' L (.long (lN a) :: S) σ) : G Y cc nL rt lv mc ms post k n pc L (.int (nI a) :: S) σ := g_i2l hd (by rw [nI_l h]; exact kk)
theorem g_l2iN {a : Nat} (hd : aI1 cc pc .l2i pc') (kk : G Y cc nL rt lv mc ms post k n pc' L (.int (nI a) :: S) σ) : G Y cc nL rt lv mc ms post k n pc L (.long (lN a) :: S) σ := g_l2i hd (by rw [lN_i]; exact kk)
end AJ
