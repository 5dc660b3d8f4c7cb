
/-- the tables' words that any method may be given -/
def aWd : List Cond := lw_tbl.filter goodWord
theorem aWd_tbl {w : Cond} (h : w ∈ aWd) : w ∈ lw_tbl := (List.mem_filter.mp h).1
theorem aWd_good : GoodIn aWd aWd := fun w h => ⟨h, good_of_word (List.mem_filter.mp h).2⟩
theorem aWd_t {w : Cond} (h : w ∈ tables_1) (g : goodWord w = true) : w ∈ aWd := List.mem_filter.mpr ⟨List.mem_append_right _ h, g⟩
theorem aWd_1 {w : Cond} (h : w ∈ tables_1_1) (g : goodWord w = true) : w ∈ aWd := aWd_t (List.mem_append_left _ h) g
theorem aWd_2 {w : Cond} (h : w ∈ tables_1_2) (g : goodWord w = true) : w ∈ aWd := aWd_t (List.mem_append_right _ (List.mem_append_left _ h)) g
theorem aWd_3 {w : Cond} (h : w ∈ tables_1_3) (g : goodWord w = true) : w ∈ aWd := aWd_t (List.mem_append_right _ (List.mem_append_right _ h)) g
theorem aArr_in : Cond.arrayClass .int ∈ aWd := aWd_1 (List.mem_of_getElem? (i := 45) rfl) rfl
/-! THE ABSTRACT MACHINE: a heap is a list of cells by their places; a reference is a place. G says: from here the method ends with 'post'. AMet says it of a whole method. -/
abbrev aT : Type := List Int32 ⊕ (List (Option Nat) ⊕ (Nat × List Value))
abbrev aH : Type := List aT
def aRe (ad : Nat → Nat) (v : Value) : Value := match v with
  | .ref i => .ref (ad i)
  | w => w
def aE (cI cM : ClassId) (ad : Nat → Nat) (c : aT) : va_E := match c with
  | .inl xs => .inl (cI, xs.length, .inl (fun k => xs.getD k 0))
  | .inr (.inl rs) => .inl (cM, rs.length, .inr (.inr (.inr (.inr (fun k => (rs.getD k none).map ad)))))
  | .inr (.inr o) => .inr (o.1, o.2.map (aRe ad))
def aW (cI cM : ClassId) (ad : Nat → Nat) (σ : aH) : va_W := σ.mapIdx (fun i c => (ad i, aE cI cM ad c))
theorem aW_get (cI cM : ClassId) (ad : Nat → Nat) (σ : aH) (i : Nat) : (aW cI cM ad σ)[i]? = (σ[i]?).map (fun c => (ad i, aE cI cM ad c)) := by simp [aW]
theorem aW_at {cI cM : ClassId} {ad : Nat → Nat} {σ : aH} {i : Nat} {c : aT} (h : σ[i]? = some c) : (aW cI cM ad σ)[i]? = some (ad i, aE cI cM ad c) := by rw [aW_get, h]; rfl
theorem aW_len (cI cM : ClassId) (ad : Nat → Nat) (σ : aH) : (aW cI cM ad σ).length = σ.length := by simp [aW]
theorem aW_set (cI cM : ClassId) (ad : Nat → Nat) (σ : aH) (i : Nat) (c : aT) : (aW cI cM ad σ).set i (ad i, aE cI cM ad c) = aW cI cM ad (σ.set i c) := by
  apply List.ext_getElem?
  intro j
  rw [aW_get, List.getElem?_set, List.getElem?_set, aW_get, aW_len]
  by_cases h : i = j
  · subst h
    by_cases h2 : i < σ.length <;> simp [h2]
  · simp [h]
def aSc (n : Nat) (v : Value) : Prop := ∀ i, v = .ref i → i < n
def aScC (n : Nat) (c : aT) : Prop := match c with
  | .inl xs => xs.length < 65536
  | .inr (.inl rs) => rs.length < 65536 ∧ ∀ i : Nat, some i ∈ rs → i < n
  | .inr (.inr o) => ∀ v ∈ o.2, aSc n v
def aScH (σ : aH) : Prop := ∀ c ∈ σ, aScC σ.length c
theorem aSc_int {n : Nat} {x : Int32} : aSc n (.int x) := fun i h => by cases h
theorem aSc_long {n : Nat} {x : Int64} : aSc n (.long x) := fun i h => by cases h
theorem aSc_null {n : Nat} : aSc n .null := fun i h => by cases h
theorem aSc_ref {n i : Nat} (h : i < n) : aSc n (.ref i) := fun j e => by cases e; exact h
theorem aSc_mono {n n' : Nat} (h : n ≤ n') {v : Value} (hv : aSc n v) : aSc n' v := fun i e => Nat.lt_of_lt_of_le (hv i e) h
theorem aScC_mono {n n' : Nat} (h : n ≤ n') {c : aT} (hc : aScC n c) : aScC n' c := by
  rcases c with xs | rs | o
  · exact hc
  · exact ⟨hc.1, fun i hi => Nat.lt_of_lt_of_le (hc.2 i hi) h⟩
  · exact fun v hv => aSc_mono h (hc v hv)
theorem aScH_at {σ : aH} (h : aScH σ) {i : Nat} {c : aT} (hi : σ[i]? = some c) : aScC σ.length c := h c (List.mem_of_getElem? hi)
theorem aScH_set {σ : aH} (h : aScH σ) {i : Nat} {c : aT} (hc : aScC σ.length c) : aScH (σ.set i c) := by
  intro d hd
  rw [List.length_set]
  rcases List.mem_or_eq_of_mem_set hd with h1 | h1
  · exact h d h1
  · subst h1; exact hc
theorem aScH_push {σ : aH} (h : aScH σ) {c : aT} (hc : aScC (σ.length + 1) c) : aScH (σ ++ [c]) := by
  intro d hd
  rw [List.length_append, List.length_singleton]
  rcases List.mem_append.mp hd with h1 | h1
  · exact aScC_mono (Nat.le_succ _) (h d h1)
  · rw [List.mem_singleton.mp h1]; exact hc
theorem aRe_eq {ad ad' : Nat → Nat} {n : Nat} (h : ∀ i, i < n → ad' i = ad i) {v : Value} (hv : aSc n v) : aRe ad' v = aRe ad v := by
  cases v <;> try rfl
  rename_i a
  show Value.ref _ = Value.ref _
  rw [h a (hv a rfl)]
theorem aRe_map {ad ad' : Nat → Nat} {n : Nat} (h : ∀ i, i < n → ad' i = ad i) {S : List Value} (hS : ∀ v ∈ S, aSc n v) : S.map (aRe ad') = S.map (aRe ad) :=
  List.map_congr_left (fun v hv => aRe_eq h (hS v hv))
theorem aE_eq {cI cM : ClassId} {ad ad' : Nat → Nat} {n : Nat} (h : ∀ i, i < n → ad' i = ad i) {c : aT} (hc : aScC n c) : aE cI cM ad' c = aE cI cM ad c := by
  rcases c with xs | rs | o
  · rfl
  · have hf : (fun k => (rs.getD k none).map ad') = fun k => (rs.getD k none).map ad := by
      funext k
      cases hk : rs.getD k none with
      | none => rfl
      | some i =>
        show some _ = some _
        rw [h i (hc.2 i ?_)]
        rw [List.getD_eq_getElem?_getD] at hk
        cases hr : rs[k]? with
        | none => rw [hr] at hk; cases hk
        | some w =>
          rw [hr] at hk
          have hk2 : w = some i := hk
          rw [← hk2]
          exact List.mem_of_getElem? hr
    simp only [aE, hf]
  · show Sum.inr _ = Sum.inr _
    rw [aRe_map h hc]
theorem aW_eq {cI cM : ClassId} {ad ad' : Nat → Nat} {σ : aH} (h : ∀ i, i < σ.length → ad' i = ad i) (hσ : aScH σ) : aW cI cM ad' σ = aW cI cM ad σ := by
  apply List.ext_getElem?
  intro j
  rw [aW_get, aW_get]
  cases hj : σ[j]? with
  | none => rfl
  | some c =>
    have hl : j < σ.length := (List.getElem?_eq_some_iff.mp hj).1
    simp only [Option.map_some]
    rw [h j hl, aE_eq h (aScH_at hσ hj)]
theorem aW_push {cI cM : ClassId} {ad : Nat → Nat} {σ : aH} {q : Nat} {c : aT} (hσ : aScH σ) : aW cI cM (fun i => if i = σ.length then q else ad i) (σ ++ [c]) = aW cI cM ad σ ++ [(q, aE cI cM (fun i => if i = σ.length then q else ad i) c)] := by
  have h1 : aW cI cM (fun i => if i = σ.length then q else ad i) σ = aW cI cM ad σ := aW_eq (fun i hi => by simp [Nat.ne_of_lt hi]) hσ
  rw [← h1]
  apply List.ext_getElem?
  intro j
  rw [aW_get, List.getElem?_append, List.getElem?_append, aW_get, aW_len]
  by_cases h : j < σ.length
  · simp [h]
  · rw [if_neg h, if_neg h]
    by_cases h2 : j = σ.length
    · subst h2
      simp
    · have h3 : j - σ.length ≠ 0 := by omega
      obtain ⟨d, hd⟩ := Nat.exists_eq_succ_of_ne_zero h3
      rw [hd]
      rfl
/-! what stands for the whole run: classes, arrays' classes, nest mates, casts -/
def aNl : List (String × Nat × MethodName × String) := [("ReadAloud", 9, ⟨"ReadAloud$Page", "<init>", "()V"⟩, "ReadAloud"), ("ReadAloud$Page", 17, ⟨"ReadAloud$Walk", "<init>", "()V"⟩, "ReadAloud"), ("ReadAloud", 28, ⟨"ReadAloud$State", "<init>", "()V"⟩, "ReadAloud"), ("ReadAloud$State", 11, ⟨"ReadAloud$Sheet", "<init>", "()V"⟩, "ReadAloud"), ("ReadAloud$State", 20, ⟨"ReadAloud$Heard", "<init>", "()V"⟩, "ReadAloud"), ("ReadAloud", 38, ⟨"ReadAloud$Sheet", "<init>", "()V"⟩, "ReadAloud"), ("ReadAloud", 45, ⟨"ReadAloud$Brief", "<init>", "()V"⟩, "ReadAloud"), ("ReadAloud$Walk", 15, ⟨"ReadAloud", "isWord", "(I)Z"⟩, "ReadAloud")]
def aCy : List (String × String) := [("ReadAloud$Weeper", "ReadAloud$Stammerer"), ("ReadAloud$Stammerer", "ReadAloud$Man"), ("ReadAloud$Actor", "ReadAloud$Man"), ("ReadAloud$Boy", "ReadAloud$Man"), ("ReadAloud$Weeper", "ReadAloud$Man")]
def aCn : List (String × String) := [("ReadAloud$Actor", "ReadAloud$Stammerer"), ("ReadAloud$Boy", "ReadAloud$Stammerer"), ("ReadAloud$Man", "ReadAloud$Stammerer"), ("ReadAloud$Stammerer", "ReadAloud$Actor"), ("ReadAloud$Boy", "ReadAloud$Actor"), ("ReadAloud$Weeper", "ReadAloud$Actor"), ("ReadAloud$Man", "ReadAloud$Actor"), ("ReadAloud$Stammerer", "ReadAloud$Boy"), ("ReadAloud$Actor", "ReadAloud$Boy"), ("ReadAloud$Weeper", "ReadAloud$Boy"), ("ReadAloud$Man", "ReadAloud$Boy"), ("ReadAloud$Stammerer", "ReadAloud$Weeper"), ("ReadAloud$Actor", "ReadAloud$Weeper"), ("ReadAloud$Boy", "ReadAloud$Weeper"), ("ReadAloud$Man", "ReadAloud$Weeper")]
def aNs (U : State) : Prop := (∀ q ∈ aNl, va_Nw (.methodLinkNest q.1 q.2.1 q.2.2.1 q.2.2.2) U) ∧ va_AO "ReadAloud$Man" U ∧ (∀ q ∈ aCy, va_Nw (.castable q.1 q.2) U) ∧ ∀ q ∈ aCn, va_Nc q.1 q.2 U
def aK (D : va_G) (cI cM : ClassId) (U : State) : Prop := va_K D vwCl [(cI, .int), (cM, .object "ReadAloud$Man")] U ∧ aNs U
theorem aK.warm {D : va_G} {cI cM : ClassId} {s U : State} (hW : s.WarmedH U.vm) (h : aK D cI cM s) : aK D cI cM U :=
  ⟨va_K.moved hW.alike h.1, fun q hq => va_Nw.warmM hW (h.2.1 q hq), va_AO.moved hW.alike h.2.2.1, fun q hq => va_Nw.warmC hW (h.2.2.2.1 q hq), fun q hq => va_Nc.moved hW.alike (h.2.2.2.2 q hq)⟩
theorem aK.same {D : va_G} {cI cM : ClassId} {u U : State} (hv : u.vm = U.vm) (h : aK D cI cM u) : aK D cI cM U :=
  ⟨va_K.moved (by rw [← hv]; exact Vm.Alike.refl u.vm) h.1, fun q hq => va_Nw.same rfl hv (h.2.1 q hq), va_AO.moved (by rw [← hv]; exact Vm.Alike.refl u.vm) h.2.2.1, fun q hq => va_Nw.same rfl hv (h.2.2.2.1 q hq), fun q hq => va_Nc.moved (by rw [← hv]; exact Vm.Alike.refl u.vm) (h.2.2.2.2 q hq)⟩
/-! a state: heap, locals, stack -/
def aSt (D : va_G) (cI cM : ClassId) (A : Nat → Prop) (H0 : Heap) (ad0 : Nat → Nat) (n0 : Nat) (H : Heap) (locs : List Loc) (ad : Nat → Nat) (σ : aH) : Prop :=
  va_P D vwCl (aW cI cM ad σ) H ∧ va_D A (aW cI cM ad σ) ∧ va_S A H0 H locs ∧ aScH σ ∧ (∀ i, i < n0 → ad i = ad0 i) ∧ n0 ≤ σ.length
def aL2 (ad : Nat → Nat) (L : List (Option Value)) : List (Nat × Value) := L.zipIdx.filterMap (fun q => q.1.map (fun v => (q.2, aRe ad v)))
theorem aL2_mem {ad : Nat → Nat} {L : List (Option Value)} {j : Nat} {w : Value} : (j, w) ∈ aL2 ad L ↔ ∃ v, L[j]? = some (some v) ∧ w = aRe ad v := by
  unfold aL2
  rw [List.mem_filterMap]
  constructor
  · rintro ⟨⟨o, k⟩, h1, h2⟩
    cases o with
    | none => cases h2
    | some v =>
      simp only [Option.map_some, Option.some.injEq, Prod.mk.injEq] at h2
      rw [List.mk_mem_zipIdx_iff_getElem?] at h1
      exact ⟨v, by rw [← h2.1]; exact h1, h2.2.symm⟩
  · rintro ⟨v, h1, h2⟩
    exact ⟨(some v, j), by rw [List.mk_mem_zipIdx_iff_getElem?]; exact h1, by rw [h2]; rfl⟩
def aLo (ad : Nat → Nat) (ls : Array Slot) (nL : Nat) (L : List (Option Value)) (n : Nat) : Prop := lv_has ls nL (aL2 ad L) ∧ L.length = nL ∧ ∀ v, some v ∈ L → aSc n v
theorem lv_less {ls : Array Slot} {nL : Nat} {l l' : List (Nat × Value)} (h : lv_has ls nL l) (hs : ∀ q ∈ l', q ∈ l) : lv_has ls nL l' := ⟨h.1, h.2.1, fun q hq => h.2.2 q (hs q hq)⟩
theorem aLo_at {ad : Nat → Nat} {ls : Array Slot} {nL : Nat} {L : List (Option Value)} {n : Nat} (h : aLo ad ls nL L n) {i : Nat} {v : Value} (hi : L[i]? = some (some v)) : ls[i]? = some (.val (aRe ad v)) ∧ aSc n v :=
  ⟨h.1.2.2 (i, aRe ad v) (aL2_mem.mpr ⟨v, hi, rfl⟩), h.2.2 v (List.mem_of_getElem? hi)⟩
theorem aLo_ad {ad ad' : Nat → Nat} {ls : Array Slot} {nL : Nat} {L : List (Option Value)} {n n' : Nat} (h : aLo ad ls nL L n) (hn : n ≤ n') (he : ∀ i, i < n → ad' i = ad i) : aLo ad' ls nL L n' := by
  refine ⟨lv_less h.1 ?_, h.2.1, fun v hv => aSc_mono hn (h.2.2 v hv)⟩
  rintro ⟨j, w⟩ hq
  obtain ⟨v, h1, h2⟩ := aL2_mem.mp hq
  exact aL2_mem.mpr ⟨v, h1, by rw [h2, aRe_eq he (h.2.2 v (List.mem_of_getElem? h1))]⟩
def aWide (L : List (Option Value)) : Nat → Bool
  | 0 => false
  | i + 1 => match L[i]? with
    | some (some (.long _)) => true
    | some (some (.double _)) => true
    | _ => false
def aSto1 (L : List (Option Value)) (i : Nat) (v : Value) : Option (List (Option Value)) := match Nat.blt i L.length && !(aWide L i) with
  | true => some (L.set i (some v))
  | false => none
def aSto2 (L : List (Option Value)) (i : Nat) (v : Value) : Option (List (Option Value)) := match Nat.blt (i + 1) L.length && !(aWide L i) with
  | true => some ((L.set i (some v)).set (i + 1) none)
  | false => none
theorem aWide_no {L : List (Option Value)} {i j : Nat} {w : Value} (h : aWide L i = false) (hj : j + 1 = i) (hw : L[j]? = some (some w)) : ¬ w.category = 2 := by
  subst hj
  simp only [aWide, hw] at h
  intro hc
  cases w <;> simp_all [Value.category]
theorem aRe_cat (ad : Nat → Nat) (v : Value) : (aRe ad v).category = v.category := by cases v <;> rfl
theorem aSto1_spec {L L' : List (Option Value)} {i : Nat} {v : Value} (h : aSto1 L i v = some L') : i < L.length ∧ aWide L i = false ∧ L' = L.set i (some v) := by
  unfold aSto1 at h
  split at h
  · rename_i hb
    simp only [Bool.and_eq_true, Bool.not_eq_true', Nat.blt_eq] at hb
    exact ⟨hb.1, hb.2, (Option.some.inj h).symm⟩
  · cases h
theorem aSto2_spec {L L' : List (Option Value)} {i : Nat} {v : Value} (h : aSto2 L i v = some L') : i + 1 < L.length ∧ aWide L i = false ∧ L' = (L.set i (some v)).set (i + 1) none := by
  unfold aSto2 at h
  split at h
  · rename_i hb
    simp only [Bool.and_eq_true, Bool.not_eq_true', Nat.blt_eq] at hb
    exact ⟨hb.1, hb.2, (Option.some.inj h).symm⟩
  · cases h
theorem aLo_sto1 {ad : Nat → Nat} {ls' : Array Slot} {nL n i : Nat} {L L' : List (Option Value)} {v : Value} (h : aSto1 L i v = some L') (hl : L.length = nL) (hsc : ∀ v, some v ∈ L → aSc n v) (hv : aSc n v)
    (h' : lv_has ls' nL ((i, aRe ad v) :: (aL2 ad L).filter (fun q => !(q.1 == i) && !(q.1 + 1 == i && q.2.category == 2)))) : aLo ad ls' nL L' n := by
  obtain ⟨h1, h2, rfl⟩ := aSto1_spec h
  refine ⟨lv_less h' ?_, by rw [List.length_set]; exact hl, fun w hw => ?_⟩
  · rintro ⟨j, w⟩ hq
    obtain ⟨u, g1, g2⟩ := aL2_mem.mp hq
    rw [List.getElem?_set] at g1
    by_cases e : i = j
    · subst e
      rw [if_pos rfl, if_pos h1] at g1
      cases g1
      rw [g2]
      exact List.mem_cons_self
    · rw [if_neg e] at g1
      refine List.mem_cons_of_mem _ (List.mem_filter.mpr ⟨aL2_mem.mpr ⟨u, g1, g2⟩, ?_⟩)
      have e1 : ¬ j = i := fun z => e z.symm
      by_cases e2 : j + 1 = i
      · have e3 := aWide_no h2 e2 g1
        rw [g2]
        simp [e1, aRe_cat, e3]
      · simp [e1, e2]
  · rcases List.mem_or_eq_of_mem_set hw with g | g
    · exact hsc w g
    · cases g; exact hv
theorem aLo_sto2 {ad : Nat → Nat} {ls' : Array Slot} {nL n i : Nat} {L L' : List (Option Value)} {v : Value} (h : aSto2 L i v = some L') (hl : L.length = nL) (hsc : ∀ v, some v ∈ L → aSc n v) (hv : aSc n v)
    (h' : lv_has ls' nL ((i, aRe ad v) :: (aL2 ad L).filter (fun q => !(q.1 == i) && (!(q.1 == i + 1) && !(q.1 + 1 == i && q.2.category == 2))))) : aLo ad ls' nL L' n := by
  obtain ⟨h1, h2, rfl⟩ := aSto2_spec h
  refine ⟨lv_less h' ?_, by rw [List.length_set, List.length_set]; exact hl, fun w hw => ?_⟩
  · rintro ⟨j, w⟩ hq
    obtain ⟨u, g1, g2⟩ := aL2_mem.mp hq
    rw [List.getElem?_set, List.length_set] at g1
    by_cases e0 : i + 1 = j
    · subst e0
      rw [if_pos rfl, if_pos h1] at g1
      cases g1
    · rw [if_neg e0, List.getElem?_set] at g1
      by_cases e : i = j
      · subst e
        rw [if_pos rfl, if_pos (by omega)] at g1
        cases g1
        rw [g2]
        exact List.mem_cons_self
      · rw [if_neg e] at g1
        refine List.mem_cons_of_mem _ (List.mem_filter.mpr ⟨aL2_mem.mpr ⟨u, g1, g2⟩, ?_⟩)
        have e1 : ¬ j = i := fun z => e z.symm
        have e4 : ¬ j = i + 1 := fun z => e0 z.symm
        by_cases e2 : j + 1 = i
        · have e3 := aWide_no h2 e2 g1
          rw [g2]
          simp [e1, e4, aRe_cat, e3]
        · simp [e1, e2, e4]
  · rcases List.mem_or_eq_of_mem_set hw with g | g
    · rcases List.mem_or_eq_of_mem_set g with g | g
      · exact hsc w g
      · cases g; exact hv
    · cases g
/-! the standing of a method; its end -/
def aRet (cc : ByteArray) (rt : Option FieldType) (pc : Nat) (v : Option Value) : Prop :=
  (v = none ∧ rt = none ∧ decode cc pc = .ok (.return_, 1)) ∨ (∃ x ty, v = some (.int x) ∧ rt = some ty ∧ narrow ty (.int x) = .int x ∧ decode cc pc = .ok (.ireturn, 1)) ∨ (∃ x, v = some (.long x) ∧ rt = some .long ∧ decode cc pc = .ok (.lreturn, 1)) ∨ ((v = some .null ∨ ∃ i, v = some (.ref i)) ∧ (∃ z, rt = some (.object z)) ∧ decode cc pc = .ok (.areturn, 1))
def aR (R : Room) (lv mc ms : Nat) : Prop := lv ≤ R.frames ∧ 40 * lv + 20 ≤ R.locals ∧ mc ≤ R.cells ∧ ms ≤ R.slots
def aCx (D : va_G) (cI cM : ClassId) (p : Program) (l : Launch) (e : Env) (R : Room) (s : State) (m : MethodId) (args : Array Value) (below : List Frame) (meth : Method) (c : Code) (A : Nat → Prop) (Q : State → Prop) (ad0 : Nat → Nat) (n0 : Nat) (Y : MethodName) (cc : ByteArray) (nL : Nat) (rt : Option FieldType) (lv mc ms : Nat) (post : Option Value → aH → Prop) : Prop :=
  p.tables.exec = Jvm.exec ∧ c.code = cc ∧ c.maxLocals = nL ∧ s.vm.findClass Y.cls = some m.cls ∧ (∀ w ∈ aWd, w.before args s = true) ∧ meth.name = Y.name ∧ aK D cI cM s ∧ (∀ q, s.heap.size ≤ q → A q) ∧ aR R lv mc ms ∧
  ∀ {H : Heap} {locs : List Loc} {ls : Array Slot} {ad : Nat → Nat} {σ : aH} {k n pc : Nat} {v : Option Value}, post v σ → k ≤ mc → n ≤ ms → aSt D cI cM A s.heap ad0 n0 H locs ad σ → (∀ w, v = some w → aSc σ.length w) → aRet cc rt pc v → W p l e R s m args below meth c H locs k n Q (F0 m pc ls (v.toList.map (aRe ad)))
/-- the judgement: from this frame and heap the method ends with 'post' -/
def G (Y : MethodName) (cc : ByteArray) (nL : Nat) (rt : Option FieldType) (lv mc ms : Nat) (post : Option Value → aH → Prop) (k n pc : Nat) (L : List (Option Value)) (S : List Value) (σ : aH) : Prop :=
  ∀ (D : va_G) (cI cM : ClassId) (p : Program) (l : Launch) (e : Env) (R : Room) (s : State) (m : MethodId) (args : Array Value) (below : List Frame) (meth : Method) (c : Code) (A : Nat → Prop) (Q : State → Prop) (ad0 : Nat → Nat) (n0 : Nat) (H : Heap) (locs : List Loc) (ls : Array Slot) (ad : Nat → Nat),
    aCx D cI cM p l e R s m args below meth c A Q ad0 n0 Y cc nL rt lv mc ms post → aSt D cI cM A s.heap ad0 n0 H locs ad σ → aLo ad ls nL L σ.length → (∀ v ∈ S, aSc σ.length v) → W p l e R s m args below meth c H locs k n Q (F0 m pc ls (S.map (aRe ad)))
theorem G.use {Y : MethodName} {cc : ByteArray} {nL : Nat} {rt : Option FieldType} {lv mc ms : Nat} {post : Option Value → aH → Prop} {k n pc : Nat} {L : List (Option Value)} {S : List Value} {σ : aH} (h : G Y cc nL rt lv mc ms post k n pc L S σ) {D : va_G} {cI cM : ClassId} {p : Program} {l : Launch} {e : Env} {R : Room} {s : State} {m : MethodId} {args : Array Value} {below : List Frame} {meth : Method} {c : Code} {A : Nat → Prop} {Q : State → Prop} {ad0 : Nat → Nat} {n0 : Nat} {H : Heap} {locs : List Loc} {ls : Array Slot} {ad : Nat → Nat} (C : aCx D cI cM p l e R s m args below meth c A Q ad0 n0 Y cc nL rt lv mc ms post) (X : aSt D cI cM A s.heap ad0 n0 H locs ad σ) (hl : aLo ad ls nL L σ.length) (hS : ∀ v ∈ S, aSc σ.length v) : W p l e R s m args below meth c H locs k n Q (F0 m pc ls (S.map (aRe ad))) := h D cI cM p l e R s m args below meth c A Q ad0 n0 H locs ls ad C X hl hS
section AR
variable {Y : MethodName} {cc : ByteArray} {nL : Nat} {rt : Option FieldType} {lv mc ms : Nat} {post : Option Value → aH → Prop} {k n pc pc' tgt : Nat} {L L' : List (Option Value)} {S : List Value} {σ : aH}
theorem aS1 {N : Nat} {a : Value} (h : ∀ v ∈ a :: S, aSc N v) : ∀ v ∈ S, aSc N v := fun v hv => h v (List.mem_cons_of_mem _ hv)
theorem aS2 {N : Nat} {a b : Value} (h : ∀ v ∈ a :: b :: S, aSc N v) : ∀ v ∈ S, aSc N v := fun v hv => h v (List.mem_cons_of_mem _ (List.mem_cons_of_mem _ hv))
theorem aS3 {N : Nat} {a b c : Value} (h : ∀ v ∈ a :: b :: c :: S, aSc N v) : ∀ v ∈ S, aSc N v := fun v hv => h v (List.mem_cons_of_mem _ (List.mem_cons_of_mem _ (List.mem_cons_of_mem _ hv)))
theorem aSC {N : Nat} {a : Value} (ha : aSc N a) (h : ∀ v ∈ S, aSc N v) : ∀ v ∈ a :: S, aSc N v := List.forall_mem_cons.mpr ⟨ha, h⟩
theorem aSI {N : Nat} {x : Int32} (h : ∀ v ∈ S, aSc N v) : ∀ v ∈ Value.int x :: S, aSc N v := aSC aSc_int h
theorem aSJ {N : Nat} {x : Int64} (h : ∀ v ∈ S, aSc N v) : ∀ v ∈ Value.long x :: S, aSc N v := aSC aSc_long h
/-! decoded instructions, by what they do -/
def aPI (cc : ByteArray) (pc : Nat) (v : Int32) (pc' : Nat) : Prop := (∃ n : Int, decode cc pc = .ok (.iconst n, 1) ∧ Int32.ofInt n = v ∧ pc + 1 = pc') ∨ (∃ n : Int, decode cc pc = .ok (.bipush n, 2) ∧ (Int8.ofInt n).toInt32 = v ∧ pc + 2 = pc') ∨ (∃ n : Int, decode cc pc = .ok (.sipush n, 3) ∧ (Int16.ofInt n).toInt32 = v ∧ pc + 3 = pc')
def aIL (cc : ByteArray) (pc i pc' : Nat) : Prop := (∃ k : Fin 4, decode cc pc = .ok (.iload_n k, 1) ∧ (k : Nat) = i ∧ pc + 1 = pc') ∨ (decode cc pc = .ok (.iload i, 2) ∧ pc + 2 = pc')
def aAL (cc : ByteArray) (pc i pc' : Nat) : Prop := (∃ k : Fin 4, decode cc pc = .ok (.aload_n k, 1) ∧ (k : Nat) = i ∧ pc + 1 = pc') ∨ (decode cc pc = .ok (.aload i, 2) ∧ pc + 2 = pc')
def aLL (cc : ByteArray) (pc i pc' : Nat) : Prop := (∃ k : Fin 4, decode cc pc = .ok (.lload_n k, 1) ∧ (k : Nat) = i ∧ pc + 1 = pc') ∨ (decode cc pc = .ok (.lload i, 2) ∧ pc + 2 = pc')
def aIS (cc : ByteArray) (pc i pc' : Nat) : Prop := (∃ k : Fin 4, decode cc pc = .ok (.istore_n k, 1) ∧ (k : Nat) = i ∧ pc + 1 = pc') ∨ (decode cc pc = .ok (.istore i, 2) ∧ pc + 2 = pc')
def aAS (cc : ByteArray) (pc i pc' : Nat) : Prop := (∃ k : Fin 4, decode cc pc = .ok (.astore_n k, 1) ∧ (k : Nat) = i ∧ pc + 1 = pc') ∨ (decode cc pc = .ok (.astore i, 2) ∧ pc + 2 = pc')
def aLS (cc : ByteArray) (pc i pc' : Nat) : Prop := (∃ k : Fin 4, decode cc pc = .ok (.lstore_n k, 1) ∧ (k : Nat) = i ∧ pc + 1 = pc') ∨ (decode cc pc = .ok (.lstore i, 2) ∧ pc + 2 = pc')
def aII (cc : ByteArray) (pc i : Nat) (v : Int32) (pc' : Nat) : Prop := ∃ n : Int, decode cc pc = .ok (.iinc i n, 3) ∧ Int32.ofInt n = v ∧ pc + 3 = pc'
def aI1 (cc : ByteArray) (pc : Nat) (i : Instr) (pc' : Nat) : Prop := decode cc pc = .ok (i, 1) ∧ pc + 1 = pc'
def aI2 (cc : ByteArray) (pc : Nat) (i : Instr) (pc' : Nat) : Prop := decode cc pc = .ok (i, 2) ∧ pc + 2 = pc'
def aI3 (cc : ByteArray) (pc : Nat) (i : Instr) (pc' : Nat) : Prop := decode cc pc = .ok (i, 3) ∧ pc + 3 = pc'
def aLd (cc : ByteArray) (pc i pc' : Nat) : Prop := (decode cc pc = .ok (.ldc i, 2) ∧ pc + 2 = pc') ∨ (decode cc pc = .ok (.ldc_w i, 3) ∧ pc + 3 = pc')
def aGo (cc : ByteArray) (pc tgt : Nat) : Prop := ∃ off : Int, decode cc pc = .ok (.goto off, 3) ∧ (pc : Int) + off = (tgt : Int)
theorem g_push {v : Int32} (hd : aPI cc pc v pc') (kk : G Y cc nL rt lv mc ms post k n pc' L (.int v :: S) σ) : G Y cc nL rt lv mc ms post k n pc L S σ := by
  intro D cI cM p l e R s m args below meth c A Q ad0 n0 H locs ls ad C X hl hS
  rcases hd with ⟨z, h1, h2, rfl⟩ | ⟨z, h1, h2, rfl⟩ | ⟨z, h1, h2, rfl⟩
  · exact lv_iconst C.1 C.2.1 h1 h2 (kk.use C X hl (aSI hS))
  · exact lv_bipush C.1 C.2.1 h1 h2 (kk.use C X hl (aSI hS))
  · exact lv_sipush C.1 C.2.1 h1 h2 (kk.use C X hl (aSI hS))
theorem g_lconst {z : Fin 2} {v : Int64} (hd : aI1 cc pc (.lconst z) pc') (hv : Int64.ofNat (z : Nat) = v) (kk : G Y cc nL rt lv mc ms post k n pc' L (.long v :: S) σ) : G Y cc nL rt lv mc ms post k n pc L S σ := by
  intro D cI cM p l e R s m args below meth c A Q ad0 n0 H locs ls ad C X hl hS
  obtain ⟨hd, rfl⟩ := hd
  exact lv_lconst C.1 C.2.1 hd hv (kk.use C X hl (aSJ hS))
theorem g_ldc {i : Nat} {v : Int32} (hd : aLd cc pc i pc') (hw : Cond.constant Y.cls i v ∈ aWd) (kk : G Y cc nL rt lv mc ms post k n pc' L (.int v :: S) σ) : G Y cc nL rt lv mc ms post k n pc L S σ := by
  intro D cI cM p l e R s m args below meth c A Q ad0 n0 H locs ls ad C X hl hS
  have ho := C.2.2.2.1
  have hw := C.2.2.2.2.1 _ hw
  rcases hd with ⟨h1, rfl⟩ | ⟨h1, rfl⟩
  · exact lv_ldc C.1 C.2.1 ho hw h1 (kk.use C X hl (aSI hS))
  · exact lv_ldcw C.1 C.2.1 ho hw h1 (kk.use C X hl (aSI hS))
theorem g_ldc2 {i : Nat} {v : Int64} (hd : aI3 cc pc (.ldc2_w i) pc') (hw : Cond.constantLong Y.cls i v ∈ aWd) (kk : G Y cc nL rt lv mc ms post k n pc' L (.long v :: S) σ) : G Y cc nL rt lv mc ms post k n pc L S σ := by
  intro D cI cM p l e R s m args below meth c A Q ad0 n0 H locs ls ad C X hl hS
  obtain ⟨hd, rfl⟩ := hd
  exact lv_ldc2 C.1 C.2.1 C.2.2.2.1 (C.2.2.2.2.1 _ hw) hd (kk.use C X hl (aSJ hS))
theorem g_iload {i : Nat} {x : Int32} (hd : aIL cc pc i pc') (hi : L[i]? = some (some (.int x))) (kk : G Y cc nL rt lv mc ms post k n pc' L (.int x :: S) σ) : G Y cc nL rt lv mc ms post k n pc L S σ := by
  intro D cI cM p l e R s m args below meth c A Q ad0 n0 H locs ls ad C X hl hS
  have hs := (aLo_at hl hi).1
  rcases hd with ⟨z, h1, h2, rfl⟩ | ⟨h1, rfl⟩
  · exact lv_iload_n C.1 C.2.1 h1 h2 hs (kk.use C X hl (aSI hS))
  · exact lv_iload C.1 C.2.1 h1 hs (kk.use C X hl (aSI hS))
theorem g_lload {i : Nat} {x : Int64} (hd : aLL cc pc i pc') (hi : L[i]? = some (some (.long x))) (kk : G Y cc nL rt lv mc ms post k n pc' L (.long x :: S) σ) : G Y cc nL rt lv mc ms post k n pc L S σ := by
  intro D cI cM p l e R s m args below meth c A Q ad0 n0 H locs ls ad C X hl hS
  have hs := (aLo_at hl hi).1
  rcases hd with ⟨z, h1, h2, rfl⟩ | ⟨h1, rfl⟩
  · exact lv_lload_n C.1 C.2.1 h1 h2 hs (kk.use C X hl (aSJ hS))
  · exact lv_lload C.1 C.2.1 h1 hs (kk.use C X hl (aSJ hS))
theorem g_aload {i a : Nat} (hd : aAL cc pc i pc') (hi : L[i]? = some (some (.ref a))) (kk : G Y cc nL rt lv mc ms post k n pc' L (.ref a :: S) σ) : G Y cc nL rt lv mc ms post k n pc L S σ := by
  intro D cI cM p l e R s m args below meth c A Q ad0 n0 H locs ls ad C X hl hS
  obtain ⟨hs, hv⟩ := aLo_at hl hi
  rcases hd with ⟨z, h1, h2, rfl⟩ | ⟨h1, rfl⟩
  · exact lv_aload_n C.1 C.2.1 h1 h2 hs (kk.use C X hl (aSC hv hS))
  · exact lv_aload C.1 C.2.1 h1 hs (kk.use C X hl (aSC hv hS))
theorem g_aloadN {i : Nat} (hd : aAL cc pc i pc') (hi : L[i]? = some (some .null)) (kk : G Y cc nL rt lv mc ms post k n pc' L (.null :: S) σ) : G Y cc nL rt lv mc ms post k n pc L S σ := by
  intro D cI cM p l e R s m args below meth c A Q ad0 n0 H locs ls ad C X hl hS
  obtain ⟨hs, hv⟩ := aLo_at hl hi
  rcases hd with ⟨z, h1, h2, rfl⟩ | ⟨h1, rfl⟩
  · exact lv_aload_nN C.1 C.2.1 h1 h2 hs (kk.use C X hl (aSC hv hS))
  · exact lv_aloadN C.1 C.2.1 h1 hs (kk.use C X hl (aSC hv hS))
theorem g_istore {i : Nat} {x : Int32} (hd : aIS cc pc i pc') (hi : aSto1 L i (.int x) = some L') (kk : G Y cc nL rt lv mc ms post k n pc' L' S σ) : G Y cc nL rt lv mc ms post k n pc L (.int x :: S) σ := by
  intro D cI cM p l e R s m args below meth c A Q ad0 n0 H locs ls ad C X hl hS
  have hlt := (aSto1_spec hi).1
  have hll := hl.2.1
  have hv : aSc σ.length (.int x) := aSc_int
  rcases hd with ⟨z, h1, h2, rfl⟩ | ⟨h1, rfl⟩
  · exact lv_istore_n C.1 C.2.1 h1 h2 hl.1 (by omega) rfl (fun ls' h' => kk.use C X (aLo_sto1 hi hll hl.2.2 hv h') (aS1 hS))
  · exact lv_istore C.1 C.2.1 h1 hl.1 (by omega) rfl (fun ls' h' => kk.use C X (aLo_sto1 hi hll hl.2.2 hv h') (aS1 hS))
theorem g_lstore {i : Nat} {x : Int64} (hd : aLS cc pc i pc') (hi : aSto2 L i (.long x) = some L') (kk : G Y cc nL rt lv mc ms post k n pc' L' S σ) : G Y cc nL rt lv mc ms post k n pc L (.long x :: S) σ := by
  intro D cI cM p l e R s m args below meth c A Q ad0 n0 H locs ls ad C X hl hS
  have hlt := (aSto2_spec hi).1
  have hll := hl.2.1
  have hv : aSc σ.length (.long x) := aSc_long
  rcases hd with ⟨z, h1, h2, rfl⟩ | ⟨h1, rfl⟩
  · exact lv_lstore_n C.1 C.2.1 h1 h2 hl.1 (by omega) rfl (fun ls' h' => kk.use C X (aLo_sto2 hi hll hl.2.2 hv h') (aS1 hS))
  · exact lv_lstore C.1 C.2.1 h1 hl.1 (by omega) rfl (fun ls' h' => kk.use C X (aLo_sto2 hi hll hl.2.2 hv h') (aS1 hS))
theorem g_astore {i : Nat} {a : Nat} (hd : aAS cc pc i pc') (hi : aSto1 L i (.ref a) = some L') (kk : G Y cc nL rt lv mc ms post k n pc' L' S σ) : G Y cc nL rt lv mc ms post k n pc L (.ref a :: S) σ := by
  intro D cI cM p l e R s m args below meth c A Q ad0 n0 H locs ls ad C X hl hS
  have hlt := (aSto1_spec hi).1
  have hll := hl.2.1
  have hv : aSc σ.length (.ref a) := hS _ List.mem_cons_self
  rcases hd with ⟨z, h1, h2, rfl⟩ | ⟨h1, rfl⟩
  · exact lv_astore_n C.1 C.2.1 h1 h2 hl.1 (by omega) rfl (fun ls' h' => kk.use C X (aLo_sto1 hi hll hl.2.2 hv h') (aS1 hS))
  · exact lv_astore C.1 C.2.1 h1 hl.1 (by omega) rfl (fun ls' h' => kk.use C X (aLo_sto1 hi hll hl.2.2 hv h') (aS1 hS))
theorem g_astoreN {i : Nat} (hd : aAS cc pc i pc') (hi : aSto1 L i (.null) = some L') (kk : G Y cc nL rt lv mc ms post k n pc' L' S σ) : G Y cc nL rt lv mc ms post k n pc L (.null :: S) σ := by
  intro D cI cM p l e R s m args below meth c A Q ad0 n0 H locs ls ad C X hl hS
  have hlt := (aSto1_spec hi).1
  have hll := hl.2.1
  have hv : aSc σ.length (.null) := aSc_null
  rcases hd with ⟨z, h1, h2, rfl⟩ | ⟨h1, rfl⟩
  · exact lv_astore_nN C.1 C.2.1 h1 h2 hl.1 (by omega) rfl (fun ls' h' => kk.use C X (aLo_sto1 hi hll hl.2.2 hv h') (aS1 hS))
  · exact lv_astoreN C.1 C.2.1 h1 hl.1 (by omega) rfl (fun ls' h' => kk.use C X (aLo_sto1 hi hll hl.2.2 hv h') (aS1 hS))
theorem g_iinc {i : Nat} {x v : Int32} (hd : aII cc pc i v pc') (hx : L[i]? = some (some (.int x))) (hi : aSto1 L i (.int (x + v)) = some L') (kk : G Y cc nL rt lv mc ms post k n pc' L' S σ) : G Y cc nL rt lv mc ms post k n pc L S σ := by
  intro D cI cM p l e R s m args below meth c A Q ad0 n0 H locs ls ad C X hl hS
  obtain ⟨z, h1, rfl, rfl⟩ := hd
  have hlt := (aSto1_spec hi).1
  have hll := hl.2.1
  obtain ⟨q, hq⟩ := List.getElem?_of_mem (aL2_mem (ad := ad).mpr ⟨.int x, hx, rfl⟩)
  exact lv_iinc C.1 C.2.1 h1 hl.1 hq rfl (by omega) rfl (fun ls' h' => kk.use C X (aLo_sto1 hi hll hl.2.2 aSc_int h') hS)
theorem g_iadd {x y : Int32} (hd : aI1 cc pc .iadd pc') (kk : G Y cc nL rt lv mc ms post k n pc' L (.int (x + y) :: S) σ) : G Y cc nL rt lv mc ms post k n pc L (.int y :: .int x :: S) σ := by
  intro D cI cM p l e R s m args below meth c A Q ad0 n0 H locs ls ad C X hl hS
  obtain ⟨hd, rfl⟩ := hd
  exact lv_iadd C.1 C.2.1 hd (kk.use C X hl (aSI (aS2 hS)))
theorem g_isub {x y : Int32} (hd : aI1 cc pc .isub pc') (kk : G Y cc nL rt lv mc ms post k n pc' L (.int (x - y) :: S) σ) : G Y cc nL rt lv mc ms post k n pc L (.int y :: .int x :: S) σ := by
  intro D cI cM p l e R s m args below meth c A Q ad0 n0 H locs ls ad C X hl hS
  obtain ⟨hd, rfl⟩ := hd
  exact lv_isub C.1 C.2.1 hd (kk.use C X hl (aSI (aS2 hS)))
theorem g_imul {x y : Int32} (hd : aI1 cc pc .imul pc') (kk : G Y cc nL rt lv mc ms post k n pc' L (.int (x * y) :: S) σ) : G Y cc nL rt lv mc ms post k n pc L (.int y :: .int x :: S) σ := by
  intro D cI cM p l e R s m args below meth c A Q ad0 n0 H locs ls ad C X hl hS
  obtain ⟨hd, rfl⟩ := hd
  exact lv_imul C.1 C.2.1 hd (kk.use C X hl (aSI (aS2 hS)))
theorem g_iand {x y : Int32} (hd : aI1 cc pc .iand pc') (kk : G Y cc nL rt lv mc ms post k n pc' L (.int (x &&& y) :: S) σ) : G Y cc nL rt lv mc ms post k n pc L (.int y :: .int x :: S) σ := by
  intro D cI cM p l e R s m args below meth c A Q ad0 n0 H locs ls ad C X hl hS
  obtain ⟨hd, rfl⟩ := hd
  exact lv_iand C.1 C.2.1 hd (kk.use C X hl (aSI (aS2 hS)))
theorem g_ior {x y : Int32} (hd : aI1 cc pc .ior pc') (kk : G Y cc nL rt lv mc ms post k n pc' L (.int (x ||| y) :: S) σ) : G Y cc nL rt lv mc ms post k n pc L (.int y :: .int x :: S) σ := by
  intro D cI cM p l e R s m args below meth c A Q ad0 n0 H locs ls ad C X hl hS
  obtain ⟨hd, rfl⟩ := hd
  exact lv_ior C.1 C.2.1 hd (kk.use C X hl (aSI (aS2 hS)))
theorem g_ixor {x y : Int32} (hd : aI1 cc pc .ixor pc') (kk : G Y cc nL rt lv mc ms post k n pc' L (.int (x ^^^ y) :: S) σ) : G Y cc nL rt lv mc ms post k n pc L (.int y :: .int x :: S) σ := by
  intro D cI cM p l e R s m args below meth c A Q ad0 n0 H locs ls ad C X hl hS
  obtain ⟨hd, rfl⟩ := hd
  exact lv_ixor C.1 C.2.1 hd (kk.use C X hl (aSI (aS2 hS)))
theorem g_ishl {x y : Int32} (hd : aI1 cc pc .ishl pc') (kk : G Y cc nL rt lv mc ms post k n pc' L (.int (x <<< (y &&& 31)) :: S) σ) : G Y cc nL rt lv mc ms post k n pc L (.int y :: .int x :: S) σ := by
  intro D cI cM p l e R s m args below meth c A Q ad0 n0 H locs ls ad C X hl hS
  obtain ⟨hd, rfl⟩ := hd
  exact lv_ishl C.1 C.2.1 hd (kk.use C X hl (aSI (aS2 hS)))
theorem g_ishr {x y : Int32} (hd : aI1 cc pc .ishr pc') (kk : G Y cc nL rt lv mc ms post k n pc' L (.int (x >>> (y &&& 31)) :: S) σ) : G Y cc nL rt lv mc ms post k n pc L (.int y :: .int x :: S) σ := by
  intro D cI cM p l e R s m args below meth c A Q ad0 n0 H locs ls ad C X hl hS
  obtain ⟨hd, rfl⟩ := hd
  exact lv_ishr C.1 C.2.1 hd (kk.use C X hl (aSI (aS2 hS)))
theorem g_idiv {x y : Int32} (hd : aI1 cc pc .idiv pc') (hy : ¬ y = 0) (kk : G Y cc nL rt lv mc ms post k n pc' L (.int (x / y) :: S) σ) : G Y cc nL rt lv mc ms post k n pc L (.int y :: .int x :: S) σ := by
  intro D cI cM p l e R s m args below meth c A Q ad0 n0 H locs ls ad C X hl hS
  obtain ⟨hd, rfl⟩ := hd
  exact lv_idiv C.1 C.2.1 hd hy (kk.use C X hl (aSI (aS2 hS)))
theorem g_irem {x y : Int32} (hd : aI1 cc pc .irem pc') (hy : ¬ y = 0) (kk : G Y cc nL rt lv mc ms post k n pc' L (.int (x - x / y * y) :: S) σ) : G Y cc nL rt lv mc ms post k n pc L (.int y :: .int x :: S) σ := by
  intro D cI cM p l e R s m args below meth c A Q ad0 n0 H locs ls ad C X hl hS
  obtain ⟨hd, rfl⟩ := hd
  exact lv_irem C.1 C.2.1 hd hy (kk.use C X hl (aSI (aS2 hS)))
theorem g_iushr {x y : Int32} (hd : aI1 cc pc .iushr pc') (kk : G Y cc nL rt lv mc ms post k n pc' L (.int ((x.toUInt32 >>> (y.toUInt32 &&& Int32.toUInt32 31)).toInt32) :: S) σ) : G Y cc nL rt lv mc ms post k n pc L (.int y :: .int x :: S) σ := by
  intro D cI cM p l e R s m args below meth c A Q ad0 n0 H locs ls ad C X hl hS
  obtain ⟨hd, rfl⟩ := hd
  exact lv_iushr C.1 C.2.1 hd rfl (kk.use C X hl (aSI (aS2 hS)))
theorem g_ladd {x y : Int64} (hd : aI1 cc pc .ladd pc') (kk : G Y cc nL rt lv mc ms post k n pc' L (.long (x + y) :: S) σ) : G Y cc nL rt lv mc ms post k n pc L (.long y :: .long x :: S) σ := by
  intro D cI cM p l e R s m args below meth c A Q ad0 n0 H locs ls ad C X hl hS
  obtain ⟨hd, rfl⟩ := hd
  exact lv_ladd C.1 C.2.1 hd (kk.use C X hl (aSJ (aS2 hS)))
theorem g_lmul {x y : Int64} (hd : aI1 cc pc .lmul pc') (kk : G Y cc nL rt lv mc ms post k n pc' L (.long (x * y) :: S) σ) : G Y cc nL rt lv mc ms post k n pc L (.long y :: .long x :: S) σ := by
  intro D cI cM p l e R s m args below meth c A Q ad0 n0 H locs ls ad C X hl hS
  obtain ⟨hd, rfl⟩ := hd
  exact lv_lmul C.1 C.2.1 hd (kk.use C X hl (aSJ (aS2 hS)))
theorem g_land {x y : Int64} (hd : aI1 cc pc .land pc') (kk : G Y cc nL rt lv mc ms post k n pc' L (.long (x &&& y) :: S) σ) : G Y cc nL rt lv mc ms post k n pc L (.long y :: .long x :: S) σ := by
  intro D cI cM p l e R s m args below meth c A Q ad0 n0 H locs ls ad C X hl hS
  obtain ⟨hd, rfl⟩ := hd
  exact lv_land C.1 C.2.1 hd (kk.use C X hl (aSJ (aS2 hS)))
theorem g_lcmp {x y : Int64} (hd : aI1 cc pc .lcmp pc') (kk : G Y cc nL rt lv mc ms post k n pc' L (.int (lg_cmp x y) :: S) σ) : G Y cc nL rt lv mc ms post k n pc L (.long y :: .long x :: S) σ := by
  intro D cI cM p l e R s m args below meth c A Q ad0 n0 H locs ls ad C X hl hS
  obtain ⟨hd, rfl⟩ := hd
  exact W.lcmp C.1 C.2.1 hd (kk.use C X hl (aSI (aS2 hS)))
theorem g_i2l {x : Int32} (hd : aI1 cc pc .i2l pc') (kk : G Y cc nL rt lv mc ms post k n pc' L (.long x.toInt64 :: S) σ) : G Y cc nL rt lv mc ms post k n pc L (.int x :: S) σ := by
  intro D cI cM p l e R s m args below meth c A Q ad0 n0 H locs ls ad C X hl hS
  obtain ⟨hd, rfl⟩ := hd
  exact lv_i2l C.1 C.2.1 hd rfl (kk.use C X hl (aSJ (aS1 hS)))
theorem g_l2i {x : Int64} (hd : aI1 cc pc .l2i pc') (kk : G Y cc nL rt lv mc ms post k n pc' L (.int x.toInt32 :: S) σ) : G Y cc nL rt lv mc ms post k n pc L (.long x :: S) σ := by
  intro D cI cM p l e R s m args below meth c A Q ad0 n0 H locs ls ad C X hl hS
  obtain ⟨hd, rfl⟩ := hd
  exact lv_l2i C.1 C.2.1 hd rfl (kk.use C X hl (aSI (aS1 hS)))
theorem g_dup {v : Value} (hd : aI1 cc pc .dup pc') (hv : v.category = 1) (kk : G Y cc nL rt lv mc ms post k n pc' L (v :: v :: S) σ) : G Y cc nL rt lv mc ms post k n pc L (v :: S) σ := by
  intro D cI cM p l e R s m args below meth c A Q ad0 n0 H locs ls ad C X hl hS
  obtain ⟨hd, rfl⟩ := hd
  exact lv_dup C.1 C.2.1 hd (by rw [aRe_cat]; exact hv) (kk.use C X hl (aSC (hS v List.mem_cons_self) hS))
theorem g_dup2 {v w : Value} (hd : aI1 cc pc .dup2 pc') (hv : v.category = 1) (hw : w.category = 1) (kk : G Y cc nL rt lv mc ms post k n pc' L (v :: w :: v :: w :: S) σ) : G Y cc nL rt lv mc ms post k n pc L (v :: w :: S) σ := by
  intro D cI cM p l e R s m args below meth c A Q ad0 n0 H locs ls ad C X hl hS
  obtain ⟨hd, rfl⟩ := hd
  exact lv_dup2_11 C.1 C.2.1 hd (by rw [aRe_cat]; exact hv) (by rw [aRe_cat]; exact hw) (kk.use C X hl (aSC (hS v List.mem_cons_self) (aSC (hS w (List.mem_cons_of_mem _ List.mem_cons_self)) hS)))
def aIf_eq (cc : ByteArray) (pc pc' tgt : Nat) : Prop := ∃ off : Int, decode cc pc = .ok (.ifCond .eq off, 3) ∧ pc + 3 = pc' ∧ (pc : Int) + off = (tgt : Int)
theorem g_if_eq {x : Int32} (hd : aIf_eq cc pc pc' tgt) (kt : x = 0 → G Y cc nL rt lv mc ms post k n tgt L S σ) (kf : ¬ x = 0 → G Y cc nL rt lv mc ms post k n pc' L S σ) : G Y cc nL rt lv mc ms post k n pc L (.int x :: S) σ := by
  intro D cI cM p l e R s m args below meth c A Q ad0 n0 H locs ls ad C X hl hS
  obtain ⟨off, hd, rfl, ht⟩ := hd
  exact lv_if_eq C.1 C.2.1 hd ht (fun h => (kt h).use C X hl (aS1 hS)) (fun h => (kf h).use C X hl (aS1 hS))
def aIf_ne (cc : ByteArray) (pc pc' tgt : Nat) : Prop := ∃ off : Int, decode cc pc = .ok (.ifCond .ne off, 3) ∧ pc + 3 = pc' ∧ (pc : Int) + off = (tgt : Int)
theorem g_if_ne {x : Int32} (hd : aIf_ne cc pc pc' tgt) (kt : ¬ x = 0 → G Y cc nL rt lv mc ms post k n tgt L S σ) (kf : x = 0 → G Y cc nL rt lv mc ms post k n pc' L S σ) : G Y cc nL rt lv mc ms post k n pc L (.int x :: S) σ := by
  intro D cI cM p l e R s m args below meth c A Q ad0 n0 H locs ls ad C X hl hS
  obtain ⟨off, hd, rfl, ht⟩ := hd
  exact lv_if_ne C.1 C.2.1 hd ht (fun h => (kt h).use C X hl (aS1 hS)) (fun h => (kf h).use C X hl (aS1 hS))
def aIf_lt (cc : ByteArray) (pc pc' tgt : Nat) : Prop := ∃ off : Int, decode cc pc = .ok (.ifCond .lt off, 3) ∧ pc + 3 = pc' ∧ (pc : Int) + off = (tgt : Int)
theorem g_if_lt {x : Int32} (hd : aIf_lt cc pc pc' tgt) (kt : x < 0 → G Y cc nL rt lv mc ms post k n tgt L S σ) (kf : ¬ x < 0 → G Y cc nL rt lv mc ms post k n pc' L S σ) : G Y cc nL rt lv mc ms post k n pc L (.int x :: S) σ := by
  intro D cI cM p l e R s m args below meth c A Q ad0 n0 H locs ls ad C X hl hS
  obtain ⟨off, hd, rfl, ht⟩ := hd
  exact lv_if_lt C.1 C.2.1 hd ht (fun h => (kt h).use C X hl (aS1 hS)) (fun h => (kf h).use C X hl (aS1 hS))
def aIf_ge (cc : ByteArray) (pc pc' tgt : Nat) : Prop := ∃ off : Int, decode cc pc = .ok (.ifCond .ge off, 3) ∧ pc + 3 = pc' ∧ (pc : Int) + off = (tgt : Int)
theorem g_if_ge {x : Int32} (hd : aIf_ge cc pc pc' tgt) (kt : 0 ≤ x → G Y cc nL rt lv mc ms post k n tgt L S σ) (kf : ¬ 0 ≤ x → G Y cc nL rt lv mc ms post k n pc' L S σ) : G Y cc nL rt lv mc ms post k n pc L (.int x :: S) σ := by
  intro D cI cM p l e R s m args below meth c A Q ad0 n0 H locs ls ad C X hl hS
  obtain ⟨off, hd, rfl, ht⟩ := hd
  exact lv_if_ge C.1 C.2.1 hd ht (fun h => (kt h).use C X hl (aS1 hS)) (fun h => (kf h).use C X hl (aS1 hS))
def aIf_gt (cc : ByteArray) (pc pc' tgt : Nat) : Prop := ∃ off : Int, decode cc pc = .ok (.ifCond .gt off, 3) ∧ pc + 3 = pc' ∧ (pc : Int) + off = (tgt : Int)
theorem g_if_gt {x : Int32} (hd : aIf_gt cc pc pc' tgt) (kt : 0 < x → G Y cc nL rt lv mc ms post k n tgt L S σ) (kf : ¬ 0 < x → G Y cc nL rt lv mc ms post k n pc' L S σ) : G Y cc nL rt lv mc ms post k n pc L (.int x :: S) σ := by
  intro D cI cM p l e R s m args below meth c A Q ad0 n0 H locs ls ad C X hl hS
  obtain ⟨off, hd, rfl, ht⟩ := hd
  exact lv_if_gt C.1 C.2.1 hd ht (fun h => (kt h).use C X hl (aS1 hS)) (fun h => (kf h).use C X hl (aS1 hS))
def aIf_le (cc : ByteArray) (pc pc' tgt : Nat) : Prop := ∃ off : Int, decode cc pc = .ok (.ifCond .le off, 3) ∧ pc + 3 = pc' ∧ (pc : Int) + off = (tgt : Int)
theorem g_if_le {x : Int32} (hd : aIf_le cc pc pc' tgt) (kt : x ≤ 0 → G Y cc nL rt lv mc ms post k n tgt L S σ) (kf : ¬ x ≤ 0 → G Y cc nL rt lv mc ms post k n pc' L S σ) : G Y cc nL rt lv mc ms post k n pc L (.int x :: S) σ := by
  intro D cI cM p l e R s m args below meth c A Q ad0 n0 H locs ls ad C X hl hS
  obtain ⟨off, hd, rfl, ht⟩ := hd
  exact lv_if_le C.1 C.2.1 hd ht (fun h => (kt h).use C X hl (aS1 hS)) (fun h => (kf h).use C X hl (aS1 hS))
def aIc_eq (cc : ByteArray) (pc pc' tgt : Nat) : Prop := ∃ off : Int, decode cc pc = .ok (.if_icmp .eq off, 3) ∧ pc + 3 = pc' ∧ (pc : Int) + off = (tgt : Int)
theorem g_icmp_eq {x y : Int32} (hd : aIc_eq cc pc pc' tgt) (kt : x = y → G Y cc nL rt lv mc ms post k n tgt L S σ) (kf : ¬ x = y → G Y cc nL rt lv mc ms post k n pc' L S σ) : G Y cc nL rt lv mc ms post k n pc L (.int y :: .int x :: S) σ := by
  intro D cI cM p l e R s m args below meth c A Q ad0 n0 H locs ls ad C X hl hS
  obtain ⟨off, hd, rfl, ht⟩ := hd
  exact lv_icmp_eq C.1 C.2.1 hd ht (fun h => (kt h).use C X hl (aS2 hS)) (fun h => (kf h).use C X hl (aS2 hS))
def aIc_ne (cc : ByteArray) (pc pc' tgt : Nat) : Prop := ∃ off : Int, decode cc pc = .ok (.if_icmp .ne off, 3) ∧ pc + 3 = pc' ∧ (pc : Int) + off = (tgt : Int)
theorem g_icmp_ne {x y : Int32} (hd : aIc_ne cc pc pc' tgt) (kt : ¬ x = y → G Y cc nL rt lv mc ms post k n tgt L S σ) (kf : x = y → G Y cc nL rt lv mc ms post k n pc' L S σ) : G Y cc nL rt lv mc ms post k n pc L (.int y :: .int x :: S) σ := by
  intro D cI cM p l e R s m args below meth c A Q ad0 n0 H locs ls ad C X hl hS
  obtain ⟨off, hd, rfl, ht⟩ := hd
  exact lv_icmp_ne C.1 C.2.1 hd ht (fun h => (kt h).use C X hl (aS2 hS)) (fun h => (kf h).use C X hl (aS2 hS))
def aIc_lt (cc : ByteArray) (pc pc' tgt : Nat) : Prop := ∃ off : Int, decode cc pc = .ok (.if_icmp .lt off, 3) ∧ pc + 3 = pc' ∧ (pc : Int) + off = (tgt : Int)
theorem g_icmp_lt {x y : Int32} (hd : aIc_lt cc pc pc' tgt) (kt : x < y → G Y cc nL rt lv mc ms post k n tgt L S σ) (kf : ¬ x < y → G Y cc nL rt lv mc ms post k n pc' L S σ) : G Y cc nL rt lv mc ms post k n pc L (.int y :: .int x :: S) σ := by
  intro D cI cM p l e R s m args below meth c A Q ad0 n0 H locs ls ad C X hl hS
  obtain ⟨off, hd, rfl, ht⟩ := hd
  exact lv_icmp_lt C.1 C.2.1 hd ht (fun h => (kt h).use C X hl (aS2 hS)) (fun h => (kf h).use C X hl (aS2 hS))
def aIc_ge (cc : ByteArray) (pc pc' tgt : Nat) : Prop := ∃ off : Int, decode cc pc = .ok (.if_icmp .ge off, 3) ∧ pc + 3 = pc' ∧ (pc : Int) + off = (tgt : Int)
theorem g_icmp_ge {x y : Int32} (hd : aIc_ge cc pc pc' tgt) (kt : y ≤ x → G Y cc nL rt lv mc ms post k n tgt L S σ) (kf : ¬ y ≤ x → G Y cc nL rt lv mc ms post k n pc' L S σ) : G Y cc nL rt lv mc ms post k n pc L (.int y :: .int x :: S) σ := by
  intro D cI cM p l e R s m args below meth c A Q ad0 n0 H locs ls ad C X hl hS
  obtain ⟨off, hd, rfl, ht⟩ := hd
  exact lv_icmp_ge C.1 C.2.1 hd ht (fun h => (kt h).use C X hl (aS2 hS)) (fun h => (kf h).use C X hl (aS2 hS))
def aIc_gt (cc : ByteArray) (pc pc' tgt : Nat) : Prop := ∃ off : Int, decode cc pc = .ok (.if_icmp .gt off, 3) ∧ pc + 3 = pc' ∧ (pc : Int) + off = (tgt : Int)
theorem g_icmp_gt {x y : Int32} (hd : aIc_gt cc pc pc' tgt) (kt : y < x → G Y cc nL rt lv mc ms post k n tgt L S σ) (kf : ¬ y < x → G Y cc nL rt lv mc ms post k n pc' L S σ) : G Y cc nL rt lv mc ms post k n pc L (.int y :: .int x :: S) σ := by
  intro D cI cM p l e R s m args below meth c A Q ad0 n0 H locs ls ad C X hl hS
  obtain ⟨off, hd, rfl, ht⟩ := hd
  exact lv_icmp_gt C.1 C.2.1 hd ht (fun h => (kt h).use C X hl (aS2 hS)) (fun h => (kf h).use C X hl (aS2 hS))
def aIc_le (cc : ByteArray) (pc pc' tgt : Nat) : Prop := ∃ off : Int, decode cc pc = .ok (.if_icmp .le off, 3) ∧ pc + 3 = pc' ∧ (pc : Int) + off = (tgt : Int)
theorem g_icmp_le {x y : Int32} (hd : aIc_le cc pc pc' tgt) (kt : x ≤ y → G Y cc nL rt lv mc ms post k n tgt L S σ) (kf : ¬ x ≤ y → G Y cc nL rt lv mc ms post k n pc' L S σ) : G Y cc nL rt lv mc ms post k n pc L (.int y :: .int x :: S) σ := by
  intro D cI cM p l e R s m args below meth c A Q ad0 n0 H locs ls ad C X hl hS
  obtain ⟨off, hd, rfl, ht⟩ := hd
  exact lv_icmp_le C.1 C.2.1 hd ht (fun h => (kt h).use C X hl (aS2 hS)) (fun h => (kf h).use C X hl (aS2 hS))
theorem g_goto (hd : aGo cc pc tgt) (kk : G Y cc nL rt lv mc ms post k n tgt L S σ) : G Y cc nL rt lv mc ms post k n pc L S σ := by
  intro D cI cM p l e R s m args below meth c A Q ad0 n0 H locs ls ad C X hl hS
  obtain ⟨off, hd, ht⟩ := hd
  exact lv_goto C.1 C.2.1 hd ht (kk.use C X hl hS)
theorem g_tswOut {dflt lo hi : Int} {offs : Array Int} {len : Nat} {x : Int32} (hd : decode cc pc = .ok (.tableswitch dflt lo hi offs, len)) (h : x.toInt < lo ∨ hi < x.toInt) (ht : (pc : Int) + dflt = (tgt : Int)) (kk : G Y cc nL rt lv mc ms post k n tgt L S σ) : G Y cc nL rt lv mc ms post k n pc L (.int x :: S) σ := by
  intro D cI cM p l e R s m args below meth c A Q ad0 n0 H locs ls ad C X hl hS
  exact lv_tableOut C.1 C.2.1 hd h ht (kk.use C X hl (aS1 hS))
theorem g_tswIn {dflt lo hi : Int} {offs : Array Int} {len : Nat} {x : Int32} {off : Int} (hd : decode cc pc = .ok (.tableswitch dflt lo hi offs, len)) (h1 : ¬ x.toInt < lo) (h2 : ¬ hi < x.toInt) (ho : offs[(x.toInt - lo).toNat]? = some off) (ht : (pc : Int) + off = (tgt : Int)) (kk : G Y cc nL rt lv mc ms post k n tgt L S σ) : G Y cc nL rt lv mc ms post k n pc L (.int x :: S) σ := by
  intro D cI cM p l e R s m args below meth c A Q ad0 n0 H locs ls ad C X hl hS
  exact lv_tableIn C.1 C.2.1 hd h1 h2 ho ht (kk.use C X hl (aS1 hS))
theorem g_null (hd : aI1 cc pc .aconst_null pc') (kk : G Y cc nL rt lv mc ms post k n pc' L (.null :: S) σ) : G Y cc nL rt lv mc ms post k n pc L S σ := by
  intro D cI cM p l e R s m args below meth c A Q ad0 n0 H locs ls ad C X hl hS
  obtain ⟨hd, rfl⟩ := hd
  exact lv_null C.1 C.2.1 hd (kk.use C X hl (aSC aSc_null hS))
def aNu (cc : ByteArray) (pc pc' tgt : Nat) : Prop := ∃ off : Int, decode cc pc = .ok (.ifnull off, 3) ∧ pc + 3 = pc' ∧ (pc : Int) + off = (tgt : Int)
def aNn (cc : ByteArray) (pc pc' tgt : Nat) : Prop := ∃ off : Int, decode cc pc = .ok (.ifnonnull off, 3) ∧ pc + 3 = pc' ∧ (pc : Int) + off = (tgt : Int)
theorem g_ifnull {a : Nat} (hd : aNu cc pc pc' tgt) (kk : G Y cc nL rt lv mc ms post k n pc' L S σ) : G Y cc nL rt lv mc ms post k n pc L (.ref a :: S) σ := by
  intro D cI cM p l e R s m args below meth c A Q ad0 n0 H locs ls ad C X hl hS
  obtain ⟨off, hd, rfl, ht⟩ := hd
  exact lv_ifnull C.1 C.2.1 hd (kk.use C X hl (aS1 hS))
theorem g_ifnullN (hd : aNu cc pc pc' tgt) (kk : G Y cc nL rt lv mc ms post k n tgt L S σ) : G Y cc nL rt lv mc ms post k n pc L (.null :: S) σ := by
  intro D cI cM p l e R s m args below meth c A Q ad0 n0 H locs ls ad C X hl hS
  obtain ⟨off, hd, rfl, ht⟩ := hd
  exact lv_ifnullN C.1 C.2.1 hd ht (kk.use C X hl (aS1 hS))
theorem g_ifnonnull {a : Nat} (hd : aNn cc pc pc' tgt) (kk : G Y cc nL rt lv mc ms post k n tgt L S σ) : G Y cc nL rt lv mc ms post k n pc L (.ref a :: S) σ := by
  intro D cI cM p l e R s m args below meth c A Q ad0 n0 H locs ls ad C X hl hS
  obtain ⟨off, hd, rfl, ht⟩ := hd
  exact lv_ifnonnull C.1 C.2.1 hd ht (kk.use C X hl (aS1 hS))
theorem g_ifnonnullN (hd : aNn cc pc pc' tgt) (kk : G Y cc nL rt lv mc ms post k n pc' L S σ) : G Y cc nL rt lv mc ms post k n pc L (.null :: S) σ := by
  intro D cI cM p l e R s m args below meth c A Q ad0 n0 H locs ls ad C X hl hS
  obtain ⟨off, hd, rfl, ht⟩ := hd
  exact lv_ifnonnullN C.1 C.2.1 hd (kk.use C X hl (aS1 hS))
/-- a field as an instruction of a class names it: the class's place, the field's place -/
def aFl (own : String) (index ci fk : Nat) : Prop := ∃ (C : String) (T : u_T) (N : Nat) (ref : String), vwCl[ci]? = some (C, T, N) ∧ fk < N ∧ (∀ w ∈ u_ws C T N, w ∈ aWd) ∧ Cond.fieldLink own index ref (T fk).2.1 (T fk).2.2.1 ∈ aWd ∧ ref = (T fk).1
def aFp (ci fk : Nat) (ty : FieldType) (fin : Bool) : Prop := ∃ (C : String) (T : u_T) (N : Nat) (ty0 : Nat → FieldType), vwCl[ci]? = some (C, T, N) ∧ (∀ k, k < N → parseFieldDescriptor (T k).2.2.1 = some (ty0 k)) ∧ (∀ a, a < N → ∀ b, b < N → a ≠ b → (T a).2.1 ≠ (T b).2.1) ∧ (T fk).2.2.2 = fin ∧ parseFieldDescriptor (T fk).2.2.1 = some ty
theorem g_get {index ci fk a : Nat} {fs : List Value} {v : Value} (hd : aI3 cc pc (.getfield index) pc') (hf : aFl Y.cls index ci fk) (hσ : σ[a]? = some (.inr (.inr (ci, fs)))) (hv : fs[fk]? = some v) (kk : G Y cc nL rt lv mc ms post k n pc' L (v :: S) σ) : G Y cc nL rt lv mc ms post k n pc L (.ref a :: S) σ := by
  intro D cI cM p l e R s m args below meth c A Q ad0 n0 H locs ls ad C X hl hS
  obtain ⟨hd, rfl⟩ := hd
  obtain ⟨C', T, N, ref, h1, h2, h3, h4, h5⟩ := hf
  subst h5
  exact va_get C.1 C.2.1 C.2.2.2.2.1 h3 C.2.2.2.1 C.2.2.2.2.2.2.1.1 X.1 a (aW_at hσ) h1 fk h2 (C.2.2.2.2.1 _ h4) (fun _ h => h) (by rw [List.getElem?_map, hv]; rfl) hd
    (kk.use C X hl (aSC (aScH_at X.2.2.2.1 hσ v (List.mem_of_getElem? hv)) (aS1 hS)))
theorem aSt.put {D : va_G} {cI cM : ClassId} {A : Nat → Prop} {H0 : Heap} {ad0 : Nat → Nat} {n0 : Nat} {H H1 : Heap} {locs locs1 : List Loc} {ad : Nat → Nat} {σ : aH} (X : aSt D cI cM A H0 ad0 n0 H locs ad σ) {a : Nat} {c : aT} (hc : aScC σ.length c) (hP : va_P D vwCl ((aW cI cM ad σ).set a (ad a, aE cI cM ad c)) H1) (hD : va_D A ((aW cI cM ad σ).set a (ad a, aE cI cM ad c))) (hS : va_S A H0 H1 locs1) : aSt D cI cM A H0 ad0 n0 H1 locs1 ad (σ.set a c) := by
  rw [aW_set] at hP hD
  exact ⟨hP, hD, hS, aScH_set X.2.2.2.1 hc, X.2.2.2.2.1, by rw [List.length_set]; exact X.2.2.2.2.2⟩
theorem aPutSc {N : Nat} {fs : List Value} {fk ci : Nat} {v : Value} (h : aScC N (.inr (.inr (ci, fs)))) (hv : aSc N v) : aScC N (.inr (.inr (ci, fs.set fk v))) := fun w hw => by
  rcases List.mem_or_eq_of_mem_set hw with h1 | h1
  · exact h w h1
  · rw [h1]; exact hv
theorem g_put {index ci fk a : Nat} {fs : List Value} {v : Value} {ty : FieldType} (hd : aI3 cc pc (.putfield index) pc') (hf : aFl Y.cls index ci fk) (hp : aFp ci fk ty false) (hσ : σ[a]? = some (.inr (.inr (ci, fs)))) (hlt : fk < fs.length) (hn : ∀ ad, narrow ty (aRe ad v) = aRe ad v ∧ fits ty (aRe ad v) = true) (kk : G Y cc nL rt lv mc ms post k n pc' L S (σ.set a (.inr (.inr (ci, fs.set fk v))))) : G Y cc nL rt lv mc ms post k n pc L (v :: .ref a :: S) σ := by
  intro D cI cM p l e R s m args below meth c A Q ad0 n0 H locs ls ad C X hl hS
  obtain ⟨hd, rfl⟩ := hd
  obtain ⟨C', T, N, ref, h1, h2, h3, h4, h5⟩ := hf
  obtain ⟨C2, T2, N2, ty0, g1, g2, g3, g4, g5⟩ := hp
  cases h1.symm.trans g1
  subst h5
  have hsc := aScH_at X.2.2.2.1 hσ
  refine va_put C.1 C.2.1 C.2.2.2.2.1 h3 ty0 g2 g3 C.2.2.2.1 C.2.2.2.2.2.2.1.1 X.1 X.2.1 X.2.2.1 a (aW_at hσ) h1 fk h2 (C.2.2.2.2.1 _ h4) (fun _ h => h) g4 g5 (hn ad).1 (hn ad).2 (by rw [List.length_map]; exact hlt) hd (fun H1 locs1 hP hD hS1 => ?_)
  refine kk.use C (X.put (aPutSc hsc (hS v List.mem_cons_self)) ?_ ?_ hS1) (by rw [List.length_set]; exact hl) (by rw [List.length_set]; exact aS2 hS)
  · show va_P D vwCl ((aW cI cM ad σ).set a (ad a, .inr (ci, (fs.set fk v).map (aRe ad)))) H1
    rw [List.map_set]; exact hP
  · show va_D A ((aW cI cM ad σ).set a (ad a, .inr (ci, (fs.set fk v).map (aRe ad))))
    rw [List.map_set]; exact hD
theorem g_putF {index ci fk a : Nat} {fs : List Value} {v : Value} {ty : FieldType} (hd : aI3 cc pc (.putfield index) pc') (hf : aFl Y.cls index ci fk) (hp : aFp ci fk ty true) (hin : Y.name = "<init>") (hdc : ∀ q : vw_C, vwCl[ci]? = some q → (q.2.1 fk).1 = Y.cls) (hσ : σ[a]? = some (.inr (.inr (ci, fs)))) (hlt : fk < fs.length) (hn : ∀ ad, narrow ty (aRe ad v) = aRe ad v ∧ fits ty (aRe ad v) = true) (kk : G Y cc nL rt lv mc ms post k n pc' L S (σ.set a (.inr (.inr (ci, fs.set fk v))))) : G Y cc nL rt lv mc ms post k n pc L (v :: .ref a :: S) σ := by
  intro D cI cM p l e R s m args below meth c A Q ad0 n0 H locs ls ad C X hl hS
  obtain ⟨hd, rfl⟩ := hd
  obtain ⟨C', T, N, ref, h1, h2, h3, h4, h5⟩ := hf
  obtain ⟨C2, T2, N2, ty0, g1, g2, g3, g4, g5⟩ := hp
  cases h1.symm.trans g1
  subst h5
  have hsc := aScH_at X.2.2.2.1 hσ
  refine va_putF C.1 C.2.1 C.2.2.2.2.1 h3 ty0 g2 g3 C.2.2.2.1 C.2.2.2.2.2.2.1.1 X.1 X.2.1 X.2.2.1 a (aW_at hσ) h1 fk h2 (C.2.2.2.2.1 _ h4) (fun _ h => h) g4 (by rw [C.2.2.2.2.2.1]; exact hin) (hdc _ h1) g5 (hn ad).1 (hn ad).2 (by rw [List.length_map]; exact hlt) hd (fun H1 locs1 hP hD hS1 => ?_)
  refine kk.use C (X.put (aPutSc hsc (hS v List.mem_cons_self)) ?_ ?_ hS1) (by rw [List.length_set]; exact hl) (by rw [List.length_set]; exact aS2 hS)
  · show va_P D vwCl ((aW cI cM ad σ).set a (ad a, .inr (ci, (fs.set fk v).map (aRe ad)))) H1
    rw [List.map_set]; exact hP
  · show va_D A ((aW cI cM ad σ).set a (ad a, .inr (ci, (fs.set fk v).map (aRe ad))))
    rw [List.map_set]; exact hD
theorem g_iald {a : Nat} {xs : List Int32} {i : Int32} (hd : aI1 cc pc .iaload pc') (hσ : σ[a]? = some (.inl xs)) (hi : vp_in i xs.length) (kk : G Y cc nL rt lv mc ms post k n pc' L (.int (xs.getD i.toNatClampNeg 0) :: S) σ) : G Y cc nL rt lv mc ms post k n pc L (.int i :: .ref a :: S) σ := by
  intro D cI cM p l e R s m args below meth c A Q ad0 n0 H locs ls ad C X hl hS
  obtain ⟨hd, rfl⟩ := hd
  exact va_iald C.1 C.2.1 C.2.2.2.2.2.2.1.1 X.1 a 0 (aW_at hσ) rfl hi hd (kk.use C X hl (aSI (aS2 hS)))
theorem g_iast {a : Nat} {xs : List Int32} {i x : Int32} (hd : aI1 cc pc .iastore pc') (hσ : σ[a]? = some (.inl xs)) (hi : vp_in i xs.length) (kk : G Y cc nL rt lv mc ms post k n pc' L S (σ.set a (.inl (xs.set i.toNatClampNeg x)))) : G Y cc nL rt lv mc ms post k n pc L (.int x :: .int i :: .ref a :: S) σ := by
  intro D cI cM p l e R s m args below meth c A Q ad0 n0 H locs ls ad C X hl hS
  obtain ⟨hd, rfl⟩ := hd
  have hlt : i.toNatClampNeg < xs.length := Nat.not_le.mp fun q => hi (Or.inr q)
  have hf : (fun k => (xs.set i.toNatClampNeg x).getD k 0) = upd (fun k => xs.getD k 0) i.toNatClampNeg x := by
    funext k
    simp only [upd, List.getD_eq_getElem?_getD, List.getElem?_set]
    by_cases h : k = i.toNatClampNeg
    · subst h
      simp [hlt]
    · have h2 : ¬ i.toNatClampNeg = k := fun z => h z.symm
      simp [h, h2]
  have hsc := aScH_at X.2.2.2.1 hσ
  refine va_iast C.1 C.2.1 C.2.2.2.2.2.2.1.1 X.1 X.2.1 X.2.2.1 a 0 (aW_at hσ) rfl hi hd (fun H1 locs1 hP hD hS1 => ?_)
  have hsc : aScC σ.length (.inl (xs.set i.toNatClampNeg x)) := by
    show (xs.set i.toNatClampNeg x).length < 65536
    rw [List.length_set]; exact hsc
  refine kk.use C (X.put hsc ?_ ?_ hS1) (by rw [List.length_set]; exact hl) (by rw [List.length_set]; exact aS3 hS)
  · show va_P D vwCl ((aW cI cM ad σ).set a (ad a, .inl (cI, (xs.set i.toNatClampNeg x).length, .inl (fun k => (xs.set i.toNatClampNeg x).getD k 0)))) H1
    rw [hf, List.length_set]; exact hP
  · show va_D A ((aW cI cM ad σ).set a (ad a, .inl (cI, (xs.set i.toNatClampNeg x).length, .inl (fun k => (xs.set i.toNatClampNeg x).getD k 0))))
    rw [hf, List.length_set]; exact hD
theorem g_ilen {a : Nat} {xs : List Int32} (hd : aI1 cc pc .arraylength pc') (hσ : σ[a]? = some (.inl xs)) (kk : G Y cc nL rt lv mc ms post k n pc' L (.int (nI xs.length) :: S) σ) : G Y cc nL rt lv mc ms post k n pc L (.ref a :: S) σ := by
  intro D cI cM p l e R s m args below meth c A Q ad0 n0 H locs ls ad C X hl hS
  obtain ⟨hd, rfl⟩ := hd
  exact va_alen C.1 C.2.1 C.2.2.2.2.2.2.1.1 X.1 a 0 (aW_at hσ) rfl rfl hd (kk.use C X hl (aSI (aS1 hS)))
theorem g_aald {a b : Nat} {rs : List (Option Nat)} {i : Int32} (hd : aI1 cc pc .aaload pc') (hσ : σ[a]? = some (.inr (.inl rs))) (hi : vp_in i rs.length) (hv : rs[i.toNatClampNeg]? = some (some b)) (kk : G Y cc nL rt lv mc ms post k n pc' L (.ref b :: S) σ) : G Y cc nL rt lv mc ms post k n pc L (.int i :: .ref a :: S) σ := by
  intro D cI cM p l e R s m args below meth c A Q ad0 n0 H locs ls ad C X hl hS
  obtain ⟨hd, rfl⟩ := hd
  have hsc := aScH_at X.2.2.2.1 hσ
  refine va_aldq C.1 C.2.1 C.2.2.2.2.2.2.1.1 X.1 a 1 (aW_at hσ) rfl hi hd ?_
  rw [List.getD_eq_getElem?_getD, hv]
  exact kk.use C X hl (aSC (aSc_ref (hsc.2 b (List.mem_of_getElem? hv))) (aS2 hS))
theorem g_aast {a b ci : Nat} {rs : List (Option Nat)} {fs : List Value} {r : vw_C} {i : Int32} (hd : aI1 cc pc .aastore pc') (hσ : σ[a]? = some (.inr (.inl rs))) (hb : σ[b]? = some (.inr (.inr (ci, fs)))) (hr : vwCl[ci]? = some r) (hy : (r.1 = "ReadAloud$Man") ∨ (r.1, "ReadAloud$Man") ∈ aCy) (hi : vp_in i rs.length) (kk : G Y cc nL rt lv mc ms post k n pc' L S (σ.set a (.inr (.inl (rs.set i.toNatClampNeg (some b)))))) : G Y cc nL rt lv mc ms post k n pc L (.ref b :: .int i :: .ref a :: S) σ := by
  intro D cI cM p l e R s m args below meth c A Q ad0 n0 H locs ls ad C X hl hS
  obtain ⟨hd, rfl⟩ := hd
  have hlt : i.toNatClampNeg < rs.length := Nat.not_le.mp fun q => hi (Or.inr q)
  have hf : (fun k => ((rs.set i.toNatClampNeg (some b)).getD k none).map ad) = va_up (fun k => (rs.getD k none).map ad) i.toNatClampNeg (some (ad b)) := by
    funext k
    simp only [va_up, List.getD_eq_getElem?_getD, List.getElem?_set]
    by_cases h : k = i.toNatClampNeg
    · subst h
      simp [hlt]
    · have h2 : ¬ i.toNatClampNeg = k := fun z => h z.symm
      simp [h, h2]
  have hsc := aScH_at X.2.2.2.1 hσ
  have hany : va_Any "ReadAloud$Man" s H (ad b) := by
    refine va_rAny C.2.2.2.2.2.2.1.1 X.1 (aW_at hb) hr (fun comp c0 h1 h2 => ?_)
    rcases hy with hy | hy
    · have hcls := (C.2.2.2.2.2.2.1.1.1 ci r hr).2
      rw [hy] at h2 hcls
      cases h1.symm.trans h2
      cases h1.symm.trans hcls.1
      exact va_assign hcls
    · obtain ⟨c1, t1, f1, f2, f3⟩ := Cond.castable_spec (va_Nw.use (A := args) rfl (C.2.2.2.2.2.2.1.2.2.2.1 _ hy))
      cases h1.symm.trans f2
      cases h2.symm.trans f1
      exact f3
  refine va_astqM C.1 C.2.1 C.2.2.2.2.2.2.1.1 X.1 X.2.1 X.2.2.1 a 1 (aW_at hσ) rfl hany hi hd (fun H1 locs1 hP hD hS1 => ?_)
  have hsc : aScC σ.length (.inr (.inl (rs.set i.toNatClampNeg (some b)))) := by
    refine ⟨by rw [List.length_set]; exact hsc.1, fun j hj => ?_⟩
    rcases List.mem_or_eq_of_mem_set hj with h1 | h1
    · exact hsc.2 j h1
    · have e1 := Option.some.inj h1
      rw [e1]
      exact hS _ List.mem_cons_self b rfl
  refine kk.use C (X.put hsc ?_ ?_ hS1) (by rw [List.length_set]; exact hl) (by rw [List.length_set]; exact aS3 hS)
  · show va_P D vwCl ((aW cI cM ad σ).set a (ad a, .inl (cM, (rs.set i.toNatClampNeg (some b)).length, .inr (.inr (.inr (.inr (fun k => ((rs.set i.toNatClampNeg (some b)).getD k none).map ad))))))) H1
    rw [hf, List.length_set]; exact hP
  · show va_D A ((aW cI cM ad σ).set a (ad a, .inl (cM, (rs.set i.toNatClampNeg (some b)).length, .inr (.inr (.inr (.inr (fun k => ((rs.set i.toNatClampNeg (some b)).getD k none).map ad)))))))
    rw [hf, List.length_set]; exact hD
theorem g_alen {a : Nat} {rs : List (Option Nat)} (hd : aI1 cc pc .arraylength pc') (hσ : σ[a]? = some (.inr (.inl rs))) (kk : G Y cc nL rt lv mc ms post k n pc' L (.int (nI rs.length) :: S) σ) : G Y cc nL rt lv mc ms post k n pc L (.ref a :: S) σ := by
  intro D cI cM p l e R s m args below meth c A Q ad0 n0 H locs ls ad C X hl hS
  obtain ⟨hd, rfl⟩ := hd
  exact va_alen C.1 C.2.1 C.2.2.2.2.2.2.1.1 X.1 a 1 (aW_at hσ) rfl rfl hd (kk.use C X hl (aSI (aS1 hS)))
theorem aSt.push {D : va_G} {cI cM : ClassId} {A : Nat → Prop} {H0 : Heap} {ad0 : Nat → Nat} {n0 : Nat} {H H1 : Heap} {locs locs1 : List Loc} {ad : Nat → Nat} {σ : aH} (X : aSt D cI cM A H0 ad0 n0 H locs ad σ) {q : Nat} {c : aT} (hc : aScC (σ.length + 1) c) (hP : va_P D vwCl (aW cI cM ad σ ++ [(q, aE cI cM (fun i => if i = σ.length then q else ad i) c)]) H1) (hD : va_D A (aW cI cM ad σ ++ [(q, aE cI cM (fun i => if i = σ.length then q else ad i) c)])) (hS : va_S A H0 H1 locs1) : aSt D cI cM A H0 ad0 n0 H1 locs1 (fun i => if i = σ.length then q else ad i) (σ ++ [c]) := by
  rw [← aW_push X.2.2.2.1] at hP hD
  have hn := X.2.2.2.2.2
  refine ⟨hP, hD, hS, aScH_push X.2.2.2.1 hc, fun i hi => ?_, by rw [List.length_append]; omega⟩
  have h2 : ¬ i = σ.length := by omega
  simp only [if_neg h2]
  exact X.2.2.2.2.1 i hi
theorem g_new {index ci : Nat} {r : vw_C} {fs : List Value} {ty : Nat → FieldType} (hd : aI3 cc pc (.new index) pc') (hr : vwCl[ci]? = some r) (hin : ∀ w ∈ u_ws r.1 r.2.1 r.2.2, w ∈ aWd) (hty : ∀ k, k < r.2.2 → parseFieldDescriptor (r.2.1 k).2.2.1 = some (ty k)) (hw1 : Cond.classLink Y.cls index r.1 ∈ aWd) (hw2 : Cond.instantiable r.1 r.2.2 ∈ aWd) (hw3 : Cond.initialized r.1 ∈ aWd) (hfs : ∀ j, j < r.2.2 → defaultValue (ty j) = vp_V fs j) (hno : ∀ v ∈ fs, (∃ x, v = .int x) ∨ v = .null ∨ (∃ x, v = .long x)) (hmc : k + 1 ≤ mc) (hms : n + r.2.2 ≤ ms) (kk : G Y cc nL rt lv mc ms post (k + 1) (n + r.2.2) pc' L (.ref σ.length :: S) (σ ++ [.inr (.inr (ci, fs))])) : G Y cc nL rt lv mc ms post k n pc L S σ := by
  intro D cI cM p l e R s m args below meth c A Q ad0 n0 H locs ls ad C X hl hS
  obtain ⟨hd, rfl⟩ := hd
  have hre : fs.map (aRe ad) = fs := by
    conv => rhs; rw [← List.map_id fs]
    refine List.map_congr_left (fun v hv => ?_)
    rcases hno v hv with ⟨x, rfl⟩ | rfl | ⟨x, rfl⟩ <;> rfl
  have hRm := C.2.2.2.2.2.2.2.2.1.2.2
  refine va_new (ci := ci) (fs := fs) C.1 C.2.1 C.2.2.2.2.1 hin ty hty C.2.2.2.1 (C.2.2.2.2.1 _ hw1) (C.2.2.2.2.1 _ hw2) (C.2.2.2.2.1 _ hw3) C.2.2.2.2.2.2.1.1 X.1 X.2.1 X.2.2.1 C.2.2.2.2.2.2.2.1 hr hfs (by omega) (by omega) hd (fun q H1 hP hD hS1 => ?_)
  have hre2 : fs.map (aRe (fun i => if i = σ.length then q else ad i)) = fs := by
    conv => rhs; rw [← List.map_id fs]
    refine List.map_congr_left (fun v hv => ?_)
    rcases hno v hv with ⟨x, rfl⟩ | rfl | ⟨x, rfl⟩ <;> rfl
  have hsc : aScC (σ.length + 1) (.inr (.inr (ci, fs))) := fun v hv => by
    rcases hno v hv with ⟨x, rfl⟩ | rfl | ⟨x, rfl⟩
    · exact aSc_int
    · exact aSc_null
    · exact aSc_long
  have X' := X.push (c := .inr (.inr (ci, fs))) hsc (by show va_P D vwCl (aW cI cM ad σ ++ [(q, .inr (ci, fs.map (aRe (fun i => if i = σ.length then q else ad i))))]) H1; rw [hre2]; exact hP) (by show va_D A (aW cI cM ad σ ++ [(q, .inr (ci, fs.map (aRe (fun i => if i = σ.length then q else ad i))))]); rw [hre2]; exact hD) hS1
  have he : ∀ i, i < σ.length → (fun i => if i = σ.length then q else ad i) i = ad i := fun i hi => by simp [Nat.ne_of_lt hi]
  have hlen : (σ ++ [(.inr (.inr (ci, fs)) : aT)]).length = σ.length + 1 := by simp
  have hw := kk.use C X' (by rw [hlen]; exact aLo_ad hl (Nat.le_succ _) he) (by rw [hlen]; exact aSC (aSc_ref (Nat.lt_succ_self _)) (fun v hv => aSc_mono (Nat.le_succ _) (hS v hv)))
  rw [List.map_cons, aRe_map he hS] at hw
  simp only [aRe, if_true] at hw
  exact hw
theorem g_newa {x : Int32} {N : Nat} (hd : aI2 cc pc (.newarray .int) pc') (hx : x = nI N) (hN : N < 65536) (hmc : k + 1 ≤ mc) (hms : n + N ≤ ms) (kk : G Y cc nL rt lv mc ms post (k + 1) (n + N) pc' L (.ref σ.length :: S) (σ ++ [.inl (List.replicate N 0)])) : G Y cc nL rt lv mc ms post k n pc L (.int x :: S) σ := by
  intro D cI cM p l e R s m args below meth c A Q ad0 n0 H locs ls ad C X hl hS
  obtain ⟨hd, rfl⟩ := hd
  subst hx
  have hRm := C.2.2.2.2.2.2.2.2.1.2.2
  have hf : ∀ j : Nat, (List.replicate N (0 : Int32)).getD j 0 = 0 := fun j => by
    rw [List.getD_eq_getElem?_getD, List.getElem?_replicate]
    split <;> rfl
  refine va_newa (atype := .int) (ty := .int) (N' := N) (a0 := (N, .inl (fun _ => 0))) C.1 C.2.1 (C.2.2.2.2.1 (.arrayClass .int) aArr_in) rfl C.2.2.2.2.2.2.1.1 X.1 X.2.1 X.2.2.1 C.2.2.2.2.2.2.2.1 (fun cA => rfl) (nI_pos (by omega)) (nI_clamp (by omega)) (by show N * 4 ≤ _; omega) (by omega) (by omega) hd (fun q cA H1 hK hP hD hS1 => ?_)
  have hcA : cA = cI := by
    have h1 := (hK.2 2 (cA, .int) rfl).2
    have h2 := (C.2.2.2.2.2.2.1.1.2 0 (cI, .int) rfl).2
    exact Option.some.inj (h1.symm.trans h2)
  subst hcA
  have hsc : aScC (σ.length + 1) (.inl (List.replicate N 0)) := by
    show (List.replicate N (0 : Int32)).length < 65536
    rw [List.length_replicate]; exact hN
  have hE : aE cA cM (fun i => if i = σ.length then q else ad i) (.inl (List.replicate N 0)) = .inl (cA, N, .inl (fun _ => 0)) := by
    show Sum.inl (cA, (List.replicate N (0 : Int32)).length, Sum.inl (fun k => (List.replicate N (0 : Int32)).getD k 0)) = _
    rw [List.length_replicate, funext hf]
  have X' := X.push (c := .inl (List.replicate N 0)) hsc (by rw [hE]; exact hP) (by rw [hE]; exact hD) hS1
  have he : ∀ i, i < σ.length → (fun i => if i = σ.length then q else ad i) i = ad i := fun i hi => by simp [Nat.ne_of_lt hi]
  have hlen : (σ ++ [(.inl (List.replicate N 0) : aT)]).length = σ.length + 1 := by simp
  have hw := kk.use C X' (by rw [hlen]; exact aLo_ad hl (Nat.le_succ _) he) (by rw [hlen]; exact aSC (aSc_ref (Nat.lt_succ_self _)) (fun v hv => aSc_mono (Nat.le_succ _) (aS1 hS v hv)))
  rw [List.map_cons, aRe_map he (aS1 hS)] at hw
  simp only [aRe, if_true] at hw
  exact hw
theorem g_newq {x : Int32} {index N : Nat} (hd : aI3 cc pc (.anewarray index) pc') (hw1 : Cond.classLink Y.cls index "ReadAloud$Man" ∈ aWd) (hx : x = nI N) (hN : N < 65536) (hmc : k + 1 ≤ mc) (hms : n + N ≤ ms) (kk : G Y cc nL rt lv mc ms post (k + 1) (n + N) pc' L (.ref σ.length :: S) (σ ++ [.inr (.inl (List.replicate N none))])) : G Y cc nL rt lv mc ms post k n pc L (.int x :: S) σ := by
  intro D cI cM p l e R s m args below meth c A Q ad0 n0 H locs ls ad C X hl hS
  obtain ⟨hd, rfl⟩ := hd
  subst hx
  have hRm := C.2.2.2.2.2.2.2.2.1.2.2
  have hf : ∀ ad' : Nat → Nat, ∀ j : Nat, ((List.replicate N (none : Option Nat)).getD j none).map ad' = none := fun ad' j => by
    rw [List.getD_eq_getElem?_getD, List.getElem?_replicate]
    split <;> rfl
  refine va_newq (N' := N) C.1 C.2.1 C.2.2.2.1 (C.2.2.2.2.1 _ hw1) C.2.2.2.2.2.2.1.2.2.1 C.2.2.2.2.2.2.1.1 X.1 X.2.1 X.2.2.1 C.2.2.2.2.2.2.2.1 (nI_pos (by omega)) (nI_clamp (by omega)) (by omega) (by omega) (by omega) hd (fun q cA H1 hK hP hD hS1 => ?_)
  have hcA : cA = cM := by
    obtain ⟨k1, c1, a1, a2, a3, a4⟩ := (hK.2 2 (cA, .object "ReadAloud$Man") rfl).2
    obtain ⟨k2, c2, b1, b2, b3, b4⟩ := (C.2.2.2.2.2.2.1.1.2 1 (cM, .object "ReadAloud$Man") rfl).2
    exact Option.some.inj (a4.symm.trans b4)
  subst hcA
  have hsc : aScC (σ.length + 1) (.inr (.inl (List.replicate N none))) := by
    refine ⟨by rw [List.length_replicate]; exact hN, fun i hi => ?_⟩
    have := List.eq_of_mem_replicate hi
    cases this
  have hE : aE cI cA (fun i => if i = σ.length then q else ad i) (.inr (.inl (List.replicate N none))) = .inl (cA, N, .inr (.inr (.inr (.inr (fun _ => none))))) := by
    show Sum.inl (cA, (List.replicate N (none : Option Nat)).length, Sum.inr (Sum.inr (Sum.inr (Sum.inr (fun k => ((List.replicate N (none : Option Nat)).getD k none).map _))))) = _
    rw [List.length_replicate, funext (hf _)]
  have X' := X.push (c := .inr (.inl (List.replicate N none))) hsc (by rw [hE]; exact hP) (by rw [hE]; exact hD) hS1
  have he : ∀ i, i < σ.length → (fun i => if i = σ.length then q else ad i) i = ad i := fun i hi => by simp [Nat.ne_of_lt hi]
  have hlen : (σ ++ [(.inr (.inl (List.replicate N none)) : aT)]).length = σ.length + 1 := by simp
  have hw := kk.use C X' (by rw [hlen]; exact aLo_ad hl (Nat.le_succ _) he) (by rw [hlen]; exact aSC (aSc_ref (Nat.lt_succ_self _)) (fun v hv => aSc_mono (Nat.le_succ _) (aS1 hS v hv)))
  rw [List.map_cons, aRe_map he (aS1 hS)] at hw
  simp only [aRe, if_true] at hw
  exact hw
theorem g_instY {index ci a : Nat} {nm : String} {r : vw_C} {fs : List Value} (hd : aI3 cc pc (.instanceof index) pc') (hw : Cond.classLink Y.cls index nm ∈ aWd) (hσ : σ[a]? = some (.inr (.inr (ci, fs)))) (hr : vwCl[ci]? = some r) (hy : (r.1, nm) ∈ aCy) (kk : G Y cc nL rt lv mc ms post k n pc' L (.int 1 :: S) σ) : G Y cc nL rt lv mc ms post k n pc L (.ref a :: S) σ := by
  intro D cI cM p l e R s m args below meth c A Q ad0 n0 H locs ls ad C X hl hS
  obtain ⟨hd, rfl⟩ := hd
  have hrec := va_recv C.2.2.2.2.2.2.1.1 X.1 hr (aW_at (cI := cI) (cM := cM) (ad := ad) hσ)
  exact va_instY C.1 C.2.1 C.2.2.2.1 (C.2.2.2.2.1 _ hw) (C.2.2.2.2.2.2.1.2.2.2.1 _ hy) hrec hd (kk.use C X hl (aSI (aS1 hS)))
theorem g_instN {index ci a : Nat} {nm : String} {r : vw_C} {fs : List Value} (hd : aI3 cc pc (.instanceof index) pc') (hw : Cond.classLink Y.cls index nm ∈ aWd) (hσ : σ[a]? = some (.inr (.inr (ci, fs)))) (hr : vwCl[ci]? = some r) (hy : (r.1, nm) ∈ aCn) (kk : G Y cc nL rt lv mc ms post k n pc' L (.int 0 :: S) σ) : G Y cc nL rt lv mc ms post k n pc L (.ref a :: S) σ := by
  intro D cI cM p l e R s m args below meth c A Q ad0 n0 H locs ls ad C X hl hS
  obtain ⟨hd, rfl⟩ := hd
  have hrec := va_recv C.2.2.2.2.2.2.1.1 X.1 hr (aW_at (cI := cI) (cM := cM) (ad := ad) hσ)
  exact va_instNo C.1 C.2.1 C.2.2.2.1 (C.2.2.2.2.1 _ hw) (C.2.2.2.2.2.2.1.2.2.2.2 _ hy) hrec hd (kk.use C X hl (aSI (aS1 hS)))
theorem g_instS {index ci a : Nat} {nm : String} {r : vw_C} {fs : List Value} (hd : aI3 cc pc (.instanceof index) pc') (hw : Cond.classLink Y.cls index nm ∈ aWd) (hσ : σ[a]? = some (.inr (.inr (ci, fs)))) (hr : vwCl[ci]? = some r) (hy : r.1 = nm) (kk : G Y cc nL rt lv mc ms post k n pc' L (.int 1 :: S) σ) : G Y cc nL rt lv mc ms post k n pc L (.ref a :: S) σ := by
  intro D cI cM p l e R s m args below meth c A Q ad0 n0 H locs ls ad C X hl hS
  obtain ⟨hd, rfl⟩ := hd
  have hrec := va_recv C.2.2.2.2.2.2.1.1 X.1 hr (aW_at (cI := cI) (cM := cM) (ad := ad) hσ)
  exact va_instS C.1 C.2.1 C.2.2.2.1 (C.2.2.2.2.1 _ hw) (hy ▸ (C.2.2.2.2.2.2.1.1.1 ci r hr).2) (hy ▸ hrec) hd (kk.use C X hl (aSI (aS1 hS)))
theorem g_ret {v : Option Value} (hr : aRet cc rt pc v) (hk : k ≤ mc) (hn : n ≤ ms) (hp : post v σ) : G Y cc nL rt lv mc ms post k n pc L v.toList σ := by
  intro D cI cM p l e R s m args below meth c A Q ad0 n0 H locs ls ad C X hl hS
  exact C.2.2.2.2.2.2.2.2.2 hp hk hn X (fun w hw => hS w (by rw [hw]; exact List.mem_cons_self)) hr
end AR

/-! ===== a whole method; calls ===== -/
def aRm (lv mc ms : Nat) : Room := { frames := lv, cells := mc, slots := ms, locals := 40 * lv + 20 }
def aQ (D : va_G) (cI cM : ClassId) (ad0 : Nat → Nat) (n0 : Nat) (A : Nat → Prop) (post : Option Value → aH → Prop) : Array Value → State → Outcome → State → Prop := fun _ st o t =>
  (∃ (v : Option Value) (σ' : aH) (ad' : Nat → Nat), o = .returned (v.map (aRe ad')) ∧ post v σ' ∧ (∀ w, v = some w → aSc σ'.length w) ∧ aScH σ' ∧ (∀ i, i < n0 → ad' i = ad0 i) ∧ n0 ≤ σ'.length ∧ va_P D vwCl (aW cI cM ad' σ') t.heap ∧ va_D A (aW cI cM ad' σ')) ∧ va_F A st t
def aPr (D : va_G) (cI cM : ClassId) (ad : Nat → Nat) (σ : aH) (sz : Nat) (U : State) : Prop := U.heap.size = sz ∧ va_P D vwCl (aW cI cM ad σ) U.heap ∧ aK D cI cM U ∧ va_D (fun _ => True) (aW cI cM ad σ)
/-- a method's contract at these arguments and this heap -/
def AMet (Y : MethodName) (cc : ByteArray) (nL : Nat) (rt : Option FieldType) (lv mc ms : Nat) (args : List Value) (σ : aH) (post : Option Value → aH → Prop) : Prop :=
  aScH σ → (∀ v ∈ args, aSc σ.length v) → ∀ (l : Launch) (D : va_G) (cI cM : ClassId) (ad : Nat → Nat) (sz : Nat),
    Met l Y (.code Y cc nL rt :: aWd) (aRm lv mc ms) (va_Pc (args.map (aRe ad)) (aPr D cI cM ad σ sz)) (aQ D cI cM ad σ.length (va_A (aW cI cM ad σ) sz) post) mc ms (va_A (aW cI cM ad σ) sz)
def aEn : List Value → List (Option Value)
  | [] => []
  | .long x :: vs => some (.long x) :: none :: aEn vs
  | .double x :: vs => some (.double x) :: none :: aEn vs
  | v :: vs => some v :: aEn vs
theorem aEn_cons (v : Value) (vs : List Value) : aEn (v :: vs) = some v :: ((if v.category = 2 then [none] else []) ++ aEn vs) := by cases v <;> rfl
theorem aEn_len (ad : Nat → Nat) : ∀ vs : List Value, (lg_sl (vs.map (aRe ad))).length = (aEn vs).length
  | [] => rfl
  | v :: vs => by
    rw [aEn_cons, List.map_cons]
    have h := aEn_len ad vs
    simp only [lg_sl, List.flatMap_cons, List.length_append, aRe_cat, List.length_cons] at h ⊢
    rw [h]
    split <;> simp <;> omega
theorem aEn_mem (ad : Nat → Nat) : ∀ (vs : List Value) (i j : Nat) (v : Value), (aEn vs)[j]? = some (some v) → (i + j, aRe ad v) ∈ lv_args i (vs.map (aRe ad))
  | [], i, j, v, h => by simp [aEn] at h
  | w :: vs, i, j, v, h => by
    rw [aEn_cons] at h
    rw [List.map_cons]
    unfold lv_args
    rw [aRe_cat]
    cases j with
    | zero =>
      simp only [List.getElem?_cons_zero, Option.some.injEq] at h
      rw [h]
      exact List.mem_cons_self
    | succ j =>
      rw [List.getElem?_cons_succ] at h
      refine List.mem_cons_of_mem _ ?_
      by_cases hc : w.category = 2
      · rw [if_pos hc] at h ⊢
        cases j with
        | zero => cases h
        | succ j =>
          have := aEn_mem ad vs (i + 2) j v h
          rw [show i + (j + 1 + 1) = i + 2 + j by omega]
          exact this
      · rw [if_neg hc] at h ⊢
        have := aEn_mem ad vs (i + 1) j v h
        rw [show i + (j + 1) = i + 1 + j by omega]
        exact this
def aL0 (nL : Nat) (args : List Value) : List (Option Value) := aEn args ++ List.replicate (nL - (aEn args).length) none
theorem aEn_sc {N : Nat} : ∀ (vs : List Value), (∀ v ∈ vs, aSc N v) → ∀ v, some v ∈ aEn vs → aSc N v
  | [], _, v, h => by cases h
  | w :: vs, hs, v, h => by
    rw [aEn_cons] at h
    rcases List.mem_cons.mp h with h | h
    · cases h; exact hs _ List.mem_cons_self
    · rcases List.mem_append.mp h with h | h
      · split at h <;> simp at h
      · exact aEn_sc vs (aS1 hs) v h
theorem AMet_of_G {Y : MethodName} {cc : ByteArray} {nL : Nat} {rt : Option FieldType} {lv mc ms : Nat} {args : List Value} {σ : aH} {post : Option Value → aH → Prop} (hy : plainName Y.cls = true) (hlen : (aEn args).length ≤ nL) (hG : G Y cc nL rt lv mc ms post 0 0 0 (aL0 nL args) [] σ) : AMet Y cc nL rt lv mc ms args σ post := by
  intro hσ hsc l D cI cM ad sz
  refine Met.ofW (cc := cc) (maxL := nL) (ret := rt) hy rfl ?_
  intro p e s m args' below meth c s₁ B hml hv
  obtain ⟨rfl, hsz, hP, hK, hD0⟩ := hv
  have hts : ∀ w ∈ (Cond.code Y cc nL rt :: aWd), w.before ((args.map (aRe ad)).toArray) s = true := atoms_spec (ws := Cond.code Y cc nL rt :: aWd) B.pre
  subst hsz
  have hD := hD0.self (sz := s.heap.size)
  rw [lg_entry_eq]
  have hl := lv_entry (args.map (aRe ad)) (n := nL) (by rw [aEn_len]; exact hlen)
  refine hG.use (A := va_A (aW cI cM ad σ) s.heap.size) (ad0 := ad) (n0 := σ.length) (ad := ad) ⟨B.exec, B.bytes, hml, findClass_of_methodNamed B.named, fun w hw => hts w (List.mem_cons_of_mem _ hw), (name_of_methodNamed B.named B.method).1, hK, fun q h => Or.inr h, ⟨Nat.le_refl _, Nat.le_refl _, Nat.le_refl _, Nat.le_refl _⟩, ?_⟩ ⟨hP, hD, va_S.rf, hσ, fun _ _ => rfl, Nat.le_refl _⟩ ⟨lv_less hl ?_, ?_, ?_⟩ (fun v h => by cases h)
  · intro H locs ls ad' σ' k n pc v hp hk hn X hv hret
    refine W.widen (k := mc) (n := ms) hk hn ?_
    have hq : ∀ (t : State), t.heap = H → aQ D cI cM ad σ.length (va_A (aW cI cM ad σ) s.heap.size) post ((args.map (aRe ad)).toArray) s (.returned (v.map (aRe ad'))) t := fun t ht =>
      ⟨⟨v, σ', ad', rfl, hp, hv, X.2.2.2.1, X.2.2.2.2.1, X.2.2.2.2.2, by rw [ht]; exact X.1, X.2.1⟩, X.2.2.1.F ht⟩
    rcases hret with ⟨rfl, rfl, hd⟩ | ⟨x, ty, rfl, rfl, hn, hd⟩ | ⟨x, rfl, rfl, hd⟩ | ⟨hv2, ⟨z, rfl⟩, hd⟩
    · exact W.vret B.exec B.bytes B.returns (fun t ht hW => hq t ht) X.2.2.1.2.2 hd (hlocks := B.notSynchronized)
    · exact W.zret B.exec B.bytes B.returns hn (fun t ht hW => hq t ht) X.2.2.1.2.2 hd (hlocks := B.notSynchronized)
    · exact W.lret B.exec B.bytes B.returns (fun t ht hW => hq t ht) X.2.2.1.2.2 hd (hlocks := B.notSynchronized)
    · rcases hv2 with rfl | ⟨i, rfl⟩
      · exact W.aret B.exec B.bytes B.returns (Or.inl ⟨z, rfl⟩) (Or.inl rfl) (fun t ht hW => hq t ht) X.2.2.1.2.2 hd (hlocks := B.notSynchronized)
      · exact W.aret B.exec B.bytes B.returns (Or.inl ⟨z, rfl⟩) (Or.inr ⟨_, rfl⟩) (fun t ht hW => hq t ht) X.2.2.1.2.2 hd (hlocks := B.notSynchronized)
  · rintro ⟨j, w⟩ hq
    obtain ⟨v, h1, h2⟩ := aL2_mem.mp hq
    have h3 : (aEn args)[j]? = some (some v) := by
      unfold aL0 at h1
      rw [List.getElem?_append] at h1
      split at h1
      · exact h1
      · rw [List.getElem?_replicate] at h1
        split at h1 <;> cases h1
    have h4 := aEn_mem ad args 0 j v h3
    rw [Nat.zero_add] at h4
    rw [h2]
    exact h4
  · unfold aL0
    rw [List.length_append, List.length_replicate]
    omega
  · intro v hv
    unfold aL0 at hv
    rcases List.mem_append.mp hv with h | h
    · exact aEn_sc args hsc v h
    · have := List.eq_of_mem_replicate h
      cases this
theorem AMet.weaken {Y : MethodName} {cc : ByteArray} {nL : Nat} {rt : Option FieldType} {lv mc ms : Nat} {args : List Value} {σ : aH} {post post' : Option Value → aH → Prop} (h : AMet Y cc nL rt lv mc ms args σ post) (hp : ∀ v σ', post v σ' → post' v σ') : AMet Y cc nL rt lv mc ms args σ post' := by
  intro hσ hsc l D cI cM ad sz
  intro p e a1 a2 a3 s m args' below a4 a5 a6 a7
  obtain ⟨n, o, b1, b2, b3, ⟨⟨v, σ', ad', g1, g2, g3⟩, g4⟩, b5⟩ := h hσ hsc l D cI cM ad sz p e a1 a2 a3 s m args' below a4 a5 a6 a7
  exact ⟨n, o, b1, b2, b3, ⟨⟨v, σ', ad', g1, hp _ _ g2, g3⟩, g4⟩, b5⟩
theorem aPr_blind {D : va_G} {cI cM : ClassId} {ad : Nat → Nat} {σ : aH} {sz : Nat} {av : List Value} : FrameBlind (va_Pc av (aPr D cI cM ad σ sz)) := fun a U g mk q => by
  obtain ⟨q0, q1, qP, qK, qD⟩ := q
  exact ⟨q0, q1, qP, aK.same rfl qK, qD⟩
section AC
variable {p : Program} {l : Launch} {e : Env} {R : Room} {s : State} {m : MethodId} {args : Array Value} {below : List Frame} {meth : Method} {c : Code} {H : Heap} {locs : List Loc} {cells slots : Nat} {Q : State → Prop}
theorem a_call {D : va_G} {cI cM : ClassId} {A A1 : Nat → Prop} {ad0 : Nat → Nat} {n0 : Nat} {ad : Nat → Nat} {σ : aH} {post' : Option Value → aH → Prop} {mc' ms' pc : Nat} {ls : Array Slot} {st0 rest : List Value} {a : Array Value} (hr : va_Run p l e R s m args below meth c H locs cells slots mc' ms' (F0 m pc ls st0) rest (aQ D cI cM ad σ.length A1 post' a) A1) (X : aSt D cI cM A s.heap ad0 n0 H locs ad σ) (hA : ∀ q, A1 q → A q)
    (kk : ∀ (v : Option Value) (σ' : aH) (ad' : Nat → Nat) (H1 : Heap) (locs1 : List Loc), post' v σ' → (∀ w, v = some w → aSc σ'.length w) → σ.length ≤ σ'.length → (∀ i, i < σ.length → ad' i = ad i) → aSt D cI cM A s.heap ad0 n0 H1 locs1 ad' σ' → W p l e R s m args below meth c H1 locs1 (cells + mc') (slots + ms') Q (F0 m (pc + 3) ls ((v.map (aRe ad')).toList ++ rest))) : W p l e R s m args below meth c H locs cells slots Q (F0 m pc ls st0) := by
  intro T hT Xs
  obtain ⟨v0, st₀, t, T', L, h0, X', hL, e1, e2, ⟨⟨v, σ', ad', hv, hp, hw, hsc, had, hlen, hP1, hD1⟩, hz, hk⟩, st⟩ := hr T hT Xs
  cases hv
  rw [h0] at hz hk
  have hS := X.2.2.1
  have hS1 : va_S A s.heap t.heap (locs ++ L) := ⟨Nat.le_trans hS.1 hz, fun q h1 h2 => by rw [hk q (Nat.lt_of_lt_of_le h1 hS.1) (fun z => h2 (hA q z))]; exact hS.2.1 q h1 h2, fun q hq => by
      rcases List.mem_append.mp hq with h | h
      · exact hS.2.2 q h
      · exact hA _ (hL q h)⟩
  obtain ⟨t2, a1, b1⟩ := kk v σ' ad' t.heap (locs ++ L) hp hw hlen had ⟨hP1, hD1.weaken (fun _ _ _ h => hA _ h), hS1, hsc, fun i hi => (had i (Nat.lt_of_lt_of_le hi X.2.2.2.2.2)).trans (X.2.2.2.2.1 i hi), Nat.le_trans X.2.2.2.2.2 hlen⟩ T' e1 X'
  exact ⟨t2, st t2 a1, b1⟩
theorem a_free {D : va_G} {cI cM : ClassId} {A : Nat → Prop} {ad0 : Nat → Nat} {n0 : Nat} {ad : Nat → Nat} {σ : aH} {H0 : Heap} (X : aSt D cI cM A H0 ad0 n0 H locs ad σ) (hA : ∀ q, H0.size ≤ q → A q) : ∀ q, va_A (aW cI cM ad σ) H.size q → A q := by
  intro q h
  rcases h with ⟨k, e, h⟩ | h
  · exact X.2.1.2 k (q, e) h
  · exact hA q (Nat.le_trans X.2.2.1.1 h)
end AC
def aNoMH (y : MethodName) (np : Nat) : Prop := y.cls ≠ "java/lang/invoke/MethodHandle" ∧ y.cls ≠ "java/lang/invoke/VarHandle" ∧ (parseMethodDescriptor y.desc).map (fun d => d.parameters.length) = some np
def aLV (own : String) (index : Nat) (C : String) (y : MethodName) (cc : ByteArray) (nL : Nat) (rt : Option FieldType) (np : Nat) : Prop := Cond.methodLink own index y ∈ aWd ∧ Cond.instanceMethod y ∈ aWd ∧ Cond.selects C y y ∈ aWd ∧ Cond.initialized C ∈ aWd ∧ Cond.code y cc nL rt ∈ aWd ∧ y.cls = C ∧ aNoMH y np
def aLSt (own : String) (index : Nat) (y : MethodName) (cc : ByteArray) (nL : Nat) (rt : Option FieldType) (np : Nat) : Prop := Cond.methodLink own index y ∈ aWd ∧ Cond.static y ∈ aWd ∧ Cond.initialized y.cls ∈ aWd ∧ Cond.code y cc nL rt ∈ aWd ∧ aNoMH y np
def aLSn (own : String) (index : Nat) (y : MethodName) (host : String) (cc : ByteArray) (nL : Nat) (rt : Option FieldType) (np : Nat) : Prop := (own, index, y, host) ∈ aNl ∧ Cond.static y ∈ aWd ∧ Cond.initialized y.cls ∈ aWd ∧ Cond.code y cc nL rt ∈ aWd ∧ aNoMH y np
def aLI (own : String) (index : Nat) (y : MethodName) (cc : ByteArray) (nL : Nat) (np : Nat) : Prop := Cond.methodLink own index y ∈ aWd ∧ Cond.instanceMethod y ∈ aWd ∧ Cond.initialized y.cls ∈ aWd ∧ Cond.code y cc nL none ∈ aWd ∧ y.name = "<init>" ∧ aNoMH y np
def aLIn (own : String) (index : Nat) (y : MethodName) (host : String) (cc : ByteArray) (nL : Nat) (np : Nat) : Prop := (own, index, y, host) ∈ aNl ∧ Cond.instanceMethod y ∈ aWd ∧ Cond.initialized y.cls ∈ aWd ∧ Cond.code y cc nL none ∈ aWd ∧ y.name = "<init>" ∧ aNoMH y np
def aLU (own : String) (index : Nat) (C owner : String) (x y : MethodName) (cc : ByteArray) (nL : Nat) (rt : Option FieldType) (np : Nat) : Prop := Cond.methodLink own index x ∈ aWd ∧ Cond.sameMethod x.cls owner x.name x.desc ∈ aWd ∧ Cond.instanceMethod ⟨owner, x.name, x.desc⟩ ∈ aWd ∧ Cond.selects C x y ∈ aWd ∧ Cond.instanceMethod y ∈ aWd ∧ Cond.initialized y.cls ∈ aWd ∧ Cond.code y cc nL rt ∈ aWd ∧ (∃ (b0 : ByteArray) (m0 : Nat) (r0 : Option FieldType), Cond.code ⟨owner, x.name, x.desc⟩ b0 m0 r0 ∈ aWd) ∧ (owner ≠ "java/lang/invoke/MethodHandle" ∧ owner ≠ "java/lang/invoke/VarHandle" ∧ (parseMethodDescriptor x.desc).map (fun d => d.parameters.length) = some np)
def aLSu (own : String) (index : Nat) (y : MethodName) (cc : ByteArray) (nL : Nat) (rt : Option FieldType) (np : Nat) : Prop := Cond.methodLink own index y ∈ aWd ∧ Cond.sameMethod y.cls y.cls y.name y.desc ∈ aWd ∧ Cond.superclass own y.cls ∈ aWd ∧ Cond.instanceMethod y ∈ aWd ∧ Cond.initialized y.cls ∈ aWd ∧ Cond.code y cc nL rt ∈ aWd ∧ y.name ≠ "<init>" ∧ (parseMethodDescriptor y.desc).map (fun d => d.parameters.length) = some np
theorem aWd_c {y : MethodName} {cc : ByteArray} {nL : Nat} {rt : Option FieldType} (h : Cond.code y cc nL rt ∈ aWd) : ∀ w ∈ (Cond.code y cc nL rt :: aWd), w ∈ aWd := List.forall_mem_cons.mpr ⟨h, fun _ h => h⟩
theorem aGood {ws : List Cond} (h : ∀ w ∈ ws, w ∈ aWd) : GoodIn aWd ws := fun w hw => aWd_good w (h w hw)
theorem aCons3 {w0 : Cond} {w1 : Cond} {w2 : Cond} {ws : List Cond} (h0 : w0 ∈ aWd) (h1 : w1 ∈ aWd) (h2 : w2 ∈ aWd) (h : ∀ w ∈ ws, w ∈ aWd) : ∀ w ∈ ([w0, w1, w2] : List Cond) ++ ws, w ∈ aWd := List.forall_mem_cons.mpr ⟨h0, List.forall_mem_cons.mpr ⟨h1, List.forall_mem_cons.mpr ⟨h2, h⟩⟩⟩
theorem aCons4 {w0 : Cond} {w1 : Cond} {w2 : Cond} {w3 : Cond} {ws : List Cond} (h0 : w0 ∈ aWd) (h1 : w1 ∈ aWd) (h2 : w2 ∈ aWd) (h3 : w3 ∈ aWd) (h : ∀ w ∈ ws, w ∈ aWd) : ∀ w ∈ ([w0, w1, w2, w3] : List Cond) ++ ws, w ∈ aWd := List.forall_mem_cons.mpr ⟨h0, List.forall_mem_cons.mpr ⟨h1, List.forall_mem_cons.mpr ⟨h2, List.forall_mem_cons.mpr ⟨h3, h⟩⟩⟩⟩
theorem aCons5 {w0 : Cond} {w1 : Cond} {w2 : Cond} {w3 : Cond} {w4 : Cond} {ws : List Cond} (h0 : w0 ∈ aWd) (h1 : w1 ∈ aWd) (h2 : w2 ∈ aWd) (h3 : w3 ∈ aWd) (h4 : w4 ∈ aWd) (h : ∀ w ∈ ws, w ∈ aWd) : ∀ w ∈ ([w0, w1, w2, w3, w4] : List Cond) ++ ws, w ∈ aWd := List.forall_mem_cons.mpr ⟨h0, List.forall_mem_cons.mpr ⟨h1, List.forall_mem_cons.mpr ⟨h2, List.forall_mem_cons.mpr ⟨h3, List.forall_mem_cons.mpr ⟨h4, h⟩⟩⟩⟩⟩
theorem aCons6 {w0 : Cond} {w1 : Cond} {w2 : Cond} {w3 : Cond} {w4 : Cond} {w5 : Cond} {ws : List Cond} (h0 : w0 ∈ aWd) (h1 : w1 ∈ aWd) (h2 : w2 ∈ aWd) (h3 : w3 ∈ aWd) (h4 : w4 ∈ aWd) (h5 : w5 ∈ aWd) (h : ∀ w ∈ ws, w ∈ aWd) : ∀ w ∈ ([w0, w1, w2, w3, w4, w5] : List Cond) ++ ws, w ∈ aWd := List.forall_mem_cons.mpr ⟨h0, List.forall_mem_cons.mpr ⟨h1, List.forall_mem_cons.mpr ⟨h2, List.forall_mem_cons.mpr ⟨h3, List.forall_mem_cons.mpr ⟨h4, List.forall_mem_cons.mpr ⟨h5, h⟩⟩⟩⟩⟩⟩
theorem aObj_1 : Cond.instanceMethod Lib.objectInit ∈ aWd := aWd_1 (List.mem_of_getElem? (i := 21) rfl) rfl
theorem aObj_2 : Cond.code Lib.objectInit ⟨#[0xb1]⟩ 1 none ∈ aWd := aWd_1 (List.mem_of_getElem? (i := 22) rfl) rfl
theorem aMax_1 : Cond.static Lib.Math.max.name ∈ aWd := aWd_2 (List.mem_of_getElem? (i := 202) rfl) rfl
theorem aMax_2 : Cond.initialized "java/lang/Math" ∈ aWd := aWd_1 (List.mem_of_getElem? (i := 9) rfl) rfl
theorem aMax_3 : Cond.code Lib.Math.max.name Lib.Math.max.code 2 (some .int) ∈ aWd := aWd_2 (List.mem_of_getElem? (i := 203) rfl) rfl
section AR2
variable {Y : MethodName} {cc : ByteArray} {nL : Nat} {rt : Option FieldType} {lv mc ms : Nat} {post : Option Value → aH → Prop} {k n pc pc' tgt : Nat} {L L' : List (Option Value)} {S S0 : List Value} {σ : aH}
variable {y : MethodName} {cc' : ByteArray} {nL' : Nat} {rt' : Option FieldType} {lv' mc' ms' : Nat} {post' : Option Value → aH → Prop} {As : List Value} {b index np : Nat}
theorem aRevMap (ad : Nat → Nat) (As S : List Value) : (As.reverse ++ S).map (aRe ad) = (As.map (aRe ad)).reverse ++ S.map (aRe ad) := by rw [List.map_append, List.map_reverse]
theorem aCatSum (ad : Nat → Nat) (S : List Value) : ((S.map (aRe ad)).map fun v => v.category) = S.map fun v => v.category := by
  rw [List.map_map]
  exact List.map_congr_left (fun v _ => aRe_cat ad v)
theorem aTail (ad : Nat → Nat) (v : Option Value) (S : List Value) : (v.map (aRe ad)).toList ++ S.map (aRe ad) = (v.toList ++ S).map (aRe ad) := by cases v <;> rfl
theorem aTailSc {N : Nat} {v : Option Value} (h : ∀ w, v = some w → aSc N w) (hS : ∀ w ∈ S, aSc N w) : ∀ w ∈ v.toList ++ S, aSc N w := by
  intro w hw
  rcases List.mem_append.mp hw with h1 | h1
  · cases v with
    | none => cases h1
    | some z =>
      rw [Option.toList_some, List.mem_singleton] at h1
      exact h w (by rw [h1])
  · exact hS w h1
theorem aMemA {v w : Value} {As S : List Value} (h : v ∈ w :: As) : v ∈ As.reverse ++ w :: S := by
  rcases List.mem_cons.mp h with h | h
  · exact List.mem_append_right _ (h ▸ List.mem_cons_self)
  · exact List.mem_append_left _ (List.mem_reverse.mpr h)
theorem g_callV {ci : Nat} {fs : List Value} {r : vw_C} (hd : aI3 cc pc (.invokevirtual index) pc') (hk : aLV Y.cls index r.1 y cc' nL' rt' np) (hσ : σ[b]? = some (.inr (.inr (ci, fs)))) (hr : vwCl[ci]? = some r) (hM : AMet y cc' nL' rt' lv' mc' ms' (.ref b :: As) σ post') (hst : S0 = As.reverse ++ .ref b :: S) (hnp : As.length = np) (hlv : lv' + 1 ≤ lv) (hnl : nL' ≤ 21) (hsum : (S.map fun v => v.category).sum ≤ 8) (hmc : k + mc' ≤ mc) (hms : n + ms' ≤ ms) (kk : ∀ v σ', post' v σ' → σ.length ≤ σ'.length → G Y cc nL rt lv mc ms post (k + mc') (n + ms') pc' L (v.toList ++ S) σ') : G Y cc nL rt lv mc ms post k n pc L S0 σ := by
  intro D cI cM p l e R s m args below meth c A Q ad0 n0 H locs ls ad C X hl hS
  subst hst
  obtain ⟨hd, rfl⟩ := hd
  have hRm := C.2.2.2.2.2.2.2.2.1
  have hK := C.2.2.2.2.2.2.1
  have hA0 : ∀ v ∈ (.ref b :: As), aSc σ.length v := fun v hv => hS v (aMemA hv)
  have hS2 : ∀ v ∈ S, aSc σ.length v := fun v hv => hS v (List.mem_append_right _ (List.mem_cons_of_mem _ hv))
  have hM' := hM X.2.2.2.1 hA0 l D cI cM ad H.size
  have hpre : ∀ U : State, U.heap = H → s.WarmedH U.vm → aPr D cI cM ad σ H.size U := fun U hU hW => ⟨by rw [hU], by rw [hU]; exact X.1, aK.warm hW hK, X.2.1.weaken (fun _ _ _ _ => trivial)⟩
  have hb2 : (aRm lv' mc' ms').frames + 1 ≤ R.frames ∧ 8 + (nL' + 11) + (aRm lv' mc' ms').locals ≤ R.locals := by
    have h1 := hRm.1
    have h2 := hRm.2.1
    show lv' + 1 ≤ R.frames ∧ 8 + (nL' + 11) + (40 * lv' + 20) ≤ R.locals
    omega
  have hf : k + mc' ≤ R.cells ∧ n + ms' ≤ R.slots := ⟨Nat.le_trans hmc hRm.2.2.1, Nat.le_trans hms hRm.2.2.2⟩
  have hW8 : 2 * (F0 m pc ls ((As.reverse ++ .ref b :: S).map (aRe ad))).monitorRoom + ((S.map (aRe ad)).map fun v => v.category).sum ≤ 8 := by
    rw [aCatSum]
    exact lv_room hsum
  have hAl : (As.map (aRe ad)).length = np := by rw [List.length_map]; exact hnp
  obtain ⟨w1, w2, w3, w4, w5, w6, w7⟩ := hk
  have hrun := va_runV (e := e) (below := below) (meth := meth) (locs := locs) (cells := k) (slots := n) (rest := S.map (aRe ad)) (g := F0 m pc ls ((As.reverse ++ .ref b :: S).map (aRe ad))) (As := As.map (aRe ad)) ⟨C.1, C.2.1, C.2.2.1, C.2.2.2.1, C.2.2.2.2.1⟩ hM' (cwV np C.2.2.2.2.1 (aGood (by unfold wsV; exact aCons4 w1 w2 w3 w4 (aWd_c w5))) rfl rfl rfl ⟨w6, w7⟩ hb2) ⟨aPr_blind, va_recv hK.1 X.1 hr (aW_at (cI := cI) (cM := cM) (ad := ad) hσ), fun U hU hW => ⟨rfl, hpre U hU hW⟩⟩ rfl hAl hl.1.1 (by show List.map _ _ = _; rw [aRevMap]; rfl) hW8 hd hf
  refine a_call hrun X (a_free X C.2.2.2.2.2.2.2.1) (fun v σ' ad' H1 locs1 hp hw hln had X' => ?_)
  rw [← aRe_map had hS2, aTail]
  exact (kk v σ' hp hln).use C X' (aLo_ad hl hln had) (aTailSc hw (fun w h => aSc_mono hln (hS2 w h)))
theorem g_callS (hd : aI3 cc pc (.invokestatic index) pc') (hk : aLSt Y.cls index y cc' nL' rt' np) (hM : AMet y cc' nL' rt' lv' mc' ms' As σ post') (hst : S0 = As.reverse ++ S) (hnp : As.length = np) (hlv : lv' + 1 ≤ lv) (hnl : nL' ≤ 21) (hsum : (S.map fun v => v.category).sum ≤ 8) (hmc : k + mc' ≤ mc) (hms : n + ms' ≤ ms) (kk : ∀ v σ', post' v σ' → σ.length ≤ σ'.length → G Y cc nL rt lv mc ms post (k + mc') (n + ms') pc' L (v.toList ++ S) σ') : G Y cc nL rt lv mc ms post k n pc L S0 σ := by
  intro D cI cM p l e R s m args below meth c A Q ad0 n0 H locs ls ad C X hl hS
  subst hst
  obtain ⟨hd, rfl⟩ := hd
  have hRm := C.2.2.2.2.2.2.2.2.1
  have hK := C.2.2.2.2.2.2.1
  have hA0 : ∀ v ∈ As, aSc σ.length v := fun v hv => hS v (List.mem_append_left _ (List.mem_reverse.mpr hv))
  have hS2 : ∀ v ∈ S, aSc σ.length v := fun v hv => hS v (List.mem_append_right _ hv)
  have hM' := hM X.2.2.2.1 hA0 l D cI cM ad H.size
  have hpre : ∀ U : State, U.heap = H → s.WarmedH U.vm → aPr D cI cM ad σ H.size U := fun U hU hW => ⟨by rw [hU], by rw [hU]; exact X.1, aK.warm hW hK, X.2.1.weaken (fun _ _ _ _ => trivial)⟩
  have hb2 : (aRm lv' mc' ms').frames + 1 ≤ R.frames ∧ 8 + (nL' + 11) + (aRm lv' mc' ms').locals ≤ R.locals := by
    have h1 := hRm.1
    have h2 := hRm.2.1
    show lv' + 1 ≤ R.frames ∧ 8 + (nL' + 11) + (40 * lv' + 20) ≤ R.locals
    omega
  have hf : k + mc' ≤ R.cells ∧ n + ms' ≤ R.slots := ⟨Nat.le_trans hmc hRm.2.2.1, Nat.le_trans hms hRm.2.2.2⟩
  have hW8 : 2 * (F0 m pc ls ((As.reverse ++ S).map (aRe ad))).monitorRoom + ((S.map (aRe ad)).map fun v => v.category).sum ≤ 8 := by
    rw [aCatSum]
    exact lv_room hsum
  have hAl : (As.map (aRe ad)).length = np := by rw [List.length_map]; exact hnp
  obtain ⟨w1, w2, w3, w4, w5⟩ := hk
  have hrun := va_runS (e := e) (below := below) (meth := meth) (locs := locs) (cells := k) (slots := n) (rest := S.map (aRe ad)) (g := F0 m pc ls ((As.reverse ++ S).map (aRe ad))) (As := As.map (aRe ad)) ⟨C.1, C.2.1, C.2.2.1, C.2.2.2.1, C.2.2.2.2.1⟩ hM' (va_cwS np C.2.2.2.2.1 (aGood (by unfold va_wsS; exact aCons3 w1 w2 w3 (aWd_c w4))) rfl rfl rfl w5 hb2) ⟨aPr_blind, fun U hU hW => ⟨rfl, hpre U hU hW⟩⟩ rfl hAl hl.1.1 (by show List.map _ _ = _; rw [aRevMap]) hW8 hd hf
  refine a_call hrun X (a_free X C.2.2.2.2.2.2.2.1) (fun v σ' ad' H1 locs1 hp hw hln had X' => ?_)
  rw [← aRe_map had hS2, aTail]
  exact (kk v σ' hp hln).use C X' (aLo_ad hl hln had) (aTailSc hw (fun w h => aSc_mono hln (hS2 w h)))
theorem g_callSn {host : String} (hd : aI3 cc pc (.invokestatic index) pc') (hk : aLSn Y.cls index y host cc' nL' rt' np) (hM : AMet y cc' nL' rt' lv' mc' ms' As σ post') (hst : S0 = As.reverse ++ S) (hnp : As.length = np) (hlv : lv' + 1 ≤ lv) (hnl : nL' ≤ 21) (hsum : (S.map fun v => v.category).sum ≤ 8) (hmc : k + mc' ≤ mc) (hms : n + ms' ≤ ms) (kk : ∀ v σ', post' v σ' → σ.length ≤ σ'.length → G Y cc nL rt lv mc ms post (k + mc') (n + ms') pc' L (v.toList ++ S) σ') : G Y cc nL rt lv mc ms post k n pc L S0 σ := by
  intro D cI cM p l e R s m args below meth c A Q ad0 n0 H locs ls ad C X hl hS
  subst hst
  obtain ⟨hd, rfl⟩ := hd
  have hRm := C.2.2.2.2.2.2.2.2.1
  have hK := C.2.2.2.2.2.2.1
  have hA0 : ∀ v ∈ As, aSc σ.length v := fun v hv => hS v (List.mem_append_left _ (List.mem_reverse.mpr hv))
  have hS2 : ∀ v ∈ S, aSc σ.length v := fun v hv => hS v (List.mem_append_right _ hv)
  have hM' := hM X.2.2.2.1 hA0 l D cI cM ad H.size
  have hpre : ∀ U : State, U.heap = H → s.WarmedH U.vm → aPr D cI cM ad σ H.size U := fun U hU hW => ⟨by rw [hU], by rw [hU]; exact X.1, aK.warm hW hK, X.2.1.weaken (fun _ _ _ _ => trivial)⟩
  have hb2 : (aRm lv' mc' ms').frames + 1 ≤ R.frames ∧ 8 + (nL' + 11) + (aRm lv' mc' ms').locals ≤ R.locals := by
    have h1 := hRm.1
    have h2 := hRm.2.1
    show lv' + 1 ≤ R.frames ∧ 8 + (nL' + 11) + (40 * lv' + 20) ≤ R.locals
    omega
  have hf : k + mc' ≤ R.cells ∧ n + ms' ≤ R.slots := ⟨Nat.le_trans hmc hRm.2.2.1, Nat.le_trans hms hRm.2.2.2⟩
  have hW8 : 2 * (F0 m pc ls ((As.reverse ++ S).map (aRe ad))).monitorRoom + ((S.map (aRe ad)).map fun v => v.category).sum ≤ 8 := by
    rw [aCatSum]
    exact lv_room hsum
  have hAl : (As.map (aRe ad)).length = np := by rw [List.length_map]; exact hnp
  obtain ⟨w1, w2, w3, w4, w5⟩ := hk
  have hrun := va_runSN (e := e) (below := below) (meth := meth) (locs := locs) (cells := k) (slots := n) (rest := S.map (aRe ad)) (g := F0 m pc ls ((As.reverse ++ S).map (aRe ad))) (As := As.map (aRe ad)) ⟨C.1, C.2.1, C.2.2.1, C.2.2.2.1, C.2.2.2.2.1⟩ hM' ⟨va_cnB np C.2.2.2.2.1 (aGood (aWd_c w4)) rfl rfl rfl (hK.2.1 _ w1) (C.2.2.2.2.1 _ w3) w5 hb2, C.2.2.2.2.1 _ w2, trivial⟩ ⟨aPr_blind, fun U hU hW => ⟨rfl, hpre U hU hW⟩⟩ rfl hAl hl.1.1 (by show List.map _ _ = _; rw [aRevMap]) hW8 hd hf
  refine a_call hrun X (a_free X C.2.2.2.2.2.2.2.1) (fun v σ' ad' H1 locs1 hp hw hln had X' => ?_)
  rw [← aRe_map had hS2, aTail]
  exact (kk v σ' hp hln).use C X' (aLo_ad hl hln had) (aTailSc hw (fun w h => aSc_mono hln (hS2 w h)))
theorem g_init (hd : aI3 cc pc (.invokespecial index) pc') (hk : aLI Y.cls index y cc' nL' np) (hM : AMet y cc' nL' none lv' mc' ms' (.ref b :: As) σ post') (hst : S0 = As.reverse ++ .ref b :: S) (hnp : As.length = np) (hlv : lv' + 1 ≤ lv) (hnl : nL' ≤ 21) (hsum : (S.map fun v => v.category).sum ≤ 8) (hmc : k + mc' ≤ mc) (hms : n + ms' ≤ ms) (kk : ∀ v σ', post' v σ' → σ.length ≤ σ'.length → G Y cc nL rt lv mc ms post (k + mc') (n + ms') pc' L (v.toList ++ S) σ') : G Y cc nL rt lv mc ms post k n pc L S0 σ := by
  intro D cI cM p l e R s m args below meth c A Q ad0 n0 H locs ls ad C X hl hS
  subst hst
  obtain ⟨hd, rfl⟩ := hd
  have hRm := C.2.2.2.2.2.2.2.2.1
  have hK := C.2.2.2.2.2.2.1
  have hA0 : ∀ v ∈ (.ref b :: As), aSc σ.length v := fun v hv => hS v (aMemA hv)
  have hS2 : ∀ v ∈ S, aSc σ.length v := fun v hv => hS v (List.mem_append_right _ (List.mem_cons_of_mem _ hv))
  have hM' := hM X.2.2.2.1 hA0 l D cI cM ad H.size
  have hpre : ∀ U : State, U.heap = H → s.WarmedH U.vm → aPr D cI cM ad σ H.size U := fun U hU hW => ⟨by rw [hU], by rw [hU]; exact X.1, aK.warm hW hK, X.2.1.weaken (fun _ _ _ _ => trivial)⟩
  have hb2 : (aRm lv' mc' ms').frames + 1 ≤ R.frames ∧ 8 + (nL' + 11) + (aRm lv' mc' ms').locals ≤ R.locals := by
    have h1 := hRm.1
    have h2 := hRm.2.1
    show lv' + 1 ≤ R.frames ∧ 8 + (nL' + 11) + (40 * lv' + 20) ≤ R.locals
    omega
  have hf : k + mc' ≤ R.cells ∧ n + ms' ≤ R.slots := ⟨Nat.le_trans hmc hRm.2.2.1, Nat.le_trans hms hRm.2.2.2⟩
  have hW8 : 2 * (F0 m pc ls ((As.reverse ++ .ref b :: S).map (aRe ad))).monitorRoom + ((S.map (aRe ad)).map fun v => v.category).sum ≤ 8 := by
    rw [aCatSum]
    exact lv_room hsum
  have hAl : (As.map (aRe ad)).length = np := by rw [List.length_map]; exact hnp
  obtain ⟨w1, w2, w3, w4, w5, w6⟩ := hk
  have hrun := va_runI (e := e) (below := below) (meth := meth) (locs := locs) (cells := k) (slots := n) (rest := S.map (aRe ad)) (g := F0 m pc ls ((As.reverse ++ .ref b :: S).map (aRe ad))) (As := As.map (aRe ad)) ⟨C.1, C.2.1, C.2.2.1, C.2.2.2.1, C.2.2.2.2.1⟩ hM' (cwI np C.2.2.2.2.1 (aGood (aWd_c w4)) rfl rfl rfl (C.2.2.2.2.1 _ w3) (C.2.2.2.2.1 _ w1) (C.2.2.2.2.1 _ w2) w5 w6 hb2) ⟨aPr_blind, fun U hU hW => ⟨rfl, hpre U hU hW⟩⟩ rfl hAl hl.1.1 (by show List.map _ _ = _; rw [aRevMap]; rfl) hW8 hd hf
  refine a_call hrun X (a_free X C.2.2.2.2.2.2.2.1) (fun v σ' ad' H1 locs1 hp hw hln had X' => ?_)
  rw [← aRe_map had hS2, aTail]
  exact (kk v σ' hp hln).use C X' (aLo_ad hl hln had) (aTailSc hw (fun w h => aSc_mono hln (hS2 w h)))
theorem g_initn {host : String} (hd : aI3 cc pc (.invokespecial index) pc') (hk : aLIn Y.cls index y host cc' nL' np) (hM : AMet y cc' nL' none lv' mc' ms' (.ref b :: As) σ post') (hst : S0 = As.reverse ++ .ref b :: S) (hnp : As.length = np) (hlv : lv' + 1 ≤ lv) (hnl : nL' ≤ 21) (hsum : (S.map fun v => v.category).sum ≤ 8) (hmc : k + mc' ≤ mc) (hms : n + ms' ≤ ms) (kk : ∀ v σ', post' v σ' → σ.length ≤ σ'.length → G Y cc nL rt lv mc ms post (k + mc') (n + ms') pc' L (v.toList ++ S) σ') : G Y cc nL rt lv mc ms post k n pc L S0 σ := by
  intro D cI cM p l e R s m args below meth c A Q ad0 n0 H locs ls ad C X hl hS
  subst hst
  obtain ⟨hd, rfl⟩ := hd
  have hRm := C.2.2.2.2.2.2.2.2.1
  have hK := C.2.2.2.2.2.2.1
  have hA0 : ∀ v ∈ (.ref b :: As), aSc σ.length v := fun v hv => hS v (aMemA hv)
  have hS2 : ∀ v ∈ S, aSc σ.length v := fun v hv => hS v (List.mem_append_right _ (List.mem_cons_of_mem _ hv))
  have hM' := hM X.2.2.2.1 hA0 l D cI cM ad H.size
  have hpre : ∀ U : State, U.heap = H → s.WarmedH U.vm → aPr D cI cM ad σ H.size U := fun U hU hW => ⟨by rw [hU], by rw [hU]; exact X.1, aK.warm hW hK, X.2.1.weaken (fun _ _ _ _ => trivial)⟩
  have hb2 : (aRm lv' mc' ms').frames + 1 ≤ R.frames ∧ 8 + (nL' + 11) + (aRm lv' mc' ms').locals ≤ R.locals := by
    have h1 := hRm.1
    have h2 := hRm.2.1
    show lv' + 1 ≤ R.frames ∧ 8 + (nL' + 11) + (40 * lv' + 20) ≤ R.locals
    omega
  have hf : k + mc' ≤ R.cells ∧ n + ms' ≤ R.slots := ⟨Nat.le_trans hmc hRm.2.2.1, Nat.le_trans hms hRm.2.2.2⟩
  have hW8 : 2 * (F0 m pc ls ((As.reverse ++ .ref b :: S).map (aRe ad))).monitorRoom + ((S.map (aRe ad)).map fun v => v.category).sum ≤ 8 := by
    rw [aCatSum]
    exact lv_room hsum
  have hAl : (As.map (aRe ad)).length = np := by rw [List.length_map]; exact hnp
  obtain ⟨w1, w2, w3, w4, w5, w6⟩ := hk
  have hrun := va_runIN (e := e) (below := below) (meth := meth) (locs := locs) (cells := k) (slots := n) (rest := S.map (aRe ad)) (g := F0 m pc ls ((As.reverse ++ .ref b :: S).map (aRe ad))) (As := As.map (aRe ad)) ⟨C.1, C.2.1, C.2.2.1, C.2.2.2.1, C.2.2.2.2.1⟩ hM' ⟨va_cnB np C.2.2.2.2.1 (aGood (aWd_c w4)) rfl rfl rfl (hK.2.1 _ w1) (C.2.2.2.2.1 _ w3) w6 hb2, w5, C.2.2.2.2.1 _ w2⟩ ⟨aPr_blind, fun U hU hW => ⟨rfl, hpre U hU hW⟩⟩ rfl hAl hl.1.1 (by show List.map _ _ = _; rw [aRevMap]; rfl) hW8 hd hf
  refine a_call hrun X (a_free X C.2.2.2.2.2.2.2.1) (fun v σ' ad' H1 locs1 hp hw hln had X' => ?_)
  rw [← aRe_map had hS2, aTail]
  exact (kk v σ' hp hln).use C X' (aLo_ad hl hln had) (aTailSc hw (fun w h => aSc_mono hln (hS2 w h)))
theorem g_callU {ci : Nat} {fs : List Value} {r : vw_C} {owner : String} {x : MethodName} (hd : aI3 cc pc (.invokevirtual index) pc') (hk : aLU Y.cls index r.1 owner x y cc' nL' rt' np) (hσ : σ[b]? = some (.inr (.inr (ci, fs)))) (hr : vwCl[ci]? = some r) (hM : AMet y cc' nL' rt' lv' mc' ms' (.ref b :: As) σ post') (hst : S0 = As.reverse ++ .ref b :: S) (hnp : As.length = np) (hlv : lv' + 1 ≤ lv) (hnl : nL' ≤ 21) (hsum : (S.map fun v => v.category).sum ≤ 8) (hmc : k + mc' ≤ mc) (hms : n + ms' ≤ ms) (kk : ∀ v σ', post' v σ' → σ.length ≤ σ'.length → G Y cc nL rt lv mc ms post (k + mc') (n + ms') pc' L (v.toList ++ S) σ') : G Y cc nL rt lv mc ms post k n pc L S0 σ := by
  intro D cI cM p l e R s m args below meth c A Q ad0 n0 H locs ls ad C X hl hS
  subst hst
  obtain ⟨hd, rfl⟩ := hd
  have hRm := C.2.2.2.2.2.2.2.2.1
  have hK := C.2.2.2.2.2.2.1
  have hA0 : ∀ v ∈ (.ref b :: As), aSc σ.length v := fun v hv => hS v (aMemA hv)
  have hS2 : ∀ v ∈ S, aSc σ.length v := fun v hv => hS v (List.mem_append_right _ (List.mem_cons_of_mem _ hv))
  have hM' := hM X.2.2.2.1 hA0 l D cI cM ad H.size
  have hpre : ∀ U : State, U.heap = H → s.WarmedH U.vm → aPr D cI cM ad σ H.size U := fun U hU hW => ⟨by rw [hU], by rw [hU]; exact X.1, aK.warm hW hK, X.2.1.weaken (fun _ _ _ _ => trivial)⟩
  have hb2 : (aRm lv' mc' ms').frames + 1 ≤ R.frames ∧ 8 + (nL' + 11) + (aRm lv' mc' ms').locals ≤ R.locals := by
    have h1 := hRm.1
    have h2 := hRm.2.1
    show lv' + 1 ≤ R.frames ∧ 8 + (nL' + 11) + (40 * lv' + 20) ≤ R.locals
    omega
  have hf : k + mc' ≤ R.cells ∧ n + ms' ≤ R.slots := ⟨Nat.le_trans hmc hRm.2.2.1, Nat.le_trans hms hRm.2.2.2⟩
  have hW8 : 2 * (F0 m pc ls ((As.reverse ++ .ref b :: S).map (aRe ad))).monitorRoom + ((S.map (aRe ad)).map fun v => v.category).sum ≤ 8 := by
    rw [aCatSum]
    exact lv_room hsum
  have hAl : (As.map (aRe ad)).length = np := by rw [List.length_map]; exact hnp
  obtain ⟨w1, w2, w3, w4, w5, w6, w7, ⟨b0, m0, r0, w8⟩, w9⟩ := hk
  have hrun := va_runU (e := e) (below := below) (meth := meth) (locs := locs) (cells := k) (slots := n) (rest := S.map (aRe ad)) (g := F0 m pc ls ((As.reverse ++ .ref b :: S).map (aRe ad))) (As := As.map (aRe ad)) ⟨C.1, C.2.1, C.2.2.1, C.2.2.2.1, C.2.2.2.2.1⟩ hM' (va_cwO np C.2.2.2.2.1 (aGood (by unfold va_wsO; exact aCons6 w1 w2 w3 w4 w5 w6 (aWd_c w7))) rfl rfl rfl w8 w9 hb2) ⟨aPr_blind, va_recv hK.1 X.1 hr (aW_at (cI := cI) (cM := cM) (ad := ad) hσ), fun U hU hW => ⟨rfl, hpre U hU hW⟩⟩ rfl hAl hl.1.1 (by show List.map _ _ = _; rw [aRevMap]; rfl) hW8 hd hf
  refine a_call hrun X (a_free X C.2.2.2.2.2.2.2.1) (fun v σ' ad' H1 locs1 hp hw hln had X' => ?_)
  rw [← aRe_map had hS2, aTail]
  exact (kk v σ' hp hln).use C X' (aLo_ad hl hln had) (aTailSc hw (fun w h => aSc_mono hln (hS2 w h)))
theorem g_callSu {ci : Nat} {fs : List Value} {r : vw_C} (hd : aI3 cc pc (.invokespecial index) pc') (hk : aLSu Y.cls index y cc' nL' rt' np) (hσ : σ[b]? = some (.inr (.inr (ci, fs)))) (hr : vwCl[ci]? = some r) (hM : AMet y cc' nL' rt' lv' mc' ms' (.ref b :: As) σ post') (hst : S0 = As.reverse ++ .ref b :: S) (hnp : As.length = np) (hlv : lv' + 1 ≤ lv) (hnl : nL' ≤ 21) (hsum : (S.map fun v => v.category).sum ≤ 8) (hmc : k + mc' ≤ mc) (hms : n + ms' ≤ ms) (kk : ∀ v σ', post' v σ' → σ.length ≤ σ'.length → G Y cc nL rt lv mc ms post (k + mc') (n + ms') pc' L (v.toList ++ S) σ') : G Y cc nL rt lv mc ms post k n pc L S0 σ := by
  intro D cI cM p l e R s m args below meth c A Q ad0 n0 H locs ls ad C X hl hS
  subst hst
  obtain ⟨hd, rfl⟩ := hd
  have hRm := C.2.2.2.2.2.2.2.2.1
  have hK := C.2.2.2.2.2.2.1
  have hA0 : ∀ v ∈ (.ref b :: As), aSc σ.length v := fun v hv => hS v (aMemA hv)
  have hS2 : ∀ v ∈ S, aSc σ.length v := fun v hv => hS v (List.mem_append_right _ (List.mem_cons_of_mem _ hv))
  have hM' := hM X.2.2.2.1 hA0 l D cI cM ad H.size
  have hpre : ∀ U : State, U.heap = H → s.WarmedH U.vm → aPr D cI cM ad σ H.size U := fun U hU hW => ⟨by rw [hU], by rw [hU]; exact X.1, aK.warm hW hK, X.2.1.weaken (fun _ _ _ _ => trivial)⟩
  have hb2 : (aRm lv' mc' ms').frames + 1 ≤ R.frames ∧ 8 + (nL' + 11) + (aRm lv' mc' ms').locals ≤ R.locals := by
    have h1 := hRm.1
    have h2 := hRm.2.1
    show lv' + 1 ≤ R.frames ∧ 8 + (nL' + 11) + (40 * lv' + 20) ≤ R.locals
    omega
  have hf : k + mc' ≤ R.cells ∧ n + ms' ≤ R.slots := ⟨Nat.le_trans hmc hRm.2.2.1, Nat.le_trans hms hRm.2.2.2⟩
  have hW8 : 2 * (F0 m pc ls ((As.reverse ++ .ref b :: S).map (aRe ad))).monitorRoom + ((S.map (aRe ad)).map fun v => v.category).sum ≤ 8 := by
    rw [aCatSum]
    exact lv_room hsum
  have hAl : (As.map (aRe ad)).length = np := by rw [List.length_map]; exact hnp
  obtain ⟨w1, w2, w3, w4, w5, w6, w7, w8⟩ := hk
  have hrun := va_runSU (e := e) (below := below) (meth := meth) (locs := locs) (cells := k) (slots := n) (rest := S.map (aRe ad)) (g := F0 m pc ls ((As.reverse ++ .ref b :: S).map (aRe ad))) (As := As.map (aRe ad)) (hK.1.1 ci r hr).2 ⟨C.1, C.2.1, C.2.2.1, C.2.2.2.1, C.2.2.2.2.1⟩ hM' (va_cwSU np C.2.2.2.2.1 (aGood (by unfold va_wsSU; exact aCons5 w1 w2 w3 w4 w5 (aWd_c w6))) rfl rfl rfl ⟨w7, w8⟩ hb2) ⟨aPr_blind, va_recv hK.1 X.1 hr (aW_at (cI := cI) (cM := cM) (ad := ad) hσ), fun U hU hW => ⟨rfl, hpre U hU hW⟩⟩ rfl hAl hl.1.1 (by show List.map _ _ = _; rw [aRevMap]; rfl) hW8 hd hf
  refine a_call hrun X (a_free X C.2.2.2.2.2.2.2.1) (fun v σ' ad' H1 locs1 hp hw hln had X' => ?_)
  rw [← aRe_map had hS2, aTail]
  exact (kk v σ' hp hln).use C X' (aLo_ad hl hln had) (aTailSc hw (fun w h => aSc_mono hln (hS2 w h)))
theorem g_obj {b : Nat} (hd : aI3 cc pc (.invokespecial index) pc') (hw : Cond.methodLink Y.cls index Lib.objectInit ∈ aWd) (hlv : 1 ≤ lv) (hsum : (S.map fun v => v.category).sum ≤ 8) (kk : G Y cc nL rt lv mc ms post k n pc' L S σ) : G Y cc nL rt lv mc ms post k n pc L (.ref b :: S) σ := by
  intro D cI cM p l e R s m args below meth c A Q ad0 n0 H locs ls ad C X hl hS
  obtain ⟨hd, rfl⟩ := hd
  have hRm := C.2.2.2.2.2.2.2.2.1
  refine W.objInit (rest := S.map (aRe ad)) C.1 C.2.1 C.2.2.2.1 (C.2.2.2.2.1 _ hw) (C.2.2.2.2.1 _ aObj_1) (C.2.2.2.2.1 _ aObj_2) rfl (by rw [C.2.2.1]; exact hl.1.1) rfl hd (Nat.le_trans hlv hRm.1) ?_ (kk.use C X hl (aS1 hS))
  have h2 := hRm.2.1
  rw [aCatSum]
  have h3 := lv_room (m := m) (pc := pc) (ls := ls) (rest := S.map (aRe ad)) hsum
  show 2 * 0 + _ + 12 ≤ _
  omega
theorem g_max {x z : Int32} (hd : aI3 cc pc (.invokestatic index) pc') (hw : Cond.methodLink Y.cls index Lib.Math.max.name ∈ aWd) (hlv : 1 ≤ lv) (hsum : (S.map fun v => v.category).sum ≤ 8) (hmc : k ≤ mc) (hms : n ≤ ms) (kk : G Y cc nL rt lv mc ms post k n pc' L (.int (if x < z then z else x) :: S) σ) : G Y cc nL rt lv mc ms post k n pc L (.int z :: .int x :: S) σ := by
  intro D cI cM p l e R s m args below meth c A Q ad0 n0 H locs ls ad C X hl hS
  obtain ⟨hd, rfl⟩ := hd
  have hRm := C.2.2.2.2.2.2.2.2.1
  refine va_mmax (rest := S.map (aRe ad)) C.1 C.2.1 (C.2.2.1.trans hl.1.1.symm) C.2.2.2.1 (C.2.2.2.2.1 _ hw) (C.2.2.2.2.1 _ aMax_1) (C.2.2.2.2.1 _ aMax_2) (C.2.2.2.2.1 _ aMax_3) (Nat.le_trans hlv hRm.1) ?_ (Nat.le_trans hmc hRm.2.2.1) (Nat.le_trans hms hRm.2.2.2) hd (kk.use C X hl (aSI (aS2 hS)))
  have h2 := hRm.2.1
  rw [aCatSum]
  omega
end AR2
