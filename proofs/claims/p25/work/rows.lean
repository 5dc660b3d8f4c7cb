section
-- ===== PART A: goes FIRST, ahead of the names: the tables' words, and 'selects' of the private methods out of them =====
/-- a private method of a class that the tables say can be made, by its rows of tables_1 -/
def lw_okq (q : MethodName × Nat) : Prop := (q.1.cls ≠ "java/lang/invoke/MethodHandle" ∧ q.1.cls ≠ "java/lang/invoke/VarHandle") ∧ Cond.instantiable q.1.cls q.2 ∈ tables_1 ∧ Cond.privateMethod q.1 ∈ tables_1 ∧ Cond.instanceMethod q.1 ∈ tables_1
theorem lw_p0 : lw_okq (⟨"ReadAloud$Walk", "enter", "(I)V"⟩, 3) := ⟨⟨by decide +kernel, by decide +kernel⟩, List.mem_of_getElem? (i := 30) (by decide +kernel), List.mem_of_getElem? (i := 179) (by decide +kernel), List.mem_of_getElem? (i := 180) (by decide +kernel)⟩
theorem lw_p1 : lw_okq (⟨"ReadAloud$Walk", "passesWord", "(I)Z"⟩, 3) := ⟨⟨by decide +kernel, by decide +kernel⟩, List.mem_of_getElem? (i := 30) (by decide +kernel), List.mem_of_getElem? (i := 190) (by decide +kernel), List.mem_of_getElem? (i := 191) (by decide +kernel)⟩
theorem lw_p2 : lw_okq (⟨"ReadAloud", "readCourt", "()V"⟩, 10) := ⟨⟨by decide +kernel, by decide +kernel⟩, List.mem_of_getElem? (i := 16) (by decide +kernel), List.mem_of_getElem? (i := 207) (by decide +kernel), List.mem_of_getElem? (i := 208) (by decide +kernel)⟩
theorem lw_p3 : lw_okq (⟨"ReadAloud", "hasCourt", "()Z"⟩, 10) := ⟨⟨by decide +kernel, by decide +kernel⟩, List.mem_of_getElem? (i := 16) (by decide +kernel), List.mem_of_getElem? (i := 248) (by decide +kernel), List.mem_of_getElem? (i := 249) (by decide +kernel)⟩
theorem lw_p4 : lw_okq (⟨"ReadAloud", "manOf", "(I)LReadAloud$Man;"⟩, 10) := ⟨⟨by decide +kernel, by decide +kernel⟩, List.mem_of_getElem? (i := 16) (by decide +kernel), List.mem_of_getElem? (i := 332) (by decide +kernel), List.mem_of_getElem? (i := 333) (by decide +kernel)⟩
theorem lw_p5 : lw_okq (⟨"ReadAloud", "isAccused", "(I)Z"⟩, 10) := ⟨⟨by decide +kernel, by decide +kernel⟩, List.mem_of_getElem? (i := 16) (by decide +kernel), List.mem_of_getElem? (i := 336) (by decide +kernel), List.mem_of_getElem? (i := 337) (by decide +kernel)⟩
theorem lw_p6 : lw_okq (⟨"ReadAloud", "alteredBy", "(ILReadAloud$Sheet;)I"⟩, 10) := ⟨⟨by decide +kernel, by decide +kernel⟩, List.mem_of_getElem? (i := 16) (by decide +kernel), List.mem_of_getElem? (i := 366) (by decide +kernel), List.mem_of_getElem? (i := 367) (by decide +kernel)⟩
theorem lw_p7 : lw_okq (⟨"ReadAloud", "deedOf", "(I)I"⟩, 10) := ⟨⟨by decide +kernel, by decide +kernel⟩, List.mem_of_getElem? (i := 16) (by decide +kernel), List.mem_of_getElem? (i := 370) (by decide +kernel), List.mem_of_getElem? (i := 371) (by decide +kernel)⟩
theorem lw_p8 : lw_okq (⟨"ReadAloud", "hiddenBy", "(I)I"⟩, 10) := ⟨⟨by decide +kernel, by decide +kernel⟩, List.mem_of_getElem? (i := 16) (by decide +kernel), List.mem_of_getElem? (i := 374) (by decide +kernel), List.mem_of_getElem? (i := 375) (by decide +kernel)⟩
theorem lw_p9 : lw_okq (⟨"ReadAloud", "wouldAlter", "(ILReadAloud$Sheet;II)I"⟩, 10) := ⟨⟨by decide +kernel, by decide +kernel⟩, List.mem_of_getElem? (i := 16) (by decide +kernel), List.mem_of_getElem? (i := 378) (by decide +kernel), List.mem_of_getElem? (i := 379) (by decide +kernel)⟩
theorem lw_p10 : lw_okq (⟨"ReadAloud", "placeToListen", "(I)I"⟩, 10) := ⟨⟨by decide +kernel, by decide +kernel⟩, List.mem_of_getElem? (i := 16) (by decide +kernel), List.mem_of_getElem? (i := 434) (by decide +kernel), List.mem_of_getElem? (i := 435) (by decide +kernel)⟩
theorem lw_p11 : lw_okq (⟨"ReadAloud", "deedsAltering", "(II)I"⟩, 10) := ⟨⟨by decide +kernel, by decide +kernel⟩, List.mem_of_getElem? (i := 16) (by decide +kernel), List.mem_of_getElem? (i := 438) (by decide +kernel), List.mem_of_getElem? (i := 439) (by decide +kernel)⟩
theorem lw_p12 : lw_okq (⟨"ReadAloud", "drawSheet", "(I)I"⟩, 10) := ⟨⟨by decide +kernel, by decide +kernel⟩, List.mem_of_getElem? (i := 16) (by decide +kernel), List.mem_of_getElem? (i := 464) (by decide +kernel), List.mem_of_getElem? (i := 465) (by decide +kernel)⟩
theorem lw_p13 : lw_okq (⟨"ReadAloud", "hangingAt", "(LReadAloud$Sheet;)I"⟩, 10) := ⟨⟨by decide +kernel, by decide +kernel⟩, List.mem_of_getElem? (i := 16) (by decide +kernel), List.mem_of_getElem? (i := 472) (by decide +kernel), List.mem_of_getElem? (i := 473) (by decide +kernel)⟩
theorem lw_p14 : lw_okq (⟨"ReadAloud", "allAltering", "(LReadAloud$Sheet;)I"⟩, 10) := ⟨⟨by decide +kernel, by decide +kernel⟩, List.mem_of_getElem? (i := 16) (by decide +kernel), List.mem_of_getElem? (i := 476) (by decide +kernel), List.mem_of_getElem? (i := 477) (by decide +kernel)⟩
def lw_privs_1 : List (MethodName × Nat) := [(⟨"ReadAloud$Walk", "enter", "(I)V"⟩, 3), (⟨"ReadAloud$Walk", "passesWord", "(I)Z"⟩, 3), (⟨"ReadAloud", "readCourt", "()V"⟩, 10), (⟨"ReadAloud", "hasCourt", "()Z"⟩, 10), (⟨"ReadAloud", "manOf", "(I)LReadAloud$Man;"⟩, 10), (⟨"ReadAloud", "isAccused", "(I)Z"⟩, 10), (⟨"ReadAloud", "alteredBy", "(ILReadAloud$Sheet;)I"⟩, 10), (⟨"ReadAloud", "deedOf", "(I)I"⟩, 10), (⟨"ReadAloud", "hiddenBy", "(I)I"⟩, 10), (⟨"ReadAloud", "wouldAlter", "(ILReadAloud$Sheet;II)I"⟩, 10), (⟨"ReadAloud", "placeToListen", "(I)I"⟩, 10), (⟨"ReadAloud", "deedsAltering", "(II)I"⟩, 10), (⟨"ReadAloud", "drawSheet", "(I)I"⟩, 10), (⟨"ReadAloud", "hangingAt", "(LReadAloud$Sheet;)I"⟩, 10), (⟨"ReadAloud", "allAltering", "(LReadAloud$Sheet;)I"⟩, 10)]
theorem lw_r1 : ∀ q ∈ lw_privs_1, lw_okq q := List.forall_mem_cons.mpr ⟨lw_p0, List.forall_mem_cons.mpr ⟨lw_p1, List.forall_mem_cons.mpr ⟨lw_p2, List.forall_mem_cons.mpr ⟨lw_p3, List.forall_mem_cons.mpr ⟨lw_p4, List.forall_mem_cons.mpr ⟨lw_p5, List.forall_mem_cons.mpr ⟨lw_p6, List.forall_mem_cons.mpr ⟨lw_p7, List.forall_mem_cons.mpr ⟨lw_p8, List.forall_mem_cons.mpr ⟨lw_p9, List.forall_mem_cons.mpr ⟨lw_p10, List.forall_mem_cons.mpr ⟨lw_p11, List.forall_mem_cons.mpr ⟨lw_p12, List.forall_mem_cons.mpr ⟨lw_p13, List.forall_mem_cons.mpr ⟨lw_p14, fun _ h => absurd h List.not_mem_nil⟩⟩⟩⟩⟩⟩⟩⟩⟩⟩⟩⟩⟩⟩⟩
def lw_privs : List (MethodName × Nat) := lw_privs_1
def lw_tbl : List Cond := k2_sels lw_privs ++ tables_1
theorem lw_privs_ok : ∀ q ∈ lw_privs, lw_okq q := lw_r1
theorem goodIn_r {big : List Cond} (ws : List Cond) (ps : List Nat) (hp : ws = ps.filterMap (fun i => big[i]?)) (h : ws.all goodWord = true) : GoodIn big ws := by
  intro w hw
  have h1 := List.all_eq_true.mp h w hw
  rw [hp] at hw
  obtain ⟨i, -, hi⟩ := List.mem_filterMap.mp hw
  have hm : w ∈ big := by first | exact List.mem_of_getElem? hi | exact List.getElem?_mem hi
  exact ⟨hm, good_of_word h1⟩
theorem goodIn_app {big a b : List Cond} (ha : GoodIn big a) (hb : GoodIn big b) : GoodIn big (a ++ b) := fun w h => (List.mem_append.mp h).elim (ha w) (hb w)
theorem goodIn_ca {big a b : List Cond} {c : Cond} (ha : GoodIn big (c :: a)) (hb : GoodIn big b) : GoodIn big (c :: (a ++ b)) := fun w h => (List.mem_cons.mp h).elim (fun e => ha w (List.mem_cons.mpr (Or.inl e))) (fun h => (List.mem_append.mp h).elim (fun h => ha w (List.mem_cons.mpr (Or.inr h))) (hb w))
theorem goodIn_sub {big ws : List Cond} (hm : ∀ w ∈ ws, w ∈ big) (h : ws.all goodWord = true) : GoodIn big ws := fun w hw => ⟨hm w hw, good_of_word (List.all_eq_true.mp h w hw)⟩

def RX0 : String := "ReadAloud$Actor"
def TX0 : u_T := fun k => match k with
  | _ => ("ReadAloud$Man", "deed", "I", true)
def tyX0 : Nat → FieldType := fun k => match k with
  | _ => .int
abbrev wsX00 : List Cond := u_ws RX0 TX0 1
theorem nmX0 : ∀ a, a < 1 → ∀ b, b < 1 → a ≠ b → (TX0 a).2.1 ≠ (TX0 b).2.1 := by decide +kernel
theorem tyX0_ok : ∀ k, k < 1 → parseFieldDescriptor (TX0 k).2.2.1 = some (tyX0 k) := by decide +kernel
abbrev cX0_init : ByteArray := prog_2_method_1_code
def yX0_init : MethodName := ⟨RX0, "<init>", "(I)V"⟩
abbrev cX0_kind : ByteArray := prog_2_method_2_code
def yX0_kind : MethodName := ⟨RX0, "kind", "()I"⟩
abbrev cX0_placesByDeed : ByteArray := prog_2_method_3_code
def yX0_placesByDeed : MethodName := ⟨RX0, "placesByDeed", "(LReadAloud$Sheet;I)I"⟩
def RX1 : String := "ReadAloud$Boy"
def TX1 : u_T := fun k => match k with
  | _ => ("ReadAloud$Man", "deed", "I", true)
def tyX1 : Nat → FieldType := fun k => match k with
  | _ => .int
abbrev wsX10 : List Cond := u_ws RX1 TX1 1
theorem nmX1 : ∀ a, a < 1 → ∀ b, b < 1 → a ≠ b → (TX1 a).2.1 ≠ (TX1 b).2.1 := by decide +kernel
theorem tyX1_ok : ∀ k, k < 1 → parseFieldDescriptor (TX1 k).2.2.1 = some (tyX1 k) := by decide +kernel
abbrev cX1_init : ByteArray := prog_3_method_1_code
def yX1_init : MethodName := ⟨RX1, "<init>", "(I)V"⟩
abbrev cX1_kind : ByteArray := prog_3_method_2_code
def yX1_kind : MethodName := ⟨RX1, "kind", "()I"⟩
abbrev cX1_placesByDeed : ByteArray := prog_3_method_3_code
def yX1_placesByDeed : MethodName := ⟨RX1, "placesByDeed", "(LReadAloud$Sheet;I)I"⟩
def RX2 : String := "ReadAloud$Brief"
def TX2 : u_T := fun k => match k with
  | 0 => ("ReadAloud$Brief", "pairsTold", "[I", true)
  | 1 => ("ReadAloud$Brief", "words", "[I", true)
  | _ => ("ReadAloud$Brief", "size", "I", false)
def tyX2 : Nat → FieldType := fun k => match k with
  | 0 => .array .int
  | 1 => .array .int
  | _ => .int
abbrev wsX20 : List Cond := u_ws RX2 TX2 3
theorem nmX2 : ∀ a, a < 3 → ∀ b, b < 3 → a ≠ b → (TX2 a).2.1 ≠ (TX2 b).2.1 := by decide +kernel
theorem tyX2_ok : ∀ k, k < 3 → parseFieldDescriptor (TX2 k).2.2.1 = some (tyX2 k) := by decide +kernel
abbrev cX2_init : ByteArray := prog_4_method_1_code
def yX2_init : MethodName := ⟨RX2, "<init>", "()V"⟩
def RX3 : String := "ReadAloud$Heard"
def TX3 : u_T := fun k => match k with
  | 0 => ("ReadAloud$Heard", "whom", "[I", true)
  | 1 => ("ReadAloud$Heard", "deeds", "[I", true)
  | _ => ("ReadAloud$Heard", "size", "I", false)
def tyX3 : Nat → FieldType := fun k => match k with
  | 0 => .array .int
  | 1 => .array .int
  | _ => .int
abbrev wsX30 : List Cond := u_ws RX3 TX3 3
theorem nmX3 : ∀ a, a < 3 → ∀ b, b < 3 → a ≠ b → (TX3 a).2.1 ≠ (TX3 b).2.1 := by decide +kernel
theorem tyX3_ok : ∀ k, k < 3 → parseFieldDescriptor (TX3 k).2.2.1 = some (tyX3 k) := by decide +kernel
abbrev cX3_init : ByteArray := prog_5_method_1_code
def yX3_init : MethodName := ⟨RX3, "<init>", "()V"⟩
abbrev cX3_size : ByteArray := prog_5_method_2_code
def yX3_size : MethodName := ⟨RX3, "size", "()I"⟩
abbrev cX3_clear : ByteArray := prog_5_method_4_code
def yX3_clear : MethodName := ⟨RX3, "clear", "()V"⟩
abbrev cX3_deedsLeft : ByteArray := prog_5_method_6_code
def yX3_deedsLeft : MethodName := ⟨RX3, "deedsLeft", "(I)I"⟩
def RX4 : String := "ReadAloud$Man"
def TX4 : u_T := fun k => match k with
  | _ => ("ReadAloud$Man", "deed", "I", true)
def tyX4 : Nat → FieldType := fun k => match k with
  | _ => .int
abbrev wsX40 : List Cond := u_ws RX4 TX4 1
theorem nmX4 : ∀ a, a < 1 → ∀ b, b < 1 → a ≠ b → (TX4 a).2.1 ≠ (TX4 b).2.1 := by decide +kernel
theorem tyX4_ok : ∀ k, k < 1 → parseFieldDescriptor (TX4 k).2.2.1 = some (tyX4 k) := by decide +kernel
abbrev cX4_init : ByteArray := prog_6_method_1_code
def yX4_init : MethodName := ⟨RX4, "<init>", "(I)V"⟩
abbrev cX4_deed : ByteArray := prog_6_method_2_code
def yX4_deed : MethodName := ⟨RX4, "deed", "()I"⟩
abbrev cX4_kind : ByteArray := prog_6_method_3_code
def yX4_kind : MethodName := ⟨RX4, "kind", "()I"⟩
abbrev cX4_placesByDeed : ByteArray := prog_6_method_4_code
def yX4_placesByDeed : MethodName := ⟨RX4, "placesByDeed", "(LReadAloud$Sheet;I)I"⟩
abbrev cX4_placesAnyhow : ByteArray := prog_6_method_5_code
def yX4_placesAnyhow : MethodName := ⟨RX4, "placesAnyhow", "(LReadAloud$Sheet;)I"⟩
def RX5 : String := "ReadAloud$Page"
def TX5 : u_T := fun k => match k with
  | 0 => ("ReadAloud$Page", "codes", "[I", true)
  | 1 => ("ReadAloud$Page", "walk", "LReadAloud$Walk;", true)
  | _ => ("ReadAloud$Page", "size", "I", false)
def tyX5 : Nat → FieldType := fun k => match k with
  | 0 => .array .int
  | 1 => .object "ReadAloud$Walk"
  | _ => .int
abbrev wsX50 : List Cond := u_ws RX5 TX5 3
theorem nmX5 : ∀ a, a < 3 → ∀ b, b < 3 → a ≠ b → (TX5 a).2.1 ≠ (TX5 b).2.1 := by decide +kernel
theorem tyX5_ok : ∀ k, k < 3 → parseFieldDescriptor (TX5 k).2.2.1 = some (tyX5 k) := by decide +kernel
abbrev cX5_init : ByteArray := prog_7_method_1_code
def yX5_init : MethodName := ⟨RX5, "<init>", "()V"⟩
abbrev cX5_size : ByteArray := prog_7_method_2_code
def yX5_size : MethodName := ⟨RX5, "size", "()I"⟩
abbrev cX5_codeAt : ByteArray := prog_7_method_3_code
def yX5_codeAt : MethodName := ⟨RX5, "codeAt", "(I)I"⟩
abbrev cX5_add : ByteArray := prog_7_method_4_code
def yX5_add : MethodName := ⟨RX5, "add", "(I)Z"⟩
abbrev cX5_clear : ByteArray := prog_7_method_5_code
def yX5_clear : MethodName := ⟨RX5, "clear", "()V"⟩
abbrev cX5_faultPlace : ByteArray := prog_7_method_6_code
def yX5_faultPlace : MethodName := ⟨RX5, "faultPlace", "()I"⟩
abbrev cX5_isCourt : ByteArray := prog_7_method_7_code
def yX5_isCourt : MethodName := ⟨RX5, "isCourt", "()Z"⟩
def RX6 : String := "ReadAloud$Sheet"
def TX6 : u_T := fun k => match k with
  | 0 => ("ReadAloud$Sheet", "words", "[I", true)
  | _ => ("ReadAloud$Sheet", "size", "I", false)
def tyX6 : Nat → FieldType := fun k => match k with
  | 0 => .array .int
  | _ => .int
abbrev wsX60 : List Cond := u_ws RX6 TX6 2
theorem nmX6 : ∀ a, a < 2 → ∀ b, b < 2 → a ≠ b → (TX6 a).2.1 ≠ (TX6 b).2.1 := by decide +kernel
theorem tyX6_ok : ∀ k, k < 2 → parseFieldDescriptor (TX6 k).2.2.1 = some (tyX6 k) := by decide +kernel
abbrev cX6_init : ByteArray := prog_8_method_1_code
def yX6_init : MethodName := ⟨RX6, "<init>", "()V"⟩
abbrev cX6_size : ByteArray := prog_8_method_2_code
def yX6_size : MethodName := ⟨RX6, "size", "()I"⟩
abbrev cX6_has : ByteArray := prog_8_method_3_code
def yX6_has : MethodName := ⟨RX6, "has", "(I)Z"⟩
abbrev cX6_at : ByteArray := prog_8_method_4_code
def yX6_at : MethodName := ⟨RX6, "at", "(I)I"⟩
abbrev cX6_set : ByteArray := prog_8_method_5_code
def yX6_set : MethodName := ⟨RX6, "set", "(II)V"⟩
abbrev cX6_add : ByteArray := prog_8_method_6_code
def yX6_add : MethodName := ⟨RX6, "add", "(I)V"⟩
abbrev cX6_clear : ByteArray := prog_8_method_7_code
def yX6_clear : MethodName := ⟨RX6, "clear", "()V"⟩
abbrev cX6_placesOf : ByteArray := prog_8_method_9_code
def yX6_placesOf : MethodName := ⟨RX6, "placesOf", "(I)I"⟩
abbrev cX6_firstPlacesOf : ByteArray := prog_8_method_10_code
def yX6_firstPlacesOf : MethodName := ⟨RX6, "firstPlacesOf", "(I)I"⟩
abbrev cX6_placesBehind : ByteArray := prog_8_method_11_code
def yX6_placesBehind : MethodName := ⟨RX6, "placesBehind", "(I)I"⟩
abbrev cX6_unlikeWords : ByteArray := prog_8_method_12_code
def yX6_unlikeWords : MethodName := ⟨RX6, "unlikeWords", "()I"⟩
def RX7 : String := "ReadAloud$Stammerer"
def TX7 : u_T := fun k => match k with
  | _ => ("ReadAloud$Man", "deed", "I", true)
def tyX7 : Nat → FieldType := fun k => match k with
  | _ => .int
abbrev wsX70 : List Cond := u_ws RX7 TX7 1
theorem nmX7 : ∀ a, a < 1 → ∀ b, b < 1 → a ≠ b → (TX7 a).2.1 ≠ (TX7 b).2.1 := by decide +kernel
theorem tyX7_ok : ∀ k, k < 1 → parseFieldDescriptor (TX7 k).2.2.1 = some (tyX7 k) := by decide +kernel
abbrev cX7_init : ByteArray := prog_9_method_1_code
def yX7_init : MethodName := ⟨RX7, "<init>", "(I)V"⟩
abbrev cX7_kind : ByteArray := prog_9_method_2_code
def yX7_kind : MethodName := ⟨RX7, "kind", "()I"⟩
abbrev cX7_placesAnyhow : ByteArray := prog_9_method_3_code
def yX7_placesAnyhow : MethodName := ⟨RX7, "placesAnyhow", "(LReadAloud$Sheet;)I"⟩
def RX8 : String := "ReadAloud$State"
def TX8 : u_T := fun k => match k with
  | 0 => ("ReadAloud$State", "sheet", "LReadAloud$Sheet;", true)
  | 1 => ("ReadAloud$State", "heard", "LReadAloud$Heard;", true)
  | 2 => ("ReadAloud$State", "hidden", "[I", true)
  | 3 => ("ReadAloud$State", "limit", "I", false)
  | 4 => ("ReadAloud$State", "men", "I", false)
  | _ => ("ReadAloud$State", "changes", "I", false)
def tyX8 : Nat → FieldType := fun k => match k with
  | 0 => .object "ReadAloud$Sheet"
  | 1 => .object "ReadAloud$Heard"
  | 2 => .array .int
  | 3 => .int
  | 4 => .int
  | _ => .int
abbrev wsX80 : List Cond := u_ws RX8 TX8 6
theorem nmX8 : ∀ a, a < 6 → ∀ b, b < 6 → a ≠ b → (TX8 a).2.1 ≠ (TX8 b).2.1 := by decide +kernel
theorem tyX8_ok : ∀ k, k < 6 → parseFieldDescriptor (TX8 k).2.2.1 = some (tyX8 k) := by decide +kernel
abbrev cX8_init : ByteArray := prog_10_method_1_code
def yX8_init : MethodName := ⟨RX8, "<init>", "()V"⟩
abbrev cX8_begin : ByteArray := prog_10_method_2_code
def yX8_begin : MethodName := ⟨RX8, "begin", "()V"⟩
def RX9 : String := "ReadAloud$Walk"
def TX9 : u_T := fun k => match k with
  | 0 => ("ReadAloud$Walk", "part", "I", false)
  | 1 => ("ReadAloud$Walk", "wordsOfPart", "I", false)
  | _ => ("ReadAloud$Walk", "lastWord", "I", false)
def tyX9 : Nat → FieldType := fun k => match k with
  | 0 => .int
  | 1 => .int
  | _ => .int
abbrev wsX90 : List Cond := u_ws RX9 TX9 3
theorem nmX9 : ∀ a, a < 3 → ∀ b, b < 3 → a ≠ b → (TX9 a).2.1 ≠ (TX9 b).2.1 := by decide +kernel
theorem tyX9_ok : ∀ k, k < 3 → parseFieldDescriptor (TX9 k).2.2.1 = some (tyX9 k) := by decide +kernel
abbrev cX9_init : ByteArray := prog_11_method_1_code
def yX9_init : MethodName := ⟨RX9, "<init>", "()V"⟩
abbrev cX9_begin : ByteArray := prog_11_method_2_code
def yX9_begin : MethodName := ⟨RX9, "begin", "()V"⟩
abbrev cX9_passes : ByteArray := prog_11_method_3_code
def yX9_passes : MethodName := ⟨RX9, "passes", "(I)Z"⟩
abbrev cX9_isWhole : ByteArray := prog_11_method_4_code
def yX9_isWhole : MethodName := ⟨RX9, "isWhole", "()Z"⟩
abbrev cX9_enter : ByteArray := prog_11_method_5_code
def yX9_enter : MethodName := ⟨RX9, "enter", "(I)V"⟩
abbrev cX9_passesWord : ByteArray := prog_11_method_6_code
def yX9_passesWord : MethodName := ⟨RX9, "passesWord", "(I)Z"⟩
def RX10 : String := "ReadAloud$Weeper"
def TX10 : u_T := fun k => match k with
  | _ => ("ReadAloud$Man", "deed", "I", true)
def tyX10 : Nat → FieldType := fun k => match k with
  | _ => .int
abbrev wsX100 : List Cond := u_ws RX10 TX10 1
theorem nmX10 : ∀ a, a < 1 → ∀ b, b < 1 → a ≠ b → (TX10 a).2.1 ≠ (TX10 b).2.1 := by decide +kernel
theorem tyX10_ok : ∀ k, k < 1 → parseFieldDescriptor (TX10 k).2.2.1 = some (tyX10 k) := by decide +kernel
abbrev cX10_init : ByteArray := prog_12_method_1_code
def yX10_init : MethodName := ⟨RX10, "<init>", "(I)V"⟩
abbrev cX10_kind : ByteArray := prog_12_method_2_code
def yX10_kind : MethodName := ⟨RX10, "kind", "()I"⟩
abbrev cX10_placesAnyhow : ByteArray := prog_12_method_3_code
def yX10_placesAnyhow : MethodName := ⟨RX10, "placesAnyhow", "(LReadAloud$Sheet;)I"⟩
def RX11 : String := "ReadAloud"
def TX11 : u_T := fun k => match k with
  | 0 => ("ReadAloud", "page", "LReadAloud$Page;", true)
  | 1 => ("ReadAloud", "near", "[I", true)
  | 2 => ("ReadAloud", "men", "[LReadAloud$Man;", true)
  | 3 => ("ReadAloud", "now", "LReadAloud$State;", true)
  | 4 => ("ReadAloud", "kept", "LReadAloud$State;", true)
  | 5 => ("ReadAloud", "drawn", "LReadAloud$Sheet;", true)
  | 6 => ("ReadAloud", "shortest", "LReadAloud$Brief;", true)
  | 7 => ("ReadAloud", "imageKept", "Z", false)
  | 8 => ("ReadAloud", "courtsRead", "I", false)
  | _ => ("ReadAloud", "briefsDone", "I", false)
def tyX11 : Nat → FieldType := fun k => match k with
  | 0 => .object "ReadAloud$Page"
  | 1 => .array .int
  | 2 => .array (.object "ReadAloud$Man")
  | 3 => .object "ReadAloud$State"
  | 4 => .object "ReadAloud$State"
  | 5 => .object "ReadAloud$Sheet"
  | 6 => .object "ReadAloud$Brief"
  | 7 => .boolean
  | 8 => .int
  | _ => .int
abbrev wsX110 : List Cond := u_ws RX11 TX11 10
theorem nmX11 : ∀ a, a < 10 → ∀ b, b < 10 → a ≠ b → (TX11 a).2.1 ≠ (TX11 b).2.1 := by decide +kernel
theorem tyX11_ok : ∀ k, k < 10 → parseFieldDescriptor (TX11 k).2.2.1 = some (tyX11 k) := by decide +kernel
abbrev cX11_init : ByteArray := prog_1_method_1_code
def yX11_init : MethodName := ⟨RX11, "<init>", "()V"⟩
abbrev cX11_letter : ByteArray := prog_1_method_2_code
def yX11_letter : MethodName := ⟨RX11, "letter", "(I)I"⟩
abbrev cX11_fault : ByteArray := prog_1_method_4_code
def yX11_fault : MethodName := ⟨RX11, "fault", "()I"⟩
abbrev cX11_court : ByteArray := prog_1_method_5_code
def yX11_court : MethodName := ⟨RX11, "court", "()I"⟩
abbrev cX11_near : ByteArray := prog_1_method_6_code
def yX11_near : MethodName := ⟨RX11, "near", "(I)I"⟩
abbrev cX11_word : ByteArray := prog_1_method_7_code
def yX11_word : MethodName := ⟨RX11, "word", "(I)I"⟩
abbrev cX11_put : ByteArray := prog_1_method_8_code
def yX11_put : MethodName := ⟨RX11, "put", "(II)I"⟩
abbrev cX11_limit : ByteArray := prog_1_method_9_code
def yX11_limit : MethodName := ⟨RX11, "limit", "(I)I"⟩
abbrev cX11_accuse : ByteArray := prog_1_method_10_code
def yX11_accuse : MethodName := ⟨RX11, "accuse", "(II)I"⟩
abbrev cX11_about : ByteArray := prog_1_method_11_code
def yX11_about : MethodName := ⟨RX11, "about", "(II)I"⟩
abbrev cX11_as : ByteArray := prog_1_method_12_code
def yX11_as : MethodName := ⟨RX11, "as", "(II)I"⟩
abbrev cX11_lesson : ByteArray := prog_1_method_13_code
def yX11_lesson : MethodName := ⟨RX11, "lesson", "(II)I"⟩
abbrev cX11_unlearn : ByteArray := prog_1_method_14_code
def yX11_unlearn : MethodName := ⟨RX11, "unlearn", "(I)I"⟩
abbrev cX11_trials : ByteArray := prog_1_method_19_code
def yX11_trials : MethodName := ⟨RX11, "trials", "(III)I"⟩
abbrev cX11_count : ByteArray := prog_1_method_22_code
def yX11_count : MethodName := ⟨RX11, "count", "(I)I"⟩
abbrev cX11_hasCourt : ByteArray := prog_1_method_24_code
def yX11_hasCourt : MethodName := ⟨RX11, "hasCourt", "()Z"⟩
abbrev cX11_isAccused : ByteArray := prog_1_method_25_code
def yX11_isAccused : MethodName := ⟨RX11, "isAccused", "(I)Z"⟩
abbrev cX11_isWord : ByteArray := prog_1_method_26_code
def yX11_isWord : MethodName := ⟨RX11, "isWord", "(I)Z"⟩
abbrev cX11_isKind : ByteArray := prog_1_method_27_code
def yX11_isKind : MethodName := ⟨RX11, "isKind", "(I)Z"⟩
abbrev cX11_manOf : ByteArray := prog_1_method_28_code
def yX11_manOf : MethodName := ⟨RX11, "manOf", "(I)LReadAloud$Man;"⟩
abbrev cX11_deedOf : ByteArray := prog_1_method_29_code
def yX11_deedOf : MethodName := ⟨RX11, "deedOf", "(I)I"⟩
abbrev cX11_hiddenBy : ByteArray := prog_1_method_30_code
def yX11_hiddenBy : MethodName := ⟨RX11, "hiddenBy", "(I)I"⟩
abbrev cX11_manOfKind : ByteArray := prog_1_method_31_code
def yX11_manOfKind : MethodName := ⟨RX11, "manOfKind", "(II)LReadAloud$Man;"⟩
abbrev cX11_isOfKind : ByteArray := prog_1_method_32_code
def yX11_isOfKind : MethodName := ⟨RX11, "isOfKind", "(LReadAloud$Man;I)Z"⟩
abbrev cX11_readCourt : ByteArray := prog_1_method_33_code
def yX11_readCourt : MethodName := ⟨RX11, "readCourt", "()V"⟩
abbrev cX11_wouldAlter : ByteArray := prog_1_method_34_code
def yX11_wouldAlter : MethodName := ⟨RX11, "wouldAlter", "(ILReadAloud$Sheet;II)I"⟩
abbrev cX11_alteredBy : ByteArray := prog_1_method_35_code
def yX11_alteredBy : MethodName := ⟨RX11, "alteredBy", "(ILReadAloud$Sheet;)I"⟩
abbrev cX11_hangingAt : ByteArray := prog_1_method_36_code
def yX11_hangingAt : MethodName := ⟨RX11, "hangingAt", "(LReadAloud$Sheet;)I"⟩
abbrev cX11_allAltering : ByteArray := prog_1_method_37_code
def yX11_allAltering : MethodName := ⟨RX11, "allAltering", "(LReadAloud$Sheet;)I"⟩
abbrev cX11_deedsAltering : ByteArray := prog_1_method_38_code
def yX11_deedsAltering : MethodName := ⟨RX11, "deedsAltering", "(II)I"⟩
abbrev cX11_placeToListen : ByteArray := prog_1_method_39_code
def yX11_placeToListen : MethodName := ⟨RX11, "placeToListen", "(I)I"⟩
abbrev cX11_drawSheet : ByteArray := prog_1_method_42_code
def yX11_drawSheet : MethodName := ⟨RX11, "drawSheet", "(I)I"⟩
def RX12 : String := "ReadAloudModel"
def TX12 : u_T := fun k => match k with
  | _ => ("", "", "", false)
def tyX12 : Nat → FieldType := fun k => match k with
  | _ => .int
abbrev wsX120 : List Cond := u_ws RX12 TX12 0
theorem nmX12 : ∀ a, a < 0 → ∀ b, b < 0 → a ≠ b → (TX12 a).2.1 ≠ (TX12 b).2.1 := by decide +kernel
theorem tyX12_ok : ∀ k, k < 0 → parseFieldDescriptor (TX12 k).2.2.1 = some (tyX12 k) := by decide +kernel
def RJ6 : String := "java/lang/Integer"
def TJ6 : u_T := fun k => match k with
  | _ => ("", "", "", false)
def tyJ6 : Nat → FieldType := fun k => match k with
  | _ => .int
abbrev wsJ60 : List Cond := u_ws RJ6 TJ6 0
theorem nmJ6 : ∀ a, a < 0 → ∀ b, b < 0 → a ≠ b → (TJ6 a).2.1 ≠ (TJ6 b).2.1 := by decide +kernel
theorem tyJ6_ok : ∀ k, k < 0 → parseFieldDescriptor (TJ6 k).2.2.1 = some (tyJ6 k) := by decide +kernel
abbrev cJ6_bitCount_0f7a4 : ByteArray := prog_15_method_49_code
def yJ6_bitCount_0f7a4 : MethodName := ⟨RJ6, "bitCount", "(I)I"⟩
def RJ9 : String := "java/lang/Math"
def TJ9 : u_T := fun k => match k with
  | _ => ("", "", "", false)
def tyJ9 : Nat → FieldType := fun k => match k with
  | _ => .int
abbrev wsJ90 : List Cond := u_ws RJ9 TJ9 0
theorem nmJ9 : ∀ a, a < 0 → ∀ b, b < 0 → a ≠ b → (TJ9 a).2.1 ≠ (TJ9 b).2.1 := by decide +kernel
theorem tyJ9_ok : ∀ k, k < 0 → parseFieldDescriptor (TJ9 k).2.2.1 = some (tyJ9 k) := by decide +kernel
abbrev cJ9_max_7cf53 : ByteArray := prog_16_method_65_code
def yJ9_max_7cf53 : MethodName := ⟨RJ9, "max", "(II)I"⟩
def RL : String := "ReadAloudLaw"
abbrev cL_cell : ByteArray := method_2_code
def yL_cell : MethodName := ⟨RL, "cell", "([II)I"⟩
abbrev cL_at : ByteArray := method_3_code
def yL_at : MethodName := ⟨RL, "at", "(II)I"⟩
abbrev cL_courtText : ByteArray := method_4_code
def yL_courtText : MethodName := ⟨RL, "courtText", "([II[I[I[I)I"⟩
abbrev cL_write : ByteArray := method_5_code
def yL_write : MethodName := ⟨RL, "write", "(LReadAloud;[II)Z"⟩
abbrev cL_in : ByteArray := method_6_code
def yL_in : MethodName := ⟨RL, "in", "(II)Z"⟩
abbrev cL_size : ByteArray := method_7_code
def yL_size : MethodName := ⟨RL, "size", "(I)I"⟩
abbrev cL_come : ByteArray := method_8_code
def yL_come : MethodName := ⟨RL, "come", "(LReadAloud;[III)Z"⟩
abbrev cL_alters : ByteArray := method_9_code
def yL_alters : MethodName := ⟨RL, "alters", "([IIII)I"⟩
abbrev cL_now : ByteArray := method_10_code
def yL_now : MethodName := ⟨RL, "now", "([I[II)I"⟩
abbrev cL_over : ByteArray := method_11_code
def yL_over : MethodName := ⟨RL, "over", "([I[I)V"⟩
abbrev cL_stands : ByteArray := method_12_code
def yL_stands : MethodName := ⟨RL, "stands", "(LReadAloud;[I[I)Z"⟩
abbrev cL_does : ByteArray := method_13_code
def yL_does : MethodName := ⟨RL, "does", "(LReadAloud;[II)Z"⟩
abbrev cL_law : ByteArray := code
def yL_law : MethodName := ⟨RL, "law", "([I)Z"⟩
abbrev cL_trials : ByteArray := method_15_code
def yL_trials : MethodName := ⟨RL, "trials", "(LReadAloud;[I[III)Z"⟩
abbrev vwCl : List vw_C := [(RX0, TX0, 1), (RX1, TX1, 1), (RX2, TX2, 3), (RX3, TX3, 3), (RX4, TX4, 1), (RX5, TX5, 3), (RX6, TX6, 2), (RX7, TX7, 1), (RX8, TX8, 6), (RX9, TX9, 3), (RX10, TX10, 1), (RX11, TX11, 10)]
end
section

/-- the tables' words that any method may be given -/
def aWd : List Cond := lw_tbl.filter goodWord
theorem aWd_tbl {w : Cond} (h : w ∈ aWd) : w ∈ lw_tbl := (List.mem_filter.mp h).1
theorem aWd_good : GoodIn aWd aWd := fun w h => ⟨h, good_of_word (List.mem_filter.mp h).2⟩
theorem aWd_t {w : Cond} (h : w ∈ tables_1) (g : goodWord w = true) : w ∈ aWd := List.mem_filter.mpr ⟨List.mem_append_right _ h, g⟩
theorem aWd_1 {w : Cond} (h : w ∈ tables_1_1) (g : goodWord w = true) : w ∈ aWd := aWd_t (List.mem_append_left _ h) g
theorem aWd_2 {w : Cond} (h : w ∈ tables_1_2) (g : goodWord w = true) : w ∈ aWd := aWd_t (List.mem_append_right _ (List.mem_append_left _ h)) g
theorem aWd_3 {w : Cond} (h : w ∈ tables_1_3) (g : goodWord w = true) : w ∈ aWd := aWd_t (List.mem_append_right _ (List.mem_append_right _ h)) g
theorem aArr_in : Cond.arrayClass .int ∈ aWd := aWd_1 (List.mem_of_getElem? (i := 45) rfl) rfl
/-! THE ABSTRACT MACHINE: a heap is a list of cells by their places; a reference is a place. G says: from here the method ends with 'post'. AMet says it of a whole method. -/
abbrev aT : Type := List Int32 ⊕ (List (Option Nat) ⊕ (Nat × List Value))
abbrev aH : Type := List aT
def aRe (ad : Nat → Nat) (v : Value) : Value := match v with
  | .ref i => .ref (ad i)
  | w => w
def aE (cI cM : ClassId) (ad : Nat → Nat) (c : aT) : va_E := match c with
  | .inl xs => .inl (cI, xs.length, .inl (fun k => xs.getD k 0))
  | .inr (.inl rs) => .inl (cM, rs.length, .inr (.inr (.inr (.inr (fun k => (rs.getD k none).map ad)))))
  | .inr (.inr o) => .inr (o.1, o.2.map (aRe ad))
def aW (cI cM : ClassId) (ad : Nat → Nat) (σ : aH) : va_W := σ.mapIdx (fun i c => (ad i, aE cI cM ad c))
theorem aW_get (cI cM : ClassId) (ad : Nat → Nat) (σ : aH) (i : Nat) : (aW cI cM ad σ)[i]? = (σ[i]?).map (fun c => (ad i, aE cI cM ad c)) := by simp [aW]
theorem aW_at {cI cM : ClassId} {ad : Nat → Nat} {σ : aH} {i : Nat} {c : aT} (h : σ[i]? = some c) : (aW cI cM ad σ)[i]? = some (ad i, aE cI cM ad c) := by rw [aW_get, h]; rfl
theorem aW_len (cI cM : ClassId) (ad : Nat → Nat) (σ : aH) : (aW cI cM ad σ).length = σ.length := by simp [aW]
theorem aW_set (cI cM : ClassId) (ad : Nat → Nat) (σ : aH) (i : Nat) (c : aT) : (aW cI cM ad σ).set i (ad i, aE cI cM ad c) = aW cI cM ad (σ.set i c) := by
  apply List.ext_getElem?
  intro j
  rw [aW_get, List.getElem?_set, List.getElem?_set, aW_get, aW_len]
  by_cases h : i = j
  · subst h
    by_cases h2 : i < σ.length <;> simp [h2]
  · simp [h]
def aSc (n : Nat) (v : Value) : Prop := ∀ i, v = .ref i → i < n
def aScC (n : Nat) (c : aT) : Prop := match c with
  | .inl xs => xs.length < 65536
  | .inr (.inl rs) => rs.length < 65536 ∧ ∀ i : Nat, some i ∈ rs → i < n
  | .inr (.inr o) => ∀ v ∈ o.2, aSc n v
def aScH (σ : aH) : Prop := ∀ c ∈ σ, aScC σ.length c
theorem aSc_int {n : Nat} {x : Int32} : aSc n (.int x) := fun i h => by cases h
theorem aSc_long {n : Nat} {x : Int64} : aSc n (.long x) := fun i h => by cases h
theorem aSc_null {n : Nat} : aSc n .null := fun i h => by cases h
theorem aSc_ref {n i : Nat} (h : i < n) : aSc n (.ref i) := fun j e => by cases e; exact h
theorem aSc_mono {n n' : Nat} (h : n ≤ n') {v : Value} (hv : aSc n v) : aSc n' v := fun i e => Nat.lt_of_lt_of_le (hv i e) h
theorem aScC_mono {n n' : Nat} (h : n ≤ n') {c : aT} (hc : aScC n c) : aScC n' c := by
  rcases c with xs | rs | o
  · exact hc
  · exact ⟨hc.1, fun i hi => Nat.lt_of_lt_of_le (hc.2 i hi) h⟩
  · exact fun v hv => aSc_mono h (hc v hv)
theorem aScH_at {σ : aH} (h : aScH σ) {i : Nat} {c : aT} (hi : σ[i]? = some c) : aScC σ.length c := h c (List.mem_of_getElem? hi)
theorem aScH_set {σ : aH} (h : aScH σ) {i : Nat} {c : aT} (hc : aScC σ.length c) : aScH (σ.set i c) := by
  intro d hd
  rw [List.length_set]
  rcases List.mem_or_eq_of_mem_set hd with h1 | h1
  · exact h d h1
  · subst h1; exact hc
theorem aScH_push {σ : aH} (h : aScH σ) {c : aT} (hc : aScC (σ.length + 1) c) : aScH (σ ++ [c]) := by
  intro d hd
  rw [List.length_append, List.length_singleton]
  rcases List.mem_append.mp hd with h1 | h1
  · exact aScC_mono (Nat.le_succ _) (h d h1)
  · rw [List.mem_singleton.mp h1]; exact hc
theorem aRe_eq {ad ad' : Nat → Nat} {n : Nat} (h : ∀ i, i < n → ad' i = ad i) {v : Value} (hv : aSc n v) : aRe ad' v = aRe ad v := by
  cases v <;> try rfl
  rename_i a
  show Value.ref _ = Value.ref _
  rw [h a (hv a rfl)]
theorem aRe_map {ad ad' : Nat → Nat} {n : Nat} (h : ∀ i, i < n → ad' i = ad i) {S : List Value} (hS : ∀ v ∈ S, aSc n v) : S.map (aRe ad') = S.map (aRe ad) :=
  List.map_congr_left (fun v hv => aRe_eq h (hS v hv))
theorem aE_eq {cI cM : ClassId} {ad ad' : Nat → Nat} {n : Nat} (h : ∀ i, i < n → ad' i = ad i) {c : aT} (hc : aScC n c) : aE cI cM ad' c = aE cI cM ad c := by
  rcases c with xs | rs | o
  · rfl
  · have hf : (fun k => (rs.getD k none).map ad') = fun k => (rs.getD k none).map ad := by
      funext k
      cases hk : rs.getD k none with
      | none => rfl
      | some i =>
        show some _ = some _
        rw [h i (hc.2 i ?_)]
        rw [List.getD_eq_getElem?_getD] at hk
        cases hr : rs[k]? with
        | none => rw [hr] at hk; cases hk
        | some w =>
          rw [hr] at hk
          have hk2 : w = some i := hk
          rw [← hk2]
          exact List.mem_of_getElem? hr
    simp only [aE, hf]
  · show Sum.inr _ = Sum.inr _
    rw [aRe_map h hc]
theorem aW_eq {cI cM : ClassId} {ad ad' : Nat → Nat} {σ : aH} (h : ∀ i, i < σ.length → ad' i = ad i) (hσ : aScH σ) : aW cI cM ad' σ = aW cI cM ad σ := by
  apply List.ext_getElem?
  intro j
  rw [aW_get, aW_get]
  cases hj : σ[j]? with
  | none => rfl
  | some c =>
    have hl : j < σ.length := (List.getElem?_eq_some_iff.mp hj).1
    simp only [Option.map_some]
    rw [h j hl, aE_eq h (aScH_at hσ hj)]
theorem aW_push {cI cM : ClassId} {ad : Nat → Nat} {σ : aH} {q : Nat} {c : aT} (hσ : aScH σ) : aW cI cM (fun i => if i = σ.length then q else ad i) (σ ++ [c]) = aW cI cM ad σ ++ [(q, aE cI cM (fun i => if i = σ.length then q else ad i) c)] := by
  have h1 : aW cI cM (fun i => if i = σ.length then q else ad i) σ = aW cI cM ad σ := aW_eq (fun i hi => by simp [Nat.ne_of_lt hi]) hσ
  rw [← h1]
  apply List.ext_getElem?
  intro j
  rw [aW_get, List.getElem?_append, List.getElem?_append, aW_get, aW_len]
  by_cases h : j < σ.length
  · simp [h]
  · rw [if_neg h, if_neg h]
    by_cases h2 : j = σ.length
    · subst h2
      simp
    · have h3 : j - σ.length ≠ 0 := by omega
      obtain ⟨d, hd⟩ := Nat.exists_eq_succ_of_ne_zero h3
      rw [hd]
      rfl
/-! what stands for the whole run: classes, arrays' classes, nest mates, casts -/
def aNl : List (String × Nat × MethodName × String) := [("ReadAloud", 9, ⟨"ReadAloud$Page", "<init>", "()V"⟩, "ReadAloud"), ("ReadAloud$Page", 17, ⟨"ReadAloud$Walk", "<init>", "()V"⟩, "ReadAloud"), ("ReadAloud", 28, ⟨"ReadAloud$State", "<init>", "()V"⟩, "ReadAloud"), ("ReadAloud$State", 11, ⟨"ReadAloud$Sheet", "<init>", "()V"⟩, "ReadAloud"), ("ReadAloud$State", 20, ⟨"ReadAloud$Heard", "<init>", "()V"⟩, "ReadAloud"), ("ReadAloud", 38, ⟨"ReadAloud$Sheet", "<init>", "()V"⟩, "ReadAloud"), ("ReadAloud", 45, ⟨"ReadAloud$Brief", "<init>", "()V"⟩, "ReadAloud"), ("ReadAloud$Walk", 15, ⟨"ReadAloud", "isWord", "(I)Z"⟩, "ReadAloud")]
def aCy : List (String × String) := [("ReadAloud$Weeper", "ReadAloud$Stammerer"), ("ReadAloud$Stammerer", "ReadAloud$Man"), ("ReadAloud$Actor", "ReadAloud$Man"), ("ReadAloud$Boy", "ReadAloud$Man"), ("ReadAloud$Weeper", "ReadAloud$Man")]
def aCn : List (String × String) := [("ReadAloud$Actor", "ReadAloud$Stammerer"), ("ReadAloud$Boy", "ReadAloud$Stammerer"), ("ReadAloud$Man", "ReadAloud$Stammerer"), ("ReadAloud$Stammerer", "ReadAloud$Actor"), ("ReadAloud$Boy", "ReadAloud$Actor"), ("ReadAloud$Weeper", "ReadAloud$Actor"), ("ReadAloud$Man", "ReadAloud$Actor"), ("ReadAloud$Stammerer", "ReadAloud$Boy"), ("ReadAloud$Actor", "ReadAloud$Boy"), ("ReadAloud$Weeper", "ReadAloud$Boy"), ("ReadAloud$Man", "ReadAloud$Boy"), ("ReadAloud$Stammerer", "ReadAloud$Weeper"), ("ReadAloud$Actor", "ReadAloud$Weeper"), ("ReadAloud$Boy", "ReadAloud$Weeper"), ("ReadAloud$Man", "ReadAloud$Weeper")]
def aNs (U : State) : Prop := (∀ q ∈ aNl, va_Nw (.methodLinkNest q.1 q.2.1 q.2.2.1 q.2.2.2) U) ∧ va_AO "ReadAloud$Man" U ∧ (∀ q ∈ aCy, va_Nw (.castable q.1 q.2) U) ∧ ∀ q ∈ aCn, va_Nc q.1 q.2 U
def aK (D : va_G) (cI cM : ClassId) (U : State) : Prop := va_K D vwCl [(cI, .int), (cM, .object "ReadAloud$Man")] U ∧ aNs U
theorem aK.warm {D : va_G} {cI cM : ClassId} {s U : State} (hW : s.WarmedH U.vm) (h : aK D cI cM s) : aK D cI cM U :=
  ⟨va_K.moved hW.alike h.1, fun q hq => va_Nw.warmM hW (h.2.1 q hq), va_AO.moved hW.alike h.2.2.1, fun q hq => va_Nw.warmC hW (h.2.2.2.1 q hq), fun q hq => va_Nc.moved hW.alike (h.2.2.2.2 q hq)⟩
theorem aK.same {D : va_G} {cI cM : ClassId} {u U : State} (hv : u.vm = U.vm) (h : aK D cI cM u) : aK D cI cM U :=
  ⟨va_K.moved (by rw [← hv]; exact Vm.Alike.refl u.vm) h.1, fun q hq => va_Nw.same rfl hv (h.2.1 q hq), va_AO.moved (by rw [← hv]; exact Vm.Alike.refl u.vm) h.2.2.1, fun q hq => va_Nw.same rfl hv (h.2.2.2.1 q hq), fun q hq => va_Nc.moved (by rw [← hv]; exact Vm.Alike.refl u.vm) (h.2.2.2.2 q hq)⟩
/-! a state: heap, locals, stack -/
def aSt (D : va_G) (cI cM : ClassId) (A : Nat → Prop) (H0 : Heap) (ad0 : Nat → Nat) (n0 : Nat) (H : Heap) (locs : List Loc) (ad : Nat → Nat) (σ : aH) : Prop :=
  va_P D vwCl (aW cI cM ad σ) H ∧ va_D A (aW cI cM ad σ) ∧ va_S A H0 H locs ∧ aScH σ ∧ (∀ i, i < n0 → ad i = ad0 i) ∧ n0 ≤ σ.length
def aL2 (ad : Nat → Nat) (L : List (Option Value)) : List (Nat × Value) := L.zipIdx.filterMap (fun q => q.1.map (fun v => (q.2, aRe ad v)))
theorem aL2_mem {ad : Nat → Nat} {L : List (Option Value)} {j : Nat} {w : Value} : (j, w) ∈ aL2 ad L ↔ ∃ v, L[j]? = some (some v) ∧ w = aRe ad v := by
  unfold aL2
  rw [List.mem_filterMap]
  constructor
  · rintro ⟨⟨o, k⟩, h1, h2⟩
    cases o with
    | none => cases h2
    | some v =>
      simp only [Option.map_some, Option.some.injEq, Prod.mk.injEq] at h2
      rw [List.mk_mem_zipIdx_iff_getElem?] at h1
      exact ⟨v, by rw [← h2.1]; exact h1, h2.2.symm⟩
  · rintro ⟨v, h1, h2⟩
    exact ⟨(some v, j), by rw [List.mk_mem_zipIdx_iff_getElem?]; exact h1, by rw [h2]; rfl⟩
def aLo (ad : Nat → Nat) (ls : Array Slot) (nL : Nat) (L : List (Option Value)) (n : Nat) : Prop := lv_has ls nL (aL2 ad L) ∧ L.length = nL ∧ ∀ v, some v ∈ L → aSc n v
theorem lv_less {ls : Array Slot} {nL : Nat} {l l' : List (Nat × Value)} (h : lv_has ls nL l) (hs : ∀ q ∈ l', q ∈ l) : lv_has ls nL l' := ⟨h.1, h.2.1, fun q hq => h.2.2 q (hs q hq)⟩
theorem aLo_at {ad : Nat → Nat} {ls : Array Slot} {nL : Nat} {L : List (Option Value)} {n : Nat} (h : aLo ad ls nL L n) {i : Nat} {v : Value} (hi : L[i]? = some (some v)) : ls[i]? = some (.val (aRe ad v)) ∧ aSc n v :=
  ⟨h.1.2.2 (i, aRe ad v) (aL2_mem.mpr ⟨v, hi, rfl⟩), h.2.2 v (List.mem_of_getElem? hi)⟩
theorem aLo_ad {ad ad' : Nat → Nat} {ls : Array Slot} {nL : Nat} {L : List (Option Value)} {n n' : Nat} (h : aLo ad ls nL L n) (hn : n ≤ n') (he : ∀ i, i < n → ad' i = ad i) : aLo ad' ls nL L n' := by
  refine ⟨lv_less h.1 ?_, h.2.1, fun v hv => aSc_mono hn (h.2.2 v hv)⟩
  rintro ⟨j, w⟩ hq
  obtain ⟨v, h1, h2⟩ := aL2_mem.mp hq
  exact aL2_mem.mpr ⟨v, h1, by rw [h2, aRe_eq he (h.2.2 v (List.mem_of_getElem? h1))]⟩
def aWide (L : List (Option Value)) : Nat → Bool
  | 0 => false
  | i + 1 => match L[i]? with
    | some (some (.long _)) => true
    | some (some (.double _)) => true
    | _ => false
def aSto1 (L : List (Option Value)) (i : Nat) (v : Value) : Option (List (Option Value)) := match Nat.blt i L.length && !(aWide L i) with
  | true => some (L.set i (some v))
  | false => none
def aSto2 (L : List (Option Value)) (i : Nat) (v : Value) : Option (List (Option Value)) := match Nat.blt (i + 1) L.length && !(aWide L i) with
  | true => some ((L.set i (some v)).set (i + 1) none)
  | false => none
theorem aWide_no {L : List (Option Value)} {i j : Nat} {w : Value} (h : aWide L i = false) (hj : j + 1 = i) (hw : L[j]? = some (some w)) : ¬ w.category = 2 := by
  subst hj
  simp only [aWide, hw] at h
  intro hc
  cases w <;> simp_all [Value.category]
theorem aRe_cat (ad : Nat → Nat) (v : Value) : (aRe ad v).category = v.category := by cases v <;> rfl
theorem aSto1_spec {L L' : List (Option Value)} {i : Nat} {v : Value} (h : aSto1 L i v = some L') : i < L.length ∧ aWide L i = false ∧ L' = L.set i (some v) := by
  unfold aSto1 at h
  split at h
  · rename_i hb
    simp only [Bool.and_eq_true, Bool.not_eq_true', Nat.blt_eq] at hb
    exact ⟨hb.1, hb.2, (Option.some.inj h).symm⟩
  · cases h
theorem aSto2_spec {L L' : List (Option Value)} {i : Nat} {v : Value} (h : aSto2 L i v = some L') : i + 1 < L.length ∧ aWide L i = false ∧ L' = (L.set i (some v)).set (i + 1) none := by
  unfold aSto2 at h
  split at h
  · rename_i hb
    simp only [Bool.and_eq_true, Bool.not_eq_true', Nat.blt_eq] at hb
    exact ⟨hb.1, hb.2, (Option.some.inj h).symm⟩
  · cases h
theorem aLo_sto1 {ad : Nat → Nat} {ls' : Array Slot} {nL n i : Nat} {L L' : List (Option Value)} {v : Value} (h : aSto1 L i v = some L') (hl : L.length = nL) (hsc : ∀ v, some v ∈ L → aSc n v) (hv : aSc n v)
    (h' : lv_has ls' nL ((i, aRe ad v) :: (aL2 ad L).filter (fun q => !(q.1 == i) && !(q.1 + 1 == i && q.2.category == 2)))) : aLo ad ls' nL L' n := by
  obtain ⟨h1, h2, rfl⟩ := aSto1_spec h
  refine ⟨lv_less h' ?_, by rw [List.length_set]; exact hl, fun w hw => ?_⟩
  · rintro ⟨j, w⟩ hq
    obtain ⟨u, g1, g2⟩ := aL2_mem.mp hq
    rw [List.getElem?_set] at g1
    by_cases e : i = j
    · subst e
      rw [if_pos rfl, if_pos h1] at g1
      cases g1
      rw [g2]
      exact List.mem_cons_self
    · rw [if_neg e] at g1
      refine List.mem_cons_of_mem _ (List.mem_filter.mpr ⟨aL2_mem.mpr ⟨u, g1, g2⟩, ?_⟩)
      have e1 : ¬ j = i := fun z => e z.symm
      by_cases e2 : j + 1 = i
      · have e3 := aWide_no h2 e2 g1
        rw [g2]
        simp [e1, aRe_cat, e3]
      · simp [e1, e2]
  · rcases List.mem_or_eq_of_mem_set hw with g | g
    · exact hsc w g
    · cases g; exact hv
theorem aLo_sto2 {ad : Nat → Nat} {ls' : Array Slot} {nL n i : Nat} {L L' : List (Option Value)} {v : Value} (h : aSto2 L i v = some L') (hl : L.length = nL) (hsc : ∀ v, some v ∈ L → aSc n v) (hv : aSc n v)
    (h' : lv_has ls' nL ((i, aRe ad v) :: (aL2 ad L).filter (fun q => !(q.1 == i) && (!(q.1 == i + 1) && !(q.1 + 1 == i && q.2.category == 2))))) : aLo ad ls' nL L' n := by
  obtain ⟨h1, h2, rfl⟩ := aSto2_spec h
  refine ⟨lv_less h' ?_, by rw [List.length_set, List.length_set]; exact hl, fun w hw => ?_⟩
  · rintro ⟨j, w⟩ hq
    obtain ⟨u, g1, g2⟩ := aL2_mem.mp hq
    rw [List.getElem?_set, List.length_set] at g1
    by_cases e0 : i + 1 = j
    · subst e0
      rw [if_pos rfl, if_pos h1] at g1
      cases g1
    · rw [if_neg e0, List.getElem?_set] at g1
      by_cases e : i = j
      · subst e
        rw [if_pos rfl, if_pos (by omega)] at g1
        cases g1
        rw [g2]
        exact List.mem_cons_self
      · rw [if_neg e] at g1
        refine List.mem_cons_of_mem _ (List.mem_filter.mpr ⟨aL2_mem.mpr ⟨u, g1, g2⟩, ?_⟩)
        have e1 : ¬ j = i := fun z => e z.symm
        have e4 : ¬ j = i + 1 := fun z => e0 z.symm
        by_cases e2 : j + 1 = i
        · have e3 := aWide_no h2 e2 g1
          rw [g2]
          simp [e1, e4, aRe_cat, e3]
        · simp [e1, e2, e4]
  · rcases List.mem_or_eq_of_mem_set hw with g | g
    · rcases List.mem_or_eq_of_mem_set g with g | g
      · exact hsc w g
      · cases g; exact hv
    · cases g
/-! the standing of a method; its end -/
def aRet (cc : ByteArray) (rt : Option FieldType) (pc : Nat) (v : Option Value) : Prop :=
  (v = none ∧ rt = none ∧ decode cc pc = .ok (.return_, 1)) ∨ (∃ x ty, v = some (.int x) ∧ rt = some ty ∧ narrow ty (.int x) = .int x ∧ decode cc pc = .ok (.ireturn, 1)) ∨ (∃ x, v = some (.long x) ∧ rt = some .long ∧ decode cc pc = .ok (.lreturn, 1)) ∨ ((v = some .null ∨ ∃ i, v = some (.ref i)) ∧ (∃ z, rt = some (.object z)) ∧ decode cc pc = .ok (.areturn, 1))
def aR (R : Room) (lv mc ms : Nat) : Prop := lv ≤ R.frames ∧ 40 * lv + 20 ≤ R.locals ∧ mc ≤ R.cells ∧ ms ≤ R.slots
def aCx (D : va_G) (cI cM : ClassId) (p : Program) (l : Launch) (e : Env) (R : Room) (s : State) (m : MethodId) (args : Array Value) (below : List Frame) (meth : Method) (c : Code) (A : Nat → Prop) (Q : State → Prop) (ad0 : Nat → Nat) (n0 : Nat) (Y : MethodName) (cc : ByteArray) (nL : Nat) (rt : Option FieldType) (lv mc ms : Nat) (post : Option Value → aH → Prop) : Prop :=
  p.tables.exec = Jvm.exec ∧ c.code = cc ∧ c.maxLocals = nL ∧ s.vm.findClass Y.cls = some m.cls ∧ (∀ w ∈ aWd, w.before args s = true) ∧ meth.name = Y.name ∧ aK D cI cM s ∧ (∀ q, s.heap.size ≤ q → A q) ∧ aR R lv mc ms ∧
  ∀ {H : Heap} {locs : List Loc} {ls : Array Slot} {ad : Nat → Nat} {σ : aH} {k n pc : Nat} {v : Option Value}, post v σ → k ≤ mc → n ≤ ms → aSt D cI cM A s.heap ad0 n0 H locs ad σ → (∀ w, v = some w → aSc σ.length w) → aRet cc rt pc v → W p l e R s m args below meth c H locs k n Q (F0 m pc ls (v.toList.map (aRe ad)))
/-- the judgement: from this frame and heap the method ends with 'post' -/
def G (Y : MethodName) (cc : ByteArray) (nL : Nat) (rt : Option FieldType) (lv mc ms : Nat) (post : Option Value → aH → Prop) (k n pc : Nat) (L : List (Option Value)) (S : List Value) (σ : aH) : Prop :=
  ∀ (D : va_G) (cI cM : ClassId) (p : Program) (l : Launch) (e : Env) (R : Room) (s : State) (m : MethodId) (args : Array Value) (below : List Frame) (meth : Method) (c : Code) (A : Nat → Prop) (Q : State → Prop) (ad0 : Nat → Nat) (n0 : Nat) (H : Heap) (locs : List Loc) (ls : Array Slot) (ad : Nat → Nat),
    aCx D cI cM p l e R s m args below meth c A Q ad0 n0 Y cc nL rt lv mc ms post → aSt D cI cM A s.heap ad0 n0 H locs ad σ → aLo ad ls nL L σ.length → (∀ v ∈ S, aSc σ.length v) → W p l e R s m args below meth c H locs k n Q (F0 m pc ls (S.map (aRe ad)))
theorem G.use {Y : MethodName} {cc : ByteArray} {nL : Nat} {rt : Option FieldType} {lv mc ms : Nat} {post : Option Value → aH → Prop} {k n pc : Nat} {L : List (Option Value)} {S : List Value} {σ : aH} (h : G Y cc nL rt lv mc ms post k n pc L S σ) {D : va_G} {cI cM : ClassId} {p : Program} {l : Launch} {e : Env} {R : Room} {s : State} {m : MethodId} {args : Array Value} {below : List Frame} {meth : Method} {c : Code} {A : Nat → Prop} {Q : State → Prop} {ad0 : Nat → Nat} {n0 : Nat} {H : Heap} {locs : List Loc} {ls : Array Slot} {ad : Nat → Nat} (C : aCx D cI cM p l e R s m args below meth c A Q ad0 n0 Y cc nL rt lv mc ms post) (X : aSt D cI cM A s.heap ad0 n0 H locs ad σ) (hl : aLo ad ls nL L σ.length) (hS : ∀ v ∈ S, aSc σ.length v) : W p l e R s m args below meth c H locs k n Q (F0 m pc ls (S.map (aRe ad))) := h D cI cM p l e R s m args below meth c A Q ad0 n0 H locs ls ad C X hl hS
section AR
variable {Y : MethodName} {cc : ByteArray} {nL : Nat} {rt : Option FieldType} {lv mc ms : Nat} {post : Option Value → aH → Prop} {k n pc pc' tgt : Nat} {L L' : List (Option Value)} {S : List Value} {σ : aH}
theorem aS1 {N : Nat} {a : Value} (h : ∀ v ∈ a :: S, aSc N v) : ∀ v ∈ S, aSc N v := fun v hv => h v (List.mem_cons_of_mem _ hv)
theorem aS2 {N : Nat} {a b : Value} (h : ∀ v ∈ a :: b :: S, aSc N v) : ∀ v ∈ S, aSc N v := fun v hv => h v (List.mem_cons_of_mem _ (List.mem_cons_of_mem _ hv))
theorem aS3 {N : Nat} {a b c : Value} (h : ∀ v ∈ a :: b :: c :: S, aSc N v) : ∀ v ∈ S, aSc N v := fun v hv => h v (List.mem_cons_of_mem _ (List.mem_cons_of_mem _ (List.mem_cons_of_mem _ hv)))
theorem aSC {N : Nat} {a : Value} (ha : aSc N a) (h : ∀ v ∈ S, aSc N v) : ∀ v ∈ a :: S, aSc N v := List.forall_mem_cons.mpr ⟨ha, h⟩
theorem aSI {N : Nat} {x : Int32} (h : ∀ v ∈ S, aSc N v) : ∀ v ∈ Value.int x :: S, aSc N v := aSC aSc_int h
theorem aSJ {N : Nat} {x : Int64} (h : ∀ v ∈ S, aSc N v) : ∀ v ∈ Value.long x :: S, aSc N v := aSC aSc_long h
/-! decoded instructions, by what they do -/
def aPI (cc : ByteArray) (pc : Nat) (v : Int32) (pc' : Nat) : Prop := (∃ n : Int, decode cc pc = .ok (.iconst n, 1) ∧ Int32.ofInt n = v ∧ pc + 1 = pc') ∨ (∃ n : Int, decode cc pc = .ok (.bipush n, 2) ∧ (Int8.ofInt n).toInt32 = v ∧ pc + 2 = pc') ∨ (∃ n : Int, decode cc pc = .ok (.sipush n, 3) ∧ (Int16.ofInt n).toInt32 = v ∧ pc + 3 = pc')
def aIL (cc : ByteArray) (pc i pc' : Nat) : Prop := (∃ k : Fin 4, decode cc pc = .ok (.iload_n k, 1) ∧ (k : Nat) = i ∧ pc + 1 = pc') ∨ (decode cc pc = .ok (.iload i, 2) ∧ pc + 2 = pc')
def aAL (cc : ByteArray) (pc i pc' : Nat) : Prop := (∃ k : Fin 4, decode cc pc = .ok (.aload_n k, 1) ∧ (k : Nat) = i ∧ pc + 1 = pc') ∨ (decode cc pc = .ok (.aload i, 2) ∧ pc + 2 = pc')
def aLL (cc : ByteArray) (pc i pc' : Nat) : Prop := (∃ k : Fin 4, decode cc pc = .ok (.lload_n k, 1) ∧ (k : Nat) = i ∧ pc + 1 = pc') ∨ (decode cc pc = .ok (.lload i, 2) ∧ pc + 2 = pc')
def aIS (cc : ByteArray) (pc i pc' : Nat) : Prop := (∃ k : Fin 4, decode cc pc = .ok (.istore_n k, 1) ∧ (k : Nat) = i ∧ pc + 1 = pc') ∨ (decode cc pc = .ok (.istore i, 2) ∧ pc + 2 = pc')
def aAS (cc : ByteArray) (pc i pc' : Nat) : Prop := (∃ k : Fin 4, decode cc pc = .ok (.astore_n k, 1) ∧ (k : Nat) = i ∧ pc + 1 = pc') ∨ (decode cc pc = .ok (.astore i, 2) ∧ pc + 2 = pc')
def aLS (cc : ByteArray) (pc i pc' : Nat) : Prop := (∃ k : Fin 4, decode cc pc = .ok (.lstore_n k, 1) ∧ (k : Nat) = i ∧ pc + 1 = pc') ∨ (decode cc pc = .ok (.lstore i, 2) ∧ pc + 2 = pc')
def aII (cc : ByteArray) (pc i : Nat) (v : Int32) (pc' : Nat) : Prop := ∃ n : Int, decode cc pc = .ok (.iinc i n, 3) ∧ Int32.ofInt n = v ∧ pc + 3 = pc'
def aI1 (cc : ByteArray) (pc : Nat) (i : Instr) (pc' : Nat) : Prop := decode cc pc = .ok (i, 1) ∧ pc + 1 = pc'
def aI2 (cc : ByteArray) (pc : Nat) (i : Instr) (pc' : Nat) : Prop := decode cc pc = .ok (i, 2) ∧ pc + 2 = pc'
def aI3 (cc : ByteArray) (pc : Nat) (i : Instr) (pc' : Nat) : Prop := decode cc pc = .ok (i, 3) ∧ pc + 3 = pc'
def aLd (cc : ByteArray) (pc i pc' : Nat) : Prop := (decode cc pc = .ok (.ldc i, 2) ∧ pc + 2 = pc') ∨ (decode cc pc = .ok (.ldc_w i, 3) ∧ pc + 3 = pc')
def aGo (cc : ByteArray) (pc tgt : Nat) : Prop := ∃ off : Int, decode cc pc = .ok (.goto off, 3) ∧ (pc : Int) + off = (tgt : Int)
theorem g_push {v : Int32} (hd : aPI cc pc v pc') (kk : G Y cc nL rt lv mc ms post k n pc' L (.int v :: S) σ) : G Y cc nL rt lv mc ms post k n pc L S σ := by
  intro D cI cM p l e R s m args below meth c A Q ad0 n0 H locs ls ad C X hl hS
  rcases hd with ⟨z, h1, h2, rfl⟩ | ⟨z, h1, h2, rfl⟩ | ⟨z, h1, h2, rfl⟩
  · exact lv_iconst C.1 C.2.1 h1 h2 (kk.use C X hl (aSI hS))
  · exact lv_bipush C.1 C.2.1 h1 h2 (kk.use C X hl (aSI hS))
  · exact lv_sipush C.1 C.2.1 h1 h2 (kk.use C X hl (aSI hS))
theorem g_lconst {z : Fin 2} {v : Int64} (hd : aI1 cc pc (.lconst z) pc') (hv : Int64.ofNat (z : Nat) = v) (kk : G Y cc nL rt lv mc ms post k n pc' L (.long v :: S) σ) : G Y cc nL rt lv mc ms post k n pc L S σ := by
  intro D cI cM p l e R s m args below meth c A Q ad0 n0 H locs ls ad C X hl hS
  obtain ⟨hd, rfl⟩ := hd
  exact lv_lconst C.1 C.2.1 hd hv (kk.use C X hl (aSJ hS))
theorem g_ldc {i : Nat} {v : Int32} (hd : aLd cc pc i pc') (hw : Cond.constant Y.cls i v ∈ aWd) (kk : G Y cc nL rt lv mc ms post k n pc' L (.int v :: S) σ) : G Y cc nL rt lv mc ms post k n pc L S σ := by
  intro D cI cM p l e R s m args below meth c A Q ad0 n0 H locs ls ad C X hl hS
  have ho := C.2.2.2.1
  have hw := C.2.2.2.2.1 _ hw
  rcases hd with ⟨h1, rfl⟩ | ⟨h1, rfl⟩
  · exact lv_ldc C.1 C.2.1 ho hw h1 (kk.use C X hl (aSI hS))
  · exact lv_ldcw C.1 C.2.1 ho hw h1 (kk.use C X hl (aSI hS))
theorem g_ldc2 {i : Nat} {v : Int64} (hd : aI3 cc pc (.ldc2_w i) pc') (hw : Cond.constantLong Y.cls i v ∈ aWd) (kk : G Y cc nL rt lv mc ms post k n pc' L (.long v :: S) σ) : G Y cc nL rt lv mc ms post k n pc L S σ := by
  intro D cI cM p l e R s m args below meth c A Q ad0 n0 H locs ls ad C X hl hS
  obtain ⟨hd, rfl⟩ := hd
  exact lv_ldc2 C.1 C.2.1 C.2.2.2.1 (C.2.2.2.2.1 _ hw) hd (kk.use C X hl (aSJ hS))
theorem g_iload {i : Nat} {x : Int32} (hd : aIL cc pc i pc') (hi : L[i]? = some (some (.int x))) (kk : G Y cc nL rt lv mc ms post k n pc' L (.int x :: S) σ) : G Y cc nL rt lv mc ms post k n pc L S σ := by
  intro D cI cM p l e R s m args below meth c A Q ad0 n0 H locs ls ad C X hl hS
  have hs := (aLo_at hl hi).1
  rcases hd with ⟨z, h1, h2, rfl⟩ | ⟨h1, rfl⟩
  · exact lv_iload_n C.1 C.2.1 h1 h2 hs (kk.use C X hl (aSI hS))
  · exact lv_iload C.1 C.2.1 h1 hs (kk.use C X hl (aSI hS))
theorem g_lload {i : Nat} {x : Int64} (hd : aLL cc pc i pc') (hi : L[i]? = some (some (.long x))) (kk : G Y cc nL rt lv mc ms post k n pc' L (.long x :: S) σ) : G Y cc nL rt lv mc ms post k n pc L S σ := by
  intro D cI cM p l e R s m args below meth c A Q ad0 n0 H locs ls ad C X hl hS
  have hs := (aLo_at hl hi).1
  rcases hd with ⟨z, h1, h2, rfl⟩ | ⟨h1, rfl⟩
  · exact lv_lload_n C.1 C.2.1 h1 h2 hs (kk.use C X hl (aSJ hS))
  · exact lv_lload C.1 C.2.1 h1 hs (kk.use C X hl (aSJ hS))
theorem g_aload {i a : Nat} (hd : aAL cc pc i pc') (hi : L[i]? = some (some (.ref a))) (kk : G Y cc nL rt lv mc ms post k n pc' L (.ref a :: S) σ) : G Y cc nL rt lv mc ms post k n pc L S σ := by
  intro D cI cM p l e R s m args below meth c A Q ad0 n0 H locs ls ad C X hl hS
  obtain ⟨hs, hv⟩ := aLo_at hl hi
  rcases hd with ⟨z, h1, h2, rfl⟩ | ⟨h1, rfl⟩
  · exact lv_aload_n C.1 C.2.1 h1 h2 hs (kk.use C X hl (aSC hv hS))
  · exact lv_aload C.1 C.2.1 h1 hs (kk.use C X hl (aSC hv hS))
theorem g_aloadN {i : Nat} (hd : aAL cc pc i pc') (hi : L[i]? = some (some .null)) (kk : G Y cc nL rt lv mc ms post k n pc' L (.null :: S) σ) : G Y cc nL rt lv mc ms post k n pc L S σ := by
  intro D cI cM p l e R s m args below meth c A Q ad0 n0 H locs ls ad C X hl hS
  obtain ⟨hs, hv⟩ := aLo_at hl hi
  rcases hd with ⟨z, h1, h2, rfl⟩ | ⟨h1, rfl⟩
  · exact lv_aload_nN C.1 C.2.1 h1 h2 hs (kk.use C X hl (aSC hv hS))
  · exact lv_aloadN C.1 C.2.1 h1 hs (kk.use C X hl (aSC hv hS))
theorem g_istore {i : Nat} {x : Int32} (hd : aIS cc pc i pc') (hi : aSto1 L i (.int x) = some L') (kk : G Y cc nL rt lv mc ms post k n pc' L' S σ) : G Y cc nL rt lv mc ms post k n pc L (.int x :: S) σ := by
  intro D cI cM p l e R s m args below meth c A Q ad0 n0 H locs ls ad C X hl hS
  have hlt := (aSto1_spec hi).1
  have hll := hl.2.1
  have hv : aSc σ.length (.int x) := aSc_int
  rcases hd with ⟨z, h1, h2, rfl⟩ | ⟨h1, rfl⟩
  · exact lv_istore_n C.1 C.2.1 h1 h2 hl.1 (by omega) rfl (fun ls' h' => kk.use C X (aLo_sto1 hi hll hl.2.2 hv h') (aS1 hS))
  · exact lv_istore C.1 C.2.1 h1 hl.1 (by omega) rfl (fun ls' h' => kk.use C X (aLo_sto1 hi hll hl.2.2 hv h') (aS1 hS))
theorem g_lstore {i : Nat} {x : Int64} (hd : aLS cc pc i pc') (hi : aSto2 L i (.long x) = some L') (kk : G Y cc nL rt lv mc ms post k n pc' L' S σ) : G Y cc nL rt lv mc ms post k n pc L (.long x :: S) σ := by
  intro D cI cM p l e R s m args below meth c A Q ad0 n0 H locs ls ad C X hl hS
  have hlt := (aSto2_spec hi).1
  have hll := hl.2.1
  have hv : aSc σ.length (.long x) := aSc_long
  rcases hd with ⟨z, h1, h2, rfl⟩ | ⟨h1, rfl⟩
  · exact lv_lstore_n C.1 C.2.1 h1 h2 hl.1 (by omega) rfl (fun ls' h' => kk.use C X (aLo_sto2 hi hll hl.2.2 hv h') (aS1 hS))
  · exact lv_lstore C.1 C.2.1 h1 hl.1 (by omega) rfl (fun ls' h' => kk.use C X (aLo_sto2 hi hll hl.2.2 hv h') (aS1 hS))
theorem g_astore {i : Nat} {a : Nat} (hd : aAS cc pc i pc') (hi : aSto1 L i (.ref a) = some L') (kk : G Y cc nL rt lv mc ms post k n pc' L' S σ) : G Y cc nL rt lv mc ms post k n pc L (.ref a :: S) σ := by
  intro D cI cM p l e R s m args below meth c A Q ad0 n0 H locs ls ad C X hl hS
  have hlt := (aSto1_spec hi).1
  have hll := hl.2.1
  have hv : aSc σ.length (.ref a) := hS _ List.mem_cons_self
  rcases hd with ⟨z, h1, h2, rfl⟩ | ⟨h1, rfl⟩
  · exact lv_astore_n C.1 C.2.1 h1 h2 hl.1 (by omega) rfl (fun ls' h' => kk.use C X (aLo_sto1 hi hll hl.2.2 hv h') (aS1 hS))
  · exact lv_astore C.1 C.2.1 h1 hl.1 (by omega) rfl (fun ls' h' => kk.use C X (aLo_sto1 hi hll hl.2.2 hv h') (aS1 hS))
theorem g_astoreN {i : Nat} (hd : aAS cc pc i pc') (hi : aSto1 L i (.null) = some L') (kk : G Y cc nL rt lv mc ms post k n pc' L' S σ) : G Y cc nL rt lv mc ms post k n pc L (.null :: S) σ := by
  intro D cI cM p l e R s m args below meth c A Q ad0 n0 H locs ls ad C X hl hS
  have hlt := (aSto1_spec hi).1
  have hll := hl.2.1
  have hv : aSc σ.length (.null) := aSc_null
  rcases hd with ⟨z, h1, h2, rfl⟩ | ⟨h1, rfl⟩
  · exact lv_astore_nN C.1 C.2.1 h1 h2 hl.1 (by omega) rfl (fun ls' h' => kk.use C X (aLo_sto1 hi hll hl.2.2 hv h') (aS1 hS))
  · exact lv_astoreN C.1 C.2.1 h1 hl.1 (by omega) rfl (fun ls' h' => kk.use C X (aLo_sto1 hi hll hl.2.2 hv h') (aS1 hS))
theorem g_iinc {i : Nat} {x v : Int32} (hd : aII cc pc i v pc') (hx : L[i]? = some (some (.int x))) (hi : aSto1 L i (.int (x + v)) = some L') (kk : G Y cc nL rt lv mc ms post k n pc' L' S σ) : G Y cc nL rt lv mc ms post k n pc L S σ := by
  intro D cI cM p l e R s m args below meth c A Q ad0 n0 H locs ls ad C X hl hS
  obtain ⟨z, h1, rfl, rfl⟩ := hd
  have hlt := (aSto1_spec hi).1
  have hll := hl.2.1
  obtain ⟨q, hq⟩ := List.getElem?_of_mem (aL2_mem (ad := ad).mpr ⟨.int x, hx, rfl⟩)
  exact lv_iinc C.1 C.2.1 h1 hl.1 hq rfl (by omega) rfl (fun ls' h' => kk.use C X (aLo_sto1 hi hll hl.2.2 aSc_int h') hS)
theorem g_iadd {x y : Int32} (hd : aI1 cc pc .iadd pc') (kk : G Y cc nL rt lv mc ms post k n pc' L (.int (x + y) :: S) σ) : G Y cc nL rt lv mc ms post k n pc L (.int y :: .int x :: S) σ := by
  intro D cI cM p l e R s m args below meth c A Q ad0 n0 H locs ls ad C X hl hS
  obtain ⟨hd, rfl⟩ := hd
  exact lv_iadd C.1 C.2.1 hd (kk.use C X hl (aSI (aS2 hS)))
theorem g_isub {x y : Int32} (hd : aI1 cc pc .isub pc') (kk : G Y cc nL rt lv mc ms post k n pc' L (.int (x - y) :: S) σ) : G Y cc nL rt lv mc ms post k n pc L (.int y :: .int x :: S) σ := by
  intro D cI cM p l e R s m args below meth c A Q ad0 n0 H locs ls ad C X hl hS
  obtain ⟨hd, rfl⟩ := hd
  exact lv_isub C.1 C.2.1 hd (kk.use C X hl (aSI (aS2 hS)))
theorem g_imul {x y : Int32} (hd : aI1 cc pc .imul pc') (kk : G Y cc nL rt lv mc ms post k n pc' L (.int (x * y) :: S) σ) : G Y cc nL rt lv mc ms post k n pc L (.int y :: .int x :: S) σ := by
  intro D cI cM p l e R s m args below meth c A Q ad0 n0 H locs ls ad C X hl hS
  obtain ⟨hd, rfl⟩ := hd
  exact lv_imul C.1 C.2.1 hd (kk.use C X hl (aSI (aS2 hS)))
theorem g_iand {x y : Int32} (hd : aI1 cc pc .iand pc') (kk : G Y cc nL rt lv mc ms post k n pc' L (.int (x &&& y) :: S) σ) : G Y cc nL rt lv mc ms post k n pc L (.int y :: .int x :: S) σ := by
  intro D cI cM p l e R s m args below meth c A Q ad0 n0 H locs ls ad C X hl hS
  obtain ⟨hd, rfl⟩ := hd
  exact lv_iand C.1 C.2.1 hd (kk.use C X hl (aSI (aS2 hS)))
theorem g_ior {x y : Int32} (hd : aI1 cc pc .ior pc') (kk : G Y cc nL rt lv mc ms post k n pc' L (.int (x ||| y) :: S) σ) : G Y cc nL rt lv mc ms post k n pc L (.int y :: .int x :: S) σ := by
  intro D cI cM p l e R s m args below meth c A Q ad0 n0 H locs ls ad C X hl hS
  obtain ⟨hd, rfl⟩ := hd
  exact lv_ior C.1 C.2.1 hd (kk.use C X hl (aSI (aS2 hS)))
theorem g_ixor {x y : Int32} (hd : aI1 cc pc .ixor pc') (kk : G Y cc nL rt lv mc ms post k n pc' L (.int (x ^^^ y) :: S) σ) : G Y cc nL rt lv mc ms post k n pc L (.int y :: .int x :: S) σ := by
  intro D cI cM p l e R s m args below meth c A Q ad0 n0 H locs ls ad C X hl hS
  obtain ⟨hd, rfl⟩ := hd
  exact lv_ixor C.1 C.2.1 hd (kk.use C X hl (aSI (aS2 hS)))
theorem g_ishl {x y : Int32} (hd : aI1 cc pc .ishl pc') (kk : G Y cc nL rt lv mc ms post k n pc' L (.int (x <<< (y &&& 31)) :: S) σ) : G Y cc nL rt lv mc ms post k n pc L (.int y :: .int x :: S) σ := by
  intro D cI cM p l e R s m args below meth c A Q ad0 n0 H locs ls ad C X hl hS
  obtain ⟨hd, rfl⟩ := hd
  exact lv_ishl C.1 C.2.1 hd (kk.use C X hl (aSI (aS2 hS)))
theorem g_ishr {x y : Int32} (hd : aI1 cc pc .ishr pc') (kk : G Y cc nL rt lv mc ms post k n pc' L (.int (x >>> (y &&& 31)) :: S) σ) : G Y cc nL rt lv mc ms post k n pc L (.int y :: .int x :: S) σ := by
  intro D cI cM p l e R s m args below meth c A Q ad0 n0 H locs ls ad C X hl hS
  obtain ⟨hd, rfl⟩ := hd
  exact lv_ishr C.1 C.2.1 hd (kk.use C X hl (aSI (aS2 hS)))
theorem g_idiv {x y : Int32} (hd : aI1 cc pc .idiv pc') (hy : ¬ y = 0) (kk : G Y cc nL rt lv mc ms post k n pc' L (.int (x / y) :: S) σ) : G Y cc nL rt lv mc ms post k n pc L (.int y :: .int x :: S) σ := by
  intro D cI cM p l e R s m args below meth c A Q ad0 n0 H locs ls ad C X hl hS
  obtain ⟨hd, rfl⟩ := hd
  exact lv_idiv C.1 C.2.1 hd hy (kk.use C X hl (aSI (aS2 hS)))
theorem g_irem {x y : Int32} (hd : aI1 cc pc .irem pc') (hy : ¬ y = 0) (kk : G Y cc nL rt lv mc ms post k n pc' L (.int (x - x / y * y) :: S) σ) : G Y cc nL rt lv mc ms post k n pc L (.int y :: .int x :: S) σ := by
  intro D cI cM p l e R s m args below meth c A Q ad0 n0 H locs ls ad C X hl hS
  obtain ⟨hd, rfl⟩ := hd
  exact lv_irem C.1 C.2.1 hd hy (kk.use C X hl (aSI (aS2 hS)))
theorem g_iushr {x y : Int32} (hd : aI1 cc pc .iushr pc') (kk : G Y cc nL rt lv mc ms post k n pc' L (.int ((x.toUInt32 >>> (y.toUInt32 &&& Int32.toUInt32 31)).toInt32) :: S) σ) : G Y cc nL rt lv mc ms post k n pc L (.int y :: .int x :: S) σ := by
  intro D cI cM p l e R s m args below meth c A Q ad0 n0 H locs ls ad C X hl hS
  obtain ⟨hd, rfl⟩ := hd
  exact lv_iushr C.1 C.2.1 hd rfl (kk.use C X hl (aSI (aS2 hS)))
theorem g_ladd {x y : Int64} (hd : aI1 cc pc .ladd pc') (kk : G Y cc nL rt lv mc ms post k n pc' L (.long (x + y) :: S) σ) : G Y cc nL rt lv mc ms post k n pc L (.long y :: .long x :: S) σ := by
  intro D cI cM p l e R s m args below meth c A Q ad0 n0 H locs ls ad C X hl hS
  obtain ⟨hd, rfl⟩ := hd
  exact lv_ladd C.1 C.2.1 hd (kk.use C X hl (aSJ (aS2 hS)))
theorem g_lmul {x y : Int64} (hd : aI1 cc pc .lmul pc') (kk : G Y cc nL rt lv mc ms post k n pc' L (.long (x * y) :: S) σ) : G Y cc nL rt lv mc ms post k n pc L (.long y :: .long x :: S) σ := by
  intro D cI cM p l e R s m args below meth c A Q ad0 n0 H locs ls ad C X hl hS
  obtain ⟨hd, rfl⟩ := hd
  exact lv_lmul C.1 C.2.1 hd (kk.use C X hl (aSJ (aS2 hS)))
theorem g_land {x y : Int64} (hd : aI1 cc pc .land pc') (kk : G Y cc nL rt lv mc ms post k n pc' L (.long (x &&& y) :: S) σ) : G Y cc nL rt lv mc ms post k n pc L (.long y :: .long x :: S) σ := by
  intro D cI cM p l e R s m args below meth c A Q ad0 n0 H locs ls ad C X hl hS
  obtain ⟨hd, rfl⟩ := hd
  exact lv_land C.1 C.2.1 hd (kk.use C X hl (aSJ (aS2 hS)))
theorem g_lcmp {x y : Int64} (hd : aI1 cc pc .lcmp pc') (kk : G Y cc nL rt lv mc ms post k n pc' L (.int (lg_cmp x y) :: S) σ) : G Y cc nL rt lv mc ms post k n pc L (.long y :: .long x :: S) σ := by
  intro D cI cM p l e R s m args below meth c A Q ad0 n0 H locs ls ad C X hl hS
  obtain ⟨hd, rfl⟩ := hd
  exact W.lcmp C.1 C.2.1 hd (kk.use C X hl (aSI (aS2 hS)))
theorem g_i2l {x : Int32} (hd : aI1 cc pc .i2l pc') (kk : G Y cc nL rt lv mc ms post k n pc' L (.long x.toInt64 :: S) σ) : G Y cc nL rt lv mc ms post k n pc L (.int x :: S) σ := by
  intro D cI cM p l e R s m args below meth c A Q ad0 n0 H locs ls ad C X hl hS
  obtain ⟨hd, rfl⟩ := hd
  exact lv_i2l C.1 C.2.1 hd rfl (kk.use C X hl (aSJ (aS1 hS)))
theorem g_l2i {x : Int64} (hd : aI1 cc pc .l2i pc') (kk : G Y cc nL rt lv mc ms post k n pc' L (.int x.toInt32 :: S) σ) : G Y cc nL rt lv mc ms post k n pc L (.long x :: S) σ := by
  intro D cI cM p l e R s m args below meth c A Q ad0 n0 H locs ls ad C X hl hS
  obtain ⟨hd, rfl⟩ := hd
  exact lv_l2i C.1 C.2.1 hd rfl (kk.use C X hl (aSI (aS1 hS)))
theorem g_dup {v : Value} (hd : aI1 cc pc .dup pc') (hv : v.category = 1) (kk : G Y cc nL rt lv mc ms post k n pc' L (v :: v :: S) σ) : G Y cc nL rt lv mc ms post k n pc L (v :: S) σ := by
  intro D cI cM p l e R s m args below meth c A Q ad0 n0 H locs ls ad C X hl hS
  obtain ⟨hd, rfl⟩ := hd
  exact lv_dup C.1 C.2.1 hd (by rw [aRe_cat]; exact hv) (kk.use C X hl (aSC (hS v List.mem_cons_self) hS))
theorem g_dup2 {v w : Value} (hd : aI1 cc pc .dup2 pc') (hv : v.category = 1) (hw : w.category = 1) (kk : G Y cc nL rt lv mc ms post k n pc' L (v :: w :: v :: w :: S) σ) : G Y cc nL rt lv mc ms post k n pc L (v :: w :: S) σ := by
  intro D cI cM p l e R s m args below meth c A Q ad0 n0 H locs ls ad C X hl hS
  obtain ⟨hd, rfl⟩ := hd
  exact lv_dup2_11 C.1 C.2.1 hd (by rw [aRe_cat]; exact hv) (by rw [aRe_cat]; exact hw) (kk.use C X hl (aSC (hS v List.mem_cons_self) (aSC (hS w (List.mem_cons_of_mem _ List.mem_cons_self)) hS)))
def aIf_eq (cc : ByteArray) (pc pc' tgt : Nat) : Prop := ∃ off : Int, decode cc pc = .ok (.ifCond .eq off, 3) ∧ pc + 3 = pc' ∧ (pc : Int) + off = (tgt : Int)
theorem g_if_eq {x : Int32} (hd : aIf_eq cc pc pc' tgt) (kt : x = 0 → G Y cc nL rt lv mc ms post k n tgt L S σ) (kf : ¬ x = 0 → G Y cc nL rt lv mc ms post k n pc' L S σ) : G Y cc nL rt lv mc ms post k n pc L (.int x :: S) σ := by
  intro D cI cM p l e R s m args below meth c A Q ad0 n0 H locs ls ad C X hl hS
  obtain ⟨off, hd, rfl, ht⟩ := hd
  exact lv_if_eq C.1 C.2.1 hd ht (fun h => (kt h).use C X hl (aS1 hS)) (fun h => (kf h).use C X hl (aS1 hS))
def aIf_ne (cc : ByteArray) (pc pc' tgt : Nat) : Prop := ∃ off : Int, decode cc pc = .ok (.ifCond .ne off, 3) ∧ pc + 3 = pc' ∧ (pc : Int) + off = (tgt : Int)
theorem g_if_ne {x : Int32} (hd : aIf_ne cc pc pc' tgt) (kt : ¬ x = 0 → G Y cc nL rt lv mc ms post k n tgt L S σ) (kf : x = 0 → G Y cc nL rt lv mc ms post k n pc' L S σ) : G Y cc nL rt lv mc ms post k n pc L (.int x :: S) σ := by
  intro D cI cM p l e R s m args below meth c A Q ad0 n0 H locs ls ad C X hl hS
  obtain ⟨off, hd, rfl, ht⟩ := hd
  exact lv_if_ne C.1 C.2.1 hd ht (fun h => (kt h).use C X hl (aS1 hS)) (fun h => (kf h).use C X hl (aS1 hS))
def aIf_lt (cc : ByteArray) (pc pc' tgt : Nat) : Prop := ∃ off : Int, decode cc pc = .ok (.ifCond .lt off, 3) ∧ pc + 3 = pc' ∧ (pc : Int) + off = (tgt : Int)
theorem g_if_lt {x : Int32} (hd : aIf_lt cc pc pc' tgt) (kt : x < 0 → G Y cc nL rt lv mc ms post k n tgt L S σ) (kf : ¬ x < 0 → G Y cc nL rt lv mc ms post k n pc' L S σ) : G Y cc nL rt lv mc ms post k n pc L (.int x :: S) σ := by
  intro D cI cM p l e R s m args below meth c A Q ad0 n0 H locs ls ad C X hl hS
  obtain ⟨off, hd, rfl, ht⟩ := hd
  exact lv_if_lt C.1 C.2.1 hd ht (fun h => (kt h).use C X hl (aS1 hS)) (fun h => (kf h).use C X hl (aS1 hS))
def aIf_ge (cc : ByteArray) (pc pc' tgt : Nat) : Prop := ∃ off : Int, decode cc pc = .ok (.ifCond .ge off, 3) ∧ pc + 3 = pc' ∧ (pc : Int) + off = (tgt : Int)
theorem g_if_ge {x : Int32} (hd : aIf_ge cc pc pc' tgt) (kt : 0 ≤ x → G Y cc nL rt lv mc ms post k n tgt L S σ) (kf : ¬ 0 ≤ x → G Y cc nL rt lv mc ms post k n pc' L S σ) : G Y cc nL rt lv mc ms post k n pc L (.int x :: S) σ := by
  intro D cI cM p l e R s m args below meth c A Q ad0 n0 H locs ls ad C X hl hS
  obtain ⟨off, hd, rfl, ht⟩ := hd
  exact lv_if_ge C.1 C.2.1 hd ht (fun h => (kt h).use C X hl (aS1 hS)) (fun h => (kf h).use C X hl (aS1 hS))
def aIf_gt (cc : ByteArray) (pc pc' tgt : Nat) : Prop := ∃ off : Int, decode cc pc = .ok (.ifCond .gt off, 3) ∧ pc + 3 = pc' ∧ (pc : Int) + off = (tgt : Int)
theorem g_if_gt {x : Int32} (hd : aIf_gt cc pc pc' tgt) (kt : 0 < x → G Y cc nL rt lv mc ms post k n tgt L S σ) (kf : ¬ 0 < x → G Y cc nL rt lv mc ms post k n pc' L S σ) : G Y cc nL rt lv mc ms post k n pc L (.int x :: S) σ := by
  intro D cI cM p l e R s m args below meth c A Q ad0 n0 H locs ls ad C X hl hS
  obtain ⟨off, hd, rfl, ht⟩ := hd
  exact lv_if_gt C.1 C.2.1 hd ht (fun h => (kt h).use C X hl (aS1 hS)) (fun h => (kf h).use C X hl (aS1 hS))
def aIf_le (cc : ByteArray) (pc pc' tgt : Nat) : Prop := ∃ off : Int, decode cc pc = .ok (.ifCond .le off, 3) ∧ pc + 3 = pc' ∧ (pc : Int) + off = (tgt : Int)
theorem g_if_le {x : Int32} (hd : aIf_le cc pc pc' tgt) (kt : x ≤ 0 → G Y cc nL rt lv mc ms post k n tgt L S σ) (kf : ¬ x ≤ 0 → G Y cc nL rt lv mc ms post k n pc' L S σ) : G Y cc nL rt lv mc ms post k n pc L (.int x :: S) σ := by
  intro D cI cM p l e R s m args below meth c A Q ad0 n0 H locs ls ad C X hl hS
  obtain ⟨off, hd, rfl, ht⟩ := hd
  exact lv_if_le C.1 C.2.1 hd ht (fun h => (kt h).use C X hl (aS1 hS)) (fun h => (kf h).use C X hl (aS1 hS))
def aIc_eq (cc : ByteArray) (pc pc' tgt : Nat) : Prop := ∃ off : Int, decode cc pc = .ok (.if_icmp .eq off, 3) ∧ pc + 3 = pc' ∧ (pc : Int) + off = (tgt : Int)
theorem g_icmp_eq {x y : Int32} (hd : aIc_eq cc pc pc' tgt) (kt : x = y → G Y cc nL rt lv mc ms post k n tgt L S σ) (kf : ¬ x = y → G Y cc nL rt lv mc ms post k n pc' L S σ) : G Y cc nL rt lv mc ms post k n pc L (.int y :: .int x :: S) σ := by
  intro D cI cM p l e R s m args below meth c A Q ad0 n0 H locs ls ad C X hl hS
  obtain ⟨off, hd, rfl, ht⟩ := hd
  exact lv_icmp_eq C.1 C.2.1 hd ht (fun h => (kt h).use C X hl (aS2 hS)) (fun h => (kf h).use C X hl (aS2 hS))
def aIc_ne (cc : ByteArray) (pc pc' tgt : Nat) : Prop := ∃ off : Int, decode cc pc = .ok (.if_icmp .ne off, 3) ∧ pc + 3 = pc' ∧ (pc : Int) + off = (tgt : Int)
theorem g_icmp_ne {x y : Int32} (hd : aIc_ne cc pc pc' tgt) (kt : ¬ x = y → G Y cc nL rt lv mc ms post k n tgt L S σ) (kf : x = y → G Y cc nL rt lv mc ms post k n pc' L S σ) : G Y cc nL rt lv mc ms post k n pc L (.int y :: .int x :: S) σ := by
  intro D cI cM p l e R s m args below meth c A Q ad0 n0 H locs ls ad C X hl hS
  obtain ⟨off, hd, rfl, ht⟩ := hd
  exact lv_icmp_ne C.1 C.2.1 hd ht (fun h => (kt h).use C X hl (aS2 hS)) (fun h => (kf h).use C X hl (aS2 hS))
def aIc_lt (cc : ByteArray) (pc pc' tgt : Nat) : Prop := ∃ off : Int, decode cc pc = .ok (.if_icmp .lt off, 3) ∧ pc + 3 = pc' ∧ (pc : Int) + off = (tgt : Int)
theorem g_icmp_lt {x y : Int32} (hd : aIc_lt cc pc pc' tgt) (kt : x < y → G Y cc nL rt lv mc ms post k n tgt L S σ) (kf : ¬ x < y → G Y cc nL rt lv mc ms post k n pc' L S σ) : G Y cc nL rt lv mc ms post k n pc L (.int y :: .int x :: S) σ := by
  intro D cI cM p l e R s m args below meth c A Q ad0 n0 H locs ls ad C X hl hS
  obtain ⟨off, hd, rfl, ht⟩ := hd
  exact lv_icmp_lt C.1 C.2.1 hd ht (fun h => (kt h).use C X hl (aS2 hS)) (fun h => (kf h).use C X hl (aS2 hS))
def aIc_ge (cc : ByteArray) (pc pc' tgt : Nat) : Prop := ∃ off : Int, decode cc pc = .ok (.if_icmp .ge off, 3) ∧ pc + 3 = pc' ∧ (pc : Int) + off = (tgt : Int)
theorem g_icmp_ge {x y : Int32} (hd : aIc_ge cc pc pc' tgt) (kt : y ≤ x → G Y cc nL rt lv mc ms post k n tgt L S σ) (kf : ¬ y ≤ x → G Y cc nL rt lv mc ms post k n pc' L S σ) : G Y cc nL rt lv mc ms post k n pc L (.int y :: .int x :: S) σ := by
  intro D cI cM p l e R s m args below meth c A Q ad0 n0 H locs ls ad C X hl hS
  obtain ⟨off, hd, rfl, ht⟩ := hd
  exact lv_icmp_ge C.1 C.2.1 hd ht (fun h => (kt h).use C X hl (aS2 hS)) (fun h => (kf h).use C X hl (aS2 hS))
def aIc_gt (cc : ByteArray) (pc pc' tgt : Nat) : Prop := ∃ off : Int, decode cc pc = .ok (.if_icmp .gt off, 3) ∧ pc + 3 = pc' ∧ (pc : Int) + off = (tgt : Int)
theorem g_icmp_gt {x y : Int32} (hd : aIc_gt cc pc pc' tgt) (kt : y < x → G Y cc nL rt lv mc ms post k n tgt L S σ) (kf : ¬ y < x → G Y cc nL rt lv mc ms post k n pc' L S σ) : G Y cc nL rt lv mc ms post k n pc L (.int y :: .int x :: S) σ := by
  intro D cI cM p l e R s m args below meth c A Q ad0 n0 H locs ls ad C X hl hS
  obtain ⟨off, hd, rfl, ht⟩ := hd
  exact lv_icmp_gt C.1 C.2.1 hd ht (fun h => (kt h).use C X hl (aS2 hS)) (fun h => (kf h).use C X hl (aS2 hS))
def aIc_le (cc : ByteArray) (pc pc' tgt : Nat) : Prop := ∃ off : Int, decode cc pc = .ok (.if_icmp .le off, 3) ∧ pc + 3 = pc' ∧ (pc : Int) + off = (tgt : Int)
theorem g_icmp_le {x y : Int32} (hd : aIc_le cc pc pc' tgt) (kt : x ≤ y → G Y cc nL rt lv mc ms post k n tgt L S σ) (kf : ¬ x ≤ y → G Y cc nL rt lv mc ms post k n pc' L S σ) : G Y cc nL rt lv mc ms post k n pc L (.int y :: .int x :: S) σ := by
  intro D cI cM p l e R s m args below meth c A Q ad0 n0 H locs ls ad C X hl hS
  obtain ⟨off, hd, rfl, ht⟩ := hd
  exact lv_icmp_le C.1 C.2.1 hd ht (fun h => (kt h).use C X hl (aS2 hS)) (fun h => (kf h).use C X hl (aS2 hS))
theorem g_goto (hd : aGo cc pc tgt) (kk : G Y cc nL rt lv mc ms post k n tgt L S σ) : G Y cc nL rt lv mc ms post k n pc L S σ := by
  intro D cI cM p l e R s m args below meth c A Q ad0 n0 H locs ls ad C X hl hS
  obtain ⟨off, hd, ht⟩ := hd
  exact lv_goto C.1 C.2.1 hd ht (kk.use C X hl hS)
theorem g_tswOut {dflt lo hi : Int} {offs : Array Int} {len : Nat} {x : Int32} (hd : decode cc pc = .ok (.tableswitch dflt lo hi offs, len)) (h : x.toInt < lo ∨ hi < x.toInt) (ht : (pc : Int) + dflt = (tgt : Int)) (kk : G Y cc nL rt lv mc ms post k n tgt L S σ) : G Y cc nL rt lv mc ms post k n pc L (.int x :: S) σ := by
  intro D cI cM p l e R s m args below meth c A Q ad0 n0 H locs ls ad C X hl hS
  exact lv_tableOut C.1 C.2.1 hd h ht (kk.use C X hl (aS1 hS))
theorem g_tswIn {dflt lo hi : Int} {offs : Array Int} {len : Nat} {x : Int32} {off : Int} (hd : decode cc pc = .ok (.tableswitch dflt lo hi offs, len)) (h1 : ¬ x.toInt < lo) (h2 : ¬ hi < x.toInt) (ho : offs[(x.toInt - lo).toNat]? = some off) (ht : (pc : Int) + off = (tgt : Int)) (kk : G Y cc nL rt lv mc ms post k n tgt L S σ) : G Y cc nL rt lv mc ms post k n pc L (.int x :: S) σ := by
  intro D cI cM p l e R s m args below meth c A Q ad0 n0 H locs ls ad C X hl hS
  exact lv_tableIn C.1 C.2.1 hd h1 h2 ho ht (kk.use C X hl (aS1 hS))
theorem g_null (hd : aI1 cc pc .aconst_null pc') (kk : G Y cc nL rt lv mc ms post k n pc' L (.null :: S) σ) : G Y cc nL rt lv mc ms post k n pc L S σ := by
  intro D cI cM p l e R s m args below meth c A Q ad0 n0 H locs ls ad C X hl hS
  obtain ⟨hd, rfl⟩ := hd
  exact lv_null C.1 C.2.1 hd (kk.use C X hl (aSC aSc_null hS))
def aNu (cc : ByteArray) (pc pc' tgt : Nat) : Prop := ∃ off : Int, decode cc pc = .ok (.ifnull off, 3) ∧ pc + 3 = pc' ∧ (pc : Int) + off = (tgt : Int)
def aNn (cc : ByteArray) (pc pc' tgt : Nat) : Prop := ∃ off : Int, decode cc pc = .ok (.ifnonnull off, 3) ∧ pc + 3 = pc' ∧ (pc : Int) + off = (tgt : Int)
theorem g_ifnull {a : Nat} (hd : aNu cc pc pc' tgt) (kk : G Y cc nL rt lv mc ms post k n pc' L S σ) : G Y cc nL rt lv mc ms post k n pc L (.ref a :: S) σ := by
  intro D cI cM p l e R s m args below meth c A Q ad0 n0 H locs ls ad C X hl hS
  obtain ⟨off, hd, rfl, ht⟩ := hd
  exact lv_ifnull C.1 C.2.1 hd (kk.use C X hl (aS1 hS))
theorem g_ifnullN (hd : aNu cc pc pc' tgt) (kk : G Y cc nL rt lv mc ms post k n tgt L S σ) : G Y cc nL rt lv mc ms post k n pc L (.null :: S) σ := by
  intro D cI cM p l e R s m args below meth c A Q ad0 n0 H locs ls ad C X hl hS
  obtain ⟨off, hd, rfl, ht⟩ := hd
  exact lv_ifnullN C.1 C.2.1 hd ht (kk.use C X hl (aS1 hS))
theorem g_ifnonnull {a : Nat} (hd : aNn cc pc pc' tgt) (kk : G Y cc nL rt lv mc ms post k n tgt L S σ) : G Y cc nL rt lv mc ms post k n pc L (.ref a :: S) σ := by
  intro D cI cM p l e R s m args below meth c A Q ad0 n0 H locs ls ad C X hl hS
  obtain ⟨off, hd, rfl, ht⟩ := hd
  exact lv_ifnonnull C.1 C.2.1 hd ht (kk.use C X hl (aS1 hS))
theorem g_ifnonnullN (hd : aNn cc pc pc' tgt) (kk : G Y cc nL rt lv mc ms post k n pc' L S σ) : G Y cc nL rt lv mc ms post k n pc L (.null :: S) σ := by
  intro D cI cM p l e R s m args below meth c A Q ad0 n0 H locs ls ad C X hl hS
  obtain ⟨off, hd, rfl, ht⟩ := hd
  exact lv_ifnonnullN C.1 C.2.1 hd (kk.use C X hl (aS1 hS))
/-- a field as an instruction of a class names it: the class's place, the field's place -/
def aFl (own : String) (index ci fk : Nat) : Prop := ∃ (C : String) (T : u_T) (N : Nat) (ref : String), vwCl[ci]? = some (C, T, N) ∧ fk < N ∧ (∀ w ∈ u_ws C T N, w ∈ aWd) ∧ Cond.fieldLink own index ref (T fk).2.1 (T fk).2.2.1 ∈ aWd ∧ ref = (T fk).1
def aFp (ci fk : Nat) (ty : FieldType) (fin : Bool) : Prop := ∃ (C : String) (T : u_T) (N : Nat) (ty0 : Nat → FieldType), vwCl[ci]? = some (C, T, N) ∧ (∀ k, k < N → parseFieldDescriptor (T k).2.2.1 = some (ty0 k)) ∧ (∀ a, a < N → ∀ b, b < N → a ≠ b → (T a).2.1 ≠ (T b).2.1) ∧ (T fk).2.2.2 = fin ∧ parseFieldDescriptor (T fk).2.2.1 = some ty
theorem g_get {index ci fk a : Nat} {fs : List Value} {v : Value} (hd : aI3 cc pc (.getfield index) pc') (hf : aFl Y.cls index ci fk) (hσ : σ[a]? = some (.inr (.inr (ci, fs)))) (hv : fs[fk]? = some v) (kk : G Y cc nL rt lv mc ms post k n pc' L (v :: S) σ) : G Y cc nL rt lv mc ms post k n pc L (.ref a :: S) σ := by
  intro D cI cM p l e R s m args below meth c A Q ad0 n0 H locs ls ad C X hl hS
  obtain ⟨hd, rfl⟩ := hd
  obtain ⟨C', T, N, ref, h1, h2, h3, h4, h5⟩ := hf
  subst h5
  exact va_get C.1 C.2.1 C.2.2.2.2.1 h3 C.2.2.2.1 C.2.2.2.2.2.2.1.1 X.1 a (aW_at hσ) h1 fk h2 (C.2.2.2.2.1 _ h4) (fun _ h => h) (by rw [List.getElem?_map, hv]; rfl) hd
    (kk.use C X hl (aSC (aScH_at X.2.2.2.1 hσ v (List.mem_of_getElem? hv)) (aS1 hS)))
theorem aSt.put {D : va_G} {cI cM : ClassId} {A : Nat → Prop} {H0 : Heap} {ad0 : Nat → Nat} {n0 : Nat} {H H1 : Heap} {locs locs1 : List Loc} {ad : Nat → Nat} {σ : aH} (X : aSt D cI cM A H0 ad0 n0 H locs ad σ) {a : Nat} {c : aT} (hc : aScC σ.length c) (hP : va_P D vwCl ((aW cI cM ad σ).set a (ad a, aE cI cM ad c)) H1) (hD : va_D A ((aW cI cM ad σ).set a (ad a, aE cI cM ad c))) (hS : va_S A H0 H1 locs1) : aSt D cI cM A H0 ad0 n0 H1 locs1 ad (σ.set a c) := by
  rw [aW_set] at hP hD
  exact ⟨hP, hD, hS, aScH_set X.2.2.2.1 hc, X.2.2.2.2.1, by rw [List.length_set]; exact X.2.2.2.2.2⟩
theorem aPutSc {N : Nat} {fs : List Value} {fk ci : Nat} {v : Value} (h : aScC N (.inr (.inr (ci, fs)))) (hv : aSc N v) : aScC N (.inr (.inr (ci, fs.set fk v))) := fun w hw => by
  rcases List.mem_or_eq_of_mem_set hw with h1 | h1
  · exact h w h1
  · rw [h1]; exact hv
theorem g_put {index ci fk a : Nat} {fs : List Value} {v : Value} {ty : FieldType} (hd : aI3 cc pc (.putfield index) pc') (hf : aFl Y.cls index ci fk) (hp : aFp ci fk ty false) (hσ : σ[a]? = some (.inr (.inr (ci, fs)))) (hlt : fk < fs.length) (hn : ∀ ad, narrow ty (aRe ad v) = aRe ad v ∧ fits ty (aRe ad v) = true) (kk : G Y cc nL rt lv mc ms post k n pc' L S (σ.set a (.inr (.inr (ci, fs.set fk v))))) : G Y cc nL rt lv mc ms post k n pc L (v :: .ref a :: S) σ := by
  intro D cI cM p l e R s m args below meth c A Q ad0 n0 H locs ls ad C X hl hS
  obtain ⟨hd, rfl⟩ := hd
  obtain ⟨C', T, N, ref, h1, h2, h3, h4, h5⟩ := hf
  obtain ⟨C2, T2, N2, ty0, g1, g2, g3, g4, g5⟩ := hp
  cases h1.symm.trans g1
  subst h5
  have hsc := aScH_at X.2.2.2.1 hσ
  refine va_put C.1 C.2.1 C.2.2.2.2.1 h3 ty0 g2 g3 C.2.2.2.1 C.2.2.2.2.2.2.1.1 X.1 X.2.1 X.2.2.1 a (aW_at hσ) h1 fk h2 (C.2.2.2.2.1 _ h4) (fun _ h => h) g4 g5 (hn ad).1 (hn ad).2 (by rw [List.length_map]; exact hlt) hd (fun H1 locs1 hP hD hS1 => ?_)
  refine kk.use C (X.put (aPutSc hsc (hS v List.mem_cons_self)) ?_ ?_ hS1) (by rw [List.length_set]; exact hl) (by rw [List.length_set]; exact aS2 hS)
  · show va_P D vwCl ((aW cI cM ad σ).set a (ad a, .inr (ci, (fs.set fk v).map (aRe ad)))) H1
    rw [List.map_set]; exact hP
  · show va_D A ((aW cI cM ad σ).set a (ad a, .inr (ci, (fs.set fk v).map (aRe ad))))
    rw [List.map_set]; exact hD
theorem g_putF {index ci fk a : Nat} {fs : List Value} {v : Value} {ty : FieldType} (hd : aI3 cc pc (.putfield index) pc') (hf : aFl Y.cls index ci fk) (hp : aFp ci fk ty true) (hin : Y.name = "<init>") (hdc : ∀ q : vw_C, vwCl[ci]? = some q → (q.2.1 fk).1 = Y.cls) (hσ : σ[a]? = some (.inr (.inr (ci, fs)))) (hlt : fk < fs.length) (hn : ∀ ad, narrow ty (aRe ad v) = aRe ad v ∧ fits ty (aRe ad v) = true) (kk : G Y cc nL rt lv mc ms post k n pc' L S (σ.set a (.inr (.inr (ci, fs.set fk v))))) : G Y cc nL rt lv mc ms post k n pc L (v :: .ref a :: S) σ := by
  intro D cI cM p l e R s m args below meth c A Q ad0 n0 H locs ls ad C X hl hS
  obtain ⟨hd, rfl⟩ := hd
  obtain ⟨C', T, N, ref, h1, h2, h3, h4, h5⟩ := hf
  obtain ⟨C2, T2, N2, ty0, g1, g2, g3, g4, g5⟩ := hp
  cases h1.symm.trans g1
  subst h5
  have hsc := aScH_at X.2.2.2.1 hσ
  refine va_putF C.1 C.2.1 C.2.2.2.2.1 h3 ty0 g2 g3 C.2.2.2.1 C.2.2.2.2.2.2.1.1 X.1 X.2.1 X.2.2.1 a (aW_at hσ) h1 fk h2 (C.2.2.2.2.1 _ h4) (fun _ h => h) g4 (by rw [C.2.2.2.2.2.1]; exact hin) (hdc _ h1) g5 (hn ad).1 (hn ad).2 (by rw [List.length_map]; exact hlt) hd (fun H1 locs1 hP hD hS1 => ?_)
  refine kk.use C (X.put (aPutSc hsc (hS v List.mem_cons_self)) ?_ ?_ hS1) (by rw [List.length_set]; exact hl) (by rw [List.length_set]; exact aS2 hS)
  · show va_P D vwCl ((aW cI cM ad σ).set a (ad a, .inr (ci, (fs.set fk v).map (aRe ad)))) H1
    rw [List.map_set]; exact hP
  · show va_D A ((aW cI cM ad σ).set a (ad a, .inr (ci, (fs.set fk v).map (aRe ad))))
    rw [List.map_set]; exact hD
theorem g_iald {a : Nat} {xs : List Int32} {i : Int32} (hd : aI1 cc pc .iaload pc') (hσ : σ[a]? = some (.inl xs)) (hi : vp_in i xs.length) (kk : G Y cc nL rt lv mc ms post k n pc' L (.int (xs.getD i.toNatClampNeg 0) :: S) σ) : G Y cc nL rt lv mc ms post k n pc L (.int i :: .ref a :: S) σ := by
  intro D cI cM p l e R s m args below meth c A Q ad0 n0 H locs ls ad C X hl hS
  obtain ⟨hd, rfl⟩ := hd
  exact va_iald C.1 C.2.1 C.2.2.2.2.2.2.1.1 X.1 a 0 (aW_at hσ) rfl hi hd (kk.use C X hl (aSI (aS2 hS)))
theorem g_iast {a : Nat} {xs : List Int32} {i x : Int32} (hd : aI1 cc pc .iastore pc') (hσ : σ[a]? = some (.inl xs)) (hi : vp_in i xs.length) (kk : G Y cc nL rt lv mc ms post k n pc' L S (σ.set a (.inl (xs.set i.toNatClampNeg x)))) : G Y cc nL rt lv mc ms post k n pc L (.int x :: .int i :: .ref a :: S) σ := by
  intro D cI cM p l e R s m args below meth c A Q ad0 n0 H locs ls ad C X hl hS
  obtain ⟨hd, rfl⟩ := hd
  have hlt : i.toNatClampNeg < xs.length := Nat.not_le.mp fun q => hi (Or.inr q)
  have hf : (fun k => (xs.set i.toNatClampNeg x).getD k 0) = upd (fun k => xs.getD k 0) i.toNatClampNeg x := by
    funext k
    simp only [upd, List.getD_eq_getElem?_getD, List.getElem?_set]
    by_cases h : k = i.toNatClampNeg
    · subst h
      simp [hlt]
    · have h2 : ¬ i.toNatClampNeg = k := fun z => h z.symm
      simp [h, h2]
  have hsc := aScH_at X.2.2.2.1 hσ
  refine va_iast C.1 C.2.1 C.2.2.2.2.2.2.1.1 X.1 X.2.1 X.2.2.1 a 0 (aW_at hσ) rfl hi hd (fun H1 locs1 hP hD hS1 => ?_)
  have hsc : aScC σ.length (.inl (xs.set i.toNatClampNeg x)) := by
    show (xs.set i.toNatClampNeg x).length < 65536
    rw [List.length_set]; exact hsc
  refine kk.use C (X.put hsc ?_ ?_ hS1) (by rw [List.length_set]; exact hl) (by rw [List.length_set]; exact aS3 hS)
  · show va_P D vwCl ((aW cI cM ad σ).set a (ad a, .inl (cI, (xs.set i.toNatClampNeg x).length, .inl (fun k => (xs.set i.toNatClampNeg x).getD k 0)))) H1
    rw [hf, List.length_set]; exact hP
  · show va_D A ((aW cI cM ad σ).set a (ad a, .inl (cI, (xs.set i.toNatClampNeg x).length, .inl (fun k => (xs.set i.toNatClampNeg x).getD k 0))))
    rw [hf, List.length_set]; exact hD
theorem g_ilen {a : Nat} {xs : List Int32} (hd : aI1 cc pc .arraylength pc') (hσ : σ[a]? = some (.inl xs)) (kk : G Y cc nL rt lv mc ms post k n pc' L (.int (nI xs.length) :: S) σ) : G Y cc nL rt lv mc ms post k n pc L (.ref a :: S) σ := by
  intro D cI cM p l e R s m args below meth c A Q ad0 n0 H locs ls ad C X hl hS
  obtain ⟨hd, rfl⟩ := hd
  exact va_alen C.1 C.2.1 C.2.2.2.2.2.2.1.1 X.1 a 0 (aW_at hσ) rfl rfl hd (kk.use C X hl (aSI (aS1 hS)))
theorem g_aald {a b : Nat} {rs : List (Option Nat)} {i : Int32} (hd : aI1 cc pc .aaload pc') (hσ : σ[a]? = some (.inr (.inl rs))) (hi : vp_in i rs.length) (hv : rs[i.toNatClampNeg]? = some (some b)) (kk : G Y cc nL rt lv mc ms post k n pc' L (.ref b :: S) σ) : G Y cc nL rt lv mc ms post k n pc L (.int i :: .ref a :: S) σ := by
  intro D cI cM p l e R s m args below meth c A Q ad0 n0 H locs ls ad C X hl hS
  obtain ⟨hd, rfl⟩ := hd
  have hsc := aScH_at X.2.2.2.1 hσ
  refine va_aldq C.1 C.2.1 C.2.2.2.2.2.2.1.1 X.1 a 1 (aW_at hσ) rfl hi hd ?_
  rw [List.getD_eq_getElem?_getD, hv]
  exact kk.use C X hl (aSC (aSc_ref (hsc.2 b (List.mem_of_getElem? hv))) (aS2 hS))
theorem g_aast {a b ci : Nat} {rs : List (Option Nat)} {fs : List Value} {r : vw_C} {i : Int32} (hd : aI1 cc pc .aastore pc') (hσ : σ[a]? = some (.inr (.inl rs))) (hb : σ[b]? = some (.inr (.inr (ci, fs)))) (hr : vwCl[ci]? = some r) (hy : (r.1 = "ReadAloud$Man") ∨ (r.1, "ReadAloud$Man") ∈ aCy) (hi : vp_in i rs.length) (kk : G Y cc nL rt lv mc ms post k n pc' L S (σ.set a (.inr (.inl (rs.set i.toNatClampNeg (some b)))))) : G Y cc nL rt lv mc ms post k n pc L (.ref b :: .int i :: .ref a :: S) σ := by
  intro D cI cM p l e R s m args below meth c A Q ad0 n0 H locs ls ad C X hl hS
  obtain ⟨hd, rfl⟩ := hd
  have hlt : i.toNatClampNeg < rs.length := Nat.not_le.mp fun q => hi (Or.inr q)
  have hf : (fun k => ((rs.set i.toNatClampNeg (some b)).getD k none).map ad) = va_up (fun k => (rs.getD k none).map ad) i.toNatClampNeg (some (ad b)) := by
    funext k
    simp only [va_up, List.getD_eq_getElem?_getD, List.getElem?_set]
    by_cases h : k = i.toNatClampNeg
    · subst h
      simp [hlt]
    · have h2 : ¬ i.toNatClampNeg = k := fun z => h z.symm
      simp [h, h2]
  have hsc := aScH_at X.2.2.2.1 hσ
  have hany : va_Any "ReadAloud$Man" s H (ad b) := by
    refine va_rAny C.2.2.2.2.2.2.1.1 X.1 (aW_at hb) hr (fun comp c0 h1 h2 => ?_)
    rcases hy with hy | hy
    · have hcls := (C.2.2.2.2.2.2.1.1.1 ci r hr).2
      rw [hy] at h2 hcls
      cases h1.symm.trans h2
      cases h1.symm.trans hcls.1
      exact va_assign hcls
    · obtain ⟨c1, t1, f1, f2, f3⟩ := Cond.castable_spec (va_Nw.use (A := args) rfl (C.2.2.2.2.2.2.1.2.2.2.1 _ hy))
      cases h1.symm.trans f2
      cases h2.symm.trans f1
      exact f3
  refine va_astqM C.1 C.2.1 C.2.2.2.2.2.2.1.1 X.1 X.2.1 X.2.2.1 a 1 (aW_at hσ) rfl hany hi hd (fun H1 locs1 hP hD hS1 => ?_)
  have hsc : aScC σ.length (.inr (.inl (rs.set i.toNatClampNeg (some b)))) := by
    refine ⟨by rw [List.length_set]; exact hsc.1, fun j hj => ?_⟩
    rcases List.mem_or_eq_of_mem_set hj with h1 | h1
    · exact hsc.2 j h1
    · have e1 := Option.some.inj h1
      rw [e1]
      exact hS _ List.mem_cons_self b rfl
  refine kk.use C (X.put hsc ?_ ?_ hS1) (by rw [List.length_set]; exact hl) (by rw [List.length_set]; exact aS3 hS)
  · show va_P D vwCl ((aW cI cM ad σ).set a (ad a, .inl (cM, (rs.set i.toNatClampNeg (some b)).length, .inr (.inr (.inr (.inr (fun k => ((rs.set i.toNatClampNeg (some b)).getD k none).map ad))))))) H1
    rw [hf, List.length_set]; exact hP
  · show va_D A ((aW cI cM ad σ).set a (ad a, .inl (cM, (rs.set i.toNatClampNeg (some b)).length, .inr (.inr (.inr (.inr (fun k => ((rs.set i.toNatClampNeg (some b)).getD k none).map ad)))))))
    rw [hf, List.length_set]; exact hD
theorem g_alen {a : Nat} {rs : List (Option Nat)} (hd : aI1 cc pc .arraylength pc') (hσ : σ[a]? = some (.inr (.inl rs))) (kk : G Y cc nL rt lv mc ms post k n pc' L (.int (nI rs.length) :: S) σ) : G Y cc nL rt lv mc ms post k n pc L (.ref a :: S) σ := by
  intro D cI cM p l e R s m args below meth c A Q ad0 n0 H locs ls ad C X hl hS
  obtain ⟨hd, rfl⟩ := hd
  exact va_alen C.1 C.2.1 C.2.2.2.2.2.2.1.1 X.1 a 1 (aW_at hσ) rfl rfl hd (kk.use C X hl (aSI (aS1 hS)))
theorem aSt.push {D : va_G} {cI cM : ClassId} {A : Nat → Prop} {H0 : Heap} {ad0 : Nat → Nat} {n0 : Nat} {H H1 : Heap} {locs locs1 : List Loc} {ad : Nat → Nat} {σ : aH} (X : aSt D cI cM A H0 ad0 n0 H locs ad σ) {q : Nat} {c : aT} (hc : aScC (σ.length + 1) c) (hP : va_P D vwCl (aW cI cM ad σ ++ [(q, aE cI cM (fun i => if i = σ.length then q else ad i) c)]) H1) (hD : va_D A (aW cI cM ad σ ++ [(q, aE cI cM (fun i => if i = σ.length then q else ad i) c)])) (hS : va_S A H0 H1 locs1) : aSt D cI cM A H0 ad0 n0 H1 locs1 (fun i => if i = σ.length then q else ad i) (σ ++ [c]) := by
  rw [← aW_push X.2.2.2.1] at hP hD
  have hn := X.2.2.2.2.2
  refine ⟨hP, hD, hS, aScH_push X.2.2.2.1 hc, fun i hi => ?_, by rw [List.length_append]; omega⟩
  have h2 : ¬ i = σ.length := by omega
  simp only [if_neg h2]
  exact X.2.2.2.2.1 i hi
theorem g_new {index ci : Nat} {r : vw_C} {fs : List Value} {ty : Nat → FieldType} (hd : aI3 cc pc (.new index) pc') (hr : vwCl[ci]? = some r) (hin : ∀ w ∈ u_ws r.1 r.2.1 r.2.2, w ∈ aWd) (hty : ∀ k, k < r.2.2 → parseFieldDescriptor (r.2.1 k).2.2.1 = some (ty k)) (hw1 : Cond.classLink Y.cls index r.1 ∈ aWd) (hw2 : Cond.instantiable r.1 r.2.2 ∈ aWd) (hw3 : Cond.initialized r.1 ∈ aWd) (hfs : ∀ j, j < r.2.2 → defaultValue (ty j) = vp_V fs j) (hno : ∀ v ∈ fs, (∃ x, v = .int x) ∨ v = .null ∨ (∃ x, v = .long x)) (hmc : k + 1 ≤ mc) (hms : n + r.2.2 ≤ ms) (kk : G Y cc nL rt lv mc ms post (k + 1) (n + r.2.2) pc' L (.ref σ.length :: S) (σ ++ [.inr (.inr (ci, fs))])) : G Y cc nL rt lv mc ms post k n pc L S σ := by
  intro D cI cM p l e R s m args below meth c A Q ad0 n0 H locs ls ad C X hl hS
  obtain ⟨hd, rfl⟩ := hd
  have hre : fs.map (aRe ad) = fs := by
    conv => rhs; rw [← List.map_id fs]
    refine List.map_congr_left (fun v hv => ?_)
    rcases hno v hv with ⟨x, rfl⟩ | rfl | ⟨x, rfl⟩ <;> rfl
  have hRm := C.2.2.2.2.2.2.2.2.1.2.2
  refine va_new (ci := ci) (fs := fs) C.1 C.2.1 C.2.2.2.2.1 hin ty hty C.2.2.2.1 (C.2.2.2.2.1 _ hw1) (C.2.2.2.2.1 _ hw2) (C.2.2.2.2.1 _ hw3) C.2.2.2.2.2.2.1.1 X.1 X.2.1 X.2.2.1 C.2.2.2.2.2.2.2.1 hr hfs (by omega) (by omega) hd (fun q H1 hP hD hS1 => ?_)
  have hre2 : fs.map (aRe (fun i => if i = σ.length then q else ad i)) = fs := by
    conv => rhs; rw [← List.map_id fs]
    refine List.map_congr_left (fun v hv => ?_)
    rcases hno v hv with ⟨x, rfl⟩ | rfl | ⟨x, rfl⟩ <;> rfl
  have hsc : aScC (σ.length + 1) (.inr (.inr (ci, fs))) := fun v hv => by
    rcases hno v hv with ⟨x, rfl⟩ | rfl | ⟨x, rfl⟩
    · exact aSc_int
    · exact aSc_null
    · exact aSc_long
  have X' := X.push (c := .inr (.inr (ci, fs))) hsc (by show va_P D vwCl (aW cI cM ad σ ++ [(q, .inr (ci, fs.map (aRe (fun i => if i = σ.length then q else ad i))))]) H1; rw [hre2]; exact hP) (by show va_D A (aW cI cM ad σ ++ [(q, .inr (ci, fs.map (aRe (fun i => if i = σ.length then q else ad i))))]); rw [hre2]; exact hD) hS1
  have he : ∀ i, i < σ.length → (fun i => if i = σ.length then q else ad i) i = ad i := fun i hi => by simp [Nat.ne_of_lt hi]
  have hlen : (σ ++ [(.inr (.inr (ci, fs)) : aT)]).length = σ.length + 1 := by simp
  have hw := kk.use C X' (by rw [hlen]; exact aLo_ad hl (Nat.le_succ _) he) (by rw [hlen]; exact aSC (aSc_ref (Nat.lt_succ_self _)) (fun v hv => aSc_mono (Nat.le_succ _) (hS v hv)))
  rw [List.map_cons, aRe_map he hS] at hw
  simp only [aRe, if_true] at hw
  exact hw
theorem g_newa {x : Int32} {N : Nat} (hd : aI2 cc pc (.newarray .int) pc') (hx : x = nI N) (hN : N < 65536) (hmc : k + 1 ≤ mc) (hms : n + N ≤ ms) (kk : G Y cc nL rt lv mc ms post (k + 1) (n + N) pc' L (.ref σ.length :: S) (σ ++ [.inl (List.replicate N 0)])) : G Y cc nL rt lv mc ms post k n pc L (.int x :: S) σ := by
  intro D cI cM p l e R s m args below meth c A Q ad0 n0 H locs ls ad C X hl hS
  obtain ⟨hd, rfl⟩ := hd
  subst hx
  have hRm := C.2.2.2.2.2.2.2.2.1.2.2
  have hf : ∀ j : Nat, (List.replicate N (0 : Int32)).getD j 0 = 0 := fun j => by
    rw [List.getD_eq_getElem?_getD, List.getElem?_replicate]
    split <;> rfl
  refine va_newa (atype := .int) (ty := .int) (N' := N) (a0 := (N, .inl (fun _ => 0))) C.1 C.2.1 (C.2.2.2.2.1 (.arrayClass .int) aArr_in) rfl C.2.2.2.2.2.2.1.1 X.1 X.2.1 X.2.2.1 C.2.2.2.2.2.2.2.1 (fun cA => rfl) (nI_pos (by omega)) (nI_clamp (by omega)) (by show N * 4 ≤ _; omega) (by omega) (by omega) hd (fun q cA H1 hK hP hD hS1 => ?_)
  have hcA : cA = cI := by
    have h1 := (hK.2 2 (cA, .int) rfl).2
    have h2 := (C.2.2.2.2.2.2.1.1.2 0 (cI, .int) rfl).2
    exact Option.some.inj (h1.symm.trans h2)
  subst hcA
  have hsc : aScC (σ.length + 1) (.inl (List.replicate N 0)) := by
    show (List.replicate N (0 : Int32)).length < 65536
    rw [List.length_replicate]; exact hN
  have hE : aE cA cM (fun i => if i = σ.length then q else ad i) (.inl (List.replicate N 0)) = .inl (cA, N, .inl (fun _ => 0)) := by
    show Sum.inl (cA, (List.replicate N (0 : Int32)).length, Sum.inl (fun k => (List.replicate N (0 : Int32)).getD k 0)) = _
    rw [List.length_replicate, funext hf]
  have X' := X.push (c := .inl (List.replicate N 0)) hsc (by rw [hE]; exact hP) (by rw [hE]; exact hD) hS1
  have he : ∀ i, i < σ.length → (fun i => if i = σ.length then q else ad i) i = ad i := fun i hi => by simp [Nat.ne_of_lt hi]
  have hlen : (σ ++ [(.inl (List.replicate N 0) : aT)]).length = σ.length + 1 := by simp
  have hw := kk.use C X' (by rw [hlen]; exact aLo_ad hl (Nat.le_succ _) he) (by rw [hlen]; exact aSC (aSc_ref (Nat.lt_succ_self _)) (fun v hv => aSc_mono (Nat.le_succ _) (aS1 hS v hv)))
  rw [List.map_cons, aRe_map he (aS1 hS)] at hw
  simp only [aRe, if_true] at hw
  exact hw
theorem g_newq {x : Int32} {index N : Nat} (hd : aI3 cc pc (.anewarray index) pc') (hw1 : Cond.classLink Y.cls index "ReadAloud$Man" ∈ aWd) (hx : x = nI N) (hN : N < 65536) (hmc : k + 1 ≤ mc) (hms : n + N ≤ ms) (kk : G Y cc nL rt lv mc ms post (k + 1) (n + N) pc' L (.ref σ.length :: S) (σ ++ [.inr (.inl (List.replicate N none))])) : G Y cc nL rt lv mc ms post k n pc L (.int x :: S) σ := by
  intro D cI cM p l e R s m args below meth c A Q ad0 n0 H locs ls ad C X hl hS
  obtain ⟨hd, rfl⟩ := hd
  subst hx
  have hRm := C.2.2.2.2.2.2.2.2.1.2.2
  have hf : ∀ ad' : Nat → Nat, ∀ j : Nat, ((List.replicate N (none : Option Nat)).getD j none).map ad' = none := fun ad' j => by
    rw [List.getD_eq_getElem?_getD, List.getElem?_replicate]
    split <;> rfl
  refine va_newq (N' := N) C.1 C.2.1 C.2.2.2.1 (C.2.2.2.2.1 _ hw1) C.2.2.2.2.2.2.1.2.2.1 C.2.2.2.2.2.2.1.1 X.1 X.2.1 X.2.2.1 C.2.2.2.2.2.2.2.1 (nI_pos (by omega)) (nI_clamp (by omega)) (by omega) (by omega) (by omega) hd (fun q cA H1 hK hP hD hS1 => ?_)
  have hcA : cA = cM := by
    obtain ⟨k1, c1, a1, a2, a3, a4⟩ := (hK.2 2 (cA, .object "ReadAloud$Man") rfl).2
    obtain ⟨k2, c2, b1, b2, b3, b4⟩ := (C.2.2.2.2.2.2.1.1.2 1 (cM, .object "ReadAloud$Man") rfl).2
    exact Option.some.inj (a4.symm.trans b4)
  subst hcA
  have hsc : aScC (σ.length + 1) (.inr (.inl (List.replicate N none))) := by
    refine ⟨by rw [List.length_replicate]; exact hN, fun i hi => ?_⟩
    have := List.eq_of_mem_replicate hi
    cases this
  have hE : aE cI cA (fun i => if i = σ.length then q else ad i) (.inr (.inl (List.replicate N none))) = .inl (cA, N, .inr (.inr (.inr (.inr (fun _ => none))))) := by
    show Sum.inl (cA, (List.replicate N (none : Option Nat)).length, Sum.inr (Sum.inr (Sum.inr (Sum.inr (fun k => ((List.replicate N (none : Option Nat)).getD k none).map _))))) = _
    rw [List.length_replicate, funext (hf _)]
  have X' := X.push (c := .inr (.inl (List.replicate N none))) hsc (by rw [hE]; exact hP) (by rw [hE]; exact hD) hS1
  have he : ∀ i, i < σ.length → (fun i => if i = σ.length then q else ad i) i = ad i := fun i hi => by simp [Nat.ne_of_lt hi]
  have hlen : (σ ++ [(.inr (.inl (List.replicate N none)) : aT)]).length = σ.length + 1 := by simp
  have hw := kk.use C X' (by rw [hlen]; exact aLo_ad hl (Nat.le_succ _) he) (by rw [hlen]; exact aSC (aSc_ref (Nat.lt_succ_self _)) (fun v hv => aSc_mono (Nat.le_succ _) (aS1 hS v hv)))
  rw [List.map_cons, aRe_map he (aS1 hS)] at hw
  simp only [aRe, if_true] at hw
  exact hw
theorem g_instY {index ci a : Nat} {nm : String} {r : vw_C} {fs : List Value} (hd : aI3 cc pc (.instanceof index) pc') (hw : Cond.classLink Y.cls index nm ∈ aWd) (hσ : σ[a]? = some (.inr (.inr (ci, fs)))) (hr : vwCl[ci]? = some r) (hy : (r.1, nm) ∈ aCy) (kk : G Y cc nL rt lv mc ms post k n pc' L (.int 1 :: S) σ) : G Y cc nL rt lv mc ms post k n pc L (.ref a :: S) σ := by
  intro D cI cM p l e R s m args below meth c A Q ad0 n0 H locs ls ad C X hl hS
  obtain ⟨hd, rfl⟩ := hd
  have hrec := va_recv C.2.2.2.2.2.2.1.1 X.1 hr (aW_at (cI := cI) (cM := cM) (ad := ad) hσ)
  exact va_instY C.1 C.2.1 C.2.2.2.1 (C.2.2.2.2.1 _ hw) (C.2.2.2.2.2.2.1.2.2.2.1 _ hy) hrec hd (kk.use C X hl (aSI (aS1 hS)))
theorem g_instN {index ci a : Nat} {nm : String} {r : vw_C} {fs : List Value} (hd : aI3 cc pc (.instanceof index) pc') (hw : Cond.classLink Y.cls index nm ∈ aWd) (hσ : σ[a]? = some (.inr (.inr (ci, fs)))) (hr : vwCl[ci]? = some r) (hy : (r.1, nm) ∈ aCn) (kk : G Y cc nL rt lv mc ms post k n pc' L (.int 0 :: S) σ) : G Y cc nL rt lv mc ms post k n pc L (.ref a :: S) σ := by
  intro D cI cM p l e R s m args below meth c A Q ad0 n0 H locs ls ad C X hl hS
  obtain ⟨hd, rfl⟩ := hd
  have hrec := va_recv C.2.2.2.2.2.2.1.1 X.1 hr (aW_at (cI := cI) (cM := cM) (ad := ad) hσ)
  exact va_instNo C.1 C.2.1 C.2.2.2.1 (C.2.2.2.2.1 _ hw) (C.2.2.2.2.2.2.1.2.2.2.2 _ hy) hrec hd (kk.use C X hl (aSI (aS1 hS)))
theorem g_instS {index ci a : Nat} {nm : String} {r : vw_C} {fs : List Value} (hd : aI3 cc pc (.instanceof index) pc') (hw : Cond.classLink Y.cls index nm ∈ aWd) (hσ : σ[a]? = some (.inr (.inr (ci, fs)))) (hr : vwCl[ci]? = some r) (hy : r.1 = nm) (kk : G Y cc nL rt lv mc ms post k n pc' L (.int 1 :: S) σ) : G Y cc nL rt lv mc ms post k n pc L (.ref a :: S) σ := by
  intro D cI cM p l e R s m args below meth c A Q ad0 n0 H locs ls ad C X hl hS
  obtain ⟨hd, rfl⟩ := hd
  have hrec := va_recv C.2.2.2.2.2.2.1.1 X.1 hr (aW_at (cI := cI) (cM := cM) (ad := ad) hσ)
  exact va_instS C.1 C.2.1 C.2.2.2.1 (C.2.2.2.2.1 _ hw) (hy ▸ (C.2.2.2.2.2.2.1.1.1 ci r hr).2) (hy ▸ hrec) hd (kk.use C X hl (aSI (aS1 hS)))
theorem g_ret {v : Option Value} (hr : aRet cc rt pc v) (hk : k ≤ mc) (hn : n ≤ ms) (hp : post v σ) : G Y cc nL rt lv mc ms post k n pc L v.toList σ := by
  intro D cI cM p l e R s m args below meth c A Q ad0 n0 H locs ls ad C X hl hS
  exact C.2.2.2.2.2.2.2.2.2 hp hk hn X (fun w hw => hS w (by rw [hw]; exact List.mem_cons_self)) hr
end AR

/-! ===== a whole method; calls ===== -/
def aRm (lv mc ms : Nat) : Room := { frames := lv, cells := mc, slots := ms, locals := 40 * lv + 20 }
def aQ (D : va_G) (cI cM : ClassId) (ad0 : Nat → Nat) (n0 : Nat) (A : Nat → Prop) (post : Option Value → aH → Prop) : Array Value → State → Outcome → State → Prop := fun _ st o t =>
  (∃ (v : Option Value) (σ' : aH) (ad' : Nat → Nat), o = .returned (v.map (aRe ad')) ∧ post v σ' ∧ (∀ w, v = some w → aSc σ'.length w) ∧ aScH σ' ∧ (∀ i, i < n0 → ad' i = ad0 i) ∧ n0 ≤ σ'.length ∧ va_P D vwCl (aW cI cM ad' σ') t.heap ∧ va_D A (aW cI cM ad' σ')) ∧ va_F A st t
def aPr (D : va_G) (cI cM : ClassId) (ad : Nat → Nat) (σ : aH) (sz : Nat) (U : State) : Prop := U.heap.size = sz ∧ va_P D vwCl (aW cI cM ad σ) U.heap ∧ aK D cI cM U ∧ va_D (fun _ => True) (aW cI cM ad σ)
/-- a method's contract at these arguments and this heap -/
def AMet (Y : MethodName) (cc : ByteArray) (nL : Nat) (rt : Option FieldType) (lv mc ms : Nat) (args : List Value) (σ : aH) (post : Option Value → aH → Prop) : Prop :=
  aScH σ → (∀ v ∈ args, aSc σ.length v) → ∀ (l : Launch) (D : va_G) (cI cM : ClassId) (ad : Nat → Nat) (sz : Nat),
    Met l Y (.code Y cc nL rt :: aWd) (aRm lv mc ms) (va_Pc (args.map (aRe ad)) (aPr D cI cM ad σ sz)) (aQ D cI cM ad σ.length (va_A (aW cI cM ad σ) sz) post) mc ms (va_A (aW cI cM ad σ) sz)
def aEn : List Value → List (Option Value)
  | [] => []
  | .long x :: vs => some (.long x) :: none :: aEn vs
  | .double x :: vs => some (.double x) :: none :: aEn vs
  | v :: vs => some v :: aEn vs
theorem aEn_cons (v : Value) (vs : List Value) : aEn (v :: vs) = some v :: ((if v.category = 2 then [none] else []) ++ aEn vs) := by cases v <;> rfl
theorem aEn_len (ad : Nat → Nat) : ∀ vs : List Value, (lg_sl (vs.map (aRe ad))).length = (aEn vs).length
  | [] => rfl
  | v :: vs => by
    rw [aEn_cons, List.map_cons]
    have h := aEn_len ad vs
    simp only [lg_sl, List.flatMap_cons, List.length_append, aRe_cat, List.length_cons] at h ⊢
    rw [h]
    split <;> simp <;> omega
theorem aEn_mem (ad : Nat → Nat) : ∀ (vs : List Value) (i j : Nat) (v : Value), (aEn vs)[j]? = some (some v) → (i + j, aRe ad v) ∈ lv_args i (vs.map (aRe ad))
  | [], i, j, v, h => by simp [aEn] at h
  | w :: vs, i, j, v, h => by
    rw [aEn_cons] at h
    rw [List.map_cons]
    unfold lv_args
    rw [aRe_cat]
    cases j with
    | zero =>
      simp only [List.getElem?_cons_zero, Option.some.injEq] at h
      rw [h]
      exact List.mem_cons_self
    | succ j =>
      rw [List.getElem?_cons_succ] at h
      refine List.mem_cons_of_mem _ ?_
      by_cases hc : w.category = 2
      · rw [if_pos hc] at h ⊢
        cases j with
        | zero => cases h
        | succ j =>
          have := aEn_mem ad vs (i + 2) j v h
          rw [show i + (j + 1 + 1) = i + 2 + j by omega]
          exact this
      · rw [if_neg hc] at h ⊢
        have := aEn_mem ad vs (i + 1) j v h
        rw [show i + (j + 1) = i + 1 + j by omega]
        exact this
def aL0 (nL : Nat) (args : List Value) : List (Option Value) := aEn args ++ List.replicate (nL - (aEn args).length) none
theorem aEn_sc {N : Nat} : ∀ (vs : List Value), (∀ v ∈ vs, aSc N v) → ∀ v, some v ∈ aEn vs → aSc N v
  | [], _, v, h => by cases h
  | w :: vs, hs, v, h => by
    rw [aEn_cons] at h
    rcases List.mem_cons.mp h with h | h
    · cases h; exact hs _ List.mem_cons_self
    · rcases List.mem_append.mp h with h | h
      · split at h <;> simp at h
      · exact aEn_sc vs (aS1 hs) v h
theorem AMet_of_G {Y : MethodName} {cc : ByteArray} {nL : Nat} {rt : Option FieldType} {lv mc ms : Nat} {args : List Value} {σ : aH} {post : Option Value → aH → Prop} (hy : plainName Y.cls = true) (hlen : (aEn args).length ≤ nL) (hG : G Y cc nL rt lv mc ms post 0 0 0 (aL0 nL args) [] σ) : AMet Y cc nL rt lv mc ms args σ post := by
  intro hσ hsc l D cI cM ad sz
  refine Met.ofW (cc := cc) (maxL := nL) (ret := rt) hy rfl ?_
  intro p e s m args' below meth c s₁ B hml hv
  obtain ⟨rfl, hsz, hP, hK, hD0⟩ := hv
  have hts : ∀ w ∈ (Cond.code Y cc nL rt :: aWd), w.before ((args.map (aRe ad)).toArray) s = true := atoms_spec (ws := Cond.code Y cc nL rt :: aWd) B.pre
  subst hsz
  have hD := hD0.self (sz := s.heap.size)
  rw [lg_entry_eq]
  have hl := lv_entry (args.map (aRe ad)) (n := nL) (by rw [aEn_len]; exact hlen)
  refine hG.use (A := va_A (aW cI cM ad σ) s.heap.size) (ad0 := ad) (n0 := σ.length) (ad := ad) ⟨B.exec, B.bytes, hml, findClass_of_methodNamed B.named, fun w hw => hts w (List.mem_cons_of_mem _ hw), (name_of_methodNamed B.named B.method).1, hK, fun q h => Or.inr h, ⟨Nat.le_refl _, Nat.le_refl _, Nat.le_refl _, Nat.le_refl _⟩, ?_⟩ ⟨hP, hD, va_S.rf, hσ, fun _ _ => rfl, Nat.le_refl _⟩ ⟨lv_less hl ?_, ?_, ?_⟩ (fun v h => by cases h)
  · intro H locs ls ad' σ' k n pc v hp hk hn X hv hret
    refine W.widen (k := mc) (n := ms) hk hn ?_
    have hq : ∀ (t : State), t.heap = H → aQ D cI cM ad σ.length (va_A (aW cI cM ad σ) s.heap.size) post ((args.map (aRe ad)).toArray) s (.returned (v.map (aRe ad'))) t := fun t ht =>
      ⟨⟨v, σ', ad', rfl, hp, hv, X.2.2.2.1, X.2.2.2.2.1, X.2.2.2.2.2, by rw [ht]; exact X.1, X.2.1⟩, X.2.2.1.F ht⟩
    rcases hret with ⟨rfl, rfl, hd⟩ | ⟨x, ty, rfl, rfl, hn, hd⟩ | ⟨x, rfl, rfl, hd⟩ | ⟨hv2, ⟨z, rfl⟩, hd⟩
    · exact W.vret B.exec B.bytes B.returns (fun t ht hW => hq t ht) X.2.2.1.2.2 hd (hlocks := B.notSynchronized)
    · exact W.zret B.exec B.bytes B.returns hn (fun t ht hW => hq t ht) X.2.2.1.2.2 hd (hlocks := B.notSynchronized)
    · exact W.lret B.exec B.bytes B.returns (fun t ht hW => hq t ht) X.2.2.1.2.2 hd (hlocks := B.notSynchronized)
    · rcases hv2 with rfl | ⟨i, rfl⟩
      · exact W.aret B.exec B.bytes B.returns (Or.inl ⟨z, rfl⟩) (Or.inl rfl) (fun t ht hW => hq t ht) X.2.2.1.2.2 hd (hlocks := B.notSynchronized)
      · exact W.aret B.exec B.bytes B.returns (Or.inl ⟨z, rfl⟩) (Or.inr ⟨_, rfl⟩) (fun t ht hW => hq t ht) X.2.2.1.2.2 hd (hlocks := B.notSynchronized)
  · rintro ⟨j, w⟩ hq
    obtain ⟨v, h1, h2⟩ := aL2_mem.mp hq
    have h3 : (aEn args)[j]? = some (some v) := by
      unfold aL0 at h1
      rw [List.getElem?_append] at h1
      split at h1
      · exact h1
      · rw [List.getElem?_replicate] at h1
        split at h1 <;> cases h1
    have h4 := aEn_mem ad args 0 j v h3
    rw [Nat.zero_add] at h4
    rw [h2]
    exact h4
  · unfold aL0
    rw [List.length_append, List.length_replicate]
    omega
  · intro v hv
    unfold aL0 at hv
    rcases List.mem_append.mp hv with h | h
    · exact aEn_sc args hsc v h
    · have := List.eq_of_mem_replicate h
      cases this
theorem AMet.weaken {Y : MethodName} {cc : ByteArray} {nL : Nat} {rt : Option FieldType} {lv mc ms : Nat} {args : List Value} {σ : aH} {post post' : Option Value → aH → Prop} (h : AMet Y cc nL rt lv mc ms args σ post) (hp : ∀ v σ', post v σ' → post' v σ') : AMet Y cc nL rt lv mc ms args σ post' := by
  intro hσ hsc l D cI cM ad sz
  intro p e a1 a2 a3 s m args' below a4 a5 a6 a7
  obtain ⟨n, o, b1, b2, b3, ⟨⟨v, σ', ad', g1, g2, g3⟩, g4⟩, b5⟩ := h hσ hsc l D cI cM ad sz p e a1 a2 a3 s m args' below a4 a5 a6 a7
  exact ⟨n, o, b1, b2, b3, ⟨⟨v, σ', ad', g1, hp _ _ g2, g3⟩, g4⟩, b5⟩
theorem aPr_blind {D : va_G} {cI cM : ClassId} {ad : Nat → Nat} {σ : aH} {sz : Nat} {av : List Value} : FrameBlind (va_Pc av (aPr D cI cM ad σ sz)) := fun a U g mk q => by
  obtain ⟨q0, q1, qP, qK, qD⟩ := q
  exact ⟨q0, q1, qP, aK.same rfl qK, qD⟩
section AC
variable {p : Program} {l : Launch} {e : Env} {R : Room} {s : State} {m : MethodId} {args : Array Value} {below : List Frame} {meth : Method} {c : Code} {H : Heap} {locs : List Loc} {cells slots : Nat} {Q : State → Prop}
theorem a_call {D : va_G} {cI cM : ClassId} {A A1 : Nat → Prop} {ad0 : Nat → Nat} {n0 : Nat} {ad : Nat → Nat} {σ : aH} {post' : Option Value → aH → Prop} {mc' ms' pc : Nat} {ls : Array Slot} {st0 rest : List Value} {a : Array Value} (hr : va_Run p l e R s m args below meth c H locs cells slots mc' ms' (F0 m pc ls st0) rest (aQ D cI cM ad σ.length A1 post' a) A1) (X : aSt D cI cM A s.heap ad0 n0 H locs ad σ) (hA : ∀ q, A1 q → A q)
    (kk : ∀ (v : Option Value) (σ' : aH) (ad' : Nat → Nat) (H1 : Heap) (locs1 : List Loc), post' v σ' → (∀ w, v = some w → aSc σ'.length w) → σ.length ≤ σ'.length → (∀ i, i < σ.length → ad' i = ad i) → aSt D cI cM A s.heap ad0 n0 H1 locs1 ad' σ' → W p l e R s m args below meth c H1 locs1 (cells + mc') (slots + ms') Q (F0 m (pc + 3) ls ((v.map (aRe ad')).toList ++ rest))) : W p l e R s m args below meth c H locs cells slots Q (F0 m pc ls st0) := by
  intro T hT Xs
  obtain ⟨v0, st₀, t, T', L, h0, X', hL, e1, e2, ⟨⟨v, σ', ad', hv, hp, hw, hsc, had, hlen, hP1, hD1⟩, hz, hk⟩, st⟩ := hr T hT Xs
  cases hv
  rw [h0] at hz hk
  have hS := X.2.2.1
  have hS1 : va_S A s.heap t.heap (locs ++ L) := ⟨Nat.le_trans hS.1 hz, fun q h1 h2 => by rw [hk q (Nat.lt_of_lt_of_le h1 hS.1) (fun z => h2 (hA q z))]; exact hS.2.1 q h1 h2, fun q hq => by
      rcases List.mem_append.mp hq with h | h
      · exact hS.2.2 q h
      · exact hA _ (hL q h)⟩
  obtain ⟨t2, a1, b1⟩ := kk v σ' ad' t.heap (locs ++ L) hp hw hlen had ⟨hP1, hD1.weaken (fun _ _ _ h => hA _ h), hS1, hsc, fun i hi => (had i (Nat.lt_of_lt_of_le hi X.2.2.2.2.2)).trans (X.2.2.2.2.1 i hi), Nat.le_trans X.2.2.2.2.2 hlen⟩ T' e1 X'
  exact ⟨t2, st t2 a1, b1⟩
theorem a_free {D : va_G} {cI cM : ClassId} {A : Nat → Prop} {ad0 : Nat → Nat} {n0 : Nat} {ad : Nat → Nat} {σ : aH} {H0 : Heap} (X : aSt D cI cM A H0 ad0 n0 H locs ad σ) (hA : ∀ q, H0.size ≤ q → A q) : ∀ q, va_A (aW cI cM ad σ) H.size q → A q := by
  intro q h
  rcases h with ⟨k, e, h⟩ | h
  · exact X.2.1.2 k (q, e) h
  · exact hA q (Nat.le_trans X.2.2.1.1 h)
end AC
def aNoMH (y : MethodName) (np : Nat) : Prop := y.cls ≠ "java/lang/invoke/MethodHandle" ∧ y.cls ≠ "java/lang/invoke/VarHandle" ∧ (parseMethodDescriptor y.desc).map (fun d => d.parameters.length) = some np
def aLV (own : String) (index : Nat) (C : String) (y : MethodName) (cc : ByteArray) (nL : Nat) (rt : Option FieldType) (np : Nat) : Prop := Cond.methodLink own index y ∈ aWd ∧ Cond.instanceMethod y ∈ aWd ∧ Cond.selects C y y ∈ aWd ∧ Cond.initialized C ∈ aWd ∧ Cond.code y cc nL rt ∈ aWd ∧ y.cls = C ∧ aNoMH y np
def aLSt (own : String) (index : Nat) (y : MethodName) (cc : ByteArray) (nL : Nat) (rt : Option FieldType) (np : Nat) : Prop := Cond.methodLink own index y ∈ aWd ∧ Cond.static y ∈ aWd ∧ Cond.initialized y.cls ∈ aWd ∧ Cond.code y cc nL rt ∈ aWd ∧ aNoMH y np
def aLSn (own : String) (index : Nat) (y : MethodName) (host : String) (cc : ByteArray) (nL : Nat) (rt : Option FieldType) (np : Nat) : Prop := (own, index, y, host) ∈ aNl ∧ Cond.static y ∈ aWd ∧ Cond.initialized y.cls ∈ aWd ∧ Cond.code y cc nL rt ∈ aWd ∧ aNoMH y np
def aLI (own : String) (index : Nat) (y : MethodName) (cc : ByteArray) (nL : Nat) (np : Nat) : Prop := Cond.methodLink own index y ∈ aWd ∧ Cond.instanceMethod y ∈ aWd ∧ Cond.initialized y.cls ∈ aWd ∧ Cond.code y cc nL none ∈ aWd ∧ y.name = "<init>" ∧ aNoMH y np
def aLIn (own : String) (index : Nat) (y : MethodName) (host : String) (cc : ByteArray) (nL : Nat) (np : Nat) : Prop := (own, index, y, host) ∈ aNl ∧ Cond.instanceMethod y ∈ aWd ∧ Cond.initialized y.cls ∈ aWd ∧ Cond.code y cc nL none ∈ aWd ∧ y.name = "<init>" ∧ aNoMH y np
def aLU (own : String) (index : Nat) (C owner : String) (x y : MethodName) (cc : ByteArray) (nL : Nat) (rt : Option FieldType) (np : Nat) : Prop := Cond.methodLink own index x ∈ aWd ∧ Cond.sameMethod x.cls owner x.name x.desc ∈ aWd ∧ Cond.instanceMethod ⟨owner, x.name, x.desc⟩ ∈ aWd ∧ Cond.selects C x y ∈ aWd ∧ Cond.instanceMethod y ∈ aWd ∧ Cond.initialized y.cls ∈ aWd ∧ Cond.code y cc nL rt ∈ aWd ∧ (∃ (b0 : ByteArray) (m0 : Nat) (r0 : Option FieldType), Cond.code ⟨owner, x.name, x.desc⟩ b0 m0 r0 ∈ aWd) ∧ (owner ≠ "java/lang/invoke/MethodHandle" ∧ owner ≠ "java/lang/invoke/VarHandle" ∧ (parseMethodDescriptor x.desc).map (fun d => d.parameters.length) = some np)
def aLSu (own : String) (index : Nat) (y : MethodName) (cc : ByteArray) (nL : Nat) (rt : Option FieldType) (np : Nat) : Prop := Cond.methodLink own index y ∈ aWd ∧ Cond.sameMethod y.cls y.cls y.name y.desc ∈ aWd ∧ Cond.superclass own y.cls ∈ aWd ∧ Cond.instanceMethod y ∈ aWd ∧ Cond.initialized y.cls ∈ aWd ∧ Cond.code y cc nL rt ∈ aWd ∧ y.name ≠ "<init>" ∧ (parseMethodDescriptor y.desc).map (fun d => d.parameters.length) = some np
theorem aWd_c {y : MethodName} {cc : ByteArray} {nL : Nat} {rt : Option FieldType} (h : Cond.code y cc nL rt ∈ aWd) : ∀ w ∈ (Cond.code y cc nL rt :: aWd), w ∈ aWd := List.forall_mem_cons.mpr ⟨h, fun _ h => h⟩
theorem aGood {ws : List Cond} (h : ∀ w ∈ ws, w ∈ aWd) : GoodIn aWd ws := fun w hw => aWd_good w (h w hw)
theorem aCons3 {w0 : Cond} {w1 : Cond} {w2 : Cond} {ws : List Cond} (h0 : w0 ∈ aWd) (h1 : w1 ∈ aWd) (h2 : w2 ∈ aWd) (h : ∀ w ∈ ws, w ∈ aWd) : ∀ w ∈ ([w0, w1, w2] : List Cond) ++ ws, w ∈ aWd := List.forall_mem_cons.mpr ⟨h0, List.forall_mem_cons.mpr ⟨h1, List.forall_mem_cons.mpr ⟨h2, h⟩⟩⟩
theorem aCons4 {w0 : Cond} {w1 : Cond} {w2 : Cond} {w3 : Cond} {ws : List Cond} (h0 : w0 ∈ aWd) (h1 : w1 ∈ aWd) (h2 : w2 ∈ aWd) (h3 : w3 ∈ aWd) (h : ∀ w ∈ ws, w ∈ aWd) : ∀ w ∈ ([w0, w1, w2, w3] : List Cond) ++ ws, w ∈ aWd := List.forall_mem_cons.mpr ⟨h0, List.forall_mem_cons.mpr ⟨h1, List.forall_mem_cons.mpr ⟨h2, List.forall_mem_cons.mpr ⟨h3, h⟩⟩⟩⟩
theorem aCons5 {w0 : Cond} {w1 : Cond} {w2 : Cond} {w3 : Cond} {w4 : Cond} {ws : List Cond} (h0 : w0 ∈ aWd) (h1 : w1 ∈ aWd) (h2 : w2 ∈ aWd) (h3 : w3 ∈ aWd) (h4 : w4 ∈ aWd) (h : ∀ w ∈ ws, w ∈ aWd) : ∀ w ∈ ([w0, w1, w2, w3, w4] : List Cond) ++ ws, w ∈ aWd := List.forall_mem_cons.mpr ⟨h0, List.forall_mem_cons.mpr ⟨h1, List.forall_mem_cons.mpr ⟨h2, List.forall_mem_cons.mpr ⟨h3, List.forall_mem_cons.mpr ⟨h4, h⟩⟩⟩⟩⟩
theorem aCons6 {w0 : Cond} {w1 : Cond} {w2 : Cond} {w3 : Cond} {w4 : Cond} {w5 : Cond} {ws : List Cond} (h0 : w0 ∈ aWd) (h1 : w1 ∈ aWd) (h2 : w2 ∈ aWd) (h3 : w3 ∈ aWd) (h4 : w4 ∈ aWd) (h5 : w5 ∈ aWd) (h : ∀ w ∈ ws, w ∈ aWd) : ∀ w ∈ ([w0, w1, w2, w3, w4, w5] : List Cond) ++ ws, w ∈ aWd := List.forall_mem_cons.mpr ⟨h0, List.forall_mem_cons.mpr ⟨h1, List.forall_mem_cons.mpr ⟨h2, List.forall_mem_cons.mpr ⟨h3, List.forall_mem_cons.mpr ⟨h4, List.forall_mem_cons.mpr ⟨h5, h⟩⟩⟩⟩⟩⟩
theorem aObj_1 : Cond.instanceMethod Lib.objectInit ∈ aWd := aWd_1 (List.mem_of_getElem? (i := 21) rfl) rfl
theorem aObj_2 : Cond.code Lib.objectInit ⟨#[0xb1]⟩ 1 none ∈ aWd := aWd_1 (List.mem_of_getElem? (i := 22) rfl) rfl
theorem aMax_1 : Cond.static Lib.Math.max.name ∈ aWd := aWd_2 (List.mem_of_getElem? (i := 202) rfl) rfl
theorem aMax_2 : Cond.initialized "java/lang/Math" ∈ aWd := aWd_1 (List.mem_of_getElem? (i := 9) rfl) rfl
theorem aMax_3 : Cond.code Lib.Math.max.name Lib.Math.max.code 2 (some .int) ∈ aWd := aWd_2 (List.mem_of_getElem? (i := 203) rfl) rfl
section AR2
variable {Y : MethodName} {cc : ByteArray} {nL : Nat} {rt : Option FieldType} {lv mc ms : Nat} {post : Option Value → aH → Prop} {k n pc pc' tgt : Nat} {L L' : List (Option Value)} {S S0 : List Value} {σ : aH}
variable {y : MethodName} {cc' : ByteArray} {nL' : Nat} {rt' : Option FieldType} {lv' mc' ms' : Nat} {post' : Option Value → aH → Prop} {As : List Value} {b index np : Nat}
theorem aRevMap (ad : Nat → Nat) (As S : List Value) : (As.reverse ++ S).map (aRe ad) = (As.map (aRe ad)).reverse ++ S.map (aRe ad) := by rw [List.map_append, List.map_reverse]
theorem aCatSum (ad : Nat → Nat) (S : List Value) : ((S.map (aRe ad)).map fun v => v.category) = S.map fun v => v.category := by
  rw [List.map_map]
  exact List.map_congr_left (fun v _ => aRe_cat ad v)
theorem aTail (ad : Nat → Nat) (v : Option Value) (S : List Value) : (v.map (aRe ad)).toList ++ S.map (aRe ad) = (v.toList ++ S).map (aRe ad) := by cases v <;> rfl
theorem aTailSc {N : Nat} {v : Option Value} (h : ∀ w, v = some w → aSc N w) (hS : ∀ w ∈ S, aSc N w) : ∀ w ∈ v.toList ++ S, aSc N w := by
  intro w hw
  rcases List.mem_append.mp hw with h1 | h1
  · cases v with
    | none => cases h1
    | some z =>
      rw [Option.toList_some, List.mem_singleton] at h1
      exact h w (by rw [h1])
  · exact hS w h1
theorem aMemA {v w : Value} {As S : List Value} (h : v ∈ w :: As) : v ∈ As.reverse ++ w :: S := by
  rcases List.mem_cons.mp h with h | h
  · exact List.mem_append_right _ (h ▸ List.mem_cons_self)
  · exact List.mem_append_left _ (List.mem_reverse.mpr h)
theorem g_callV {ci : Nat} {fs : List Value} {r : vw_C} (hd : aI3 cc pc (.invokevirtual index) pc') (hk : aLV Y.cls index r.1 y cc' nL' rt' np) (hσ : σ[b]? = some (.inr (.inr (ci, fs)))) (hr : vwCl[ci]? = some r) (hM : AMet y cc' nL' rt' lv' mc' ms' (.ref b :: As) σ post') (hst : S0 = As.reverse ++ .ref b :: S) (hnp : As.length = np) (hlv : lv' + 1 ≤ lv) (hnl : nL' ≤ 21) (hsum : (S.map fun v => v.category).sum ≤ 8) (hmc : k + mc' ≤ mc) (hms : n + ms' ≤ ms) (kk : ∀ v σ', post' v σ' → σ.length ≤ σ'.length → G Y cc nL rt lv mc ms post (k + mc') (n + ms') pc' L (v.toList ++ S) σ') : G Y cc nL rt lv mc ms post k n pc L S0 σ := by
  intro D cI cM p l e R s m args below meth c A Q ad0 n0 H locs ls ad C X hl hS
  subst hst
  obtain ⟨hd, rfl⟩ := hd
  have hRm := C.2.2.2.2.2.2.2.2.1
  have hK := C.2.2.2.2.2.2.1
  have hA0 : ∀ v ∈ (.ref b :: As), aSc σ.length v := fun v hv => hS v (aMemA hv)
  have hS2 : ∀ v ∈ S, aSc σ.length v := fun v hv => hS v (List.mem_append_right _ (List.mem_cons_of_mem _ hv))
  have hM' := hM X.2.2.2.1 hA0 l D cI cM ad H.size
  have hpre : ∀ U : State, U.heap = H → s.WarmedH U.vm → aPr D cI cM ad σ H.size U := fun U hU hW => ⟨by rw [hU], by rw [hU]; exact X.1, aK.warm hW hK, X.2.1.weaken (fun _ _ _ _ => trivial)⟩
  have hb2 : (aRm lv' mc' ms').frames + 1 ≤ R.frames ∧ 8 + (nL' + 11) + (aRm lv' mc' ms').locals ≤ R.locals := by
    have h1 := hRm.1
    have h2 := hRm.2.1
    show lv' + 1 ≤ R.frames ∧ 8 + (nL' + 11) + (40 * lv' + 20) ≤ R.locals
    omega
  have hf : k + mc' ≤ R.cells ∧ n + ms' ≤ R.slots := ⟨Nat.le_trans hmc hRm.2.2.1, Nat.le_trans hms hRm.2.2.2⟩
  have hW8 : 2 * (F0 m pc ls ((As.reverse ++ .ref b :: S).map (aRe ad))).monitorRoom + ((S.map (aRe ad)).map fun v => v.category).sum ≤ 8 := by
    rw [aCatSum]
    exact lv_room hsum
  have hAl : (As.map (aRe ad)).length = np := by rw [List.length_map]; exact hnp
  obtain ⟨w1, w2, w3, w4, w5, w6, w7⟩ := hk
  have hrun := va_runV (e := e) (below := below) (meth := meth) (locs := locs) (cells := k) (slots := n) (rest := S.map (aRe ad)) (g := F0 m pc ls ((As.reverse ++ .ref b :: S).map (aRe ad))) (As := As.map (aRe ad)) ⟨C.1, C.2.1, C.2.2.1, C.2.2.2.1, C.2.2.2.2.1⟩ hM' (cwV np C.2.2.2.2.1 (aGood (by unfold wsV; exact aCons4 w1 w2 w3 w4 (aWd_c w5))) rfl rfl rfl ⟨w6, w7⟩ hb2) ⟨aPr_blind, va_recv hK.1 X.1 hr (aW_at (cI := cI) (cM := cM) (ad := ad) hσ), fun U hU hW => ⟨rfl, hpre U hU hW⟩⟩ rfl hAl hl.1.1 (by show List.map _ _ = _; rw [aRevMap]; rfl) hW8 hd hf
  refine a_call hrun X (a_free X C.2.2.2.2.2.2.2.1) (fun v σ' ad' H1 locs1 hp hw hln had X' => ?_)
  rw [← aRe_map had hS2, aTail]
  exact (kk v σ' hp hln).use C X' (aLo_ad hl hln had) (aTailSc hw (fun w h => aSc_mono hln (hS2 w h)))
theorem g_callS (hd : aI3 cc pc (.invokestatic index) pc') (hk : aLSt Y.cls index y cc' nL' rt' np) (hM : AMet y cc' nL' rt' lv' mc' ms' As σ post') (hst : S0 = As.reverse ++ S) (hnp : As.length = np) (hlv : lv' + 1 ≤ lv) (hnl : nL' ≤ 21) (hsum : (S.map fun v => v.category).sum ≤ 8) (hmc : k + mc' ≤ mc) (hms : n + ms' ≤ ms) (kk : ∀ v σ', post' v σ' → σ.length ≤ σ'.length → G Y cc nL rt lv mc ms post (k + mc') (n + ms') pc' L (v.toList ++ S) σ') : G Y cc nL rt lv mc ms post k n pc L S0 σ := by
  intro D cI cM p l e R s m args below meth c A Q ad0 n0 H locs ls ad C X hl hS
  subst hst
  obtain ⟨hd, rfl⟩ := hd
  have hRm := C.2.2.2.2.2.2.2.2.1
  have hK := C.2.2.2.2.2.2.1
  have hA0 : ∀ v ∈ As, aSc σ.length v := fun v hv => hS v (List.mem_append_left _ (List.mem_reverse.mpr hv))
  have hS2 : ∀ v ∈ S, aSc σ.length v := fun v hv => hS v (List.mem_append_right _ hv)
  have hM' := hM X.2.2.2.1 hA0 l D cI cM ad H.size
  have hpre : ∀ U : State, U.heap = H → s.WarmedH U.vm → aPr D cI cM ad σ H.size U := fun U hU hW => ⟨by rw [hU], by rw [hU]; exact X.1, aK.warm hW hK, X.2.1.weaken (fun _ _ _ _ => trivial)⟩
  have hb2 : (aRm lv' mc' ms').frames + 1 ≤ R.frames ∧ 8 + (nL' + 11) + (aRm lv' mc' ms').locals ≤ R.locals := by
    have h1 := hRm.1
    have h2 := hRm.2.1
    show lv' + 1 ≤ R.frames ∧ 8 + (nL' + 11) + (40 * lv' + 20) ≤ R.locals
    omega
  have hf : k + mc' ≤ R.cells ∧ n + ms' ≤ R.slots := ⟨Nat.le_trans hmc hRm.2.2.1, Nat.le_trans hms hRm.2.2.2⟩
  have hW8 : 2 * (F0 m pc ls ((As.reverse ++ S).map (aRe ad))).monitorRoom + ((S.map (aRe ad)).map fun v => v.category).sum ≤ 8 := by
    rw [aCatSum]
    exact lv_room hsum
  have hAl : (As.map (aRe ad)).length = np := by rw [List.length_map]; exact hnp
  obtain ⟨w1, w2, w3, w4, w5⟩ := hk
  have hrun := va_runS (e := e) (below := below) (meth := meth) (locs := locs) (cells := k) (slots := n) (rest := S.map (aRe ad)) (g := F0 m pc ls ((As.reverse ++ S).map (aRe ad))) (As := As.map (aRe ad)) ⟨C.1, C.2.1, C.2.2.1, C.2.2.2.1, C.2.2.2.2.1⟩ hM' (va_cwS np C.2.2.2.2.1 (aGood (by unfold va_wsS; exact aCons3 w1 w2 w3 (aWd_c w4))) rfl rfl rfl w5 hb2) ⟨aPr_blind, fun U hU hW => ⟨rfl, hpre U hU hW⟩⟩ rfl hAl hl.1.1 (by show List.map _ _ = _; rw [aRevMap]) hW8 hd hf
  refine a_call hrun X (a_free X C.2.2.2.2.2.2.2.1) (fun v σ' ad' H1 locs1 hp hw hln had X' => ?_)
  rw [← aRe_map had hS2, aTail]
  exact (kk v σ' hp hln).use C X' (aLo_ad hl hln had) (aTailSc hw (fun w h => aSc_mono hln (hS2 w h)))
theorem g_callSn {host : String} (hd : aI3 cc pc (.invokestatic index) pc') (hk : aLSn Y.cls index y host cc' nL' rt' np) (hM : AMet y cc' nL' rt' lv' mc' ms' As σ post') (hst : S0 = As.reverse ++ S) (hnp : As.length = np) (hlv : lv' + 1 ≤ lv) (hnl : nL' ≤ 21) (hsum : (S.map fun v => v.category).sum ≤ 8) (hmc : k + mc' ≤ mc) (hms : n + ms' ≤ ms) (kk : ∀ v σ', post' v σ' → σ.length ≤ σ'.length → G Y cc nL rt lv mc ms post (k + mc') (n + ms') pc' L (v.toList ++ S) σ') : G Y cc nL rt lv mc ms post k n pc L S0 σ := by
  intro D cI cM p l e R s m args below meth c A Q ad0 n0 H locs ls ad C X hl hS
  subst hst
  obtain ⟨hd, rfl⟩ := hd
  have hRm := C.2.2.2.2.2.2.2.2.1
  have hK := C.2.2.2.2.2.2.1
  have hA0 : ∀ v ∈ As, aSc σ.length v := fun v hv => hS v (List.mem_append_left _ (List.mem_reverse.mpr hv))
  have hS2 : ∀ v ∈ S, aSc σ.length v := fun v hv => hS v (List.mem_append_right _ hv)
  have hM' := hM X.2.2.2.1 hA0 l D cI cM ad H.size
  have hpre : ∀ U : State, U.heap = H → s.WarmedH U.vm → aPr D cI cM ad σ H.size U := fun U hU hW => ⟨by rw [hU], by rw [hU]; exact X.1, aK.warm hW hK, X.2.1.weaken (fun _ _ _ _ => trivial)⟩
  have hb2 : (aRm lv' mc' ms').frames + 1 ≤ R.frames ∧ 8 + (nL' + 11) + (aRm lv' mc' ms').locals ≤ R.locals := by
    have h1 := hRm.1
    have h2 := hRm.2.1
    show lv' + 1 ≤ R.frames ∧ 8 + (nL' + 11) + (40 * lv' + 20) ≤ R.locals
    omega
  have hf : k + mc' ≤ R.cells ∧ n + ms' ≤ R.slots := ⟨Nat.le_trans hmc hRm.2.2.1, Nat.le_trans hms hRm.2.2.2⟩
  have hW8 : 2 * (F0 m pc ls ((As.reverse ++ S).map (aRe ad))).monitorRoom + ((S.map (aRe ad)).map fun v => v.category).sum ≤ 8 := by
    rw [aCatSum]
    exact lv_room hsum
  have hAl : (As.map (aRe ad)).length = np := by rw [List.length_map]; exact hnp
  obtain ⟨w1, w2, w3, w4, w5⟩ := hk
  have hrun := va_runSN (e := e) (below := below) (meth := meth) (locs := locs) (cells := k) (slots := n) (rest := S.map (aRe ad)) (g := F0 m pc ls ((As.reverse ++ S).map (aRe ad))) (As := As.map (aRe ad)) ⟨C.1, C.2.1, C.2.2.1, C.2.2.2.1, C.2.2.2.2.1⟩ hM' ⟨va_cnB np C.2.2.2.2.1 (aGood (aWd_c w4)) rfl rfl rfl (hK.2.1 _ w1) (C.2.2.2.2.1 _ w3) w5 hb2, C.2.2.2.2.1 _ w2, trivial⟩ ⟨aPr_blind, fun U hU hW => ⟨rfl, hpre U hU hW⟩⟩ rfl hAl hl.1.1 (by show List.map _ _ = _; rw [aRevMap]) hW8 hd hf
  refine a_call hrun X (a_free X C.2.2.2.2.2.2.2.1) (fun v σ' ad' H1 locs1 hp hw hln had X' => ?_)
  rw [← aRe_map had hS2, aTail]
  exact (kk v σ' hp hln).use C X' (aLo_ad hl hln had) (aTailSc hw (fun w h => aSc_mono hln (hS2 w h)))
theorem g_init (hd : aI3 cc pc (.invokespecial index) pc') (hk : aLI Y.cls index y cc' nL' np) (hM : AMet y cc' nL' none lv' mc' ms' (.ref b :: As) σ post') (hst : S0 = As.reverse ++ .ref b :: S) (hnp : As.length = np) (hlv : lv' + 1 ≤ lv) (hnl : nL' ≤ 21) (hsum : (S.map fun v => v.category).sum ≤ 8) (hmc : k + mc' ≤ mc) (hms : n + ms' ≤ ms) (kk : ∀ v σ', post' v σ' → σ.length ≤ σ'.length → G Y cc nL rt lv mc ms post (k + mc') (n + ms') pc' L (v.toList ++ S) σ') : G Y cc nL rt lv mc ms post k n pc L S0 σ := by
  intro D cI cM p l e R s m args below meth c A Q ad0 n0 H locs ls ad C X hl hS
  subst hst
  obtain ⟨hd, rfl⟩ := hd
  have hRm := C.2.2.2.2.2.2.2.2.1
  have hK := C.2.2.2.2.2.2.1
  have hA0 : ∀ v ∈ (.ref b :: As), aSc σ.length v := fun v hv => hS v (aMemA hv)
  have hS2 : ∀ v ∈ S, aSc σ.length v := fun v hv => hS v (List.mem_append_right _ (List.mem_cons_of_mem _ hv))
  have hM' := hM X.2.2.2.1 hA0 l D cI cM ad H.size
  have hpre : ∀ U : State, U.heap = H → s.WarmedH U.vm → aPr D cI cM ad σ H.size U := fun U hU hW => ⟨by rw [hU], by rw [hU]; exact X.1, aK.warm hW hK, X.2.1.weaken (fun _ _ _ _ => trivial)⟩
  have hb2 : (aRm lv' mc' ms').frames + 1 ≤ R.frames ∧ 8 + (nL' + 11) + (aRm lv' mc' ms').locals ≤ R.locals := by
    have h1 := hRm.1
    have h2 := hRm.2.1
    show lv' + 1 ≤ R.frames ∧ 8 + (nL' + 11) + (40 * lv' + 20) ≤ R.locals
    omega
  have hf : k + mc' ≤ R.cells ∧ n + ms' ≤ R.slots := ⟨Nat.le_trans hmc hRm.2.2.1, Nat.le_trans hms hRm.2.2.2⟩
  have hW8 : 2 * (F0 m pc ls ((As.reverse ++ .ref b :: S).map (aRe ad))).monitorRoom + ((S.map (aRe ad)).map fun v => v.category).sum ≤ 8 := by
    rw [aCatSum]
    exact lv_room hsum
  have hAl : (As.map (aRe ad)).length = np := by rw [List.length_map]; exact hnp
  obtain ⟨w1, w2, w3, w4, w5, w6⟩ := hk
  have hrun := va_runI (e := e) (below := below) (meth := meth) (locs := locs) (cells := k) (slots := n) (rest := S.map (aRe ad)) (g := F0 m pc ls ((As.reverse ++ .ref b :: S).map (aRe ad))) (As := As.map (aRe ad)) ⟨C.1, C.2.1, C.2.2.1, C.2.2.2.1, C.2.2.2.2.1⟩ hM' (cwI np C.2.2.2.2.1 (aGood (aWd_c w4)) rfl rfl rfl (C.2.2.2.2.1 _ w3) (C.2.2.2.2.1 _ w1) (C.2.2.2.2.1 _ w2) w5 w6 hb2) ⟨aPr_blind, fun U hU hW => ⟨rfl, hpre U hU hW⟩⟩ rfl hAl hl.1.1 (by show List.map _ _ = _; rw [aRevMap]; rfl) hW8 hd hf
  refine a_call hrun X (a_free X C.2.2.2.2.2.2.2.1) (fun v σ' ad' H1 locs1 hp hw hln had X' => ?_)
  rw [← aRe_map had hS2, aTail]
  exact (kk v σ' hp hln).use C X' (aLo_ad hl hln had) (aTailSc hw (fun w h => aSc_mono hln (hS2 w h)))
theorem g_initn {host : String} (hd : aI3 cc pc (.invokespecial index) pc') (hk : aLIn Y.cls index y host cc' nL' np) (hM : AMet y cc' nL' none lv' mc' ms' (.ref b :: As) σ post') (hst : S0 = As.reverse ++ .ref b :: S) (hnp : As.length = np) (hlv : lv' + 1 ≤ lv) (hnl : nL' ≤ 21) (hsum : (S.map fun v => v.category).sum ≤ 8) (hmc : k + mc' ≤ mc) (hms : n + ms' ≤ ms) (kk : ∀ v σ', post' v σ' → σ.length ≤ σ'.length → G Y cc nL rt lv mc ms post (k + mc') (n + ms') pc' L (v.toList ++ S) σ') : G Y cc nL rt lv mc ms post k n pc L S0 σ := by
  intro D cI cM p l e R s m args below meth c A Q ad0 n0 H locs ls ad C X hl hS
  subst hst
  obtain ⟨hd, rfl⟩ := hd
  have hRm := C.2.2.2.2.2.2.2.2.1
  have hK := C.2.2.2.2.2.2.1
  have hA0 : ∀ v ∈ (.ref b :: As), aSc σ.length v := fun v hv => hS v (aMemA hv)
  have hS2 : ∀ v ∈ S, aSc σ.length v := fun v hv => hS v (List.mem_append_right _ (List.mem_cons_of_mem _ hv))
  have hM' := hM X.2.2.2.1 hA0 l D cI cM ad H.size
  have hpre : ∀ U : State, U.heap = H → s.WarmedH U.vm → aPr D cI cM ad σ H.size U := fun U hU hW => ⟨by rw [hU], by rw [hU]; exact X.1, aK.warm hW hK, X.2.1.weaken (fun _ _ _ _ => trivial)⟩
  have hb2 : (aRm lv' mc' ms').frames + 1 ≤ R.frames ∧ 8 + (nL' + 11) + (aRm lv' mc' ms').locals ≤ R.locals := by
    have h1 := hRm.1
    have h2 := hRm.2.1
    show lv' + 1 ≤ R.frames ∧ 8 + (nL' + 11) + (40 * lv' + 20) ≤ R.locals
    omega
  have hf : k + mc' ≤ R.cells ∧ n + ms' ≤ R.slots := ⟨Nat.le_trans hmc hRm.2.2.1, Nat.le_trans hms hRm.2.2.2⟩
  have hW8 : 2 * (F0 m pc ls ((As.reverse ++ .ref b :: S).map (aRe ad))).monitorRoom + ((S.map (aRe ad)).map fun v => v.category).sum ≤ 8 := by
    rw [aCatSum]
    exact lv_room hsum
  have hAl : (As.map (aRe ad)).length = np := by rw [List.length_map]; exact hnp
  obtain ⟨w1, w2, w3, w4, w5, w6⟩ := hk
  have hrun := va_runIN (e := e) (below := below) (meth := meth) (locs := locs) (cells := k) (slots := n) (rest := S.map (aRe ad)) (g := F0 m pc ls ((As.reverse ++ .ref b :: S).map (aRe ad))) (As := As.map (aRe ad)) ⟨C.1, C.2.1, C.2.2.1, C.2.2.2.1, C.2.2.2.2.1⟩ hM' ⟨va_cnB np C.2.2.2.2.1 (aGood (aWd_c w4)) rfl rfl rfl (hK.2.1 _ w1) (C.2.2.2.2.1 _ w3) w6 hb2, w5, C.2.2.2.2.1 _ w2⟩ ⟨aPr_blind, fun U hU hW => ⟨rfl, hpre U hU hW⟩⟩ rfl hAl hl.1.1 (by show List.map _ _ = _; rw [aRevMap]; rfl) hW8 hd hf
  refine a_call hrun X (a_free X C.2.2.2.2.2.2.2.1) (fun v σ' ad' H1 locs1 hp hw hln had X' => ?_)
  rw [← aRe_map had hS2, aTail]
  exact (kk v σ' hp hln).use C X' (aLo_ad hl hln had) (aTailSc hw (fun w h => aSc_mono hln (hS2 w h)))
theorem g_callU {ci : Nat} {fs : List Value} {r : vw_C} {owner : String} {x : MethodName} (hd : aI3 cc pc (.invokevirtual index) pc') (hk : aLU Y.cls index r.1 owner x y cc' nL' rt' np) (hσ : σ[b]? = some (.inr (.inr (ci, fs)))) (hr : vwCl[ci]? = some r) (hM : AMet y cc' nL' rt' lv' mc' ms' (.ref b :: As) σ post') (hst : S0 = As.reverse ++ .ref b :: S) (hnp : As.length = np) (hlv : lv' + 1 ≤ lv) (hnl : nL' ≤ 21) (hsum : (S.map fun v => v.category).sum ≤ 8) (hmc : k + mc' ≤ mc) (hms : n + ms' ≤ ms) (kk : ∀ v σ', post' v σ' → σ.length ≤ σ'.length → G Y cc nL rt lv mc ms post (k + mc') (n + ms') pc' L (v.toList ++ S) σ') : G Y cc nL rt lv mc ms post k n pc L S0 σ := by
  intro D cI cM p l e R s m args below meth c A Q ad0 n0 H locs ls ad C X hl hS
  subst hst
  obtain ⟨hd, rfl⟩ := hd
  have hRm := C.2.2.2.2.2.2.2.2.1
  have hK := C.2.2.2.2.2.2.1
  have hA0 : ∀ v ∈ (.ref b :: As), aSc σ.length v := fun v hv => hS v (aMemA hv)
  have hS2 : ∀ v ∈ S, aSc σ.length v := fun v hv => hS v (List.mem_append_right _ (List.mem_cons_of_mem _ hv))
  have hM' := hM X.2.2.2.1 hA0 l D cI cM ad H.size
  have hpre : ∀ U : State, U.heap = H → s.WarmedH U.vm → aPr D cI cM ad σ H.size U := fun U hU hW => ⟨by rw [hU], by rw [hU]; exact X.1, aK.warm hW hK, X.2.1.weaken (fun _ _ _ _ => trivial)⟩
  have hb2 : (aRm lv' mc' ms').frames + 1 ≤ R.frames ∧ 8 + (nL' + 11) + (aRm lv' mc' ms').locals ≤ R.locals := by
    have h1 := hRm.1
    have h2 := hRm.2.1
    show lv' + 1 ≤ R.frames ∧ 8 + (nL' + 11) + (40 * lv' + 20) ≤ R.locals
    omega
  have hf : k + mc' ≤ R.cells ∧ n + ms' ≤ R.slots := ⟨Nat.le_trans hmc hRm.2.2.1, Nat.le_trans hms hRm.2.2.2⟩
  have hW8 : 2 * (F0 m pc ls ((As.reverse ++ .ref b :: S).map (aRe ad))).monitorRoom + ((S.map (aRe ad)).map fun v => v.category).sum ≤ 8 := by
    rw [aCatSum]
    exact lv_room hsum
  have hAl : (As.map (aRe ad)).length = np := by rw [List.length_map]; exact hnp
  obtain ⟨w1, w2, w3, w4, w5, w6, w7, ⟨b0, m0, r0, w8⟩, w9⟩ := hk
  have hrun := va_runU (e := e) (below := below) (meth := meth) (locs := locs) (cells := k) (slots := n) (rest := S.map (aRe ad)) (g := F0 m pc ls ((As.reverse ++ .ref b :: S).map (aRe ad))) (As := As.map (aRe ad)) ⟨C.1, C.2.1, C.2.2.1, C.2.2.2.1, C.2.2.2.2.1⟩ hM' (va_cwO np C.2.2.2.2.1 (aGood (by unfold va_wsO; exact aCons6 w1 w2 w3 w4 w5 w6 (aWd_c w7))) rfl rfl rfl w8 w9 hb2) ⟨aPr_blind, va_recv hK.1 X.1 hr (aW_at (cI := cI) (cM := cM) (ad := ad) hσ), fun U hU hW => ⟨rfl, hpre U hU hW⟩⟩ rfl hAl hl.1.1 (by show List.map _ _ = _; rw [aRevMap]; rfl) hW8 hd hf
  refine a_call hrun X (a_free X C.2.2.2.2.2.2.2.1) (fun v σ' ad' H1 locs1 hp hw hln had X' => ?_)
  rw [← aRe_map had hS2, aTail]
  exact (kk v σ' hp hln).use C X' (aLo_ad hl hln had) (aTailSc hw (fun w h => aSc_mono hln (hS2 w h)))
theorem g_callSu {ci : Nat} {fs : List Value} {r : vw_C} (hd : aI3 cc pc (.invokespecial index) pc') (hk : aLSu Y.cls index y cc' nL' rt' np) (hσ : σ[b]? = some (.inr (.inr (ci, fs)))) (hr : vwCl[ci]? = some r) (hM : AMet y cc' nL' rt' lv' mc' ms' (.ref b :: As) σ post') (hst : S0 = As.reverse ++ .ref b :: S) (hnp : As.length = np) (hlv : lv' + 1 ≤ lv) (hnl : nL' ≤ 21) (hsum : (S.map fun v => v.category).sum ≤ 8) (hmc : k + mc' ≤ mc) (hms : n + ms' ≤ ms) (kk : ∀ v σ', post' v σ' → σ.length ≤ σ'.length → G Y cc nL rt lv mc ms post (k + mc') (n + ms') pc' L (v.toList ++ S) σ') : G Y cc nL rt lv mc ms post k n pc L S0 σ := by
  intro D cI cM p l e R s m args below meth c A Q ad0 n0 H locs ls ad C X hl hS
  subst hst
  obtain ⟨hd, rfl⟩ := hd
  have hRm := C.2.2.2.2.2.2.2.2.1
  have hK := C.2.2.2.2.2.2.1
  have hA0 : ∀ v ∈ (.ref b :: As), aSc σ.length v := fun v hv => hS v (aMemA hv)
  have hS2 : ∀ v ∈ S, aSc σ.length v := fun v hv => hS v (List.mem_append_right _ (List.mem_cons_of_mem _ hv))
  have hM' := hM X.2.2.2.1 hA0 l D cI cM ad H.size
  have hpre : ∀ U : State, U.heap = H → s.WarmedH U.vm → aPr D cI cM ad σ H.size U := fun U hU hW => ⟨by rw [hU], by rw [hU]; exact X.1, aK.warm hW hK, X.2.1.weaken (fun _ _ _ _ => trivial)⟩
  have hb2 : (aRm lv' mc' ms').frames + 1 ≤ R.frames ∧ 8 + (nL' + 11) + (aRm lv' mc' ms').locals ≤ R.locals := by
    have h1 := hRm.1
    have h2 := hRm.2.1
    show lv' + 1 ≤ R.frames ∧ 8 + (nL' + 11) + (40 * lv' + 20) ≤ R.locals
    omega
  have hf : k + mc' ≤ R.cells ∧ n + ms' ≤ R.slots := ⟨Nat.le_trans hmc hRm.2.2.1, Nat.le_trans hms hRm.2.2.2⟩
  have hW8 : 2 * (F0 m pc ls ((As.reverse ++ .ref b :: S).map (aRe ad))).monitorRoom + ((S.map (aRe ad)).map fun v => v.category).sum ≤ 8 := by
    rw [aCatSum]
    exact lv_room hsum
  have hAl : (As.map (aRe ad)).length = np := by rw [List.length_map]; exact hnp
  obtain ⟨w1, w2, w3, w4, w5, w6, w7, w8⟩ := hk
  have hrun := va_runSU (e := e) (below := below) (meth := meth) (locs := locs) (cells := k) (slots := n) (rest := S.map (aRe ad)) (g := F0 m pc ls ((As.reverse ++ .ref b :: S).map (aRe ad))) (As := As.map (aRe ad)) (hK.1.1 ci r hr).2 ⟨C.1, C.2.1, C.2.2.1, C.2.2.2.1, C.2.2.2.2.1⟩ hM' (va_cwSU np C.2.2.2.2.1 (aGood (by unfold va_wsSU; exact aCons5 w1 w2 w3 w4 w5 (aWd_c w6))) rfl rfl rfl ⟨w7, w8⟩ hb2) ⟨aPr_blind, va_recv hK.1 X.1 hr (aW_at (cI := cI) (cM := cM) (ad := ad) hσ), fun U hU hW => ⟨rfl, hpre U hU hW⟩⟩ rfl hAl hl.1.1 (by show List.map _ _ = _; rw [aRevMap]; rfl) hW8 hd hf
  refine a_call hrun X (a_free X C.2.2.2.2.2.2.2.1) (fun v σ' ad' H1 locs1 hp hw hln had X' => ?_)
  rw [← aRe_map had hS2, aTail]
  exact (kk v σ' hp hln).use C X' (aLo_ad hl hln had) (aTailSc hw (fun w h => aSc_mono hln (hS2 w h)))
theorem g_obj {b : Nat} (hd : aI3 cc pc (.invokespecial index) pc') (hw : Cond.methodLink Y.cls index Lib.objectInit ∈ aWd) (hlv : 1 ≤ lv) (hsum : (S.map fun v => v.category).sum ≤ 8) (kk : G Y cc nL rt lv mc ms post k n pc' L S σ) : G Y cc nL rt lv mc ms post k n pc L (.ref b :: S) σ := by
  intro D cI cM p l e R s m args below meth c A Q ad0 n0 H locs ls ad C X hl hS
  obtain ⟨hd, rfl⟩ := hd
  have hRm := C.2.2.2.2.2.2.2.2.1
  refine W.objInit (rest := S.map (aRe ad)) C.1 C.2.1 C.2.2.2.1 (C.2.2.2.2.1 _ hw) (C.2.2.2.2.1 _ aObj_1) (C.2.2.2.2.1 _ aObj_2) rfl (by rw [C.2.2.1]; exact hl.1.1) rfl hd (Nat.le_trans hlv hRm.1) ?_ (kk.use C X hl (aS1 hS))
  have h2 := hRm.2.1
  rw [aCatSum]
  have h3 := lv_room (m := m) (pc := pc) (ls := ls) (rest := S.map (aRe ad)) hsum
  show 2 * 0 + _ + 12 ≤ _
  omega
theorem g_max {x z : Int32} (hd : aI3 cc pc (.invokestatic index) pc') (hw : Cond.methodLink Y.cls index Lib.Math.max.name ∈ aWd) (hlv : 1 ≤ lv) (hsum : (S.map fun v => v.category).sum ≤ 8) (hmc : k ≤ mc) (hms : n ≤ ms) (kk : G Y cc nL rt lv mc ms post k n pc' L (.int (if x < z then z else x) :: S) σ) : G Y cc nL rt lv mc ms post k n pc L (.int z :: .int x :: S) σ := by
  intro D cI cM p l e R s m args below meth c A Q ad0 n0 H locs ls ad C X hl hS
  obtain ⟨hd, rfl⟩ := hd
  have hRm := C.2.2.2.2.2.2.2.2.1
  refine va_mmax (rest := S.map (aRe ad)) C.1 C.2.1 (C.2.2.1.trans hl.1.1.symm) C.2.2.2.1 (C.2.2.2.2.1 _ hw) (C.2.2.2.2.1 _ aMax_1) (C.2.2.2.2.1 _ aMax_2) (C.2.2.2.2.1 _ aMax_3) (Nat.le_trans hlv hRm.1) ?_ (Nat.le_trans hmc hRm.2.2.1) (Nat.le_trans hms hRm.2.2.2) hd (kk.use C X hl (aSI (aS2 hS)))
  have h2 := hRm.2.1
  rw [aCatSum]
  omega
end AR2
end
section
theorem aWd_p {q : MethodName × Nat} (h : q ∈ lw_privs) : Cond.selects q.1.cls q.1 q.1 ∈ aWd := List.mem_filter.mpr ⟨List.mem_append_left _ (List.mem_map_of_mem h), rfl⟩
theorem wd_1_0 : Jvm.Cond.initialized "ReadAloudLaw" ∈ aWd := aWd_1 (List.mem_of_getElem? (i := 0) rfl) rfl
theorem wd_1_1 : Jvm.Cond.initialized "ReadAloud" ∈ aWd := aWd_1 (List.mem_of_getElem? (i := 1) rfl) rfl
theorem wd_1_2 : Jvm.Cond.initialized "ReadAloud$Page" ∈ aWd := aWd_1 (List.mem_of_getElem? (i := 2) rfl) rfl
theorem wd_1_3 : Jvm.Cond.initialized "ReadAloud$Walk" ∈ aWd := aWd_1 (List.mem_of_getElem? (i := 3) rfl) rfl
theorem wd_1_4 : Jvm.Cond.initialized "ReadAloud$State" ∈ aWd := aWd_1 (List.mem_of_getElem? (i := 4) rfl) rfl
theorem wd_1_5 : Jvm.Cond.initialized "ReadAloud$Sheet" ∈ aWd := aWd_1 (List.mem_of_getElem? (i := 5) rfl) rfl
theorem wd_1_6 : Jvm.Cond.initialized "ReadAloud$Heard" ∈ aWd := aWd_1 (List.mem_of_getElem? (i := 6) rfl) rfl
theorem wd_1_7 : Jvm.Cond.initialized "ReadAloud$Brief" ∈ aWd := aWd_1 (List.mem_of_getElem? (i := 7) rfl) rfl
theorem wd_1_8 : Jvm.Cond.initialized "java/lang/Integer" ∈ aWd := aWd_1 (List.mem_of_getElem? (i := 8) rfl) rfl
theorem wd_1_10 : Jvm.Cond.initialized "ReadAloud$Man" ∈ aWd := aWd_1 (List.mem_of_getElem? (i := 10) rfl) rfl
theorem wd_1_11 : Jvm.Cond.initialized "ReadAloud$Stammerer" ∈ aWd := aWd_1 (List.mem_of_getElem? (i := 11) rfl) rfl
theorem wd_1_12 : Jvm.Cond.initialized "ReadAloud$Actor" ∈ aWd := aWd_1 (List.mem_of_getElem? (i := 12) rfl) rfl
theorem wd_1_13 : Jvm.Cond.initialized "ReadAloud$Boy" ∈ aWd := aWd_1 (List.mem_of_getElem? (i := 13) rfl) rfl
theorem wd_1_14 : Jvm.Cond.initialized "ReadAloud$Weeper" ∈ aWd := aWd_1 (List.mem_of_getElem? (i := 14) rfl) rfl
theorem wd_1_15 : Jvm.Cond.classLink "ReadAloudLaw" (23 : Nat) "ReadAloud" ∈ aWd := aWd_1 (List.mem_of_getElem? (i := 15) rfl) rfl
theorem wd_1_16 : Jvm.Cond.instantiable "ReadAloud" (10 : Nat) ∈ aWd := aWd_1 (List.mem_of_getElem? (i := 16) rfl) rfl
theorem wd_1_17 : Jvm.Cond.methodLink "ReadAloudLaw" (70 : Nat) ({ cls := "ReadAloud", name := "<init>", desc := "()V" } : Jvm.MethodName) ∈ aWd := aWd_1 (List.mem_of_getElem? (i := 17) rfl) rfl
theorem wd_1_18 : Jvm.Cond.instanceMethod ({ cls := "ReadAloud", name := "<init>", desc := "()V" } : Jvm.MethodName) ∈ aWd := aWd_1 (List.mem_of_getElem? (i := 18) rfl) rfl
theorem wd_1_19 : Jvm.Cond.code ({ cls := "ReadAloud", name := "<init>", desc := "()V" } : Jvm.MethodName) prog_1_method_1_code (1 : Nat) (Option.none : Option Jvm.ClassFile.FieldType) ∈ aWd := aWd_1 (List.mem_of_getElem? (i := 19) rfl) rfl
theorem wd_1_20 : Jvm.Cond.methodLink "ReadAloud" (1 : Nat) ({ cls := "java/lang/Object", name := "<init>", desc := "()V" } : Jvm.MethodName) ∈ aWd := aWd_1 (List.mem_of_getElem? (i := 20) rfl) rfl
theorem wd_1_23 : Jvm.Cond.classLink "ReadAloud" (7 : Nat) "ReadAloud$Page" ∈ aWd := aWd_1 (List.mem_of_getElem? (i := 23) rfl) rfl
theorem wd_1_24 : Jvm.Cond.instantiable "ReadAloud$Page" (3 : Nat) ∈ aWd := aWd_1 (List.mem_of_getElem? (i := 24) rfl) rfl
theorem wd_1_26 : Jvm.Cond.instanceMethod ({ cls := "ReadAloud$Page", name := "<init>", desc := "()V" } : Jvm.MethodName) ∈ aWd := aWd_1 (List.mem_of_getElem? (i := 26) rfl) rfl
theorem wd_1_27 : Jvm.Cond.code ({ cls := "ReadAloud$Page", name := "<init>", desc := "()V" } : Jvm.MethodName) prog_7_method_1_code (1 : Nat) (Option.none : Option Jvm.ClassFile.FieldType) ∈ aWd := aWd_1 (List.mem_of_getElem? (i := 27) rfl) rfl
theorem wd_1_28 : Jvm.Cond.methodLink "ReadAloud$Page" (3 : Nat) ({ cls := "java/lang/Object", name := "<init>", desc := "()V" } : Jvm.MethodName) ∈ aWd := aWd_1 (List.mem_of_getElem? (i := 28) rfl) rfl
theorem wd_1_29 : Jvm.Cond.classLink "ReadAloud$Page" (15 : Nat) "ReadAloud$Walk" ∈ aWd := aWd_1 (List.mem_of_getElem? (i := 29) rfl) rfl
theorem wd_1_30 : Jvm.Cond.instantiable "ReadAloud$Walk" (3 : Nat) ∈ aWd := aWd_1 (List.mem_of_getElem? (i := 30) rfl) rfl
theorem wd_1_32 : Jvm.Cond.instanceMethod ({ cls := "ReadAloud$Walk", name := "<init>", desc := "()V" } : Jvm.MethodName) ∈ aWd := aWd_1 (List.mem_of_getElem? (i := 32) rfl) rfl
theorem wd_1_33 : Jvm.Cond.code ({ cls := "ReadAloud$Walk", name := "<init>", desc := "()V" } : Jvm.MethodName) prog_11_method_1_code (1 : Nat) (Option.none : Option Jvm.ClassFile.FieldType) ∈ aWd := aWd_1 (List.mem_of_getElem? (i := 33) rfl) rfl
theorem wd_1_34 : Jvm.Cond.methodLink "ReadAloud$Walk" (3 : Nat) ({ cls := "java/lang/Object", name := "<init>", desc := "()V" } : Jvm.MethodName) ∈ aWd := aWd_1 (List.mem_of_getElem? (i := 34) rfl) rfl
theorem wd_1_35 : Jvm.Cond.fieldLink "ReadAloud$Walk" (22 : Nat) "ReadAloud$Walk" "part" "I" ∈ aWd := aWd_1 (List.mem_of_getElem? (i := 35) rfl) rfl
theorem wd_1_36 : Jvm.Cond.fieldLink "ReadAloud$Walk" (26 : Nat) "ReadAloud$Walk" "wordsOfPart" "I" ∈ aWd := aWd_1 (List.mem_of_getElem? (i := 36) rfl) rfl
theorem wd_1_37 : Jvm.Cond.fieldLink "ReadAloud$Walk" (29 : Nat) "ReadAloud$Walk" "lastWord" "I" ∈ aWd := aWd_1 (List.mem_of_getElem? (i := 37) rfl) rfl
theorem wd_1_38 : Jvm.Cond.lays "ReadAloud$Walk" "ReadAloud$Walk" "part" "I" ∈ aWd := aWd_1 (List.mem_of_getElem? (i := 38) rfl) rfl
theorem wd_1_40 : Jvm.Cond.lays "ReadAloud$Walk" "ReadAloud$Walk" "wordsOfPart" "I" ∈ aWd := aWd_1 (List.mem_of_getElem? (i := 40) rfl) rfl
theorem wd_1_42 : Jvm.Cond.lays "ReadAloud$Walk" "ReadAloud$Walk" "lastWord" "I" ∈ aWd := aWd_1 (List.mem_of_getElem? (i := 42) rfl) rfl
theorem wd_1_46 : Jvm.Cond.fieldLink "ReadAloud$Page" (9 : Nat) "ReadAloud$Page" "codes" "[I" ∈ aWd := aWd_1 (List.mem_of_getElem? (i := 46) rfl) rfl
theorem wd_1_47 : Jvm.Cond.fieldLink "ReadAloud$Page" (18 : Nat) "ReadAloud$Page" "walk" "LReadAloud$Walk;" ∈ aWd := aWd_1 (List.mem_of_getElem? (i := 47) rfl) rfl
theorem wd_1_48 : Jvm.Cond.fieldLink "ReadAloud$Page" (22 : Nat) "ReadAloud$Page" "size" "I" ∈ aWd := aWd_1 (List.mem_of_getElem? (i := 48) rfl) rfl
theorem wd_1_49 : Jvm.Cond.laysFinal "ReadAloud$Page" "ReadAloud$Page" "codes" "[I" ∈ aWd := aWd_1 (List.mem_of_getElem? (i := 49) rfl) rfl
theorem wd_1_51 : Jvm.Cond.laysFinal "ReadAloud$Page" "ReadAloud$Page" "walk" "LReadAloud$Walk;" ∈ aWd := aWd_1 (List.mem_of_getElem? (i := 51) rfl) rfl
theorem wd_1_53 : Jvm.Cond.lays "ReadAloud$Page" "ReadAloud$Page" "size" "I" ∈ aWd := aWd_1 (List.mem_of_getElem? (i := 53) rfl) rfl
theorem wd_1_56 : Jvm.Cond.classLink "ReadAloud" (20 : Nat) "ReadAloud$Man" ∈ aWd := aWd_1 (List.mem_of_getElem? (i := 56) rfl) rfl
theorem wd_1_58 : Jvm.Cond.classLink "ReadAloud" (26 : Nat) "ReadAloud$State" ∈ aWd := aWd_1 (List.mem_of_getElem? (i := 58) rfl) rfl
theorem wd_1_59 : Jvm.Cond.instantiable "ReadAloud$State" (6 : Nat) ∈ aWd := aWd_1 (List.mem_of_getElem? (i := 59) rfl) rfl
theorem wd_1_61 : Jvm.Cond.instanceMethod ({ cls := "ReadAloud$State", name := "<init>", desc := "()V" } : Jvm.MethodName) ∈ aWd := aWd_1 (List.mem_of_getElem? (i := 61) rfl) rfl
theorem wd_1_62 : Jvm.Cond.code ({ cls := "ReadAloud$State", name := "<init>", desc := "()V" } : Jvm.MethodName) prog_10_method_1_code (1 : Nat) (Option.none : Option Jvm.ClassFile.FieldType) ∈ aWd := aWd_1 (List.mem_of_getElem? (i := 62) rfl) rfl
theorem wd_1_63 : Jvm.Cond.methodLink "ReadAloud$State" (3 : Nat) ({ cls := "java/lang/Object", name := "<init>", desc := "()V" } : Jvm.MethodName) ∈ aWd := aWd_1 (List.mem_of_getElem? (i := 63) rfl) rfl
theorem wd_1_64 : Jvm.Cond.classLink "ReadAloud$State" (9 : Nat) "ReadAloud$Sheet" ∈ aWd := aWd_1 (List.mem_of_getElem? (i := 64) rfl) rfl
theorem wd_1_65 : Jvm.Cond.instantiable "ReadAloud$Sheet" (2 : Nat) ∈ aWd := aWd_1 (List.mem_of_getElem? (i := 65) rfl) rfl
theorem wd_1_67 : Jvm.Cond.instanceMethod ({ cls := "ReadAloud$Sheet", name := "<init>", desc := "()V" } : Jvm.MethodName) ∈ aWd := aWd_1 (List.mem_of_getElem? (i := 67) rfl) rfl
theorem wd_1_68 : Jvm.Cond.code ({ cls := "ReadAloud$Sheet", name := "<init>", desc := "()V" } : Jvm.MethodName) prog_8_method_1_code (1 : Nat) (Option.none : Option Jvm.ClassFile.FieldType) ∈ aWd := aWd_1 (List.mem_of_getElem? (i := 68) rfl) rfl
theorem wd_1_69 : Jvm.Cond.methodLink "ReadAloud$Sheet" (3 : Nat) ({ cls := "java/lang/Object", name := "<init>", desc := "()V" } : Jvm.MethodName) ∈ aWd := aWd_1 (List.mem_of_getElem? (i := 69) rfl) rfl
theorem wd_1_70 : Jvm.Cond.fieldLink "ReadAloud$Sheet" (9 : Nat) "ReadAloud$Sheet" "words" "[I" ∈ aWd := aWd_1 (List.mem_of_getElem? (i := 70) rfl) rfl
theorem wd_1_71 : Jvm.Cond.fieldLink "ReadAloud$Sheet" (15 : Nat) "ReadAloud$Sheet" "size" "I" ∈ aWd := aWd_1 (List.mem_of_getElem? (i := 71) rfl) rfl
theorem wd_1_72 : Jvm.Cond.laysFinal "ReadAloud$Sheet" "ReadAloud$Sheet" "words" "[I" ∈ aWd := aWd_1 (List.mem_of_getElem? (i := 72) rfl) rfl
theorem wd_1_74 : Jvm.Cond.lays "ReadAloud$Sheet" "ReadAloud$Sheet" "size" "I" ∈ aWd := aWd_1 (List.mem_of_getElem? (i := 74) rfl) rfl
theorem wd_1_77 : Jvm.Cond.classLink "ReadAloud$State" (18 : Nat) "ReadAloud$Heard" ∈ aWd := aWd_1 (List.mem_of_getElem? (i := 77) rfl) rfl
theorem wd_1_78 : Jvm.Cond.instantiable "ReadAloud$Heard" (3 : Nat) ∈ aWd := aWd_1 (List.mem_of_getElem? (i := 78) rfl) rfl
theorem wd_1_80 : Jvm.Cond.instanceMethod ({ cls := "ReadAloud$Heard", name := "<init>", desc := "()V" } : Jvm.MethodName) ∈ aWd := aWd_1 (List.mem_of_getElem? (i := 80) rfl) rfl
theorem wd_1_81 : Jvm.Cond.code ({ cls := "ReadAloud$Heard", name := "<init>", desc := "()V" } : Jvm.MethodName) prog_5_method_1_code (1 : Nat) (Option.none : Option Jvm.ClassFile.FieldType) ∈ aWd := aWd_1 (List.mem_of_getElem? (i := 81) rfl) rfl
theorem wd_1_82 : Jvm.Cond.methodLink "ReadAloud$Heard" (3 : Nat) ({ cls := "java/lang/Object", name := "<init>", desc := "()V" } : Jvm.MethodName) ∈ aWd := aWd_1 (List.mem_of_getElem? (i := 82) rfl) rfl
theorem wd_1_83 : Jvm.Cond.fieldLink "ReadAloud$Heard" (9 : Nat) "ReadAloud$Heard" "whom" "[I" ∈ aWd := aWd_1 (List.mem_of_getElem? (i := 83) rfl) rfl
theorem wd_1_84 : Jvm.Cond.fieldLink "ReadAloud$Heard" (15 : Nat) "ReadAloud$Heard" "deeds" "[I" ∈ aWd := aWd_1 (List.mem_of_getElem? (i := 84) rfl) rfl
theorem wd_1_85 : Jvm.Cond.fieldLink "ReadAloud$Heard" (18 : Nat) "ReadAloud$Heard" "size" "I" ∈ aWd := aWd_1 (List.mem_of_getElem? (i := 85) rfl) rfl
theorem wd_1_86 : Jvm.Cond.laysFinal "ReadAloud$Heard" "ReadAloud$Heard" "whom" "[I" ∈ aWd := aWd_1 (List.mem_of_getElem? (i := 86) rfl) rfl
theorem wd_1_88 : Jvm.Cond.laysFinal "ReadAloud$Heard" "ReadAloud$Heard" "deeds" "[I" ∈ aWd := aWd_1 (List.mem_of_getElem? (i := 88) rfl) rfl
theorem wd_1_90 : Jvm.Cond.lays "ReadAloud$Heard" "ReadAloud$Heard" "size" "I" ∈ aWd := aWd_1 (List.mem_of_getElem? (i := 90) rfl) rfl
theorem wd_1_93 : Jvm.Cond.fieldLink "ReadAloud$State" (12 : Nat) "ReadAloud$State" "sheet" "LReadAloud$Sheet;" ∈ aWd := aWd_1 (List.mem_of_getElem? (i := 93) rfl) rfl
theorem wd_1_94 : Jvm.Cond.fieldLink "ReadAloud" (79 : Nat) "ReadAloud$State" "sheet" "LReadAloud$Sheet;" ∈ aWd := aWd_1 (List.mem_of_getElem? (i := 94) rfl) rfl
theorem wd_1_95 : Jvm.Cond.fieldLink "ReadAloud$State" (21 : Nat) "ReadAloud$State" "heard" "LReadAloud$Heard;" ∈ aWd := aWd_1 (List.mem_of_getElem? (i := 95) rfl) rfl
theorem wd_1_96 : Jvm.Cond.fieldLink "ReadAloud" (140 : Nat) "ReadAloud$State" "heard" "LReadAloud$Heard;" ∈ aWd := aWd_1 (List.mem_of_getElem? (i := 96) rfl) rfl
theorem wd_1_97 : Jvm.Cond.fieldLink "ReadAloud$State" (25 : Nat) "ReadAloud$State" "hidden" "[I" ∈ aWd := aWd_1 (List.mem_of_getElem? (i := 97) rfl) rfl
theorem wd_1_98 : Jvm.Cond.fieldLink "ReadAloud" (115 : Nat) "ReadAloud$State" "hidden" "[I" ∈ aWd := aWd_1 (List.mem_of_getElem? (i := 98) rfl) rfl
theorem wd_1_99 : Jvm.Cond.fieldLink "ReadAloud$State" (33 : Nat) "ReadAloud$State" "limit" "I" ∈ aWd := aWd_1 (List.mem_of_getElem? (i := 99) rfl) rfl
theorem wd_1_100 : Jvm.Cond.fieldLink "ReadAloud" (103 : Nat) "ReadAloud$State" "limit" "I" ∈ aWd := aWd_1 (List.mem_of_getElem? (i := 100) rfl) rfl
theorem wd_1_101 : Jvm.Cond.fieldLink "ReadAloud$State" (37 : Nat) "ReadAloud$State" "men" "I" ∈ aWd := aWd_1 (List.mem_of_getElem? (i := 101) rfl) rfl
theorem wd_1_102 : Jvm.Cond.fieldLink "ReadAloud" (109 : Nat) "ReadAloud$State" "men" "I" ∈ aWd := aWd_1 (List.mem_of_getElem? (i := 102) rfl) rfl
theorem wd_1_103 : Jvm.Cond.fieldLink "ReadAloud$State" (40 : Nat) "ReadAloud$State" "changes" "I" ∈ aWd := aWd_1 (List.mem_of_getElem? (i := 103) rfl) rfl
theorem wd_1_104 : Jvm.Cond.fieldLink "ReadAloud" (100 : Nat) "ReadAloud$State" "changes" "I" ∈ aWd := aWd_1 (List.mem_of_getElem? (i := 104) rfl) rfl
theorem wd_1_105 : Jvm.Cond.laysFinal "ReadAloud$State" "ReadAloud$State" "sheet" "LReadAloud$Sheet;" ∈ aWd := aWd_1 (List.mem_of_getElem? (i := 105) rfl) rfl
theorem wd_1_107 : Jvm.Cond.laysFinal "ReadAloud$State" "ReadAloud$State" "heard" "LReadAloud$Heard;" ∈ aWd := aWd_1 (List.mem_of_getElem? (i := 107) rfl) rfl
theorem wd_1_109 : Jvm.Cond.laysFinal "ReadAloud$State" "ReadAloud$State" "hidden" "[I" ∈ aWd := aWd_1 (List.mem_of_getElem? (i := 109) rfl) rfl
theorem wd_1_111 : Jvm.Cond.lays "ReadAloud$State" "ReadAloud$State" "limit" "I" ∈ aWd := aWd_1 (List.mem_of_getElem? (i := 111) rfl) rfl
theorem wd_1_113 : Jvm.Cond.lays "ReadAloud$State" "ReadAloud$State" "men" "I" ∈ aWd := aWd_1 (List.mem_of_getElem? (i := 113) rfl) rfl
theorem wd_1_115 : Jvm.Cond.lays "ReadAloud$State" "ReadAloud$State" "changes" "I" ∈ aWd := aWd_1 (List.mem_of_getElem? (i := 115) rfl) rfl
theorem wd_1_118 : Jvm.Cond.classLink "ReadAloud" (36 : Nat) "ReadAloud$Sheet" ∈ aWd := aWd_1 (List.mem_of_getElem? (i := 118) rfl) rfl
theorem wd_1_120 : Jvm.Cond.classLink "ReadAloud" (43 : Nat) "ReadAloud$Brief" ∈ aWd := aWd_1 (List.mem_of_getElem? (i := 120) rfl) rfl
theorem wd_1_121 : Jvm.Cond.instantiable "ReadAloud$Brief" (3 : Nat) ∈ aWd := aWd_1 (List.mem_of_getElem? (i := 121) rfl) rfl
theorem wd_1_123 : Jvm.Cond.instanceMethod ({ cls := "ReadAloud$Brief", name := "<init>", desc := "()V" } : Jvm.MethodName) ∈ aWd := aWd_1 (List.mem_of_getElem? (i := 123) rfl) rfl
theorem wd_1_124 : Jvm.Cond.code ({ cls := "ReadAloud$Brief", name := "<init>", desc := "()V" } : Jvm.MethodName) prog_4_method_1_code (1 : Nat) (Option.none : Option Jvm.ClassFile.FieldType) ∈ aWd := aWd_1 (List.mem_of_getElem? (i := 124) rfl) rfl
theorem wd_1_125 : Jvm.Cond.methodLink "ReadAloud$Brief" (3 : Nat) ({ cls := "java/lang/Object", name := "<init>", desc := "()V" } : Jvm.MethodName) ∈ aWd := aWd_1 (List.mem_of_getElem? (i := 125) rfl) rfl
theorem wd_1_126 : Jvm.Cond.fieldLink "ReadAloud$Brief" (9 : Nat) "ReadAloud$Brief" "pairsTold" "[I" ∈ aWd := aWd_1 (List.mem_of_getElem? (i := 126) rfl) rfl
theorem wd_1_127 : Jvm.Cond.fieldLink "ReadAloud$Brief" (15 : Nat) "ReadAloud$Brief" "words" "[I" ∈ aWd := aWd_1 (List.mem_of_getElem? (i := 127) rfl) rfl
theorem wd_1_128 : Jvm.Cond.laysFinal "ReadAloud$Brief" "ReadAloud$Brief" "pairsTold" "[I" ∈ aWd := aWd_1 (List.mem_of_getElem? (i := 128) rfl) rfl
theorem wd_1_130 : Jvm.Cond.laysFinal "ReadAloud$Brief" "ReadAloud$Brief" "words" "[I" ∈ aWd := aWd_1 (List.mem_of_getElem? (i := 130) rfl) rfl
theorem wd_1_132 : Jvm.Cond.lays "ReadAloud$Brief" "ReadAloud$Brief" "size" "I" ∈ aWd := aWd_1 (List.mem_of_getElem? (i := 132) rfl) rfl
theorem wd_1_135 : Jvm.Cond.fieldLink "ReadAloud" (10 : Nat) "ReadAloud" "page" "LReadAloud$Page;" ∈ aWd := aWd_1 (List.mem_of_getElem? (i := 135) rfl) rfl
theorem wd_1_136 : Jvm.Cond.fieldLink "ReadAloud" (16 : Nat) "ReadAloud" "near" "[I" ∈ aWd := aWd_1 (List.mem_of_getElem? (i := 136) rfl) rfl
theorem wd_1_137 : Jvm.Cond.fieldLink "ReadAloud" (22 : Nat) "ReadAloud" "men" "[LReadAloud$Man;" ∈ aWd := aWd_1 (List.mem_of_getElem? (i := 137) rfl) rfl
theorem wd_1_138 : Jvm.Cond.fieldLink "ReadAloud" (29 : Nat) "ReadAloud" "now" "LReadAloud$State;" ∈ aWd := aWd_1 (List.mem_of_getElem? (i := 138) rfl) rfl
theorem wd_1_139 : Jvm.Cond.fieldLink "ReadAloud" (33 : Nat) "ReadAloud" "kept" "LReadAloud$State;" ∈ aWd := aWd_1 (List.mem_of_getElem? (i := 139) rfl) rfl
theorem wd_1_140 : Jvm.Cond.fieldLink "ReadAloud" (39 : Nat) "ReadAloud" "drawn" "LReadAloud$Sheet;" ∈ aWd := aWd_1 (List.mem_of_getElem? (i := 140) rfl) rfl
theorem wd_1_141 : Jvm.Cond.fieldLink "ReadAloud" (46 : Nat) "ReadAloud" "shortest" "LReadAloud$Brief;" ∈ aWd := aWd_1 (List.mem_of_getElem? (i := 141) rfl) rfl
theorem wd_1_142 : Jvm.Cond.fieldLink "ReadAloud" (71 : Nat) "ReadAloud" "imageKept" "Z" ∈ aWd := aWd_1 (List.mem_of_getElem? (i := 142) rfl) rfl
theorem wd_1_143 : Jvm.Cond.fieldLink "ReadAloud" (75 : Nat) "ReadAloud" "courtsRead" "I" ∈ aWd := aWd_1 (List.mem_of_getElem? (i := 143) rfl) rfl
theorem wd_1_144 : Jvm.Cond.fieldLink "ReadAloud" (159 : Nat) "ReadAloud" "briefsDone" "I" ∈ aWd := aWd_1 (List.mem_of_getElem? (i := 144) rfl) rfl
theorem wd_1_145 : Jvm.Cond.laysFinal "ReadAloud" "ReadAloud" "page" "LReadAloud$Page;" ∈ aWd := aWd_1 (List.mem_of_getElem? (i := 145) rfl) rfl
theorem wd_1_147 : Jvm.Cond.laysFinal "ReadAloud" "ReadAloud" "near" "[I" ∈ aWd := aWd_1 (List.mem_of_getElem? (i := 147) rfl) rfl
theorem wd_1_149 : Jvm.Cond.laysFinal "ReadAloud" "ReadAloud" "men" "[LReadAloud$Man;" ∈ aWd := aWd_1 (List.mem_of_getElem? (i := 149) rfl) rfl
theorem wd_1_151 : Jvm.Cond.laysFinal "ReadAloud" "ReadAloud" "now" "LReadAloud$State;" ∈ aWd := aWd_1 (List.mem_of_getElem? (i := 151) rfl) rfl
theorem wd_1_153 : Jvm.Cond.laysFinal "ReadAloud" "ReadAloud" "kept" "LReadAloud$State;" ∈ aWd := aWd_1 (List.mem_of_getElem? (i := 153) rfl) rfl
theorem wd_1_155 : Jvm.Cond.laysFinal "ReadAloud" "ReadAloud" "drawn" "LReadAloud$Sheet;" ∈ aWd := aWd_1 (List.mem_of_getElem? (i := 155) rfl) rfl
theorem wd_1_157 : Jvm.Cond.laysFinal "ReadAloud" "ReadAloud" "shortest" "LReadAloud$Brief;" ∈ aWd := aWd_1 (List.mem_of_getElem? (i := 157) rfl) rfl
theorem wd_1_159 : Jvm.Cond.lays "ReadAloud" "ReadAloud" "imageKept" "Z" ∈ aWd := aWd_1 (List.mem_of_getElem? (i := 159) rfl) rfl
theorem wd_1_161 : Jvm.Cond.lays "ReadAloud" "ReadAloud" "courtsRead" "I" ∈ aWd := aWd_1 (List.mem_of_getElem? (i := 161) rfl) rfl
theorem wd_1_163 : Jvm.Cond.lays "ReadAloud" "ReadAloud" "briefsDone" "I" ∈ aWd := aWd_1 (List.mem_of_getElem? (i := 163) rfl) rfl
theorem wd_1_166 : Jvm.Cond.methodLink "ReadAloudLaw" (79 : Nat) ({ cls := "ReadAloud", name := "fault", desc := "()I" } : Jvm.MethodName) ∈ aWd := aWd_1 (List.mem_of_getElem? (i := 166) rfl) rfl
theorem wd_1_167 : Jvm.Cond.instanceMethod ({ cls := "ReadAloud", name := "fault", desc := "()I" } : Jvm.MethodName) ∈ aWd := aWd_1 (List.mem_of_getElem? (i := 167) rfl) rfl
theorem wd_1_168 : Jvm.Cond.selects "ReadAloud" ({ cls := "ReadAloud", name := "fault", desc := "()I" } : Jvm.MethodName) ({ cls := "ReadAloud", name := "fault", desc := "()I" } : Jvm.MethodName) ∈ aWd := aWd_1 (List.mem_of_getElem? (i := 168) rfl) rfl
theorem wd_1_169 : Jvm.Cond.code ({ cls := "ReadAloud", name := "fault", desc := "()I" } : Jvm.MethodName) prog_1_method_4_code (1 : Nat) (Option.some Jvm.ClassFile.FieldType.int) ∈ aWd := aWd_1 (List.mem_of_getElem? (i := 169) rfl) rfl
theorem wd_1_170 : Jvm.Cond.methodLink "ReadAloud" (61 : Nat) ({ cls := "ReadAloud$Page", name := "faultPlace", desc := "()I" } : Jvm.MethodName) ∈ aWd := aWd_1 (List.mem_of_getElem? (i := 170) rfl) rfl
theorem wd_1_171 : Jvm.Cond.instanceMethod ({ cls := "ReadAloud$Page", name := "faultPlace", desc := "()I" } : Jvm.MethodName) ∈ aWd := aWd_1 (List.mem_of_getElem? (i := 171) rfl) rfl
theorem wd_1_172 : Jvm.Cond.selects "ReadAloud$Page" ({ cls := "ReadAloud$Page", name := "faultPlace", desc := "()I" } : Jvm.MethodName) ({ cls := "ReadAloud$Page", name := "faultPlace", desc := "()I" } : Jvm.MethodName) ∈ aWd := aWd_1 (List.mem_of_getElem? (i := 172) rfl) rfl
theorem wd_1_173 : Jvm.Cond.code ({ cls := "ReadAloud$Page", name := "faultPlace", desc := "()I" } : Jvm.MethodName) prog_7_method_6_code (2 : Nat) (Option.some Jvm.ClassFile.FieldType.int) ∈ aWd := aWd_1 (List.mem_of_getElem? (i := 173) rfl) rfl
theorem wd_1_174 : Jvm.Cond.methodLink "ReadAloud$Page" (26 : Nat) ({ cls := "ReadAloud$Walk", name := "begin", desc := "()V" } : Jvm.MethodName) ∈ aWd := aWd_1 (List.mem_of_getElem? (i := 174) rfl) rfl
theorem wd_1_175 : Jvm.Cond.instanceMethod ({ cls := "ReadAloud$Walk", name := "begin", desc := "()V" } : Jvm.MethodName) ∈ aWd := aWd_1 (List.mem_of_getElem? (i := 175) rfl) rfl
theorem wd_1_176 : Jvm.Cond.selects "ReadAloud$Walk" ({ cls := "ReadAloud$Walk", name := "begin", desc := "()V" } : Jvm.MethodName) ({ cls := "ReadAloud$Walk", name := "begin", desc := "()V" } : Jvm.MethodName) ∈ aWd := aWd_1 (List.mem_of_getElem? (i := 176) rfl) rfl
theorem wd_1_177 : Jvm.Cond.code ({ cls := "ReadAloud$Walk", name := "begin", desc := "()V" } : Jvm.MethodName) prog_11_method_2_code (1 : Nat) (Option.none : Option Jvm.ClassFile.FieldType) ∈ aWd := aWd_1 (List.mem_of_getElem? (i := 177) rfl) rfl
theorem wd_1_178 : Jvm.Cond.methodLink "ReadAloud$Walk" (9 : Nat) ({ cls := "ReadAloud$Walk", name := "enter", desc := "(I)V" } : Jvm.MethodName) ∈ aWd := aWd_1 (List.mem_of_getElem? (i := 178) rfl) rfl
theorem wd_1_180 : Jvm.Cond.instanceMethod ({ cls := "ReadAloud$Walk", name := "enter", desc := "(I)V" } : Jvm.MethodName) ∈ aWd := aWd_1 (List.mem_of_getElem? (i := 180) rfl) rfl
theorem wd_1_181 : Jvm.Cond.code ({ cls := "ReadAloud$Walk", name := "enter", desc := "(I)V" } : Jvm.MethodName) prog_11_method_5_code (2 : Nat) (Option.none : Option Jvm.ClassFile.FieldType) ∈ aWd := aWd_1 (List.mem_of_getElem? (i := 181) rfl) rfl
theorem wd_1_182 : Jvm.Cond.methodLink "ReadAloud$Page" (29 : Nat) ({ cls := "ReadAloud$Walk", name := "passes", desc := "(I)Z" } : Jvm.MethodName) ∈ aWd := aWd_1 (List.mem_of_getElem? (i := 182) rfl) rfl
theorem wd_1_183 : Jvm.Cond.instanceMethod ({ cls := "ReadAloud$Walk", name := "passes", desc := "(I)Z" } : Jvm.MethodName) ∈ aWd := aWd_1 (List.mem_of_getElem? (i := 183) rfl) rfl
theorem wd_1_184 : Jvm.Cond.selects "ReadAloud$Walk" ({ cls := "ReadAloud$Walk", name := "passes", desc := "(I)Z" } : Jvm.MethodName) ({ cls := "ReadAloud$Walk", name := "passes", desc := "(I)Z" } : Jvm.MethodName) ∈ aWd := aWd_1 (List.mem_of_getElem? (i := 184) rfl) rfl
theorem wd_1_185 : Jvm.Cond.code ({ cls := "ReadAloud$Walk", name := "passes", desc := "(I)Z" } : Jvm.MethodName) prog_11_method_3_code (3 : Nat) (Option.some Jvm.ClassFile.FieldType.boolean) ∈ aWd := aWd_1 (List.mem_of_getElem? (i := 185) rfl) rfl
theorem wd_1_187 : Jvm.Cond.static ({ cls := "ReadAloud", name := "isWord", desc := "(I)Z" } : Jvm.MethodName) ∈ aWd := aWd_1 (List.mem_of_getElem? (i := 187) rfl) rfl
theorem wd_1_188 : Jvm.Cond.code ({ cls := "ReadAloud", name := "isWord", desc := "(I)Z" } : Jvm.MethodName) prog_1_method_26_code (1 : Nat) (Option.some Jvm.ClassFile.FieldType.boolean) ∈ aWd := aWd_1 (List.mem_of_getElem? (i := 188) rfl) rfl
theorem wd_1_189 : Jvm.Cond.methodLink "ReadAloud$Walk" (19 : Nat) ({ cls := "ReadAloud$Walk", name := "passesWord", desc := "(I)Z" } : Jvm.MethodName) ∈ aWd := aWd_1 (List.mem_of_getElem? (i := 189) rfl) rfl
theorem wd_1_191 : Jvm.Cond.instanceMethod ({ cls := "ReadAloud$Walk", name := "passesWord", desc := "(I)Z" } : Jvm.MethodName) ∈ aWd := aWd_1 (List.mem_of_getElem? (i := 191) rfl) rfl
theorem wd_1_192 : Jvm.Cond.code ({ cls := "ReadAloud$Walk", name := "passesWord", desc := "(I)Z" } : Jvm.MethodName) prog_11_method_6_code (3 : Nat) (Option.some Jvm.ClassFile.FieldType.boolean) ∈ aWd := aWd_1 (List.mem_of_getElem? (i := 192) rfl) rfl
theorem wd_1_193 : Jvm.Cond.methodLink "ReadAloudLaw" (83 : Nat) ({ cls := "ReadAloud", name := "court", desc := "()I" } : Jvm.MethodName) ∈ aWd := aWd_1 (List.mem_of_getElem? (i := 193) rfl) rfl
theorem wd_1_194 : Jvm.Cond.instanceMethod ({ cls := "ReadAloud", name := "court", desc := "()I" } : Jvm.MethodName) ∈ aWd := aWd_1 (List.mem_of_getElem? (i := 194) rfl) rfl
theorem wd_1_195 : Jvm.Cond.selects "ReadAloud" ({ cls := "ReadAloud", name := "court", desc := "()I" } : Jvm.MethodName) ({ cls := "ReadAloud", name := "court", desc := "()I" } : Jvm.MethodName) ∈ aWd := aWd_1 (List.mem_of_getElem? (i := 195) rfl) rfl
theorem wd_1_196 : Jvm.Cond.code ({ cls := "ReadAloud", name := "court", desc := "()I" } : Jvm.MethodName) prog_1_method_5_code (1 : Nat) (Option.some Jvm.ClassFile.FieldType.int) ∈ aWd := aWd_1 (List.mem_of_getElem? (i := 196) rfl) rfl
theorem wd_1_197 : Jvm.Cond.methodLink "ReadAloud" (64 : Nat) ({ cls := "ReadAloud$Page", name := "isCourt", desc := "()Z" } : Jvm.MethodName) ∈ aWd := aWd_1 (List.mem_of_getElem? (i := 197) rfl) rfl
theorem wd_1_198 : Jvm.Cond.instanceMethod ({ cls := "ReadAloud$Page", name := "isCourt", desc := "()Z" } : Jvm.MethodName) ∈ aWd := aWd_1 (List.mem_of_getElem? (i := 198) rfl) rfl
theorem wd_1_199 : Jvm.Cond.selects "ReadAloud$Page" ({ cls := "ReadAloud$Page", name := "isCourt", desc := "()Z" } : Jvm.MethodName) ({ cls := "ReadAloud$Page", name := "isCourt", desc := "()Z" } : Jvm.MethodName) ∈ aWd := aWd_1 (List.mem_of_getElem? (i := 199) rfl) rfl
theorem wd_1_200 : Jvm.Cond.code ({ cls := "ReadAloud$Page", name := "isCourt", desc := "()Z" } : Jvm.MethodName) prog_7_method_7_code (1 : Nat) (Option.some Jvm.ClassFile.FieldType.boolean) ∈ aWd := aWd_1 (List.mem_of_getElem? (i := 200) rfl) rfl
theorem wd_1_201 : Jvm.Cond.methodLink "ReadAloud$Page" (33 : Nat) ({ cls := "ReadAloud$Page", name := "faultPlace", desc := "()I" } : Jvm.MethodName) ∈ aWd := aWd_1 (List.mem_of_getElem? (i := 201) rfl) rfl
theorem wd_1_202 : Jvm.Cond.methodLink "ReadAloud$Page" (37 : Nat) ({ cls := "ReadAloud$Walk", name := "isWhole", desc := "()Z" } : Jvm.MethodName) ∈ aWd := aWd_1 (List.mem_of_getElem? (i := 202) rfl) rfl
theorem wd_1_203 : Jvm.Cond.instanceMethod ({ cls := "ReadAloud$Walk", name := "isWhole", desc := "()Z" } : Jvm.MethodName) ∈ aWd := aWd_1 (List.mem_of_getElem? (i := 203) rfl) rfl
theorem wd_1_204 : Jvm.Cond.selects "ReadAloud$Walk" ({ cls := "ReadAloud$Walk", name := "isWhole", desc := "()Z" } : Jvm.MethodName) ({ cls := "ReadAloud$Walk", name := "isWhole", desc := "()Z" } : Jvm.MethodName) ∈ aWd := aWd_1 (List.mem_of_getElem? (i := 204) rfl) rfl
theorem wd_1_205 : Jvm.Cond.code ({ cls := "ReadAloud$Walk", name := "isWhole", desc := "()Z" } : Jvm.MethodName) prog_11_method_4_code (1 : Nat) (Option.some Jvm.ClassFile.FieldType.boolean) ∈ aWd := aWd_1 (List.mem_of_getElem? (i := 205) rfl) rfl
theorem wd_1_206 : Jvm.Cond.methodLink "ReadAloud" (68 : Nat) ({ cls := "ReadAloud", name := "readCourt", desc := "()V" } : Jvm.MethodName) ∈ aWd := aWd_1 (List.mem_of_getElem? (i := 206) rfl) rfl
theorem wd_1_208 : Jvm.Cond.instanceMethod ({ cls := "ReadAloud", name := "readCourt", desc := "()V" } : Jvm.MethodName) ∈ aWd := aWd_1 (List.mem_of_getElem? (i := 208) rfl) rfl
theorem wd_1_209 : Jvm.Cond.code ({ cls := "ReadAloud", name := "readCourt", desc := "()V" } : Jvm.MethodName) prog_1_method_33_code (4 : Nat) (Option.none : Option Jvm.ClassFile.FieldType) ∈ aWd := aWd_1 (List.mem_of_getElem? (i := 209) rfl) rfl
theorem wd_1_210 : Jvm.Cond.methodLink "ReadAloud" (241 : Nat) ({ cls := "ReadAloud$State", name := "begin", desc := "()V" } : Jvm.MethodName) ∈ aWd := aWd_1 (List.mem_of_getElem? (i := 210) rfl) rfl
theorem wd_1_211 : Jvm.Cond.instanceMethod ({ cls := "ReadAloud$State", name := "begin", desc := "()V" } : Jvm.MethodName) ∈ aWd := aWd_1 (List.mem_of_getElem? (i := 211) rfl) rfl
theorem wd_1_212 : Jvm.Cond.selects "ReadAloud$State" ({ cls := "ReadAloud$State", name := "begin", desc := "()V" } : Jvm.MethodName) ({ cls := "ReadAloud$State", name := "begin", desc := "()V" } : Jvm.MethodName) ∈ aWd := aWd_1 (List.mem_of_getElem? (i := 212) rfl) rfl
theorem wd_1_213 : Jvm.Cond.code ({ cls := "ReadAloud$State", name := "begin", desc := "()V" } : Jvm.MethodName) prog_10_method_2_code (1 : Nat) (Option.none : Option Jvm.ClassFile.FieldType) ∈ aWd := aWd_1 (List.mem_of_getElem? (i := 213) rfl) rfl
theorem wd_1_214 : Jvm.Cond.methodLink "ReadAloud$State" (29 : Nat) ({ cls := "ReadAloud$Sheet", name := "clear", desc := "()V" } : Jvm.MethodName) ∈ aWd := aWd_1 (List.mem_of_getElem? (i := 214) rfl) rfl
theorem wd_1_215 : Jvm.Cond.instanceMethod ({ cls := "ReadAloud$Sheet", name := "clear", desc := "()V" } : Jvm.MethodName) ∈ aWd := aWd_1 (List.mem_of_getElem? (i := 215) rfl) rfl
theorem wd_1_216 : Jvm.Cond.selects "ReadAloud$Sheet" ({ cls := "ReadAloud$Sheet", name := "clear", desc := "()V" } : Jvm.MethodName) ({ cls := "ReadAloud$Sheet", name := "clear", desc := "()V" } : Jvm.MethodName) ∈ aWd := aWd_1 (List.mem_of_getElem? (i := 216) rfl) rfl
theorem wd_1_217 : Jvm.Cond.code ({ cls := "ReadAloud$Sheet", name := "clear", desc := "()V" } : Jvm.MethodName) prog_8_method_7_code (1 : Nat) (Option.none : Option Jvm.ClassFile.FieldType) ∈ aWd := aWd_1 (List.mem_of_getElem? (i := 217) rfl) rfl
theorem wd_1_218 : Jvm.Cond.methodLink "ReadAloud$State" (32 : Nat) ({ cls := "ReadAloud$Heard", name := "clear", desc := "()V" } : Jvm.MethodName) ∈ aWd := aWd_1 (List.mem_of_getElem? (i := 218) rfl) rfl
theorem wd_1_219 : Jvm.Cond.instanceMethod ({ cls := "ReadAloud$Heard", name := "clear", desc := "()V" } : Jvm.MethodName) ∈ aWd := aWd_1 (List.mem_of_getElem? (i := 219) rfl) rfl
theorem wd_1_220 : Jvm.Cond.selects "ReadAloud$Heard" ({ cls := "ReadAloud$Heard", name := "clear", desc := "()V" } : Jvm.MethodName) ({ cls := "ReadAloud$Heard", name := "clear", desc := "()V" } : Jvm.MethodName) ∈ aWd := aWd_1 (List.mem_of_getElem? (i := 220) rfl) rfl
theorem wd_1_221 : Jvm.Cond.code ({ cls := "ReadAloud$Heard", name := "clear", desc := "()V" } : Jvm.MethodName) prog_5_method_4_code (1 : Nat) (Option.none : Option Jvm.ClassFile.FieldType) ∈ aWd := aWd_1 (List.mem_of_getElem? (i := 221) rfl) rfl
theorem wd_1_222 : Jvm.Cond.methodLink "ReadAloud" (54 : Nat) ({ cls := "ReadAloud$Page", name := "size", desc := "()I" } : Jvm.MethodName) ∈ aWd := aWd_1 (List.mem_of_getElem? (i := 222) rfl) rfl
theorem wd_1_223 : Jvm.Cond.instanceMethod ({ cls := "ReadAloud$Page", name := "size", desc := "()I" } : Jvm.MethodName) ∈ aWd := aWd_1 (List.mem_of_getElem? (i := 223) rfl) rfl
theorem wd_1_224 : Jvm.Cond.selects "ReadAloud$Page" ({ cls := "ReadAloud$Page", name := "size", desc := "()I" } : Jvm.MethodName) ({ cls := "ReadAloud$Page", name := "size", desc := "()I" } : Jvm.MethodName) ∈ aWd := aWd_1 (List.mem_of_getElem? (i := 224) rfl) rfl
theorem wd_1_225 : Jvm.Cond.code ({ cls := "ReadAloud$Page", name := "size", desc := "()I" } : Jvm.MethodName) prog_7_method_2_code (1 : Nat) (Option.some Jvm.ClassFile.FieldType.int) ∈ aWd := aWd_1 (List.mem_of_getElem? (i := 225) rfl) rfl
theorem wd_1_226 : Jvm.Cond.methodLink "ReadAloud" (220 : Nat) ({ cls := "ReadAloud$Page", name := "codeAt", desc := "(I)I" } : Jvm.MethodName) ∈ aWd := aWd_1 (List.mem_of_getElem? (i := 226) rfl) rfl
theorem wd_1_227 : Jvm.Cond.instanceMethod ({ cls := "ReadAloud$Page", name := "codeAt", desc := "(I)I" } : Jvm.MethodName) ∈ aWd := aWd_1 (List.mem_of_getElem? (i := 227) rfl) rfl
theorem wd_1_228 : Jvm.Cond.selects "ReadAloud$Page" ({ cls := "ReadAloud$Page", name := "codeAt", desc := "(I)I" } : Jvm.MethodName) ({ cls := "ReadAloud$Page", name := "codeAt", desc := "(I)I" } : Jvm.MethodName) ∈ aWd := aWd_1 (List.mem_of_getElem? (i := 228) rfl) rfl
theorem wd_1_229 : Jvm.Cond.code ({ cls := "ReadAloud$Page", name := "codeAt", desc := "(I)I" } : Jvm.MethodName) prog_7_method_3_code (2 : Nat) (Option.some Jvm.ClassFile.FieldType.int) ∈ aWd := aWd_1 (List.mem_of_getElem? (i := 229) rfl) rfl
theorem wd_1_230 : Jvm.Cond.methodLink "ReadAloud" (93 : Nat) ({ cls := "ReadAloud", name := "isWord", desc := "(I)Z" } : Jvm.MethodName) ∈ aWd := aWd_1 (List.mem_of_getElem? (i := 230) rfl) rfl
theorem wd_1_231 : Jvm.Cond.methodLink "ReadAloud" (244 : Nat) ({ cls := "ReadAloud$Sheet", name := "add", desc := "(I)V" } : Jvm.MethodName) ∈ aWd := aWd_1 (List.mem_of_getElem? (i := 231) rfl) rfl
theorem wd_1_232 : Jvm.Cond.instanceMethod ({ cls := "ReadAloud$Sheet", name := "add", desc := "(I)V" } : Jvm.MethodName) ∈ aWd := aWd_1 (List.mem_of_getElem? (i := 232) rfl) rfl
theorem wd_1_233 : Jvm.Cond.selects "ReadAloud$Sheet" ({ cls := "ReadAloud$Sheet", name := "add", desc := "(I)V" } : Jvm.MethodName) ({ cls := "ReadAloud$Sheet", name := "add", desc := "(I)V" } : Jvm.MethodName) ∈ aWd := aWd_1 (List.mem_of_getElem? (i := 233) rfl) rfl
theorem wd_1_234 : Jvm.Cond.code ({ cls := "ReadAloud$Sheet", name := "add", desc := "(I)V" } : Jvm.MethodName) prog_8_method_6_code (2 : Nat) (Option.none : Option Jvm.ClassFile.FieldType) ∈ aWd := aWd_1 (List.mem_of_getElem? (i := 234) rfl) rfl
theorem wd_1_235 : Jvm.Cond.methodLink "ReadAloud" (58 : Nat) ({ cls := "ReadAloud$Page", name := "clear", desc := "()V" } : Jvm.MethodName) ∈ aWd := aWd_1 (List.mem_of_getElem? (i := 235) rfl) rfl
theorem wd_1_236 : Jvm.Cond.instanceMethod ({ cls := "ReadAloud$Page", name := "clear", desc := "()V" } : Jvm.MethodName) ∈ aWd := aWd_1 (List.mem_of_getElem? (i := 236) rfl) rfl
theorem wd_1_237 : Jvm.Cond.selects "ReadAloud$Page" ({ cls := "ReadAloud$Page", name := "clear", desc := "()V" } : Jvm.MethodName) ({ cls := "ReadAloud$Page", name := "clear", desc := "()V" } : Jvm.MethodName) ∈ aWd := aWd_1 (List.mem_of_getElem? (i := 237) rfl) rfl
theorem wd_1_238 : Jvm.Cond.code ({ cls := "ReadAloud$Page", name := "clear", desc := "()V" } : Jvm.MethodName) prog_7_method_5_code (1 : Nat) (Option.none : Option Jvm.ClassFile.FieldType) ∈ aWd := aWd_1 (List.mem_of_getElem? (i := 238) rfl) rfl
theorem wd_1_239 : Jvm.Cond.methodLink "ReadAloud" (82 : Nat) ({ cls := "ReadAloud$Sheet", name := "size", desc := "()I" } : Jvm.MethodName) ∈ aWd := aWd_1 (List.mem_of_getElem? (i := 239) rfl) rfl
theorem wd_2_0 : Jvm.Cond.instanceMethod ({ cls := "ReadAloud$Sheet", name := "size", desc := "()I" } : Jvm.MethodName) ∈ aWd := aWd_2 (List.mem_of_getElem? (i := 0) rfl) rfl
theorem wd_2_1 : Jvm.Cond.selects "ReadAloud$Sheet" ({ cls := "ReadAloud$Sheet", name := "size", desc := "()I" } : Jvm.MethodName) ({ cls := "ReadAloud$Sheet", name := "size", desc := "()I" } : Jvm.MethodName) ∈ aWd := aWd_2 (List.mem_of_getElem? (i := 1) rfl) rfl
theorem wd_2_2 : Jvm.Cond.code ({ cls := "ReadAloud$Sheet", name := "size", desc := "()I" } : Jvm.MethodName) prog_8_method_2_code (1 : Nat) (Option.some Jvm.ClassFile.FieldType.int) ∈ aWd := aWd_2 (List.mem_of_getElem? (i := 2) rfl) rfl
theorem wd_2_3 : Jvm.Cond.methodLink "ReadAloudLaw" (35 : Nat) ({ cls := "ReadAloud", name := "near", desc := "(I)I" } : Jvm.MethodName) ∈ aWd := aWd_2 (List.mem_of_getElem? (i := 3) rfl) rfl
theorem wd_2_4 : Jvm.Cond.instanceMethod ({ cls := "ReadAloud", name := "near", desc := "(I)I" } : Jvm.MethodName) ∈ aWd := aWd_2 (List.mem_of_getElem? (i := 4) rfl) rfl
theorem wd_2_5 : Jvm.Cond.selects "ReadAloud" ({ cls := "ReadAloud", name := "near", desc := "(I)I" } : Jvm.MethodName) ({ cls := "ReadAloud", name := "near", desc := "(I)I" } : Jvm.MethodName) ∈ aWd := aWd_2 (List.mem_of_getElem? (i := 5) rfl) rfl
theorem wd_2_6 : Jvm.Cond.code ({ cls := "ReadAloud", name := "near", desc := "(I)I" } : Jvm.MethodName) prog_1_method_6_code (2 : Nat) (Option.some Jvm.ClassFile.FieldType.int) ∈ aWd := aWd_2 (List.mem_of_getElem? (i := 6) rfl) rfl
theorem wd_2_7 : Jvm.Cond.methodLink "ReadAloud" (83 : Nat) ({ cls := "ReadAloud", name := "hasCourt", desc := "()Z" } : Jvm.MethodName) ∈ aWd := aWd_2 (List.mem_of_getElem? (i := 7) rfl) rfl
theorem wd_2_9 : Jvm.Cond.instanceMethod ({ cls := "ReadAloud", name := "hasCourt", desc := "()Z" } : Jvm.MethodName) ∈ aWd := aWd_2 (List.mem_of_getElem? (i := 9) rfl) rfl
theorem wd_2_10 : Jvm.Cond.code ({ cls := "ReadAloud", name := "hasCourt", desc := "()Z" } : Jvm.MethodName) prog_1_method_24_code (1 : Nat) (Option.some Jvm.ClassFile.FieldType.boolean) ∈ aWd := aWd_2 (List.mem_of_getElem? (i := 10) rfl) rfl
theorem wd_2_11 : Jvm.Cond.methodLink "ReadAloudLaw" (38 : Nat) ({ cls := "ReadAloud", name := "word", desc := "(I)I" } : Jvm.MethodName) ∈ aWd := aWd_2 (List.mem_of_getElem? (i := 11) rfl) rfl
theorem wd_2_12 : Jvm.Cond.instanceMethod ({ cls := "ReadAloud", name := "word", desc := "(I)I" } : Jvm.MethodName) ∈ aWd := aWd_2 (List.mem_of_getElem? (i := 12) rfl) rfl
theorem wd_2_13 : Jvm.Cond.selects "ReadAloud" ({ cls := "ReadAloud", name := "word", desc := "(I)I" } : Jvm.MethodName) ({ cls := "ReadAloud", name := "word", desc := "(I)I" } : Jvm.MethodName) ∈ aWd := aWd_2 (List.mem_of_getElem? (i := 13) rfl) rfl
theorem wd_2_14 : Jvm.Cond.code ({ cls := "ReadAloud", name := "word", desc := "(I)I" } : Jvm.MethodName) prog_1_method_7_code (2 : Nat) (Option.some Jvm.ClassFile.FieldType.int) ∈ aWd := aWd_2 (List.mem_of_getElem? (i := 14) rfl) rfl
theorem wd_2_15 : Jvm.Cond.methodLink "ReadAloud" (86 : Nat) ({ cls := "ReadAloud$Sheet", name := "has", desc := "(I)Z" } : Jvm.MethodName) ∈ aWd := aWd_2 (List.mem_of_getElem? (i := 15) rfl) rfl
theorem wd_2_16 : Jvm.Cond.instanceMethod ({ cls := "ReadAloud$Sheet", name := "has", desc := "(I)Z" } : Jvm.MethodName) ∈ aWd := aWd_2 (List.mem_of_getElem? (i := 16) rfl) rfl
theorem wd_2_17 : Jvm.Cond.selects "ReadAloud$Sheet" ({ cls := "ReadAloud$Sheet", name := "has", desc := "(I)Z" } : Jvm.MethodName) ({ cls := "ReadAloud$Sheet", name := "has", desc := "(I)Z" } : Jvm.MethodName) ∈ aWd := aWd_2 (List.mem_of_getElem? (i := 17) rfl) rfl
theorem wd_2_18 : Jvm.Cond.code ({ cls := "ReadAloud$Sheet", name := "has", desc := "(I)Z" } : Jvm.MethodName) prog_8_method_3_code (2 : Nat) (Option.some Jvm.ClassFile.FieldType.boolean) ∈ aWd := aWd_2 (List.mem_of_getElem? (i := 18) rfl) rfl
theorem wd_2_19 : Jvm.Cond.methodLink "ReadAloud" (89 : Nat) ({ cls := "ReadAloud$Sheet", name := "at", desc := "(I)I" } : Jvm.MethodName) ∈ aWd := aWd_2 (List.mem_of_getElem? (i := 19) rfl) rfl
theorem wd_2_20 : Jvm.Cond.instanceMethod ({ cls := "ReadAloud$Sheet", name := "at", desc := "(I)I" } : Jvm.MethodName) ∈ aWd := aWd_2 (List.mem_of_getElem? (i := 20) rfl) rfl
theorem wd_2_21 : Jvm.Cond.selects "ReadAloud$Sheet" ({ cls := "ReadAloud$Sheet", name := "at", desc := "(I)I" } : Jvm.MethodName) ({ cls := "ReadAloud$Sheet", name := "at", desc := "(I)I" } : Jvm.MethodName) ∈ aWd := aWd_2 (List.mem_of_getElem? (i := 21) rfl) rfl
theorem wd_2_22 : Jvm.Cond.code ({ cls := "ReadAloud$Sheet", name := "at", desc := "(I)I" } : Jvm.MethodName) prog_8_method_4_code (2 : Nat) (Option.some Jvm.ClassFile.FieldType.int) ∈ aWd := aWd_2 (List.mem_of_getElem? (i := 22) rfl) rfl
theorem wd_2_23 : Jvm.Cond.methodLink "ReadAloud$Sheet" (19 : Nat) ({ cls := "ReadAloud$Sheet", name := "has", desc := "(I)Z" } : Jvm.MethodName) ∈ aWd := aWd_2 (List.mem_of_getElem? (i := 23) rfl) rfl
theorem wd_2_24 : Jvm.Cond.methodLink "ReadAloudLaw" (54 : Nat) ({ cls := "ReadAloud", name := "put", desc := "(II)I" } : Jvm.MethodName) ∈ aWd := aWd_2 (List.mem_of_getElem? (i := 24) rfl) rfl
theorem wd_2_25 : Jvm.Cond.instanceMethod ({ cls := "ReadAloud", name := "put", desc := "(II)I" } : Jvm.MethodName) ∈ aWd := aWd_2 (List.mem_of_getElem? (i := 25) rfl) rfl
theorem wd_2_26 : Jvm.Cond.selects "ReadAloud" ({ cls := "ReadAloud", name := "put", desc := "(II)I" } : Jvm.MethodName) ({ cls := "ReadAloud", name := "put", desc := "(II)I" } : Jvm.MethodName) ∈ aWd := aWd_2 (List.mem_of_getElem? (i := 26) rfl) rfl
theorem wd_2_27 : Jvm.Cond.code ({ cls := "ReadAloud", name := "put", desc := "(II)I" } : Jvm.MethodName) prog_1_method_8_code (4 : Nat) (Option.some Jvm.ClassFile.FieldType.int) ∈ aWd := aWd_2 (List.mem_of_getElem? (i := 27) rfl) rfl
theorem wd_2_28 : Jvm.Cond.methodLink "ReadAloud" (96 : Nat) ({ cls := "ReadAloud$Sheet", name := "set", desc := "(II)V" } : Jvm.MethodName) ∈ aWd := aWd_2 (List.mem_of_getElem? (i := 28) rfl) rfl
theorem wd_2_29 : Jvm.Cond.instanceMethod ({ cls := "ReadAloud$Sheet", name := "set", desc := "(II)V" } : Jvm.MethodName) ∈ aWd := aWd_2 (List.mem_of_getElem? (i := 29) rfl) rfl
theorem wd_2_30 : Jvm.Cond.selects "ReadAloud$Sheet" ({ cls := "ReadAloud$Sheet", name := "set", desc := "(II)V" } : Jvm.MethodName) ({ cls := "ReadAloud$Sheet", name := "set", desc := "(II)V" } : Jvm.MethodName) ∈ aWd := aWd_2 (List.mem_of_getElem? (i := 30) rfl) rfl
theorem wd_2_31 : Jvm.Cond.code ({ cls := "ReadAloud$Sheet", name := "set", desc := "(II)V" } : Jvm.MethodName) prog_8_method_5_code (3 : Nat) (Option.none : Option Jvm.ClassFile.FieldType) ∈ aWd := aWd_2 (List.mem_of_getElem? (i := 31) rfl) rfl
theorem wd_2_32 : Jvm.Cond.methodLink "ReadAloudLaw" (57 : Nat) ({ cls := "ReadAloud", name := "limit", desc := "(I)I" } : Jvm.MethodName) ∈ aWd := aWd_2 (List.mem_of_getElem? (i := 32) rfl) rfl
theorem wd_2_33 : Jvm.Cond.instanceMethod ({ cls := "ReadAloud", name := "limit", desc := "(I)I" } : Jvm.MethodName) ∈ aWd := aWd_2 (List.mem_of_getElem? (i := 33) rfl) rfl
theorem wd_2_34 : Jvm.Cond.selects "ReadAloud" ({ cls := "ReadAloud", name := "limit", desc := "(I)I" } : Jvm.MethodName) ({ cls := "ReadAloud", name := "limit", desc := "(I)I" } : Jvm.MethodName) ∈ aWd := aWd_2 (List.mem_of_getElem? (i := 34) rfl) rfl
theorem wd_2_35 : Jvm.Cond.code ({ cls := "ReadAloud", name := "limit", desc := "(I)I" } : Jvm.MethodName) prog_1_method_9_code (3 : Nat) (Option.some Jvm.ClassFile.FieldType.int) ∈ aWd := aWd_2 (List.mem_of_getElem? (i := 35) rfl) rfl
theorem wd_2_36 : Jvm.Cond.methodLink "ReadAloudLaw" (28 : Nat) ({ cls := "ReadAloud", name := "accuse", desc := "(II)I" } : Jvm.MethodName) ∈ aWd := aWd_2 (List.mem_of_getElem? (i := 36) rfl) rfl
theorem wd_2_37 : Jvm.Cond.instanceMethod ({ cls := "ReadAloud", name := "accuse", desc := "(II)I" } : Jvm.MethodName) ∈ aWd := aWd_2 (List.mem_of_getElem? (i := 37) rfl) rfl
theorem wd_2_38 : Jvm.Cond.selects "ReadAloud" ({ cls := "ReadAloud", name := "accuse", desc := "(II)I" } : Jvm.MethodName) ({ cls := "ReadAloud", name := "accuse", desc := "(II)I" } : Jvm.MethodName) ∈ aWd := aWd_2 (List.mem_of_getElem? (i := 38) rfl) rfl
theorem wd_2_39 : Jvm.Cond.code ({ cls := "ReadAloud", name := "accuse", desc := "(II)I" } : Jvm.MethodName) prog_1_method_10_code (4 : Nat) (Option.some Jvm.ClassFile.FieldType.int) ∈ aWd := aWd_2 (List.mem_of_getElem? (i := 39) rfl) rfl
theorem wd_2_40 : Jvm.Cond.methodLink "ReadAloud" (106 : Nat) ({ cls := "ReadAloud", name := "isKind", desc := "(I)Z" } : Jvm.MethodName) ∈ aWd := aWd_2 (List.mem_of_getElem? (i := 40) rfl) rfl
theorem wd_2_41 : Jvm.Cond.static ({ cls := "ReadAloud", name := "isKind", desc := "(I)Z" } : Jvm.MethodName) ∈ aWd := aWd_2 (List.mem_of_getElem? (i := 41) rfl) rfl
theorem wd_2_42 : Jvm.Cond.code ({ cls := "ReadAloud", name := "isKind", desc := "(I)Z" } : Jvm.MethodName) prog_1_method_27_code (1 : Nat) (Option.some Jvm.ClassFile.FieldType.boolean) ∈ aWd := aWd_2 (List.mem_of_getElem? (i := 42) rfl) rfl
theorem wd_2_43 : Jvm.Cond.methodLink "ReadAloud" (111 : Nat) ({ cls := "ReadAloud", name := "manOfKind", desc := "(II)LReadAloud$Man;" } : Jvm.MethodName) ∈ aWd := aWd_2 (List.mem_of_getElem? (i := 43) rfl) rfl
theorem wd_2_44 : Jvm.Cond.static ({ cls := "ReadAloud", name := "manOfKind", desc := "(II)LReadAloud$Man;" } : Jvm.MethodName) ∈ aWd := aWd_2 (List.mem_of_getElem? (i := 44) rfl) rfl
theorem wd_2_45 : Jvm.Cond.code ({ cls := "ReadAloud", name := "manOfKind", desc := "(II)LReadAloud$Man;" } : Jvm.MethodName) prog_1_method_31_code (2 : Nat) (Option.some (Jvm.ClassFile.FieldType.object "ReadAloud$Man")) ∈ aWd := aWd_2 (List.mem_of_getElem? (i := 45) rfl) rfl
theorem wd_2_46 : Jvm.Cond.classLink "ReadAloud" (226 : Nat) "ReadAloud$Stammerer" ∈ aWd := aWd_2 (List.mem_of_getElem? (i := 46) rfl) rfl
theorem wd_2_47 : Jvm.Cond.instantiable "ReadAloud$Stammerer" (1 : Nat) ∈ aWd := aWd_2 (List.mem_of_getElem? (i := 47) rfl) rfl
theorem wd_2_48 : Jvm.Cond.methodLink "ReadAloud" (228 : Nat) ({ cls := "ReadAloud$Stammerer", name := "<init>", desc := "(I)V" } : Jvm.MethodName) ∈ aWd := aWd_2 (List.mem_of_getElem? (i := 48) rfl) rfl
theorem wd_2_49 : Jvm.Cond.instanceMethod ({ cls := "ReadAloud$Stammerer", name := "<init>", desc := "(I)V" } : Jvm.MethodName) ∈ aWd := aWd_2 (List.mem_of_getElem? (i := 49) rfl) rfl
theorem wd_2_50 : Jvm.Cond.code ({ cls := "ReadAloud$Stammerer", name := "<init>", desc := "(I)V" } : Jvm.MethodName) prog_9_method_1_code (2 : Nat) (Option.none : Option Jvm.ClassFile.FieldType) ∈ aWd := aWd_2 (List.mem_of_getElem? (i := 50) rfl) rfl
theorem wd_2_51 : Jvm.Cond.methodLink "ReadAloud$Stammerer" (1 : Nat) ({ cls := "ReadAloud$Man", name := "<init>", desc := "(I)V" } : Jvm.MethodName) ∈ aWd := aWd_2 (List.mem_of_getElem? (i := 51) rfl) rfl
theorem wd_2_52 : Jvm.Cond.instanceMethod ({ cls := "ReadAloud$Man", name := "<init>", desc := "(I)V" } : Jvm.MethodName) ∈ aWd := aWd_2 (List.mem_of_getElem? (i := 52) rfl) rfl
theorem wd_2_53 : Jvm.Cond.code ({ cls := "ReadAloud$Man", name := "<init>", desc := "(I)V" } : Jvm.MethodName) prog_6_method_1_code (2 : Nat) (Option.none : Option Jvm.ClassFile.FieldType) ∈ aWd := aWd_2 (List.mem_of_getElem? (i := 53) rfl) rfl
theorem wd_2_54 : Jvm.Cond.methodLink "ReadAloud$Man" (1 : Nat) ({ cls := "java/lang/Object", name := "<init>", desc := "()V" } : Jvm.MethodName) ∈ aWd := aWd_2 (List.mem_of_getElem? (i := 54) rfl) rfl
theorem wd_2_55 : Jvm.Cond.fieldLink "ReadAloud$Man" (7 : Nat) "ReadAloud$Man" "deed" "I" ∈ aWd := aWd_2 (List.mem_of_getElem? (i := 55) rfl) rfl
theorem wd_2_56 : Jvm.Cond.laysFinal "ReadAloud$Stammerer" "ReadAloud$Man" "deed" "I" ∈ aWd := aWd_2 (List.mem_of_getElem? (i := 56) rfl) rfl
theorem wd_2_59 : Jvm.Cond.classLink "ReadAloud" (231 : Nat) "ReadAloud$Actor" ∈ aWd := aWd_2 (List.mem_of_getElem? (i := 59) rfl) rfl
theorem wd_2_60 : Jvm.Cond.instantiable "ReadAloud$Actor" (1 : Nat) ∈ aWd := aWd_2 (List.mem_of_getElem? (i := 60) rfl) rfl
theorem wd_2_61 : Jvm.Cond.methodLink "ReadAloud" (233 : Nat) ({ cls := "ReadAloud$Actor", name := "<init>", desc := "(I)V" } : Jvm.MethodName) ∈ aWd := aWd_2 (List.mem_of_getElem? (i := 61) rfl) rfl
theorem wd_2_62 : Jvm.Cond.instanceMethod ({ cls := "ReadAloud$Actor", name := "<init>", desc := "(I)V" } : Jvm.MethodName) ∈ aWd := aWd_2 (List.mem_of_getElem? (i := 62) rfl) rfl
theorem wd_2_63 : Jvm.Cond.code ({ cls := "ReadAloud$Actor", name := "<init>", desc := "(I)V" } : Jvm.MethodName) prog_2_method_1_code (2 : Nat) (Option.none : Option Jvm.ClassFile.FieldType) ∈ aWd := aWd_2 (List.mem_of_getElem? (i := 63) rfl) rfl
theorem wd_2_64 : Jvm.Cond.methodLink "ReadAloud$Actor" (1 : Nat) ({ cls := "ReadAloud$Man", name := "<init>", desc := "(I)V" } : Jvm.MethodName) ∈ aWd := aWd_2 (List.mem_of_getElem? (i := 64) rfl) rfl
theorem wd_2_65 : Jvm.Cond.laysFinal "ReadAloud$Actor" "ReadAloud$Man" "deed" "I" ∈ aWd := aWd_2 (List.mem_of_getElem? (i := 65) rfl) rfl
theorem wd_2_67 : Jvm.Cond.classLink "ReadAloud" (234 : Nat) "ReadAloud$Boy" ∈ aWd := aWd_2 (List.mem_of_getElem? (i := 67) rfl) rfl
theorem wd_2_68 : Jvm.Cond.instantiable "ReadAloud$Boy" (1 : Nat) ∈ aWd := aWd_2 (List.mem_of_getElem? (i := 68) rfl) rfl
theorem wd_2_69 : Jvm.Cond.methodLink "ReadAloud" (236 : Nat) ({ cls := "ReadAloud$Boy", name := "<init>", desc := "(I)V" } : Jvm.MethodName) ∈ aWd := aWd_2 (List.mem_of_getElem? (i := 69) rfl) rfl
theorem wd_2_70 : Jvm.Cond.instanceMethod ({ cls := "ReadAloud$Boy", name := "<init>", desc := "(I)V" } : Jvm.MethodName) ∈ aWd := aWd_2 (List.mem_of_getElem? (i := 70) rfl) rfl
theorem wd_2_71 : Jvm.Cond.code ({ cls := "ReadAloud$Boy", name := "<init>", desc := "(I)V" } : Jvm.MethodName) prog_3_method_1_code (2 : Nat) (Option.none : Option Jvm.ClassFile.FieldType) ∈ aWd := aWd_2 (List.mem_of_getElem? (i := 71) rfl) rfl
theorem wd_2_72 : Jvm.Cond.methodLink "ReadAloud$Boy" (1 : Nat) ({ cls := "ReadAloud$Man", name := "<init>", desc := "(I)V" } : Jvm.MethodName) ∈ aWd := aWd_2 (List.mem_of_getElem? (i := 72) rfl) rfl
theorem wd_2_73 : Jvm.Cond.laysFinal "ReadAloud$Boy" "ReadAloud$Man" "deed" "I" ∈ aWd := aWd_2 (List.mem_of_getElem? (i := 73) rfl) rfl
theorem wd_2_75 : Jvm.Cond.classLink "ReadAloud" (237 : Nat) "ReadAloud$Weeper" ∈ aWd := aWd_2 (List.mem_of_getElem? (i := 75) rfl) rfl
theorem wd_2_76 : Jvm.Cond.instantiable "ReadAloud$Weeper" (1 : Nat) ∈ aWd := aWd_2 (List.mem_of_getElem? (i := 76) rfl) rfl
theorem wd_2_77 : Jvm.Cond.methodLink "ReadAloud" (239 : Nat) ({ cls := "ReadAloud$Weeper", name := "<init>", desc := "(I)V" } : Jvm.MethodName) ∈ aWd := aWd_2 (List.mem_of_getElem? (i := 77) rfl) rfl
theorem wd_2_78 : Jvm.Cond.instanceMethod ({ cls := "ReadAloud$Weeper", name := "<init>", desc := "(I)V" } : Jvm.MethodName) ∈ aWd := aWd_2 (List.mem_of_getElem? (i := 78) rfl) rfl
theorem wd_2_79 : Jvm.Cond.code ({ cls := "ReadAloud$Weeper", name := "<init>", desc := "(I)V" } : Jvm.MethodName) prog_12_method_1_code (2 : Nat) (Option.none : Option Jvm.ClassFile.FieldType) ∈ aWd := aWd_2 (List.mem_of_getElem? (i := 79) rfl) rfl
theorem wd_2_80 : Jvm.Cond.methodLink "ReadAloud$Weeper" (1 : Nat) ({ cls := "ReadAloud$Stammerer", name := "<init>", desc := "(I)V" } : Jvm.MethodName) ∈ aWd := aWd_2 (List.mem_of_getElem? (i := 80) rfl) rfl
theorem wd_2_81 : Jvm.Cond.laysFinal "ReadAloud$Weeper" "ReadAloud$Man" "deed" "I" ∈ aWd := aWd_2 (List.mem_of_getElem? (i := 81) rfl) rfl
theorem wd_2_82 : Jvm.Cond.superclass "ReadAloud$Weeper" "ReadAloud$Stammerer" ∈ aWd := aWd_2 (List.mem_of_getElem? (i := 82) rfl) rfl
theorem wd_2_83 : Jvm.Cond.instantiable "ReadAloud$Man" (1 : Nat) ∈ aWd := aWd_2 (List.mem_of_getElem? (i := 83) rfl) rfl
theorem wd_2_84 : Jvm.Cond.methodLink "ReadAloud" (240 : Nat) ({ cls := "ReadAloud$Man", name := "<init>", desc := "(I)V" } : Jvm.MethodName) ∈ aWd := aWd_2 (List.mem_of_getElem? (i := 84) rfl) rfl
theorem wd_2_85 : Jvm.Cond.laysFinal "ReadAloud$Man" "ReadAloud$Man" "deed" "I" ∈ aWd := aWd_2 (List.mem_of_getElem? (i := 85) rfl) rfl
theorem wd_2_87 : Jvm.Cond.methodLink "ReadAloudLaw" (48 : Nat) ({ cls := "ReadAloud", name := "about", desc := "(II)I" } : Jvm.MethodName) ∈ aWd := aWd_2 (List.mem_of_getElem? (i := 87) rfl) rfl
theorem wd_2_88 : Jvm.Cond.instanceMethod ({ cls := "ReadAloud", name := "about", desc := "(II)I" } : Jvm.MethodName) ∈ aWd := aWd_2 (List.mem_of_getElem? (i := 88) rfl) rfl
theorem wd_2_89 : Jvm.Cond.selects "ReadAloud" ({ cls := "ReadAloud", name := "about", desc := "(II)I" } : Jvm.MethodName) ({ cls := "ReadAloud", name := "about", desc := "(II)I" } : Jvm.MethodName) ∈ aWd := aWd_2 (List.mem_of_getElem? (i := 89) rfl) rfl
theorem wd_2_90 : Jvm.Cond.code ({ cls := "ReadAloud", name := "about", desc := "(II)I" } : Jvm.MethodName) prog_1_method_11_code (4 : Nat) (Option.some Jvm.ClassFile.FieldType.int) ∈ aWd := aWd_2 (List.mem_of_getElem? (i := 90) rfl) rfl
theorem wd_2_91 : Jvm.Cond.methodLink "ReadAloud" (118 : Nat) ({ cls := "ReadAloud", name := "manOf", desc := "(I)LReadAloud$Man;" } : Jvm.MethodName) ∈ aWd := aWd_2 (List.mem_of_getElem? (i := 91) rfl) rfl
theorem wd_2_93 : Jvm.Cond.instanceMethod ({ cls := "ReadAloud", name := "manOf", desc := "(I)LReadAloud$Man;" } : Jvm.MethodName) ∈ aWd := aWd_2 (List.mem_of_getElem? (i := 93) rfl) rfl
theorem wd_2_94 : Jvm.Cond.code ({ cls := "ReadAloud", name := "manOf", desc := "(I)LReadAloud$Man;" } : Jvm.MethodName) prog_1_method_28_code (2 : Nat) (Option.some (Jvm.ClassFile.FieldType.object "ReadAloud$Man")) ∈ aWd := aWd_2 (List.mem_of_getElem? (i := 94) rfl) rfl
theorem wd_2_95 : Jvm.Cond.methodLink "ReadAloud" (156 : Nat) ({ cls := "ReadAloud", name := "isAccused", desc := "(I)Z" } : Jvm.MethodName) ∈ aWd := aWd_2 (List.mem_of_getElem? (i := 95) rfl) rfl
theorem wd_2_97 : Jvm.Cond.instanceMethod ({ cls := "ReadAloud", name := "isAccused", desc := "(I)Z" } : Jvm.MethodName) ∈ aWd := aWd_2 (List.mem_of_getElem? (i := 97) rfl) rfl
theorem wd_2_98 : Jvm.Cond.code ({ cls := "ReadAloud", name := "isAccused", desc := "(I)Z" } : Jvm.MethodName) prog_1_method_25_code (2 : Nat) (Option.some Jvm.ClassFile.FieldType.boolean) ∈ aWd := aWd_2 (List.mem_of_getElem? (i := 98) rfl) rfl
theorem wd_2_99 : Jvm.Cond.methodLink "ReadAloud" (122 : Nat) ({ cls := "ReadAloud$Man", name := "kind", desc := "()I" } : Jvm.MethodName) ∈ aWd := aWd_2 (List.mem_of_getElem? (i := 99) rfl) rfl
theorem wd_2_100 : Jvm.Cond.instanceMethod ({ cls := "ReadAloud$Man", name := "kind", desc := "()I" } : Jvm.MethodName) ∈ aWd := aWd_2 (List.mem_of_getElem? (i := 100) rfl) rfl
theorem wd_2_101 : Jvm.Cond.selects "ReadAloud$Man" ({ cls := "ReadAloud$Man", name := "kind", desc := "()I" } : Jvm.MethodName) ({ cls := "ReadAloud$Man", name := "kind", desc := "()I" } : Jvm.MethodName) ∈ aWd := aWd_2 (List.mem_of_getElem? (i := 101) rfl) rfl
theorem wd_2_102 : Jvm.Cond.sameMethod "ReadAloud$Man" "ReadAloud$Man" "kind" "()I" ∈ aWd := aWd_2 (List.mem_of_getElem? (i := 102) rfl) rfl
theorem wd_2_103 : Jvm.Cond.selects "ReadAloud$Actor" ({ cls := "ReadAloud$Man", name := "kind", desc := "()I" } : Jvm.MethodName) ({ cls := "ReadAloud$Actor", name := "kind", desc := "()I" } : Jvm.MethodName) ∈ aWd := aWd_2 (List.mem_of_getElem? (i := 103) rfl) rfl
theorem wd_2_104 : Jvm.Cond.instanceMethod ({ cls := "ReadAloud$Actor", name := "kind", desc := "()I" } : Jvm.MethodName) ∈ aWd := aWd_2 (List.mem_of_getElem? (i := 104) rfl) rfl
theorem wd_2_105 : Jvm.Cond.code ({ cls := "ReadAloud$Actor", name := "kind", desc := "()I" } : Jvm.MethodName) prog_2_method_2_code (1 : Nat) (Option.some Jvm.ClassFile.FieldType.int) ∈ aWd := aWd_2 (List.mem_of_getElem? (i := 105) rfl) rfl
theorem wd_2_106 : Jvm.Cond.selects "ReadAloud$Boy" ({ cls := "ReadAloud$Man", name := "kind", desc := "()I" } : Jvm.MethodName) ({ cls := "ReadAloud$Boy", name := "kind", desc := "()I" } : Jvm.MethodName) ∈ aWd := aWd_2 (List.mem_of_getElem? (i := 106) rfl) rfl
theorem wd_2_107 : Jvm.Cond.instanceMethod ({ cls := "ReadAloud$Boy", name := "kind", desc := "()I" } : Jvm.MethodName) ∈ aWd := aWd_2 (List.mem_of_getElem? (i := 107) rfl) rfl
theorem wd_2_108 : Jvm.Cond.code ({ cls := "ReadAloud$Boy", name := "kind", desc := "()I" } : Jvm.MethodName) prog_3_method_2_code (1 : Nat) (Option.some Jvm.ClassFile.FieldType.int) ∈ aWd := aWd_2 (List.mem_of_getElem? (i := 108) rfl) rfl
theorem wd_2_109 : Jvm.Cond.selects "ReadAloud$Stammerer" ({ cls := "ReadAloud$Man", name := "kind", desc := "()I" } : Jvm.MethodName) ({ cls := "ReadAloud$Stammerer", name := "kind", desc := "()I" } : Jvm.MethodName) ∈ aWd := aWd_2 (List.mem_of_getElem? (i := 109) rfl) rfl
theorem wd_2_110 : Jvm.Cond.instanceMethod ({ cls := "ReadAloud$Stammerer", name := "kind", desc := "()I" } : Jvm.MethodName) ∈ aWd := aWd_2 (List.mem_of_getElem? (i := 110) rfl) rfl
theorem wd_2_111 : Jvm.Cond.code ({ cls := "ReadAloud$Stammerer", name := "kind", desc := "()I" } : Jvm.MethodName) prog_9_method_2_code (1 : Nat) (Option.some Jvm.ClassFile.FieldType.int) ∈ aWd := aWd_2 (List.mem_of_getElem? (i := 111) rfl) rfl
theorem wd_2_112 : Jvm.Cond.selects "ReadAloud$Weeper" ({ cls := "ReadAloud$Man", name := "kind", desc := "()I" } : Jvm.MethodName) ({ cls := "ReadAloud$Weeper", name := "kind", desc := "()I" } : Jvm.MethodName) ∈ aWd := aWd_2 (List.mem_of_getElem? (i := 112) rfl) rfl
theorem wd_2_113 : Jvm.Cond.instanceMethod ({ cls := "ReadAloud$Weeper", name := "kind", desc := "()I" } : Jvm.MethodName) ∈ aWd := aWd_2 (List.mem_of_getElem? (i := 113) rfl) rfl
theorem wd_2_114 : Jvm.Cond.code ({ cls := "ReadAloud$Weeper", name := "kind", desc := "()I" } : Jvm.MethodName) prog_12_method_2_code (1 : Nat) (Option.some Jvm.ClassFile.FieldType.int) ∈ aWd := aWd_2 (List.mem_of_getElem? (i := 114) rfl) rfl
theorem wd_2_115 : Jvm.Cond.code ({ cls := "ReadAloud$Man", name := "kind", desc := "()I" } : Jvm.MethodName) prog_6_method_3_code (1 : Nat) (Option.some Jvm.ClassFile.FieldType.int) ∈ aWd := aWd_2 (List.mem_of_getElem? (i := 115) rfl) rfl
theorem wd_2_116 : Jvm.Cond.methodLink "ReadAloud" (125 : Nat) ({ cls := "ReadAloud$Man", name := "deed", desc := "()I" } : Jvm.MethodName) ∈ aWd := aWd_2 (List.mem_of_getElem? (i := 116) rfl) rfl
theorem wd_2_117 : Jvm.Cond.instanceMethod ({ cls := "ReadAloud$Man", name := "deed", desc := "()I" } : Jvm.MethodName) ∈ aWd := aWd_2 (List.mem_of_getElem? (i := 117) rfl) rfl
theorem wd_2_118 : Jvm.Cond.selects "ReadAloud$Man" ({ cls := "ReadAloud$Man", name := "deed", desc := "()I" } : Jvm.MethodName) ({ cls := "ReadAloud$Man", name := "deed", desc := "()I" } : Jvm.MethodName) ∈ aWd := aWd_2 (List.mem_of_getElem? (i := 118) rfl) rfl
theorem wd_2_119 : Jvm.Cond.sameMethod "ReadAloud$Man" "ReadAloud$Man" "deed" "()I" ∈ aWd := aWd_2 (List.mem_of_getElem? (i := 119) rfl) rfl
theorem wd_2_120 : Jvm.Cond.selects "ReadAloud$Actor" ({ cls := "ReadAloud$Man", name := "deed", desc := "()I" } : Jvm.MethodName) ({ cls := "ReadAloud$Man", name := "deed", desc := "()I" } : Jvm.MethodName) ∈ aWd := aWd_2 (List.mem_of_getElem? (i := 120) rfl) rfl
theorem wd_2_121 : Jvm.Cond.selects "ReadAloud$Boy" ({ cls := "ReadAloud$Man", name := "deed", desc := "()I" } : Jvm.MethodName) ({ cls := "ReadAloud$Man", name := "deed", desc := "()I" } : Jvm.MethodName) ∈ aWd := aWd_2 (List.mem_of_getElem? (i := 121) rfl) rfl
theorem wd_2_122 : Jvm.Cond.selects "ReadAloud$Stammerer" ({ cls := "ReadAloud$Man", name := "deed", desc := "()I" } : Jvm.MethodName) ({ cls := "ReadAloud$Man", name := "deed", desc := "()I" } : Jvm.MethodName) ∈ aWd := aWd_2 (List.mem_of_getElem? (i := 122) rfl) rfl
theorem wd_2_123 : Jvm.Cond.selects "ReadAloud$Weeper" ({ cls := "ReadAloud$Man", name := "deed", desc := "()I" } : Jvm.MethodName) ({ cls := "ReadAloud$Man", name := "deed", desc := "()I" } : Jvm.MethodName) ∈ aWd := aWd_2 (List.mem_of_getElem? (i := 123) rfl) rfl
theorem wd_2_124 : Jvm.Cond.code ({ cls := "ReadAloud$Man", name := "deed", desc := "()I" } : Jvm.MethodName) prog_6_method_2_code (1 : Nat) (Option.some Jvm.ClassFile.FieldType.int) ∈ aWd := aWd_2 (List.mem_of_getElem? (i := 124) rfl) rfl
theorem wd_2_125 : Jvm.Cond.methodLink "ReadAloud" (128 : Nat) ({ cls := "ReadAloud", name := "alteredBy", desc := "(ILReadAloud$Sheet;)I" } : Jvm.MethodName) ∈ aWd := aWd_2 (List.mem_of_getElem? (i := 125) rfl) rfl
theorem wd_2_127 : Jvm.Cond.instanceMethod ({ cls := "ReadAloud", name := "alteredBy", desc := "(ILReadAloud$Sheet;)I" } : Jvm.MethodName) ∈ aWd := aWd_2 (List.mem_of_getElem? (i := 127) rfl) rfl
theorem wd_2_128 : Jvm.Cond.code ({ cls := "ReadAloud", name := "alteredBy", desc := "(ILReadAloud$Sheet;)I" } : Jvm.MethodName) prog_1_method_35_code (3 : Nat) (Option.some Jvm.ClassFile.FieldType.int) ∈ aWd := aWd_2 (List.mem_of_getElem? (i := 128) rfl) rfl
theorem wd_2_129 : Jvm.Cond.methodLink "ReadAloud" (168 : Nat) ({ cls := "ReadAloud", name := "deedOf", desc := "(I)I" } : Jvm.MethodName) ∈ aWd := aWd_2 (List.mem_of_getElem? (i := 129) rfl) rfl
theorem wd_2_131 : Jvm.Cond.instanceMethod ({ cls := "ReadAloud", name := "deedOf", desc := "(I)I" } : Jvm.MethodName) ∈ aWd := aWd_2 (List.mem_of_getElem? (i := 131) rfl) rfl
theorem wd_2_132 : Jvm.Cond.code ({ cls := "ReadAloud", name := "deedOf", desc := "(I)I" } : Jvm.MethodName) prog_1_method_29_code (3 : Nat) (Option.some Jvm.ClassFile.FieldType.int) ∈ aWd := aWd_2 (List.mem_of_getElem? (i := 132) rfl) rfl
theorem wd_2_133 : Jvm.Cond.methodLink "ReadAloud" (137 : Nat) ({ cls := "ReadAloud", name := "hiddenBy", desc := "(I)I" } : Jvm.MethodName) ∈ aWd := aWd_2 (List.mem_of_getElem? (i := 133) rfl) rfl
theorem wd_2_135 : Jvm.Cond.instanceMethod ({ cls := "ReadAloud", name := "hiddenBy", desc := "(I)I" } : Jvm.MethodName) ∈ aWd := aWd_2 (List.mem_of_getElem? (i := 135) rfl) rfl
theorem wd_2_136 : Jvm.Cond.code ({ cls := "ReadAloud", name := "hiddenBy", desc := "(I)I" } : Jvm.MethodName) prog_1_method_30_code (2 : Nat) (Option.some Jvm.ClassFile.FieldType.int) ∈ aWd := aWd_2 (List.mem_of_getElem? (i := 136) rfl) rfl
theorem wd_2_137 : Jvm.Cond.methodLink "ReadAloud" (171 : Nat) ({ cls := "ReadAloud", name := "wouldAlter", desc := "(ILReadAloud$Sheet;II)I" } : Jvm.MethodName) ∈ aWd := aWd_2 (List.mem_of_getElem? (i := 137) rfl) rfl
theorem wd_2_139 : Jvm.Cond.instanceMethod ({ cls := "ReadAloud", name := "wouldAlter", desc := "(ILReadAloud$Sheet;II)I" } : Jvm.MethodName) ∈ aWd := aWd_2 (List.mem_of_getElem? (i := 139) rfl) rfl
theorem wd_2_140 : Jvm.Cond.code ({ cls := "ReadAloud", name := "wouldAlter", desc := "(ILReadAloud$Sheet;II)I" } : Jvm.MethodName) prog_1_method_34_code (7 : Nat) (Option.some Jvm.ClassFile.FieldType.int) ∈ aWd := aWd_2 (List.mem_of_getElem? (i := 140) rfl) rfl
theorem wd_2_141 : Jvm.Cond.methodLink "ReadAloud" (246 : Nat) ({ cls := "ReadAloud$Man", name := "placesByDeed", desc := "(LReadAloud$Sheet;I)I" } : Jvm.MethodName) ∈ aWd := aWd_2 (List.mem_of_getElem? (i := 141) rfl) rfl
theorem wd_2_142 : Jvm.Cond.instanceMethod ({ cls := "ReadAloud$Man", name := "placesByDeed", desc := "(LReadAloud$Sheet;I)I" } : Jvm.MethodName) ∈ aWd := aWd_2 (List.mem_of_getElem? (i := 142) rfl) rfl
theorem wd_2_143 : Jvm.Cond.selects "ReadAloud$Man" ({ cls := "ReadAloud$Man", name := "placesByDeed", desc := "(LReadAloud$Sheet;I)I" } : Jvm.MethodName) ({ cls := "ReadAloud$Man", name := "placesByDeed", desc := "(LReadAloud$Sheet;I)I" } : Jvm.MethodName) ∈ aWd := aWd_2 (List.mem_of_getElem? (i := 143) rfl) rfl
theorem wd_2_144 : Jvm.Cond.sameMethod "ReadAloud$Man" "ReadAloud$Man" "placesByDeed" "(LReadAloud$Sheet;I)I" ∈ aWd := aWd_2 (List.mem_of_getElem? (i := 144) rfl) rfl
theorem wd_2_145 : Jvm.Cond.selects "ReadAloud$Actor" ({ cls := "ReadAloud$Man", name := "placesByDeed", desc := "(LReadAloud$Sheet;I)I" } : Jvm.MethodName) ({ cls := "ReadAloud$Actor", name := "placesByDeed", desc := "(LReadAloud$Sheet;I)I" } : Jvm.MethodName) ∈ aWd := aWd_2 (List.mem_of_getElem? (i := 145) rfl) rfl
theorem wd_2_146 : Jvm.Cond.instanceMethod ({ cls := "ReadAloud$Actor", name := "placesByDeed", desc := "(LReadAloud$Sheet;I)I" } : Jvm.MethodName) ∈ aWd := aWd_2 (List.mem_of_getElem? (i := 146) rfl) rfl
theorem wd_2_147 : Jvm.Cond.code ({ cls := "ReadAloud$Actor", name := "placesByDeed", desc := "(LReadAloud$Sheet;I)I" } : Jvm.MethodName) prog_2_method_3_code (3 : Nat) (Option.some Jvm.ClassFile.FieldType.int) ∈ aWd := aWd_2 (List.mem_of_getElem? (i := 147) rfl) rfl
theorem wd_2_148 : Jvm.Cond.methodLink "ReadAloud$Actor" (7 : Nat) ({ cls := "ReadAloud$Sheet", name := "firstPlacesOf", desc := "(I)I" } : Jvm.MethodName) ∈ aWd := aWd_2 (List.mem_of_getElem? (i := 148) rfl) rfl
theorem wd_2_149 : Jvm.Cond.instanceMethod ({ cls := "ReadAloud$Sheet", name := "firstPlacesOf", desc := "(I)I" } : Jvm.MethodName) ∈ aWd := aWd_2 (List.mem_of_getElem? (i := 149) rfl) rfl
theorem wd_2_150 : Jvm.Cond.selects "ReadAloud$Sheet" ({ cls := "ReadAloud$Sheet", name := "firstPlacesOf", desc := "(I)I" } : Jvm.MethodName) ({ cls := "ReadAloud$Sheet", name := "firstPlacesOf", desc := "(I)I" } : Jvm.MethodName) ∈ aWd := aWd_2 (List.mem_of_getElem? (i := 150) rfl) rfl
theorem wd_2_151 : Jvm.Cond.code ({ cls := "ReadAloud$Sheet", name := "firstPlacesOf", desc := "(I)I" } : Jvm.MethodName) prog_8_method_10_code (5 : Nat) (Option.some Jvm.ClassFile.FieldType.int) ∈ aWd := aWd_2 (List.mem_of_getElem? (i := 151) rfl) rfl
theorem wd_2_152 : Jvm.Cond.selects "ReadAloud$Boy" ({ cls := "ReadAloud$Man", name := "placesByDeed", desc := "(LReadAloud$Sheet;I)I" } : Jvm.MethodName) ({ cls := "ReadAloud$Boy", name := "placesByDeed", desc := "(LReadAloud$Sheet;I)I" } : Jvm.MethodName) ∈ aWd := aWd_2 (List.mem_of_getElem? (i := 152) rfl) rfl
theorem wd_2_153 : Jvm.Cond.instanceMethod ({ cls := "ReadAloud$Boy", name := "placesByDeed", desc := "(LReadAloud$Sheet;I)I" } : Jvm.MethodName) ∈ aWd := aWd_2 (List.mem_of_getElem? (i := 153) rfl) rfl
theorem wd_2_154 : Jvm.Cond.code ({ cls := "ReadAloud$Boy", name := "placesByDeed", desc := "(LReadAloud$Sheet;I)I" } : Jvm.MethodName) prog_3_method_3_code (3 : Nat) (Option.some Jvm.ClassFile.FieldType.int) ∈ aWd := aWd_2 (List.mem_of_getElem? (i := 154) rfl) rfl
theorem wd_2_155 : Jvm.Cond.methodLink "ReadAloud$Boy" (7 : Nat) ({ cls := "ReadAloud$Sheet", name := "placesOf", desc := "(I)I" } : Jvm.MethodName) ∈ aWd := aWd_2 (List.mem_of_getElem? (i := 155) rfl) rfl
theorem wd_2_156 : Jvm.Cond.instanceMethod ({ cls := "ReadAloud$Sheet", name := "placesOf", desc := "(I)I" } : Jvm.MethodName) ∈ aWd := aWd_2 (List.mem_of_getElem? (i := 156) rfl) rfl
theorem wd_2_157 : Jvm.Cond.selects "ReadAloud$Sheet" ({ cls := "ReadAloud$Sheet", name := "placesOf", desc := "(I)I" } : Jvm.MethodName) ({ cls := "ReadAloud$Sheet", name := "placesOf", desc := "(I)I" } : Jvm.MethodName) ∈ aWd := aWd_2 (List.mem_of_getElem? (i := 157) rfl) rfl
theorem wd_2_158 : Jvm.Cond.code ({ cls := "ReadAloud$Sheet", name := "placesOf", desc := "(I)I" } : Jvm.MethodName) prog_8_method_9_code (4 : Nat) (Option.some Jvm.ClassFile.FieldType.int) ∈ aWd := aWd_2 (List.mem_of_getElem? (i := 158) rfl) rfl
theorem wd_2_159 : Jvm.Cond.methodLink "ReadAloud$Boy" (13 : Nat) ({ cls := "ReadAloud$Sheet", name := "placesBehind", desc := "(I)I" } : Jvm.MethodName) ∈ aWd := aWd_2 (List.mem_of_getElem? (i := 159) rfl) rfl
theorem wd_2_160 : Jvm.Cond.instanceMethod ({ cls := "ReadAloud$Sheet", name := "placesBehind", desc := "(I)I" } : Jvm.MethodName) ∈ aWd := aWd_2 (List.mem_of_getElem? (i := 160) rfl) rfl
theorem wd_2_161 : Jvm.Cond.selects "ReadAloud$Sheet" ({ cls := "ReadAloud$Sheet", name := "placesBehind", desc := "(I)I" } : Jvm.MethodName) ({ cls := "ReadAloud$Sheet", name := "placesBehind", desc := "(I)I" } : Jvm.MethodName) ∈ aWd := aWd_2 (List.mem_of_getElem? (i := 161) rfl) rfl
theorem wd_2_162 : Jvm.Cond.code ({ cls := "ReadAloud$Sheet", name := "placesBehind", desc := "(I)I" } : Jvm.MethodName) prog_8_method_11_code (2 : Nat) (Option.some Jvm.ClassFile.FieldType.int) ∈ aWd := aWd_2 (List.mem_of_getElem? (i := 162) rfl) rfl
theorem wd_2_163 : Jvm.Cond.selects "ReadAloud$Stammerer" ({ cls := "ReadAloud$Man", name := "placesByDeed", desc := "(LReadAloud$Sheet;I)I" } : Jvm.MethodName) ({ cls := "ReadAloud$Man", name := "placesByDeed", desc := "(LReadAloud$Sheet;I)I" } : Jvm.MethodName) ∈ aWd := aWd_2 (List.mem_of_getElem? (i := 163) rfl) rfl
theorem wd_2_164 : Jvm.Cond.selects "ReadAloud$Weeper" ({ cls := "ReadAloud$Man", name := "placesByDeed", desc := "(LReadAloud$Sheet;I)I" } : Jvm.MethodName) ({ cls := "ReadAloud$Man", name := "placesByDeed", desc := "(LReadAloud$Sheet;I)I" } : Jvm.MethodName) ∈ aWd := aWd_2 (List.mem_of_getElem? (i := 164) rfl) rfl
theorem wd_2_165 : Jvm.Cond.code ({ cls := "ReadAloud$Man", name := "placesByDeed", desc := "(LReadAloud$Sheet;I)I" } : Jvm.MethodName) prog_6_method_4_code (3 : Nat) (Option.some Jvm.ClassFile.FieldType.int) ∈ aWd := aWd_2 (List.mem_of_getElem? (i := 165) rfl) rfl
theorem wd_2_166 : Jvm.Cond.methodLink "ReadAloud$Man" (13 : Nat) ({ cls := "ReadAloud$Sheet", name := "placesOf", desc := "(I)I" } : Jvm.MethodName) ∈ aWd := aWd_2 (List.mem_of_getElem? (i := 166) rfl) rfl
theorem wd_2_167 : Jvm.Cond.methodLink "ReadAloud" (250 : Nat) ({ cls := "ReadAloud$Man", name := "placesAnyhow", desc := "(LReadAloud$Sheet;)I" } : Jvm.MethodName) ∈ aWd := aWd_2 (List.mem_of_getElem? (i := 167) rfl) rfl
theorem wd_2_168 : Jvm.Cond.instanceMethod ({ cls := "ReadAloud$Man", name := "placesAnyhow", desc := "(LReadAloud$Sheet;)I" } : Jvm.MethodName) ∈ aWd := aWd_2 (List.mem_of_getElem? (i := 168) rfl) rfl
theorem wd_2_169 : Jvm.Cond.selects "ReadAloud$Man" ({ cls := "ReadAloud$Man", name := "placesAnyhow", desc := "(LReadAloud$Sheet;)I" } : Jvm.MethodName) ({ cls := "ReadAloud$Man", name := "placesAnyhow", desc := "(LReadAloud$Sheet;)I" } : Jvm.MethodName) ∈ aWd := aWd_2 (List.mem_of_getElem? (i := 169) rfl) rfl
theorem wd_2_170 : Jvm.Cond.sameMethod "ReadAloud$Man" "ReadAloud$Man" "placesAnyhow" "(LReadAloud$Sheet;)I" ∈ aWd := aWd_2 (List.mem_of_getElem? (i := 170) rfl) rfl
theorem wd_2_171 : Jvm.Cond.selects "ReadAloud$Actor" ({ cls := "ReadAloud$Man", name := "placesAnyhow", desc := "(LReadAloud$Sheet;)I" } : Jvm.MethodName) ({ cls := "ReadAloud$Man", name := "placesAnyhow", desc := "(LReadAloud$Sheet;)I" } : Jvm.MethodName) ∈ aWd := aWd_2 (List.mem_of_getElem? (i := 171) rfl) rfl
theorem wd_2_172 : Jvm.Cond.selects "ReadAloud$Boy" ({ cls := "ReadAloud$Man", name := "placesAnyhow", desc := "(LReadAloud$Sheet;)I" } : Jvm.MethodName) ({ cls := "ReadAloud$Man", name := "placesAnyhow", desc := "(LReadAloud$Sheet;)I" } : Jvm.MethodName) ∈ aWd := aWd_2 (List.mem_of_getElem? (i := 172) rfl) rfl
theorem wd_2_173 : Jvm.Cond.selects "ReadAloud$Stammerer" ({ cls := "ReadAloud$Man", name := "placesAnyhow", desc := "(LReadAloud$Sheet;)I" } : Jvm.MethodName) ({ cls := "ReadAloud$Stammerer", name := "placesAnyhow", desc := "(LReadAloud$Sheet;)I" } : Jvm.MethodName) ∈ aWd := aWd_2 (List.mem_of_getElem? (i := 173) rfl) rfl
theorem wd_2_174 : Jvm.Cond.instanceMethod ({ cls := "ReadAloud$Stammerer", name := "placesAnyhow", desc := "(LReadAloud$Sheet;)I" } : Jvm.MethodName) ∈ aWd := aWd_2 (List.mem_of_getElem? (i := 174) rfl) rfl
theorem wd_2_175 : Jvm.Cond.code ({ cls := "ReadAloud$Stammerer", name := "placesAnyhow", desc := "(LReadAloud$Sheet;)I" } : Jvm.MethodName) prog_9_method_3_code (2 : Nat) (Option.some Jvm.ClassFile.FieldType.int) ∈ aWd := aWd_2 (List.mem_of_getElem? (i := 175) rfl) rfl
theorem wd_2_176 : Jvm.Cond.selects "ReadAloud$Weeper" ({ cls := "ReadAloud$Man", name := "placesAnyhow", desc := "(LReadAloud$Sheet;)I" } : Jvm.MethodName) ({ cls := "ReadAloud$Weeper", name := "placesAnyhow", desc := "(LReadAloud$Sheet;)I" } : Jvm.MethodName) ∈ aWd := aWd_2 (List.mem_of_getElem? (i := 176) rfl) rfl
theorem wd_2_177 : Jvm.Cond.instanceMethod ({ cls := "ReadAloud$Weeper", name := "placesAnyhow", desc := "(LReadAloud$Sheet;)I" } : Jvm.MethodName) ∈ aWd := aWd_2 (List.mem_of_getElem? (i := 177) rfl) rfl
theorem wd_2_178 : Jvm.Cond.code ({ cls := "ReadAloud$Weeper", name := "placesAnyhow", desc := "(LReadAloud$Sheet;)I" } : Jvm.MethodName) prog_12_method_3_code (2 : Nat) (Option.some Jvm.ClassFile.FieldType.int) ∈ aWd := aWd_2 (List.mem_of_getElem? (i := 178) rfl) rfl
theorem wd_2_179 : Jvm.Cond.methodLink "ReadAloud$Weeper" (7 : Nat) ({ cls := "ReadAloud$Stammerer", name := "placesAnyhow", desc := "(LReadAloud$Sheet;)I" } : Jvm.MethodName) ∈ aWd := aWd_2 (List.mem_of_getElem? (i := 179) rfl) rfl
theorem wd_2_180 : Jvm.Cond.methodLink "ReadAloud$Weeper" (13 : Nat) ({ cls := "ReadAloud$Sheet", name := "placesOf", desc := "(I)I" } : Jvm.MethodName) ∈ aWd := aWd_2 (List.mem_of_getElem? (i := 180) rfl) rfl
theorem wd_2_181 : Jvm.Cond.code ({ cls := "ReadAloud$Man", name := "placesAnyhow", desc := "(LReadAloud$Sheet;)I" } : Jvm.MethodName) prog_6_method_5_code (2 : Nat) (Option.some Jvm.ClassFile.FieldType.int) ∈ aWd := aWd_2 (List.mem_of_getElem? (i := 181) rfl) rfl
theorem wd_2_182 : Jvm.Cond.methodLink "ReadAloud" (179 : Nat) ({ cls := "ReadAloud$Sheet", name := "placesOf", desc := "(I)I" } : Jvm.MethodName) ∈ aWd := aWd_2 (List.mem_of_getElem? (i := 182) rfl) rfl
theorem wd_2_183 : Jvm.Cond.methodLink "ReadAloud" (132 : Nat) ({ cls := "java/lang/Integer", name := "bitCount", desc := "(I)I" } : Jvm.MethodName) ∈ aWd := aWd_2 (List.mem_of_getElem? (i := 183) rfl) rfl
theorem wd_2_184 : Jvm.Cond.static ({ cls := "java/lang/Integer", name := "bitCount", desc := "(I)I" } : Jvm.MethodName) ∈ aWd := aWd_2 (List.mem_of_getElem? (i := 184) rfl) rfl
theorem wd_2_185 : Jvm.Cond.code ({ cls := "java/lang/Integer", name := "bitCount", desc := "(I)I" } : Jvm.MethodName) prog_15_method_49_code (1 : Nat) (Option.some Jvm.ClassFile.FieldType.int) ∈ aWd := aWd_2 (List.mem_of_getElem? (i := 185) rfl) rfl
theorem wd_2_186 : Jvm.Cond.constant "java/lang/Integer" (265 : Nat) (1431655765 : Int32) ∈ aWd := aWd_2 (List.mem_of_getElem? (i := 186) rfl) rfl
theorem wd_2_187 : Jvm.Cond.constant "java/lang/Integer" (266 : Nat) (858993459 : Int32) ∈ aWd := aWd_2 (List.mem_of_getElem? (i := 187) rfl) rfl
theorem wd_2_188 : Jvm.Cond.constant "java/lang/Integer" (267 : Nat) (252645135 : Int32) ∈ aWd := aWd_2 (List.mem_of_getElem? (i := 188) rfl) rfl
theorem wd_2_189 : Jvm.Cond.methodLink "ReadAloud" (144 : Nat) ({ cls := "ReadAloud$Heard", name := "deedsLeft", desc := "(I)I" } : Jvm.MethodName) ∈ aWd := aWd_2 (List.mem_of_getElem? (i := 189) rfl) rfl
theorem wd_2_190 : Jvm.Cond.instanceMethod ({ cls := "ReadAloud$Heard", name := "deedsLeft", desc := "(I)I" } : Jvm.MethodName) ∈ aWd := aWd_2 (List.mem_of_getElem? (i := 190) rfl) rfl
theorem wd_2_191 : Jvm.Cond.selects "ReadAloud$Heard" ({ cls := "ReadAloud$Heard", name := "deedsLeft", desc := "(I)I" } : Jvm.MethodName) ({ cls := "ReadAloud$Heard", name := "deedsLeft", desc := "(I)I" } : Jvm.MethodName) ∈ aWd := aWd_2 (List.mem_of_getElem? (i := 191) rfl) rfl
theorem wd_2_192 : Jvm.Cond.code ({ cls := "ReadAloud$Heard", name := "deedsLeft", desc := "(I)I" } : Jvm.MethodName) prog_5_method_6_code (4 : Nat) (Option.some Jvm.ClassFile.FieldType.int) ∈ aWd := aWd_2 (List.mem_of_getElem? (i := 192) rfl) rfl
theorem wd_2_193 : Jvm.Cond.methodLink "ReadAloud" (149 : Nat) ({ cls := "ReadAloud", name := "placeToListen", desc := "(I)I" } : Jvm.MethodName) ∈ aWd := aWd_2 (List.mem_of_getElem? (i := 193) rfl) rfl
theorem wd_2_195 : Jvm.Cond.instanceMethod ({ cls := "ReadAloud", name := "placeToListen", desc := "(I)I" } : Jvm.MethodName) ∈ aWd := aWd_2 (List.mem_of_getElem? (i := 195) rfl) rfl
theorem wd_2_196 : Jvm.Cond.code ({ cls := "ReadAloud", name := "placeToListen", desc := "(I)I" } : Jvm.MethodName) prog_1_method_39_code (8 : Nat) (Option.some Jvm.ClassFile.FieldType.int) ∈ aWd := aWd_2 (List.mem_of_getElem? (i := 196) rfl) rfl
theorem wd_2_197 : Jvm.Cond.methodLink "ReadAloud" (182 : Nat) ({ cls := "ReadAloud", name := "deedsAltering", desc := "(II)I" } : Jvm.MethodName) ∈ aWd := aWd_2 (List.mem_of_getElem? (i := 197) rfl) rfl
theorem wd_2_199 : Jvm.Cond.instanceMethod ({ cls := "ReadAloud", name := "deedsAltering", desc := "(II)I" } : Jvm.MethodName) ∈ aWd := aWd_2 (List.mem_of_getElem? (i := 199) rfl) rfl
theorem wd_2_200 : Jvm.Cond.code ({ cls := "ReadAloud", name := "deedsAltering", desc := "(II)I" } : Jvm.MethodName) prog_1_method_38_code (6 : Nat) (Option.some Jvm.ClassFile.FieldType.int) ∈ aWd := aWd_2 (List.mem_of_getElem? (i := 200) rfl) rfl
theorem wd_2_201 : Jvm.Cond.methodLink "ReadAloud" (253 : Nat) ({ cls := "java/lang/Math", name := "max", desc := "(II)I" } : Jvm.MethodName) ∈ aWd := aWd_2 (List.mem_of_getElem? (i := 201) rfl) rfl
theorem wd_2_204 : Jvm.Cond.methodLink "ReadAloudLaw" (98 : Nat) ({ cls := "ReadAloud", name := "as", desc := "(II)I" } : Jvm.MethodName) ∈ aWd := aWd_2 (List.mem_of_getElem? (i := 204) rfl) rfl
theorem wd_2_205 : Jvm.Cond.instanceMethod ({ cls := "ReadAloud", name := "as", desc := "(II)I" } : Jvm.MethodName) ∈ aWd := aWd_2 (List.mem_of_getElem? (i := 205) rfl) rfl
theorem wd_2_206 : Jvm.Cond.selects "ReadAloud" ({ cls := "ReadAloud", name := "as", desc := "(II)I" } : Jvm.MethodName) ({ cls := "ReadAloud", name := "as", desc := "(II)I" } : Jvm.MethodName) ∈ aWd := aWd_2 (List.mem_of_getElem? (i := 206) rfl) rfl
theorem wd_2_207 : Jvm.Cond.code ({ cls := "ReadAloud", name := "as", desc := "(II)I" } : Jvm.MethodName) prog_1_method_12_code (4 : Nat) (Option.some Jvm.ClassFile.FieldType.int) ∈ aWd := aWd_2 (List.mem_of_getElem? (i := 207) rfl) rfl
theorem wd_2_208 : Jvm.Cond.methodLink "ReadAloud" (152 : Nat) ({ cls := "ReadAloud", name := "isOfKind", desc := "(LReadAloud$Man;I)Z" } : Jvm.MethodName) ∈ aWd := aWd_2 (List.mem_of_getElem? (i := 208) rfl) rfl
theorem wd_2_209 : Jvm.Cond.static ({ cls := "ReadAloud", name := "isOfKind", desc := "(LReadAloud$Man;I)Z" } : Jvm.MethodName) ∈ aWd := aWd_2 (List.mem_of_getElem? (i := 209) rfl) rfl
theorem wd_2_210 : Jvm.Cond.code ({ cls := "ReadAloud", name := "isOfKind", desc := "(LReadAloud$Man;I)Z" } : Jvm.MethodName) prog_1_method_32_code (2 : Nat) (Option.some Jvm.ClassFile.FieldType.boolean) ∈ aWd := aWd_2 (List.mem_of_getElem? (i := 210) rfl) rfl
theorem wd_2_211 : Jvm.Cond.methodLink "ReadAloudLaw" (64 : Nat) ({ cls := "ReadAloud", name := "lesson", desc := "(II)I" } : Jvm.MethodName) ∈ aWd := aWd_2 (List.mem_of_getElem? (i := 211) rfl) rfl
theorem wd_2_212 : Jvm.Cond.instanceMethod ({ cls := "ReadAloud", name := "lesson", desc := "(II)I" } : Jvm.MethodName) ∈ aWd := aWd_2 (List.mem_of_getElem? (i := 212) rfl) rfl
theorem wd_2_213 : Jvm.Cond.selects "ReadAloud" ({ cls := "ReadAloud", name := "lesson", desc := "(II)I" } : Jvm.MethodName) ({ cls := "ReadAloud", name := "lesson", desc := "(II)I" } : Jvm.MethodName) ∈ aWd := aWd_2 (List.mem_of_getElem? (i := 213) rfl) rfl
theorem wd_2_214 : Jvm.Cond.code ({ cls := "ReadAloud", name := "lesson", desc := "(II)I" } : Jvm.MethodName) prog_1_method_13_code (4 : Nat) (Option.some Jvm.ClassFile.FieldType.int) ∈ aWd := aWd_2 (List.mem_of_getElem? (i := 214) rfl) rfl
theorem wd_2_215 : Jvm.Cond.methodLink "ReadAloudLaw" (67 : Nat) ({ cls := "ReadAloud", name := "unlearn", desc := "(I)I" } : Jvm.MethodName) ∈ aWd := aWd_2 (List.mem_of_getElem? (i := 215) rfl) rfl
theorem wd_2_216 : Jvm.Cond.instanceMethod ({ cls := "ReadAloud", name := "unlearn", desc := "(I)I" } : Jvm.MethodName) ∈ aWd := aWd_2 (List.mem_of_getElem? (i := 216) rfl) rfl
theorem wd_2_217 : Jvm.Cond.selects "ReadAloud" ({ cls := "ReadAloud", name := "unlearn", desc := "(I)I" } : Jvm.MethodName) ({ cls := "ReadAloud", name := "unlearn", desc := "(I)I" } : Jvm.MethodName) ∈ aWd := aWd_2 (List.mem_of_getElem? (i := 217) rfl) rfl
theorem wd_2_218 : Jvm.Cond.code ({ cls := "ReadAloud", name := "unlearn", desc := "(I)I" } : Jvm.MethodName) prog_1_method_14_code (3 : Nat) (Option.some Jvm.ClassFile.FieldType.int) ∈ aWd := aWd_2 (List.mem_of_getElem? (i := 218) rfl) rfl
theorem wd_2_219 : Jvm.Cond.methodLink "ReadAloudLaw" (101 : Nat) ({ cls := "ReadAloud", name := "trials", desc := "(III)I" } : Jvm.MethodName) ∈ aWd := aWd_2 (List.mem_of_getElem? (i := 219) rfl) rfl
theorem wd_2_220 : Jvm.Cond.instanceMethod ({ cls := "ReadAloud", name := "trials", desc := "(III)I" } : Jvm.MethodName) ∈ aWd := aWd_2 (List.mem_of_getElem? (i := 220) rfl) rfl
theorem wd_2_221 : Jvm.Cond.selects "ReadAloud" ({ cls := "ReadAloud", name := "trials", desc := "(III)I" } : Jvm.MethodName) ({ cls := "ReadAloud", name := "trials", desc := "(III)I" } : Jvm.MethodName) ∈ aWd := aWd_2 (List.mem_of_getElem? (i := 221) rfl) rfl
theorem wd_2_222 : Jvm.Cond.code ({ cls := "ReadAloud", name := "trials", desc := "(III)I" } : Jvm.MethodName) prog_1_method_19_code (8 : Nat) (Option.some Jvm.ClassFile.FieldType.int) ∈ aWd := aWd_2 (List.mem_of_getElem? (i := 222) rfl) rfl
theorem wd_2_223 : Jvm.Cond.methodLink "ReadAloud" (190 : Nat) ({ cls := "ReadAloud", name := "drawSheet", desc := "(I)I" } : Jvm.MethodName) ∈ aWd := aWd_2 (List.mem_of_getElem? (i := 223) rfl) rfl
theorem wd_2_225 : Jvm.Cond.instanceMethod ({ cls := "ReadAloud", name := "drawSheet", desc := "(I)I" } : Jvm.MethodName) ∈ aWd := aWd_2 (List.mem_of_getElem? (i := 225) rfl) rfl
theorem wd_2_226 : Jvm.Cond.code ({ cls := "ReadAloud", name := "drawSheet", desc := "(I)I" } : Jvm.MethodName) prog_1_method_42_code (4 : Nat) (Option.some Jvm.ClassFile.FieldType.int) ∈ aWd := aWd_2 (List.mem_of_getElem? (i := 226) rfl) rfl
theorem wd_2_227 : Jvm.Cond.methodLink "ReadAloud" (261 : Nat) ({ cls := "ReadAloud$Sheet", name := "clear", desc := "()V" } : Jvm.MethodName) ∈ aWd := aWd_2 (List.mem_of_getElem? (i := 227) rfl) rfl
theorem wd_2_228 : Jvm.Cond.constant "ReadAloud" (262 : Nat) (1103515245 : Int32) ∈ aWd := aWd_2 (List.mem_of_getElem? (i := 228) rfl) rfl
theorem wd_2_229 : Jvm.Cond.constant "ReadAloud" (263 : Nat) (2147483647 : Int32) ∈ aWd := aWd_2 (List.mem_of_getElem? (i := 229) rfl) rfl
theorem wd_2_230 : Jvm.Cond.constant "ReadAloud" (264 : Nat) (65536 : Int32) ∈ aWd := aWd_2 (List.mem_of_getElem? (i := 230) rfl) rfl
theorem wd_2_231 : Jvm.Cond.methodLink "ReadAloud" (193 : Nat) ({ cls := "ReadAloud", name := "hangingAt", desc := "(LReadAloud$Sheet;)I" } : Jvm.MethodName) ∈ aWd := aWd_2 (List.mem_of_getElem? (i := 231) rfl) rfl
theorem wd_2_233 : Jvm.Cond.instanceMethod ({ cls := "ReadAloud", name := "hangingAt", desc := "(LReadAloud$Sheet;)I" } : Jvm.MethodName) ∈ aWd := aWd_2 (List.mem_of_getElem? (i := 233) rfl) rfl
theorem wd_2_234 : Jvm.Cond.code ({ cls := "ReadAloud", name := "hangingAt", desc := "(LReadAloud$Sheet;)I" } : Jvm.MethodName) prog_1_method_36_code (4 : Nat) (Option.some Jvm.ClassFile.FieldType.int) ∈ aWd := aWd_2 (List.mem_of_getElem? (i := 234) rfl) rfl
theorem wd_2_235 : Jvm.Cond.methodLink "ReadAloud" (197 : Nat) ({ cls := "ReadAloud", name := "allAltering", desc := "(LReadAloud$Sheet;)I" } : Jvm.MethodName) ∈ aWd := aWd_2 (List.mem_of_getElem? (i := 235) rfl) rfl
theorem wd_2_237 : Jvm.Cond.instanceMethod ({ cls := "ReadAloud", name := "allAltering", desc := "(LReadAloud$Sheet;)I" } : Jvm.MethodName) ∈ aWd := aWd_2 (List.mem_of_getElem? (i := 237) rfl) rfl
theorem wd_2_238 : Jvm.Cond.code ({ cls := "ReadAloud", name := "allAltering", desc := "(LReadAloud$Sheet;)I" } : Jvm.MethodName) prog_1_method_37_code (4 : Nat) (Option.some Jvm.ClassFile.FieldType.int) ∈ aWd := aWd_2 (List.mem_of_getElem? (i := 238) rfl) rfl
theorem wd_2_239 : Jvm.Cond.methodLink "ReadAloudLaw" (8 : Nat) ({ cls := "ReadAloudLaw", name := "cell", desc := "([II)I" } : Jvm.MethodName) ∈ aWd := aWd_2 (List.mem_of_getElem? (i := 239) rfl) rfl
theorem wd_3_0 : Jvm.Cond.static ({ cls := "ReadAloudLaw", name := "cell", desc := "([II)I" } : Jvm.MethodName) ∈ aWd := aWd_3 (List.mem_of_getElem? (i := 0) rfl) rfl
theorem wd_3_1 : Jvm.Cond.code ({ cls := "ReadAloudLaw", name := "cell", desc := "([II)I" } : Jvm.MethodName) method_2_code (2 : Nat) (Option.some Jvm.ClassFile.FieldType.int) ∈ aWd := aWd_3 (List.mem_of_getElem? (i := 1) rfl) rfl
theorem wd_3_2 : Jvm.Cond.constant "ReadAloudLaw" (7 : Nat) (747796405 : Int32) ∈ aWd := aWd_3 (List.mem_of_getElem? (i := 2) rfl) rfl
theorem wd_3_3 : Jvm.Cond.methodLink "ReadAloudLaw" (14 : Nat) ({ cls := "ReadAloudLaw", name := "at", desc := "(II)I" } : Jvm.MethodName) ∈ aWd := aWd_3 (List.mem_of_getElem? (i := 3) rfl) rfl
theorem wd_3_4 : Jvm.Cond.static ({ cls := "ReadAloudLaw", name := "at", desc := "(II)I" } : Jvm.MethodName) ∈ aWd := aWd_3 (List.mem_of_getElem? (i := 4) rfl) rfl
theorem wd_3_5 : Jvm.Cond.code ({ cls := "ReadAloudLaw", name := "at", desc := "(II)I" } : Jvm.MethodName) method_3_code (2 : Nat) (Option.some Jvm.ClassFile.FieldType.int) ∈ aWd := aWd_3 (List.mem_of_getElem? (i := 5) rfl) rfl
theorem wd_3_6 : Jvm.Cond.methodLink "ReadAloudLaw" (71 : Nat) ({ cls := "ReadAloudLaw", name := "courtText", desc := "([II[I[I[I)I" } : Jvm.MethodName) ∈ aWd := aWd_3 (List.mem_of_getElem? (i := 6) rfl) rfl
theorem wd_3_7 : Jvm.Cond.static ({ cls := "ReadAloudLaw", name := "courtText", desc := "([II[I[I[I)I" } : Jvm.MethodName) ∈ aWd := aWd_3 (List.mem_of_getElem? (i := 7) rfl) rfl
theorem wd_3_8 : Jvm.Cond.code ({ cls := "ReadAloudLaw", name := "courtText", desc := "([II[I[I[I)I" } : Jvm.MethodName) method_4_code (11 : Nat) (Option.some Jvm.ClassFile.FieldType.int) ∈ aWd := aWd_3 (List.mem_of_getElem? (i := 8) rfl) rfl
theorem wd_3_9 : Jvm.Cond.methodLink "ReadAloudLaw" (18 : Nat) ({ cls := "ReadAloudLaw", name := "in", desc := "(II)Z" } : Jvm.MethodName) ∈ aWd := aWd_3 (List.mem_of_getElem? (i := 9) rfl) rfl
theorem wd_3_10 : Jvm.Cond.static ({ cls := "ReadAloudLaw", name := "in", desc := "(II)Z" } : Jvm.MethodName) ∈ aWd := aWd_3 (List.mem_of_getElem? (i := 10) rfl) rfl
theorem wd_3_11 : Jvm.Cond.code ({ cls := "ReadAloudLaw", name := "in", desc := "(II)Z" } : Jvm.MethodName) method_6_code (2 : Nat) (Option.some Jvm.ClassFile.FieldType.boolean) ∈ aWd := aWd_3 (List.mem_of_getElem? (i := 11) rfl) rfl
theorem wd_3_12 : Jvm.Cond.methodLink "ReadAloudLaw" (75 : Nat) ({ cls := "ReadAloudLaw", name := "write", desc := "(LReadAloud;[II)Z" } : Jvm.MethodName) ∈ aWd := aWd_3 (List.mem_of_getElem? (i := 12) rfl) rfl
theorem wd_3_13 : Jvm.Cond.static ({ cls := "ReadAloudLaw", name := "write", desc := "(LReadAloud;[II)Z" } : Jvm.MethodName) ∈ aWd := aWd_3 (List.mem_of_getElem? (i := 13) rfl) rfl
theorem wd_3_14 : Jvm.Cond.code ({ cls := "ReadAloudLaw", name := "write", desc := "(LReadAloud;[II)Z" } : Jvm.MethodName) method_5_code (4 : Nat) (Option.some Jvm.ClassFile.FieldType.boolean) ∈ aWd := aWd_3 (List.mem_of_getElem? (i := 14) rfl) rfl
theorem wd_3_15 : Jvm.Cond.methodLink "ReadAloudLaw" (22 : Nat) ({ cls := "ReadAloud", name := "letter", desc := "(I)I" } : Jvm.MethodName) ∈ aWd := aWd_3 (List.mem_of_getElem? (i := 15) rfl) rfl
theorem wd_3_16 : Jvm.Cond.instanceMethod ({ cls := "ReadAloud", name := "letter", desc := "(I)I" } : Jvm.MethodName) ∈ aWd := aWd_3 (List.mem_of_getElem? (i := 16) rfl) rfl
theorem wd_3_17 : Jvm.Cond.selects "ReadAloud" ({ cls := "ReadAloud", name := "letter", desc := "(I)I" } : Jvm.MethodName) ({ cls := "ReadAloud", name := "letter", desc := "(I)I" } : Jvm.MethodName) ∈ aWd := aWd_3 (List.mem_of_getElem? (i := 17) rfl) rfl
theorem wd_3_18 : Jvm.Cond.code ({ cls := "ReadAloud", name := "letter", desc := "(I)I" } : Jvm.MethodName) prog_1_method_2_code (2 : Nat) (Option.some Jvm.ClassFile.FieldType.int) ∈ aWd := aWd_3 (List.mem_of_getElem? (i := 18) rfl) rfl
theorem wd_3_19 : Jvm.Cond.methodLink "ReadAloud" (50 : Nat) ({ cls := "ReadAloud$Page", name := "add", desc := "(I)Z" } : Jvm.MethodName) ∈ aWd := aWd_3 (List.mem_of_getElem? (i := 19) rfl) rfl
theorem wd_3_20 : Jvm.Cond.instanceMethod ({ cls := "ReadAloud$Page", name := "add", desc := "(I)Z" } : Jvm.MethodName) ∈ aWd := aWd_3 (List.mem_of_getElem? (i := 20) rfl) rfl
theorem wd_3_21 : Jvm.Cond.selects "ReadAloud$Page" ({ cls := "ReadAloud$Page", name := "add", desc := "(I)Z" } : Jvm.MethodName) ({ cls := "ReadAloud$Page", name := "add", desc := "(I)Z" } : Jvm.MethodName) ∈ aWd := aWd_3 (List.mem_of_getElem? (i := 21) rfl) rfl
theorem wd_3_22 : Jvm.Cond.code ({ cls := "ReadAloud$Page", name := "add", desc := "(I)Z" } : Jvm.MethodName) prog_7_method_4_code (2 : Nat) (Option.some Jvm.ClassFile.FieldType.boolean) ∈ aWd := aWd_3 (List.mem_of_getElem? (i := 22) rfl) rfl
theorem wd_3_23 : Jvm.Cond.methodLink "ReadAloudLaw" (60 : Nat) ({ cls := "ReadAloudLaw", name := "come", desc := "(LReadAloud;[III)Z" } : Jvm.MethodName) ∈ aWd := aWd_3 (List.mem_of_getElem? (i := 23) rfl) rfl
theorem wd_3_24 : Jvm.Cond.static ({ cls := "ReadAloudLaw", name := "come", desc := "(LReadAloud;[III)Z" } : Jvm.MethodName) ∈ aWd := aWd_3 (List.mem_of_getElem? (i := 24) rfl) rfl
theorem wd_3_25 : Jvm.Cond.code ({ cls := "ReadAloudLaw", name := "come", desc := "(LReadAloud;[III)Z" } : Jvm.MethodName) method_8_code (5 : Nat) (Option.some Jvm.ClassFile.FieldType.boolean) ∈ aWd := aWd_3 (List.mem_of_getElem? (i := 25) rfl) rfl
theorem wd_3_26 : Jvm.Cond.methodLink "ReadAloudLaw" (86 : Nat) ({ cls := "ReadAloudLaw", name := "stands", desc := "(LReadAloud;[I[I)Z" } : Jvm.MethodName) ∈ aWd := aWd_3 (List.mem_of_getElem? (i := 26) rfl) rfl
theorem wd_3_27 : Jvm.Cond.static ({ cls := "ReadAloudLaw", name := "stands", desc := "(LReadAloud;[I[I)Z" } : Jvm.MethodName) ∈ aWd := aWd_3 (List.mem_of_getElem? (i := 27) rfl) rfl
theorem wd_3_28 : Jvm.Cond.code ({ cls := "ReadAloudLaw", name := "stands", desc := "(LReadAloud;[I[I)Z" } : Jvm.MethodName) method_12_code (8 : Nat) (Option.some Jvm.ClassFile.FieldType.boolean) ∈ aWd := aWd_3 (List.mem_of_getElem? (i := 28) rfl) rfl
theorem wd_3_29 : Jvm.Cond.methodLink "ReadAloudLaw" (41 : Nat) ({ cls := "ReadAloudLaw", name := "now", desc := "([I[II)I" } : Jvm.MethodName) ∈ aWd := aWd_3 (List.mem_of_getElem? (i := 29) rfl) rfl
theorem wd_3_30 : Jvm.Cond.static ({ cls := "ReadAloudLaw", name := "now", desc := "([I[II)I" } : Jvm.MethodName) ∈ aWd := aWd_3 (List.mem_of_getElem? (i := 30) rfl) rfl
theorem wd_3_31 : Jvm.Cond.code ({ cls := "ReadAloudLaw", name := "now", desc := "([I[II)I" } : Jvm.MethodName) method_10_code (3 : Nat) (Option.some Jvm.ClassFile.FieldType.int) ∈ aWd := aWd_3 (List.mem_of_getElem? (i := 31) rfl) rfl
theorem wd_3_32 : Jvm.Cond.methodLink "ReadAloudLaw" (31 : Nat) ({ cls := "ReadAloudLaw", name := "alters", desc := "([IIII)I" } : Jvm.MethodName) ∈ aWd := aWd_3 (List.mem_of_getElem? (i := 32) rfl) rfl
theorem wd_3_33 : Jvm.Cond.static ({ cls := "ReadAloudLaw", name := "alters", desc := "([IIII)I" } : Jvm.MethodName) ∈ aWd := aWd_3 (List.mem_of_getElem? (i := 33) rfl) rfl
theorem wd_3_34 : Jvm.Cond.code ({ cls := "ReadAloudLaw", name := "alters", desc := "([IIII)I" } : Jvm.MethodName) method_9_code (9 : Nat) (Option.some Jvm.ClassFile.FieldType.int) ∈ aWd := aWd_3 (List.mem_of_getElem? (i := 34) rfl) rfl
theorem wd_3_35 : Jvm.Cond.methodLink "ReadAloudLaw" (45 : Nat) ({ cls := "ReadAloudLaw", name := "size", desc := "(I)I" } : Jvm.MethodName) ∈ aWd := aWd_3 (List.mem_of_getElem? (i := 35) rfl) rfl
theorem wd_3_36 : Jvm.Cond.static ({ cls := "ReadAloudLaw", name := "size", desc := "(I)I" } : Jvm.MethodName) ∈ aWd := aWd_3 (List.mem_of_getElem? (i := 36) rfl) rfl
theorem wd_3_37 : Jvm.Cond.code ({ cls := "ReadAloudLaw", name := "size", desc := "(I)I" } : Jvm.MethodName) method_7_code (3 : Nat) (Option.some Jvm.ClassFile.FieldType.int) ∈ aWd := aWd_3 (List.mem_of_getElem? (i := 37) rfl) rfl
theorem wd_3_38 : Jvm.Cond.methodLink "ReadAloudLaw" (51 : Nat) ({ cls := "ReadAloud", name := "count", desc := "(I)I" } : Jvm.MethodName) ∈ aWd := aWd_3 (List.mem_of_getElem? (i := 38) rfl) rfl
theorem wd_3_39 : Jvm.Cond.instanceMethod ({ cls := "ReadAloud", name := "count", desc := "(I)I" } : Jvm.MethodName) ∈ aWd := aWd_3 (List.mem_of_getElem? (i := 39) rfl) rfl
theorem wd_3_40 : Jvm.Cond.selects "ReadAloud" ({ cls := "ReadAloud", name := "count", desc := "(I)I" } : Jvm.MethodName) ({ cls := "ReadAloud", name := "count", desc := "(I)I" } : Jvm.MethodName) ∈ aWd := aWd_3 (List.mem_of_getElem? (i := 40) rfl) rfl
theorem wd_3_41 : Jvm.Cond.code ({ cls := "ReadAloud", name := "count", desc := "(I)I" } : Jvm.MethodName) prog_1_method_22_code (2 : Nat) (Option.some Jvm.ClassFile.FieldType.int) ∈ aWd := aWd_3 (List.mem_of_getElem? (i := 41) rfl) rfl
theorem wd_3_42 : Jvm.Cond.methodLink "ReadAloud" (204 : Nat) ({ cls := "ReadAloud$Sheet", name := "unlikeWords", desc := "()I" } : Jvm.MethodName) ∈ aWd := aWd_3 (List.mem_of_getElem? (i := 42) rfl) rfl
theorem wd_3_43 : Jvm.Cond.instanceMethod ({ cls := "ReadAloud$Sheet", name := "unlikeWords", desc := "()I" } : Jvm.MethodName) ∈ aWd := aWd_3 (List.mem_of_getElem? (i := 43) rfl) rfl
theorem wd_3_44 : Jvm.Cond.selects "ReadAloud$Sheet" ({ cls := "ReadAloud$Sheet", name := "unlikeWords", desc := "()I" } : Jvm.MethodName) ({ cls := "ReadAloud$Sheet", name := "unlikeWords", desc := "()I" } : Jvm.MethodName) ∈ aWd := aWd_3 (List.mem_of_getElem? (i := 44) rfl) rfl
theorem wd_3_45 : Jvm.Cond.code ({ cls := "ReadAloud$Sheet", name := "unlikeWords", desc := "()I" } : Jvm.MethodName) prog_8_method_12_code (3 : Nat) (Option.some Jvm.ClassFile.FieldType.int) ∈ aWd := aWd_3 (List.mem_of_getElem? (i := 45) rfl) rfl
theorem wd_3_46 : Jvm.Cond.methodLink "ReadAloud$Sheet" (29 : Nat) ({ cls := "java/lang/Integer", name := "bitCount", desc := "(I)I" } : Jvm.MethodName) ∈ aWd := aWd_3 (List.mem_of_getElem? (i := 46) rfl) rfl
theorem wd_3_47 : Jvm.Cond.methodLink "ReadAloud" (188 : Nat) ({ cls := "ReadAloud$Heard", name := "size", desc := "()I" } : Jvm.MethodName) ∈ aWd := aWd_3 (List.mem_of_getElem? (i := 47) rfl) rfl
theorem wd_3_48 : Jvm.Cond.instanceMethod ({ cls := "ReadAloud$Heard", name := "size", desc := "()I" } : Jvm.MethodName) ∈ aWd := aWd_3 (List.mem_of_getElem? (i := 48) rfl) rfl
theorem wd_3_49 : Jvm.Cond.selects "ReadAloud$Heard" ({ cls := "ReadAloud$Heard", name := "size", desc := "()I" } : Jvm.MethodName) ({ cls := "ReadAloud$Heard", name := "size", desc := "()I" } : Jvm.MethodName) ∈ aWd := aWd_3 (List.mem_of_getElem? (i := 49) rfl) rfl
theorem wd_3_50 : Jvm.Cond.code ({ cls := "ReadAloud$Heard", name := "size", desc := "()I" } : Jvm.MethodName) prog_5_method_2_code (1 : Nat) (Option.some Jvm.ClassFile.FieldType.int) ∈ aWd := aWd_3 (List.mem_of_getElem? (i := 50) rfl) rfl
theorem wd_3_51 : Jvm.Cond.methodLink "ReadAloudLaw" (90 : Nat) ({ cls := "ReadAloudLaw", name := "does", desc := "(LReadAloud;[II)Z" } : Jvm.MethodName) ∈ aWd := aWd_3 (List.mem_of_getElem? (i := 51) rfl) rfl
theorem wd_3_52 : Jvm.Cond.static ({ cls := "ReadAloudLaw", name := "does", desc := "(LReadAloud;[II)Z" } : Jvm.MethodName) ∈ aWd := aWd_3 (List.mem_of_getElem? (i := 52) rfl) rfl
theorem wd_3_53 : Jvm.Cond.code ({ cls := "ReadAloudLaw", name := "does", desc := "(LReadAloud;[II)Z" } : Jvm.MethodName) method_13_code (6 : Nat) (Option.some Jvm.ClassFile.FieldType.boolean) ∈ aWd := aWd_3 (List.mem_of_getElem? (i := 53) rfl) rfl
theorem wd_3_54 : Jvm.Cond.methodLink "ReadAloudLaw" (94 : Nat) ({ cls := "ReadAloudLaw", name := "trials", desc := "(LReadAloud;[I[III)Z" } : Jvm.MethodName) ∈ aWd := aWd_3 (List.mem_of_getElem? (i := 54) rfl) rfl
theorem wd_3_55 : Jvm.Cond.static ({ cls := "ReadAloudLaw", name := "trials", desc := "(LReadAloud;[I[III)Z" } : Jvm.MethodName) ∈ aWd := aWd_3 (List.mem_of_getElem? (i := 55) rfl) rfl
theorem wd_3_56 : Jvm.Cond.code ({ cls := "ReadAloudLaw", name := "trials", desc := "(LReadAloud;[I[III)Z" } : Jvm.MethodName) method_15_code (13 : Nat) (Option.some Jvm.ClassFile.FieldType.boolean) ∈ aWd := aWd_3 (List.mem_of_getElem? (i := 56) rfl) rfl
theorem wd_3_57 : Jvm.Cond.methodLink "ReadAloudLaw" (104 : Nat) ({ cls := "ReadAloudLaw", name := "over", desc := "([I[I)V" } : Jvm.MethodName) ∈ aWd := aWd_3 (List.mem_of_getElem? (i := 57) rfl) rfl
theorem wd_3_58 : Jvm.Cond.static ({ cls := "ReadAloudLaw", name := "over", desc := "([I[I)V" } : Jvm.MethodName) ∈ aWd := aWd_3 (List.mem_of_getElem? (i := 58) rfl) rfl
theorem wd_3_59 : Jvm.Cond.code ({ cls := "ReadAloudLaw", name := "over", desc := "([I[I)V" } : Jvm.MethodName) method_11_code (3 : Nat) (Option.none : Option Jvm.ClassFile.FieldType) ∈ aWd := aWd_3 (List.mem_of_getElem? (i := 59) rfl) rfl
theorem wd_3_60 : Jvm.Cond.constantLong "ReadAloudLaw" (108 : Nat) (1103515245 : Int64) ∈ aWd := aWd_3 (List.mem_of_getElem? (i := 60) rfl) rfl
theorem wd_3_61 : Jvm.Cond.constantLong "ReadAloudLaw" (110 : Nat) (12345 : Int64) ∈ aWd := aWd_3 (List.mem_of_getElem? (i := 61) rfl) rfl
theorem wd_3_62 : Jvm.Cond.constantLong "ReadAloudLaw" (112 : Nat) (2147483648 : Int64) ∈ aWd := aWd_3 (List.mem_of_getElem? (i := 62) rfl) rfl
theorem wd_3_63 : Jvm.Cond.constantLong "ReadAloudLaw" (114 : Nat) (65536 : Int64) ∈ aWd := aWd_3 (List.mem_of_getElem? (i := 63) rfl) rfl
theorem wd_3_64 : Jvm.Cond.constantLong "ReadAloudLaw" (116 : Nat) (8 : Int64) ∈ aWd := aWd_3 (List.mem_of_getElem? (i := 64) rfl) rfl
theorem wd_3_65 : Jvm.Cond.constant "ReadAloudLaw" (93 : Nat) (2147483647 : Int32) ∈ aWd := aWd_3 (List.mem_of_getElem? (i := 65) rfl) rfl
theorem wd_3_66 : Jvm.Cond.sameMethod "ReadAloud$Stammerer" "ReadAloud$Stammerer" "placesAnyhow" "(LReadAloud$Sheet;)I" ∈ aWd := aWd_3 (List.mem_of_getElem? (i := 66) rfl) rfl
theorem uX0 : ∀ w ∈ u_ws RX0 TX0 1, w ∈ aWd := List.forall_mem_cons.mpr ⟨wd_2_65, fun _ h => absurd h List.not_mem_nil⟩
theorem uX1 : ∀ w ∈ u_ws RX1 TX1 1, w ∈ aWd := List.forall_mem_cons.mpr ⟨wd_2_73, fun _ h => absurd h List.not_mem_nil⟩
theorem uX2 : ∀ w ∈ u_ws RX2 TX2 3, w ∈ aWd := List.forall_mem_cons.mpr ⟨wd_1_128, List.forall_mem_cons.mpr ⟨wd_1_130, List.forall_mem_cons.mpr ⟨wd_1_132, fun _ h => absurd h List.not_mem_nil⟩⟩⟩
theorem uX3 : ∀ w ∈ u_ws RX3 TX3 3, w ∈ aWd := List.forall_mem_cons.mpr ⟨wd_1_86, List.forall_mem_cons.mpr ⟨wd_1_88, List.forall_mem_cons.mpr ⟨wd_1_90, fun _ h => absurd h List.not_mem_nil⟩⟩⟩
theorem uX4 : ∀ w ∈ u_ws RX4 TX4 1, w ∈ aWd := List.forall_mem_cons.mpr ⟨wd_2_85, fun _ h => absurd h List.not_mem_nil⟩
theorem uX5 : ∀ w ∈ u_ws RX5 TX5 3, w ∈ aWd := List.forall_mem_cons.mpr ⟨wd_1_49, List.forall_mem_cons.mpr ⟨wd_1_51, List.forall_mem_cons.mpr ⟨wd_1_53, fun _ h => absurd h List.not_mem_nil⟩⟩⟩
theorem uX6 : ∀ w ∈ u_ws RX6 TX6 2, w ∈ aWd := List.forall_mem_cons.mpr ⟨wd_1_72, List.forall_mem_cons.mpr ⟨wd_1_74, fun _ h => absurd h List.not_mem_nil⟩⟩
theorem uX7 : ∀ w ∈ u_ws RX7 TX7 1, w ∈ aWd := List.forall_mem_cons.mpr ⟨wd_2_56, fun _ h => absurd h List.not_mem_nil⟩
theorem uX8 : ∀ w ∈ u_ws RX8 TX8 6, w ∈ aWd := List.forall_mem_cons.mpr ⟨wd_1_105, List.forall_mem_cons.mpr ⟨wd_1_107, List.forall_mem_cons.mpr ⟨wd_1_109, List.forall_mem_cons.mpr ⟨wd_1_111, List.forall_mem_cons.mpr ⟨wd_1_113, List.forall_mem_cons.mpr ⟨wd_1_115, fun _ h => absurd h List.not_mem_nil⟩⟩⟩⟩⟩⟩
theorem uX9 : ∀ w ∈ u_ws RX9 TX9 3, w ∈ aWd := List.forall_mem_cons.mpr ⟨wd_1_38, List.forall_mem_cons.mpr ⟨wd_1_40, List.forall_mem_cons.mpr ⟨wd_1_42, fun _ h => absurd h List.not_mem_nil⟩⟩⟩
theorem uX10 : ∀ w ∈ u_ws RX10 TX10 1, w ∈ aWd := List.forall_mem_cons.mpr ⟨wd_2_81, fun _ h => absurd h List.not_mem_nil⟩
theorem uX11 : ∀ w ∈ u_ws RX11 TX11 10, w ∈ aWd := List.forall_mem_cons.mpr ⟨wd_1_145, List.forall_mem_cons.mpr ⟨wd_1_147, List.forall_mem_cons.mpr ⟨wd_1_149, List.forall_mem_cons.mpr ⟨wd_1_151, List.forall_mem_cons.mpr ⟨wd_1_153, List.forall_mem_cons.mpr ⟨wd_1_155, List.forall_mem_cons.mpr ⟨wd_1_157, List.forall_mem_cons.mpr ⟨wd_1_159, List.forall_mem_cons.mpr ⟨wd_1_161, List.forall_mem_cons.mpr ⟨wd_1_163, fun _ h => absurd h List.not_mem_nil⟩⟩⟩⟩⟩⟩⟩⟩⟩⟩
theorem fX11_10_X11 : aFl RX11 10 11 0 := ⟨RX11, TX11, 10, "ReadAloud", rfl, by decide, uX11, wd_1_135, rfl⟩
theorem fX11_16_X11 : aFl RX11 16 11 1 := ⟨RX11, TX11, 10, "ReadAloud", rfl, by decide, uX11, wd_1_136, rfl⟩
theorem fX11_22_X11 : aFl RX11 22 11 2 := ⟨RX11, TX11, 10, "ReadAloud", rfl, by decide, uX11, wd_1_137, rfl⟩
theorem fX11_29_X11 : aFl RX11 29 11 3 := ⟨RX11, TX11, 10, "ReadAloud", rfl, by decide, uX11, wd_1_138, rfl⟩
theorem fX11_33_X11 : aFl RX11 33 11 4 := ⟨RX11, TX11, 10, "ReadAloud", rfl, by decide, uX11, wd_1_139, rfl⟩
theorem fX11_39_X11 : aFl RX11 39 11 5 := ⟨RX11, TX11, 10, "ReadAloud", rfl, by decide, uX11, wd_1_140, rfl⟩
theorem fX11_46_X11 : aFl RX11 46 11 6 := ⟨RX11, TX11, 10, "ReadAloud", rfl, by decide, uX11, wd_1_141, rfl⟩
theorem fX11_71_X11 : aFl RX11 71 11 7 := ⟨RX11, TX11, 10, "ReadAloud", rfl, by decide, uX11, wd_1_142, rfl⟩
theorem fX11_75_X11 : aFl RX11 75 11 8 := ⟨RX11, TX11, 10, "ReadAloud", rfl, by decide, uX11, wd_1_143, rfl⟩
theorem fX11_79_X8 : aFl RX11 79 8 0 := ⟨RX8, TX8, 6, "ReadAloud$State", rfl, by decide, uX8, wd_1_94, rfl⟩
theorem fX11_100_X8 : aFl RX11 100 8 5 := ⟨RX8, TX8, 6, "ReadAloud$State", rfl, by decide, uX8, wd_1_104, rfl⟩
theorem fX11_103_X8 : aFl RX11 103 8 3 := ⟨RX8, TX8, 6, "ReadAloud$State", rfl, by decide, uX8, wd_1_100, rfl⟩
theorem fX11_109_X8 : aFl RX11 109 8 4 := ⟨RX8, TX8, 6, "ReadAloud$State", rfl, by decide, uX8, wd_1_102, rfl⟩
theorem fX11_115_X8 : aFl RX11 115 8 2 := ⟨RX8, TX8, 6, "ReadAloud$State", rfl, by decide, uX8, wd_1_98, rfl⟩
theorem fX11_140_X8 : aFl RX11 140 8 1 := ⟨RX8, TX8, 6, "ReadAloud$State", rfl, by decide, uX8, wd_1_96, rfl⟩
theorem fX11_159_X11 : aFl RX11 159 11 9 := ⟨RX11, TX11, 10, "ReadAloud", rfl, by decide, uX11, wd_1_144, rfl⟩
theorem fX2_9_X2 : aFl RX2 9 2 0 := ⟨RX2, TX2, 3, "ReadAloud$Brief", rfl, by decide, uX2, wd_1_126, rfl⟩
theorem fX2_15_X2 : aFl RX2 15 2 1 := ⟨RX2, TX2, 3, "ReadAloud$Brief", rfl, by decide, uX2, wd_1_127, rfl⟩
theorem fX3_9_X3 : aFl RX3 9 3 0 := ⟨RX3, TX3, 3, "ReadAloud$Heard", rfl, by decide, uX3, wd_1_83, rfl⟩
theorem fX3_15_X3 : aFl RX3 15 3 1 := ⟨RX3, TX3, 3, "ReadAloud$Heard", rfl, by decide, uX3, wd_1_84, rfl⟩
theorem fX3_18_X3 : aFl RX3 18 3 2 := ⟨RX3, TX3, 3, "ReadAloud$Heard", rfl, by decide, uX3, wd_1_85, rfl⟩
theorem fX4_7_X0 : aFl RX4 7 0 0 := ⟨RX0, TX0, 1, "ReadAloud$Man", rfl, by decide, uX0, wd_2_55, rfl⟩
theorem fX4_7_X1 : aFl RX4 7 1 0 := ⟨RX1, TX1, 1, "ReadAloud$Man", rfl, by decide, uX1, wd_2_55, rfl⟩
theorem fX4_7_X4 : aFl RX4 7 4 0 := ⟨RX4, TX4, 1, "ReadAloud$Man", rfl, by decide, uX4, wd_2_55, rfl⟩
theorem fX4_7_X7 : aFl RX4 7 7 0 := ⟨RX7, TX7, 1, "ReadAloud$Man", rfl, by decide, uX7, wd_2_55, rfl⟩
theorem fX4_7_X10 : aFl RX4 7 10 0 := ⟨RX10, TX10, 1, "ReadAloud$Man", rfl, by decide, uX10, wd_2_55, rfl⟩
theorem fX5_9_X5 : aFl RX5 9 5 0 := ⟨RX5, TX5, 3, "ReadAloud$Page", rfl, by decide, uX5, wd_1_46, rfl⟩
theorem fX5_18_X5 : aFl RX5 18 5 1 := ⟨RX5, TX5, 3, "ReadAloud$Page", rfl, by decide, uX5, wd_1_47, rfl⟩
theorem fX5_22_X5 : aFl RX5 22 5 2 := ⟨RX5, TX5, 3, "ReadAloud$Page", rfl, by decide, uX5, wd_1_48, rfl⟩
theorem fX6_9_X6 : aFl RX6 9 6 0 := ⟨RX6, TX6, 2, "ReadAloud$Sheet", rfl, by decide, uX6, wd_1_70, rfl⟩
theorem fX6_15_X6 : aFl RX6 15 6 1 := ⟨RX6, TX6, 2, "ReadAloud$Sheet", rfl, by decide, uX6, wd_1_71, rfl⟩
theorem fX8_12_X8 : aFl RX8 12 8 0 := ⟨RX8, TX8, 6, "ReadAloud$State", rfl, by decide, uX8, wd_1_93, rfl⟩
theorem fX8_21_X8 : aFl RX8 21 8 1 := ⟨RX8, TX8, 6, "ReadAloud$State", rfl, by decide, uX8, wd_1_95, rfl⟩
theorem fX8_25_X8 : aFl RX8 25 8 2 := ⟨RX8, TX8, 6, "ReadAloud$State", rfl, by decide, uX8, wd_1_97, rfl⟩
theorem fX8_33_X8 : aFl RX8 33 8 3 := ⟨RX8, TX8, 6, "ReadAloud$State", rfl, by decide, uX8, wd_1_99, rfl⟩
theorem fX8_37_X8 : aFl RX8 37 8 4 := ⟨RX8, TX8, 6, "ReadAloud$State", rfl, by decide, uX8, wd_1_101, rfl⟩
theorem fX8_40_X8 : aFl RX8 40 8 5 := ⟨RX8, TX8, 6, "ReadAloud$State", rfl, by decide, uX8, wd_1_103, rfl⟩
theorem fX9_22_X9 : aFl RX9 22 9 0 := ⟨RX9, TX9, 3, "ReadAloud$Walk", rfl, by decide, uX9, wd_1_35, rfl⟩
theorem fX9_26_X9 : aFl RX9 26 9 1 := ⟨RX9, TX9, 3, "ReadAloud$Walk", rfl, by decide, uX9, wd_1_36, rfl⟩
theorem fX9_29_X9 : aFl RX9 29 9 2 := ⟨RX9, TX9, 3, "ReadAloud$Walk", rfl, by decide, uX9, wd_1_37, rfl⟩
theorem pX0_0 : aFp 0 0 .int true := ⟨RX0, TX0, 1, tyX0, rfl, tyX0_ok, nmX0, rfl, by decide +kernel⟩
theorem pX1_0 : aFp 1 0 .int true := ⟨RX1, TX1, 1, tyX1, rfl, tyX1_ok, nmX1, rfl, by decide +kernel⟩
theorem pX2_0 : aFp 2 0 (.array .int) true := ⟨RX2, TX2, 3, tyX2, rfl, tyX2_ok, nmX2, rfl, by decide +kernel⟩
theorem pX2_1 : aFp 2 1 (.array .int) true := ⟨RX2, TX2, 3, tyX2, rfl, tyX2_ok, nmX2, rfl, by decide +kernel⟩
theorem pX2_2 : aFp 2 2 .int false := ⟨RX2, TX2, 3, tyX2, rfl, tyX2_ok, nmX2, rfl, by decide +kernel⟩
theorem pX3_0 : aFp 3 0 (.array .int) true := ⟨RX3, TX3, 3, tyX3, rfl, tyX3_ok, nmX3, rfl, by decide +kernel⟩
theorem pX3_1 : aFp 3 1 (.array .int) true := ⟨RX3, TX3, 3, tyX3, rfl, tyX3_ok, nmX3, rfl, by decide +kernel⟩
theorem pX3_2 : aFp 3 2 .int false := ⟨RX3, TX3, 3, tyX3, rfl, tyX3_ok, nmX3, rfl, by decide +kernel⟩
theorem pX4_0 : aFp 4 0 .int true := ⟨RX4, TX4, 1, tyX4, rfl, tyX4_ok, nmX4, rfl, by decide +kernel⟩
theorem pX5_0 : aFp 5 0 (.array .int) true := ⟨RX5, TX5, 3, tyX5, rfl, tyX5_ok, nmX5, rfl, by decide +kernel⟩
theorem pX5_1 : aFp 5 1 (.object "ReadAloud$Walk") true := ⟨RX5, TX5, 3, tyX5, rfl, tyX5_ok, nmX5, rfl, by decide +kernel⟩
theorem pX5_2 : aFp 5 2 .int false := ⟨RX5, TX5, 3, tyX5, rfl, tyX5_ok, nmX5, rfl, by decide +kernel⟩
theorem pX6_0 : aFp 6 0 (.array .int) true := ⟨RX6, TX6, 2, tyX6, rfl, tyX6_ok, nmX6, rfl, by decide +kernel⟩
theorem pX6_1 : aFp 6 1 .int false := ⟨RX6, TX6, 2, tyX6, rfl, tyX6_ok, nmX6, rfl, by decide +kernel⟩
theorem pX7_0 : aFp 7 0 .int true := ⟨RX7, TX7, 1, tyX7, rfl, tyX7_ok, nmX7, rfl, by decide +kernel⟩
theorem pX8_0 : aFp 8 0 (.object "ReadAloud$Sheet") true := ⟨RX8, TX8, 6, tyX8, rfl, tyX8_ok, nmX8, rfl, by decide +kernel⟩
theorem pX8_1 : aFp 8 1 (.object "ReadAloud$Heard") true := ⟨RX8, TX8, 6, tyX8, rfl, tyX8_ok, nmX8, rfl, by decide +kernel⟩
theorem pX8_2 : aFp 8 2 (.array .int) true := ⟨RX8, TX8, 6, tyX8, rfl, tyX8_ok, nmX8, rfl, by decide +kernel⟩
theorem pX8_3 : aFp 8 3 .int false := ⟨RX8, TX8, 6, tyX8, rfl, tyX8_ok, nmX8, rfl, by decide +kernel⟩
theorem pX8_4 : aFp 8 4 .int false := ⟨RX8, TX8, 6, tyX8, rfl, tyX8_ok, nmX8, rfl, by decide +kernel⟩
theorem pX8_5 : aFp 8 5 .int false := ⟨RX8, TX8, 6, tyX8, rfl, tyX8_ok, nmX8, rfl, by decide +kernel⟩
theorem pX9_0 : aFp 9 0 .int false := ⟨RX9, TX9, 3, tyX9, rfl, tyX9_ok, nmX9, rfl, by decide +kernel⟩
theorem pX9_1 : aFp 9 1 .int false := ⟨RX9, TX9, 3, tyX9, rfl, tyX9_ok, nmX9, rfl, by decide +kernel⟩
theorem pX9_2 : aFp 9 2 .int false := ⟨RX9, TX9, 3, tyX9, rfl, tyX9_ok, nmX9, rfl, by decide +kernel⟩
theorem pX10_0 : aFp 10 0 .int true := ⟨RX10, TX10, 1, tyX10, rfl, tyX10_ok, nmX10, rfl, by decide +kernel⟩
theorem pX11_0 : aFp 11 0 (.object "ReadAloud$Page") true := ⟨RX11, TX11, 10, tyX11, rfl, tyX11_ok, nmX11, rfl, by decide +kernel⟩
theorem pX11_1 : aFp 11 1 (.array .int) true := ⟨RX11, TX11, 10, tyX11, rfl, tyX11_ok, nmX11, rfl, by decide +kernel⟩
theorem pX11_2 : aFp 11 2 (.array (.object "ReadAloud$Man")) true := ⟨RX11, TX11, 10, tyX11, rfl, tyX11_ok, nmX11, rfl, by decide +kernel⟩
theorem pX11_3 : aFp 11 3 (.object "ReadAloud$State") true := ⟨RX11, TX11, 10, tyX11, rfl, tyX11_ok, nmX11, rfl, by decide +kernel⟩
theorem pX11_4 : aFp 11 4 (.object "ReadAloud$State") true := ⟨RX11, TX11, 10, tyX11, rfl, tyX11_ok, nmX11, rfl, by decide +kernel⟩
theorem pX11_5 : aFp 11 5 (.object "ReadAloud$Sheet") true := ⟨RX11, TX11, 10, tyX11, rfl, tyX11_ok, nmX11, rfl, by decide +kernel⟩
theorem pX11_6 : aFp 11 6 (.object "ReadAloud$Brief") true := ⟨RX11, TX11, 10, tyX11, rfl, tyX11_ok, nmX11, rfl, by decide +kernel⟩
theorem pX11_7 : aFp 11 7 .boolean false := ⟨RX11, TX11, 10, tyX11, rfl, tyX11_ok, nmX11, rfl, by decide +kernel⟩
theorem pX11_8 : aFp 11 8 .int false := ⟨RX11, TX11, 10, tyX11, rfl, tyX11_ok, nmX11, rfl, by decide +kernel⟩
theorem pX11_9 : aFp 11 9 .int false := ⟨RX11, TX11, 10, tyX11, rfl, tyX11_ok, nmX11, rfl, by decide +kernel⟩
theorem kL_70 : aLI RL 70 yX11_init cX11_init 1 0 := ⟨wd_1_17, wd_1_18, wd_1_1, wd_1_19, rfl, ⟨by decide +kernel, by decide +kernel, by decide +kernel⟩⟩
theorem kL_8 : aLSt RL 8 yL_cell cL_cell 2 (some .int) 2 := ⟨wd_2_239, wd_3_0, wd_1_0, wd_3_1, ⟨by decide +kernel, by decide +kernel, by decide +kernel⟩⟩
theorem kL_14 : aLSt RL 14 yL_at cL_at 2 (some .int) 2 := ⟨wd_3_3, wd_3_4, wd_1_0, wd_3_5, ⟨by decide +kernel, by decide +kernel, by decide +kernel⟩⟩
theorem kL_18 : aLSt RL 18 yL_in cL_in 2 (some .boolean) 2 := ⟨wd_3_9, wd_3_10, wd_1_0, wd_3_11, ⟨by decide +kernel, by decide +kernel, by decide +kernel⟩⟩
theorem kL_31 : aLSt RL 31 yL_alters cL_alters 9 (some .int) 4 := ⟨wd_3_32, wd_3_33, wd_1_0, wd_3_34, ⟨by decide +kernel, by decide +kernel, by decide +kernel⟩⟩
theorem kL_41 : aLSt RL 41 yL_now cL_now 3 (some .int) 3 := ⟨wd_3_29, wd_3_30, wd_1_0, wd_3_31, ⟨by decide +kernel, by decide +kernel, by decide +kernel⟩⟩
theorem kL_45 : aLSt RL 45 yL_size cL_size 3 (some .int) 1 := ⟨wd_3_35, wd_3_36, wd_1_0, wd_3_37, ⟨by decide +kernel, by decide +kernel, by decide +kernel⟩⟩
theorem kL_60 : aLSt RL 60 yL_come cL_come 5 (some .boolean) 4 := ⟨wd_3_23, wd_3_24, wd_1_0, wd_3_25, ⟨by decide +kernel, by decide +kernel, by decide +kernel⟩⟩
theorem kL_71 : aLSt RL 71 yL_courtText cL_courtText 11 (some .int) 5 := ⟨wd_3_6, wd_3_7, wd_1_0, wd_3_8, ⟨by decide +kernel, by decide +kernel, by decide +kernel⟩⟩
theorem kL_75 : aLSt RL 75 yL_write cL_write 4 (some .boolean) 3 := ⟨wd_3_12, wd_3_13, wd_1_0, wd_3_14, ⟨by decide +kernel, by decide +kernel, by decide +kernel⟩⟩
theorem kL_86 : aLSt RL 86 yL_stands cL_stands 8 (some .boolean) 3 := ⟨wd_3_26, wd_3_27, wd_1_0, wd_3_28, ⟨by decide +kernel, by decide +kernel, by decide +kernel⟩⟩
theorem kL_90 : aLSt RL 90 yL_does cL_does 6 (some .boolean) 3 := ⟨wd_3_51, wd_3_52, wd_1_0, wd_3_53, ⟨by decide +kernel, by decide +kernel, by decide +kernel⟩⟩
theorem kL_94 : aLSt RL 94 yL_trials cL_trials 13 (some .boolean) 5 := ⟨wd_3_54, wd_3_55, wd_1_0, wd_3_56, ⟨by decide +kernel, by decide +kernel, by decide +kernel⟩⟩
theorem kL_104 : aLSt RL 104 yL_over cL_over 3 none 2 := ⟨wd_3_57, wd_3_58, wd_1_0, wd_3_59, ⟨by decide +kernel, by decide +kernel, by decide +kernel⟩⟩
theorem kL_22 : aLV RL 22 RX11 yX11_letter cX11_letter 2 (some .int) 1 := ⟨wd_3_15, wd_3_16, wd_3_17, wd_1_1, wd_3_18, rfl, ⟨by decide +kernel, by decide +kernel, by decide +kernel⟩⟩
theorem kL_28 : aLV RL 28 RX11 yX11_accuse cX11_accuse 4 (some .int) 2 := ⟨wd_2_36, wd_2_37, wd_2_38, wd_1_1, wd_2_39, rfl, ⟨by decide +kernel, by decide +kernel, by decide +kernel⟩⟩
theorem kL_35 : aLV RL 35 RX11 yX11_near cX11_near 2 (some .int) 1 := ⟨wd_2_3, wd_2_4, wd_2_5, wd_1_1, wd_2_6, rfl, ⟨by decide +kernel, by decide +kernel, by decide +kernel⟩⟩
theorem kL_38 : aLV RL 38 RX11 yX11_word cX11_word 2 (some .int) 1 := ⟨wd_2_11, wd_2_12, wd_2_13, wd_1_1, wd_2_14, rfl, ⟨by decide +kernel, by decide +kernel, by decide +kernel⟩⟩
theorem kL_48 : aLV RL 48 RX11 yX11_about cX11_about 4 (some .int) 2 := ⟨wd_2_87, wd_2_88, wd_2_89, wd_1_1, wd_2_90, rfl, ⟨by decide +kernel, by decide +kernel, by decide +kernel⟩⟩
theorem kL_51 : aLV RL 51 RX11 yX11_count cX11_count 2 (some .int) 1 := ⟨wd_3_38, wd_3_39, wd_3_40, wd_1_1, wd_3_41, rfl, ⟨by decide +kernel, by decide +kernel, by decide +kernel⟩⟩
theorem kL_54 : aLV RL 54 RX11 yX11_put cX11_put 4 (some .int) 2 := ⟨wd_2_24, wd_2_25, wd_2_26, wd_1_1, wd_2_27, rfl, ⟨by decide +kernel, by decide +kernel, by decide +kernel⟩⟩
theorem kL_57 : aLV RL 57 RX11 yX11_limit cX11_limit 3 (some .int) 1 := ⟨wd_2_32, wd_2_33, wd_2_34, wd_1_1, wd_2_35, rfl, ⟨by decide +kernel, by decide +kernel, by decide +kernel⟩⟩
theorem kL_64 : aLV RL 64 RX11 yX11_lesson cX11_lesson 4 (some .int) 2 := ⟨wd_2_211, wd_2_212, wd_2_213, wd_1_1, wd_2_214, rfl, ⟨by decide +kernel, by decide +kernel, by decide +kernel⟩⟩
theorem kL_67 : aLV RL 67 RX11 yX11_unlearn cX11_unlearn 3 (some .int) 1 := ⟨wd_2_215, wd_2_216, wd_2_217, wd_1_1, wd_2_218, rfl, ⟨by decide +kernel, by decide +kernel, by decide +kernel⟩⟩
theorem kL_79 : aLV RL 79 RX11 yX11_fault cX11_fault 1 (some .int) 0 := ⟨wd_1_166, wd_1_167, wd_1_168, wd_1_1, wd_1_169, rfl, ⟨by decide +kernel, by decide +kernel, by decide +kernel⟩⟩
theorem kL_83 : aLV RL 83 RX11 yX11_court cX11_court 1 (some .int) 0 := ⟨wd_1_193, wd_1_194, wd_1_195, wd_1_1, wd_1_196, rfl, ⟨by decide +kernel, by decide +kernel, by decide +kernel⟩⟩
theorem kL_98 : aLV RL 98 RX11 yX11_as cX11_as 4 (some .int) 2 := ⟨wd_2_204, wd_2_205, wd_2_206, wd_1_1, wd_2_207, rfl, ⟨by decide +kernel, by decide +kernel, by decide +kernel⟩⟩
theorem kL_101 : aLV RL 101 RX11 yX11_trials cX11_trials 8 (some .int) 3 := ⟨wd_2_219, wd_2_220, wd_2_221, wd_1_1, wd_2_222, rfl, ⟨by decide +kernel, by decide +kernel, by decide +kernel⟩⟩
theorem kX0_1 : aLI RX0 1 yX4_init cX4_init 2 1 := ⟨wd_2_64, wd_2_52, wd_1_10, wd_2_53, rfl, ⟨by decide +kernel, by decide +kernel, by decide +kernel⟩⟩
theorem kX0_7 : aLV RX0 7 RX6 yX6_firstPlacesOf cX6_firstPlacesOf 5 (some .int) 1 := ⟨wd_2_148, wd_2_149, wd_2_150, wd_1_5, wd_2_151, rfl, ⟨by decide +kernel, by decide +kernel, by decide +kernel⟩⟩
theorem kX1_1 : aLI RX1 1 yX4_init cX4_init 2 1 := ⟨wd_2_72, wd_2_52, wd_1_10, wd_2_53, rfl, ⟨by decide +kernel, by decide +kernel, by decide +kernel⟩⟩
theorem kX1_7 : aLV RX1 7 RX6 yX6_placesOf cX6_placesOf 4 (some .int) 1 := ⟨wd_2_155, wd_2_156, wd_2_157, wd_1_5, wd_2_158, rfl, ⟨by decide +kernel, by decide +kernel, by decide +kernel⟩⟩
theorem kX1_13 : aLV RX1 13 RX6 yX6_placesBehind cX6_placesBehind 2 (some .int) 1 := ⟨wd_2_159, wd_2_160, wd_2_161, wd_1_5, wd_2_162, rfl, ⟨by decide +kernel, by decide +kernel, by decide +kernel⟩⟩
theorem kX10_1 : aLI RX10 1 yX7_init cX7_init 2 1 := ⟨wd_2_80, wd_2_49, wd_1_11, wd_2_50, rfl, ⟨by decide +kernel, by decide +kernel, by decide +kernel⟩⟩
theorem kX10_7 : aLSu RX10 7 yX7_placesAnyhow cX7_placesAnyhow 2 (some .int) 1 := ⟨wd_2_179, wd_3_66, wd_2_82, wd_2_174, wd_1_11, wd_2_175, by decide +kernel, by decide +kernel⟩
theorem kX10_13 : aLV RX10 13 RX6 yX6_placesOf cX6_placesOf 4 (some .int) 1 := ⟨wd_2_180, wd_2_156, wd_2_157, wd_1_5, wd_2_158, rfl, ⟨by decide +kernel, by decide +kernel, by decide +kernel⟩⟩
theorem kX11_1 : Cond.methodLink RX11 1 Lib.objectInit ∈ aWd := wd_1_20
theorem kX11_9 : aLIn RX11 9 yX5_init "ReadAloud" cX5_init 1 0 := ⟨List.mem_of_getElem? (i := 0) rfl, wd_1_26, wd_1_2, wd_1_27, rfl, ⟨by decide +kernel, by decide +kernel, by decide +kernel⟩⟩
theorem kX11_28 : aLIn RX11 28 yX8_init "ReadAloud" cX8_init 1 0 := ⟨List.mem_of_getElem? (i := 2) rfl, wd_1_61, wd_1_4, wd_1_62, rfl, ⟨by decide +kernel, by decide +kernel, by decide +kernel⟩⟩
theorem kX11_38 : aLIn RX11 38 yX6_init "ReadAloud" cX6_init 1 0 := ⟨List.mem_of_getElem? (i := 5) rfl, wd_1_67, wd_1_5, wd_1_68, rfl, ⟨by decide +kernel, by decide +kernel, by decide +kernel⟩⟩
theorem kX11_45 : aLIn RX11 45 yX2_init "ReadAloud" cX2_init 1 0 := ⟨List.mem_of_getElem? (i := 6) rfl, wd_1_123, wd_1_7, wd_1_124, rfl, ⟨by decide +kernel, by decide +kernel, by decide +kernel⟩⟩
theorem kX11_228 : aLI RX11 228 yX7_init cX7_init 2 1 := ⟨wd_2_48, wd_2_49, wd_1_11, wd_2_50, rfl, ⟨by decide +kernel, by decide +kernel, by decide +kernel⟩⟩
theorem kX11_233 : aLI RX11 233 yX0_init cX0_init 2 1 := ⟨wd_2_61, wd_2_62, wd_1_12, wd_2_63, rfl, ⟨by decide +kernel, by decide +kernel, by decide +kernel⟩⟩
theorem kX11_236 : aLI RX11 236 yX1_init cX1_init 2 1 := ⟨wd_2_69, wd_2_70, wd_1_13, wd_2_71, rfl, ⟨by decide +kernel, by decide +kernel, by decide +kernel⟩⟩
theorem kX11_239 : aLI RX11 239 yX10_init cX10_init 2 1 := ⟨wd_2_77, wd_2_78, wd_1_14, wd_2_79, rfl, ⟨by decide +kernel, by decide +kernel, by decide +kernel⟩⟩
theorem kX11_240 : aLI RX11 240 yX4_init cX4_init 2 1 := ⟨wd_2_84, wd_2_52, wd_1_10, wd_2_53, rfl, ⟨by decide +kernel, by decide +kernel, by decide +kernel⟩⟩
theorem kX11_93 : aLSt RX11 93 yX11_isWord cX11_isWord 1 (some .boolean) 1 := ⟨wd_1_230, wd_1_187, wd_1_1, wd_1_188, ⟨by decide +kernel, by decide +kernel, by decide +kernel⟩⟩
theorem kX11_106 : aLSt RX11 106 yX11_isKind cX11_isKind 1 (some .boolean) 1 := ⟨wd_2_40, wd_2_41, wd_1_1, wd_2_42, ⟨by decide +kernel, by decide +kernel, by decide +kernel⟩⟩
theorem kX11_111 : aLSt RX11 111 yX11_manOfKind cX11_manOfKind 2 (some (.object "ReadAloud$Man")) 2 := ⟨wd_2_43, wd_2_44, wd_1_1, wd_2_45, ⟨by decide +kernel, by decide +kernel, by decide +kernel⟩⟩
theorem kX11_132 : aLSt RX11 132 yJ6_bitCount_0f7a4 cJ6_bitCount_0f7a4 1 (some .int) 1 := ⟨wd_2_183, wd_2_184, wd_1_8, wd_2_185, ⟨by decide +kernel, by decide +kernel, by decide +kernel⟩⟩
theorem kX11_152 : aLSt RX11 152 yX11_isOfKind cX11_isOfKind 2 (some .boolean) 2 := ⟨wd_2_208, wd_2_209, wd_1_1, wd_2_210, ⟨by decide +kernel, by decide +kernel, by decide +kernel⟩⟩
theorem kX11_253 : Cond.methodLink RX11 253 Lib.Math.max.name ∈ aWd := wd_2_201
theorem kX11_50 : aLV RX11 50 RX5 yX5_add cX5_add 2 (some .boolean) 1 := ⟨wd_3_19, wd_3_20, wd_3_21, wd_1_2, wd_3_22, rfl, ⟨by decide +kernel, by decide +kernel, by decide +kernel⟩⟩
theorem kX11_54 : aLV RX11 54 RX5 yX5_size cX5_size 1 (some .int) 0 := ⟨wd_1_222, wd_1_223, wd_1_224, wd_1_2, wd_1_225, rfl, ⟨by decide +kernel, by decide +kernel, by decide +kernel⟩⟩
theorem kX11_58 : aLV RX11 58 RX5 yX5_clear cX5_clear 1 none 0 := ⟨wd_1_235, wd_1_236, wd_1_237, wd_1_2, wd_1_238, rfl, ⟨by decide +kernel, by decide +kernel, by decide +kernel⟩⟩
theorem kX11_61 : aLV RX11 61 RX5 yX5_faultPlace cX5_faultPlace 2 (some .int) 0 := ⟨wd_1_170, wd_1_171, wd_1_172, wd_1_2, wd_1_173, rfl, ⟨by decide +kernel, by decide +kernel, by decide +kernel⟩⟩
theorem kX11_64 : aLV RX11 64 RX5 yX5_isCourt cX5_isCourt 1 (some .boolean) 0 := ⟨wd_1_197, wd_1_198, wd_1_199, wd_1_2, wd_1_200, rfl, ⟨by decide +kernel, by decide +kernel, by decide +kernel⟩⟩
theorem kX11_68 : aLV RX11 68 RX11 yX11_readCourt cX11_readCourt 4 none 0 := ⟨wd_1_206, wd_1_208, (aWd_p (List.mem_of_getElem? (i := 2) rfl)), wd_1_1, wd_1_209, rfl, ⟨by decide +kernel, by decide +kernel, by decide +kernel⟩⟩
theorem kX11_82 : aLV RX11 82 RX6 yX6_size cX6_size 1 (some .int) 0 := ⟨wd_1_239, wd_2_0, wd_2_1, wd_1_5, wd_2_2, rfl, ⟨by decide +kernel, by decide +kernel, by decide +kernel⟩⟩
theorem kX11_83 : aLV RX11 83 RX11 yX11_hasCourt cX11_hasCourt 1 (some .boolean) 0 := ⟨wd_2_7, wd_2_9, (aWd_p (List.mem_of_getElem? (i := 3) rfl)), wd_1_1, wd_2_10, rfl, ⟨by decide +kernel, by decide +kernel, by decide +kernel⟩⟩
theorem kX11_86 : aLV RX11 86 RX6 yX6_has cX6_has 2 (some .boolean) 1 := ⟨wd_2_15, wd_2_16, wd_2_17, wd_1_5, wd_2_18, rfl, ⟨by decide +kernel, by decide +kernel, by decide +kernel⟩⟩
theorem kX11_89 : aLV RX11 89 RX6 yX6_at cX6_at 2 (some .int) 1 := ⟨wd_2_19, wd_2_20, wd_2_21, wd_1_5, wd_2_22, rfl, ⟨by decide +kernel, by decide +kernel, by decide +kernel⟩⟩
theorem kX11_96 : aLV RX11 96 RX6 yX6_set cX6_set 3 none 2 := ⟨wd_2_28, wd_2_29, wd_2_30, wd_1_5, wd_2_31, rfl, ⟨by decide +kernel, by decide +kernel, by decide +kernel⟩⟩
theorem kX11_118 : aLV RX11 118 RX11 yX11_manOf cX11_manOf 2 (some (.object "ReadAloud$Man")) 1 := ⟨wd_2_91, wd_2_93, (aWd_p (List.mem_of_getElem? (i := 4) rfl)), wd_1_1, wd_2_94, rfl, ⟨by decide +kernel, by decide +kernel, by decide +kernel⟩⟩
theorem kX11_122_X0 : aLU RX11 122 RX0 RX4 yX4_kind yX0_kind cX0_kind 1 (some .int) 0 := ⟨wd_2_99, wd_2_102, wd_2_100, wd_2_103, wd_2_104, wd_1_12, wd_2_105, ⟨_, _, _, wd_2_115⟩, ⟨by decide +kernel, by decide +kernel, by decide +kernel⟩⟩
theorem kX11_122_X1 : aLU RX11 122 RX1 RX4 yX4_kind yX1_kind cX1_kind 1 (some .int) 0 := ⟨wd_2_99, wd_2_102, wd_2_100, wd_2_106, wd_2_107, wd_1_13, wd_2_108, ⟨_, _, _, wd_2_115⟩, ⟨by decide +kernel, by decide +kernel, by decide +kernel⟩⟩
theorem kX11_122_X4 : aLV RX11 122 RX4 yX4_kind cX4_kind 1 (some .int) 0 := ⟨wd_2_99, wd_2_100, wd_2_101, wd_1_10, wd_2_115, rfl, ⟨by decide +kernel, by decide +kernel, by decide +kernel⟩⟩
theorem kX11_122_X7 : aLU RX11 122 RX7 RX4 yX4_kind yX7_kind cX7_kind 1 (some .int) 0 := ⟨wd_2_99, wd_2_102, wd_2_100, wd_2_109, wd_2_110, wd_1_11, wd_2_111, ⟨_, _, _, wd_2_115⟩, ⟨by decide +kernel, by decide +kernel, by decide +kernel⟩⟩
theorem kX11_122_X10 : aLU RX11 122 RX10 RX4 yX4_kind yX10_kind cX10_kind 1 (some .int) 0 := ⟨wd_2_99, wd_2_102, wd_2_100, wd_2_112, wd_2_113, wd_1_14, wd_2_114, ⟨_, _, _, wd_2_115⟩, ⟨by decide +kernel, by decide +kernel, by decide +kernel⟩⟩
theorem kX11_125_X0 : aLU RX11 125 RX0 RX4 yX4_deed yX4_deed cX4_deed 1 (some .int) 0 := ⟨wd_2_116, wd_2_119, wd_2_117, wd_2_120, wd_2_117, wd_1_10, wd_2_124, ⟨_, _, _, wd_2_124⟩, ⟨by decide +kernel, by decide +kernel, by decide +kernel⟩⟩
theorem kX11_125_X1 : aLU RX11 125 RX1 RX4 yX4_deed yX4_deed cX4_deed 1 (some .int) 0 := ⟨wd_2_116, wd_2_119, wd_2_117, wd_2_121, wd_2_117, wd_1_10, wd_2_124, ⟨_, _, _, wd_2_124⟩, ⟨by decide +kernel, by decide +kernel, by decide +kernel⟩⟩
theorem kX11_125_X4 : aLV RX11 125 RX4 yX4_deed cX4_deed 1 (some .int) 0 := ⟨wd_2_116, wd_2_117, wd_2_118, wd_1_10, wd_2_124, rfl, ⟨by decide +kernel, by decide +kernel, by decide +kernel⟩⟩
theorem kX11_125_X7 : aLU RX11 125 RX7 RX4 yX4_deed yX4_deed cX4_deed 1 (some .int) 0 := ⟨wd_2_116, wd_2_119, wd_2_117, wd_2_122, wd_2_117, wd_1_10, wd_2_124, ⟨_, _, _, wd_2_124⟩, ⟨by decide +kernel, by decide +kernel, by decide +kernel⟩⟩
theorem kX11_125_X10 : aLU RX11 125 RX10 RX4 yX4_deed yX4_deed cX4_deed 1 (some .int) 0 := ⟨wd_2_116, wd_2_119, wd_2_117, wd_2_123, wd_2_117, wd_1_10, wd_2_124, ⟨_, _, _, wd_2_124⟩, ⟨by decide +kernel, by decide +kernel, by decide +kernel⟩⟩
theorem kX11_128 : aLV RX11 128 RX11 yX11_alteredBy cX11_alteredBy 3 (some .int) 2 := ⟨wd_2_125, wd_2_127, (aWd_p (List.mem_of_getElem? (i := 6) rfl)), wd_1_1, wd_2_128, rfl, ⟨by decide +kernel, by decide +kernel, by decide +kernel⟩⟩
theorem kX11_137 : aLV RX11 137 RX11 yX11_hiddenBy cX11_hiddenBy 2 (some .int) 1 := ⟨wd_2_133, wd_2_135, (aWd_p (List.mem_of_getElem? (i := 8) rfl)), wd_1_1, wd_2_136, rfl, ⟨by decide +kernel, by decide +kernel, by decide +kernel⟩⟩
theorem kX11_144 : aLV RX11 144 RX3 yX3_deedsLeft cX3_deedsLeft 4 (some .int) 1 := ⟨wd_2_189, wd_2_190, wd_2_191, wd_1_6, wd_2_192, rfl, ⟨by decide +kernel, by decide +kernel, by decide +kernel⟩⟩
theorem kX11_149 : aLV RX11 149 RX11 yX11_placeToListen cX11_placeToListen 8 (some .int) 1 := ⟨wd_2_193, wd_2_195, (aWd_p (List.mem_of_getElem? (i := 10) rfl)), wd_1_1, wd_2_196, rfl, ⟨by decide +kernel, by decide +kernel, by decide +kernel⟩⟩
theorem kX11_156 : aLV RX11 156 RX11 yX11_isAccused cX11_isAccused 2 (some .boolean) 1 := ⟨wd_2_95, wd_2_97, (aWd_p (List.mem_of_getElem? (i := 5) rfl)), wd_1_1, wd_2_98, rfl, ⟨by decide +kernel, by decide +kernel, by decide +kernel⟩⟩
theorem kX11_168 : aLV RX11 168 RX11 yX11_deedOf cX11_deedOf 3 (some .int) 1 := ⟨wd_2_129, wd_2_131, (aWd_p (List.mem_of_getElem? (i := 7) rfl)), wd_1_1, wd_2_132, rfl, ⟨by decide +kernel, by decide +kernel, by decide +kernel⟩⟩
theorem kX11_171 : aLV RX11 171 RX11 yX11_wouldAlter cX11_wouldAlter 7 (some .int) 4 := ⟨wd_2_137, wd_2_139, (aWd_p (List.mem_of_getElem? (i := 9) rfl)), wd_1_1, wd_2_140, rfl, ⟨by decide +kernel, by decide +kernel, by decide +kernel⟩⟩
theorem kX11_179 : aLV RX11 179 RX6 yX6_placesOf cX6_placesOf 4 (some .int) 1 := ⟨wd_2_182, wd_2_156, wd_2_157, wd_1_5, wd_2_158, rfl, ⟨by decide +kernel, by decide +kernel, by decide +kernel⟩⟩
theorem kX11_182 : aLV RX11 182 RX11 yX11_deedsAltering cX11_deedsAltering 6 (some .int) 2 := ⟨wd_2_197, wd_2_199, (aWd_p (List.mem_of_getElem? (i := 11) rfl)), wd_1_1, wd_2_200, rfl, ⟨by decide +kernel, by decide +kernel, by decide +kernel⟩⟩
theorem kX11_188 : aLV RX11 188 RX3 yX3_size cX3_size 1 (some .int) 0 := ⟨wd_3_47, wd_3_48, wd_3_49, wd_1_6, wd_3_50, rfl, ⟨by decide +kernel, by decide +kernel, by decide +kernel⟩⟩
theorem kX11_190 : aLV RX11 190 RX11 yX11_drawSheet cX11_drawSheet 4 (some .int) 1 := ⟨wd_2_223, wd_2_225, (aWd_p (List.mem_of_getElem? (i := 12) rfl)), wd_1_1, wd_2_226, rfl, ⟨by decide +kernel, by decide +kernel, by decide +kernel⟩⟩
theorem kX11_193 : aLV RX11 193 RX11 yX11_hangingAt cX11_hangingAt 4 (some .int) 1 := ⟨wd_2_231, wd_2_233, (aWd_p (List.mem_of_getElem? (i := 13) rfl)), wd_1_1, wd_2_234, rfl, ⟨by decide +kernel, by decide +kernel, by decide +kernel⟩⟩
theorem kX11_197 : aLV RX11 197 RX11 yX11_allAltering cX11_allAltering 4 (some .int) 1 := ⟨wd_2_235, wd_2_237, (aWd_p (List.mem_of_getElem? (i := 14) rfl)), wd_1_1, wd_2_238, rfl, ⟨by decide +kernel, by decide +kernel, by decide +kernel⟩⟩
theorem kX11_204 : aLV RX11 204 RX6 yX6_unlikeWords cX6_unlikeWords 3 (some .int) 0 := ⟨wd_3_42, wd_3_43, wd_3_44, wd_1_5, wd_3_45, rfl, ⟨by decide +kernel, by decide +kernel, by decide +kernel⟩⟩
theorem kX11_220 : aLV RX11 220 RX5 yX5_codeAt cX5_codeAt 2 (some .int) 1 := ⟨wd_1_226, wd_1_227, wd_1_228, wd_1_2, wd_1_229, rfl, ⟨by decide +kernel, by decide +kernel, by decide +kernel⟩⟩
theorem kX11_241 : aLV RX11 241 RX8 yX8_begin cX8_begin 1 none 0 := ⟨wd_1_210, wd_1_211, wd_1_212, wd_1_4, wd_1_213, rfl, ⟨by decide +kernel, by decide +kernel, by decide +kernel⟩⟩
theorem kX11_244 : aLV RX11 244 RX6 yX6_add cX6_add 2 none 1 := ⟨wd_1_231, wd_1_232, wd_1_233, wd_1_5, wd_1_234, rfl, ⟨by decide +kernel, by decide +kernel, by decide +kernel⟩⟩
theorem kX11_246_X0 : aLU RX11 246 RX0 RX4 yX4_placesByDeed yX0_placesByDeed cX0_placesByDeed 3 (some .int) 2 := ⟨wd_2_141, wd_2_144, wd_2_142, wd_2_145, wd_2_146, wd_1_12, wd_2_147, ⟨_, _, _, wd_2_165⟩, ⟨by decide +kernel, by decide +kernel, by decide +kernel⟩⟩
theorem kX11_246_X1 : aLU RX11 246 RX1 RX4 yX4_placesByDeed yX1_placesByDeed cX1_placesByDeed 3 (some .int) 2 := ⟨wd_2_141, wd_2_144, wd_2_142, wd_2_152, wd_2_153, wd_1_13, wd_2_154, ⟨_, _, _, wd_2_165⟩, ⟨by decide +kernel, by decide +kernel, by decide +kernel⟩⟩
theorem kX11_246_X4 : aLV RX11 246 RX4 yX4_placesByDeed cX4_placesByDeed 3 (some .int) 2 := ⟨wd_2_141, wd_2_142, wd_2_143, wd_1_10, wd_2_165, rfl, ⟨by decide +kernel, by decide +kernel, by decide +kernel⟩⟩
theorem kX11_246_X7 : aLU RX11 246 RX7 RX4 yX4_placesByDeed yX4_placesByDeed cX4_placesByDeed 3 (some .int) 2 := ⟨wd_2_141, wd_2_144, wd_2_142, wd_2_163, wd_2_142, wd_1_10, wd_2_165, ⟨_, _, _, wd_2_165⟩, ⟨by decide +kernel, by decide +kernel, by decide +kernel⟩⟩
theorem kX11_246_X10 : aLU RX11 246 RX10 RX4 yX4_placesByDeed yX4_placesByDeed cX4_placesByDeed 3 (some .int) 2 := ⟨wd_2_141, wd_2_144, wd_2_142, wd_2_164, wd_2_142, wd_1_10, wd_2_165, ⟨_, _, _, wd_2_165⟩, ⟨by decide +kernel, by decide +kernel, by decide +kernel⟩⟩
theorem kX11_250_X0 : aLU RX11 250 RX0 RX4 yX4_placesAnyhow yX4_placesAnyhow cX4_placesAnyhow 2 (some .int) 1 := ⟨wd_2_167, wd_2_170, wd_2_168, wd_2_171, wd_2_168, wd_1_10, wd_2_181, ⟨_, _, _, wd_2_181⟩, ⟨by decide +kernel, by decide +kernel, by decide +kernel⟩⟩
theorem kX11_250_X1 : aLU RX11 250 RX1 RX4 yX4_placesAnyhow yX4_placesAnyhow cX4_placesAnyhow 2 (some .int) 1 := ⟨wd_2_167, wd_2_170, wd_2_168, wd_2_172, wd_2_168, wd_1_10, wd_2_181, ⟨_, _, _, wd_2_181⟩, ⟨by decide +kernel, by decide +kernel, by decide +kernel⟩⟩
theorem kX11_250_X4 : aLV RX11 250 RX4 yX4_placesAnyhow cX4_placesAnyhow 2 (some .int) 1 := ⟨wd_2_167, wd_2_168, wd_2_169, wd_1_10, wd_2_181, rfl, ⟨by decide +kernel, by decide +kernel, by decide +kernel⟩⟩
theorem kX11_250_X7 : aLU RX11 250 RX7 RX4 yX4_placesAnyhow yX7_placesAnyhow cX7_placesAnyhow 2 (some .int) 1 := ⟨wd_2_167, wd_2_170, wd_2_168, wd_2_173, wd_2_174, wd_1_11, wd_2_175, ⟨_, _, _, wd_2_181⟩, ⟨by decide +kernel, by decide +kernel, by decide +kernel⟩⟩
theorem kX11_250_X10 : aLU RX11 250 RX10 RX4 yX4_placesAnyhow yX10_placesAnyhow cX10_placesAnyhow 2 (some .int) 1 := ⟨wd_2_167, wd_2_170, wd_2_168, wd_2_176, wd_2_177, wd_1_14, wd_2_178, ⟨_, _, _, wd_2_181⟩, ⟨by decide +kernel, by decide +kernel, by decide +kernel⟩⟩
theorem kX11_261 : aLV RX11 261 RX6 yX6_clear cX6_clear 1 none 0 := ⟨wd_2_227, wd_1_215, wd_1_216, wd_1_5, wd_1_217, rfl, ⟨by decide +kernel, by decide +kernel, by decide +kernel⟩⟩
theorem kX2_3 : Cond.methodLink RX2 3 Lib.objectInit ∈ aWd := wd_1_125
theorem kX3_3 : Cond.methodLink RX3 3 Lib.objectInit ∈ aWd := wd_1_82
theorem kX4_1 : Cond.methodLink RX4 1 Lib.objectInit ∈ aWd := wd_2_54
theorem kX4_13 : aLV RX4 13 RX6 yX6_placesOf cX6_placesOf 4 (some .int) 1 := ⟨wd_2_166, wd_2_156, wd_2_157, wd_1_5, wd_2_158, rfl, ⟨by decide +kernel, by decide +kernel, by decide +kernel⟩⟩
theorem kX5_3 : Cond.methodLink RX5 3 Lib.objectInit ∈ aWd := wd_1_28
theorem kX5_17 : aLIn RX5 17 yX9_init "ReadAloud" cX9_init 1 0 := ⟨List.mem_of_getElem? (i := 1) rfl, wd_1_32, wd_1_3, wd_1_33, rfl, ⟨by decide +kernel, by decide +kernel, by decide +kernel⟩⟩
theorem kX5_26 : aLV RX5 26 RX9 yX9_begin cX9_begin 1 none 0 := ⟨wd_1_174, wd_1_175, wd_1_176, wd_1_3, wd_1_177, rfl, ⟨by decide +kernel, by decide +kernel, by decide +kernel⟩⟩
theorem kX5_29 : aLV RX5 29 RX9 yX9_passes cX9_passes 3 (some .boolean) 1 := ⟨wd_1_182, wd_1_183, wd_1_184, wd_1_3, wd_1_185, rfl, ⟨by decide +kernel, by decide +kernel, by decide +kernel⟩⟩
theorem kX5_33 : aLV RX5 33 RX5 yX5_faultPlace cX5_faultPlace 2 (some .int) 0 := ⟨wd_1_201, wd_1_171, wd_1_172, wd_1_2, wd_1_173, rfl, ⟨by decide +kernel, by decide +kernel, by decide +kernel⟩⟩
theorem kX5_37 : aLV RX5 37 RX9 yX9_isWhole cX9_isWhole 1 (some .boolean) 0 := ⟨wd_1_202, wd_1_203, wd_1_204, wd_1_3, wd_1_205, rfl, ⟨by decide +kernel, by decide +kernel, by decide +kernel⟩⟩
theorem kX6_3 : Cond.methodLink RX6 3 Lib.objectInit ∈ aWd := wd_1_69
theorem kX6_29 : aLSt RX6 29 yJ6_bitCount_0f7a4 cJ6_bitCount_0f7a4 1 (some .int) 1 := ⟨wd_3_46, wd_2_184, wd_1_8, wd_2_185, ⟨by decide +kernel, by decide +kernel, by decide +kernel⟩⟩
theorem kX6_19 : aLV RX6 19 RX6 yX6_has cX6_has 2 (some .boolean) 1 := ⟨wd_2_23, wd_2_16, wd_2_17, wd_1_5, wd_2_18, rfl, ⟨by decide +kernel, by decide +kernel, by decide +kernel⟩⟩
theorem kX7_1 : aLI RX7 1 yX4_init cX4_init 2 1 := ⟨wd_2_51, wd_2_52, wd_1_10, wd_2_53, rfl, ⟨by decide +kernel, by decide +kernel, by decide +kernel⟩⟩
theorem kX8_3 : Cond.methodLink RX8 3 Lib.objectInit ∈ aWd := wd_1_63
theorem kX8_11 : aLIn RX8 11 yX6_init "ReadAloud" cX6_init 1 0 := ⟨List.mem_of_getElem? (i := 3) rfl, wd_1_67, wd_1_5, wd_1_68, rfl, ⟨by decide +kernel, by decide +kernel, by decide +kernel⟩⟩
theorem kX8_20 : aLIn RX8 20 yX3_init "ReadAloud" cX3_init 1 0 := ⟨List.mem_of_getElem? (i := 4) rfl, wd_1_80, wd_1_6, wd_1_81, rfl, ⟨by decide +kernel, by decide +kernel, by decide +kernel⟩⟩
theorem kX8_29 : aLV RX8 29 RX6 yX6_clear cX6_clear 1 none 0 := ⟨wd_1_214, wd_1_215, wd_1_216, wd_1_5, wd_1_217, rfl, ⟨by decide +kernel, by decide +kernel, by decide +kernel⟩⟩
theorem kX8_32 : aLV RX8 32 RX3 yX3_clear cX3_clear 1 none 0 := ⟨wd_1_218, wd_1_219, wd_1_220, wd_1_6, wd_1_221, rfl, ⟨by decide +kernel, by decide +kernel, by decide +kernel⟩⟩
theorem kX9_3 : Cond.methodLink RX9 3 Lib.objectInit ∈ aWd := wd_1_34
theorem kX9_15 : aLSn RX9 15 yX11_isWord "ReadAloud" cX11_isWord 1 (some .boolean) 1 := ⟨List.mem_of_getElem? (i := 7) rfl, wd_1_187, wd_1_1, wd_1_188, ⟨by decide +kernel, by decide +kernel, by decide +kernel⟩⟩
theorem kX9_9 : aLV RX9 9 RX9 yX9_enter cX9_enter 2 none 1 := ⟨wd_1_178, wd_1_180, (aWd_p (List.mem_of_getElem? (i := 0) rfl)), wd_1_3, wd_1_181, rfl, ⟨by decide +kernel, by decide +kernel, by decide +kernel⟩⟩
theorem kX9_19 : aLV RX9 19 RX9 yX9_passesWord cX9_passesWord 3 (some .boolean) 1 := ⟨wd_1_189, wd_1_191, (aWd_p (List.mem_of_getElem? (i := 1) rfl)), wd_1_3, wd_1_192, rfl, ⟨by decide +kernel, by decide +kernel, by decide +kernel⟩⟩
theorem lJ6_265 : Cond.constant RJ6 265 (1431655765) ∈ aWd := wd_2_186
theorem lJ6_266 : Cond.constant RJ6 266 (858993459) ∈ aWd := wd_2_187
theorem lJ6_267 : Cond.constant RJ6 267 (252645135) ∈ aWd := wd_2_188
theorem lL_7 : Cond.constant RL 7 (747796405) ∈ aWd := wd_3_2
theorem lL_23 : Cond.classLink RL 23 RX11 ∈ aWd := wd_1_15
theorem lL_93 : Cond.constant RL 93 (2147483647) ∈ aWd := wd_3_65
theorem lL_108 : Cond.constantLong RL 108 (1103515245) ∈ aWd := wd_3_60
theorem lL_110 : Cond.constantLong RL 110 (12345) ∈ aWd := wd_3_61
theorem lL_112 : Cond.constantLong RL 112 (2147483648) ∈ aWd := wd_3_62
theorem lL_114 : Cond.constantLong RL 114 (65536) ∈ aWd := wd_3_63
theorem lL_116 : Cond.constantLong RL 116 (8) ∈ aWd := wd_3_64
theorem lX11_7 : Cond.classLink RX11 7 RX5 ∈ aWd := wd_1_23
theorem lX11_20 : Cond.classLink RX11 20 RX4 ∈ aWd := wd_1_56
theorem lX11_26 : Cond.classLink RX11 26 RX8 ∈ aWd := wd_1_58
theorem lX11_36 : Cond.classLink RX11 36 RX6 ∈ aWd := wd_1_118
theorem lX11_43 : Cond.classLink RX11 43 RX2 ∈ aWd := wd_1_120
theorem lX11_226 : Cond.classLink RX11 226 RX7 ∈ aWd := wd_2_46
theorem lX11_231 : Cond.classLink RX11 231 RX0 ∈ aWd := wd_2_59
theorem lX11_234 : Cond.classLink RX11 234 RX1 ∈ aWd := wd_2_67
theorem lX11_237 : Cond.classLink RX11 237 RX10 ∈ aWd := wd_2_75
theorem lX11_262 : Cond.constant RX11 262 (1103515245) ∈ aWd := wd_2_228
theorem lX11_263 : Cond.constant RX11 263 (2147483647) ∈ aWd := wd_2_229
theorem lX11_264 : Cond.constant RX11 264 (65536) ∈ aWd := wd_2_230
theorem lX5_15 : Cond.classLink RX5 15 RX9 ∈ aWd := wd_1_29
theorem lX8_9 : Cond.classLink RX8 9 RX6 ∈ aWd := wd_1_64
theorem lX8_18 : Cond.classLink RX8 18 RX3 ∈ aWd := wd_1_77
theorem nX0 : Cond.instantiable RX0 1 ∈ aWd := wd_2_60
theorem iX0 : Cond.initialized RX0 ∈ aWd := wd_1_12
theorem nX1 : Cond.instantiable RX1 1 ∈ aWd := wd_2_68
theorem iX1 : Cond.initialized RX1 ∈ aWd := wd_1_13
theorem nX2 : Cond.instantiable RX2 3 ∈ aWd := wd_1_121
theorem iX2 : Cond.initialized RX2 ∈ aWd := wd_1_7
theorem nX3 : Cond.instantiable RX3 3 ∈ aWd := wd_1_78
theorem iX3 : Cond.initialized RX3 ∈ aWd := wd_1_6
theorem nX4 : Cond.instantiable RX4 1 ∈ aWd := wd_2_83
theorem iX4 : Cond.initialized RX4 ∈ aWd := wd_1_10
theorem nX5 : Cond.instantiable RX5 3 ∈ aWd := wd_1_24
theorem iX5 : Cond.initialized RX5 ∈ aWd := wd_1_2
theorem nX6 : Cond.instantiable RX6 2 ∈ aWd := wd_1_65
theorem iX6 : Cond.initialized RX6 ∈ aWd := wd_1_5
theorem nX7 : Cond.instantiable RX7 1 ∈ aWd := wd_2_47
theorem iX7 : Cond.initialized RX7 ∈ aWd := wd_1_11
theorem nX8 : Cond.instantiable RX8 6 ∈ aWd := wd_1_59
theorem iX8 : Cond.initialized RX8 ∈ aWd := wd_1_4
theorem nX9 : Cond.instantiable RX9 3 ∈ aWd := wd_1_30
theorem iX9 : Cond.initialized RX9 ∈ aWd := wd_1_3
theorem nX10 : Cond.instantiable RX10 1 ∈ aWd := wd_2_76
theorem iX10 : Cond.initialized RX10 ∈ aWd := wd_1_14
theorem nX11 : Cond.instantiable RX11 10 ∈ aWd := wd_1_16
theorem iX11 : Cond.initialized RX11 ∈ aWd := wd_1_1
end
section
theorem eX0_init_0 : aAL cX0_init 0 0 1 := Or.inl ⟨0, by decide +kernel, rfl, rfl⟩
theorem eX0_init_1 : aIL cX0_init 1 1 2 := Or.inl ⟨1, by decide +kernel, rfl, rfl⟩
theorem eX0_init_2 : aI3 cX0_init 2 (.invokespecial 1) 5 := ⟨by decide +kernel, rfl⟩
theorem eX0_init_5 : aRet cX0_init none 5 none := Or.inl ⟨rfl, rfl, by decide +kernel⟩
theorem eX0_kind_0 : aPI cX0_kind 0 (nI 2) 1 := Or.inl ⟨2, by decide +kernel, by decide +kernel, rfl⟩
theorem eX0_kind_1 : ∀ x : Int32, aRet cX0_kind (some .int) 1 (some (.int x)) := fun x => Or.inr (Or.inl ⟨x, _, rfl, rfl, rfl, by decide +kernel⟩)
theorem eX0_placesByDeed_0 : aAL cX0_placesByDeed 0 1 1 := Or.inl ⟨1, by decide +kernel, rfl, rfl⟩
theorem eX0_placesByDeed_1 : aIL cX0_placesByDeed 1 2 2 := Or.inl ⟨2, by decide +kernel, rfl, rfl⟩
theorem eX0_placesByDeed_2 : aI3 cX0_placesByDeed 2 (.invokevirtual 7) 5 := ⟨by decide +kernel, rfl⟩
theorem eX0_placesByDeed_5 : ∀ x : Int32, aRet cX0_placesByDeed (some .int) 5 (some (.int x)) := fun x => Or.inr (Or.inl ⟨x, _, rfl, rfl, rfl, by decide +kernel⟩)
theorem eX1_init_0 : aAL cX1_init 0 0 1 := Or.inl ⟨0, by decide +kernel, rfl, rfl⟩
theorem eX1_init_1 : aIL cX1_init 1 1 2 := Or.inl ⟨1, by decide +kernel, rfl, rfl⟩
theorem eX1_init_2 : aI3 cX1_init 2 (.invokespecial 1) 5 := ⟨by decide +kernel, rfl⟩
theorem eX1_init_5 : aRet cX1_init none 5 none := Or.inl ⟨rfl, rfl, by decide +kernel⟩
theorem eX1_kind_0 : aPI cX1_kind 0 (nI 3) 1 := Or.inl ⟨3, by decide +kernel, by decide +kernel, rfl⟩
theorem eX1_kind_1 : ∀ x : Int32, aRet cX1_kind (some .int) 1 (some (.int x)) := fun x => Or.inr (Or.inl ⟨x, _, rfl, rfl, rfl, by decide +kernel⟩)
theorem eX1_placesByDeed_0 : aAL cX1_placesByDeed 0 1 1 := Or.inl ⟨1, by decide +kernel, rfl, rfl⟩
theorem eX1_placesByDeed_1 : aAL cX1_placesByDeed 1 1 2 := Or.inl ⟨1, by decide +kernel, rfl, rfl⟩
theorem eX1_placesByDeed_2 : aIL cX1_placesByDeed 2 2 3 := Or.inl ⟨2, by decide +kernel, rfl, rfl⟩
theorem eX1_placesByDeed_3 : aI3 cX1_placesByDeed 3 (.invokevirtual 7) 6 := ⟨by decide +kernel, rfl⟩
theorem eX1_placesByDeed_6 : aI3 cX1_placesByDeed 6 (.invokevirtual 13) 9 := ⟨by decide +kernel, rfl⟩
theorem eX1_placesByDeed_9 : ∀ x : Int32, aRet cX1_placesByDeed (some .int) 9 (some (.int x)) := fun x => Or.inr (Or.inl ⟨x, _, rfl, rfl, rfl, by decide +kernel⟩)
theorem eX2_init_0 : aAL cX2_init 0 0 1 := Or.inl ⟨0, by decide +kernel, rfl, rfl⟩
theorem eX2_init_1 : aI3 cX2_init 1 (.invokespecial 3) 4 := ⟨by decide +kernel, rfl⟩
theorem eX2_init_4 : aAL cX2_init 4 0 5 := Or.inl ⟨0, by decide +kernel, rfl, rfl⟩
theorem eX2_init_5 : aPI cX2_init 5 (nI 8) 7 := Or.inr (Or.inl ⟨8, by decide +kernel, by decide +kernel, rfl⟩)
theorem eX2_init_7 : aI2 cX2_init 7 (.newarray .int) 9 := ⟨by decide +kernel, rfl⟩
theorem eX2_init_9 : aI3 cX2_init 9 (.putfield 9) 12 := ⟨by decide +kernel, rfl⟩
theorem eX2_init_12 : aAL cX2_init 12 0 13 := Or.inl ⟨0, by decide +kernel, rfl, rfl⟩
theorem eX2_init_13 : aPI cX2_init 13 (nI 4) 14 := Or.inl ⟨4, by decide +kernel, by decide +kernel, rfl⟩
theorem eX2_init_14 : aI2 cX2_init 14 (.newarray .int) 16 := ⟨by decide +kernel, rfl⟩
theorem eX2_init_16 : aI3 cX2_init 16 (.putfield 15) 19 := ⟨by decide +kernel, rfl⟩
theorem eX2_init_19 : aRet cX2_init none 19 none := Or.inl ⟨rfl, rfl, by decide +kernel⟩
theorem eX3_init_0 : aAL cX3_init 0 0 1 := Or.inl ⟨0, by decide +kernel, rfl, rfl⟩
theorem eX3_init_1 : aI3 cX3_init 1 (.invokespecial 3) 4 := ⟨by decide +kernel, rfl⟩
theorem eX3_init_4 : aAL cX3_init 4 0 5 := Or.inl ⟨0, by decide +kernel, rfl, rfl⟩
theorem eX3_init_5 : aPI cX3_init 5 (nI 8) 7 := Or.inr (Or.inl ⟨8, by decide +kernel, by decide +kernel, rfl⟩)
theorem eX3_init_7 : aI2 cX3_init 7 (.newarray .int) 9 := ⟨by decide +kernel, rfl⟩
theorem eX3_init_9 : aI3 cX3_init 9 (.putfield 9) 12 := ⟨by decide +kernel, rfl⟩
theorem eX3_init_12 : aAL cX3_init 12 0 13 := Or.inl ⟨0, by decide +kernel, rfl, rfl⟩
theorem eX3_init_13 : aPI cX3_init 13 (nI 8) 15 := Or.inr (Or.inl ⟨8, by decide +kernel, by decide +kernel, rfl⟩)
theorem eX3_init_15 : aI2 cX3_init 15 (.newarray .int) 17 := ⟨by decide +kernel, rfl⟩
theorem eX3_init_17 : aI3 cX3_init 17 (.putfield 15) 20 := ⟨by decide +kernel, rfl⟩
theorem eX3_init_20 : aRet cX3_init none 20 none := Or.inl ⟨rfl, rfl, by decide +kernel⟩
theorem eX3_size_0 : aAL cX3_size 0 0 1 := Or.inl ⟨0, by decide +kernel, rfl, rfl⟩
theorem eX3_size_1 : aI3 cX3_size 1 (.getfield 18) 4 := ⟨by decide +kernel, rfl⟩
theorem eX3_size_4 : ∀ x : Int32, aRet cX3_size (some .int) 4 (some (.int x)) := fun x => Or.inr (Or.inl ⟨x, _, rfl, rfl, rfl, by decide +kernel⟩)
theorem eX3_clear_0 : aAL cX3_clear 0 0 1 := Or.inl ⟨0, by decide +kernel, rfl, rfl⟩
theorem eX3_clear_1 : aPI cX3_clear 1 (nI 0) 2 := Or.inl ⟨0, by decide +kernel, by decide +kernel, rfl⟩
theorem eX3_clear_2 : aI3 cX3_clear 2 (.putfield 18) 5 := ⟨by decide +kernel, rfl⟩
theorem eX3_clear_5 : aRet cX3_clear none 5 none := Or.inl ⟨rfl, rfl, by decide +kernel⟩
theorem eX3_deedsLeft_0 : aPI cX3_deedsLeft 0 (nI 31) 2 := Or.inr (Or.inl ⟨31, by decide +kernel, by decide +kernel, rfl⟩)
theorem eX3_deedsLeft_2 : aIS cX3_deedsLeft 2 2 3 := Or.inl ⟨2, by decide +kernel, rfl, rfl⟩
theorem eX3_deedsLeft_3 : aPI cX3_deedsLeft 3 (nI 0) 4 := Or.inl ⟨0, by decide +kernel, by decide +kernel, rfl⟩
theorem eX3_deedsLeft_4 : aIS cX3_deedsLeft 4 3 5 := Or.inl ⟨3, by decide +kernel, rfl, rfl⟩
theorem eX3_deedsLeft_5 : aIL cX3_deedsLeft 5 3 6 := Or.inl ⟨3, by decide +kernel, rfl, rfl⟩
theorem eX3_deedsLeft_6 : aAL cX3_deedsLeft 6 0 7 := Or.inl ⟨0, by decide +kernel, rfl, rfl⟩
theorem eX3_deedsLeft_7 : aI3 cX3_deedsLeft 7 (.getfield 18) 10 := ⟨by decide +kernel, rfl⟩
theorem eX3_deedsLeft_10 : aIc_ge cX3_deedsLeft 10 13 38 := ⟨28, by decide +kernel, rfl, by decide⟩
theorem eX3_deedsLeft_13 : aAL cX3_deedsLeft 13 0 14 := Or.inl ⟨0, by decide +kernel, rfl, rfl⟩
theorem eX3_deedsLeft_14 : aI3 cX3_deedsLeft 14 (.getfield 9) 17 := ⟨by decide +kernel, rfl⟩
theorem eX3_deedsLeft_17 : aIL cX3_deedsLeft 17 3 18 := Or.inl ⟨3, by decide +kernel, rfl, rfl⟩
theorem eX3_deedsLeft_18 : aI1 cX3_deedsLeft 18 (.iaload) 19 := ⟨by decide +kernel, rfl⟩
theorem eX3_deedsLeft_19 : aIL cX3_deedsLeft 19 1 20 := Or.inl ⟨1, by decide +kernel, rfl, rfl⟩
theorem eX3_deedsLeft_20 : aIc_ne cX3_deedsLeft 20 23 32 := ⟨12, by decide +kernel, rfl, by decide⟩
theorem eX3_deedsLeft_23 : aIL cX3_deedsLeft 23 2 24 := Or.inl ⟨2, by decide +kernel, rfl, rfl⟩
theorem eX3_deedsLeft_24 : aAL cX3_deedsLeft 24 0 25 := Or.inl ⟨0, by decide +kernel, rfl, rfl⟩
theorem eX3_deedsLeft_25 : aI3 cX3_deedsLeft 25 (.getfield 15) 28 := ⟨by decide +kernel, rfl⟩
theorem eX3_deedsLeft_28 : aIL cX3_deedsLeft 28 3 29 := Or.inl ⟨3, by decide +kernel, rfl, rfl⟩
theorem eX3_deedsLeft_29 : aI1 cX3_deedsLeft 29 (.iaload) 30 := ⟨by decide +kernel, rfl⟩
theorem eX3_deedsLeft_30 : aI1 cX3_deedsLeft 30 (.iand) 31 := ⟨by decide +kernel, rfl⟩
theorem eX3_deedsLeft_31 : aIS cX3_deedsLeft 31 2 32 := Or.inl ⟨2, by decide +kernel, rfl, rfl⟩
theorem eX3_deedsLeft_32 : aII cX3_deedsLeft 32 3 (nI 1) 35 := ⟨1, by decide +kernel, by decide +kernel, rfl⟩
theorem eX3_deedsLeft_35 : aGo cX3_deedsLeft 35 5 := ⟨(-30), by decide +kernel, by decide⟩
theorem eX3_deedsLeft_38 : aIL cX3_deedsLeft 38 2 39 := Or.inl ⟨2, by decide +kernel, rfl, rfl⟩
theorem eX3_deedsLeft_39 : ∀ x : Int32, aRet cX3_deedsLeft (some .int) 39 (some (.int x)) := fun x => Or.inr (Or.inl ⟨x, _, rfl, rfl, rfl, by decide +kernel⟩)
theorem eX4_init_0 : aAL cX4_init 0 0 1 := Or.inl ⟨0, by decide +kernel, rfl, rfl⟩
theorem eX4_init_1 : aI3 cX4_init 1 (.invokespecial 1) 4 := ⟨by decide +kernel, rfl⟩
theorem eX4_init_4 : aAL cX4_init 4 0 5 := Or.inl ⟨0, by decide +kernel, rfl, rfl⟩
theorem eX4_init_5 : aIL cX4_init 5 1 6 := Or.inl ⟨1, by decide +kernel, rfl, rfl⟩
theorem eX4_init_6 : aI3 cX4_init 6 (.putfield 7) 9 := ⟨by decide +kernel, rfl⟩
theorem eX4_init_9 : aRet cX4_init none 9 none := Or.inl ⟨rfl, rfl, by decide +kernel⟩
theorem eX4_deed_0 : aAL cX4_deed 0 0 1 := Or.inl ⟨0, by decide +kernel, rfl, rfl⟩
theorem eX4_deed_1 : aI3 cX4_deed 1 (.getfield 7) 4 := ⟨by decide +kernel, rfl⟩
theorem eX4_deed_4 : ∀ x : Int32, aRet cX4_deed (some .int) 4 (some (.int x)) := fun x => Or.inr (Or.inl ⟨x, _, rfl, rfl, rfl, by decide +kernel⟩)
theorem eX4_kind_0 : aPI cX4_kind 0 (nI 0) 1 := Or.inl ⟨0, by decide +kernel, by decide +kernel, rfl⟩
theorem eX4_kind_1 : ∀ x : Int32, aRet cX4_kind (some .int) 1 (some (.int x)) := fun x => Or.inr (Or.inl ⟨x, _, rfl, rfl, rfl, by decide +kernel⟩)
theorem eX4_placesByDeed_0 : aAL cX4_placesByDeed 0 1 1 := Or.inl ⟨1, by decide +kernel, rfl, rfl⟩
theorem eX4_placesByDeed_1 : aIL cX4_placesByDeed 1 2 2 := Or.inl ⟨2, by decide +kernel, rfl, rfl⟩
theorem eX4_placesByDeed_2 : aI3 cX4_placesByDeed 2 (.invokevirtual 13) 5 := ⟨by decide +kernel, rfl⟩
theorem eX4_placesByDeed_5 : ∀ x : Int32, aRet cX4_placesByDeed (some .int) 5 (some (.int x)) := fun x => Or.inr (Or.inl ⟨x, _, rfl, rfl, rfl, by decide +kernel⟩)
theorem eX4_placesAnyhow_0 : aPI cX4_placesAnyhow 0 (nI 0) 1 := Or.inl ⟨0, by decide +kernel, by decide +kernel, rfl⟩
theorem eX4_placesAnyhow_1 : ∀ x : Int32, aRet cX4_placesAnyhow (some .int) 1 (some (.int x)) := fun x => Or.inr (Or.inl ⟨x, _, rfl, rfl, rfl, by decide +kernel⟩)
theorem eX5_init_0 : aAL cX5_init 0 0 1 := Or.inl ⟨0, by decide +kernel, rfl, rfl⟩
theorem eX5_init_1 : aI3 cX5_init 1 (.invokespecial 3) 4 := ⟨by decide +kernel, rfl⟩
theorem eX5_init_4 : aAL cX5_init 4 0 5 := Or.inl ⟨0, by decide +kernel, rfl, rfl⟩
theorem eX5_init_5 : aPI cX5_init 5 (nI 28) 7 := Or.inr (Or.inl ⟨28, by decide +kernel, by decide +kernel, rfl⟩)
theorem eX5_init_7 : aI2 cX5_init 7 (.newarray .int) 9 := ⟨by decide +kernel, rfl⟩
theorem eX5_init_9 : aI3 cX5_init 9 (.putfield 9) 12 := ⟨by decide +kernel, rfl⟩
theorem eX5_init_12 : aAL cX5_init 12 0 13 := Or.inl ⟨0, by decide +kernel, rfl, rfl⟩
theorem eX5_init_13 : aI3 cX5_init 13 (.new 15) 16 := ⟨by decide +kernel, rfl⟩
theorem eX5_init_16 : aI1 cX5_init 16 (.dup) 17 := ⟨by decide +kernel, rfl⟩
theorem eX5_init_17 : aI3 cX5_init 17 (.invokespecial 17) 20 := ⟨by decide +kernel, rfl⟩
theorem eX5_init_20 : aI3 cX5_init 20 (.putfield 18) 23 := ⟨by decide +kernel, rfl⟩
theorem eX5_init_23 : aRet cX5_init none 23 none := Or.inl ⟨rfl, rfl, by decide +kernel⟩
theorem eX5_size_0 : aAL cX5_size 0 0 1 := Or.inl ⟨0, by decide +kernel, rfl, rfl⟩
theorem eX5_size_1 : aI3 cX5_size 1 (.getfield 22) 4 := ⟨by decide +kernel, rfl⟩
theorem eX5_size_4 : ∀ x : Int32, aRet cX5_size (some .int) 4 (some (.int x)) := fun x => Or.inr (Or.inl ⟨x, _, rfl, rfl, rfl, by decide +kernel⟩)
theorem eX5_codeAt_0 : aIL cX5_codeAt 0 1 1 := Or.inl ⟨1, by decide +kernel, rfl, rfl⟩
theorem eX5_codeAt_1 : aIf_lt cX5_codeAt 1 4 21 := ⟨20, by decide +kernel, rfl, by decide⟩
theorem eX5_codeAt_4 : aIL cX5_codeAt 4 1 5 := Or.inl ⟨1, by decide +kernel, rfl, rfl⟩
theorem eX5_codeAt_5 : aAL cX5_codeAt 5 0 6 := Or.inl ⟨0, by decide +kernel, rfl, rfl⟩
theorem eX5_codeAt_6 : aI3 cX5_codeAt 6 (.getfield 22) 9 := ⟨by decide +kernel, rfl⟩
theorem eX5_codeAt_9 : aIc_ge cX5_codeAt 9 12 21 := ⟨12, by decide +kernel, rfl, by decide⟩
theorem eX5_codeAt_12 : aAL cX5_codeAt 12 0 13 := Or.inl ⟨0, by decide +kernel, rfl, rfl⟩
theorem eX5_codeAt_13 : aI3 cX5_codeAt 13 (.getfield 9) 16 := ⟨by decide +kernel, rfl⟩
theorem eX5_codeAt_16 : aIL cX5_codeAt 16 1 17 := Or.inl ⟨1, by decide +kernel, rfl, rfl⟩
theorem eX5_codeAt_17 : aI1 cX5_codeAt 17 (.iaload) 18 := ⟨by decide +kernel, rfl⟩
theorem eX5_codeAt_18 : aGo cX5_codeAt 18 22 := ⟨4, by decide +kernel, by decide⟩
theorem eX5_codeAt_21 : aPI cX5_codeAt 21 (-1) 22 := Or.inl ⟨(-1), by decide +kernel, by decide +kernel, rfl⟩
theorem eX5_codeAt_22 : ∀ x : Int32, aRet cX5_codeAt (some .int) 22 (some (.int x)) := fun x => Or.inr (Or.inl ⟨x, _, rfl, rfl, rfl, by decide +kernel⟩)
theorem eX5_add_0 : aAL cX5_add 0 0 1 := Or.inl ⟨0, by decide +kernel, rfl, rfl⟩
theorem eX5_add_1 : aI3 cX5_add 1 (.getfield 22) 4 := ⟨by decide +kernel, rfl⟩
theorem eX5_add_4 : aAL cX5_add 4 0 5 := Or.inl ⟨0, by decide +kernel, rfl, rfl⟩
theorem eX5_add_5 : aI3 cX5_add 5 (.getfield 9) 8 := ⟨by decide +kernel, rfl⟩
theorem eX5_add_8 : aI1 cX5_add 8 (.arraylength) 9 := ⟨by decide +kernel, rfl⟩
theorem eX5_add_9 : aIc_lt cX5_add 9 12 14 := ⟨5, by decide +kernel, rfl, by decide⟩
theorem eX5_add_12 : aPI cX5_add 12 (nI 0) 13 := Or.inl ⟨0, by decide +kernel, by decide +kernel, rfl⟩
theorem eX5_add_13 : ∀ x : Int32, (x = 0 ∨ x = 1) → aRet cX5_add (some .boolean) 13 (some (.int x)) := fun x h => Or.inr (Or.inl ⟨x, _, rfl, rfl, by rcases h with rfl | rfl <;> decide +kernel, by decide +kernel⟩)
theorem eX5_add_14 : aAL cX5_add 14 0 15 := Or.inl ⟨0, by decide +kernel, rfl, rfl⟩
theorem eX5_add_15 : aI3 cX5_add 15 (.getfield 9) 18 := ⟨by decide +kernel, rfl⟩
theorem eX5_add_18 : aAL cX5_add 18 0 19 := Or.inl ⟨0, by decide +kernel, rfl, rfl⟩
theorem eX5_add_19 : aI3 cX5_add 19 (.getfield 22) 22 := ⟨by decide +kernel, rfl⟩
theorem eX5_add_22 : aIL cX5_add 22 1 23 := Or.inl ⟨1, by decide +kernel, rfl, rfl⟩
theorem eX5_add_23 : aI1 cX5_add 23 (.iastore) 24 := ⟨by decide +kernel, rfl⟩
theorem eX5_add_24 : aAL cX5_add 24 0 25 := Or.inl ⟨0, by decide +kernel, rfl, rfl⟩
theorem eX5_add_25 : aI1 cX5_add 25 (.dup) 26 := ⟨by decide +kernel, rfl⟩
theorem eX5_add_26 : aI3 cX5_add 26 (.getfield 22) 29 := ⟨by decide +kernel, rfl⟩
theorem eX5_add_29 : aPI cX5_add 29 (nI 1) 30 := Or.inl ⟨1, by decide +kernel, by decide +kernel, rfl⟩
theorem eX5_add_30 : aI1 cX5_add 30 (.iadd) 31 := ⟨by decide +kernel, rfl⟩
theorem eX5_add_31 : aI3 cX5_add 31 (.putfield 22) 34 := ⟨by decide +kernel, rfl⟩
theorem eX5_add_34 : aPI cX5_add 34 (nI 1) 35 := Or.inl ⟨1, by decide +kernel, by decide +kernel, rfl⟩
theorem eX5_add_35 : ∀ x : Int32, (x = 0 ∨ x = 1) → aRet cX5_add (some .boolean) 35 (some (.int x)) := fun x h => Or.inr (Or.inl ⟨x, _, rfl, rfl, by rcases h with rfl | rfl <;> decide +kernel, by decide +kernel⟩)
theorem eX5_clear_0 : aAL cX5_clear 0 0 1 := Or.inl ⟨0, by decide +kernel, rfl, rfl⟩
theorem eX5_clear_1 : aPI cX5_clear 1 (nI 0) 2 := Or.inl ⟨0, by decide +kernel, by decide +kernel, rfl⟩
theorem eX5_clear_2 : aI3 cX5_clear 2 (.putfield 22) 5 := ⟨by decide +kernel, rfl⟩
theorem eX5_clear_5 : aRet cX5_clear none 5 none := Or.inl ⟨rfl, rfl, by decide +kernel⟩
theorem eX5_faultPlace_0 : aAL cX5_faultPlace 0 0 1 := Or.inl ⟨0, by decide +kernel, rfl, rfl⟩
theorem eX5_faultPlace_1 : aI3 cX5_faultPlace 1 (.getfield 18) 4 := ⟨by decide +kernel, rfl⟩
theorem eX5_faultPlace_4 : aI3 cX5_faultPlace 4 (.invokevirtual 26) 7 := ⟨by decide +kernel, rfl⟩
theorem eX5_faultPlace_7 : aPI cX5_faultPlace 7 (nI 0) 8 := Or.inl ⟨0, by decide +kernel, by decide +kernel, rfl⟩
theorem eX5_faultPlace_8 : aIS cX5_faultPlace 8 1 9 := Or.inl ⟨1, by decide +kernel, rfl, rfl⟩
theorem eX5_faultPlace_9 : aIL cX5_faultPlace 9 1 10 := Or.inl ⟨1, by decide +kernel, rfl, rfl⟩
theorem eX5_faultPlace_10 : aAL cX5_faultPlace 10 0 11 := Or.inl ⟨0, by decide +kernel, rfl, rfl⟩
theorem eX5_faultPlace_11 : aI3 cX5_faultPlace 11 (.getfield 22) 14 := ⟨by decide +kernel, rfl⟩
theorem eX5_faultPlace_14 : aIc_ge cX5_faultPlace 14 17 39 := ⟨25, by decide +kernel, rfl, by decide⟩
theorem eX5_faultPlace_17 : aAL cX5_faultPlace 17 0 18 := Or.inl ⟨0, by decide +kernel, rfl, rfl⟩
theorem eX5_faultPlace_18 : aI3 cX5_faultPlace 18 (.getfield 18) 21 := ⟨by decide +kernel, rfl⟩
theorem eX5_faultPlace_21 : aAL cX5_faultPlace 21 0 22 := Or.inl ⟨0, by decide +kernel, rfl, rfl⟩
theorem eX5_faultPlace_22 : aI3 cX5_faultPlace 22 (.getfield 9) 25 := ⟨by decide +kernel, rfl⟩
theorem eX5_faultPlace_25 : aIL cX5_faultPlace 25 1 26 := Or.inl ⟨1, by decide +kernel, rfl, rfl⟩
theorem eX5_faultPlace_26 : aI1 cX5_faultPlace 26 (.iaload) 27 := ⟨by decide +kernel, rfl⟩
theorem eX5_faultPlace_27 : aI3 cX5_faultPlace 27 (.invokevirtual 29) 30 := ⟨by decide +kernel, rfl⟩
theorem eX5_faultPlace_30 : aIf_eq cX5_faultPlace 30 33 39 := ⟨9, by decide +kernel, rfl, by decide⟩
theorem eX5_faultPlace_33 : aII cX5_faultPlace 33 1 (nI 1) 36 := ⟨1, by decide +kernel, by decide +kernel, rfl⟩
theorem eX5_faultPlace_36 : aGo cX5_faultPlace 36 9 := ⟨(-27), by decide +kernel, by decide⟩
theorem eX5_faultPlace_39 : aIL cX5_faultPlace 39 1 40 := Or.inl ⟨1, by decide +kernel, rfl, rfl⟩
theorem eX5_faultPlace_40 : ∀ x : Int32, aRet cX5_faultPlace (some .int) 40 (some (.int x)) := fun x => Or.inr (Or.inl ⟨x, _, rfl, rfl, rfl, by decide +kernel⟩)
theorem eX5_isCourt_0 : aAL cX5_isCourt 0 0 1 := Or.inl ⟨0, by decide +kernel, rfl, rfl⟩
theorem eX5_isCourt_1 : aI3 cX5_isCourt 1 (.invokevirtual 33) 4 := ⟨by decide +kernel, rfl⟩
theorem eX5_isCourt_4 : aAL cX5_isCourt 4 0 5 := Or.inl ⟨0, by decide +kernel, rfl, rfl⟩
theorem eX5_isCourt_5 : aI3 cX5_isCourt 5 (.getfield 22) 8 := ⟨by decide +kernel, rfl⟩
theorem eX5_isCourt_8 : aIc_ne cX5_isCourt 8 11 25 := ⟨17, by decide +kernel, rfl, by decide⟩
theorem eX5_isCourt_11 : aAL cX5_isCourt 11 0 12 := Or.inl ⟨0, by decide +kernel, rfl, rfl⟩
theorem eX5_isCourt_12 : aI3 cX5_isCourt 12 (.getfield 18) 15 := ⟨by decide +kernel, rfl⟩
theorem eX5_isCourt_15 : aI3 cX5_isCourt 15 (.invokevirtual 37) 18 := ⟨by decide +kernel, rfl⟩
theorem eX5_isCourt_18 : aIf_eq cX5_isCourt 18 21 25 := ⟨7, by decide +kernel, rfl, by decide⟩
theorem eX5_isCourt_21 : aPI cX5_isCourt 21 (nI 1) 22 := Or.inl ⟨1, by decide +kernel, by decide +kernel, rfl⟩
theorem eX5_isCourt_22 : aGo cX5_isCourt 22 26 := ⟨4, by decide +kernel, by decide⟩
theorem eX5_isCourt_25 : aPI cX5_isCourt 25 (nI 0) 26 := Or.inl ⟨0, by decide +kernel, by decide +kernel, rfl⟩
theorem eX5_isCourt_26 : ∀ x : Int32, (x = 0 ∨ x = 1) → aRet cX5_isCourt (some .boolean) 26 (some (.int x)) := fun x h => Or.inr (Or.inl ⟨x, _, rfl, rfl, by rcases h with rfl | rfl <;> decide +kernel, by decide +kernel⟩)
theorem eX6_init_0 : aAL cX6_init 0 0 1 := Or.inl ⟨0, by decide +kernel, rfl, rfl⟩
theorem eX6_init_1 : aI3 cX6_init 1 (.invokespecial 3) 4 := ⟨by decide +kernel, rfl⟩
theorem eX6_init_4 : aAL cX6_init 4 0 5 := Or.inl ⟨0, by decide +kernel, rfl, rfl⟩
theorem eX6_init_5 : aPI cX6_init 5 (nI 10) 7 := Or.inr (Or.inl ⟨10, by decide +kernel, by decide +kernel, rfl⟩)
theorem eX6_init_7 : aI2 cX6_init 7 (.newarray .int) 9 := ⟨by decide +kernel, rfl⟩
theorem eX6_init_9 : aI3 cX6_init 9 (.putfield 9) 12 := ⟨by decide +kernel, rfl⟩
theorem eX6_init_12 : aRet cX6_init none 12 none := Or.inl ⟨rfl, rfl, by decide +kernel⟩
theorem eX6_size_0 : aAL cX6_size 0 0 1 := Or.inl ⟨0, by decide +kernel, rfl, rfl⟩
theorem eX6_size_1 : aI3 cX6_size 1 (.getfield 15) 4 := ⟨by decide +kernel, rfl⟩
theorem eX6_size_4 : ∀ x : Int32, aRet cX6_size (some .int) 4 (some (.int x)) := fun x => Or.inr (Or.inl ⟨x, _, rfl, rfl, rfl, by decide +kernel⟩)
theorem eX6_has_0 : aIL cX6_has 0 1 1 := Or.inl ⟨1, by decide +kernel, rfl, rfl⟩
theorem eX6_has_1 : aIf_lt cX6_has 1 4 16 := ⟨15, by decide +kernel, rfl, by decide⟩
theorem eX6_has_4 : aIL cX6_has 4 1 5 := Or.inl ⟨1, by decide +kernel, rfl, rfl⟩
theorem eX6_has_5 : aAL cX6_has 5 0 6 := Or.inl ⟨0, by decide +kernel, rfl, rfl⟩
theorem eX6_has_6 : aI3 cX6_has 6 (.getfield 15) 9 := ⟨by decide +kernel, rfl⟩
theorem eX6_has_9 : aIc_ge cX6_has 9 12 16 := ⟨7, by decide +kernel, rfl, by decide⟩
theorem eX6_has_12 : aPI cX6_has 12 (nI 1) 13 := Or.inl ⟨1, by decide +kernel, by decide +kernel, rfl⟩
theorem eX6_has_13 : aGo cX6_has 13 17 := ⟨4, by decide +kernel, by decide⟩
theorem eX6_has_16 : aPI cX6_has 16 (nI 0) 17 := Or.inl ⟨0, by decide +kernel, by decide +kernel, rfl⟩
theorem eX6_has_17 : ∀ x : Int32, (x = 0 ∨ x = 1) → aRet cX6_has (some .boolean) 17 (some (.int x)) := fun x h => Or.inr (Or.inl ⟨x, _, rfl, rfl, by rcases h with rfl | rfl <;> decide +kernel, by decide +kernel⟩)
theorem eX6_at_0 : aAL cX6_at 0 0 1 := Or.inl ⟨0, by decide +kernel, rfl, rfl⟩
theorem eX6_at_1 : aIL cX6_at 1 1 2 := Or.inl ⟨1, by decide +kernel, rfl, rfl⟩
theorem eX6_at_2 : aI3 cX6_at 2 (.invokevirtual 19) 5 := ⟨by decide +kernel, rfl⟩
theorem eX6_at_5 : aIf_eq cX6_at 5 8 17 := ⟨12, by decide +kernel, rfl, by decide⟩
theorem eX6_at_8 : aAL cX6_at 8 0 9 := Or.inl ⟨0, by decide +kernel, rfl, rfl⟩
theorem eX6_at_9 : aI3 cX6_at 9 (.getfield 9) 12 := ⟨by decide +kernel, rfl⟩
theorem eX6_at_12 : aIL cX6_at 12 1 13 := Or.inl ⟨1, by decide +kernel, rfl, rfl⟩
theorem eX6_at_13 : aI1 cX6_at 13 (.iaload) 14 := ⟨by decide +kernel, rfl⟩
theorem eX6_at_14 : aGo cX6_at 14 18 := ⟨4, by decide +kernel, by decide⟩
theorem eX6_at_17 : aPI cX6_at 17 (-1) 18 := Or.inl ⟨(-1), by decide +kernel, by decide +kernel, rfl⟩
theorem eX6_at_18 : ∀ x : Int32, aRet cX6_at (some .int) 18 (some (.int x)) := fun x => Or.inr (Or.inl ⟨x, _, rfl, rfl, rfl, by decide +kernel⟩)
theorem eX6_set_0 : aAL cX6_set 0 0 1 := Or.inl ⟨0, by decide +kernel, rfl, rfl⟩
theorem eX6_set_1 : aIL cX6_set 1 1 2 := Or.inl ⟨1, by decide +kernel, rfl, rfl⟩
theorem eX6_set_2 : aI3 cX6_set 2 (.invokevirtual 19) 5 := ⟨by decide +kernel, rfl⟩
theorem eX6_set_5 : aIf_eq cX6_set 5 8 15 := ⟨10, by decide +kernel, rfl, by decide⟩
theorem eX6_set_8 : aAL cX6_set 8 0 9 := Or.inl ⟨0, by decide +kernel, rfl, rfl⟩
theorem eX6_set_9 : aI3 cX6_set 9 (.getfield 9) 12 := ⟨by decide +kernel, rfl⟩
theorem eX6_set_12 : aIL cX6_set 12 1 13 := Or.inl ⟨1, by decide +kernel, rfl, rfl⟩
theorem eX6_set_13 : aIL cX6_set 13 2 14 := Or.inl ⟨2, by decide +kernel, rfl, rfl⟩
theorem eX6_set_14 : aI1 cX6_set 14 (.iastore) 15 := ⟨by decide +kernel, rfl⟩
theorem eX6_set_15 : aRet cX6_set none 15 none := Or.inl ⟨rfl, rfl, by decide +kernel⟩
theorem eX6_add_0 : aAL cX6_add 0 0 1 := Or.inl ⟨0, by decide +kernel, rfl, rfl⟩
theorem eX6_add_1 : aI3 cX6_add 1 (.getfield 15) 4 := ⟨by decide +kernel, rfl⟩
theorem eX6_add_4 : aAL cX6_add 4 0 5 := Or.inl ⟨0, by decide +kernel, rfl, rfl⟩
theorem eX6_add_5 : aI3 cX6_add 5 (.getfield 9) 8 := ⟨by decide +kernel, rfl⟩
theorem eX6_add_8 : aI1 cX6_add 8 (.arraylength) 9 := ⟨by decide +kernel, rfl⟩
theorem eX6_add_9 : aIc_ge cX6_add 9 12 32 := ⟨23, by decide +kernel, rfl, by decide⟩
theorem eX6_add_12 : aAL cX6_add 12 0 13 := Or.inl ⟨0, by decide +kernel, rfl, rfl⟩
theorem eX6_add_13 : aI3 cX6_add 13 (.getfield 9) 16 := ⟨by decide +kernel, rfl⟩
theorem eX6_add_16 : aAL cX6_add 16 0 17 := Or.inl ⟨0, by decide +kernel, rfl, rfl⟩
theorem eX6_add_17 : aI3 cX6_add 17 (.getfield 15) 20 := ⟨by decide +kernel, rfl⟩
theorem eX6_add_20 : aIL cX6_add 20 1 21 := Or.inl ⟨1, by decide +kernel, rfl, rfl⟩
theorem eX6_add_21 : aI1 cX6_add 21 (.iastore) 22 := ⟨by decide +kernel, rfl⟩
theorem eX6_add_22 : aAL cX6_add 22 0 23 := Or.inl ⟨0, by decide +kernel, rfl, rfl⟩
theorem eX6_add_23 : aI1 cX6_add 23 (.dup) 24 := ⟨by decide +kernel, rfl⟩
theorem eX6_add_24 : aI3 cX6_add 24 (.getfield 15) 27 := ⟨by decide +kernel, rfl⟩
theorem eX6_add_27 : aPI cX6_add 27 (nI 1) 28 := Or.inl ⟨1, by decide +kernel, by decide +kernel, rfl⟩
theorem eX6_add_28 : aI1 cX6_add 28 (.iadd) 29 := ⟨by decide +kernel, rfl⟩
theorem eX6_add_29 : aI3 cX6_add 29 (.putfield 15) 32 := ⟨by decide +kernel, rfl⟩
theorem eX6_add_32 : aRet cX6_add none 32 none := Or.inl ⟨rfl, rfl, by decide +kernel⟩
theorem eX6_clear_0 : aAL cX6_clear 0 0 1 := Or.inl ⟨0, by decide +kernel, rfl, rfl⟩
theorem eX6_clear_1 : aPI cX6_clear 1 (nI 0) 2 := Or.inl ⟨0, by decide +kernel, by decide +kernel, rfl⟩
theorem eX6_clear_2 : aI3 cX6_clear 2 (.putfield 15) 5 := ⟨by decide +kernel, rfl⟩
theorem eX6_clear_5 : aRet cX6_clear none 5 none := Or.inl ⟨rfl, rfl, by decide +kernel⟩
theorem eX6_placesOf_0 : aPI cX6_placesOf 0 (nI 0) 1 := Or.inl ⟨0, by decide +kernel, by decide +kernel, rfl⟩
theorem eX6_placesOf_1 : aIS cX6_placesOf 1 2 2 := Or.inl ⟨2, by decide +kernel, rfl, rfl⟩
theorem eX6_placesOf_2 : aPI cX6_placesOf 2 (nI 0) 3 := Or.inl ⟨0, by decide +kernel, by decide +kernel, rfl⟩
theorem eX6_placesOf_3 : aIS cX6_placesOf 3 3 4 := Or.inl ⟨3, by decide +kernel, rfl, rfl⟩
theorem eX6_placesOf_4 : aIL cX6_placesOf 4 3 5 := Or.inl ⟨3, by decide +kernel, rfl, rfl⟩
theorem eX6_placesOf_5 : aAL cX6_placesOf 5 0 6 := Or.inl ⟨0, by decide +kernel, rfl, rfl⟩
theorem eX6_placesOf_6 : aI3 cX6_placesOf 6 (.getfield 15) 9 := ⟨by decide +kernel, rfl⟩
theorem eX6_placesOf_9 : aIc_ge cX6_placesOf 9 12 33 := ⟨24, by decide +kernel, rfl, by decide⟩
theorem eX6_placesOf_12 : aIL cX6_placesOf 12 2 13 := Or.inl ⟨2, by decide +kernel, rfl, rfl⟩
theorem eX6_placesOf_13 : aIL cX6_placesOf 13 1 14 := Or.inl ⟨1, by decide +kernel, rfl, rfl⟩
theorem eX6_placesOf_14 : aAL cX6_placesOf 14 0 15 := Or.inl ⟨0, by decide +kernel, rfl, rfl⟩
theorem eX6_placesOf_15 : aI3 cX6_placesOf 15 (.getfield 9) 18 := ⟨by decide +kernel, rfl⟩
theorem eX6_placesOf_18 : aIL cX6_placesOf 18 3 19 := Or.inl ⟨3, by decide +kernel, rfl, rfl⟩
theorem eX6_placesOf_19 : aI1 cX6_placesOf 19 (.iaload) 20 := ⟨by decide +kernel, rfl⟩
theorem eX6_placesOf_20 : aI1 cX6_placesOf 20 (.ishr) 21 := ⟨by decide +kernel, rfl⟩
theorem eX6_placesOf_21 : aPI cX6_placesOf 21 (nI 1) 22 := Or.inl ⟨1, by decide +kernel, by decide +kernel, rfl⟩
theorem eX6_placesOf_22 : aI1 cX6_placesOf 22 (.iand) 23 := ⟨by decide +kernel, rfl⟩
theorem eX6_placesOf_23 : aIL cX6_placesOf 23 3 24 := Or.inl ⟨3, by decide +kernel, rfl, rfl⟩
theorem eX6_placesOf_24 : aI1 cX6_placesOf 24 (.ishl) 25 := ⟨by decide +kernel, rfl⟩
theorem eX6_placesOf_25 : aI1 cX6_placesOf 25 (.ior) 26 := ⟨by decide +kernel, rfl⟩
theorem eX6_placesOf_26 : aIS cX6_placesOf 26 2 27 := Or.inl ⟨2, by decide +kernel, rfl, rfl⟩
theorem eX6_placesOf_27 : aII cX6_placesOf 27 3 (nI 1) 30 := ⟨1, by decide +kernel, by decide +kernel, rfl⟩
theorem eX6_placesOf_30 : aGo cX6_placesOf 30 4 := ⟨(-26), by decide +kernel, by decide⟩
theorem eX6_placesOf_33 : aIL cX6_placesOf 33 2 34 := Or.inl ⟨2, by decide +kernel, rfl, rfl⟩
theorem eX6_placesOf_34 : ∀ x : Int32, aRet cX6_placesOf (some .int) 34 (some (.int x)) := fun x => Or.inr (Or.inl ⟨x, _, rfl, rfl, rfl, by decide +kernel⟩)
theorem eX6_firstPlacesOf_0 : aPI cX6_firstPlacesOf 0 (nI 0) 1 := Or.inl ⟨0, by decide +kernel, by decide +kernel, rfl⟩
theorem eX6_firstPlacesOf_1 : aIS cX6_firstPlacesOf 1 2 2 := Or.inl ⟨2, by decide +kernel, rfl, rfl⟩
theorem eX6_firstPlacesOf_2 : aIL cX6_firstPlacesOf 2 1 3 := Or.inl ⟨1, by decide +kernel, rfl, rfl⟩
theorem eX6_firstPlacesOf_3 : aIS cX6_firstPlacesOf 3 3 4 := Or.inl ⟨3, by decide +kernel, rfl, rfl⟩
theorem eX6_firstPlacesOf_4 : aPI cX6_firstPlacesOf 4 (nI 0) 5 := Or.inl ⟨0, by decide +kernel, by decide +kernel, rfl⟩
theorem eX6_firstPlacesOf_5 : aIS cX6_firstPlacesOf 5 4 7 := Or.inr ⟨by decide +kernel, rfl⟩
theorem eX6_firstPlacesOf_7 : aIL cX6_firstPlacesOf 7 4 9 := Or.inr ⟨by decide +kernel, rfl⟩
theorem eX6_firstPlacesOf_9 : aAL cX6_firstPlacesOf 9 0 10 := Or.inl ⟨0, by decide +kernel, rfl, rfl⟩
theorem eX6_firstPlacesOf_10 : aI3 cX6_firstPlacesOf 10 (.getfield 15) 13 := ⟨by decide +kernel, rfl⟩
theorem eX6_firstPlacesOf_13 : aIc_ge cX6_firstPlacesOf 13 16 53 := ⟨40, by decide +kernel, rfl, by decide⟩
theorem eX6_firstPlacesOf_16 : aIL cX6_firstPlacesOf 16 2 17 := Or.inl ⟨2, by decide +kernel, rfl, rfl⟩
theorem eX6_firstPlacesOf_17 : aIL cX6_firstPlacesOf 17 3 18 := Or.inl ⟨3, by decide +kernel, rfl, rfl⟩
theorem eX6_firstPlacesOf_18 : aAL cX6_firstPlacesOf 18 0 19 := Or.inl ⟨0, by decide +kernel, rfl, rfl⟩
theorem eX6_firstPlacesOf_19 : aI3 cX6_firstPlacesOf 19 (.getfield 9) 22 := ⟨by decide +kernel, rfl⟩
theorem eX6_firstPlacesOf_22 : aIL cX6_firstPlacesOf 22 4 24 := Or.inr ⟨by decide +kernel, rfl⟩
theorem eX6_firstPlacesOf_24 : aI1 cX6_firstPlacesOf 24 (.iaload) 25 := ⟨by decide +kernel, rfl⟩
theorem eX6_firstPlacesOf_25 : aI1 cX6_firstPlacesOf 25 (.ishr) 26 := ⟨by decide +kernel, rfl⟩
theorem eX6_firstPlacesOf_26 : aPI cX6_firstPlacesOf 26 (nI 1) 27 := Or.inl ⟨1, by decide +kernel, by decide +kernel, rfl⟩
theorem eX6_firstPlacesOf_27 : aI1 cX6_firstPlacesOf 27 (.iand) 28 := ⟨by decide +kernel, rfl⟩
theorem eX6_firstPlacesOf_28 : aIL cX6_firstPlacesOf 28 4 30 := Or.inr ⟨by decide +kernel, rfl⟩
theorem eX6_firstPlacesOf_30 : aI1 cX6_firstPlacesOf 30 (.ishl) 31 := ⟨by decide +kernel, rfl⟩
theorem eX6_firstPlacesOf_31 : aI1 cX6_firstPlacesOf 31 (.ior) 32 := ⟨by decide +kernel, rfl⟩
theorem eX6_firstPlacesOf_32 : aIS cX6_firstPlacesOf 32 2 33 := Or.inl ⟨2, by decide +kernel, rfl, rfl⟩
theorem eX6_firstPlacesOf_33 : aIL cX6_firstPlacesOf 33 3 34 := Or.inl ⟨3, by decide +kernel, rfl, rfl⟩
theorem eX6_firstPlacesOf_34 : aPI cX6_firstPlacesOf 34 (nI 1) 35 := Or.inl ⟨1, by decide +kernel, by decide +kernel, rfl⟩
theorem eX6_firstPlacesOf_35 : aAL cX6_firstPlacesOf 35 0 36 := Or.inl ⟨0, by decide +kernel, rfl, rfl⟩
theorem eX6_firstPlacesOf_36 : aI3 cX6_firstPlacesOf 36 (.getfield 9) 39 := ⟨by decide +kernel, rfl⟩
theorem eX6_firstPlacesOf_39 : aIL cX6_firstPlacesOf 39 4 41 := Or.inr ⟨by decide +kernel, rfl⟩
theorem eX6_firstPlacesOf_41 : aI1 cX6_firstPlacesOf 41 (.iaload) 42 := ⟨by decide +kernel, rfl⟩
theorem eX6_firstPlacesOf_42 : aI1 cX6_firstPlacesOf 42 (.ishl) 43 := ⟨by decide +kernel, rfl⟩
theorem eX6_firstPlacesOf_43 : aPI cX6_firstPlacesOf 43 (-1) 44 := Or.inl ⟨(-1), by decide +kernel, by decide +kernel, rfl⟩
theorem eX6_firstPlacesOf_44 : aI1 cX6_firstPlacesOf 44 (.ixor) 45 := ⟨by decide +kernel, rfl⟩
theorem eX6_firstPlacesOf_45 : aI1 cX6_firstPlacesOf 45 (.iand) 46 := ⟨by decide +kernel, rfl⟩
theorem eX6_firstPlacesOf_46 : aIS cX6_firstPlacesOf 46 3 47 := Or.inl ⟨3, by decide +kernel, rfl, rfl⟩
theorem eX6_firstPlacesOf_47 : aII cX6_firstPlacesOf 47 4 (nI 1) 50 := ⟨1, by decide +kernel, by decide +kernel, rfl⟩
theorem eX6_firstPlacesOf_50 : aGo cX6_firstPlacesOf 50 7 := ⟨(-43), by decide +kernel, by decide⟩
theorem eX6_firstPlacesOf_53 : aIL cX6_firstPlacesOf 53 2 54 := Or.inl ⟨2, by decide +kernel, rfl, rfl⟩
theorem eX6_firstPlacesOf_54 : ∀ x : Int32, aRet cX6_firstPlacesOf (some .int) 54 (some (.int x)) := fun x => Or.inr (Or.inl ⟨x, _, rfl, rfl, rfl, by decide +kernel⟩)
theorem eX6_placesBehind_0 : aIL cX6_placesBehind 0 1 1 := Or.inl ⟨1, by decide +kernel, rfl, rfl⟩
theorem eX6_placesBehind_1 : aPI cX6_placesBehind 1 (nI 1) 2 := Or.inl ⟨1, by decide +kernel, by decide +kernel, rfl⟩
theorem eX6_placesBehind_2 : aI1 cX6_placesBehind 2 (.ishl) 3 := ⟨by decide +kernel, rfl⟩
theorem eX6_placesBehind_3 : aPI cX6_placesBehind 3 (nI 1) 4 := Or.inl ⟨1, by decide +kernel, by decide +kernel, rfl⟩
theorem eX6_placesBehind_4 : aAL cX6_placesBehind 4 0 5 := Or.inl ⟨0, by decide +kernel, rfl, rfl⟩
theorem eX6_placesBehind_5 : aI3 cX6_placesBehind 5 (.getfield 15) 8 := ⟨by decide +kernel, rfl⟩
theorem eX6_placesBehind_8 : aI1 cX6_placesBehind 8 (.ishl) 9 := ⟨by decide +kernel, rfl⟩
theorem eX6_placesBehind_9 : aPI cX6_placesBehind 9 (nI 1) 10 := Or.inl ⟨1, by decide +kernel, by decide +kernel, rfl⟩
theorem eX6_placesBehind_10 : aI1 cX6_placesBehind 10 (.isub) 11 := ⟨by decide +kernel, rfl⟩
theorem eX6_placesBehind_11 : aI1 cX6_placesBehind 11 (.iand) 12 := ⟨by decide +kernel, rfl⟩
theorem eX6_placesBehind_12 : ∀ x : Int32, aRet cX6_placesBehind (some .int) 12 (some (.int x)) := fun x => Or.inr (Or.inl ⟨x, _, rfl, rfl, rfl, by decide +kernel⟩)
theorem eX6_unlikeWords_0 : aPI cX6_unlikeWords 0 (nI 0) 1 := Or.inl ⟨0, by decide +kernel, by decide +kernel, rfl⟩
theorem eX6_unlikeWords_1 : aIS cX6_unlikeWords 1 1 2 := Or.inl ⟨1, by decide +kernel, rfl, rfl⟩
theorem eX6_unlikeWords_2 : aPI cX6_unlikeWords 2 (nI 0) 3 := Or.inl ⟨0, by decide +kernel, by decide +kernel, rfl⟩
theorem eX6_unlikeWords_3 : aIS cX6_unlikeWords 3 2 4 := Or.inl ⟨2, by decide +kernel, rfl, rfl⟩
theorem eX6_unlikeWords_4 : aIL cX6_unlikeWords 4 2 5 := Or.inl ⟨2, by decide +kernel, rfl, rfl⟩
theorem eX6_unlikeWords_5 : aAL cX6_unlikeWords 5 0 6 := Or.inl ⟨0, by decide +kernel, rfl, rfl⟩
theorem eX6_unlikeWords_6 : aI3 cX6_unlikeWords 6 (.getfield 15) 9 := ⟨by decide +kernel, rfl⟩
theorem eX6_unlikeWords_9 : aIc_ge cX6_unlikeWords 9 12 29 := ⟨20, by decide +kernel, rfl, by decide⟩
theorem eX6_unlikeWords_12 : aIL cX6_unlikeWords 12 1 13 := Or.inl ⟨1, by decide +kernel, rfl, rfl⟩
theorem eX6_unlikeWords_13 : aPI cX6_unlikeWords 13 (nI 1) 14 := Or.inl ⟨1, by decide +kernel, by decide +kernel, rfl⟩
theorem eX6_unlikeWords_14 : aAL cX6_unlikeWords 14 0 15 := Or.inl ⟨0, by decide +kernel, rfl, rfl⟩
theorem eX6_unlikeWords_15 : aI3 cX6_unlikeWords 15 (.getfield 9) 18 := ⟨by decide +kernel, rfl⟩
theorem eX6_unlikeWords_18 : aIL cX6_unlikeWords 18 2 19 := Or.inl ⟨2, by decide +kernel, rfl, rfl⟩
theorem eX6_unlikeWords_19 : aI1 cX6_unlikeWords 19 (.iaload) 20 := ⟨by decide +kernel, rfl⟩
theorem eX6_unlikeWords_20 : aI1 cX6_unlikeWords 20 (.ishl) 21 := ⟨by decide +kernel, rfl⟩
theorem eX6_unlikeWords_21 : aI1 cX6_unlikeWords 21 (.ior) 22 := ⟨by decide +kernel, rfl⟩
theorem eX6_unlikeWords_22 : aIS cX6_unlikeWords 22 1 23 := Or.inl ⟨1, by decide +kernel, rfl, rfl⟩
theorem eX6_unlikeWords_23 : aII cX6_unlikeWords 23 2 (nI 1) 26 := ⟨1, by decide +kernel, by decide +kernel, rfl⟩
theorem eX6_unlikeWords_26 : aGo cX6_unlikeWords 26 4 := ⟨(-22), by decide +kernel, by decide⟩
theorem eX6_unlikeWords_29 : aIL cX6_unlikeWords 29 1 30 := Or.inl ⟨1, by decide +kernel, rfl, rfl⟩
theorem eX6_unlikeWords_30 : aI3 cX6_unlikeWords 30 (.invokestatic 29) 33 := ⟨by decide +kernel, rfl⟩
theorem eX6_unlikeWords_33 : ∀ x : Int32, aRet cX6_unlikeWords (some .int) 33 (some (.int x)) := fun x => Or.inr (Or.inl ⟨x, _, rfl, rfl, rfl, by decide +kernel⟩)
theorem eX7_init_0 : aAL cX7_init 0 0 1 := Or.inl ⟨0, by decide +kernel, rfl, rfl⟩
theorem eX7_init_1 : aIL cX7_init 1 1 2 := Or.inl ⟨1, by decide +kernel, rfl, rfl⟩
theorem eX7_init_2 : aI3 cX7_init 2 (.invokespecial 1) 5 := ⟨by decide +kernel, rfl⟩
theorem eX7_init_5 : aRet cX7_init none 5 none := Or.inl ⟨rfl, rfl, by decide +kernel⟩
theorem eX7_kind_0 : aPI cX7_kind 0 (nI 1) 1 := Or.inl ⟨1, by decide +kernel, by decide +kernel, rfl⟩
theorem eX7_kind_1 : ∀ x : Int32, aRet cX7_kind (some .int) 1 (some (.int x)) := fun x => Or.inr (Or.inl ⟨x, _, rfl, rfl, rfl, by decide +kernel⟩)
theorem eX7_placesAnyhow_0 : aPI cX7_placesAnyhow 0 (nI 1) 1 := Or.inl ⟨1, by decide +kernel, by decide +kernel, rfl⟩
theorem eX7_placesAnyhow_1 : ∀ x : Int32, aRet cX7_placesAnyhow (some .int) 1 (some (.int x)) := fun x => Or.inr (Or.inl ⟨x, _, rfl, rfl, rfl, by decide +kernel⟩)
theorem eX8_init_0 : aAL cX8_init 0 0 1 := Or.inl ⟨0, by decide +kernel, rfl, rfl⟩
theorem eX8_init_1 : aI3 cX8_init 1 (.invokespecial 3) 4 := ⟨by decide +kernel, rfl⟩
theorem eX8_init_4 : aAL cX8_init 4 0 5 := Or.inl ⟨0, by decide +kernel, rfl, rfl⟩
theorem eX8_init_5 : aI3 cX8_init 5 (.new 9) 8 := ⟨by decide +kernel, rfl⟩
theorem eX8_init_8 : aI1 cX8_init 8 (.dup) 9 := ⟨by decide +kernel, rfl⟩
theorem eX8_init_9 : aI3 cX8_init 9 (.invokespecial 11) 12 := ⟨by decide +kernel, rfl⟩
theorem eX8_init_12 : aI3 cX8_init 12 (.putfield 12) 15 := ⟨by decide +kernel, rfl⟩
theorem eX8_init_15 : aAL cX8_init 15 0 16 := Or.inl ⟨0, by decide +kernel, rfl, rfl⟩
theorem eX8_init_16 : aI3 cX8_init 16 (.new 18) 19 := ⟨by decide +kernel, rfl⟩
theorem eX8_init_19 : aI1 cX8_init 19 (.dup) 20 := ⟨by decide +kernel, rfl⟩
theorem eX8_init_20 : aI3 cX8_init 20 (.invokespecial 20) 23 := ⟨by decide +kernel, rfl⟩
theorem eX8_init_23 : aI3 cX8_init 23 (.putfield 21) 26 := ⟨by decide +kernel, rfl⟩
theorem eX8_init_26 : aAL cX8_init 26 0 27 := Or.inl ⟨0, by decide +kernel, rfl, rfl⟩
theorem eX8_init_27 : aPI cX8_init 27 (nI 4) 28 := Or.inl ⟨4, by decide +kernel, by decide +kernel, rfl⟩
theorem eX8_init_28 : aI2 cX8_init 28 (.newarray .int) 30 := ⟨by decide +kernel, rfl⟩
theorem eX8_init_30 : aI3 cX8_init 30 (.putfield 25) 33 := ⟨by decide +kernel, rfl⟩
theorem eX8_init_33 : aRet cX8_init none 33 none := Or.inl ⟨rfl, rfl, by decide +kernel⟩
theorem eX8_begin_0 : aAL cX8_begin 0 0 1 := Or.inl ⟨0, by decide +kernel, rfl, rfl⟩
theorem eX8_begin_1 : aI3 cX8_begin 1 (.getfield 12) 4 := ⟨by decide +kernel, rfl⟩
theorem eX8_begin_4 : aI3 cX8_begin 4 (.invokevirtual 29) 7 := ⟨by decide +kernel, rfl⟩
theorem eX8_begin_7 : aAL cX8_begin 7 0 8 := Or.inl ⟨0, by decide +kernel, rfl, rfl⟩
theorem eX8_begin_8 : aI3 cX8_begin 8 (.getfield 21) 11 := ⟨by decide +kernel, rfl⟩
theorem eX8_begin_11 : aI3 cX8_begin 11 (.invokevirtual 32) 14 := ⟨by decide +kernel, rfl⟩
theorem eX8_begin_14 : aAL cX8_begin 14 0 15 := Or.inl ⟨0, by decide +kernel, rfl, rfl⟩
theorem eX8_begin_15 : aPI cX8_begin 15 (nI 2) 16 := Or.inl ⟨2, by decide +kernel, by decide +kernel, rfl⟩
theorem eX8_begin_16 : aI3 cX8_begin 16 (.putfield 33) 19 := ⟨by decide +kernel, rfl⟩
theorem eX8_begin_19 : aAL cX8_begin 19 0 20 := Or.inl ⟨0, by decide +kernel, rfl, rfl⟩
theorem eX8_begin_20 : aPI cX8_begin 20 (nI 0) 21 := Or.inl ⟨0, by decide +kernel, by decide +kernel, rfl⟩
theorem eX8_begin_21 : aI3 cX8_begin 21 (.putfield 37) 24 := ⟨by decide +kernel, rfl⟩
theorem eX8_begin_24 : aAL cX8_begin 24 0 25 := Or.inl ⟨0, by decide +kernel, rfl, rfl⟩
theorem eX8_begin_25 : aPI cX8_begin 25 (nI 0) 26 := Or.inl ⟨0, by decide +kernel, by decide +kernel, rfl⟩
theorem eX8_begin_26 : aI3 cX8_begin 26 (.putfield 40) 29 := ⟨by decide +kernel, rfl⟩
theorem eX8_begin_29 : aRet cX8_begin none 29 none := Or.inl ⟨rfl, rfl, by decide +kernel⟩
theorem eX9_init_0 : aAL cX9_init 0 0 1 := Or.inl ⟨0, by decide +kernel, rfl, rfl⟩
theorem eX9_init_1 : aI3 cX9_init 1 (.invokespecial 3) 4 := ⟨by decide +kernel, rfl⟩
theorem eX9_init_4 : aRet cX9_init none 4 none := Or.inl ⟨rfl, rfl, by decide +kernel⟩
theorem eX9_begin_0 : aAL cX9_begin 0 0 1 := Or.inl ⟨0, by decide +kernel, rfl, rfl⟩
theorem eX9_begin_1 : aPI cX9_begin 1 (nI 0) 2 := Or.inl ⟨0, by decide +kernel, by decide +kernel, rfl⟩
theorem eX9_begin_2 : aI3 cX9_begin 2 (.invokevirtual 9) 5 := ⟨by decide +kernel, rfl⟩
theorem eX9_begin_5 : aRet cX9_begin none 5 none := Or.inl ⟨rfl, rfl, by decide +kernel⟩
theorem eX9_passes_0 : aIL cX9_passes 0 1 1 := Or.inl ⟨1, by decide +kernel, rfl, rfl⟩
theorem eX9_passes_1 : aPI cX9_passes 1 (nI 97) 3 := Or.inr (Or.inl ⟨97, by decide +kernel, by decide +kernel, rfl⟩)
theorem eX9_passes_3 : aI1 cX9_passes 3 (.isub) 4 := ⟨by decide +kernel, rfl⟩
theorem eX9_passes_4 : aIS cX9_passes 4 2 5 := Or.inl ⟨2, by decide +kernel, rfl, rfl⟩
theorem eX9_passes_5 : aIL cX9_passes 5 2 6 := Or.inl ⟨2, by decide +kernel, rfl, rfl⟩
theorem eX9_passes_6 : aI3 cX9_passes 6 (.invokestatic 15) 9 := ⟨by decide +kernel, rfl⟩
theorem eX9_passes_9 : aIf_eq cX9_passes 9 12 18 := ⟨9, by decide +kernel, rfl, by decide⟩
theorem eX9_passes_12 : aAL cX9_passes 12 0 13 := Or.inl ⟨0, by decide +kernel, rfl, rfl⟩
theorem eX9_passes_13 : aIL cX9_passes 13 2 14 := Or.inl ⟨2, by decide +kernel, rfl, rfl⟩
theorem eX9_passes_14 : aI3 cX9_passes 14 (.invokevirtual 19) 17 := ⟨by decide +kernel, rfl⟩
theorem eX9_passes_17 : ∀ x : Int32, (x = 0 ∨ x = 1) → aRet cX9_passes (some .boolean) 17 (some (.int x)) := fun x h => Or.inr (Or.inl ⟨x, _, rfl, rfl, by rcases h with rfl | rfl <;> decide +kernel, by decide +kernel⟩)
theorem eX9_passes_18 : aAL cX9_passes 18 0 19 := Or.inl ⟨0, by decide +kernel, rfl, rfl⟩
theorem eX9_passes_19 : aI3 cX9_passes 19 (.getfield 22) 22 := ⟨by decide +kernel, rfl⟩
theorem eX9_passes_22 : aPI cX9_passes 22 (nI 4) 23 := Or.inl ⟨4, by decide +kernel, by decide +kernel, rfl⟩
theorem eX9_passes_23 : aIc_ge cX9_passes 23 26 33 := ⟨10, by decide +kernel, rfl, by decide⟩
theorem eX9_passes_26 : aAL cX9_passes 26 0 27 := Or.inl ⟨0, by decide +kernel, rfl, rfl⟩
theorem eX9_passes_27 : aI3 cX9_passes 27 (.getfield 26) 30 := ⟨by decide +kernel, rfl⟩
theorem eX9_passes_30 : aIf_ne cX9_passes 30 33 35 := ⟨5, by decide +kernel, rfl, by decide⟩
theorem eX9_passes_33 : aPI cX9_passes 33 (nI 0) 34 := Or.inl ⟨0, by decide +kernel, by decide +kernel, rfl⟩
theorem eX9_passes_34 : ∀ x : Int32, (x = 0 ∨ x = 1) → aRet cX9_passes (some .boolean) 34 (some (.int x)) := fun x h => Or.inr (Or.inl ⟨x, _, rfl, rfl, by rcases h with rfl | rfl <;> decide +kernel, by decide +kernel⟩)
theorem eX9_passes_35 : aIL cX9_passes 35 1 36 := Or.inl ⟨1, by decide +kernel, rfl, rfl⟩
theorem eX9_passes_36 : aAL cX9_passes 36 0 37 := Or.inl ⟨0, by decide +kernel, rfl, rfl⟩
theorem eX9_passes_37 : aI3 cX9_passes 37 (.getfield 22) 40 := ⟨by decide +kernel, rfl⟩
theorem eX9_passes_40 : aPI cX9_passes 40 (nI 3) 41 := Or.inl ⟨3, by decide +kernel, by decide +kernel, rfl⟩
theorem eX9_passes_41 : aIc_ne cX9_passes 41 44 49 := ⟨8, by decide +kernel, rfl, by decide⟩
theorem eX9_passes_44 : aPI cX9_passes 44 (nI 59) 46 := Or.inr (Or.inl ⟨59, by decide +kernel, by decide +kernel, rfl⟩)
theorem eX9_passes_46 : aGo cX9_passes 46 51 := ⟨5, by decide +kernel, by decide⟩
theorem eX9_passes_49 : aPI cX9_passes 49 (nI 44) 51 := Or.inr (Or.inl ⟨44, by decide +kernel, by decide +kernel, rfl⟩)
theorem eX9_passes_51 : aIc_eq cX9_passes 51 54 56 := ⟨5, by decide +kernel, rfl, by decide⟩
theorem eX9_passes_54 : aPI cX9_passes 54 (nI 0) 55 := Or.inl ⟨0, by decide +kernel, by decide +kernel, rfl⟩
theorem eX9_passes_55 : ∀ x : Int32, (x = 0 ∨ x = 1) → aRet cX9_passes (some .boolean) 55 (some (.int x)) := fun x h => Or.inr (Or.inl ⟨x, _, rfl, rfl, by rcases h with rfl | rfl <;> decide +kernel, by decide +kernel⟩)
theorem eX9_passes_56 : aAL cX9_passes 56 0 57 := Or.inl ⟨0, by decide +kernel, rfl, rfl⟩
theorem eX9_passes_57 : aAL cX9_passes 57 0 58 := Or.inl ⟨0, by decide +kernel, rfl, rfl⟩
theorem eX9_passes_58 : aI3 cX9_passes 58 (.getfield 22) 61 := ⟨by decide +kernel, rfl⟩
theorem eX9_passes_61 : aPI cX9_passes 61 (nI 1) 62 := Or.inl ⟨1, by decide +kernel, by decide +kernel, rfl⟩
theorem eX9_passes_62 : aI1 cX9_passes 62 (.iadd) 63 := ⟨by decide +kernel, rfl⟩
theorem eX9_passes_63 : aI3 cX9_passes 63 (.invokevirtual 9) 66 := ⟨by decide +kernel, rfl⟩
theorem eX9_passes_66 : aPI cX9_passes 66 (nI 1) 67 := Or.inl ⟨1, by decide +kernel, by decide +kernel, rfl⟩
theorem eX9_passes_67 : ∀ x : Int32, (x = 0 ∨ x = 1) → aRet cX9_passes (some .boolean) 67 (some (.int x)) := fun x h => Or.inr (Or.inl ⟨x, _, rfl, rfl, by rcases h with rfl | rfl <;> decide +kernel, by decide +kernel⟩)
theorem eX9_isWhole_0 : aAL cX9_isWhole 0 0 1 := Or.inl ⟨0, by decide +kernel, rfl, rfl⟩
theorem eX9_isWhole_1 : aI3 cX9_isWhole 1 (.getfield 22) 4 := ⟨by decide +kernel, rfl⟩
theorem eX9_isWhole_4 : aPI cX9_isWhole 4 (nI 4) 5 := Or.inl ⟨4, by decide +kernel, by decide +kernel, rfl⟩
theorem eX9_isWhole_5 : aIc_ne cX9_isWhole 5 8 19 := ⟨14, by decide +kernel, rfl, by decide⟩
theorem eX9_isWhole_8 : aAL cX9_isWhole 8 0 9 := Or.inl ⟨0, by decide +kernel, rfl, rfl⟩
theorem eX9_isWhole_9 : aI3 cX9_isWhole 9 (.getfield 26) 12 := ⟨by decide +kernel, rfl⟩
theorem eX9_isWhole_12 : aIf_le cX9_isWhole 12 15 19 := ⟨7, by decide +kernel, rfl, by decide⟩
theorem eX9_isWhole_15 : aPI cX9_isWhole 15 (nI 1) 16 := Or.inl ⟨1, by decide +kernel, by decide +kernel, rfl⟩
theorem eX9_isWhole_16 : aGo cX9_isWhole 16 20 := ⟨4, by decide +kernel, by decide⟩
theorem eX9_isWhole_19 : aPI cX9_isWhole 19 (nI 0) 20 := Or.inl ⟨0, by decide +kernel, by decide +kernel, rfl⟩
theorem eX9_isWhole_20 : ∀ x : Int32, (x = 0 ∨ x = 1) → aRet cX9_isWhole (some .boolean) 20 (some (.int x)) := fun x h => Or.inr (Or.inl ⟨x, _, rfl, rfl, by rcases h with rfl | rfl <;> decide +kernel, by decide +kernel⟩)
theorem eX9_enter_0 : aAL cX9_enter 0 0 1 := Or.inl ⟨0, by decide +kernel, rfl, rfl⟩
theorem eX9_enter_1 : aIL cX9_enter 1 1 2 := Or.inl ⟨1, by decide +kernel, rfl, rfl⟩
theorem eX9_enter_2 : aI3 cX9_enter 2 (.putfield 22) 5 := ⟨by decide +kernel, rfl⟩
theorem eX9_enter_5 : aAL cX9_enter 5 0 6 := Or.inl ⟨0, by decide +kernel, rfl, rfl⟩
theorem eX9_enter_6 : aPI cX9_enter 6 (nI 0) 7 := Or.inl ⟨0, by decide +kernel, by decide +kernel, rfl⟩
theorem eX9_enter_7 : aI3 cX9_enter 7 (.putfield 26) 10 := ⟨by decide +kernel, rfl⟩
theorem eX9_enter_10 : aAL cX9_enter 10 0 11 := Or.inl ⟨0, by decide +kernel, rfl, rfl⟩
theorem eX9_enter_11 : aPI cX9_enter 11 (-1) 12 := Or.inl ⟨(-1), by decide +kernel, by decide +kernel, rfl⟩
theorem eX9_enter_12 : aI3 cX9_enter 12 (.putfield 29) 15 := ⟨by decide +kernel, rfl⟩
theorem eX9_enter_15 : aRet cX9_enter none 15 none := Or.inl ⟨rfl, rfl, by decide +kernel⟩
theorem eX9_passesWord_0 : aAL cX9_passesWord 0 0 1 := Or.inl ⟨0, by decide +kernel, rfl, rfl⟩
theorem eX9_passesWord_1 : aI3 cX9_passesWord 1 (.getfield 22) 4 := ⟨by decide +kernel, rfl⟩
theorem eX9_passesWord_4 : aPI cX9_passesWord 4 (nI 4) 5 := Or.inl ⟨4, by decide +kernel, by decide +kernel, rfl⟩
theorem eX9_passesWord_5 : aIc_ge cX9_passesWord 5 8 33 := ⟨28, by decide +kernel, rfl, by decide⟩
theorem eX9_passesWord_8 : aAL cX9_passesWord 8 0 9 := Or.inl ⟨0, by decide +kernel, rfl, rfl⟩
theorem eX9_passesWord_9 : aI3 cX9_passesWord 9 (.getfield 26) 12 := ⟨by decide +kernel, rfl⟩
theorem eX9_passesWord_12 : aPI cX9_passesWord 12 (nI 3) 13 := Or.inl ⟨3, by decide +kernel, by decide +kernel, rfl⟩
theorem eX9_passesWord_13 : aIc_ge cX9_passesWord 13 16 28 := ⟨15, by decide +kernel, rfl, by decide⟩
theorem eX9_passesWord_16 : aIL cX9_passesWord 16 1 17 := Or.inl ⟨1, by decide +kernel, rfl, rfl⟩
theorem eX9_passesWord_17 : aAL cX9_passesWord 17 0 18 := Or.inl ⟨0, by decide +kernel, rfl, rfl⟩
theorem eX9_passesWord_18 : aI3 cX9_passesWord 18 (.getfield 29) 21 := ⟨by decide +kernel, rfl⟩
theorem eX9_passesWord_21 : aIc_le cX9_passesWord 21 24 28 := ⟨7, by decide +kernel, rfl, by decide⟩
theorem eX9_passesWord_24 : aPI cX9_passesWord 24 (nI 1) 25 := Or.inl ⟨1, by decide +kernel, by decide +kernel, rfl⟩
theorem eX9_passesWord_25 : aGo cX9_passesWord 25 29 := ⟨4, by decide +kernel, by decide⟩
theorem eX9_passesWord_28 : aPI cX9_passesWord 28 (nI 0) 29 := Or.inl ⟨0, by decide +kernel, by decide +kernel, rfl⟩
theorem eX9_passesWord_29 : aIS cX9_passesWord 29 2 30 := Or.inl ⟨2, by decide +kernel, rfl, rfl⟩
theorem eX9_passesWord_30 : aGo cX9_passesWord 30 48 := ⟨18, by decide +kernel, by decide⟩
theorem eX9_passesWord_33 : aAL cX9_passesWord 33 0 34 := Or.inl ⟨0, by decide +kernel, rfl, rfl⟩
theorem eX9_passesWord_34 : aI3 cX9_passesWord 34 (.getfield 26) 37 := ⟨by decide +kernel, rfl⟩
theorem eX9_passesWord_37 : aPI cX9_passesWord 37 (nI 10) 39 := Or.inr (Or.inl ⟨10, by decide +kernel, by decide +kernel, rfl⟩)
theorem eX9_passesWord_39 : aIc_ge cX9_passesWord 39 42 46 := ⟨7, by decide +kernel, rfl, by decide⟩
theorem eX9_passesWord_42 : aPI cX9_passesWord 42 (nI 1) 43 := Or.inl ⟨1, by decide +kernel, by decide +kernel, rfl⟩
theorem eX9_passesWord_43 : aGo cX9_passesWord 43 47 := ⟨4, by decide +kernel, by decide⟩
theorem eX9_passesWord_46 : aPI cX9_passesWord 46 (nI 0) 47 := Or.inl ⟨0, by decide +kernel, by decide +kernel, rfl⟩
theorem eX9_passesWord_47 : aIS cX9_passesWord 47 2 48 := Or.inl ⟨2, by decide +kernel, rfl, rfl⟩
theorem eX9_passesWord_48 : aIL cX9_passesWord 48 2 49 := Or.inl ⟨2, by decide +kernel, rfl, rfl⟩
theorem eX9_passesWord_49 : aIf_eq cX9_passesWord 49 52 67 := ⟨18, by decide +kernel, rfl, by decide⟩
theorem eX9_passesWord_52 : aAL cX9_passesWord 52 0 53 := Or.inl ⟨0, by decide +kernel, rfl, rfl⟩
theorem eX9_passesWord_53 : aI1 cX9_passesWord 53 (.dup) 54 := ⟨by decide +kernel, rfl⟩
theorem eX9_passesWord_54 : aI3 cX9_passesWord 54 (.getfield 26) 57 := ⟨by decide +kernel, rfl⟩
theorem eX9_passesWord_57 : aPI cX9_passesWord 57 (nI 1) 58 := Or.inl ⟨1, by decide +kernel, by decide +kernel, rfl⟩
theorem eX9_passesWord_58 : aI1 cX9_passesWord 58 (.iadd) 59 := ⟨by decide +kernel, rfl⟩
theorem eX9_passesWord_59 : aI3 cX9_passesWord 59 (.putfield 26) 62 := ⟨by decide +kernel, rfl⟩
theorem eX9_passesWord_62 : aAL cX9_passesWord 62 0 63 := Or.inl ⟨0, by decide +kernel, rfl, rfl⟩
theorem eX9_passesWord_63 : aIL cX9_passesWord 63 1 64 := Or.inl ⟨1, by decide +kernel, rfl, rfl⟩
theorem eX9_passesWord_64 : aI3 cX9_passesWord 64 (.putfield 29) 67 := ⟨by decide +kernel, rfl⟩
theorem eX9_passesWord_67 : aIL cX9_passesWord 67 2 68 := Or.inl ⟨2, by decide +kernel, rfl, rfl⟩
theorem eX9_passesWord_68 : ∀ x : Int32, (x = 0 ∨ x = 1) → aRet cX9_passesWord (some .boolean) 68 (some (.int x)) := fun x h => Or.inr (Or.inl ⟨x, _, rfl, rfl, by rcases h with rfl | rfl <;> decide +kernel, by decide +kernel⟩)
theorem eX10_init_0 : aAL cX10_init 0 0 1 := Or.inl ⟨0, by decide +kernel, rfl, rfl⟩
theorem eX10_init_1 : aIL cX10_init 1 1 2 := Or.inl ⟨1, by decide +kernel, rfl, rfl⟩
theorem eX10_init_2 : aI3 cX10_init 2 (.invokespecial 1) 5 := ⟨by decide +kernel, rfl⟩
theorem eX10_init_5 : aRet cX10_init none 5 none := Or.inl ⟨rfl, rfl, by decide +kernel⟩
theorem eX10_kind_0 : aPI cX10_kind 0 (nI 4) 1 := Or.inl ⟨4, by decide +kernel, by decide +kernel, rfl⟩
theorem eX10_kind_1 : ∀ x : Int32, aRet cX10_kind (some .int) 1 (some (.int x)) := fun x => Or.inr (Or.inl ⟨x, _, rfl, rfl, rfl, by decide +kernel⟩)
theorem eX10_placesAnyhow_0 : aAL cX10_placesAnyhow 0 0 1 := Or.inl ⟨0, by decide +kernel, rfl, rfl⟩
theorem eX10_placesAnyhow_1 : aAL cX10_placesAnyhow 1 1 2 := Or.inl ⟨1, by decide +kernel, rfl, rfl⟩
theorem eX10_placesAnyhow_2 : aI3 cX10_placesAnyhow 2 (.invokespecial 7) 5 := ⟨by decide +kernel, rfl⟩
theorem eX10_placesAnyhow_5 : aAL cX10_placesAnyhow 5 1 6 := Or.inl ⟨1, by decide +kernel, rfl, rfl⟩
theorem eX10_placesAnyhow_6 : aPI cX10_placesAnyhow 6 (nI 128) 9 := Or.inr (Or.inr ⟨128, by decide +kernel, by decide +kernel, rfl⟩)
theorem eX10_placesAnyhow_9 : aI3 cX10_placesAnyhow 9 (.invokevirtual 13) 12 := ⟨by decide +kernel, rfl⟩
theorem eX10_placesAnyhow_12 : aI1 cX10_placesAnyhow 12 (.ior) 13 := ⟨by decide +kernel, rfl⟩
theorem eX10_placesAnyhow_13 : ∀ x : Int32, aRet cX10_placesAnyhow (some .int) 13 (some (.int x)) := fun x => Or.inr (Or.inl ⟨x, _, rfl, rfl, rfl, by decide +kernel⟩)
theorem eX11_init_0 : aAL cX11_init 0 0 1 := Or.inl ⟨0, by decide +kernel, rfl, rfl⟩
theorem eX11_init_1 : aI3 cX11_init 1 (.invokespecial 1) 4 := ⟨by decide +kernel, rfl⟩
theorem eX11_init_4 : aAL cX11_init 4 0 5 := Or.inl ⟨0, by decide +kernel, rfl, rfl⟩
theorem eX11_init_5 : aI3 cX11_init 5 (.new 7) 8 := ⟨by decide +kernel, rfl⟩
theorem eX11_init_8 : aI1 cX11_init 8 (.dup) 9 := ⟨by decide +kernel, rfl⟩
theorem eX11_init_9 : aI3 cX11_init 9 (.invokespecial 9) 12 := ⟨by decide +kernel, rfl⟩
theorem eX11_init_12 : aI3 cX11_init 12 (.putfield 10) 15 := ⟨by decide +kernel, rfl⟩
theorem eX11_init_15 : aAL cX11_init 15 0 16 := Or.inl ⟨0, by decide +kernel, rfl, rfl⟩
theorem eX11_init_16 : aPI cX11_init 16 (nI 5) 17 := Or.inl ⟨5, by decide +kernel, by decide +kernel, rfl⟩
theorem eX11_init_17 : aI2 cX11_init 17 (.newarray .int) 19 := ⟨by decide +kernel, rfl⟩
theorem eX11_init_19 : aI3 cX11_init 19 (.putfield 16) 22 := ⟨by decide +kernel, rfl⟩
theorem eX11_init_22 : aAL cX11_init 22 0 23 := Or.inl ⟨0, by decide +kernel, rfl, rfl⟩
theorem eX11_init_23 : aPI cX11_init 23 (nI 4) 24 := Or.inl ⟨4, by decide +kernel, by decide +kernel, rfl⟩
theorem eX11_init_24 : aI3 cX11_init 24 (.anewarray 20) 27 := ⟨by decide +kernel, rfl⟩
theorem eX11_init_27 : aI3 cX11_init 27 (.putfield 22) 30 := ⟨by decide +kernel, rfl⟩
theorem eX11_init_30 : aAL cX11_init 30 0 31 := Or.inl ⟨0, by decide +kernel, rfl, rfl⟩
theorem eX11_init_31 : aI3 cX11_init 31 (.new 26) 34 := ⟨by decide +kernel, rfl⟩
theorem eX11_init_34 : aI1 cX11_init 34 (.dup) 35 := ⟨by decide +kernel, rfl⟩
theorem eX11_init_35 : aI3 cX11_init 35 (.invokespecial 28) 38 := ⟨by decide +kernel, rfl⟩
theorem eX11_init_38 : aI3 cX11_init 38 (.putfield 29) 41 := ⟨by decide +kernel, rfl⟩
theorem eX11_init_41 : aAL cX11_init 41 0 42 := Or.inl ⟨0, by decide +kernel, rfl, rfl⟩
theorem eX11_init_42 : aI3 cX11_init 42 (.new 26) 45 := ⟨by decide +kernel, rfl⟩
theorem eX11_init_45 : aI1 cX11_init 45 (.dup) 46 := ⟨by decide +kernel, rfl⟩
theorem eX11_init_46 : aI3 cX11_init 46 (.invokespecial 28) 49 := ⟨by decide +kernel, rfl⟩
theorem eX11_init_49 : aI3 cX11_init 49 (.putfield 33) 52 := ⟨by decide +kernel, rfl⟩
theorem eX11_init_52 : aAL cX11_init 52 0 53 := Or.inl ⟨0, by decide +kernel, rfl, rfl⟩
theorem eX11_init_53 : aI3 cX11_init 53 (.new 36) 56 := ⟨by decide +kernel, rfl⟩
theorem eX11_init_56 : aI1 cX11_init 56 (.dup) 57 := ⟨by decide +kernel, rfl⟩
theorem eX11_init_57 : aI3 cX11_init 57 (.invokespecial 38) 60 := ⟨by decide +kernel, rfl⟩
theorem eX11_init_60 : aI3 cX11_init 60 (.putfield 39) 63 := ⟨by decide +kernel, rfl⟩
theorem eX11_init_63 : aAL cX11_init 63 0 64 := Or.inl ⟨0, by decide +kernel, rfl, rfl⟩
theorem eX11_init_64 : aI3 cX11_init 64 (.new 43) 67 := ⟨by decide +kernel, rfl⟩
theorem eX11_init_67 : aI1 cX11_init 67 (.dup) 68 := ⟨by decide +kernel, rfl⟩
theorem eX11_init_68 : aI3 cX11_init 68 (.invokespecial 45) 71 := ⟨by decide +kernel, rfl⟩
theorem eX11_init_71 : aI3 cX11_init 71 (.putfield 46) 74 := ⟨by decide +kernel, rfl⟩
theorem eX11_init_74 : aRet cX11_init none 74 none := Or.inl ⟨rfl, rfl, by decide +kernel⟩
theorem eX11_letter_0 : aIL cX11_letter 0 1 1 := Or.inl ⟨1, by decide +kernel, rfl, rfl⟩
theorem eX11_letter_1 : aPI cX11_letter 1 (nI 1) 2 := Or.inl ⟨1, by decide +kernel, by decide +kernel, rfl⟩
theorem eX11_letter_2 : aIc_lt cX11_letter 2 5 11 := ⟨9, by decide +kernel, rfl, by decide⟩
theorem eX11_letter_5 : aIL cX11_letter 5 1 6 := Or.inl ⟨1, by decide +kernel, rfl, rfl⟩
theorem eX11_letter_6 : aPI cX11_letter 6 (nI 126) 8 := Or.inr (Or.inl ⟨126, by decide +kernel, by decide +kernel, rfl⟩)
theorem eX11_letter_8 : aIc_le cX11_letter 8 11 14 := ⟨6, by decide +kernel, rfl, by decide⟩
theorem eX11_letter_11 : aPI cX11_letter 11 (-102) 13 := Or.inr (Or.inl ⟨(-102), by decide +kernel, by decide +kernel, rfl⟩)
theorem eX11_letter_13 : ∀ x : Int32, aRet cX11_letter (some .int) 13 (some (.int x)) := fun x => Or.inr (Or.inl ⟨x, _, rfl, rfl, rfl, by decide +kernel⟩)
theorem eX11_letter_14 : aAL cX11_letter 14 0 15 := Or.inl ⟨0, by decide +kernel, rfl, rfl⟩
theorem eX11_letter_15 : aI3 cX11_letter 15 (.getfield 10) 18 := ⟨by decide +kernel, rfl⟩
theorem eX11_letter_18 : aIL cX11_letter 18 1 19 := Or.inl ⟨1, by decide +kernel, rfl, rfl⟩
theorem eX11_letter_19 : aI3 cX11_letter 19 (.invokevirtual 50) 22 := ⟨by decide +kernel, rfl⟩
theorem eX11_letter_22 : aIf_eq cX11_letter 22 25 35 := ⟨13, by decide +kernel, rfl, by decide⟩
theorem eX11_letter_25 : aAL cX11_letter 25 0 26 := Or.inl ⟨0, by decide +kernel, rfl, rfl⟩
theorem eX11_letter_26 : aI3 cX11_letter 26 (.getfield 10) 29 := ⟨by decide +kernel, rfl⟩
theorem eX11_letter_29 : aI3 cX11_letter 29 (.invokevirtual 54) 32 := ⟨by decide +kernel, rfl⟩
theorem eX11_letter_32 : aGo cX11_letter 32 37 := ⟨5, by decide +kernel, by decide⟩
theorem eX11_letter_35 : aPI cX11_letter 35 (-104) 37 := Or.inr (Or.inl ⟨(-104), by decide +kernel, by decide +kernel, rfl⟩)
theorem eX11_letter_37 : ∀ x : Int32, aRet cX11_letter (some .int) 37 (some (.int x)) := fun x => Or.inr (Or.inl ⟨x, _, rfl, rfl, rfl, by decide +kernel⟩)
theorem eX11_fault_0 : aAL cX11_fault 0 0 1 := Or.inl ⟨0, by decide +kernel, rfl, rfl⟩
theorem eX11_fault_1 : aI3 cX11_fault 1 (.getfield 10) 4 := ⟨by decide +kernel, rfl⟩
theorem eX11_fault_4 : aI3 cX11_fault 4 (.invokevirtual 61) 7 := ⟨by decide +kernel, rfl⟩
theorem eX11_fault_7 : ∀ x : Int32, aRet cX11_fault (some .int) 7 (some (.int x)) := fun x => Or.inr (Or.inl ⟨x, _, rfl, rfl, rfl, by decide +kernel⟩)
theorem eX11_court_0 : aAL cX11_court 0 0 1 := Or.inl ⟨0, by decide +kernel, rfl, rfl⟩
theorem eX11_court_1 : aI3 cX11_court 1 (.getfield 10) 4 := ⟨by decide +kernel, rfl⟩
theorem eX11_court_4 : aI3 cX11_court 4 (.invokevirtual 64) 7 := ⟨by decide +kernel, rfl⟩
theorem eX11_court_7 : aIf_ne cX11_court 7 10 13 := ⟨6, by decide +kernel, rfl, by decide⟩
theorem eX11_court_10 : aPI cX11_court 10 (-103) 12 := Or.inr (Or.inl ⟨(-103), by decide +kernel, by decide +kernel, rfl⟩)
theorem eX11_court_12 : ∀ x : Int32, aRet cX11_court (some .int) 12 (some (.int x)) := fun x => Or.inr (Or.inl ⟨x, _, rfl, rfl, rfl, by decide +kernel⟩)
theorem eX11_court_13 : aAL cX11_court 13 0 14 := Or.inl ⟨0, by decide +kernel, rfl, rfl⟩
theorem eX11_court_14 : aI3 cX11_court 14 (.invokevirtual 68) 17 := ⟨by decide +kernel, rfl⟩
theorem eX11_court_17 : aAL cX11_court 17 0 18 := Or.inl ⟨0, by decide +kernel, rfl, rfl⟩
theorem eX11_court_18 : aI3 cX11_court 18 (.getfield 10) 21 := ⟨by decide +kernel, rfl⟩
theorem eX11_court_21 : aI3 cX11_court 21 (.invokevirtual 58) 24 := ⟨by decide +kernel, rfl⟩
theorem eX11_court_24 : aAL cX11_court 24 0 25 := Or.inl ⟨0, by decide +kernel, rfl, rfl⟩
theorem eX11_court_25 : aPI cX11_court 25 (nI 0) 26 := Or.inl ⟨0, by decide +kernel, by decide +kernel, rfl⟩
theorem eX11_court_26 : aI3 cX11_court 26 (.putfield 71) 29 := ⟨by decide +kernel, rfl⟩
theorem eX11_court_29 : aAL cX11_court 29 0 30 := Or.inl ⟨0, by decide +kernel, rfl, rfl⟩
theorem eX11_court_30 : aI1 cX11_court 30 (.dup) 31 := ⟨by decide +kernel, rfl⟩
theorem eX11_court_31 : aI3 cX11_court 31 (.getfield 75) 34 := ⟨by decide +kernel, rfl⟩
theorem eX11_court_34 : aPI cX11_court 34 (nI 1) 35 := Or.inl ⟨1, by decide +kernel, by decide +kernel, rfl⟩
theorem eX11_court_35 : aI1 cX11_court 35 (.iadd) 36 := ⟨by decide +kernel, rfl⟩
theorem eX11_court_36 : aI3 cX11_court 36 (.putfield 75) 39 := ⟨by decide +kernel, rfl⟩
theorem eX11_court_39 : aAL cX11_court 39 0 40 := Or.inl ⟨0, by decide +kernel, rfl, rfl⟩
theorem eX11_court_40 : aI3 cX11_court 40 (.getfield 29) 43 := ⟨by decide +kernel, rfl⟩
theorem eX11_court_43 : aI3 cX11_court 43 (.getfield 79) 46 := ⟨by decide +kernel, rfl⟩
theorem eX11_court_46 : aI3 cX11_court 46 (.invokevirtual 82) 49 := ⟨by decide +kernel, rfl⟩
theorem eX11_court_49 : ∀ x : Int32, aRet cX11_court (some .int) 49 (some (.int x)) := fun x => Or.inr (Or.inl ⟨x, _, rfl, rfl, rfl, by decide +kernel⟩)
theorem eX11_near_0 : aAL cX11_near 0 0 1 := Or.inl ⟨0, by decide +kernel, rfl, rfl⟩
theorem eX11_near_1 : aI3 cX11_near 1 (.invokevirtual 83) 4 := ⟨by decide +kernel, rfl⟩
theorem eX11_near_4 : aIf_eq cX11_near 4 7 16 := ⟨12, by decide +kernel, rfl, by decide⟩
theorem eX11_near_7 : aIL cX11_near 7 1 8 := Or.inl ⟨1, by decide +kernel, rfl, rfl⟩
theorem eX11_near_8 : aIf_lt cX11_near 8 11 16 := ⟨8, by decide +kernel, rfl, by decide⟩
theorem eX11_near_11 : aIL cX11_near 11 1 12 := Or.inl ⟨1, by decide +kernel, rfl, rfl⟩
theorem eX11_near_12 : aPI cX11_near 12 (nI 5) 13 := Or.inl ⟨5, by decide +kernel, by decide +kernel, rfl⟩
theorem eX11_near_13 : aIc_lt cX11_near 13 16 19 := ⟨6, by decide +kernel, rfl, by decide⟩
theorem eX11_near_16 : aPI cX11_near 16 (-101) 18 := Or.inr (Or.inl ⟨(-101), by decide +kernel, by decide +kernel, rfl⟩)
theorem eX11_near_18 : ∀ x : Int32, aRet cX11_near (some .int) 18 (some (.int x)) := fun x => Or.inr (Or.inl ⟨x, _, rfl, rfl, rfl, by decide +kernel⟩)
theorem eX11_near_19 : aAL cX11_near 19 0 20 := Or.inl ⟨0, by decide +kernel, rfl, rfl⟩
theorem eX11_near_20 : aI3 cX11_near 20 (.getfield 16) 23 := ⟨by decide +kernel, rfl⟩
theorem eX11_near_23 : aIL cX11_near 23 1 24 := Or.inl ⟨1, by decide +kernel, rfl, rfl⟩
theorem eX11_near_24 : aI1 cX11_near 24 (.iaload) 25 := ⟨by decide +kernel, rfl⟩
theorem eX11_near_25 : ∀ x : Int32, aRet cX11_near (some .int) 25 (some (.int x)) := fun x => Or.inr (Or.inl ⟨x, _, rfl, rfl, rfl, by decide +kernel⟩)
theorem eX11_word_0 : aAL cX11_word 0 0 1 := Or.inl ⟨0, by decide +kernel, rfl, rfl⟩
theorem eX11_word_1 : aI3 cX11_word 1 (.getfield 29) 4 := ⟨by decide +kernel, rfl⟩
theorem eX11_word_4 : aI3 cX11_word 4 (.getfield 79) 7 := ⟨by decide +kernel, rfl⟩
theorem eX11_word_7 : aIL cX11_word 7 1 8 := Or.inl ⟨1, by decide +kernel, rfl, rfl⟩
theorem eX11_word_8 : aI3 cX11_word 8 (.invokevirtual 86) 11 := ⟨by decide +kernel, rfl⟩
theorem eX11_word_11 : aIf_eq cX11_word 11 14 28 := ⟨17, by decide +kernel, rfl, by decide⟩
theorem eX11_word_14 : aAL cX11_word 14 0 15 := Or.inl ⟨0, by decide +kernel, rfl, rfl⟩
theorem eX11_word_15 : aI3 cX11_word 15 (.getfield 29) 18 := ⟨by decide +kernel, rfl⟩
theorem eX11_word_18 : aI3 cX11_word 18 (.getfield 79) 21 := ⟨by decide +kernel, rfl⟩
theorem eX11_word_21 : aIL cX11_word 21 1 22 := Or.inl ⟨1, by decide +kernel, rfl, rfl⟩
theorem eX11_word_22 : aI3 cX11_word 22 (.invokevirtual 89) 25 := ⟨by decide +kernel, rfl⟩
theorem eX11_word_25 : aGo cX11_word 25 30 := ⟨5, by decide +kernel, by decide⟩
theorem eX11_word_28 : aPI cX11_word 28 (-101) 30 := Or.inr (Or.inl ⟨(-101), by decide +kernel, by decide +kernel, rfl⟩)
theorem eX11_word_30 : ∀ x : Int32, aRet cX11_word (some .int) 30 (some (.int x)) := fun x => Or.inr (Or.inl ⟨x, _, rfl, rfl, rfl, by decide +kernel⟩)
theorem eX11_put_0 : aAL cX11_put 0 0 1 := Or.inl ⟨0, by decide +kernel, rfl, rfl⟩
theorem eX11_put_1 : aI3 cX11_put 1 (.getfield 29) 4 := ⟨by decide +kernel, rfl⟩
theorem eX11_put_4 : aI3 cX11_put 4 (.getfield 79) 7 := ⟨by decide +kernel, rfl⟩
theorem eX11_put_7 : aIL cX11_put 7 1 8 := Or.inl ⟨1, by decide +kernel, rfl, rfl⟩
theorem eX11_put_8 : aI3 cX11_put 8 (.invokevirtual 86) 11 := ⟨by decide +kernel, rfl⟩
theorem eX11_put_11 : aIf_ne cX11_put 11 14 17 := ⟨6, by decide +kernel, rfl, by decide⟩
theorem eX11_put_14 : aPI cX11_put 14 (-101) 16 := Or.inr (Or.inl ⟨(-101), by decide +kernel, by decide +kernel, rfl⟩)
theorem eX11_put_16 : ∀ x : Int32, aRet cX11_put (some .int) 16 (some (.int x)) := fun x => Or.inr (Or.inl ⟨x, _, rfl, rfl, rfl, by decide +kernel⟩)
theorem eX11_put_17 : aIL cX11_put 17 2 18 := Or.inl ⟨2, by decide +kernel, rfl, rfl⟩
theorem eX11_put_18 : aI3 cX11_put 18 (.invokestatic 93) 21 := ⟨by decide +kernel, rfl⟩
theorem eX11_put_21 : aIf_ne cX11_put 21 24 27 := ⟨6, by decide +kernel, rfl, by decide⟩
theorem eX11_put_24 : aPI cX11_put 24 (-102) 26 := Or.inr (Or.inl ⟨(-102), by decide +kernel, by decide +kernel, rfl⟩)
theorem eX11_put_26 : ∀ x : Int32, aRet cX11_put (some .int) 26 (some (.int x)) := fun x => Or.inr (Or.inl ⟨x, _, rfl, rfl, rfl, by decide +kernel⟩)
theorem eX11_put_27 : aAL cX11_put 27 0 28 := Or.inl ⟨0, by decide +kernel, rfl, rfl⟩
theorem eX11_put_28 : aI3 cX11_put 28 (.getfield 29) 31 := ⟨by decide +kernel, rfl⟩
theorem eX11_put_31 : aI3 cX11_put 31 (.getfield 79) 34 := ⟨by decide +kernel, rfl⟩
theorem eX11_put_34 : aIL cX11_put 34 1 35 := Or.inl ⟨1, by decide +kernel, rfl, rfl⟩
theorem eX11_put_35 : aI3 cX11_put 35 (.invokevirtual 89) 38 := ⟨by decide +kernel, rfl⟩
theorem eX11_put_38 : aIS cX11_put 38 3 39 := Or.inl ⟨3, by decide +kernel, rfl, rfl⟩
theorem eX11_put_39 : aAL cX11_put 39 0 40 := Or.inl ⟨0, by decide +kernel, rfl, rfl⟩
theorem eX11_put_40 : aI3 cX11_put 40 (.getfield 29) 43 := ⟨by decide +kernel, rfl⟩
theorem eX11_put_43 : aI3 cX11_put 43 (.getfield 79) 46 := ⟨by decide +kernel, rfl⟩
theorem eX11_put_46 : aIL cX11_put 46 1 47 := Or.inl ⟨1, by decide +kernel, rfl, rfl⟩
theorem eX11_put_47 : aIL cX11_put 47 2 48 := Or.inl ⟨2, by decide +kernel, rfl, rfl⟩
theorem eX11_put_48 : aI3 cX11_put 48 (.invokevirtual 96) 51 := ⟨by decide +kernel, rfl⟩
theorem eX11_put_51 : aAL cX11_put 51 0 52 := Or.inl ⟨0, by decide +kernel, rfl, rfl⟩
theorem eX11_put_52 : aI3 cX11_put 52 (.getfield 29) 55 := ⟨by decide +kernel, rfl⟩
theorem eX11_put_55 : aI1 cX11_put 55 (.dup) 56 := ⟨by decide +kernel, rfl⟩
theorem eX11_put_56 : aI3 cX11_put 56 (.getfield 100) 59 := ⟨by decide +kernel, rfl⟩
theorem eX11_put_59 : aPI cX11_put 59 (nI 1) 60 := Or.inl ⟨1, by decide +kernel, by decide +kernel, rfl⟩
theorem eX11_put_60 : aI1 cX11_put 60 (.iadd) 61 := ⟨by decide +kernel, rfl⟩
theorem eX11_put_61 : aI3 cX11_put 61 (.putfield 100) 64 := ⟨by decide +kernel, rfl⟩
theorem eX11_put_64 : aIL cX11_put 64 3 65 := Or.inl ⟨3, by decide +kernel, rfl, rfl⟩
theorem eX11_put_65 : ∀ x : Int32, aRet cX11_put (some .int) 65 (some (.int x)) := fun x => Or.inr (Or.inl ⟨x, _, rfl, rfl, rfl, by decide +kernel⟩)
theorem eX11_limit_0 : aIL cX11_limit 0 1 1 := Or.inl ⟨1, by decide +kernel, rfl, rfl⟩
theorem eX11_limit_1 : aPI cX11_limit 1 (nI 1) 2 := Or.inl ⟨1, by decide +kernel, by decide +kernel, rfl⟩
theorem eX11_limit_2 : aIc_lt cX11_limit 2 5 11 := ⟨9, by decide +kernel, rfl, by decide⟩
theorem eX11_limit_5 : aIL cX11_limit 5 1 6 := Or.inl ⟨1, by decide +kernel, rfl, rfl⟩
theorem eX11_limit_6 : aPI cX11_limit 6 (nI 10) 8 := Or.inr (Or.inl ⟨10, by decide +kernel, by decide +kernel, rfl⟩)
theorem eX11_limit_8 : aIc_le cX11_limit 8 11 14 := ⟨6, by decide +kernel, rfl, by decide⟩
theorem eX11_limit_11 : aPI cX11_limit 11 (-102) 13 := Or.inr (Or.inl ⟨(-102), by decide +kernel, by decide +kernel, rfl⟩)
theorem eX11_limit_13 : ∀ x : Int32, aRet cX11_limit (some .int) 13 (some (.int x)) := fun x => Or.inr (Or.inl ⟨x, _, rfl, rfl, rfl, by decide +kernel⟩)
theorem eX11_limit_14 : aAL cX11_limit 14 0 15 := Or.inl ⟨0, by decide +kernel, rfl, rfl⟩
theorem eX11_limit_15 : aI3 cX11_limit 15 (.invokevirtual 83) 18 := ⟨by decide +kernel, rfl⟩
theorem eX11_limit_18 : aIf_ne cX11_limit 18 21 24 := ⟨6, by decide +kernel, rfl, by decide⟩
theorem eX11_limit_21 : aPI cX11_limit 21 (-103) 23 := Or.inr (Or.inl ⟨(-103), by decide +kernel, by decide +kernel, rfl⟩)
theorem eX11_limit_23 : ∀ x : Int32, aRet cX11_limit (some .int) 23 (some (.int x)) := fun x => Or.inr (Or.inl ⟨x, _, rfl, rfl, rfl, by decide +kernel⟩)
theorem eX11_limit_24 : aAL cX11_limit 24 0 25 := Or.inl ⟨0, by decide +kernel, rfl, rfl⟩
theorem eX11_limit_25 : aI3 cX11_limit 25 (.getfield 29) 28 := ⟨by decide +kernel, rfl⟩
theorem eX11_limit_28 : aI3 cX11_limit 28 (.getfield 103) 31 := ⟨by decide +kernel, rfl⟩
theorem eX11_limit_31 : aIS cX11_limit 31 2 32 := Or.inl ⟨2, by decide +kernel, rfl, rfl⟩
theorem eX11_limit_32 : aAL cX11_limit 32 0 33 := Or.inl ⟨0, by decide +kernel, rfl, rfl⟩
theorem eX11_limit_33 : aI3 cX11_limit 33 (.getfield 29) 36 := ⟨by decide +kernel, rfl⟩
theorem eX11_limit_36 : aIL cX11_limit 36 1 37 := Or.inl ⟨1, by decide +kernel, rfl, rfl⟩
theorem eX11_limit_37 : aI3 cX11_limit 37 (.putfield 103) 40 := ⟨by decide +kernel, rfl⟩
theorem eX11_limit_40 : aAL cX11_limit 40 0 41 := Or.inl ⟨0, by decide +kernel, rfl, rfl⟩
theorem eX11_limit_41 : aI3 cX11_limit 41 (.getfield 29) 44 := ⟨by decide +kernel, rfl⟩
theorem eX11_limit_44 : aI1 cX11_limit 44 (.dup) 45 := ⟨by decide +kernel, rfl⟩
theorem eX11_limit_45 : aI3 cX11_limit 45 (.getfield 100) 48 := ⟨by decide +kernel, rfl⟩
theorem eX11_limit_48 : aPI cX11_limit 48 (nI 1) 49 := Or.inl ⟨1, by decide +kernel, by decide +kernel, rfl⟩
theorem eX11_limit_49 : aI1 cX11_limit 49 (.iadd) 50 := ⟨by decide +kernel, rfl⟩
theorem eX11_limit_50 : aI3 cX11_limit 50 (.putfield 100) 53 := ⟨by decide +kernel, rfl⟩
theorem eX11_limit_53 : aIL cX11_limit 53 2 54 := Or.inl ⟨2, by decide +kernel, rfl, rfl⟩
theorem eX11_limit_54 : ∀ x : Int32, aRet cX11_limit (some .int) 54 (some (.int x)) := fun x => Or.inr (Or.inl ⟨x, _, rfl, rfl, rfl, by decide +kernel⟩)
theorem eX11_accuse_0 : aIL cX11_accuse 0 1 1 := Or.inl ⟨1, by decide +kernel, rfl, rfl⟩
theorem eX11_accuse_1 : aI3 cX11_accuse 1 (.invokestatic 106) 4 := ⟨by decide +kernel, rfl⟩
theorem eX11_accuse_4 : aIf_eq cX11_accuse 4 7 16 := ⟨12, by decide +kernel, rfl, by decide⟩
theorem eX11_accuse_7 : aIL cX11_accuse 7 2 8 := Or.inl ⟨2, by decide +kernel, rfl, rfl⟩
theorem eX11_accuse_8 : aIf_lt cX11_accuse 8 11 16 := ⟨8, by decide +kernel, rfl, by decide⟩
theorem eX11_accuse_11 : aIL cX11_accuse 11 2 12 := Or.inl ⟨2, by decide +kernel, rfl, rfl⟩
theorem eX11_accuse_12 : aPI cX11_accuse 12 (nI 5) 13 := Or.inl ⟨5, by decide +kernel, by decide +kernel, rfl⟩
theorem eX11_accuse_13 : aIc_lt cX11_accuse 13 16 19 := ⟨6, by decide +kernel, rfl, by decide⟩
theorem eX11_accuse_16 : aPI cX11_accuse 16 (-102) 18 := Or.inr (Or.inl ⟨(-102), by decide +kernel, by decide +kernel, rfl⟩)
theorem eX11_accuse_18 : ∀ x : Int32, aRet cX11_accuse (some .int) 18 (some (.int x)) := fun x => Or.inr (Or.inl ⟨x, _, rfl, rfl, rfl, by decide +kernel⟩)
theorem eX11_accuse_19 : aAL cX11_accuse 19 0 20 := Or.inl ⟨0, by decide +kernel, rfl, rfl⟩
theorem eX11_accuse_20 : aI3 cX11_accuse 20 (.invokevirtual 83) 23 := ⟨by decide +kernel, rfl⟩
theorem eX11_accuse_23 : aIf_ne cX11_accuse 23 26 29 := ⟨6, by decide +kernel, rfl, by decide⟩
theorem eX11_accuse_26 : aPI cX11_accuse 26 (-103) 28 := Or.inr (Or.inl ⟨(-103), by decide +kernel, by decide +kernel, rfl⟩)
theorem eX11_accuse_28 : ∀ x : Int32, aRet cX11_accuse (some .int) 28 (some (.int x)) := fun x => Or.inr (Or.inl ⟨x, _, rfl, rfl, rfl, by decide +kernel⟩)
theorem eX11_accuse_29 : aAL cX11_accuse 29 0 30 := Or.inl ⟨0, by decide +kernel, rfl, rfl⟩
theorem eX11_accuse_30 : aI3 cX11_accuse 30 (.getfield 29) 33 := ⟨by decide +kernel, rfl⟩
theorem eX11_accuse_33 : aI3 cX11_accuse 33 (.getfield 109) 36 := ⟨by decide +kernel, rfl⟩
theorem eX11_accuse_36 : aIS cX11_accuse 36 3 37 := Or.inl ⟨3, by decide +kernel, rfl, rfl⟩
theorem eX11_accuse_37 : aIL cX11_accuse 37 3 38 := Or.inl ⟨3, by decide +kernel, rfl, rfl⟩
theorem eX11_accuse_38 : aIf_lt cX11_accuse 38 41 46 := ⟨8, by decide +kernel, rfl, by decide⟩
theorem eX11_accuse_41 : aIL cX11_accuse 41 3 42 := Or.inl ⟨3, by decide +kernel, rfl, rfl⟩
theorem eX11_accuse_42 : aPI cX11_accuse 42 (nI 4) 43 := Or.inl ⟨4, by decide +kernel, by decide +kernel, rfl⟩
theorem eX11_accuse_43 : aIc_lt cX11_accuse 43 46 49 := ⟨6, by decide +kernel, rfl, by decide⟩
theorem eX11_accuse_46 : aPI cX11_accuse 46 (-104) 48 := Or.inr (Or.inl ⟨(-104), by decide +kernel, by decide +kernel, rfl⟩)
theorem eX11_accuse_48 : ∀ x : Int32, aRet cX11_accuse (some .int) 48 (some (.int x)) := fun x => Or.inr (Or.inl ⟨x, _, rfl, rfl, rfl, by decide +kernel⟩)
theorem eX11_accuse_49 : aAL cX11_accuse 49 0 50 := Or.inl ⟨0, by decide +kernel, rfl, rfl⟩
theorem eX11_accuse_50 : aI3 cX11_accuse 50 (.getfield 22) 53 := ⟨by decide +kernel, rfl⟩
theorem eX11_accuse_53 : aIL cX11_accuse 53 3 54 := Or.inl ⟨3, by decide +kernel, rfl, rfl⟩
theorem eX11_accuse_54 : aIL cX11_accuse 54 1 55 := Or.inl ⟨1, by decide +kernel, rfl, rfl⟩
theorem eX11_accuse_55 : aIL cX11_accuse 55 2 56 := Or.inl ⟨2, by decide +kernel, rfl, rfl⟩
theorem eX11_accuse_56 : aI3 cX11_accuse 56 (.invokestatic 111) 59 := ⟨by decide +kernel, rfl⟩
theorem eX11_accuse_59 : aI1 cX11_accuse 59 (.aastore) 60 := ⟨by decide +kernel, rfl⟩
theorem eX11_accuse_60 : aAL cX11_accuse 60 0 61 := Or.inl ⟨0, by decide +kernel, rfl, rfl⟩
theorem eX11_accuse_61 : aI3 cX11_accuse 61 (.getfield 29) 64 := ⟨by decide +kernel, rfl⟩
theorem eX11_accuse_64 : aI3 cX11_accuse 64 (.getfield 115) 67 := ⟨by decide +kernel, rfl⟩
theorem eX11_accuse_67 : aIL cX11_accuse 67 3 68 := Or.inl ⟨3, by decide +kernel, rfl, rfl⟩
theorem eX11_accuse_68 : aPI cX11_accuse 68 (nI 0) 69 := Or.inl ⟨0, by decide +kernel, by decide +kernel, rfl⟩
theorem eX11_accuse_69 : aI1 cX11_accuse 69 (.iastore) 70 := ⟨by decide +kernel, rfl⟩
theorem eX11_accuse_70 : aAL cX11_accuse 70 0 71 := Or.inl ⟨0, by decide +kernel, rfl, rfl⟩
theorem eX11_accuse_71 : aI3 cX11_accuse 71 (.getfield 29) 74 := ⟨by decide +kernel, rfl⟩
theorem eX11_accuse_74 : aI1 cX11_accuse 74 (.dup) 75 := ⟨by decide +kernel, rfl⟩
theorem eX11_accuse_75 : aI3 cX11_accuse 75 (.getfield 109) 78 := ⟨by decide +kernel, rfl⟩
theorem eX11_accuse_78 : aPI cX11_accuse 78 (nI 1) 79 := Or.inl ⟨1, by decide +kernel, by decide +kernel, rfl⟩
theorem eX11_accuse_79 : aI1 cX11_accuse 79 (.iadd) 80 := ⟨by decide +kernel, rfl⟩
theorem eX11_accuse_80 : aI3 cX11_accuse 80 (.putfield 109) 83 := ⟨by decide +kernel, rfl⟩
theorem eX11_accuse_83 : aIL cX11_accuse 83 3 84 := Or.inl ⟨3, by decide +kernel, rfl, rfl⟩
theorem eX11_accuse_84 : ∀ x : Int32, aRet cX11_accuse (some .int) 84 (some (.int x)) := fun x => Or.inr (Or.inl ⟨x, _, rfl, rfl, rfl, by decide +kernel⟩)
theorem eX11_about_0 : aAL cX11_about 0 0 1 := Or.inl ⟨0, by decide +kernel, rfl, rfl⟩
theorem eX11_about_1 : aIL cX11_about 1 1 2 := Or.inl ⟨1, by decide +kernel, rfl, rfl⟩
theorem eX11_about_2 : aI3 cX11_about 2 (.invokevirtual 118) 5 := ⟨by decide +kernel, rfl⟩
theorem eX11_about_5 : aAS cX11_about 5 3 6 := Or.inl ⟨3, by decide +kernel, rfl, rfl⟩
theorem eX11_about_6 : aAL cX11_about 6 3 7 := Or.inl ⟨3, by decide +kernel, rfl, rfl⟩
theorem eX11_about_7 : aNn cX11_about 7 10 13 := ⟨6, by decide +kernel, rfl, by decide⟩
theorem eX11_about_10 : aPI cX11_about 10 (-101) 12 := Or.inr (Or.inl ⟨(-101), by decide +kernel, by decide +kernel, rfl⟩)
theorem eX11_about_12 : ∀ x : Int32, aRet cX11_about (some .int) 12 (some (.int x)) := fun x => Or.inr (Or.inl ⟨x, _, rfl, rfl, rfl, by decide +kernel⟩)
theorem eX11_about_13 : aIL cX11_about 13 2 14 := Or.inl ⟨2, by decide +kernel, rfl, rfl⟩
theorem eX11_about_14 : decode cX11_about 14 = .ok (.tableswitch 140 0 7 #[46, 51, 56, 69, 85, 116, 122, 134], 46) := by decide +kernel
theorem eX11_about_60 : aAL cX11_about 60 3 61 := Or.inl ⟨3, by decide +kernel, rfl, rfl⟩
theorem eX11_about_61 : aI3 cX11_about 61 (.invokevirtual 122) 64 := ⟨by decide +kernel, rfl⟩
theorem eX11_about_64 : ∀ x : Int32, aRet cX11_about (some .int) 64 (some (.int x)) := fun x => Or.inr (Or.inl ⟨x, _, rfl, rfl, rfl, by decide +kernel⟩)
theorem eX11_about_65 : aAL cX11_about 65 3 66 := Or.inl ⟨3, by decide +kernel, rfl, rfl⟩
theorem eX11_about_66 : aI3 cX11_about 66 (.invokevirtual 125) 69 := ⟨by decide +kernel, rfl⟩
theorem eX11_about_69 : ∀ x : Int32, aRet cX11_about (some .int) 69 (some (.int x)) := fun x => Or.inr (Or.inl ⟨x, _, rfl, rfl, rfl, by decide +kernel⟩)
theorem eX11_about_70 : aAL cX11_about 70 0 71 := Or.inl ⟨0, by decide +kernel, rfl, rfl⟩
theorem eX11_about_71 : aIL cX11_about 71 1 72 := Or.inl ⟨1, by decide +kernel, rfl, rfl⟩
theorem eX11_about_72 : aAL cX11_about 72 0 73 := Or.inl ⟨0, by decide +kernel, rfl, rfl⟩
theorem eX11_about_73 : aI3 cX11_about 73 (.getfield 29) 76 := ⟨by decide +kernel, rfl⟩
theorem eX11_about_76 : aI3 cX11_about 76 (.getfield 79) 79 := ⟨by decide +kernel, rfl⟩
theorem eX11_about_79 : aI3 cX11_about 79 (.invokevirtual 128) 82 := ⟨by decide +kernel, rfl⟩
theorem eX11_about_82 : ∀ x : Int32, aRet cX11_about (some .int) 82 (some (.int x)) := fun x => Or.inr (Or.inl ⟨x, _, rfl, rfl, rfl, by decide +kernel⟩)
theorem eX11_about_83 : aAL cX11_about 83 0 84 := Or.inl ⟨0, by decide +kernel, rfl, rfl⟩
theorem eX11_about_84 : aIL cX11_about 84 1 85 := Or.inl ⟨1, by decide +kernel, rfl, rfl⟩
theorem eX11_about_85 : aAL cX11_about 85 0 86 := Or.inl ⟨0, by decide +kernel, rfl, rfl⟩
theorem eX11_about_86 : aI3 cX11_about 86 (.getfield 29) 89 := ⟨by decide +kernel, rfl⟩
theorem eX11_about_89 : aI3 cX11_about 89 (.getfield 79) 92 := ⟨by decide +kernel, rfl⟩
theorem eX11_about_92 : aI3 cX11_about 92 (.invokevirtual 128) 95 := ⟨by decide +kernel, rfl⟩
theorem eX11_about_95 : aI3 cX11_about 95 (.invokestatic 132) 98 := ⟨by decide +kernel, rfl⟩
theorem eX11_about_98 : ∀ x : Int32, aRet cX11_about (some .int) 98 (some (.int x)) := fun x => Or.inr (Or.inl ⟨x, _, rfl, rfl, rfl, by decide +kernel⟩)
theorem eX11_about_99 : aAL cX11_about 99 0 100 := Or.inl ⟨0, by decide +kernel, rfl, rfl⟩
theorem eX11_about_100 : aIL cX11_about 100 1 101 := Or.inl ⟨1, by decide +kernel, rfl, rfl⟩
theorem eX11_about_101 : aAL cX11_about 101 0 102 := Or.inl ⟨0, by decide +kernel, rfl, rfl⟩
theorem eX11_about_102 : aI3 cX11_about 102 (.getfield 29) 105 := ⟨by decide +kernel, rfl⟩
theorem eX11_about_105 : aI3 cX11_about 105 (.getfield 79) 108 := ⟨by decide +kernel, rfl⟩
theorem eX11_about_108 : aI3 cX11_about 108 (.invokevirtual 128) 111 := ⟨by decide +kernel, rfl⟩
theorem eX11_about_111 : aI3 cX11_about 111 (.invokestatic 132) 114 := ⟨by decide +kernel, rfl⟩
theorem eX11_about_114 : aAL cX11_about 114 0 115 := Or.inl ⟨0, by decide +kernel, rfl, rfl⟩
theorem eX11_about_115 : aI3 cX11_about 115 (.getfield 29) 118 := ⟨by decide +kernel, rfl⟩
theorem eX11_about_118 : aI3 cX11_about 118 (.getfield 103) 121 := ⟨by decide +kernel, rfl⟩
theorem eX11_about_121 : aIc_lt cX11_about 121 124 128 := ⟨7, by decide +kernel, rfl, by decide⟩
theorem eX11_about_124 : aPI cX11_about 124 (nI 1) 125 := Or.inl ⟨1, by decide +kernel, by decide +kernel, rfl⟩
theorem eX11_about_125 : aGo cX11_about 125 129 := ⟨4, by decide +kernel, by decide⟩
theorem eX11_about_128 : aPI cX11_about 128 (nI 0) 129 := Or.inl ⟨0, by decide +kernel, by decide +kernel, rfl⟩
theorem eX11_about_129 : ∀ x : Int32, aRet cX11_about (some .int) 129 (some (.int x)) := fun x => Or.inr (Or.inl ⟨x, _, rfl, rfl, rfl, by decide +kernel⟩)
theorem eX11_about_130 : aAL cX11_about 130 0 131 := Or.inl ⟨0, by decide +kernel, rfl, rfl⟩
theorem eX11_about_131 : aIL cX11_about 131 1 132 := Or.inl ⟨1, by decide +kernel, rfl, rfl⟩
theorem eX11_about_132 : aI3 cX11_about 132 (.invokevirtual 137) 135 := ⟨by decide +kernel, rfl⟩
theorem eX11_about_135 : ∀ x : Int32, aRet cX11_about (some .int) 135 (some (.int x)) := fun x => Or.inr (Or.inl ⟨x, _, rfl, rfl, rfl, by decide +kernel⟩)
theorem eX11_about_136 : aAL cX11_about 136 0 137 := Or.inl ⟨0, by decide +kernel, rfl, rfl⟩
theorem eX11_about_137 : aI3 cX11_about 137 (.getfield 29) 140 := ⟨by decide +kernel, rfl⟩
theorem eX11_about_140 : aI3 cX11_about 140 (.getfield 140) 143 := ⟨by decide +kernel, rfl⟩
theorem eX11_about_143 : aIL cX11_about 143 1 144 := Or.inl ⟨1, by decide +kernel, rfl, rfl⟩
theorem eX11_about_144 : aI3 cX11_about 144 (.invokevirtual 144) 147 := ⟨by decide +kernel, rfl⟩
theorem eX11_about_147 : ∀ x : Int32, aRet cX11_about (some .int) 147 (some (.int x)) := fun x => Or.inr (Or.inl ⟨x, _, rfl, rfl, rfl, by decide +kernel⟩)
theorem eX11_about_148 : aAL cX11_about 148 0 149 := Or.inl ⟨0, by decide +kernel, rfl, rfl⟩
theorem eX11_about_149 : aIL cX11_about 149 1 150 := Or.inl ⟨1, by decide +kernel, rfl, rfl⟩
theorem eX11_about_150 : aI3 cX11_about 150 (.invokevirtual 149) 153 := ⟨by decide +kernel, rfl⟩
theorem eX11_about_153 : ∀ x : Int32, aRet cX11_about (some .int) 153 (some (.int x)) := fun x => Or.inr (Or.inl ⟨x, _, rfl, rfl, rfl, by decide +kernel⟩)
theorem eX11_about_154 : aPI cX11_about 154 (-102) 156 := Or.inr (Or.inl ⟨(-102), by decide +kernel, by decide +kernel, rfl⟩)
theorem eX11_about_156 : ∀ x : Int32, aRet cX11_about (some .int) 156 (some (.int x)) := fun x => Or.inr (Or.inl ⟨x, _, rfl, rfl, rfl, by decide +kernel⟩)
theorem eX11_as_0 : aAL cX11_as 0 0 1 := Or.inl ⟨0, by decide +kernel, rfl, rfl⟩
theorem eX11_as_1 : aIL cX11_as 1 1 2 := Or.inl ⟨1, by decide +kernel, rfl, rfl⟩
theorem eX11_as_2 : aI3 cX11_as 2 (.invokevirtual 118) 5 := ⟨by decide +kernel, rfl⟩
theorem eX11_as_5 : aAS cX11_as 5 3 6 := Or.inl ⟨3, by decide +kernel, rfl, rfl⟩
theorem eX11_as_6 : aAL cX11_as 6 3 7 := Or.inl ⟨3, by decide +kernel, rfl, rfl⟩
theorem eX11_as_7 : aNn cX11_as 7 10 13 := ⟨6, by decide +kernel, rfl, by decide⟩
theorem eX11_as_10 : aPI cX11_as 10 (-101) 12 := Or.inr (Or.inl ⟨(-101), by decide +kernel, by decide +kernel, rfl⟩)
theorem eX11_as_12 : ∀ x : Int32, aRet cX11_as (some .int) 12 (some (.int x)) := fun x => Or.inr (Or.inl ⟨x, _, rfl, rfl, rfl, by decide +kernel⟩)
theorem eX11_as_13 : aIL cX11_as 13 2 14 := Or.inl ⟨2, by decide +kernel, rfl, rfl⟩
theorem eX11_as_14 : aI3 cX11_as 14 (.invokestatic 106) 17 := ⟨by decide +kernel, rfl⟩
theorem eX11_as_17 : aIf_ne cX11_as 17 20 23 := ⟨6, by decide +kernel, rfl, by decide⟩
theorem eX11_as_20 : aPI cX11_as 20 (-102) 22 := Or.inr (Or.inl ⟨(-102), by decide +kernel, by decide +kernel, rfl⟩)
theorem eX11_as_22 : ∀ x : Int32, aRet cX11_as (some .int) 22 (some (.int x)) := fun x => Or.inr (Or.inl ⟨x, _, rfl, rfl, rfl, by decide +kernel⟩)
theorem eX11_as_23 : aAL cX11_as 23 3 24 := Or.inl ⟨3, by decide +kernel, rfl, rfl⟩
theorem eX11_as_24 : aIL cX11_as 24 2 25 := Or.inl ⟨2, by decide +kernel, rfl, rfl⟩
theorem eX11_as_25 : aI3 cX11_as 25 (.invokestatic 152) 28 := ⟨by decide +kernel, rfl⟩
theorem eX11_as_28 : aIf_eq cX11_as 28 31 35 := ⟨7, by decide +kernel, rfl, by decide⟩
theorem eX11_as_31 : aIL cX11_as 31 1 32 := Or.inl ⟨1, by decide +kernel, rfl, rfl⟩
theorem eX11_as_32 : aGo cX11_as 32 36 := ⟨4, by decide +kernel, by decide⟩
theorem eX11_as_35 : aPI cX11_as 35 (-1) 36 := Or.inl ⟨(-1), by decide +kernel, by decide +kernel, rfl⟩
theorem eX11_as_36 : ∀ x : Int32, aRet cX11_as (some .int) 36 (some (.int x)) := fun x => Or.inr (Or.inl ⟨x, _, rfl, rfl, rfl, by decide +kernel⟩)
theorem eX11_lesson_0 : aAL cX11_lesson 0 0 1 := Or.inl ⟨0, by decide +kernel, rfl, rfl⟩
theorem eX11_lesson_1 : aIL cX11_lesson 1 1 2 := Or.inl ⟨1, by decide +kernel, rfl, rfl⟩
theorem eX11_lesson_2 : aI3 cX11_lesson 2 (.invokevirtual 156) 5 := ⟨by decide +kernel, rfl⟩
theorem eX11_lesson_5 : aIf_ne cX11_lesson 5 8 11 := ⟨6, by decide +kernel, rfl, by decide⟩
theorem eX11_lesson_8 : aPI cX11_lesson 8 (-101) 10 := Or.inr (Or.inl ⟨(-101), by decide +kernel, by decide +kernel, rfl⟩)
theorem eX11_lesson_10 : ∀ x : Int32, aRet cX11_lesson (some .int) 10 (some (.int x)) := fun x => Or.inr (Or.inl ⟨x, _, rfl, rfl, rfl, by decide +kernel⟩)
theorem eX11_lesson_11 : aIL cX11_lesson 11 2 12 := Or.inl ⟨2, by decide +kernel, rfl, rfl⟩
theorem eX11_lesson_12 : aI3 cX11_lesson 12 (.invokestatic 93) 15 := ⟨by decide +kernel, rfl⟩
theorem eX11_lesson_15 : aIf_ne cX11_lesson 15 18 21 := ⟨6, by decide +kernel, rfl, by decide⟩
theorem eX11_lesson_18 : aPI cX11_lesson 18 (-102) 20 := Or.inr (Or.inl ⟨(-102), by decide +kernel, by decide +kernel, rfl⟩)
theorem eX11_lesson_20 : ∀ x : Int32, aRet cX11_lesson (some .int) 20 (some (.int x)) := fun x => Or.inr (Or.inl ⟨x, _, rfl, rfl, rfl, by decide +kernel⟩)
theorem eX11_lesson_21 : aAL cX11_lesson 21 0 22 := Or.inl ⟨0, by decide +kernel, rfl, rfl⟩
theorem eX11_lesson_22 : aI3 cX11_lesson 22 (.getfield 29) 25 := ⟨by decide +kernel, rfl⟩
theorem eX11_lesson_25 : aI3 cX11_lesson 25 (.getfield 115) 28 := ⟨by decide +kernel, rfl⟩
theorem eX11_lesson_28 : aIL cX11_lesson 28 1 29 := Or.inl ⟨1, by decide +kernel, rfl, rfl⟩
theorem eX11_lesson_29 : aI1 cX11_lesson 29 (.iaload) 30 := ⟨by decide +kernel, rfl⟩
theorem eX11_lesson_30 : aPI cX11_lesson 30 (nI 1) 31 := Or.inl ⟨1, by decide +kernel, by decide +kernel, rfl⟩
theorem eX11_lesson_31 : aIL cX11_lesson 31 2 32 := Or.inl ⟨2, by decide +kernel, rfl, rfl⟩
theorem eX11_lesson_32 : aI1 cX11_lesson 32 (.ishl) 33 := ⟨by decide +kernel, rfl⟩
theorem eX11_lesson_33 : aI1 cX11_lesson 33 (.ior) 34 := ⟨by decide +kernel, rfl⟩
theorem eX11_lesson_34 : aIS cX11_lesson 34 3 35 := Or.inl ⟨3, by decide +kernel, rfl, rfl⟩
theorem eX11_lesson_35 : aIL cX11_lesson 35 3 36 := Or.inl ⟨3, by decide +kernel, rfl, rfl⟩
theorem eX11_lesson_36 : aAL cX11_lesson 36 0 37 := Or.inl ⟨0, by decide +kernel, rfl, rfl⟩
theorem eX11_lesson_37 : aI3 cX11_lesson 37 (.getfield 29) 40 := ⟨by decide +kernel, rfl⟩
theorem eX11_lesson_40 : aI3 cX11_lesson 40 (.getfield 115) 43 := ⟨by decide +kernel, rfl⟩
theorem eX11_lesson_43 : aIL cX11_lesson 43 1 44 := Or.inl ⟨1, by decide +kernel, rfl, rfl⟩
theorem eX11_lesson_44 : aI1 cX11_lesson 44 (.iaload) 45 := ⟨by decide +kernel, rfl⟩
theorem eX11_lesson_45 : aIc_ne cX11_lesson 45 48 51 := ⟨6, by decide +kernel, rfl, by decide⟩
theorem eX11_lesson_48 : aPI cX11_lesson 48 (-103) 50 := Or.inr (Or.inl ⟨(-103), by decide +kernel, by decide +kernel, rfl⟩)
theorem eX11_lesson_50 : ∀ x : Int32, aRet cX11_lesson (some .int) 50 (some (.int x)) := fun x => Or.inr (Or.inl ⟨x, _, rfl, rfl, rfl, by decide +kernel⟩)
theorem eX11_lesson_51 : aAL cX11_lesson 51 0 52 := Or.inl ⟨0, by decide +kernel, rfl, rfl⟩
theorem eX11_lesson_52 : aI3 cX11_lesson 52 (.getfield 29) 55 := ⟨by decide +kernel, rfl⟩
theorem eX11_lesson_55 : aI3 cX11_lesson 55 (.getfield 115) 58 := ⟨by decide +kernel, rfl⟩
theorem eX11_lesson_58 : aIL cX11_lesson 58 1 59 := Or.inl ⟨1, by decide +kernel, rfl, rfl⟩
theorem eX11_lesson_59 : aIL cX11_lesson 59 3 60 := Or.inl ⟨3, by decide +kernel, rfl, rfl⟩
theorem eX11_lesson_60 : aI1 cX11_lesson 60 (.iastore) 61 := ⟨by decide +kernel, rfl⟩
theorem eX11_lesson_61 : aAL cX11_lesson 61 0 62 := Or.inl ⟨0, by decide +kernel, rfl, rfl⟩
theorem eX11_lesson_62 : aI3 cX11_lesson 62 (.getfield 29) 65 := ⟨by decide +kernel, rfl⟩
theorem eX11_lesson_65 : aI1 cX11_lesson 65 (.dup) 66 := ⟨by decide +kernel, rfl⟩
theorem eX11_lesson_66 : aI3 cX11_lesson 66 (.getfield 100) 69 := ⟨by decide +kernel, rfl⟩
theorem eX11_lesson_69 : aPI cX11_lesson 69 (nI 1) 70 := Or.inl ⟨1, by decide +kernel, by decide +kernel, rfl⟩
theorem eX11_lesson_70 : aI1 cX11_lesson 70 (.iadd) 71 := ⟨by decide +kernel, rfl⟩
theorem eX11_lesson_71 : aI3 cX11_lesson 71 (.putfield 100) 74 := ⟨by decide +kernel, rfl⟩
theorem eX11_lesson_74 : aIL cX11_lesson 74 3 75 := Or.inl ⟨3, by decide +kernel, rfl, rfl⟩
theorem eX11_lesson_75 : aI3 cX11_lesson 75 (.invokestatic 132) 78 := ⟨by decide +kernel, rfl⟩
theorem eX11_lesson_78 : ∀ x : Int32, aRet cX11_lesson (some .int) 78 (some (.int x)) := fun x => Or.inr (Or.inl ⟨x, _, rfl, rfl, rfl, by decide +kernel⟩)
theorem eX11_unlearn_0 : aAL cX11_unlearn 0 0 1 := Or.inl ⟨0, by decide +kernel, rfl, rfl⟩
theorem eX11_unlearn_1 : aIL cX11_unlearn 1 1 2 := Or.inl ⟨1, by decide +kernel, rfl, rfl⟩
theorem eX11_unlearn_2 : aI3 cX11_unlearn 2 (.invokevirtual 156) 5 := ⟨by decide +kernel, rfl⟩
theorem eX11_unlearn_5 : aIf_ne cX11_unlearn 5 8 11 := ⟨6, by decide +kernel, rfl, by decide⟩
theorem eX11_unlearn_8 : aPI cX11_unlearn 8 (-101) 10 := Or.inr (Or.inl ⟨(-101), by decide +kernel, by decide +kernel, rfl⟩)
theorem eX11_unlearn_10 : ∀ x : Int32, aRet cX11_unlearn (some .int) 10 (some (.int x)) := fun x => Or.inr (Or.inl ⟨x, _, rfl, rfl, rfl, by decide +kernel⟩)
theorem eX11_unlearn_11 : aAL cX11_unlearn 11 0 12 := Or.inl ⟨0, by decide +kernel, rfl, rfl⟩
theorem eX11_unlearn_12 : aI3 cX11_unlearn 12 (.getfield 29) 15 := ⟨by decide +kernel, rfl⟩
theorem eX11_unlearn_15 : aI3 cX11_unlearn 15 (.getfield 115) 18 := ⟨by decide +kernel, rfl⟩
theorem eX11_unlearn_18 : aIL cX11_unlearn 18 1 19 := Or.inl ⟨1, by decide +kernel, rfl, rfl⟩
theorem eX11_unlearn_19 : aI1 cX11_unlearn 19 (.iaload) 20 := ⟨by decide +kernel, rfl⟩
theorem eX11_unlearn_20 : aI3 cX11_unlearn 20 (.invokestatic 132) 23 := ⟨by decide +kernel, rfl⟩
theorem eX11_unlearn_23 : aIS cX11_unlearn 23 2 24 := Or.inl ⟨2, by decide +kernel, rfl, rfl⟩
theorem eX11_unlearn_24 : aAL cX11_unlearn 24 0 25 := Or.inl ⟨0, by decide +kernel, rfl, rfl⟩
theorem eX11_unlearn_25 : aI3 cX11_unlearn 25 (.getfield 29) 28 := ⟨by decide +kernel, rfl⟩
theorem eX11_unlearn_28 : aI3 cX11_unlearn 28 (.getfield 115) 31 := ⟨by decide +kernel, rfl⟩
theorem eX11_unlearn_31 : aIL cX11_unlearn 31 1 32 := Or.inl ⟨1, by decide +kernel, rfl, rfl⟩
theorem eX11_unlearn_32 : aPI cX11_unlearn 32 (nI 0) 33 := Or.inl ⟨0, by decide +kernel, by decide +kernel, rfl⟩
theorem eX11_unlearn_33 : aI1 cX11_unlearn 33 (.iastore) 34 := ⟨by decide +kernel, rfl⟩
theorem eX11_unlearn_34 : aAL cX11_unlearn 34 0 35 := Or.inl ⟨0, by decide +kernel, rfl, rfl⟩
theorem eX11_unlearn_35 : aI3 cX11_unlearn 35 (.getfield 29) 38 := ⟨by decide +kernel, rfl⟩
theorem eX11_unlearn_38 : aI1 cX11_unlearn 38 (.dup) 39 := ⟨by decide +kernel, rfl⟩
theorem eX11_unlearn_39 : aI3 cX11_unlearn 39 (.getfield 100) 42 := ⟨by decide +kernel, rfl⟩
theorem eX11_unlearn_42 : aPI cX11_unlearn 42 (nI 1) 43 := Or.inl ⟨1, by decide +kernel, by decide +kernel, rfl⟩
theorem eX11_unlearn_43 : aI1 cX11_unlearn 43 (.iadd) 44 := ⟨by decide +kernel, rfl⟩
theorem eX11_unlearn_44 : aI3 cX11_unlearn 44 (.putfield 100) 47 := ⟨by decide +kernel, rfl⟩
theorem eX11_unlearn_47 : aIL cX11_unlearn 47 2 48 := Or.inl ⟨2, by decide +kernel, rfl, rfl⟩
theorem eX11_unlearn_48 : ∀ x : Int32, aRet cX11_unlearn (some .int) 48 (some (.int x)) := fun x => Or.inr (Or.inl ⟨x, _, rfl, rfl, rfl, by decide +kernel⟩)
theorem eX11_trials_0 : aIL cX11_trials 0 1 1 := Or.inl ⟨1, by decide +kernel, rfl, rfl⟩
theorem eX11_trials_1 : aPI cX11_trials 1 (nI 1) 2 := Or.inl ⟨1, by decide +kernel, by decide +kernel, rfl⟩
theorem eX11_trials_2 : aIc_lt cX11_trials 2 5 24 := ⟨22, by decide +kernel, rfl, by decide⟩
theorem eX11_trials_5 : aIL cX11_trials 5 1 6 := Or.inl ⟨1, by decide +kernel, rfl, rfl⟩
theorem eX11_trials_6 : aPI cX11_trials 6 (nI 40) 8 := Or.inr (Or.inl ⟨40, by decide +kernel, by decide +kernel, rfl⟩)
theorem eX11_trials_8 : aIc_gt cX11_trials 8 11 24 := ⟨16, by decide +kernel, rfl, by decide⟩
theorem eX11_trials_11 : aIL cX11_trials 11 2 12 := Or.inl ⟨2, by decide +kernel, rfl, rfl⟩
theorem eX11_trials_12 : aIf_lt cX11_trials 12 15 24 := ⟨12, by decide +kernel, rfl, by decide⟩
theorem eX11_trials_15 : aIL cX11_trials 15 3 16 := Or.inl ⟨3, by decide +kernel, rfl, rfl⟩
theorem eX11_trials_16 : aIf_lt cX11_trials 16 19 24 := ⟨8, by decide +kernel, rfl, by decide⟩
theorem eX11_trials_19 : aIL cX11_trials 19 3 20 := Or.inl ⟨3, by decide +kernel, rfl, rfl⟩
theorem eX11_trials_20 : aPI cX11_trials 20 (nI 2) 21 := Or.inl ⟨2, by decide +kernel, by decide +kernel, rfl⟩
theorem eX11_trials_21 : aIc_le cX11_trials 21 24 27 := ⟨6, by decide +kernel, rfl, by decide⟩
theorem eX11_trials_24 : aPI cX11_trials 24 (-102) 26 := Or.inr (Or.inl ⟨(-102), by decide +kernel, by decide +kernel, rfl⟩)
theorem eX11_trials_26 : ∀ x : Int32, aRet cX11_trials (some .int) 26 (some (.int x)) := fun x => Or.inr (Or.inl ⟨x, _, rfl, rfl, rfl, by decide +kernel⟩)
theorem eX11_trials_27 : aAL cX11_trials 27 0 28 := Or.inl ⟨0, by decide +kernel, rfl, rfl⟩
theorem eX11_trials_28 : aI3 cX11_trials 28 (.invokevirtual 83) 31 := ⟨by decide +kernel, rfl⟩
theorem eX11_trials_31 : aIf_ne cX11_trials 31 34 37 := ⟨6, by decide +kernel, rfl, by decide⟩
theorem eX11_trials_34 : aPI cX11_trials 34 (-103) 36 := Or.inr (Or.inl ⟨(-103), by decide +kernel, by decide +kernel, rfl⟩)
theorem eX11_trials_36 : ∀ x : Int32, aRet cX11_trials (some .int) 36 (some (.int x)) := fun x => Or.inr (Or.inl ⟨x, _, rfl, rfl, rfl, by decide +kernel⟩)
theorem eX11_trials_37 : aPI cX11_trials 37 (nI 0) 38 := Or.inl ⟨0, by decide +kernel, by decide +kernel, rfl⟩
theorem eX11_trials_38 : aIS cX11_trials 38 4 40 := Or.inr ⟨by decide +kernel, rfl⟩
theorem eX11_trials_40 : aPI cX11_trials 40 (nI 0) 41 := Or.inl ⟨0, by decide +kernel, by decide +kernel, rfl⟩
theorem eX11_trials_41 : aIS cX11_trials 41 5 43 := Or.inr ⟨by decide +kernel, rfl⟩
theorem eX11_trials_43 : aIL cX11_trials 43 2 44 := Or.inl ⟨2, by decide +kernel, rfl, rfl⟩
theorem eX11_trials_44 : aIS cX11_trials 44 6 46 := Or.inr ⟨by decide +kernel, rfl⟩
theorem eX11_trials_46 : aPI cX11_trials 46 (nI 0) 47 := Or.inl ⟨0, by decide +kernel, by decide +kernel, rfl⟩
theorem eX11_trials_47 : aIS cX11_trials 47 7 49 := Or.inr ⟨by decide +kernel, rfl⟩
theorem eX11_trials_49 : aIL cX11_trials 49 7 51 := Or.inr ⟨by decide +kernel, rfl⟩
theorem eX11_trials_51 : aIL cX11_trials 51 1 52 := Or.inl ⟨1, by decide +kernel, rfl, rfl⟩
theorem eX11_trials_52 : aIc_ge cX11_trials 52 55 95 := ⟨43, by decide +kernel, rfl, by decide⟩
theorem eX11_trials_55 : aAL cX11_trials 55 0 56 := Or.inl ⟨0, by decide +kernel, rfl, rfl⟩
theorem eX11_trials_56 : aIL cX11_trials 56 6 58 := Or.inr ⟨by decide +kernel, rfl⟩
theorem eX11_trials_58 : aI3 cX11_trials 58 (.invokevirtual 190) 61 := ⟨by decide +kernel, rfl⟩
theorem eX11_trials_61 : aIS cX11_trials 61 6 63 := Or.inr ⟨by decide +kernel, rfl⟩
theorem eX11_trials_63 : aIL cX11_trials 63 4 65 := Or.inr ⟨by decide +kernel, rfl⟩
theorem eX11_trials_65 : aAL cX11_trials 65 0 66 := Or.inl ⟨0, by decide +kernel, rfl, rfl⟩
theorem eX11_trials_66 : aAL cX11_trials 66 0 67 := Or.inl ⟨0, by decide +kernel, rfl, rfl⟩
theorem eX11_trials_67 : aI3 cX11_trials 67 (.getfield 39) 70 := ⟨by decide +kernel, rfl⟩
theorem eX11_trials_70 : aI3 cX11_trials 70 (.invokevirtual 193) 73 := ⟨by decide +kernel, rfl⟩
theorem eX11_trials_73 : aI1 cX11_trials 73 (.iadd) 74 := ⟨by decide +kernel, rfl⟩
theorem eX11_trials_74 : aIS cX11_trials 74 4 76 := Or.inr ⟨by decide +kernel, rfl⟩
theorem eX11_trials_76 : aIL cX11_trials 76 5 78 := Or.inr ⟨by decide +kernel, rfl⟩
theorem eX11_trials_78 : aAL cX11_trials 78 0 79 := Or.inl ⟨0, by decide +kernel, rfl, rfl⟩
theorem eX11_trials_79 : aAL cX11_trials 79 0 80 := Or.inl ⟨0, by decide +kernel, rfl, rfl⟩
theorem eX11_trials_80 : aI3 cX11_trials 80 (.getfield 39) 83 := ⟨by decide +kernel, rfl⟩
theorem eX11_trials_83 : aI3 cX11_trials 83 (.invokevirtual 197) 86 := ⟨by decide +kernel, rfl⟩
theorem eX11_trials_86 : aI1 cX11_trials 86 (.iadd) 87 := ⟨by decide +kernel, rfl⟩
theorem eX11_trials_87 : aIS cX11_trials 87 5 89 := Or.inr ⟨by decide +kernel, rfl⟩
theorem eX11_trials_89 : aII cX11_trials 89 7 (nI 1) 92 := ⟨1, by decide +kernel, by decide +kernel, rfl⟩
theorem eX11_trials_92 : aGo cX11_trials 92 49 := ⟨(-43), by decide +kernel, by decide⟩
theorem eX11_trials_95 : aIL cX11_trials 95 3 96 := Or.inl ⟨3, by decide +kernel, rfl, rfl⟩
theorem eX11_trials_96 : aIf_ne cX11_trials 96 99 102 := ⟨6, by decide +kernel, rfl, by decide⟩
theorem eX11_trials_99 : aIL cX11_trials 99 4 101 := Or.inr ⟨by decide +kernel, rfl⟩
theorem eX11_trials_101 : ∀ x : Int32, aRet cX11_trials (some .int) 101 (some (.int x)) := fun x => Or.inr (Or.inl ⟨x, _, rfl, rfl, rfl, by decide +kernel⟩)
theorem eX11_trials_102 : aIL cX11_trials 102 3 103 := Or.inl ⟨3, by decide +kernel, rfl, rfl⟩
theorem eX11_trials_103 : aPI cX11_trials 103 (nI 1) 104 := Or.inl ⟨1, by decide +kernel, by decide +kernel, rfl⟩
theorem eX11_trials_104 : aIc_ne cX11_trials 104 107 112 := ⟨8, by decide +kernel, rfl, by decide⟩
theorem eX11_trials_107 : aIL cX11_trials 107 5 109 := Or.inr ⟨by decide +kernel, rfl⟩
theorem eX11_trials_109 : aGo cX11_trials 109 114 := ⟨5, by decide +kernel, by decide⟩
theorem eX11_trials_112 : aIL cX11_trials 112 6 114 := Or.inr ⟨by decide +kernel, rfl⟩
theorem eX11_trials_114 : ∀ x : Int32, aRet cX11_trials (some .int) 114 (some (.int x)) := fun x => Or.inr (Or.inl ⟨x, _, rfl, rfl, rfl, by decide +kernel⟩)
theorem eX11_count_0 : aIL cX11_count 0 1 1 := Or.inl ⟨1, by decide +kernel, rfl, rfl⟩
theorem eX11_count_1 : decode cX11_count 1 = .ok (.tableswitch 142 0 9 #[55, 66, 74, 82, 94, 105, 113, 124, 132, 137], 55) := by decide +kernel
theorem eX11_count_56 : aAL cX11_count 56 0 57 := Or.inl ⟨0, by decide +kernel, rfl, rfl⟩
theorem eX11_count_57 : aI3 cX11_count 57 (.getfield 29) 60 := ⟨by decide +kernel, rfl⟩
theorem eX11_count_60 : aI3 cX11_count 60 (.getfield 79) 63 := ⟨by decide +kernel, rfl⟩
theorem eX11_count_63 : aI3 cX11_count 63 (.invokevirtual 82) 66 := ⟨by decide +kernel, rfl⟩
theorem eX11_count_66 : ∀ x : Int32, aRet cX11_count (some .int) 66 (some (.int x)) := fun x => Or.inr (Or.inl ⟨x, _, rfl, rfl, rfl, by decide +kernel⟩)
theorem eX11_count_67 : aAL cX11_count 67 0 68 := Or.inl ⟨0, by decide +kernel, rfl, rfl⟩
theorem eX11_count_68 : aI3 cX11_count 68 (.getfield 29) 71 := ⟨by decide +kernel, rfl⟩
theorem eX11_count_71 : aI3 cX11_count 71 (.getfield 103) 74 := ⟨by decide +kernel, rfl⟩
theorem eX11_count_74 : ∀ x : Int32, aRet cX11_count (some .int) 74 (some (.int x)) := fun x => Or.inr (Or.inl ⟨x, _, rfl, rfl, rfl, by decide +kernel⟩)
theorem eX11_count_75 : aAL cX11_count 75 0 76 := Or.inl ⟨0, by decide +kernel, rfl, rfl⟩
theorem eX11_count_76 : aI3 cX11_count 76 (.getfield 29) 79 := ⟨by decide +kernel, rfl⟩
theorem eX11_count_79 : aI3 cX11_count 79 (.getfield 109) 82 := ⟨by decide +kernel, rfl⟩
theorem eX11_count_82 : ∀ x : Int32, aRet cX11_count (some .int) 82 (some (.int x)) := fun x => Or.inr (Or.inl ⟨x, _, rfl, rfl, rfl, by decide +kernel⟩)
theorem eX11_count_83 : aAL cX11_count 83 0 84 := Or.inl ⟨0, by decide +kernel, rfl, rfl⟩
theorem eX11_count_84 : aAL cX11_count 84 0 85 := Or.inl ⟨0, by decide +kernel, rfl, rfl⟩
theorem eX11_count_85 : aI3 cX11_count 85 (.getfield 29) 88 := ⟨by decide +kernel, rfl⟩
theorem eX11_count_88 : aI3 cX11_count 88 (.getfield 79) 91 := ⟨by decide +kernel, rfl⟩
theorem eX11_count_91 : aI3 cX11_count 91 (.invokevirtual 193) 94 := ⟨by decide +kernel, rfl⟩
theorem eX11_count_94 : ∀ x : Int32, aRet cX11_count (some .int) 94 (some (.int x)) := fun x => Or.inr (Or.inl ⟨x, _, rfl, rfl, rfl, by decide +kernel⟩)
theorem eX11_count_95 : aAL cX11_count 95 0 96 := Or.inl ⟨0, by decide +kernel, rfl, rfl⟩
theorem eX11_count_96 : aI3 cX11_count 96 (.getfield 29) 99 := ⟨by decide +kernel, rfl⟩
theorem eX11_count_99 : aI3 cX11_count 99 (.getfield 79) 102 := ⟨by decide +kernel, rfl⟩
theorem eX11_count_102 : aI3 cX11_count 102 (.invokevirtual 204) 105 := ⟨by decide +kernel, rfl⟩
theorem eX11_count_105 : ∀ x : Int32, aRet cX11_count (some .int) 105 (some (.int x)) := fun x => Or.inr (Or.inl ⟨x, _, rfl, rfl, rfl, by decide +kernel⟩)
theorem eX11_count_106 : aAL cX11_count 106 0 107 := Or.inl ⟨0, by decide +kernel, rfl, rfl⟩
theorem eX11_count_107 : aI3 cX11_count 107 (.getfield 29) 110 := ⟨by decide +kernel, rfl⟩
theorem eX11_count_110 : aI3 cX11_count 110 (.getfield 100) 113 := ⟨by decide +kernel, rfl⟩
theorem eX11_count_113 : ∀ x : Int32, aRet cX11_count (some .int) 113 (some (.int x)) := fun x => Or.inr (Or.inl ⟨x, _, rfl, rfl, rfl, by decide +kernel⟩)
theorem eX11_count_114 : aAL cX11_count 114 0 115 := Or.inl ⟨0, by decide +kernel, rfl, rfl⟩
theorem eX11_count_115 : aI3 cX11_count 115 (.getfield 29) 118 := ⟨by decide +kernel, rfl⟩
theorem eX11_count_118 : aI3 cX11_count 118 (.getfield 140) 121 := ⟨by decide +kernel, rfl⟩
theorem eX11_count_121 : aI3 cX11_count 121 (.invokevirtual 188) 124 := ⟨by decide +kernel, rfl⟩
theorem eX11_count_124 : ∀ x : Int32, aRet cX11_count (some .int) 124 (some (.int x)) := fun x => Or.inr (Or.inl ⟨x, _, rfl, rfl, rfl, by decide +kernel⟩)
theorem eX11_count_125 : aAL cX11_count 125 0 126 := Or.inl ⟨0, by decide +kernel, rfl, rfl⟩
theorem eX11_count_126 : aI3 cX11_count 126 (.getfield 10) 129 := ⟨by decide +kernel, rfl⟩
theorem eX11_count_129 : aI3 cX11_count 129 (.invokevirtual 54) 132 := ⟨by decide +kernel, rfl⟩
theorem eX11_count_132 : ∀ x : Int32, aRet cX11_count (some .int) 132 (some (.int x)) := fun x => Or.inr (Or.inl ⟨x, _, rfl, rfl, rfl, by decide +kernel⟩)
theorem eX11_count_133 : aAL cX11_count 133 0 134 := Or.inl ⟨0, by decide +kernel, rfl, rfl⟩
theorem eX11_count_134 : aI3 cX11_count 134 (.getfield 75) 137 := ⟨by decide +kernel, rfl⟩
theorem eX11_count_137 : ∀ x : Int32, aRet cX11_count (some .int) 137 (some (.int x)) := fun x => Or.inr (Or.inl ⟨x, _, rfl, rfl, rfl, by decide +kernel⟩)
theorem eX11_count_138 : aAL cX11_count 138 0 139 := Or.inl ⟨0, by decide +kernel, rfl, rfl⟩
theorem eX11_count_139 : aI3 cX11_count 139 (.getfield 159) 142 := ⟨by decide +kernel, rfl⟩
theorem eX11_count_142 : ∀ x : Int32, aRet cX11_count (some .int) 142 (some (.int x)) := fun x => Or.inr (Or.inl ⟨x, _, rfl, rfl, rfl, by decide +kernel⟩)
theorem eX11_count_143 : aPI cX11_count 143 (-102) 145 := Or.inr (Or.inl ⟨(-102), by decide +kernel, by decide +kernel, rfl⟩)
theorem eX11_count_145 : ∀ x : Int32, aRet cX11_count (some .int) 145 (some (.int x)) := fun x => Or.inr (Or.inl ⟨x, _, rfl, rfl, rfl, by decide +kernel⟩)
theorem eX11_hasCourt_0 : aAL cX11_hasCourt 0 0 1 := Or.inl ⟨0, by decide +kernel, rfl, rfl⟩
theorem eX11_hasCourt_1 : aI3 cX11_hasCourt 1 (.getfield 75) 4 := ⟨by decide +kernel, rfl⟩
theorem eX11_hasCourt_4 : aIf_le cX11_hasCourt 4 7 11 := ⟨7, by decide +kernel, rfl, by decide⟩
theorem eX11_hasCourt_7 : aPI cX11_hasCourt 7 (nI 1) 8 := Or.inl ⟨1, by decide +kernel, by decide +kernel, rfl⟩
theorem eX11_hasCourt_8 : aGo cX11_hasCourt 8 12 := ⟨4, by decide +kernel, by decide⟩
theorem eX11_hasCourt_11 : aPI cX11_hasCourt 11 (nI 0) 12 := Or.inl ⟨0, by decide +kernel, by decide +kernel, rfl⟩
theorem eX11_hasCourt_12 : ∀ x : Int32, (x = 0 ∨ x = 1) → aRet cX11_hasCourt (some .boolean) 12 (some (.int x)) := fun x h => Or.inr (Or.inl ⟨x, _, rfl, rfl, by rcases h with rfl | rfl <;> decide +kernel, by decide +kernel⟩)
theorem eX11_isAccused_0 : aIL cX11_isAccused 0 1 1 := Or.inl ⟨1, by decide +kernel, rfl, rfl⟩
theorem eX11_isAccused_1 : aIf_lt cX11_isAccused 1 4 24 := ⟨23, by decide +kernel, rfl, by decide⟩
theorem eX11_isAccused_4 : aIL cX11_isAccused 4 1 5 := Or.inl ⟨1, by decide +kernel, rfl, rfl⟩
theorem eX11_isAccused_5 : aAL cX11_isAccused 5 0 6 := Or.inl ⟨0, by decide +kernel, rfl, rfl⟩
theorem eX11_isAccused_6 : aI3 cX11_isAccused 6 (.getfield 29) 9 := ⟨by decide +kernel, rfl⟩
theorem eX11_isAccused_9 : aI3 cX11_isAccused 9 (.getfield 109) 12 := ⟨by decide +kernel, rfl⟩
theorem eX11_isAccused_12 : aIc_ge cX11_isAccused 12 15 24 := ⟨12, by decide +kernel, rfl, by decide⟩
theorem eX11_isAccused_15 : aIL cX11_isAccused 15 1 16 := Or.inl ⟨1, by decide +kernel, rfl, rfl⟩
theorem eX11_isAccused_16 : aPI cX11_isAccused 16 (nI 4) 17 := Or.inl ⟨4, by decide +kernel, by decide +kernel, rfl⟩
theorem eX11_isAccused_17 : aIc_ge cX11_isAccused 17 20 24 := ⟨7, by decide +kernel, rfl, by decide⟩
theorem eX11_isAccused_20 : aPI cX11_isAccused 20 (nI 1) 21 := Or.inl ⟨1, by decide +kernel, by decide +kernel, rfl⟩
theorem eX11_isAccused_21 : aGo cX11_isAccused 21 25 := ⟨4, by decide +kernel, by decide⟩
theorem eX11_isAccused_24 : aPI cX11_isAccused 24 (nI 0) 25 := Or.inl ⟨0, by decide +kernel, by decide +kernel, rfl⟩
theorem eX11_isAccused_25 : ∀ x : Int32, (x = 0 ∨ x = 1) → aRet cX11_isAccused (some .boolean) 25 (some (.int x)) := fun x h => Or.inr (Or.inl ⟨x, _, rfl, rfl, by rcases h with rfl | rfl <;> decide +kernel, by decide +kernel⟩)
theorem eX11_isWord_0 : aIL cX11_isWord 0 0 1 := Or.inl ⟨0, by decide +kernel, rfl, rfl⟩
theorem eX11_isWord_1 : aIf_lt cX11_isWord 1 4 14 := ⟨13, by decide +kernel, rfl, by decide⟩
theorem eX11_isWord_4 : aIL cX11_isWord 4 0 5 := Or.inl ⟨0, by decide +kernel, rfl, rfl⟩
theorem eX11_isWord_5 : aPI cX11_isWord 5 (nI 8) 7 := Or.inr (Or.inl ⟨8, by decide +kernel, by decide +kernel, rfl⟩)
theorem eX11_isWord_7 : aIc_ge cX11_isWord 7 10 14 := ⟨7, by decide +kernel, rfl, by decide⟩
theorem eX11_isWord_10 : aPI cX11_isWord 10 (nI 1) 11 := Or.inl ⟨1, by decide +kernel, by decide +kernel, rfl⟩
theorem eX11_isWord_11 : aGo cX11_isWord 11 15 := ⟨4, by decide +kernel, by decide⟩
theorem eX11_isWord_14 : aPI cX11_isWord 14 (nI 0) 15 := Or.inl ⟨0, by decide +kernel, by decide +kernel, rfl⟩
theorem eX11_isWord_15 : ∀ x : Int32, (x = 0 ∨ x = 1) → aRet cX11_isWord (some .boolean) 15 (some (.int x)) := fun x h => Or.inr (Or.inl ⟨x, _, rfl, rfl, by rcases h with rfl | rfl <;> decide +kernel, by decide +kernel⟩)
theorem eX11_isKind_0 : aIL cX11_isKind 0 0 1 := Or.inl ⟨0, by decide +kernel, rfl, rfl⟩
theorem eX11_isKind_1 : aIf_lt cX11_isKind 1 4 13 := ⟨12, by decide +kernel, rfl, by decide⟩
theorem eX11_isKind_4 : aIL cX11_isKind 4 0 5 := Or.inl ⟨0, by decide +kernel, rfl, rfl⟩
theorem eX11_isKind_5 : aPI cX11_isKind 5 (nI 5) 6 := Or.inl ⟨5, by decide +kernel, by decide +kernel, rfl⟩
theorem eX11_isKind_6 : aIc_ge cX11_isKind 6 9 13 := ⟨7, by decide +kernel, rfl, by decide⟩
theorem eX11_isKind_9 : aPI cX11_isKind 9 (nI 1) 10 := Or.inl ⟨1, by decide +kernel, by decide +kernel, rfl⟩
theorem eX11_isKind_10 : aGo cX11_isKind 10 14 := ⟨4, by decide +kernel, by decide⟩
theorem eX11_isKind_13 : aPI cX11_isKind 13 (nI 0) 14 := Or.inl ⟨0, by decide +kernel, by decide +kernel, rfl⟩
theorem eX11_isKind_14 : ∀ x : Int32, (x = 0 ∨ x = 1) → aRet cX11_isKind (some .boolean) 14 (some (.int x)) := fun x h => Or.inr (Or.inl ⟨x, _, rfl, rfl, by rcases h with rfl | rfl <;> decide +kernel, by decide +kernel⟩)
theorem eX11_manOf_0 : aAL cX11_manOf 0 0 1 := Or.inl ⟨0, by decide +kernel, rfl, rfl⟩
theorem eX11_manOf_1 : aIL cX11_manOf 1 1 2 := Or.inl ⟨1, by decide +kernel, rfl, rfl⟩
theorem eX11_manOf_2 : aI3 cX11_manOf 2 (.invokevirtual 156) 5 := ⟨by decide +kernel, rfl⟩
theorem eX11_manOf_5 : aIf_eq cX11_manOf 5 8 17 := ⟨12, by decide +kernel, rfl, by decide⟩
theorem eX11_manOf_8 : aAL cX11_manOf 8 0 9 := Or.inl ⟨0, by decide +kernel, rfl, rfl⟩
theorem eX11_manOf_9 : aI3 cX11_manOf 9 (.getfield 22) 12 := ⟨by decide +kernel, rfl⟩
theorem eX11_manOf_12 : aIL cX11_manOf 12 1 13 := Or.inl ⟨1, by decide +kernel, rfl, rfl⟩
theorem eX11_manOf_13 : aI1 cX11_manOf 13 (.aaload) 14 := ⟨by decide +kernel, rfl⟩
theorem eX11_manOf_14 : aGo cX11_manOf 14 18 := ⟨4, by decide +kernel, by decide⟩
theorem eX11_manOf_17 : aI1 cX11_manOf 17 (.aconst_null) 18 := ⟨by decide +kernel, rfl⟩
theorem eX11_manOf_18 : ∀ i : Nat, aRet cX11_manOf (some (.object "ReadAloud$Man")) 18 (some (.ref i)) := fun i => Or.inr (Or.inr (Or.inr ⟨Or.inr ⟨i, rfl⟩, ⟨_, rfl⟩, by decide +kernel⟩))
theorem eX11_manOf_18N : aRet cX11_manOf (some (.object "ReadAloud$Man")) 18 (some .null) := Or.inr (Or.inr (Or.inr ⟨Or.inl rfl, ⟨_, rfl⟩, by decide +kernel⟩))
theorem eX11_deedOf_0 : aAL cX11_deedOf 0 0 1 := Or.inl ⟨0, by decide +kernel, rfl, rfl⟩
theorem eX11_deedOf_1 : aIL cX11_deedOf 1 1 2 := Or.inl ⟨1, by decide +kernel, rfl, rfl⟩
theorem eX11_deedOf_2 : aI3 cX11_deedOf 2 (.invokevirtual 118) 5 := ⟨by decide +kernel, rfl⟩
theorem eX11_deedOf_5 : aAS cX11_deedOf 5 2 6 := Or.inl ⟨2, by decide +kernel, rfl, rfl⟩
theorem eX11_deedOf_6 : aAL cX11_deedOf 6 2 7 := Or.inl ⟨2, by decide +kernel, rfl, rfl⟩
theorem eX11_deedOf_7 : aNn cX11_deedOf 7 10 14 := ⟨7, by decide +kernel, rfl, by decide⟩
theorem eX11_deedOf_10 : aPI cX11_deedOf 10 (nI 4) 11 := Or.inl ⟨4, by decide +kernel, by decide +kernel, rfl⟩
theorem eX11_deedOf_11 : aGo cX11_deedOf 11 18 := ⟨7, by decide +kernel, by decide⟩
theorem eX11_deedOf_14 : aAL cX11_deedOf 14 2 15 := Or.inl ⟨2, by decide +kernel, rfl, rfl⟩
theorem eX11_deedOf_15 : aI3 cX11_deedOf 15 (.invokevirtual 125) 18 := ⟨by decide +kernel, rfl⟩
theorem eX11_deedOf_18 : ∀ x : Int32, aRet cX11_deedOf (some .int) 18 (some (.int x)) := fun x => Or.inr (Or.inl ⟨x, _, rfl, rfl, rfl, by decide +kernel⟩)
theorem eX11_hiddenBy_0 : aAL cX11_hiddenBy 0 0 1 := Or.inl ⟨0, by decide +kernel, rfl, rfl⟩
theorem eX11_hiddenBy_1 : aIL cX11_hiddenBy 1 1 2 := Or.inl ⟨1, by decide +kernel, rfl, rfl⟩
theorem eX11_hiddenBy_2 : aI3 cX11_hiddenBy 2 (.invokevirtual 156) 5 := ⟨by decide +kernel, rfl⟩
theorem eX11_hiddenBy_5 : aIf_eq cX11_hiddenBy 5 8 20 := ⟨15, by decide +kernel, rfl, by decide⟩
theorem eX11_hiddenBy_8 : aAL cX11_hiddenBy 8 0 9 := Or.inl ⟨0, by decide +kernel, rfl, rfl⟩
theorem eX11_hiddenBy_9 : aI3 cX11_hiddenBy 9 (.getfield 29) 12 := ⟨by decide +kernel, rfl⟩
theorem eX11_hiddenBy_12 : aI3 cX11_hiddenBy 12 (.getfield 115) 15 := ⟨by decide +kernel, rfl⟩
theorem eX11_hiddenBy_15 : aIL cX11_hiddenBy 15 1 16 := Or.inl ⟨1, by decide +kernel, rfl, rfl⟩
theorem eX11_hiddenBy_16 : aI1 cX11_hiddenBy 16 (.iaload) 17 := ⟨by decide +kernel, rfl⟩
theorem eX11_hiddenBy_17 : aGo cX11_hiddenBy 17 21 := ⟨4, by decide +kernel, by decide⟩
theorem eX11_hiddenBy_20 : aPI cX11_hiddenBy 20 (nI 0) 21 := Or.inl ⟨0, by decide +kernel, by decide +kernel, rfl⟩
theorem eX11_hiddenBy_21 : ∀ x : Int32, aRet cX11_hiddenBy (some .int) 21 (some (.int x)) := fun x => Or.inr (Or.inl ⟨x, _, rfl, rfl, rfl, by decide +kernel⟩)
theorem eX11_manOfKind_0 : aIL cX11_manOfKind 0 0 1 := Or.inl ⟨0, by decide +kernel, rfl, rfl⟩
theorem eX11_manOfKind_1 : decode cX11_manOfKind 1 = .ok (.tableswitch 67 1 4 #[31, 40, 49, 58], 31) := by decide +kernel
theorem eX11_manOfKind_32 : aI3 cX11_manOfKind 32 (.new 226) 35 := ⟨by decide +kernel, rfl⟩
theorem eX11_manOfKind_35 : aI1 cX11_manOfKind 35 (.dup) 36 := ⟨by decide +kernel, rfl⟩
theorem eX11_manOfKind_36 : aIL cX11_manOfKind 36 1 37 := Or.inl ⟨1, by decide +kernel, rfl, rfl⟩
theorem eX11_manOfKind_37 : aI3 cX11_manOfKind 37 (.invokespecial 228) 40 := ⟨by decide +kernel, rfl⟩
theorem eX11_manOfKind_40 : ∀ i : Nat, aRet cX11_manOfKind (some (.object "ReadAloud$Man")) 40 (some (.ref i)) := fun i => Or.inr (Or.inr (Or.inr ⟨Or.inr ⟨i, rfl⟩, ⟨_, rfl⟩, by decide +kernel⟩))
theorem eX11_manOfKind_40N : aRet cX11_manOfKind (some (.object "ReadAloud$Man")) 40 (some .null) := Or.inr (Or.inr (Or.inr ⟨Or.inl rfl, ⟨_, rfl⟩, by decide +kernel⟩))
theorem eX11_manOfKind_41 : aI3 cX11_manOfKind 41 (.new 231) 44 := ⟨by decide +kernel, rfl⟩
theorem eX11_manOfKind_44 : aI1 cX11_manOfKind 44 (.dup) 45 := ⟨by decide +kernel, rfl⟩
theorem eX11_manOfKind_45 : aIL cX11_manOfKind 45 1 46 := Or.inl ⟨1, by decide +kernel, rfl, rfl⟩
theorem eX11_manOfKind_46 : aI3 cX11_manOfKind 46 (.invokespecial 233) 49 := ⟨by decide +kernel, rfl⟩
theorem eX11_manOfKind_49 : ∀ i : Nat, aRet cX11_manOfKind (some (.object "ReadAloud$Man")) 49 (some (.ref i)) := fun i => Or.inr (Or.inr (Or.inr ⟨Or.inr ⟨i, rfl⟩, ⟨_, rfl⟩, by decide +kernel⟩))
theorem eX11_manOfKind_49N : aRet cX11_manOfKind (some (.object "ReadAloud$Man")) 49 (some .null) := Or.inr (Or.inr (Or.inr ⟨Or.inl rfl, ⟨_, rfl⟩, by decide +kernel⟩))
theorem eX11_manOfKind_50 : aI3 cX11_manOfKind 50 (.new 234) 53 := ⟨by decide +kernel, rfl⟩
theorem eX11_manOfKind_53 : aI1 cX11_manOfKind 53 (.dup) 54 := ⟨by decide +kernel, rfl⟩
theorem eX11_manOfKind_54 : aIL cX11_manOfKind 54 1 55 := Or.inl ⟨1, by decide +kernel, rfl, rfl⟩
theorem eX11_manOfKind_55 : aI3 cX11_manOfKind 55 (.invokespecial 236) 58 := ⟨by decide +kernel, rfl⟩
theorem eX11_manOfKind_58 : ∀ i : Nat, aRet cX11_manOfKind (some (.object "ReadAloud$Man")) 58 (some (.ref i)) := fun i => Or.inr (Or.inr (Or.inr ⟨Or.inr ⟨i, rfl⟩, ⟨_, rfl⟩, by decide +kernel⟩))
theorem eX11_manOfKind_58N : aRet cX11_manOfKind (some (.object "ReadAloud$Man")) 58 (some .null) := Or.inr (Or.inr (Or.inr ⟨Or.inl rfl, ⟨_, rfl⟩, by decide +kernel⟩))
theorem eX11_manOfKind_59 : aI3 cX11_manOfKind 59 (.new 237) 62 := ⟨by decide +kernel, rfl⟩
theorem eX11_manOfKind_62 : aI1 cX11_manOfKind 62 (.dup) 63 := ⟨by decide +kernel, rfl⟩
theorem eX11_manOfKind_63 : aIL cX11_manOfKind 63 1 64 := Or.inl ⟨1, by decide +kernel, rfl, rfl⟩
theorem eX11_manOfKind_64 : aI3 cX11_manOfKind 64 (.invokespecial 239) 67 := ⟨by decide +kernel, rfl⟩
theorem eX11_manOfKind_67 : ∀ i : Nat, aRet cX11_manOfKind (some (.object "ReadAloud$Man")) 67 (some (.ref i)) := fun i => Or.inr (Or.inr (Or.inr ⟨Or.inr ⟨i, rfl⟩, ⟨_, rfl⟩, by decide +kernel⟩))
theorem eX11_manOfKind_67N : aRet cX11_manOfKind (some (.object "ReadAloud$Man")) 67 (some .null) := Or.inr (Or.inr (Or.inr ⟨Or.inl rfl, ⟨_, rfl⟩, by decide +kernel⟩))
theorem eX11_manOfKind_68 : aI3 cX11_manOfKind 68 (.new 20) 71 := ⟨by decide +kernel, rfl⟩
theorem eX11_manOfKind_71 : aI1 cX11_manOfKind 71 (.dup) 72 := ⟨by decide +kernel, rfl⟩
theorem eX11_manOfKind_72 : aIL cX11_manOfKind 72 1 73 := Or.inl ⟨1, by decide +kernel, rfl, rfl⟩
theorem eX11_manOfKind_73 : aI3 cX11_manOfKind 73 (.invokespecial 240) 76 := ⟨by decide +kernel, rfl⟩
theorem eX11_manOfKind_76 : ∀ i : Nat, aRet cX11_manOfKind (some (.object "ReadAloud$Man")) 76 (some (.ref i)) := fun i => Or.inr (Or.inr (Or.inr ⟨Or.inr ⟨i, rfl⟩, ⟨_, rfl⟩, by decide +kernel⟩))
theorem eX11_manOfKind_76N : aRet cX11_manOfKind (some (.object "ReadAloud$Man")) 76 (some .null) := Or.inr (Or.inr (Or.inr ⟨Or.inl rfl, ⟨_, rfl⟩, by decide +kernel⟩))
theorem eX11_isOfKind_0 : aIL cX11_isOfKind 0 1 1 := Or.inl ⟨1, by decide +kernel, rfl, rfl⟩
theorem eX11_isOfKind_1 : decode cX11_isOfKind 1 = .ok (.tableswitch 51 1 4 #[31, 36, 41, 46], 31) := by decide +kernel
theorem eX11_isOfKind_32 : aAL cX11_isOfKind 32 0 33 := Or.inl ⟨0, by decide +kernel, rfl, rfl⟩
theorem eX11_isOfKind_33 : aI3 cX11_isOfKind 33 (.instanceof 226) 36 := ⟨by decide +kernel, rfl⟩
theorem eX11_isOfKind_36 : ∀ x : Int32, (x = 0 ∨ x = 1) → aRet cX11_isOfKind (some .boolean) 36 (some (.int x)) := fun x h => Or.inr (Or.inl ⟨x, _, rfl, rfl, by rcases h with rfl | rfl <;> decide +kernel, by decide +kernel⟩)
theorem eX11_isOfKind_37 : aAL cX11_isOfKind 37 0 38 := Or.inl ⟨0, by decide +kernel, rfl, rfl⟩
theorem eX11_isOfKind_38 : aI3 cX11_isOfKind 38 (.instanceof 231) 41 := ⟨by decide +kernel, rfl⟩
theorem eX11_isOfKind_41 : ∀ x : Int32, (x = 0 ∨ x = 1) → aRet cX11_isOfKind (some .boolean) 41 (some (.int x)) := fun x h => Or.inr (Or.inl ⟨x, _, rfl, rfl, by rcases h with rfl | rfl <;> decide +kernel, by decide +kernel⟩)
theorem eX11_isOfKind_42 : aAL cX11_isOfKind 42 0 43 := Or.inl ⟨0, by decide +kernel, rfl, rfl⟩
theorem eX11_isOfKind_43 : aI3 cX11_isOfKind 43 (.instanceof 234) 46 := ⟨by decide +kernel, rfl⟩
theorem eX11_isOfKind_46 : ∀ x : Int32, (x = 0 ∨ x = 1) → aRet cX11_isOfKind (some .boolean) 46 (some (.int x)) := fun x h => Or.inr (Or.inl ⟨x, _, rfl, rfl, by rcases h with rfl | rfl <;> decide +kernel, by decide +kernel⟩)
theorem eX11_isOfKind_47 : aAL cX11_isOfKind 47 0 48 := Or.inl ⟨0, by decide +kernel, rfl, rfl⟩
theorem eX11_isOfKind_48 : aI3 cX11_isOfKind 48 (.instanceof 237) 51 := ⟨by decide +kernel, rfl⟩
theorem eX11_isOfKind_51 : ∀ x : Int32, (x = 0 ∨ x = 1) → aRet cX11_isOfKind (some .boolean) 51 (some (.int x)) := fun x h => Or.inr (Or.inl ⟨x, _, rfl, rfl, by rcases h with rfl | rfl <;> decide +kernel, by decide +kernel⟩)
theorem eX11_isOfKind_52 : aAL cX11_isOfKind 52 0 53 := Or.inl ⟨0, by decide +kernel, rfl, rfl⟩
theorem eX11_isOfKind_53 : aNu cX11_isOfKind 53 56 60 := ⟨7, by decide +kernel, rfl, by decide⟩
theorem eX11_isOfKind_56 : aPI cX11_isOfKind 56 (nI 1) 57 := Or.inl ⟨1, by decide +kernel, by decide +kernel, rfl⟩
theorem eX11_isOfKind_57 : aGo cX11_isOfKind 57 61 := ⟨4, by decide +kernel, by decide⟩
theorem eX11_isOfKind_60 : aPI cX11_isOfKind 60 (nI 0) 61 := Or.inl ⟨0, by decide +kernel, by decide +kernel, rfl⟩
theorem eX11_isOfKind_61 : ∀ x : Int32, (x = 0 ∨ x = 1) → aRet cX11_isOfKind (some .boolean) 61 (some (.int x)) := fun x h => Or.inr (Or.inl ⟨x, _, rfl, rfl, by rcases h with rfl | rfl <;> decide +kernel, by decide +kernel⟩)
theorem eX11_readCourt_0 : aAL cX11_readCourt 0 0 1 := Or.inl ⟨0, by decide +kernel, rfl, rfl⟩
theorem eX11_readCourt_1 : aI3 cX11_readCourt 1 (.getfield 29) 4 := ⟨by decide +kernel, rfl⟩
theorem eX11_readCourt_4 : aI3 cX11_readCourt 4 (.invokevirtual 241) 7 := ⟨by decide +kernel, rfl⟩
theorem eX11_readCourt_7 : aPI cX11_readCourt 7 (nI 0) 8 := Or.inl ⟨0, by decide +kernel, by decide +kernel, rfl⟩
theorem eX11_readCourt_8 : aIS cX11_readCourt 8 1 9 := Or.inl ⟨1, by decide +kernel, rfl, rfl⟩
theorem eX11_readCourt_9 : aIL cX11_readCourt 9 1 10 := Or.inl ⟨1, by decide +kernel, rfl, rfl⟩
theorem eX11_readCourt_10 : aPI cX11_readCourt 10 (nI 5) 11 := Or.inl ⟨5, by decide +kernel, by decide +kernel, rfl⟩
theorem eX11_readCourt_11 : aIc_ge cX11_readCourt 11 14 27 := ⟨16, by decide +kernel, rfl, by decide⟩
theorem eX11_readCourt_14 : aAL cX11_readCourt 14 0 15 := Or.inl ⟨0, by decide +kernel, rfl, rfl⟩
theorem eX11_readCourt_15 : aI3 cX11_readCourt 15 (.getfield 16) 18 := ⟨by decide +kernel, rfl⟩
theorem eX11_readCourt_18 : aIL cX11_readCourt 18 1 19 := Or.inl ⟨1, by decide +kernel, rfl, rfl⟩
theorem eX11_readCourt_19 : aPI cX11_readCourt 19 (nI 0) 20 := Or.inl ⟨0, by decide +kernel, by decide +kernel, rfl⟩
theorem eX11_readCourt_20 : aI1 cX11_readCourt 20 (.iastore) 21 := ⟨by decide +kernel, rfl⟩
theorem eX11_readCourt_21 : aII cX11_readCourt 21 1 (nI 1) 24 := ⟨1, by decide +kernel, by decide +kernel, rfl⟩
theorem eX11_readCourt_24 : aGo cX11_readCourt 24 9 := ⟨(-15), by decide +kernel, by decide⟩
theorem eX11_readCourt_27 : aPI cX11_readCourt 27 (nI 0) 28 := Or.inl ⟨0, by decide +kernel, by decide +kernel, rfl⟩
theorem eX11_readCourt_28 : aIS cX11_readCourt 28 1 29 := Or.inl ⟨1, by decide +kernel, rfl, rfl⟩
theorem eX11_readCourt_29 : aPI cX11_readCourt 29 (nI 0) 30 := Or.inl ⟨0, by decide +kernel, by decide +kernel, rfl⟩
theorem eX11_readCourt_30 : aIS cX11_readCourt 30 2 31 := Or.inl ⟨2, by decide +kernel, rfl, rfl⟩
theorem eX11_readCourt_31 : aIL cX11_readCourt 31 2 32 := Or.inl ⟨2, by decide +kernel, rfl, rfl⟩
theorem eX11_readCourt_32 : aAL cX11_readCourt 32 0 33 := Or.inl ⟨0, by decide +kernel, rfl, rfl⟩
theorem eX11_readCourt_33 : aI3 cX11_readCourt 33 (.getfield 10) 36 := ⟨by decide +kernel, rfl⟩
theorem eX11_readCourt_36 : aI3 cX11_readCourt 36 (.invokevirtual 54) 39 := ⟨by decide +kernel, rfl⟩
theorem eX11_readCourt_39 : aIc_ge cX11_readCourt 39 42 104 := ⟨65, by decide +kernel, rfl, by decide⟩
theorem eX11_readCourt_42 : aAL cX11_readCourt 42 0 43 := Or.inl ⟨0, by decide +kernel, rfl, rfl⟩
theorem eX11_readCourt_43 : aI3 cX11_readCourt 43 (.getfield 10) 46 := ⟨by decide +kernel, rfl⟩
theorem eX11_readCourt_46 : aIL cX11_readCourt 46 2 47 := Or.inl ⟨2, by decide +kernel, rfl, rfl⟩
theorem eX11_readCourt_47 : aI3 cX11_readCourt 47 (.invokevirtual 220) 50 := ⟨by decide +kernel, rfl⟩
theorem eX11_readCourt_50 : aPI cX11_readCourt 50 (nI 97) 52 := Or.inr (Or.inl ⟨97, by decide +kernel, by decide +kernel, rfl⟩)
theorem eX11_readCourt_52 : aI1 cX11_readCourt 52 (.isub) 53 := ⟨by decide +kernel, rfl⟩
theorem eX11_readCourt_53 : aIS cX11_readCourt 53 3 54 := Or.inl ⟨3, by decide +kernel, rfl, rfl⟩
theorem eX11_readCourt_54 : aIL cX11_readCourt 54 3 55 := Or.inl ⟨3, by decide +kernel, rfl, rfl⟩
theorem eX11_readCourt_55 : aI3 cX11_readCourt 55 (.invokestatic 93) 58 := ⟨by decide +kernel, rfl⟩
theorem eX11_readCourt_58 : aIf_ne cX11_readCourt 58 61 67 := ⟨9, by decide +kernel, rfl, by decide⟩
theorem eX11_readCourt_61 : aII cX11_readCourt 61 1 (nI 1) 64 := ⟨1, by decide +kernel, by decide +kernel, rfl⟩
theorem eX11_readCourt_64 : aGo cX11_readCourt 64 98 := ⟨34, by decide +kernel, by decide⟩
theorem eX11_readCourt_67 : aIL cX11_readCourt 67 1 68 := Or.inl ⟨1, by decide +kernel, rfl, rfl⟩
theorem eX11_readCourt_68 : aPI cX11_readCourt 68 (nI 4) 69 := Or.inl ⟨4, by decide +kernel, by decide +kernel, rfl⟩
theorem eX11_readCourt_69 : aIc_ge cX11_readCourt 69 72 87 := ⟨18, by decide +kernel, rfl, by decide⟩
theorem eX11_readCourt_72 : aAL cX11_readCourt 72 0 73 := Or.inl ⟨0, by decide +kernel, rfl, rfl⟩
theorem eX11_readCourt_73 : aI3 cX11_readCourt 73 (.getfield 16) 76 := ⟨by decide +kernel, rfl⟩
theorem eX11_readCourt_76 : aIL cX11_readCourt 76 1 77 := Or.inl ⟨1, by decide +kernel, rfl, rfl⟩
theorem eX11_readCourt_77 : aI1 cX11_readCourt 77 (.dup2) 78 := ⟨by decide +kernel, rfl⟩
theorem eX11_readCourt_78 : aI1 cX11_readCourt 78 (.iaload) 79 := ⟨by decide +kernel, rfl⟩
theorem eX11_readCourt_79 : aPI cX11_readCourt 79 (nI 1) 80 := Or.inl ⟨1, by decide +kernel, by decide +kernel, rfl⟩
theorem eX11_readCourt_80 : aIL cX11_readCourt 80 3 81 := Or.inl ⟨3, by decide +kernel, rfl, rfl⟩
theorem eX11_readCourt_81 : aI1 cX11_readCourt 81 (.ishl) 82 := ⟨by decide +kernel, rfl⟩
theorem eX11_readCourt_82 : aI1 cX11_readCourt 82 (.ior) 83 := ⟨by decide +kernel, rfl⟩
theorem eX11_readCourt_83 : aI1 cX11_readCourt 83 (.iastore) 84 := ⟨by decide +kernel, rfl⟩
theorem eX11_readCourt_84 : aGo cX11_readCourt 84 98 := ⟨14, by decide +kernel, by decide⟩
theorem eX11_readCourt_87 : aAL cX11_readCourt 87 0 88 := Or.inl ⟨0, by decide +kernel, rfl, rfl⟩
theorem eX11_readCourt_88 : aI3 cX11_readCourt 88 (.getfield 29) 91 := ⟨by decide +kernel, rfl⟩
theorem eX11_readCourt_91 : aI3 cX11_readCourt 91 (.getfield 79) 94 := ⟨by decide +kernel, rfl⟩
theorem eX11_readCourt_94 : aIL cX11_readCourt 94 3 95 := Or.inl ⟨3, by decide +kernel, rfl, rfl⟩
theorem eX11_readCourt_95 : aI3 cX11_readCourt 95 (.invokevirtual 244) 98 := ⟨by decide +kernel, rfl⟩
theorem eX11_readCourt_98 : aII cX11_readCourt 98 2 (nI 1) 101 := ⟨1, by decide +kernel, by decide +kernel, rfl⟩
theorem eX11_readCourt_101 : aGo cX11_readCourt 101 31 := ⟨(-70), by decide +kernel, by decide⟩
theorem eX11_readCourt_104 : aRet cX11_readCourt none 104 none := Or.inl ⟨rfl, rfl, by decide +kernel⟩
theorem eX11_wouldAlter_0 : aAL cX11_wouldAlter 0 0 1 := Or.inl ⟨0, by decide +kernel, rfl, rfl⟩
theorem eX11_wouldAlter_1 : aIL cX11_wouldAlter 1 1 2 := Or.inl ⟨1, by decide +kernel, rfl, rfl⟩
theorem eX11_wouldAlter_2 : aI3 cX11_wouldAlter 2 (.invokevirtual 118) 5 := ⟨by decide +kernel, rfl⟩
theorem eX11_wouldAlter_5 : aAS cX11_wouldAlter 5 5 7 := Or.inr ⟨by decide +kernel, rfl⟩
theorem eX11_wouldAlter_7 : aAL cX11_wouldAlter 7 5 9 := Or.inr ⟨by decide +kernel, rfl⟩
theorem eX11_wouldAlter_9 : aNu cX11_wouldAlter 9 12 25 := ⟨16, by decide +kernel, rfl, by decide⟩
theorem eX11_wouldAlter_12 : aAL cX11_wouldAlter 12 2 13 := Or.inl ⟨2, by decide +kernel, rfl, rfl⟩
theorem eX11_wouldAlter_13 : aNu cX11_wouldAlter 13 16 25 := ⟨12, by decide +kernel, rfl, by decide⟩
theorem eX11_wouldAlter_16 : aIL cX11_wouldAlter 16 3 17 := Or.inl ⟨3, by decide +kernel, rfl, rfl⟩
theorem eX11_wouldAlter_17 : aIf_lt cX11_wouldAlter 17 20 25 := ⟨8, by decide +kernel, rfl, by decide⟩
theorem eX11_wouldAlter_20 : aIL cX11_wouldAlter 20 3 21 := Or.inl ⟨3, by decide +kernel, rfl, rfl⟩
theorem eX11_wouldAlter_21 : aPI cX11_wouldAlter 21 (nI 5) 22 := Or.inl ⟨5, by decide +kernel, by decide +kernel, rfl⟩
theorem eX11_wouldAlter_22 : aIc_lt cX11_wouldAlter 22 25 27 := ⟨5, by decide +kernel, rfl, by decide⟩
theorem eX11_wouldAlter_25 : aPI cX11_wouldAlter 25 (nI 0) 26 := Or.inl ⟨0, by decide +kernel, by decide +kernel, rfl⟩
theorem eX11_wouldAlter_26 : ∀ x : Int32, aRet cX11_wouldAlter (some .int) 26 (some (.int x)) := fun x => Or.inr (Or.inl ⟨x, _, rfl, rfl, rfl, by decide +kernel⟩)
theorem eX11_wouldAlter_27 : aAL cX11_wouldAlter 27 5 29 := Or.inr ⟨by decide +kernel, rfl⟩
theorem eX11_wouldAlter_29 : aAL cX11_wouldAlter 29 2 30 := Or.inl ⟨2, by decide +kernel, rfl, rfl⟩
theorem eX11_wouldAlter_30 : aAL cX11_wouldAlter 30 0 31 := Or.inl ⟨0, by decide +kernel, rfl, rfl⟩
theorem eX11_wouldAlter_31 : aI3 cX11_wouldAlter 31 (.getfield 16) 34 := ⟨by decide +kernel, rfl⟩
theorem eX11_wouldAlter_34 : aIL cX11_wouldAlter 34 3 35 := Or.inl ⟨3, by decide +kernel, rfl, rfl⟩
theorem eX11_wouldAlter_35 : aI1 cX11_wouldAlter 35 (.iaload) 36 := ⟨by decide +kernel, rfl⟩
theorem eX11_wouldAlter_36 : aI3 cX11_wouldAlter 36 (.invokevirtual 246) 39 := ⟨by decide +kernel, rfl⟩
theorem eX11_wouldAlter_39 : aAL cX11_wouldAlter 39 5 41 := Or.inr ⟨by decide +kernel, rfl⟩
theorem eX11_wouldAlter_41 : aAL cX11_wouldAlter 41 2 42 := Or.inl ⟨2, by decide +kernel, rfl, rfl⟩
theorem eX11_wouldAlter_42 : aI3 cX11_wouldAlter 42 (.invokevirtual 250) 45 := ⟨by decide +kernel, rfl⟩
theorem eX11_wouldAlter_45 : aI1 cX11_wouldAlter 45 (.ior) 46 := ⟨by decide +kernel, rfl⟩
theorem eX11_wouldAlter_46 : aIS cX11_wouldAlter 46 6 48 := Or.inr ⟨by decide +kernel, rfl⟩
theorem eX11_wouldAlter_48 : aIL cX11_wouldAlter 48 6 50 := Or.inr ⟨by decide +kernel, rfl⟩
theorem eX11_wouldAlter_50 : aAL cX11_wouldAlter 50 2 51 := Or.inl ⟨2, by decide +kernel, rfl, rfl⟩
theorem eX11_wouldAlter_51 : aIL cX11_wouldAlter 51 4 53 := Or.inr ⟨by decide +kernel, rfl⟩
theorem eX11_wouldAlter_53 : aI3 cX11_wouldAlter 53 (.invokevirtual 179) 56 := ⟨by decide +kernel, rfl⟩
theorem eX11_wouldAlter_56 : aPI cX11_wouldAlter 56 (-1) 57 := Or.inl ⟨(-1), by decide +kernel, by decide +kernel, rfl⟩
theorem eX11_wouldAlter_57 : aI1 cX11_wouldAlter 57 (.ixor) 58 := ⟨by decide +kernel, rfl⟩
theorem eX11_wouldAlter_58 : aI1 cX11_wouldAlter 58 (.iand) 59 := ⟨by decide +kernel, rfl⟩
theorem eX11_wouldAlter_59 : ∀ x : Int32, aRet cX11_wouldAlter (some .int) 59 (some (.int x)) := fun x => Or.inr (Or.inl ⟨x, _, rfl, rfl, rfl, by decide +kernel⟩)
theorem eX11_alteredBy_0 : aAL cX11_alteredBy 0 0 1 := Or.inl ⟨0, by decide +kernel, rfl, rfl⟩
theorem eX11_alteredBy_1 : aIL cX11_alteredBy 1 1 2 := Or.inl ⟨1, by decide +kernel, rfl, rfl⟩
theorem eX11_alteredBy_2 : aAL cX11_alteredBy 2 2 3 := Or.inl ⟨2, by decide +kernel, rfl, rfl⟩
theorem eX11_alteredBy_3 : aAL cX11_alteredBy 3 0 4 := Or.inl ⟨0, by decide +kernel, rfl, rfl⟩
theorem eX11_alteredBy_4 : aIL cX11_alteredBy 4 1 5 := Or.inl ⟨1, by decide +kernel, rfl, rfl⟩
theorem eX11_alteredBy_5 : aI3 cX11_alteredBy 5 (.invokevirtual 168) 8 := ⟨by decide +kernel, rfl⟩
theorem eX11_alteredBy_8 : aAL cX11_alteredBy 8 0 9 := Or.inl ⟨0, by decide +kernel, rfl, rfl⟩
theorem eX11_alteredBy_9 : aIL cX11_alteredBy 9 1 10 := Or.inl ⟨1, by decide +kernel, rfl, rfl⟩
theorem eX11_alteredBy_10 : aI3 cX11_alteredBy 10 (.invokevirtual 137) 13 := ⟨by decide +kernel, rfl⟩
theorem eX11_alteredBy_13 : aI3 cX11_alteredBy 13 (.invokevirtual 171) 16 := ⟨by decide +kernel, rfl⟩
theorem eX11_alteredBy_16 : ∀ x : Int32, aRet cX11_alteredBy (some .int) 16 (some (.int x)) := fun x => Or.inr (Or.inl ⟨x, _, rfl, rfl, rfl, by decide +kernel⟩)
theorem eX11_hangingAt_0 : aPI cX11_hangingAt 0 (nI 0) 1 := Or.inl ⟨0, by decide +kernel, by decide +kernel, rfl⟩
theorem eX11_hangingAt_1 : aIS cX11_hangingAt 1 2 2 := Or.inl ⟨2, by decide +kernel, rfl, rfl⟩
theorem eX11_hangingAt_2 : aPI cX11_hangingAt 2 (nI 0) 3 := Or.inl ⟨0, by decide +kernel, by decide +kernel, rfl⟩
theorem eX11_hangingAt_3 : aIS cX11_hangingAt 3 3 4 := Or.inl ⟨3, by decide +kernel, rfl, rfl⟩
theorem eX11_hangingAt_4 : aIL cX11_hangingAt 4 3 5 := Or.inl ⟨3, by decide +kernel, rfl, rfl⟩
theorem eX11_hangingAt_5 : aAL cX11_hangingAt 5 0 6 := Or.inl ⟨0, by decide +kernel, rfl, rfl⟩
theorem eX11_hangingAt_6 : aI3 cX11_hangingAt 6 (.getfield 29) 9 := ⟨by decide +kernel, rfl⟩
theorem eX11_hangingAt_9 : aI3 cX11_hangingAt 9 (.getfield 109) 12 := ⟨by decide +kernel, rfl⟩
theorem eX11_hangingAt_12 : aIc_ge cX11_hangingAt 12 15 43 := ⟨31, by decide +kernel, rfl, by decide⟩
theorem eX11_hangingAt_15 : aAL cX11_hangingAt 15 0 16 := Or.inl ⟨0, by decide +kernel, rfl, rfl⟩
theorem eX11_hangingAt_16 : aIL cX11_hangingAt 16 3 17 := Or.inl ⟨3, by decide +kernel, rfl, rfl⟩
theorem eX11_hangingAt_17 : aAL cX11_hangingAt 17 1 18 := Or.inl ⟨1, by decide +kernel, rfl, rfl⟩
theorem eX11_hangingAt_18 : aI3 cX11_hangingAt 18 (.invokevirtual 128) 21 := ⟨by decide +kernel, rfl⟩
theorem eX11_hangingAt_21 : aI3 cX11_hangingAt 21 (.invokestatic 132) 24 := ⟨by decide +kernel, rfl⟩
theorem eX11_hangingAt_24 : aAL cX11_hangingAt 24 0 25 := Or.inl ⟨0, by decide +kernel, rfl, rfl⟩
theorem eX11_hangingAt_25 : aI3 cX11_hangingAt 25 (.getfield 29) 28 := ⟨by decide +kernel, rfl⟩
theorem eX11_hangingAt_28 : aI3 cX11_hangingAt 28 (.getfield 103) 31 := ⟨by decide +kernel, rfl⟩
theorem eX11_hangingAt_31 : aIc_lt cX11_hangingAt 31 34 37 := ⟨6, by decide +kernel, rfl, by decide⟩
theorem eX11_hangingAt_34 : aII cX11_hangingAt 34 2 (nI 1) 37 := ⟨1, by decide +kernel, by decide +kernel, rfl⟩
theorem eX11_hangingAt_37 : aII cX11_hangingAt 37 3 (nI 1) 40 := ⟨1, by decide +kernel, by decide +kernel, rfl⟩
theorem eX11_hangingAt_40 : aGo cX11_hangingAt 40 4 := ⟨(-36), by decide +kernel, by decide⟩
theorem eX11_hangingAt_43 : aIL cX11_hangingAt 43 2 44 := Or.inl ⟨2, by decide +kernel, rfl, rfl⟩
theorem eX11_hangingAt_44 : ∀ x : Int32, aRet cX11_hangingAt (some .int) 44 (some (.int x)) := fun x => Or.inr (Or.inl ⟨x, _, rfl, rfl, rfl, by decide +kernel⟩)
theorem eX11_allAltering_0 : aPI cX11_allAltering 0 (nI 0) 1 := Or.inl ⟨0, by decide +kernel, by decide +kernel, rfl⟩
theorem eX11_allAltering_1 : aIS cX11_allAltering 1 2 2 := Or.inl ⟨2, by decide +kernel, rfl, rfl⟩
theorem eX11_allAltering_2 : aPI cX11_allAltering 2 (nI 0) 3 := Or.inl ⟨0, by decide +kernel, by decide +kernel, rfl⟩
theorem eX11_allAltering_3 : aIS cX11_allAltering 3 3 4 := Or.inl ⟨3, by decide +kernel, rfl, rfl⟩
theorem eX11_allAltering_4 : aIL cX11_allAltering 4 3 5 := Or.inl ⟨3, by decide +kernel, rfl, rfl⟩
theorem eX11_allAltering_5 : aAL cX11_allAltering 5 0 6 := Or.inl ⟨0, by decide +kernel, rfl, rfl⟩
theorem eX11_allAltering_6 : aI3 cX11_allAltering 6 (.getfield 29) 9 := ⟨by decide +kernel, rfl⟩
theorem eX11_allAltering_9 : aI3 cX11_allAltering 9 (.getfield 109) 12 := ⟨by decide +kernel, rfl⟩
theorem eX11_allAltering_12 : aIc_ge cX11_allAltering 12 15 33 := ⟨21, by decide +kernel, rfl, by decide⟩
theorem eX11_allAltering_15 : aIL cX11_allAltering 15 2 16 := Or.inl ⟨2, by decide +kernel, rfl, rfl⟩
theorem eX11_allAltering_16 : aAL cX11_allAltering 16 0 17 := Or.inl ⟨0, by decide +kernel, rfl, rfl⟩
theorem eX11_allAltering_17 : aIL cX11_allAltering 17 3 18 := Or.inl ⟨3, by decide +kernel, rfl, rfl⟩
theorem eX11_allAltering_18 : aAL cX11_allAltering 18 1 19 := Or.inl ⟨1, by decide +kernel, rfl, rfl⟩
theorem eX11_allAltering_19 : aI3 cX11_allAltering 19 (.invokevirtual 128) 22 := ⟨by decide +kernel, rfl⟩
theorem eX11_allAltering_22 : aI3 cX11_allAltering 22 (.invokestatic 132) 25 := ⟨by decide +kernel, rfl⟩
theorem eX11_allAltering_25 : aI1 cX11_allAltering 25 (.iadd) 26 := ⟨by decide +kernel, rfl⟩
theorem eX11_allAltering_26 : aIS cX11_allAltering 26 2 27 := Or.inl ⟨2, by decide +kernel, rfl, rfl⟩
theorem eX11_allAltering_27 : aII cX11_allAltering 27 3 (nI 1) 30 := ⟨1, by decide +kernel, by decide +kernel, rfl⟩
theorem eX11_allAltering_30 : aGo cX11_allAltering 30 4 := ⟨(-26), by decide +kernel, by decide⟩
theorem eX11_allAltering_33 : aIL cX11_allAltering 33 2 34 := Or.inl ⟨2, by decide +kernel, rfl, rfl⟩
theorem eX11_allAltering_34 : ∀ x : Int32, aRet cX11_allAltering (some .int) 34 (some (.int x)) := fun x => Or.inr (Or.inl ⟨x, _, rfl, rfl, rfl, by decide +kernel⟩)
theorem eX11_deedsAltering_0 : aPI cX11_deedsAltering 0 (nI 0) 1 := Or.inl ⟨0, by decide +kernel, by decide +kernel, rfl⟩
theorem eX11_deedsAltering_1 : aIS cX11_deedsAltering 1 3 2 := Or.inl ⟨3, by decide +kernel, rfl, rfl⟩
theorem eX11_deedsAltering_2 : aPI cX11_deedsAltering 2 (nI 0) 3 := Or.inl ⟨0, by decide +kernel, by decide +kernel, rfl⟩
theorem eX11_deedsAltering_3 : aIS cX11_deedsAltering 3 4 5 := Or.inr ⟨by decide +kernel, rfl⟩
theorem eX11_deedsAltering_5 : aIL cX11_deedsAltering 5 4 7 := Or.inr ⟨by decide +kernel, rfl⟩
theorem eX11_deedsAltering_7 : aPI cX11_deedsAltering 7 (nI 5) 8 := Or.inl ⟨5, by decide +kernel, by decide +kernel, rfl⟩
theorem eX11_deedsAltering_8 : aIc_ge cX11_deedsAltering 8 11 50 := ⟨42, by decide +kernel, rfl, by decide⟩
theorem eX11_deedsAltering_11 : aAL cX11_deedsAltering 11 0 12 := Or.inl ⟨0, by decide +kernel, rfl, rfl⟩
theorem eX11_deedsAltering_12 : aIL cX11_deedsAltering 12 1 13 := Or.inl ⟨1, by decide +kernel, rfl, rfl⟩
theorem eX11_deedsAltering_13 : aAL cX11_deedsAltering 13 0 14 := Or.inl ⟨0, by decide +kernel, rfl, rfl⟩
theorem eX11_deedsAltering_14 : aI3 cX11_deedsAltering 14 (.getfield 29) 17 := ⟨by decide +kernel, rfl⟩
theorem eX11_deedsAltering_17 : aI3 cX11_deedsAltering 17 (.getfield 79) 20 := ⟨by decide +kernel, rfl⟩
theorem eX11_deedsAltering_20 : aIL cX11_deedsAltering 20 4 22 := Or.inr ⟨by decide +kernel, rfl⟩
theorem eX11_deedsAltering_22 : aAL cX11_deedsAltering 22 0 23 := Or.inl ⟨0, by decide +kernel, rfl, rfl⟩
theorem eX11_deedsAltering_23 : aIL cX11_deedsAltering 23 1 24 := Or.inl ⟨1, by decide +kernel, rfl, rfl⟩
theorem eX11_deedsAltering_24 : aI3 cX11_deedsAltering 24 (.invokevirtual 137) 27 := ⟨by decide +kernel, rfl⟩
theorem eX11_deedsAltering_27 : aI3 cX11_deedsAltering 27 (.invokevirtual 171) 30 := ⟨by decide +kernel, rfl⟩
theorem eX11_deedsAltering_30 : aIS cX11_deedsAltering 30 5 32 := Or.inr ⟨by decide +kernel, rfl⟩
theorem eX11_deedsAltering_32 : aIL cX11_deedsAltering 32 3 33 := Or.inl ⟨3, by decide +kernel, rfl, rfl⟩
theorem eX11_deedsAltering_33 : aIL cX11_deedsAltering 33 5 35 := Or.inr ⟨by decide +kernel, rfl⟩
theorem eX11_deedsAltering_35 : aIL cX11_deedsAltering 35 2 36 := Or.inl ⟨2, by decide +kernel, rfl, rfl⟩
theorem eX11_deedsAltering_36 : aI1 cX11_deedsAltering 36 (.ishr) 37 := ⟨by decide +kernel, rfl⟩
theorem eX11_deedsAltering_37 : aPI cX11_deedsAltering 37 (nI 1) 38 := Or.inl ⟨1, by decide +kernel, by decide +kernel, rfl⟩
theorem eX11_deedsAltering_38 : aI1 cX11_deedsAltering 38 (.iand) 39 := ⟨by decide +kernel, rfl⟩
theorem eX11_deedsAltering_39 : aIL cX11_deedsAltering 39 4 41 := Or.inr ⟨by decide +kernel, rfl⟩
theorem eX11_deedsAltering_41 : aI1 cX11_deedsAltering 41 (.ishl) 42 := ⟨by decide +kernel, rfl⟩
theorem eX11_deedsAltering_42 : aI1 cX11_deedsAltering 42 (.ior) 43 := ⟨by decide +kernel, rfl⟩
theorem eX11_deedsAltering_43 : aIS cX11_deedsAltering 43 3 44 := Or.inl ⟨3, by decide +kernel, rfl, rfl⟩
theorem eX11_deedsAltering_44 : aII cX11_deedsAltering 44 4 (nI 1) 47 := ⟨1, by decide +kernel, by decide +kernel, rfl⟩
theorem eX11_deedsAltering_47 : aGo cX11_deedsAltering 47 5 := ⟨(-42), by decide +kernel, by decide⟩
theorem eX11_deedsAltering_50 : aIL cX11_deedsAltering 50 3 51 := Or.inl ⟨3, by decide +kernel, rfl, rfl⟩
theorem eX11_deedsAltering_51 : ∀ x : Int32, aRet cX11_deedsAltering (some .int) 51 (some (.int x)) := fun x => Or.inr (Or.inl ⟨x, _, rfl, rfl, rfl, by decide +kernel⟩)
theorem eX11_placeToListen_0 : aAL cX11_placeToListen 0 0 1 := Or.inl ⟨0, by decide +kernel, rfl, rfl⟩
theorem eX11_placeToListen_1 : aI3 cX11_placeToListen 1 (.getfield 29) 4 := ⟨by decide +kernel, rfl⟩
theorem eX11_placeToListen_4 : aI3 cX11_placeToListen 4 (.getfield 140) 7 := ⟨by decide +kernel, rfl⟩
theorem eX11_placeToListen_7 : aIL cX11_placeToListen 7 1 8 := Or.inl ⟨1, by decide +kernel, rfl, rfl⟩
theorem eX11_placeToListen_8 : aI3 cX11_placeToListen 8 (.invokevirtual 144) 11 := ⟨by decide +kernel, rfl⟩
theorem eX11_placeToListen_11 : aIS cX11_placeToListen 11 2 12 := Or.inl ⟨2, by decide +kernel, rfl, rfl⟩
theorem eX11_placeToListen_12 : aIL cX11_placeToListen 12 2 13 := Or.inl ⟨2, by decide +kernel, rfl, rfl⟩
theorem eX11_placeToListen_13 : aIf_ne cX11_placeToListen 13 16 18 := ⟨5, by decide +kernel, rfl, by decide⟩
theorem eX11_placeToListen_16 : aPI cX11_placeToListen 16 (-1) 17 := Or.inl ⟨(-1), by decide +kernel, by decide +kernel, rfl⟩
theorem eX11_placeToListen_17 : ∀ x : Int32, aRet cX11_placeToListen (some .int) 17 (some (.int x)) := fun x => Or.inr (Or.inl ⟨x, _, rfl, rfl, rfl, by decide +kernel⟩)
theorem eX11_placeToListen_18 : aPI cX11_placeToListen 18 (-1) 19 := Or.inl ⟨(-1), by decide +kernel, by decide +kernel, rfl⟩
theorem eX11_placeToListen_19 : aIS cX11_placeToListen 19 3 20 := Or.inl ⟨3, by decide +kernel, rfl, rfl⟩
theorem eX11_placeToListen_20 : aPI cX11_placeToListen 20 (nI 6) 22 := Or.inr (Or.inl ⟨6, by decide +kernel, by decide +kernel, rfl⟩)
theorem eX11_placeToListen_22 : aIS cX11_placeToListen 22 4 24 := Or.inr ⟨by decide +kernel, rfl⟩
theorem eX11_placeToListen_24 : aPI cX11_placeToListen 24 (nI 0) 25 := Or.inl ⟨0, by decide +kernel, by decide +kernel, rfl⟩
theorem eX11_placeToListen_25 : aIS cX11_placeToListen 25 5 27 := Or.inr ⟨by decide +kernel, rfl⟩
theorem eX11_placeToListen_27 : aIL cX11_placeToListen 27 5 29 := Or.inr ⟨by decide +kernel, rfl⟩
theorem eX11_placeToListen_29 : aAL cX11_placeToListen 29 0 30 := Or.inl ⟨0, by decide +kernel, rfl, rfl⟩
theorem eX11_placeToListen_30 : aI3 cX11_placeToListen 30 (.getfield 29) 33 := ⟨by decide +kernel, rfl⟩
theorem eX11_placeToListen_33 : aI3 cX11_placeToListen 33 (.getfield 79) 36 := ⟨by decide +kernel, rfl⟩
theorem eX11_placeToListen_36 : aI3 cX11_placeToListen 36 (.invokevirtual 82) 39 := ⟨by decide +kernel, rfl⟩
theorem eX11_placeToListen_39 : aIc_ge cX11_placeToListen 39 42 92 := ⟨53, by decide +kernel, rfl, by decide⟩
theorem eX11_placeToListen_42 : aAL cX11_placeToListen 42 0 43 := Or.inl ⟨0, by decide +kernel, rfl, rfl⟩
theorem eX11_placeToListen_43 : aIL cX11_placeToListen 43 1 44 := Or.inl ⟨1, by decide +kernel, rfl, rfl⟩
theorem eX11_placeToListen_44 : aIL cX11_placeToListen 44 5 46 := Or.inr ⟨by decide +kernel, rfl⟩
theorem eX11_placeToListen_46 : aI3 cX11_placeToListen 46 (.invokevirtual 182) 49 := ⟨by decide +kernel, rfl⟩
theorem eX11_placeToListen_49 : aIS cX11_placeToListen 49 6 51 := Or.inr ⟨by decide +kernel, rfl⟩
theorem eX11_placeToListen_51 : aIL cX11_placeToListen 51 2 52 := Or.inl ⟨2, by decide +kernel, rfl, rfl⟩
theorem eX11_placeToListen_52 : aIL cX11_placeToListen 52 6 54 := Or.inr ⟨by decide +kernel, rfl⟩
theorem eX11_placeToListen_54 : aI1 cX11_placeToListen 54 (.iand) 55 := ⟨by decide +kernel, rfl⟩
theorem eX11_placeToListen_55 : aI3 cX11_placeToListen 55 (.invokestatic 132) 58 := ⟨by decide +kernel, rfl⟩
theorem eX11_placeToListen_58 : aIL cX11_placeToListen 58 2 59 := Or.inl ⟨2, by decide +kernel, rfl, rfl⟩
theorem eX11_placeToListen_59 : aIL cX11_placeToListen 59 6 61 := Or.inr ⟨by decide +kernel, rfl⟩
theorem eX11_placeToListen_61 : aPI cX11_placeToListen 61 (-1) 62 := Or.inl ⟨(-1), by decide +kernel, by decide +kernel, rfl⟩
theorem eX11_placeToListen_62 : aI1 cX11_placeToListen 62 (.ixor) 63 := ⟨by decide +kernel, rfl⟩
theorem eX11_placeToListen_63 : aI1 cX11_placeToListen 63 (.iand) 64 := ⟨by decide +kernel, rfl⟩
theorem eX11_placeToListen_64 : aI3 cX11_placeToListen 64 (.invokestatic 132) 67 := ⟨by decide +kernel, rfl⟩
theorem eX11_placeToListen_67 : aI3 cX11_placeToListen 67 (.invokestatic 253) 70 := ⟨by decide +kernel, rfl⟩
theorem eX11_placeToListen_70 : aIS cX11_placeToListen 70 7 72 := Or.inr ⟨by decide +kernel, rfl⟩
theorem eX11_placeToListen_72 : aIL cX11_placeToListen 72 7 74 := Or.inr ⟨by decide +kernel, rfl⟩
theorem eX11_placeToListen_74 : aIL cX11_placeToListen 74 4 76 := Or.inr ⟨by decide +kernel, rfl⟩
theorem eX11_placeToListen_76 : aIc_ge cX11_placeToListen 76 79 86 := ⟨10, by decide +kernel, rfl, by decide⟩
theorem eX11_placeToListen_79 : aIL cX11_placeToListen 79 7 81 := Or.inr ⟨by decide +kernel, rfl⟩
theorem eX11_placeToListen_81 : aIS cX11_placeToListen 81 4 83 := Or.inr ⟨by decide +kernel, rfl⟩
theorem eX11_placeToListen_83 : aIL cX11_placeToListen 83 5 85 := Or.inr ⟨by decide +kernel, rfl⟩
theorem eX11_placeToListen_85 : aIS cX11_placeToListen 85 3 86 := Or.inl ⟨3, by decide +kernel, rfl, rfl⟩
theorem eX11_placeToListen_86 : aII cX11_placeToListen 86 5 (nI 1) 89 := ⟨1, by decide +kernel, by decide +kernel, rfl⟩
theorem eX11_placeToListen_89 : aGo cX11_placeToListen 89 27 := ⟨(-62), by decide +kernel, by decide⟩
theorem eX11_placeToListen_92 : aIL cX11_placeToListen 92 3 93 := Or.inl ⟨3, by decide +kernel, rfl, rfl⟩
theorem eX11_placeToListen_93 : ∀ x : Int32, aRet cX11_placeToListen (some .int) 93 (some (.int x)) := fun x => Or.inr (Or.inl ⟨x, _, rfl, rfl, rfl, by decide +kernel⟩)
theorem eX11_drawSheet_0 : aIL cX11_drawSheet 0 1 1 := Or.inl ⟨1, by decide +kernel, rfl, rfl⟩
theorem eX11_drawSheet_1 : aIS cX11_drawSheet 1 2 2 := Or.inl ⟨2, by decide +kernel, rfl, rfl⟩
theorem eX11_drawSheet_2 : aAL cX11_drawSheet 2 0 3 := Or.inl ⟨0, by decide +kernel, rfl, rfl⟩
theorem eX11_drawSheet_3 : aI3 cX11_drawSheet 3 (.getfield 39) 6 := ⟨by decide +kernel, rfl⟩
theorem eX11_drawSheet_6 : aI3 cX11_drawSheet 6 (.invokevirtual 261) 9 := ⟨by decide +kernel, rfl⟩
theorem eX11_drawSheet_9 : aPI cX11_drawSheet 9 (nI 0) 10 := Or.inl ⟨0, by decide +kernel, by decide +kernel, rfl⟩
theorem eX11_drawSheet_10 : aIS cX11_drawSheet 10 3 11 := Or.inl ⟨3, by decide +kernel, rfl, rfl⟩
theorem eX11_drawSheet_11 : aIL cX11_drawSheet 11 3 12 := Or.inl ⟨3, by decide +kernel, rfl, rfl⟩
theorem eX11_drawSheet_12 : aAL cX11_drawSheet 12 0 13 := Or.inl ⟨0, by decide +kernel, rfl, rfl⟩
theorem eX11_drawSheet_13 : aI3 cX11_drawSheet 13 (.getfield 29) 16 := ⟨by decide +kernel, rfl⟩
theorem eX11_drawSheet_16 : aI3 cX11_drawSheet 16 (.getfield 79) 19 := ⟨by decide +kernel, rfl⟩
theorem eX11_drawSheet_19 : aI3 cX11_drawSheet 19 (.invokevirtual 82) 22 := ⟨by decide +kernel, rfl⟩
theorem eX11_drawSheet_22 : aIc_ge cX11_drawSheet 22 25 60 := ⟨38, by decide +kernel, rfl, by decide⟩
theorem eX11_drawSheet_25 : aLd cX11_drawSheet 25 262 28 := Or.inr ⟨by decide +kernel, rfl⟩
theorem eX11_drawSheet_28 : aIL cX11_drawSheet 28 2 29 := Or.inl ⟨2, by decide +kernel, rfl, rfl⟩
theorem eX11_drawSheet_29 : aI1 cX11_drawSheet 29 (.imul) 30 := ⟨by decide +kernel, rfl⟩
theorem eX11_drawSheet_30 : aPI cX11_drawSheet 30 (nI 12345) 33 := Or.inr (Or.inr ⟨12345, by decide +kernel, by decide +kernel, rfl⟩)
theorem eX11_drawSheet_33 : aI1 cX11_drawSheet 33 (.iadd) 34 := ⟨by decide +kernel, rfl⟩
theorem eX11_drawSheet_34 : aLd cX11_drawSheet 34 263 37 := Or.inr ⟨by decide +kernel, rfl⟩
theorem eX11_drawSheet_37 : aI1 cX11_drawSheet 37 (.iand) 38 := ⟨by decide +kernel, rfl⟩
theorem eX11_drawSheet_38 : aIS cX11_drawSheet 38 2 39 := Or.inl ⟨2, by decide +kernel, rfl, rfl⟩
theorem eX11_drawSheet_39 : aAL cX11_drawSheet 39 0 40 := Or.inl ⟨0, by decide +kernel, rfl, rfl⟩
theorem eX11_drawSheet_40 : aI3 cX11_drawSheet 40 (.getfield 39) 43 := ⟨by decide +kernel, rfl⟩
theorem eX11_drawSheet_43 : aIL cX11_drawSheet 43 2 44 := Or.inl ⟨2, by decide +kernel, rfl, rfl⟩
theorem eX11_drawSheet_44 : aLd cX11_drawSheet 44 264 47 := Or.inr ⟨by decide +kernel, rfl⟩
theorem eX11_drawSheet_47 : aI1 cX11_drawSheet 47 (.idiv) 48 := ⟨by decide +kernel, rfl⟩
theorem eX11_drawSheet_48 : aPI cX11_drawSheet 48 (nI 8) 50 := Or.inr (Or.inl ⟨8, by decide +kernel, by decide +kernel, rfl⟩)
theorem eX11_drawSheet_50 : aI1 cX11_drawSheet 50 (.irem) 51 := ⟨by decide +kernel, rfl⟩
theorem eX11_drawSheet_51 : aI3 cX11_drawSheet 51 (.invokevirtual 244) 54 := ⟨by decide +kernel, rfl⟩
theorem eX11_drawSheet_54 : aII cX11_drawSheet 54 3 (nI 1) 57 := ⟨1, by decide +kernel, by decide +kernel, rfl⟩
theorem eX11_drawSheet_57 : aGo cX11_drawSheet 57 11 := ⟨(-46), by decide +kernel, by decide⟩
theorem eX11_drawSheet_60 : aIL cX11_drawSheet 60 2 61 := Or.inl ⟨2, by decide +kernel, rfl, rfl⟩
theorem eX11_drawSheet_61 : ∀ x : Int32, aRet cX11_drawSheet (some .int) 61 (some (.int x)) := fun x => Or.inr (Or.inl ⟨x, _, rfl, rfl, rfl, by decide +kernel⟩)
theorem eJ6_bitCount_0f7a4_0 : aIL cJ6_bitCount_0f7a4 0 0 1 := Or.inl ⟨0, by decide +kernel, rfl, rfl⟩
theorem eJ6_bitCount_0f7a4_1 : aIL cJ6_bitCount_0f7a4 1 0 2 := Or.inl ⟨0, by decide +kernel, rfl, rfl⟩
theorem eJ6_bitCount_0f7a4_2 : aPI cJ6_bitCount_0f7a4 2 (nI 1) 3 := Or.inl ⟨1, by decide +kernel, by decide +kernel, rfl⟩
theorem eJ6_bitCount_0f7a4_3 : aI1 cJ6_bitCount_0f7a4 3 (.iushr) 4 := ⟨by decide +kernel, rfl⟩
theorem eJ6_bitCount_0f7a4_4 : aLd cJ6_bitCount_0f7a4 4 265 7 := Or.inr ⟨by decide +kernel, rfl⟩
theorem eJ6_bitCount_0f7a4_7 : aI1 cJ6_bitCount_0f7a4 7 (.iand) 8 := ⟨by decide +kernel, rfl⟩
theorem eJ6_bitCount_0f7a4_8 : aI1 cJ6_bitCount_0f7a4 8 (.isub) 9 := ⟨by decide +kernel, rfl⟩
theorem eJ6_bitCount_0f7a4_9 : aIS cJ6_bitCount_0f7a4 9 0 10 := Or.inl ⟨0, by decide +kernel, rfl, rfl⟩
theorem eJ6_bitCount_0f7a4_10 : aIL cJ6_bitCount_0f7a4 10 0 11 := Or.inl ⟨0, by decide +kernel, rfl, rfl⟩
theorem eJ6_bitCount_0f7a4_11 : aLd cJ6_bitCount_0f7a4 11 266 14 := Or.inr ⟨by decide +kernel, rfl⟩
theorem eJ6_bitCount_0f7a4_14 : aI1 cJ6_bitCount_0f7a4 14 (.iand) 15 := ⟨by decide +kernel, rfl⟩
theorem eJ6_bitCount_0f7a4_15 : aIL cJ6_bitCount_0f7a4 15 0 16 := Or.inl ⟨0, by decide +kernel, rfl, rfl⟩
theorem eJ6_bitCount_0f7a4_16 : aPI cJ6_bitCount_0f7a4 16 (nI 2) 17 := Or.inl ⟨2, by decide +kernel, by decide +kernel, rfl⟩
theorem eJ6_bitCount_0f7a4_17 : aI1 cJ6_bitCount_0f7a4 17 (.iushr) 18 := ⟨by decide +kernel, rfl⟩
theorem eJ6_bitCount_0f7a4_18 : aLd cJ6_bitCount_0f7a4 18 266 21 := Or.inr ⟨by decide +kernel, rfl⟩
theorem eJ6_bitCount_0f7a4_21 : aI1 cJ6_bitCount_0f7a4 21 (.iand) 22 := ⟨by decide +kernel, rfl⟩
theorem eJ6_bitCount_0f7a4_22 : aI1 cJ6_bitCount_0f7a4 22 (.iadd) 23 := ⟨by decide +kernel, rfl⟩
theorem eJ6_bitCount_0f7a4_23 : aIS cJ6_bitCount_0f7a4 23 0 24 := Or.inl ⟨0, by decide +kernel, rfl, rfl⟩
theorem eJ6_bitCount_0f7a4_24 : aIL cJ6_bitCount_0f7a4 24 0 25 := Or.inl ⟨0, by decide +kernel, rfl, rfl⟩
theorem eJ6_bitCount_0f7a4_25 : aIL cJ6_bitCount_0f7a4 25 0 26 := Or.inl ⟨0, by decide +kernel, rfl, rfl⟩
theorem eJ6_bitCount_0f7a4_26 : aPI cJ6_bitCount_0f7a4 26 (nI 4) 27 := Or.inl ⟨4, by decide +kernel, by decide +kernel, rfl⟩
theorem eJ6_bitCount_0f7a4_27 : aI1 cJ6_bitCount_0f7a4 27 (.iushr) 28 := ⟨by decide +kernel, rfl⟩
theorem eJ6_bitCount_0f7a4_28 : aI1 cJ6_bitCount_0f7a4 28 (.iadd) 29 := ⟨by decide +kernel, rfl⟩
theorem eJ6_bitCount_0f7a4_29 : aLd cJ6_bitCount_0f7a4 29 267 32 := Or.inr ⟨by decide +kernel, rfl⟩
theorem eJ6_bitCount_0f7a4_32 : aI1 cJ6_bitCount_0f7a4 32 (.iand) 33 := ⟨by decide +kernel, rfl⟩
theorem eJ6_bitCount_0f7a4_33 : aIS cJ6_bitCount_0f7a4 33 0 34 := Or.inl ⟨0, by decide +kernel, rfl, rfl⟩
theorem eJ6_bitCount_0f7a4_34 : aIL cJ6_bitCount_0f7a4 34 0 35 := Or.inl ⟨0, by decide +kernel, rfl, rfl⟩
theorem eJ6_bitCount_0f7a4_35 : aIL cJ6_bitCount_0f7a4 35 0 36 := Or.inl ⟨0, by decide +kernel, rfl, rfl⟩
theorem eJ6_bitCount_0f7a4_36 : aPI cJ6_bitCount_0f7a4 36 (nI 8) 38 := Or.inr (Or.inl ⟨8, by decide +kernel, by decide +kernel, rfl⟩)
theorem eJ6_bitCount_0f7a4_38 : aI1 cJ6_bitCount_0f7a4 38 (.iushr) 39 := ⟨by decide +kernel, rfl⟩
theorem eJ6_bitCount_0f7a4_39 : aI1 cJ6_bitCount_0f7a4 39 (.iadd) 40 := ⟨by decide +kernel, rfl⟩
theorem eJ6_bitCount_0f7a4_40 : aIS cJ6_bitCount_0f7a4 40 0 41 := Or.inl ⟨0, by decide +kernel, rfl, rfl⟩
theorem eJ6_bitCount_0f7a4_41 : aIL cJ6_bitCount_0f7a4 41 0 42 := Or.inl ⟨0, by decide +kernel, rfl, rfl⟩
theorem eJ6_bitCount_0f7a4_42 : aIL cJ6_bitCount_0f7a4 42 0 43 := Or.inl ⟨0, by decide +kernel, rfl, rfl⟩
theorem eJ6_bitCount_0f7a4_43 : aPI cJ6_bitCount_0f7a4 43 (nI 16) 45 := Or.inr (Or.inl ⟨16, by decide +kernel, by decide +kernel, rfl⟩)
theorem eJ6_bitCount_0f7a4_45 : aI1 cJ6_bitCount_0f7a4 45 (.iushr) 46 := ⟨by decide +kernel, rfl⟩
theorem eJ6_bitCount_0f7a4_46 : aI1 cJ6_bitCount_0f7a4 46 (.iadd) 47 := ⟨by decide +kernel, rfl⟩
theorem eJ6_bitCount_0f7a4_47 : aIS cJ6_bitCount_0f7a4 47 0 48 := Or.inl ⟨0, by decide +kernel, rfl, rfl⟩
theorem eJ6_bitCount_0f7a4_48 : aIL cJ6_bitCount_0f7a4 48 0 49 := Or.inl ⟨0, by decide +kernel, rfl, rfl⟩
theorem eJ6_bitCount_0f7a4_49 : aPI cJ6_bitCount_0f7a4 49 (nI 63) 51 := Or.inr (Or.inl ⟨63, by decide +kernel, by decide +kernel, rfl⟩)
theorem eJ6_bitCount_0f7a4_51 : aI1 cJ6_bitCount_0f7a4 51 (.iand) 52 := ⟨by decide +kernel, rfl⟩
theorem eJ6_bitCount_0f7a4_52 : ∀ x : Int32, aRet cJ6_bitCount_0f7a4 (some .int) 52 (some (.int x)) := fun x => Or.inr (Or.inl ⟨x, _, rfl, rfl, rfl, by decide +kernel⟩)
theorem eJ9_max_7cf53_0 : aIL cJ9_max_7cf53 0 0 1 := Or.inl ⟨0, by decide +kernel, rfl, rfl⟩
theorem eJ9_max_7cf53_1 : aIL cJ9_max_7cf53 1 1 2 := Or.inl ⟨1, by decide +kernel, rfl, rfl⟩
theorem eJ9_max_7cf53_2 : aIc_lt cJ9_max_7cf53 2 5 9 := ⟨7, by decide +kernel, rfl, by decide⟩
theorem eJ9_max_7cf53_5 : aIL cJ9_max_7cf53 5 0 6 := Or.inl ⟨0, by decide +kernel, rfl, rfl⟩
theorem eJ9_max_7cf53_6 : aGo cJ9_max_7cf53 6 10 := ⟨4, by decide +kernel, by decide⟩
theorem eJ9_max_7cf53_9 : aIL cJ9_max_7cf53 9 1 10 := Or.inl ⟨1, by decide +kernel, rfl, rfl⟩
theorem eJ9_max_7cf53_10 : ∀ x : Int32, aRet cJ9_max_7cf53 (some .int) 10 (some (.int x)) := fun x => Or.inr (Or.inl ⟨x, _, rfl, rfl, rfl, by decide +kernel⟩)
theorem eL_cell_0 : aIL cL_cell 0 1 1 := Or.inl ⟨1, by decide +kernel, rfl, rfl⟩
theorem eL_cell_1 : aAL cL_cell 1 0 2 := Or.inl ⟨0, by decide +kernel, rfl, rfl⟩
theorem eL_cell_2 : aI1 cL_cell 2 (.arraylength) 3 := ⟨by decide +kernel, rfl⟩
theorem eL_cell_3 : aIc_ge cL_cell 3 6 12 := ⟨9, by decide +kernel, rfl, by decide⟩
theorem eL_cell_6 : aAL cL_cell 6 0 7 := Or.inl ⟨0, by decide +kernel, rfl, rfl⟩
theorem eL_cell_7 : aIL cL_cell 7 1 8 := Or.inl ⟨1, by decide +kernel, rfl, rfl⟩
theorem eL_cell_8 : aI1 cL_cell 8 (.iaload) 9 := ⟨by decide +kernel, rfl⟩
theorem eL_cell_9 : aGo cL_cell 9 18 := ⟨9, by decide +kernel, by decide⟩
theorem eL_cell_12 : aLd cL_cell 12 7 14 := Or.inl ⟨by decide +kernel, rfl⟩
theorem eL_cell_14 : aIL cL_cell 14 1 15 := Or.inl ⟨1, by decide +kernel, rfl, rfl⟩
theorem eL_cell_15 : aPI cL_cell 15 (nI 1) 16 := Or.inl ⟨1, by decide +kernel, by decide +kernel, rfl⟩
theorem eL_cell_16 : aI1 cL_cell 16 (.iadd) 17 := ⟨by decide +kernel, rfl⟩
theorem eL_cell_17 : aI1 cL_cell 17 (.imul) 18 := ⟨by decide +kernel, rfl⟩
theorem eL_cell_18 : ∀ x : Int32, aRet cL_cell (some .int) 18 (some (.int x)) := fun x => Or.inr (Or.inl ⟨x, _, rfl, rfl, rfl, by decide +kernel⟩)
theorem eL_at_0 : aIL cL_at 0 0 1 := Or.inl ⟨0, by decide +kernel, rfl, rfl⟩
theorem eL_at_1 : aPI cL_at 1 (nI 1) 2 := Or.inl ⟨1, by decide +kernel, by decide +kernel, rfl⟩
theorem eL_at_2 : aI1 cL_at 2 (.iushr) 3 := ⟨by decide +kernel, rfl⟩
theorem eL_at_3 : aIL cL_at 3 1 4 := Or.inl ⟨1, by decide +kernel, rfl, rfl⟩
theorem eL_at_4 : aI1 cL_at 4 (.irem) 5 := ⟨by decide +kernel, rfl⟩
theorem eL_at_5 : ∀ x : Int32, aRet cL_at (some .int) 5 (some (.int x)) := fun x => Or.inr (Or.inl ⟨x, _, rfl, rfl, rfl, by decide +kernel⟩)
theorem eL_courtText_0 : aPI cL_courtText 0 (nI 0) 1 := Or.inl ⟨0, by decide +kernel, by decide +kernel, rfl⟩
theorem eL_courtText_1 : aIS cL_courtText 1 5 3 := Or.inr ⟨by decide +kernel, rfl⟩
theorem eL_courtText_3 : aAL cL_courtText 3 0 4 := Or.inl ⟨0, by decide +kernel, rfl, rfl⟩
theorem eL_courtText_4 : aIL cL_courtText 4 1 5 := Or.inl ⟨1, by decide +kernel, rfl, rfl⟩
theorem eL_courtText_5 : aI3 cL_courtText 5 (.invokestatic 8) 8 := ⟨by decide +kernel, rfl⟩
theorem eL_courtText_8 : aIS cL_courtText 8 6 10 := Or.inr ⟨by decide +kernel, rfl⟩
theorem eL_courtText_10 : aAL cL_courtText 10 0 11 := Or.inl ⟨0, by decide +kernel, rfl, rfl⟩
theorem eL_courtText_11 : aIL cL_courtText 11 1 12 := Or.inl ⟨1, by decide +kernel, rfl, rfl⟩
theorem eL_courtText_12 : aPI cL_courtText 12 (nI 1) 13 := Or.inl ⟨1, by decide +kernel, by decide +kernel, rfl⟩
theorem eL_courtText_13 : aI1 cL_courtText 13 (.iadd) 14 := ⟨by decide +kernel, rfl⟩
theorem eL_courtText_14 : aI3 cL_courtText 14 (.invokestatic 8) 17 := ⟨by decide +kernel, rfl⟩
theorem eL_courtText_17 : aIS cL_courtText 17 7 19 := Or.inr ⟨by decide +kernel, rfl⟩
theorem eL_courtText_19 : aAL cL_courtText 19 0 20 := Or.inl ⟨0, by decide +kernel, rfl, rfl⟩
theorem eL_courtText_20 : aIL cL_courtText 20 1 21 := Or.inl ⟨1, by decide +kernel, rfl, rfl⟩
theorem eL_courtText_21 : aPI cL_courtText 21 (nI 2) 22 := Or.inl ⟨2, by decide +kernel, by decide +kernel, rfl⟩
theorem eL_courtText_22 : aI1 cL_courtText 22 (.iadd) 23 := ⟨by decide +kernel, rfl⟩
theorem eL_courtText_23 : aI3 cL_courtText 23 (.invokestatic 8) 26 := ⟨by decide +kernel, rfl⟩
theorem eL_courtText_26 : aIS cL_courtText 26 8 28 := Or.inr ⟨by decide +kernel, rfl⟩
theorem eL_courtText_28 : aPI cL_courtText 28 (nI 0) 29 := Or.inl ⟨0, by decide +kernel, by decide +kernel, rfl⟩
theorem eL_courtText_29 : aIS cL_courtText 29 9 31 := Or.inr ⟨by decide +kernel, rfl⟩
theorem eL_courtText_31 : aIL cL_courtText 31 9 33 := Or.inr ⟨by decide +kernel, rfl⟩
theorem eL_courtText_33 : aPI cL_courtText 33 (nI 4) 34 := Or.inl ⟨4, by decide +kernel, by decide +kernel, rfl⟩
theorem eL_courtText_34 : aIc_ge cL_courtText 34 37 156 := ⟨122, by decide +kernel, rfl, by decide⟩
theorem eL_courtText_37 : aAL cL_courtText 37 2 38 := Or.inl ⟨2, by decide +kernel, rfl, rfl⟩
theorem eL_courtText_38 : aIL cL_courtText 38 9 40 := Or.inr ⟨by decide +kernel, rfl⟩
theorem eL_courtText_40 : aPI cL_courtText 40 (nI 1) 41 := Or.inl ⟨1, by decide +kernel, by decide +kernel, rfl⟩
theorem eL_courtText_41 : aIL cL_courtText 41 6 43 := Or.inr ⟨by decide +kernel, rfl⟩
theorem eL_courtText_43 : aPI cL_courtText 43 (nI 3) 44 := Or.inl ⟨3, by decide +kernel, by decide +kernel, rfl⟩
theorem eL_courtText_44 : aIL cL_courtText 44 9 46 := Or.inr ⟨by decide +kernel, rfl⟩
theorem eL_courtText_46 : aI1 cL_courtText 46 (.imul) 47 := ⟨by decide +kernel, rfl⟩
theorem eL_courtText_47 : aI1 cL_courtText 47 (.ishr) 48 := ⟨by decide +kernel, rfl⟩
theorem eL_courtText_48 : aPI cL_courtText 48 (nI 8) 50 := Or.inr (Or.inl ⟨8, by decide +kernel, by decide +kernel, rfl⟩)
theorem eL_courtText_50 : aI3 cL_courtText 50 (.invokestatic 14) 53 := ⟨by decide +kernel, rfl⟩
theorem eL_courtText_53 : aI1 cL_courtText 53 (.ishl) 54 := ⟨by decide +kernel, rfl⟩
theorem eL_courtText_54 : aPI cL_courtText 54 (nI 1) 55 := Or.inl ⟨1, by decide +kernel, by decide +kernel, rfl⟩
theorem eL_courtText_55 : aIL cL_courtText 55 6 57 := Or.inr ⟨by decide +kernel, rfl⟩
theorem eL_courtText_57 : aPI cL_courtText 57 (nI 12) 59 := Or.inr (Or.inl ⟨12, by decide +kernel, by decide +kernel, rfl⟩)
theorem eL_courtText_59 : aPI cL_courtText 59 (nI 3) 60 := Or.inl ⟨3, by decide +kernel, by decide +kernel, rfl⟩
theorem eL_courtText_60 : aIL cL_courtText 60 9 62 := Or.inr ⟨by decide +kernel, rfl⟩
theorem eL_courtText_62 : aI1 cL_courtText 62 (.imul) 63 := ⟨by decide +kernel, rfl⟩
theorem eL_courtText_63 : aI1 cL_courtText 63 (.iadd) 64 := ⟨by decide +kernel, rfl⟩
theorem eL_courtText_64 : aI1 cL_courtText 64 (.ishr) 65 := ⟨by decide +kernel, rfl⟩
theorem eL_courtText_65 : aPI cL_courtText 65 (nI 8) 67 := Or.inr (Or.inl ⟨8, by decide +kernel, by decide +kernel, rfl⟩)
theorem eL_courtText_67 : aI3 cL_courtText 67 (.invokestatic 14) 70 := ⟨by decide +kernel, rfl⟩
theorem eL_courtText_70 : aI1 cL_courtText 70 (.ishl) 71 := ⟨by decide +kernel, rfl⟩
theorem eL_courtText_71 : aI1 cL_courtText 71 (.ior) 72 := ⟨by decide +kernel, rfl⟩
theorem eL_courtText_72 : aPI cL_courtText 72 (nI 1) 73 := Or.inl ⟨1, by decide +kernel, by decide +kernel, rfl⟩
theorem eL_courtText_73 : aIL cL_courtText 73 7 75 := Or.inr ⟨by decide +kernel, rfl⟩
theorem eL_courtText_75 : aPI cL_courtText 75 (nI 3) 76 := Or.inl ⟨3, by decide +kernel, by decide +kernel, rfl⟩
theorem eL_courtText_76 : aIL cL_courtText 76 9 78 := Or.inr ⟨by decide +kernel, rfl⟩
theorem eL_courtText_78 : aI1 cL_courtText 78 (.imul) 79 := ⟨by decide +kernel, rfl⟩
theorem eL_courtText_79 : aI1 cL_courtText 79 (.ishr) 80 := ⟨by decide +kernel, rfl⟩
theorem eL_courtText_80 : aPI cL_courtText 80 (nI 8) 82 := Or.inr (Or.inl ⟨8, by decide +kernel, by decide +kernel, rfl⟩)
theorem eL_courtText_82 : aI3 cL_courtText 82 (.invokestatic 14) 85 := ⟨by decide +kernel, rfl⟩
theorem eL_courtText_85 : aI1 cL_courtText 85 (.ishl) 86 := ⟨by decide +kernel, rfl⟩
theorem eL_courtText_86 : aI1 cL_courtText 86 (.ior) 87 := ⟨by decide +kernel, rfl⟩
theorem eL_courtText_87 : aI1 cL_courtText 87 (.iastore) 88 := ⟨by decide +kernel, rfl⟩
theorem eL_courtText_88 : aPI cL_courtText 88 (nI 0) 89 := Or.inl ⟨0, by decide +kernel, by decide +kernel, rfl⟩
theorem eL_courtText_89 : aIS cL_courtText 89 10 91 := Or.inr ⟨by decide +kernel, rfl⟩
theorem eL_courtText_91 : aIL cL_courtText 91 10 93 := Or.inr ⟨by decide +kernel, rfl⟩
theorem eL_courtText_93 : aPI cL_courtText 93 (nI 8) 95 := Or.inr (Or.inl ⟨8, by decide +kernel, by decide +kernel, rfl⟩)
theorem eL_courtText_95 : aIc_ge cL_courtText 95 98 129 := ⟨34, by decide +kernel, rfl, by decide⟩
theorem eL_courtText_98 : aAL cL_courtText 98 2 99 := Or.inl ⟨2, by decide +kernel, rfl, rfl⟩
theorem eL_courtText_99 : aIL cL_courtText 99 9 101 := Or.inr ⟨by decide +kernel, rfl⟩
theorem eL_courtText_101 : aI1 cL_courtText 101 (.iaload) 102 := ⟨by decide +kernel, rfl⟩
theorem eL_courtText_102 : aIL cL_courtText 102 10 104 := Or.inr ⟨by decide +kernel, rfl⟩
theorem eL_courtText_104 : aI3 cL_courtText 104 (.invokestatic 18) 107 := ⟨by decide +kernel, rfl⟩
theorem eL_courtText_107 : aIf_eq cL_courtText 107 110 123 := ⟨16, by decide +kernel, rfl, by decide⟩
theorem eL_courtText_110 : aAL cL_courtText 110 4 112 := Or.inr ⟨by decide +kernel, rfl⟩
theorem eL_courtText_112 : aIL cL_courtText 112 5 114 := Or.inr ⟨by decide +kernel, rfl⟩
theorem eL_courtText_114 : aII cL_courtText 114 5 (nI 1) 117 := ⟨1, by decide +kernel, by decide +kernel, rfl⟩
theorem eL_courtText_117 : aPI cL_courtText 117 (nI 97) 119 := Or.inr (Or.inl ⟨97, by decide +kernel, by decide +kernel, rfl⟩)
theorem eL_courtText_119 : aIL cL_courtText 119 10 121 := Or.inr ⟨by decide +kernel, rfl⟩
theorem eL_courtText_121 : aI1 cL_courtText 121 (.iadd) 122 := ⟨by decide +kernel, rfl⟩
theorem eL_courtText_122 : aI1 cL_courtText 122 (.iastore) 123 := ⟨by decide +kernel, rfl⟩
theorem eL_courtText_123 : aII cL_courtText 123 10 (nI 1) 126 := ⟨1, by decide +kernel, by decide +kernel, rfl⟩
theorem eL_courtText_126 : aGo cL_courtText 126 91 := ⟨(-35), by decide +kernel, by decide⟩
theorem eL_courtText_129 : aAL cL_courtText 129 4 131 := Or.inr ⟨by decide +kernel, rfl⟩
theorem eL_courtText_131 : aIL cL_courtText 131 5 133 := Or.inr ⟨by decide +kernel, rfl⟩
theorem eL_courtText_133 : aII cL_courtText 133 5 (nI 1) 136 := ⟨1, by decide +kernel, by decide +kernel, rfl⟩
theorem eL_courtText_136 : aIL cL_courtText 136 9 138 := Or.inr ⟨by decide +kernel, rfl⟩
theorem eL_courtText_138 : aPI cL_courtText 138 (nI 3) 139 := Or.inl ⟨3, by decide +kernel, by decide +kernel, rfl⟩
theorem eL_courtText_139 : aIc_ge cL_courtText 139 142 147 := ⟨8, by decide +kernel, rfl, by decide⟩
theorem eL_courtText_142 : aPI cL_courtText 142 (nI 44) 144 := Or.inr (Or.inl ⟨44, by decide +kernel, by decide +kernel, rfl⟩)
theorem eL_courtText_144 : aGo cL_courtText 144 149 := ⟨5, by decide +kernel, by decide⟩
theorem eL_courtText_147 : aPI cL_courtText 147 (nI 59) 149 := Or.inr (Or.inl ⟨59, by decide +kernel, by decide +kernel, rfl⟩)
theorem eL_courtText_149 : aI1 cL_courtText 149 (.iastore) 150 := ⟨by decide +kernel, rfl⟩
theorem eL_courtText_150 : aII cL_courtText 150 9 (nI 1) 153 := ⟨1, by decide +kernel, by decide +kernel, rfl⟩
theorem eL_courtText_153 : aGo cL_courtText 153 31 := ⟨(-122), by decide +kernel, by decide⟩
theorem eL_courtText_156 : aAL cL_courtText 156 2 157 := Or.inl ⟨2, by decide +kernel, rfl, rfl⟩
theorem eL_courtText_157 : aPI cL_courtText 157 (nI 4) 158 := Or.inl ⟨4, by decide +kernel, by decide +kernel, rfl⟩
theorem eL_courtText_158 : aPI cL_courtText 158 (nI 0) 159 := Or.inl ⟨0, by decide +kernel, by decide +kernel, rfl⟩
theorem eL_courtText_159 : aI1 cL_courtText 159 (.iastore) 160 := ⟨by decide +kernel, rfl⟩
theorem eL_courtText_160 : aPI cL_courtText 160 (nI 0) 161 := Or.inl ⟨0, by decide +kernel, by decide +kernel, rfl⟩
theorem eL_courtText_161 : aIS cL_courtText 161 9 163 := Or.inr ⟨by decide +kernel, rfl⟩
theorem eL_courtText_163 : aIL cL_courtText 163 9 165 := Or.inr ⟨by decide +kernel, rfl⟩
theorem eL_courtText_165 : aPI cL_courtText 165 (nI 26) 167 := Or.inr (Or.inl ⟨26, by decide +kernel, by decide +kernel, rfl⟩)
theorem eL_courtText_167 : aIc_ge cL_courtText 167 170 181 := ⟨14, by decide +kernel, rfl, by decide⟩
theorem eL_courtText_170 : aAL cL_courtText 170 3 171 := Or.inl ⟨3, by decide +kernel, rfl, rfl⟩
theorem eL_courtText_171 : aIL cL_courtText 171 9 173 := Or.inr ⟨by decide +kernel, rfl⟩
theorem eL_courtText_173 : aPI cL_courtText 173 (nI 0) 174 := Or.inl ⟨0, by decide +kernel, by decide +kernel, rfl⟩
theorem eL_courtText_174 : aI1 cL_courtText 174 (.iastore) 175 := ⟨by decide +kernel, rfl⟩
theorem eL_courtText_175 : aII cL_courtText 175 9 (nI 1) 178 := ⟨1, by decide +kernel, by decide +kernel, rfl⟩
theorem eL_courtText_178 : aGo cL_courtText 178 163 := ⟨(-15), by decide +kernel, by decide⟩
theorem eL_courtText_181 : aAL cL_courtText 181 3 182 := Or.inl ⟨3, by decide +kernel, rfl, rfl⟩
theorem eL_courtText_182 : aPI cL_courtText 182 (nI 0) 183 := Or.inl ⟨0, by decide +kernel, by decide +kernel, rfl⟩
theorem eL_courtText_183 : aPI cL_courtText 183 (nI 1) 184 := Or.inl ⟨1, by decide +kernel, by decide +kernel, rfl⟩
theorem eL_courtText_184 : aIL cL_courtText 184 7 186 := Or.inr ⟨by decide +kernel, rfl⟩
theorem eL_courtText_186 : aPI cL_courtText 186 (nI 14) 188 := Or.inr (Or.inl ⟨14, by decide +kernel, by decide +kernel, rfl⟩)
theorem eL_courtText_188 : aI1 cL_courtText 188 (.ishr) 189 := ⟨by decide +kernel, rfl⟩
theorem eL_courtText_189 : aPI cL_courtText 189 (nI 10) 191 := Or.inr (Or.inl ⟨10, by decide +kernel, by decide +kernel, rfl⟩)
theorem eL_courtText_191 : aI3 cL_courtText 191 (.invokestatic 14) 194 := ⟨by decide +kernel, rfl⟩
theorem eL_courtText_194 : aI1 cL_courtText 194 (.iadd) 195 := ⟨by decide +kernel, rfl⟩
theorem eL_courtText_195 : aI1 cL_courtText 195 (.iastore) 196 := ⟨by decide +kernel, rfl⟩
theorem eL_courtText_196 : aPI cL_courtText 196 (nI 0) 197 := Or.inl ⟨0, by decide +kernel, by decide +kernel, rfl⟩
theorem eL_courtText_197 : aIS cL_courtText 197 9 199 := Or.inr ⟨by decide +kernel, rfl⟩
theorem eL_courtText_199 : aIL cL_courtText 199 9 201 := Or.inr ⟨by decide +kernel, rfl⟩
theorem eL_courtText_201 : aAL cL_courtText 201 3 202 := Or.inl ⟨3, by decide +kernel, rfl, rfl⟩
theorem eL_courtText_202 : aPI cL_courtText 202 (nI 0) 203 := Or.inl ⟨0, by decide +kernel, by decide +kernel, rfl⟩
theorem eL_courtText_203 : aI1 cL_courtText 203 (.iaload) 204 := ⟨by decide +kernel, rfl⟩
theorem eL_courtText_204 : aIc_ge cL_courtText 204 207 264 := ⟨60, by decide +kernel, rfl, by decide⟩
theorem eL_courtText_207 : aAL cL_courtText 207 3 208 := Or.inl ⟨3, by decide +kernel, rfl, rfl⟩
theorem eL_courtText_208 : aPI cL_courtText 208 (nI 1) 209 := Or.inl ⟨1, by decide +kernel, by decide +kernel, rfl⟩
theorem eL_courtText_209 : aIL cL_courtText 209 9 211 := Or.inr ⟨by decide +kernel, rfl⟩
theorem eL_courtText_211 : aI1 cL_courtText 211 (.iadd) 212 := ⟨by decide +kernel, rfl⟩
theorem eL_courtText_212 : aIL cL_courtText 212 8 214 := Or.inr ⟨by decide +kernel, rfl⟩
theorem eL_courtText_214 : aPI cL_courtText 214 (nI 2) 215 := Or.inl ⟨2, by decide +kernel, by decide +kernel, rfl⟩
theorem eL_courtText_215 : aIL cL_courtText 215 9 217 := Or.inr ⟨by decide +kernel, rfl⟩
theorem eL_courtText_217 : aI1 cL_courtText 217 (.imul) 218 := ⟨by decide +kernel, rfl⟩
theorem eL_courtText_218 : aI1 cL_courtText 218 (.ishr) 219 := ⟨by decide +kernel, rfl⟩
theorem eL_courtText_219 : aIL cL_courtText 219 7 221 := Or.inr ⟨by decide +kernel, rfl⟩
theorem eL_courtText_221 : aPI cL_courtText 221 (nI 20) 223 := Or.inr (Or.inl ⟨20, by decide +kernel, by decide +kernel, rfl⟩)
theorem eL_courtText_223 : aI1 cL_courtText 223 (.ishr) 224 := ⟨by decide +kernel, rfl⟩
theorem eL_courtText_224 : aPI cL_courtText 224 (nI 2) 225 := Or.inl ⟨2, by decide +kernel, by decide +kernel, rfl⟩
theorem eL_courtText_225 : aI3 cL_courtText 225 (.invokestatic 14) 228 := ⟨by decide +kernel, rfl⟩
theorem eL_courtText_228 : aIf_ne cL_courtText 228 231 236 := ⟨8, by decide +kernel, rfl, by decide⟩
theorem eL_courtText_231 : aPI cL_courtText 231 (nI 8) 233 := Or.inr (Or.inl ⟨8, by decide +kernel, by decide +kernel, rfl⟩)
theorem eL_courtText_233 : aGo cL_courtText 233 237 := ⟨4, by decide +kernel, by decide⟩
theorem eL_courtText_236 : aPI cL_courtText 236 (nI 4) 237 := Or.inl ⟨4, by decide +kernel, by decide +kernel, rfl⟩
theorem eL_courtText_237 : aI3 cL_courtText 237 (.invokestatic 14) 240 := ⟨by decide +kernel, rfl⟩
theorem eL_courtText_240 : aI1 cL_courtText 240 (.iastore) 241 := ⟨by decide +kernel, rfl⟩
theorem eL_courtText_241 : aAL cL_courtText 241 4 243 := Or.inr ⟨by decide +kernel, rfl⟩
theorem eL_courtText_243 : aIL cL_courtText 243 5 245 := Or.inr ⟨by decide +kernel, rfl⟩
theorem eL_courtText_245 : aII cL_courtText 245 5 (nI 1) 248 := ⟨1, by decide +kernel, by decide +kernel, rfl⟩
theorem eL_courtText_248 : aPI cL_courtText 248 (nI 97) 250 := Or.inr (Or.inl ⟨97, by decide +kernel, by decide +kernel, rfl⟩)
theorem eL_courtText_250 : aAL cL_courtText 250 3 251 := Or.inl ⟨3, by decide +kernel, rfl, rfl⟩
theorem eL_courtText_251 : aPI cL_courtText 251 (nI 1) 252 := Or.inl ⟨1, by decide +kernel, by decide +kernel, rfl⟩
theorem eL_courtText_252 : aIL cL_courtText 252 9 254 := Or.inr ⟨by decide +kernel, rfl⟩
theorem eL_courtText_254 : aI1 cL_courtText 254 (.iadd) 255 := ⟨by decide +kernel, rfl⟩
theorem eL_courtText_255 : aI1 cL_courtText 255 (.iaload) 256 := ⟨by decide +kernel, rfl⟩
theorem eL_courtText_256 : aI1 cL_courtText 256 (.iadd) 257 := ⟨by decide +kernel, rfl⟩
theorem eL_courtText_257 : aI1 cL_courtText 257 (.iastore) 258 := ⟨by decide +kernel, rfl⟩
theorem eL_courtText_258 : aII cL_courtText 258 9 (nI 1) 261 := ⟨1, by decide +kernel, by decide +kernel, rfl⟩
theorem eL_courtText_261 : aGo cL_courtText 261 199 := ⟨(-62), by decide +kernel, by decide⟩
theorem eL_courtText_264 : aAL cL_courtText 264 3 265 := Or.inl ⟨3, by decide +kernel, rfl, rfl⟩
theorem eL_courtText_265 : aPI cL_courtText 265 (nI 11) 267 := Or.inr (Or.inl ⟨11, by decide +kernel, by decide +kernel, rfl⟩)
theorem eL_courtText_267 : aPI cL_courtText 267 (nI 2) 268 := Or.inl ⟨2, by decide +kernel, by decide +kernel, rfl⟩
theorem eL_courtText_268 : aI1 cL_courtText 268 (.iastore) 269 := ⟨by decide +kernel, rfl⟩
theorem eL_courtText_269 : aIL cL_courtText 269 5 271 := Or.inr ⟨by decide +kernel, rfl⟩
theorem eL_courtText_271 : ∀ x : Int32, aRet cL_courtText (some .int) 271 (some (.int x)) := fun x => Or.inr (Or.inl ⟨x, _, rfl, rfl, rfl, by decide +kernel⟩)
theorem eL_write_0 : aPI cL_write 0 (nI 0) 1 := Or.inl ⟨0, by decide +kernel, by decide +kernel, rfl⟩
theorem eL_write_1 : aIS cL_write 1 3 2 := Or.inl ⟨3, by decide +kernel, rfl, rfl⟩
theorem eL_write_2 : aIL cL_write 2 3 3 := Or.inl ⟨3, by decide +kernel, rfl, rfl⟩
theorem eL_write_3 : aIL cL_write 3 2 4 := Or.inl ⟨2, by decide +kernel, rfl, rfl⟩
theorem eL_write_4 : aIc_ge cL_write 4 7 28 := ⟨24, by decide +kernel, rfl, by decide⟩
theorem eL_write_7 : aAL cL_write 7 0 8 := Or.inl ⟨0, by decide +kernel, rfl, rfl⟩
theorem eL_write_8 : aAL cL_write 8 1 9 := Or.inl ⟨1, by decide +kernel, rfl, rfl⟩
theorem eL_write_9 : aIL cL_write 9 3 10 := Or.inl ⟨3, by decide +kernel, rfl, rfl⟩
theorem eL_write_10 : aI1 cL_write 10 (.iaload) 11 := ⟨by decide +kernel, rfl⟩
theorem eL_write_11 : aI3 cL_write 11 (.invokevirtual 22) 14 := ⟨by decide +kernel, rfl⟩
theorem eL_write_14 : aIL cL_write 14 3 15 := Or.inl ⟨3, by decide +kernel, rfl, rfl⟩
theorem eL_write_15 : aPI cL_write 15 (nI 1) 16 := Or.inl ⟨1, by decide +kernel, by decide +kernel, rfl⟩
theorem eL_write_16 : aI1 cL_write 16 (.iadd) 17 := ⟨by decide +kernel, rfl⟩
theorem eL_write_17 : aIc_eq cL_write 17 20 22 := ⟨5, by decide +kernel, rfl, by decide⟩
theorem eL_write_20 : aPI cL_write 20 (nI 0) 21 := Or.inl ⟨0, by decide +kernel, by decide +kernel, rfl⟩
theorem eL_write_21 : ∀ x : Int32, (x = 0 ∨ x = 1) → aRet cL_write (some .boolean) 21 (some (.int x)) := fun x h => Or.inr (Or.inl ⟨x, _, rfl, rfl, by rcases h with rfl | rfl <;> decide +kernel, by decide +kernel⟩)
theorem eL_write_22 : aII cL_write 22 3 (nI 1) 25 := ⟨1, by decide +kernel, by decide +kernel, rfl⟩
theorem eL_write_25 : aGo cL_write 25 2 := ⟨(-23), by decide +kernel, by decide⟩
theorem eL_write_28 : aPI cL_write 28 (nI 1) 29 := Or.inl ⟨1, by decide +kernel, by decide +kernel, rfl⟩
theorem eL_write_29 : ∀ x : Int32, (x = 0 ∨ x = 1) → aRet cL_write (some .boolean) 29 (some (.int x)) := fun x h => Or.inr (Or.inl ⟨x, _, rfl, rfl, by rcases h with rfl | rfl <;> decide +kernel, by decide +kernel⟩)
theorem eL_in_0 : aIL cL_in 0 0 1 := Or.inl ⟨0, by decide +kernel, rfl, rfl⟩
theorem eL_in_1 : aIL cL_in 1 1 2 := Or.inl ⟨1, by decide +kernel, rfl, rfl⟩
theorem eL_in_2 : aI1 cL_in 2 (.ishr) 3 := ⟨by decide +kernel, rfl⟩
theorem eL_in_3 : aPI cL_in 3 (nI 1) 4 := Or.inl ⟨1, by decide +kernel, by decide +kernel, rfl⟩
theorem eL_in_4 : aI1 cL_in 4 (.iand) 5 := ⟨by decide +kernel, rfl⟩
theorem eL_in_5 : aPI cL_in 5 (nI 1) 6 := Or.inl ⟨1, by decide +kernel, by decide +kernel, rfl⟩
theorem eL_in_6 : aIc_ne cL_in 6 9 13 := ⟨7, by decide +kernel, rfl, by decide⟩
theorem eL_in_9 : aPI cL_in 9 (nI 1) 10 := Or.inl ⟨1, by decide +kernel, by decide +kernel, rfl⟩
theorem eL_in_10 : aGo cL_in 10 14 := ⟨4, by decide +kernel, by decide⟩
theorem eL_in_13 : aPI cL_in 13 (nI 0) 14 := Or.inl ⟨0, by decide +kernel, by decide +kernel, rfl⟩
theorem eL_in_14 : ∀ x : Int32, (x = 0 ∨ x = 1) → aRet cL_in (some .boolean) 14 (some (.int x)) := fun x h => Or.inr (Or.inl ⟨x, _, rfl, rfl, by rcases h with rfl | rfl <;> decide +kernel, by decide +kernel⟩)
theorem eL_size_0 : aPI cL_size 0 (nI 0) 1 := Or.inl ⟨0, by decide +kernel, by decide +kernel, rfl⟩
theorem eL_size_1 : aIS cL_size 1 1 2 := Or.inl ⟨1, by decide +kernel, rfl, rfl⟩
theorem eL_size_2 : aPI cL_size 2 (nI 0) 3 := Or.inl ⟨0, by decide +kernel, by decide +kernel, rfl⟩
theorem eL_size_3 : aIS cL_size 3 2 4 := Or.inl ⟨2, by decide +kernel, rfl, rfl⟩
theorem eL_size_4 : aIL cL_size 4 2 5 := Or.inl ⟨2, by decide +kernel, rfl, rfl⟩
theorem eL_size_5 : aPI cL_size 5 (nI 10) 7 := Or.inr (Or.inl ⟨10, by decide +kernel, by decide +kernel, rfl⟩)
theorem eL_size_7 : aIc_ge cL_size 7 10 24 := ⟨17, by decide +kernel, rfl, by decide⟩
theorem eL_size_10 : aIL cL_size 10 1 11 := Or.inl ⟨1, by decide +kernel, rfl, rfl⟩
theorem eL_size_11 : aIL cL_size 11 0 12 := Or.inl ⟨0, by decide +kernel, rfl, rfl⟩
theorem eL_size_12 : aIL cL_size 12 2 13 := Or.inl ⟨2, by decide +kernel, rfl, rfl⟩
theorem eL_size_13 : aI1 cL_size 13 (.ishr) 14 := ⟨by decide +kernel, rfl⟩
theorem eL_size_14 : aPI cL_size 14 (nI 1) 15 := Or.inl ⟨1, by decide +kernel, by decide +kernel, rfl⟩
theorem eL_size_15 : aI1 cL_size 15 (.iand) 16 := ⟨by decide +kernel, rfl⟩
theorem eL_size_16 : aI1 cL_size 16 (.iadd) 17 := ⟨by decide +kernel, rfl⟩
theorem eL_size_17 : aIS cL_size 17 1 18 := Or.inl ⟨1, by decide +kernel, rfl, rfl⟩
theorem eL_size_18 : aII cL_size 18 2 (nI 1) 21 := ⟨1, by decide +kernel, by decide +kernel, rfl⟩
theorem eL_size_21 : aGo cL_size 21 4 := ⟨(-17), by decide +kernel, by decide⟩
theorem eL_size_24 : aIL cL_size 24 1 25 := Or.inl ⟨1, by decide +kernel, rfl, rfl⟩
theorem eL_size_25 : ∀ x : Int32, aRet cL_size (some .int) 25 (some (.int x)) := fun x => Or.inr (Or.inl ⟨x, _, rfl, rfl, rfl, by decide +kernel⟩)
theorem eL_come_0 : aAL cL_come 0 1 1 := Or.inl ⟨1, by decide +kernel, rfl, rfl⟩
theorem eL_come_1 : aPI cL_come 1 (nI 12) 3 := Or.inr (Or.inl ⟨12, by decide +kernel, by decide +kernel, rfl⟩)
theorem eL_come_3 : aI1 cL_come 3 (.iaload) 4 := ⟨by decide +kernel, rfl⟩
theorem eL_come_4 : aIS cL_come 4 4 6 := Or.inr ⟨by decide +kernel, rfl⟩
theorem eL_come_6 : aIL cL_come 6 4 8 := Or.inr ⟨by decide +kernel, rfl⟩
theorem eL_come_8 : aPI cL_come 8 (nI 4) 9 := Or.inl ⟨4, by decide +kernel, by decide +kernel, rfl⟩
theorem eL_come_9 : aIc_ne cL_come 9 12 29 := ⟨20, by decide +kernel, rfl, by decide⟩
theorem eL_come_12 : aAL cL_come 12 0 13 := Or.inl ⟨0, by decide +kernel, rfl, rfl⟩
theorem eL_come_13 : aIL cL_come 13 2 14 := Or.inl ⟨2, by decide +kernel, rfl, rfl⟩
theorem eL_come_14 : aIL cL_come 14 3 15 := Or.inl ⟨3, by decide +kernel, rfl, rfl⟩
theorem eL_come_15 : aI3 cL_come 15 (.invokevirtual 28) 18 := ⟨by decide +kernel, rfl⟩
theorem eL_come_18 : aPI cL_come 18 (-104) 20 := Or.inr (Or.inl ⟨(-104), by decide +kernel, by decide +kernel, rfl⟩)
theorem eL_come_20 : aIc_ne cL_come 20 23 27 := ⟨7, by decide +kernel, rfl, by decide⟩
theorem eL_come_23 : aPI cL_come 23 (nI 1) 24 := Or.inl ⟨1, by decide +kernel, by decide +kernel, rfl⟩
theorem eL_come_24 : aGo cL_come 24 28 := ⟨4, by decide +kernel, by decide⟩
theorem eL_come_27 : aPI cL_come 27 (nI 0) 28 := Or.inl ⟨0, by decide +kernel, by decide +kernel, rfl⟩
theorem eL_come_28 : ∀ x : Int32, (x = 0 ∨ x = 1) → aRet cL_come (some .boolean) 28 (some (.int x)) := fun x h => Or.inr (Or.inl ⟨x, _, rfl, rfl, by rcases h with rfl | rfl <;> decide +kernel, by decide +kernel⟩)
theorem eL_come_29 : aAL cL_come 29 1 30 := Or.inl ⟨1, by decide +kernel, rfl, rfl⟩
theorem eL_come_30 : aPI cL_come 30 (nI 13) 32 := Or.inr (Or.inl ⟨13, by decide +kernel, by decide +kernel, rfl⟩)
theorem eL_come_32 : aIL cL_come 32 4 34 := Or.inr ⟨by decide +kernel, rfl⟩
theorem eL_come_34 : aI1 cL_come 34 (.iadd) 35 := ⟨by decide +kernel, rfl⟩
theorem eL_come_35 : aIL cL_come 35 2 36 := Or.inl ⟨2, by decide +kernel, rfl, rfl⟩
theorem eL_come_36 : aI1 cL_come 36 (.iastore) 37 := ⟨by decide +kernel, rfl⟩
theorem eL_come_37 : aAL cL_come 37 1 38 := Or.inl ⟨1, by decide +kernel, rfl, rfl⟩
theorem eL_come_38 : aPI cL_come 38 (nI 17) 40 := Or.inr (Or.inl ⟨17, by decide +kernel, by decide +kernel, rfl⟩)
theorem eL_come_40 : aIL cL_come 40 4 42 := Or.inr ⟨by decide +kernel, rfl⟩
theorem eL_come_42 : aI1 cL_come 42 (.iadd) 43 := ⟨by decide +kernel, rfl⟩
theorem eL_come_43 : aIL cL_come 43 3 44 := Or.inl ⟨3, by decide +kernel, rfl, rfl⟩
theorem eL_come_44 : aI1 cL_come 44 (.iastore) 45 := ⟨by decide +kernel, rfl⟩
theorem eL_come_45 : aAL cL_come 45 1 46 := Or.inl ⟨1, by decide +kernel, rfl, rfl⟩
theorem eL_come_46 : aPI cL_come 46 (nI 21) 48 := Or.inr (Or.inl ⟨21, by decide +kernel, by decide +kernel, rfl⟩)
theorem eL_come_48 : aIL cL_come 48 4 50 := Or.inr ⟨by decide +kernel, rfl⟩
theorem eL_come_50 : aI1 cL_come 50 (.iadd) 51 := ⟨by decide +kernel, rfl⟩
theorem eL_come_51 : aPI cL_come 51 (nI 0) 52 := Or.inl ⟨0, by decide +kernel, by decide +kernel, rfl⟩
theorem eL_come_52 : aI1 cL_come 52 (.iastore) 53 := ⟨by decide +kernel, rfl⟩
theorem eL_come_53 : aAL cL_come 53 1 54 := Or.inl ⟨1, by decide +kernel, rfl, rfl⟩
theorem eL_come_54 : aPI cL_come 54 (nI 12) 56 := Or.inr (Or.inl ⟨12, by decide +kernel, by decide +kernel, rfl⟩)
theorem eL_come_56 : aI1 cL_come 56 (.dup2) 57 := ⟨by decide +kernel, rfl⟩
theorem eL_come_57 : aI1 cL_come 57 (.iaload) 58 := ⟨by decide +kernel, rfl⟩
theorem eL_come_58 : aPI cL_come 58 (nI 1) 59 := Or.inl ⟨1, by decide +kernel, by decide +kernel, rfl⟩
theorem eL_come_59 : aI1 cL_come 59 (.iadd) 60 := ⟨by decide +kernel, rfl⟩
theorem eL_come_60 : aI1 cL_come 60 (.iastore) 61 := ⟨by decide +kernel, rfl⟩
theorem eL_come_61 : aAL cL_come 61 0 62 := Or.inl ⟨0, by decide +kernel, rfl, rfl⟩
theorem eL_come_62 : aIL cL_come 62 2 63 := Or.inl ⟨2, by decide +kernel, rfl, rfl⟩
theorem eL_come_63 : aIL cL_come 63 3 64 := Or.inl ⟨3, by decide +kernel, rfl, rfl⟩
theorem eL_come_64 : aI3 cL_come 64 (.invokevirtual 28) 67 := ⟨by decide +kernel, rfl⟩
theorem eL_come_67 : aIL cL_come 67 4 69 := Or.inr ⟨by decide +kernel, rfl⟩
theorem eL_come_69 : aIc_ne cL_come 69 72 76 := ⟨7, by decide +kernel, rfl, by decide⟩
theorem eL_come_72 : aPI cL_come 72 (nI 1) 73 := Or.inl ⟨1, by decide +kernel, by decide +kernel, rfl⟩
theorem eL_come_73 : aGo cL_come 73 77 := ⟨4, by decide +kernel, by decide⟩
theorem eL_come_76 : aPI cL_come 76 (nI 0) 77 := Or.inl ⟨0, by decide +kernel, by decide +kernel, rfl⟩
theorem eL_come_77 : ∀ x : Int32, (x = 0 ∨ x = 1) → aRet cL_come (some .boolean) 77 (some (.int x)) := fun x h => Or.inr (Or.inl ⟨x, _, rfl, rfl, by rcases h with rfl | rfl <;> decide +kernel, by decide +kernel⟩)
theorem eL_alters_0 : aPI cL_alters 0 (nI 0) 1 := Or.inl ⟨0, by decide +kernel, by decide +kernel, rfl⟩
theorem eL_alters_1 : aIS cL_alters 1 4 3 := Or.inr ⟨by decide +kernel, rfl⟩
theorem eL_alters_3 : aPI cL_alters 3 (nI 0) 4 := Or.inl ⟨0, by decide +kernel, by decide +kernel, rfl⟩
theorem eL_alters_4 : aIS cL_alters 4 5 6 := Or.inr ⟨by decide +kernel, rfl⟩
theorem eL_alters_6 : aPI cL_alters 6 (nI 0) 7 := Or.inl ⟨0, by decide +kernel, by decide +kernel, rfl⟩
theorem eL_alters_7 : aIS cL_alters 7 6 9 := Or.inr ⟨by decide +kernel, rfl⟩
theorem eL_alters_9 : aIL cL_alters 9 6 11 := Or.inr ⟨by decide +kernel, rfl⟩
theorem eL_alters_11 : aAL cL_alters 11 0 12 := Or.inl ⟨0, by decide +kernel, rfl, rfl⟩
theorem eL_alters_12 : aPI cL_alters 12 (nI 0) 13 := Or.inl ⟨0, by decide +kernel, by decide +kernel, rfl⟩
theorem eL_alters_13 : aI1 cL_alters 13 (.iaload) 14 := ⟨by decide +kernel, rfl⟩
theorem eL_alters_14 : aIc_ge cL_alters 14 17 150 := ⟨136, by decide +kernel, rfl, by decide⟩
theorem eL_alters_17 : aAL cL_alters 17 0 18 := Or.inl ⟨0, by decide +kernel, rfl, rfl⟩
theorem eL_alters_18 : aPI cL_alters 18 (nI 1) 19 := Or.inl ⟨1, by decide +kernel, by decide +kernel, rfl⟩
theorem eL_alters_19 : aIL cL_alters 19 6 21 := Or.inr ⟨by decide +kernel, rfl⟩
theorem eL_alters_21 : aI1 cL_alters 21 (.iadd) 22 := ⟨by decide +kernel, rfl⟩
theorem eL_alters_22 : aI1 cL_alters 22 (.iaload) 23 := ⟨by decide +kernel, rfl⟩
theorem eL_alters_23 : aIS cL_alters 23 7 25 := Or.inr ⟨by decide +kernel, rfl⟩
theorem eL_alters_25 : aIL cL_alters 25 2 26 := Or.inl ⟨2, by decide +kernel, rfl, rfl⟩
theorem eL_alters_26 : aIL cL_alters 26 7 28 := Or.inr ⟨by decide +kernel, rfl⟩
theorem eL_alters_28 : aI3 cL_alters 28 (.invokestatic 18) 31 := ⟨by decide +kernel, rfl⟩
theorem eL_alters_31 : aIS cL_alters 31 8 33 := Or.inr ⟨by decide +kernel, rfl⟩
theorem eL_alters_33 : aIL cL_alters 33 1 34 := Or.inl ⟨1, by decide +kernel, rfl, rfl⟩
theorem eL_alters_34 : aPI cL_alters 34 (nI 3) 35 := Or.inl ⟨3, by decide +kernel, by decide +kernel, rfl⟩
theorem eL_alters_35 : aIc_ne cL_alters 35 38 61 := ⟨26, by decide +kernel, rfl, by decide⟩
theorem eL_alters_38 : aIL cL_alters 38 6 40 := Or.inr ⟨by decide +kernel, rfl⟩
theorem eL_alters_40 : aIf_le cL_alters 40 43 58 := ⟨18, by decide +kernel, rfl, by decide⟩
theorem eL_alters_43 : aIL cL_alters 43 2 44 := Or.inl ⟨2, by decide +kernel, rfl, rfl⟩
theorem eL_alters_44 : aAL cL_alters 44 0 45 := Or.inl ⟨0, by decide +kernel, rfl, rfl⟩
theorem eL_alters_45 : aIL cL_alters 45 6 47 := Or.inr ⟨by decide +kernel, rfl⟩
theorem eL_alters_47 : aI1 cL_alters 47 (.iaload) 48 := ⟨by decide +kernel, rfl⟩
theorem eL_alters_48 : aI3 cL_alters 48 (.invokestatic 18) 51 := ⟨by decide +kernel, rfl⟩
theorem eL_alters_51 : aIf_eq cL_alters 51 54 58 := ⟨7, by decide +kernel, rfl, by decide⟩
theorem eL_alters_54 : aPI cL_alters 54 (nI 1) 55 := Or.inl ⟨1, by decide +kernel, by decide +kernel, rfl⟩
theorem eL_alters_55 : aGo cL_alters 55 59 := ⟨4, by decide +kernel, by decide⟩
theorem eL_alters_58 : aPI cL_alters 58 (nI 0) 59 := Or.inl ⟨0, by decide +kernel, by decide +kernel, rfl⟩
theorem eL_alters_59 : aIS cL_alters 59 8 61 := Or.inr ⟨by decide +kernel, rfl⟩
theorem eL_alters_61 : aIL cL_alters 61 1 62 := Or.inl ⟨1, by decide +kernel, rfl, rfl⟩
theorem eL_alters_62 : aPI cL_alters 62 (nI 2) 63 := Or.inl ⟨2, by decide +kernel, by decide +kernel, rfl⟩
theorem eL_alters_63 : aIc_ne cL_alters 63 66 79 := ⟨16, by decide +kernel, rfl, by decide⟩
theorem eL_alters_66 : aIL cL_alters 66 5 68 := Or.inr ⟨by decide +kernel, rfl⟩
theorem eL_alters_68 : aIL cL_alters 68 7 70 := Or.inr ⟨by decide +kernel, rfl⟩
theorem eL_alters_70 : aI3 cL_alters 70 (.invokestatic 18) 73 := ⟨by decide +kernel, rfl⟩
theorem eL_alters_73 : aIf_eq cL_alters 73 76 79 := ⟨6, by decide +kernel, rfl, by decide⟩
theorem eL_alters_76 : aPI cL_alters 76 (nI 0) 77 := Or.inl ⟨0, by decide +kernel, by decide +kernel, rfl⟩
theorem eL_alters_77 : aIS cL_alters 77 8 79 := Or.inr ⟨by decide +kernel, rfl⟩
theorem eL_alters_79 : aIL cL_alters 79 1 80 := Or.inl ⟨1, by decide +kernel, rfl, rfl⟩
theorem eL_alters_80 : aPI cL_alters 80 (nI 1) 81 := Or.inl ⟨1, by decide +kernel, by decide +kernel, rfl⟩
theorem eL_alters_81 : aIc_eq cL_alters 81 84 89 := ⟨8, by decide +kernel, rfl, by decide⟩
theorem eL_alters_84 : aIL cL_alters 84 1 85 := Or.inl ⟨1, by decide +kernel, rfl, rfl⟩
theorem eL_alters_85 : aPI cL_alters 85 (nI 4) 86 := Or.inl ⟨4, by decide +kernel, by decide +kernel, rfl⟩
theorem eL_alters_86 : aIc_ne cL_alters 86 89 97 := ⟨11, by decide +kernel, rfl, by decide⟩
theorem eL_alters_89 : aIL cL_alters 89 6 91 := Or.inr ⟨by decide +kernel, rfl⟩
theorem eL_alters_91 : aIf_ne cL_alters 91 94 97 := ⟨6, by decide +kernel, rfl, by decide⟩
theorem eL_alters_94 : aPI cL_alters 94 (nI 1) 95 := Or.inl ⟨1, by decide +kernel, by decide +kernel, rfl⟩
theorem eL_alters_95 : aIS cL_alters 95 8 97 := Or.inr ⟨by decide +kernel, rfl⟩
theorem eL_alters_97 : aIL cL_alters 97 1 98 := Or.inl ⟨1, by decide +kernel, rfl, rfl⟩
theorem eL_alters_98 : aPI cL_alters 98 (nI 4) 99 := Or.inl ⟨4, by decide +kernel, by decide +kernel, rfl⟩
theorem eL_alters_99 : aIc_ne cL_alters 99 102 112 := ⟨13, by decide +kernel, rfl, by decide⟩
theorem eL_alters_102 : aIL cL_alters 102 7 104 := Or.inr ⟨by decide +kernel, rfl⟩
theorem eL_alters_104 : aPI cL_alters 104 (nI 7) 106 := Or.inr (Or.inl ⟨7, by decide +kernel, by decide +kernel, rfl⟩)
theorem eL_alters_106 : aIc_ne cL_alters 106 109 112 := ⟨6, by decide +kernel, rfl, by decide⟩
theorem eL_alters_109 : aPI cL_alters 109 (nI 1) 110 := Or.inl ⟨1, by decide +kernel, by decide +kernel, rfl⟩
theorem eL_alters_110 : aIS cL_alters 110 8 112 := Or.inr ⟨by decide +kernel, rfl⟩
theorem eL_alters_112 : aIL cL_alters 112 5 114 := Or.inr ⟨by decide +kernel, rfl⟩
theorem eL_alters_114 : aPI cL_alters 114 (nI 1) 115 := Or.inl ⟨1, by decide +kernel, by decide +kernel, rfl⟩
theorem eL_alters_115 : aIL cL_alters 115 7 117 := Or.inr ⟨by decide +kernel, rfl⟩
theorem eL_alters_117 : aI1 cL_alters 117 (.ishl) 118 := ⟨by decide +kernel, rfl⟩
theorem eL_alters_118 : aI1 cL_alters 118 (.ior) 119 := ⟨by decide +kernel, rfl⟩
theorem eL_alters_119 : aIS cL_alters 119 5 121 := Or.inr ⟨by decide +kernel, rfl⟩
theorem eL_alters_121 : aIL cL_alters 121 8 123 := Or.inr ⟨by decide +kernel, rfl⟩
theorem eL_alters_123 : aIf_eq cL_alters 123 126 144 := ⟨21, by decide +kernel, rfl, by decide⟩
theorem eL_alters_126 : aIL cL_alters 126 3 127 := Or.inl ⟨3, by decide +kernel, rfl, rfl⟩
theorem eL_alters_127 : aIL cL_alters 127 7 129 := Or.inr ⟨by decide +kernel, rfl⟩
theorem eL_alters_129 : aI3 cL_alters 129 (.invokestatic 18) 132 := ⟨by decide +kernel, rfl⟩
theorem eL_alters_132 : aIf_ne cL_alters 132 135 144 := ⟨12, by decide +kernel, rfl, by decide⟩
theorem eL_alters_135 : aIL cL_alters 135 4 137 := Or.inr ⟨by decide +kernel, rfl⟩
theorem eL_alters_137 : aPI cL_alters 137 (nI 1) 138 := Or.inl ⟨1, by decide +kernel, by decide +kernel, rfl⟩
theorem eL_alters_138 : aIL cL_alters 138 6 140 := Or.inr ⟨by decide +kernel, rfl⟩
theorem eL_alters_140 : aI1 cL_alters 140 (.ishl) 141 := ⟨by decide +kernel, rfl⟩
theorem eL_alters_141 : aI1 cL_alters 141 (.ior) 142 := ⟨by decide +kernel, rfl⟩
theorem eL_alters_142 : aIS cL_alters 142 4 144 := Or.inr ⟨by decide +kernel, rfl⟩
theorem eL_alters_144 : aII cL_alters 144 6 (nI 1) 147 := ⟨1, by decide +kernel, by decide +kernel, rfl⟩
theorem eL_alters_147 : aGo cL_alters 147 9 := ⟨(-138), by decide +kernel, by decide⟩
theorem eL_alters_150 : aIL cL_alters 150 4 152 := Or.inr ⟨by decide +kernel, rfl⟩
theorem eL_alters_152 : ∀ x : Int32, aRet cL_alters (some .int) 152 (some (.int x)) := fun x => Or.inr (Or.inl ⟨x, _, rfl, rfl, rfl, by decide +kernel⟩)
theorem eL_now_0 : aAL cL_now 0 1 1 := Or.inl ⟨1, by decide +kernel, rfl, rfl⟩
theorem eL_now_1 : aAL cL_now 1 1 2 := Or.inl ⟨1, by decide +kernel, rfl, rfl⟩
theorem eL_now_2 : aPI cL_now 2 (nI 13) 4 := Or.inr (Or.inl ⟨13, by decide +kernel, by decide +kernel, rfl⟩)
theorem eL_now_4 : aIL cL_now 4 2 5 := Or.inl ⟨2, by decide +kernel, rfl, rfl⟩
theorem eL_now_5 : aI1 cL_now 5 (.iadd) 6 := ⟨by decide +kernel, rfl⟩
theorem eL_now_6 : aI1 cL_now 6 (.iaload) 7 := ⟨by decide +kernel, rfl⟩
theorem eL_now_7 : aAL cL_now 7 0 8 := Or.inl ⟨0, by decide +kernel, rfl, rfl⟩
theorem eL_now_8 : aAL cL_now 8 1 9 := Or.inl ⟨1, by decide +kernel, rfl, rfl⟩
theorem eL_now_9 : aPI cL_now 9 (nI 17) 11 := Or.inr (Or.inl ⟨17, by decide +kernel, by decide +kernel, rfl⟩)
theorem eL_now_11 : aIL cL_now 11 2 12 := Or.inl ⟨2, by decide +kernel, rfl, rfl⟩
theorem eL_now_12 : aI1 cL_now 12 (.iadd) 13 := ⟨by decide +kernel, rfl⟩
theorem eL_now_13 : aI1 cL_now 13 (.iaload) 14 := ⟨by decide +kernel, rfl⟩
theorem eL_now_14 : aI1 cL_now 14 (.iaload) 15 := ⟨by decide +kernel, rfl⟩
theorem eL_now_15 : aAL cL_now 15 1 16 := Or.inl ⟨1, by decide +kernel, rfl, rfl⟩
theorem eL_now_16 : aPI cL_now 16 (nI 21) 18 := Or.inr (Or.inl ⟨21, by decide +kernel, by decide +kernel, rfl⟩)
theorem eL_now_18 : aIL cL_now 18 2 19 := Or.inl ⟨2, by decide +kernel, rfl, rfl⟩
theorem eL_now_19 : aI1 cL_now 19 (.iadd) 20 := ⟨by decide +kernel, rfl⟩
theorem eL_now_20 : aI1 cL_now 20 (.iaload) 21 := ⟨by decide +kernel, rfl⟩
theorem eL_now_21 : aI3 cL_now 21 (.invokestatic 31) 24 := ⟨by decide +kernel, rfl⟩
theorem eL_now_24 : ∀ x : Int32, aRet cL_now (some .int) 24 (some (.int x)) := fun x => Or.inr (Or.inl ⟨x, _, rfl, rfl, rfl, by decide +kernel⟩)
theorem eL_over_0 : aPI cL_over 0 (nI 0) 1 := Or.inl ⟨0, by decide +kernel, by decide +kernel, rfl⟩
theorem eL_over_1 : aIS cL_over 1 2 2 := Or.inl ⟨2, by decide +kernel, rfl, rfl⟩
theorem eL_over_2 : aIL cL_over 2 2 3 := Or.inl ⟨2, by decide +kernel, rfl, rfl⟩
theorem eL_over_3 : aPI cL_over 3 (nI 26) 5 := Or.inr (Or.inl ⟨26, by decide +kernel, by decide +kernel, rfl⟩)
theorem eL_over_5 : aIc_ge cL_over 5 8 20 := ⟨15, by decide +kernel, rfl, by decide⟩
theorem eL_over_8 : aAL cL_over 8 0 9 := Or.inl ⟨0, by decide +kernel, rfl, rfl⟩
theorem eL_over_9 : aIL cL_over 9 2 10 := Or.inl ⟨2, by decide +kernel, rfl, rfl⟩
theorem eL_over_10 : aAL cL_over 10 1 11 := Or.inl ⟨1, by decide +kernel, rfl, rfl⟩
theorem eL_over_11 : aIL cL_over 11 2 12 := Or.inl ⟨2, by decide +kernel, rfl, rfl⟩
theorem eL_over_12 : aI1 cL_over 12 (.iaload) 13 := ⟨by decide +kernel, rfl⟩
theorem eL_over_13 : aI1 cL_over 13 (.iastore) 14 := ⟨by decide +kernel, rfl⟩
theorem eL_over_14 : aII cL_over 14 2 (nI 1) 17 := ⟨1, by decide +kernel, by decide +kernel, rfl⟩
theorem eL_over_17 : aGo cL_over 17 2 := ⟨(-15), by decide +kernel, by decide⟩
theorem eL_over_20 : aRet cL_over none 20 none := Or.inl ⟨rfl, rfl, by decide +kernel⟩
theorem eL_stands_0 : aPI cL_stands 0 (nI 0) 1 := Or.inl ⟨0, by decide +kernel, by decide +kernel, rfl⟩
theorem eL_stands_1 : aIS cL_stands 1 3 2 := Or.inl ⟨3, by decide +kernel, rfl, rfl⟩
theorem eL_stands_2 : aPI cL_stands 2 (nI 0) 3 := Or.inl ⟨0, by decide +kernel, by decide +kernel, rfl⟩
theorem eL_stands_3 : aIS cL_stands 3 4 5 := Or.inr ⟨by decide +kernel, rfl⟩
theorem eL_stands_5 : aPI cL_stands 5 (nI 0) 6 := Or.inl ⟨0, by decide +kernel, by decide +kernel, rfl⟩
theorem eL_stands_6 : aIS cL_stands 6 5 8 := Or.inr ⟨by decide +kernel, rfl⟩
theorem eL_stands_8 : aIL cL_stands 8 5 10 := Or.inr ⟨by decide +kernel, rfl⟩
theorem eL_stands_10 : aPI cL_stands 10 (nI 5) 11 := Or.inl ⟨5, by decide +kernel, by decide +kernel, rfl⟩
theorem eL_stands_11 : aIc_ge cL_stands 11 14 35 := ⟨24, by decide +kernel, rfl, by decide⟩
theorem eL_stands_14 : aAL cL_stands 14 0 15 := Or.inl ⟨0, by decide +kernel, rfl, rfl⟩
theorem eL_stands_15 : aIL cL_stands 15 5 17 := Or.inr ⟨by decide +kernel, rfl⟩
theorem eL_stands_17 : aI3 cL_stands 17 (.invokevirtual 35) 20 := ⟨by decide +kernel, rfl⟩
theorem eL_stands_20 : aAL cL_stands 20 1 21 := Or.inl ⟨1, by decide +kernel, rfl, rfl⟩
theorem eL_stands_21 : aIL cL_stands 21 5 23 := Or.inr ⟨by decide +kernel, rfl⟩
theorem eL_stands_23 : aI1 cL_stands 23 (.iaload) 24 := ⟨by decide +kernel, rfl⟩
theorem eL_stands_24 : aIc_eq cL_stands 24 27 29 := ⟨5, by decide +kernel, rfl, by decide⟩
theorem eL_stands_27 : aPI cL_stands 27 (nI 0) 28 := Or.inl ⟨0, by decide +kernel, by decide +kernel, rfl⟩
theorem eL_stands_28 : ∀ x : Int32, (x = 0 ∨ x = 1) → aRet cL_stands (some .boolean) 28 (some (.int x)) := fun x h => Or.inr (Or.inl ⟨x, _, rfl, rfl, by rcases h with rfl | rfl <;> decide +kernel, by decide +kernel⟩)
theorem eL_stands_29 : aII cL_stands 29 5 (nI 1) 32 := ⟨1, by decide +kernel, by decide +kernel, rfl⟩
theorem eL_stands_32 : aGo cL_stands 32 8 := ⟨(-24), by decide +kernel, by decide⟩
theorem eL_stands_35 : aPI cL_stands 35 (nI 0) 36 := Or.inl ⟨0, by decide +kernel, by decide +kernel, rfl⟩
theorem eL_stands_36 : aIS cL_stands 36 5 38 := Or.inr ⟨by decide +kernel, rfl⟩
theorem eL_stands_38 : aIL cL_stands 38 5 40 := Or.inr ⟨by decide +kernel, rfl⟩
theorem eL_stands_40 : aAL cL_stands 40 2 41 := Or.inl ⟨2, by decide +kernel, rfl, rfl⟩
theorem eL_stands_41 : aPI cL_stands 41 (nI 0) 42 := Or.inl ⟨0, by decide +kernel, by decide +kernel, rfl⟩
theorem eL_stands_42 : aI1 cL_stands 42 (.iaload) 43 := ⟨by decide +kernel, rfl⟩
theorem eL_stands_43 : aIc_ge cL_stands 43 46 82 := ⟨39, by decide +kernel, rfl, by decide⟩
theorem eL_stands_46 : aAL cL_stands 46 0 47 := Or.inl ⟨0, by decide +kernel, rfl, rfl⟩
theorem eL_stands_47 : aIL cL_stands 47 5 49 := Or.inr ⟨by decide +kernel, rfl⟩
theorem eL_stands_49 : aI3 cL_stands 49 (.invokevirtual 38) 52 := ⟨by decide +kernel, rfl⟩
theorem eL_stands_52 : aAL cL_stands 52 2 53 := Or.inl ⟨2, by decide +kernel, rfl, rfl⟩
theorem eL_stands_53 : aPI cL_stands 53 (nI 1) 54 := Or.inl ⟨1, by decide +kernel, by decide +kernel, rfl⟩
theorem eL_stands_54 : aIL cL_stands 54 5 56 := Or.inr ⟨by decide +kernel, rfl⟩
theorem eL_stands_56 : aI1 cL_stands 56 (.iadd) 57 := ⟨by decide +kernel, rfl⟩
theorem eL_stands_57 : aI1 cL_stands 57 (.iaload) 58 := ⟨by decide +kernel, rfl⟩
theorem eL_stands_58 : aIc_eq cL_stands 58 61 63 := ⟨5, by decide +kernel, rfl, by decide⟩
theorem eL_stands_61 : aPI cL_stands 61 (nI 0) 62 := Or.inl ⟨0, by decide +kernel, by decide +kernel, rfl⟩
theorem eL_stands_62 : ∀ x : Int32, (x = 0 ∨ x = 1) → aRet cL_stands (some .boolean) 62 (some (.int x)) := fun x h => Or.inr (Or.inl ⟨x, _, rfl, rfl, by rcases h with rfl | rfl <;> decide +kernel, by decide +kernel⟩)
theorem eL_stands_63 : aIL cL_stands 63 4 65 := Or.inr ⟨by decide +kernel, rfl⟩
theorem eL_stands_65 : aPI cL_stands 65 (nI 1) 66 := Or.inl ⟨1, by decide +kernel, by decide +kernel, rfl⟩
theorem eL_stands_66 : aAL cL_stands 66 2 67 := Or.inl ⟨2, by decide +kernel, rfl, rfl⟩
theorem eL_stands_67 : aPI cL_stands 67 (nI 1) 68 := Or.inl ⟨1, by decide +kernel, by decide +kernel, rfl⟩
theorem eL_stands_68 : aIL cL_stands 68 5 70 := Or.inr ⟨by decide +kernel, rfl⟩
theorem eL_stands_70 : aI1 cL_stands 70 (.iadd) 71 := ⟨by decide +kernel, rfl⟩
theorem eL_stands_71 : aI1 cL_stands 71 (.iaload) 72 := ⟨by decide +kernel, rfl⟩
theorem eL_stands_72 : aI1 cL_stands 72 (.ishl) 73 := ⟨by decide +kernel, rfl⟩
theorem eL_stands_73 : aI1 cL_stands 73 (.ior) 74 := ⟨by decide +kernel, rfl⟩
theorem eL_stands_74 : aIS cL_stands 74 4 76 := Or.inr ⟨by decide +kernel, rfl⟩
theorem eL_stands_76 : aII cL_stands 76 5 (nI 1) 79 := ⟨1, by decide +kernel, by decide +kernel, rfl⟩
theorem eL_stands_79 : aGo cL_stands 79 38 := ⟨(-41), by decide +kernel, by decide⟩
theorem eL_stands_82 : aPI cL_stands 82 (nI 0) 83 := Or.inl ⟨0, by decide +kernel, by decide +kernel, rfl⟩
theorem eL_stands_83 : aIS cL_stands 83 5 85 := Or.inr ⟨by decide +kernel, rfl⟩
theorem eL_stands_85 : aIL cL_stands 85 5 87 := Or.inr ⟨by decide +kernel, rfl⟩
theorem eL_stands_87 : aAL cL_stands 87 2 88 := Or.inl ⟨2, by decide +kernel, rfl, rfl⟩
theorem eL_stands_88 : aPI cL_stands 88 (nI 12) 90 := Or.inr (Or.inl ⟨12, by decide +kernel, by decide +kernel, rfl⟩)
theorem eL_stands_90 : aI1 cL_stands 90 (.iaload) 91 := ⟨by decide +kernel, rfl⟩
theorem eL_stands_91 : aIc_ge cL_stands 91 94 225 := ⟨134, by decide +kernel, rfl, by decide⟩
theorem eL_stands_94 : aAL cL_stands 94 1 95 := Or.inl ⟨1, by decide +kernel, rfl, rfl⟩
theorem eL_stands_95 : aAL cL_stands 95 2 96 := Or.inl ⟨2, by decide +kernel, rfl, rfl⟩
theorem eL_stands_96 : aIL cL_stands 96 5 98 := Or.inr ⟨by decide +kernel, rfl⟩
theorem eL_stands_98 : aI3 cL_stands 98 (.invokestatic 41) 101 := ⟨by decide +kernel, rfl⟩
theorem eL_stands_101 : aIS cL_stands 101 6 103 := Or.inr ⟨by decide +kernel, rfl⟩
theorem eL_stands_103 : aIL cL_stands 103 6 105 := Or.inr ⟨by decide +kernel, rfl⟩
theorem eL_stands_105 : aI3 cL_stands 105 (.invokestatic 45) 108 := ⟨by decide +kernel, rfl⟩
theorem eL_stands_108 : aAL cL_stands 108 2 109 := Or.inl ⟨2, by decide +kernel, rfl, rfl⟩
theorem eL_stands_109 : aPI cL_stands 109 (nI 11) 111 := Or.inr (Or.inl ⟨11, by decide +kernel, by decide +kernel, rfl⟩)
theorem eL_stands_111 : aI1 cL_stands 111 (.iaload) 112 := ⟨by decide +kernel, rfl⟩
theorem eL_stands_112 : aIc_lt cL_stands 112 115 119 := ⟨7, by decide +kernel, rfl, by decide⟩
theorem eL_stands_115 : aPI cL_stands 115 (nI 1) 116 := Or.inl ⟨1, by decide +kernel, by decide +kernel, rfl⟩
theorem eL_stands_116 : aGo cL_stands 116 120 := ⟨4, by decide +kernel, by decide⟩
theorem eL_stands_119 : aPI cL_stands 119 (nI 0) 120 := Or.inl ⟨0, by decide +kernel, by decide +kernel, rfl⟩
theorem eL_stands_120 : aIS cL_stands 120 7 122 := Or.inr ⟨by decide +kernel, rfl⟩
theorem eL_stands_122 : aAL cL_stands 122 0 123 := Or.inl ⟨0, by decide +kernel, rfl, rfl⟩
theorem eL_stands_123 : aIL cL_stands 123 5 125 := Or.inr ⟨by decide +kernel, rfl⟩
theorem eL_stands_125 : aPI cL_stands 125 (nI 0) 126 := Or.inl ⟨0, by decide +kernel, by decide +kernel, rfl⟩
theorem eL_stands_126 : aI3 cL_stands 126 (.invokevirtual 48) 129 := ⟨by decide +kernel, rfl⟩
theorem eL_stands_129 : aAL cL_stands 129 2 130 := Or.inl ⟨2, by decide +kernel, rfl, rfl⟩
theorem eL_stands_130 : aPI cL_stands 130 (nI 13) 132 := Or.inr (Or.inl ⟨13, by decide +kernel, by decide +kernel, rfl⟩)
theorem eL_stands_132 : aIL cL_stands 132 5 134 := Or.inr ⟨by decide +kernel, rfl⟩
theorem eL_stands_134 : aI1 cL_stands 134 (.iadd) 135 := ⟨by decide +kernel, rfl⟩
theorem eL_stands_135 : aI1 cL_stands 135 (.iaload) 136 := ⟨by decide +kernel, rfl⟩
theorem eL_stands_136 : aIc_ne cL_stands 136 139 212 := ⟨76, by decide +kernel, rfl, by decide⟩
theorem eL_stands_139 : aAL cL_stands 139 0 140 := Or.inl ⟨0, by decide +kernel, rfl, rfl⟩
theorem eL_stands_140 : aIL cL_stands 140 5 142 := Or.inr ⟨by decide +kernel, rfl⟩
theorem eL_stands_142 : aPI cL_stands 142 (nI 1) 143 := Or.inl ⟨1, by decide +kernel, by decide +kernel, rfl⟩
theorem eL_stands_143 : aI3 cL_stands 143 (.invokevirtual 48) 146 := ⟨by decide +kernel, rfl⟩
theorem eL_stands_146 : aAL cL_stands 146 2 147 := Or.inl ⟨2, by decide +kernel, rfl, rfl⟩
theorem eL_stands_147 : aPI cL_stands 147 (nI 17) 149 := Or.inr (Or.inl ⟨17, by decide +kernel, by decide +kernel, rfl⟩)
theorem eL_stands_149 : aIL cL_stands 149 5 151 := Or.inr ⟨by decide +kernel, rfl⟩
theorem eL_stands_151 : aI1 cL_stands 151 (.iadd) 152 := ⟨by decide +kernel, rfl⟩
theorem eL_stands_152 : aI1 cL_stands 152 (.iaload) 153 := ⟨by decide +kernel, rfl⟩
theorem eL_stands_153 : aIc_ne cL_stands 153 156 212 := ⟨59, by decide +kernel, rfl, by decide⟩
theorem eL_stands_156 : aAL cL_stands 156 0 157 := Or.inl ⟨0, by decide +kernel, rfl, rfl⟩
theorem eL_stands_157 : aIL cL_stands 157 5 159 := Or.inr ⟨by decide +kernel, rfl⟩
theorem eL_stands_159 : aPI cL_stands 159 (nI 2) 160 := Or.inl ⟨2, by decide +kernel, by decide +kernel, rfl⟩
theorem eL_stands_160 : aI3 cL_stands 160 (.invokevirtual 48) 163 := ⟨by decide +kernel, rfl⟩
theorem eL_stands_163 : aIL cL_stands 163 6 165 := Or.inr ⟨by decide +kernel, rfl⟩
theorem eL_stands_165 : aIc_ne cL_stands 165 168 212 := ⟨47, by decide +kernel, rfl, by decide⟩
theorem eL_stands_168 : aAL cL_stands 168 0 169 := Or.inl ⟨0, by decide +kernel, rfl, rfl⟩
theorem eL_stands_169 : aIL cL_stands 169 5 171 := Or.inr ⟨by decide +kernel, rfl⟩
theorem eL_stands_171 : aPI cL_stands 171 (nI 3) 172 := Or.inl ⟨3, by decide +kernel, by decide +kernel, rfl⟩
theorem eL_stands_172 : aI3 cL_stands 172 (.invokevirtual 48) 175 := ⟨by decide +kernel, rfl⟩
theorem eL_stands_175 : aIL cL_stands 175 6 177 := Or.inr ⟨by decide +kernel, rfl⟩
theorem eL_stands_177 : aI3 cL_stands 177 (.invokestatic 45) 180 := ⟨by decide +kernel, rfl⟩
theorem eL_stands_180 : aIc_ne cL_stands 180 183 212 := ⟨32, by decide +kernel, rfl, by decide⟩
theorem eL_stands_183 : aAL cL_stands 183 0 184 := Or.inl ⟨0, by decide +kernel, rfl, rfl⟩
theorem eL_stands_184 : aIL cL_stands 184 5 186 := Or.inr ⟨by decide +kernel, rfl⟩
theorem eL_stands_186 : aPI cL_stands 186 (nI 4) 187 := Or.inl ⟨4, by decide +kernel, by decide +kernel, rfl⟩
theorem eL_stands_187 : aI3 cL_stands 187 (.invokevirtual 48) 190 := ⟨by decide +kernel, rfl⟩
theorem eL_stands_190 : aIL cL_stands 190 7 192 := Or.inr ⟨by decide +kernel, rfl⟩
theorem eL_stands_192 : aIc_ne cL_stands 192 195 212 := ⟨20, by decide +kernel, rfl, by decide⟩
theorem eL_stands_195 : aAL cL_stands 195 0 196 := Or.inl ⟨0, by decide +kernel, rfl, rfl⟩
theorem eL_stands_196 : aIL cL_stands 196 5 198 := Or.inr ⟨by decide +kernel, rfl⟩
theorem eL_stands_198 : aPI cL_stands 198 (nI 5) 199 := Or.inl ⟨5, by decide +kernel, by decide +kernel, rfl⟩
theorem eL_stands_199 : aI3 cL_stands 199 (.invokevirtual 48) 202 := ⟨by decide +kernel, rfl⟩
theorem eL_stands_202 : aAL cL_stands 202 2 203 := Or.inl ⟨2, by decide +kernel, rfl, rfl⟩
theorem eL_stands_203 : aPI cL_stands 203 (nI 21) 205 := Or.inr (Or.inl ⟨21, by decide +kernel, by decide +kernel, rfl⟩)
theorem eL_stands_205 : aIL cL_stands 205 5 207 := Or.inr ⟨by decide +kernel, rfl⟩
theorem eL_stands_207 : aI1 cL_stands 207 (.iadd) 208 := ⟨by decide +kernel, rfl⟩
theorem eL_stands_208 : aI1 cL_stands 208 (.iaload) 209 := ⟨by decide +kernel, rfl⟩
theorem eL_stands_209 : aIc_eq cL_stands 209 212 214 := ⟨5, by decide +kernel, rfl, by decide⟩
theorem eL_stands_212 : aPI cL_stands 212 (nI 0) 213 := Or.inl ⟨0, by decide +kernel, by decide +kernel, rfl⟩
theorem eL_stands_213 : ∀ x : Int32, (x = 0 ∨ x = 1) → aRet cL_stands (some .boolean) 213 (some (.int x)) := fun x h => Or.inr (Or.inl ⟨x, _, rfl, rfl, by rcases h with rfl | rfl <;> decide +kernel, by decide +kernel⟩)
theorem eL_stands_214 : aIL cL_stands 214 3 215 := Or.inl ⟨3, by decide +kernel, rfl, rfl⟩
theorem eL_stands_215 : aIL cL_stands 215 7 217 := Or.inr ⟨by decide +kernel, rfl⟩
theorem eL_stands_217 : aI1 cL_stands 217 (.iadd) 218 := ⟨by decide +kernel, rfl⟩
theorem eL_stands_218 : aIS cL_stands 218 3 219 := Or.inl ⟨3, by decide +kernel, rfl, rfl⟩
theorem eL_stands_219 : aII cL_stands 219 5 (nI 1) 222 := ⟨1, by decide +kernel, by decide +kernel, rfl⟩
theorem eL_stands_222 : aGo cL_stands 222 85 := ⟨(-137), by decide +kernel, by decide⟩
theorem eL_stands_225 : aAL cL_stands 225 0 226 := Or.inl ⟨0, by decide +kernel, rfl, rfl⟩
theorem eL_stands_226 : aPI cL_stands 226 (nI 0) 227 := Or.inl ⟨0, by decide +kernel, by decide +kernel, rfl⟩
theorem eL_stands_227 : aI3 cL_stands 227 (.invokevirtual 51) 230 := ⟨by decide +kernel, rfl⟩
theorem eL_stands_230 : aAL cL_stands 230 2 231 := Or.inl ⟨2, by decide +kernel, rfl, rfl⟩
theorem eL_stands_231 : aPI cL_stands 231 (nI 0) 232 := Or.inl ⟨0, by decide +kernel, by decide +kernel, rfl⟩
theorem eL_stands_232 : aI1 cL_stands 232 (.iaload) 233 := ⟨by decide +kernel, rfl⟩
theorem eL_stands_233 : aIc_ne cL_stands 233 236 298 := ⟨65, by decide +kernel, rfl, by decide⟩
theorem eL_stands_236 : aAL cL_stands 236 0 237 := Or.inl ⟨0, by decide +kernel, rfl, rfl⟩
theorem eL_stands_237 : aPI cL_stands 237 (nI 1) 238 := Or.inl ⟨1, by decide +kernel, by decide +kernel, rfl⟩
theorem eL_stands_238 : aI3 cL_stands 238 (.invokevirtual 51) 241 := ⟨by decide +kernel, rfl⟩
theorem eL_stands_241 : aAL cL_stands 241 2 242 := Or.inl ⟨2, by decide +kernel, rfl, rfl⟩
theorem eL_stands_242 : aPI cL_stands 242 (nI 11) 244 := Or.inr (Or.inl ⟨11, by decide +kernel, by decide +kernel, rfl⟩)
theorem eL_stands_244 : aI1 cL_stands 244 (.iaload) 245 := ⟨by decide +kernel, rfl⟩
theorem eL_stands_245 : aIc_ne cL_stands 245 248 298 := ⟨53, by decide +kernel, rfl, by decide⟩
theorem eL_stands_248 : aAL cL_stands 248 0 249 := Or.inl ⟨0, by decide +kernel, rfl, rfl⟩
theorem eL_stands_249 : aPI cL_stands 249 (nI 2) 250 := Or.inl ⟨2, by decide +kernel, by decide +kernel, rfl⟩
theorem eL_stands_250 : aI3 cL_stands 250 (.invokevirtual 51) 253 := ⟨by decide +kernel, rfl⟩
theorem eL_stands_253 : aAL cL_stands 253 2 254 := Or.inl ⟨2, by decide +kernel, rfl, rfl⟩
theorem eL_stands_254 : aPI cL_stands 254 (nI 12) 256 := Or.inr (Or.inl ⟨12, by decide +kernel, by decide +kernel, rfl⟩)
theorem eL_stands_256 : aI1 cL_stands 256 (.iaload) 257 := ⟨by decide +kernel, rfl⟩
theorem eL_stands_257 : aIc_ne cL_stands 257 260 298 := ⟨41, by decide +kernel, rfl, by decide⟩
theorem eL_stands_260 : aAL cL_stands 260 0 261 := Or.inl ⟨0, by decide +kernel, rfl, rfl⟩
theorem eL_stands_261 : aPI cL_stands 261 (nI 3) 262 := Or.inl ⟨3, by decide +kernel, by decide +kernel, rfl⟩
theorem eL_stands_262 : aI3 cL_stands 262 (.invokevirtual 51) 265 := ⟨by decide +kernel, rfl⟩
theorem eL_stands_265 : aIL cL_stands 265 3 266 := Or.inl ⟨3, by decide +kernel, rfl, rfl⟩
theorem eL_stands_266 : aIc_ne cL_stands 266 269 298 := ⟨32, by decide +kernel, rfl, by decide⟩
theorem eL_stands_269 : aAL cL_stands 269 0 270 := Or.inl ⟨0, by decide +kernel, rfl, rfl⟩
theorem eL_stands_270 : aPI cL_stands 270 (nI 4) 271 := Or.inl ⟨4, by decide +kernel, by decide +kernel, rfl⟩
theorem eL_stands_271 : aI3 cL_stands 271 (.invokevirtual 51) 274 := ⟨by decide +kernel, rfl⟩
theorem eL_stands_274 : aIL cL_stands 274 4 276 := Or.inr ⟨by decide +kernel, rfl⟩
theorem eL_stands_276 : aI3 cL_stands 276 (.invokestatic 45) 279 := ⟨by decide +kernel, rfl⟩
theorem eL_stands_279 : aIc_ne cL_stands 279 282 298 := ⟨19, by decide +kernel, rfl, by decide⟩
theorem eL_stands_282 : aAL cL_stands 282 0 283 := Or.inl ⟨0, by decide +kernel, rfl, rfl⟩
theorem eL_stands_283 : aPI cL_stands 283 (nI 5) 284 := Or.inl ⟨5, by decide +kernel, by decide +kernel, rfl⟩
theorem eL_stands_284 : aI3 cL_stands 284 (.invokevirtual 51) 287 := ⟨by decide +kernel, rfl⟩
theorem eL_stands_287 : aAL cL_stands 287 2 288 := Or.inl ⟨2, by decide +kernel, rfl, rfl⟩
theorem eL_stands_288 : aPI cL_stands 288 (nI 25) 290 := Or.inr (Or.inl ⟨25, by decide +kernel, by decide +kernel, rfl⟩)
theorem eL_stands_290 : aI1 cL_stands 290 (.iaload) 291 := ⟨by decide +kernel, rfl⟩
theorem eL_stands_291 : aIc_ne cL_stands 291 294 298 := ⟨7, by decide +kernel, rfl, by decide⟩
theorem eL_stands_294 : aPI cL_stands 294 (nI 1) 295 := Or.inl ⟨1, by decide +kernel, by decide +kernel, rfl⟩
theorem eL_stands_295 : aGo cL_stands 295 299 := ⟨4, by decide +kernel, by decide⟩
theorem eL_stands_298 : aPI cL_stands 298 (nI 0) 299 := Or.inl ⟨0, by decide +kernel, by decide +kernel, rfl⟩
theorem eL_stands_299 : ∀ x : Int32, (x = 0 ∨ x = 1) → aRet cL_stands (some .boolean) 299 (some (.int x)) := fun x h => Or.inr (Or.inl ⟨x, _, rfl, rfl, by rcases h with rfl | rfl <;> decide +kernel, by decide +kernel⟩)
theorem eL_does_0 : aIL cL_does 0 2 1 := Or.inl ⟨2, by decide +kernel, rfl, rfl⟩
theorem eL_does_1 : aPI cL_does 1 (nI 12) 3 := Or.inr (Or.inl ⟨12, by decide +kernel, by decide +kernel, rfl⟩)
theorem eL_does_3 : aI3 cL_does 3 (.invokestatic 14) 6 := ⟨by decide +kernel, rfl⟩
theorem eL_does_6 : aIS cL_does 6 3 7 := Or.inl ⟨3, by decide +kernel, rfl, rfl⟩
theorem eL_does_7 : aIL cL_does 7 3 8 := Or.inl ⟨3, by decide +kernel, rfl, rfl⟩
theorem eL_does_8 : aPI cL_does 8 (nI 5) 9 := Or.inl ⟨5, by decide +kernel, by decide +kernel, rfl⟩
theorem eL_does_9 : aIc_lt cL_does 9 12 25 := ⟨16, by decide +kernel, rfl, by decide⟩
theorem eL_does_12 : aAL cL_does 12 1 13 := Or.inl ⟨1, by decide +kernel, rfl, rfl⟩
theorem eL_does_13 : aPI cL_does 13 (nI 12) 15 := Or.inr (Or.inl ⟨12, by decide +kernel, by decide +kernel, rfl⟩)
theorem eL_does_15 : aI1 cL_does 15 (.iaload) 16 := ⟨by decide +kernel, rfl⟩
theorem eL_does_16 : aIf_ne cL_does 16 19 90 := ⟨74, by decide +kernel, rfl, by decide⟩
theorem eL_does_19 : aIL cL_does 19 3 20 := Or.inl ⟨3, by decide +kernel, rfl, rfl⟩
theorem eL_does_20 : aPI cL_does 20 (nI 6) 22 := Or.inr (Or.inl ⟨6, by decide +kernel, by decide +kernel, rfl⟩)
theorem eL_does_22 : aIc_le cL_does 22 25 90 := ⟨68, by decide +kernel, rfl, by decide⟩
theorem eL_does_25 : aIL cL_does 25 2 26 := Or.inl ⟨2, by decide +kernel, rfl, rfl⟩
theorem eL_does_26 : aPI cL_does 26 (nI 4) 27 := Or.inl ⟨4, by decide +kernel, by decide +kernel, rfl⟩
theorem eL_does_27 : aI1 cL_does 27 (.ishr) 28 := ⟨by decide +kernel, rfl⟩
theorem eL_does_28 : aAL cL_does 28 1 29 := Or.inl ⟨1, by decide +kernel, rfl, rfl⟩
theorem eL_does_29 : aPI cL_does 29 (nI 0) 30 := Or.inl ⟨0, by decide +kernel, by decide +kernel, rfl⟩
theorem eL_does_30 : aI1 cL_does 30 (.iaload) 31 := ⟨by decide +kernel, rfl⟩
theorem eL_does_31 : aI3 cL_does 31 (.invokestatic 14) 34 := ⟨by decide +kernel, rfl⟩
theorem eL_does_34 : aIS cL_does 34 4 36 := Or.inr ⟨by decide +kernel, rfl⟩
theorem eL_does_36 : aAL cL_does 36 1 37 := Or.inl ⟨1, by decide +kernel, rfl, rfl⟩
theorem eL_does_37 : aPI cL_does 37 (nI 1) 38 := Or.inl ⟨1, by decide +kernel, by decide +kernel, rfl⟩
theorem eL_does_38 : aIL cL_does 38 4 40 := Or.inr ⟨by decide +kernel, rfl⟩
theorem eL_does_40 : aI1 cL_does 40 (.iadd) 41 := ⟨by decide +kernel, rfl⟩
theorem eL_does_41 : aI1 cL_does 41 (.iaload) 42 := ⟨by decide +kernel, rfl⟩
theorem eL_does_42 : aIS cL_does 42 5 44 := Or.inr ⟨by decide +kernel, rfl⟩
theorem eL_does_44 : aAL cL_does 44 1 45 := Or.inl ⟨1, by decide +kernel, rfl, rfl⟩
theorem eL_does_45 : aPI cL_does 45 (nI 1) 46 := Or.inl ⟨1, by decide +kernel, by decide +kernel, rfl⟩
theorem eL_does_46 : aIL cL_does 46 4 48 := Or.inr ⟨by decide +kernel, rfl⟩
theorem eL_does_48 : aI1 cL_does 48 (.iadd) 49 := ⟨by decide +kernel, rfl⟩
theorem eL_does_49 : aIL cL_does 49 2 50 := Or.inl ⟨2, by decide +kernel, rfl, rfl⟩
theorem eL_does_50 : aPI cL_does 50 (nI 8) 52 := Or.inr (Or.inl ⟨8, by decide +kernel, by decide +kernel, rfl⟩)
theorem eL_does_52 : aI1 cL_does 52 (.ishr) 53 := ⟨by decide +kernel, rfl⟩
theorem eL_does_53 : aPI cL_does 53 (nI 8) 55 := Or.inr (Or.inl ⟨8, by decide +kernel, by decide +kernel, rfl⟩)
theorem eL_does_55 : aI3 cL_does 55 (.invokestatic 14) 58 := ⟨by decide +kernel, rfl⟩
theorem eL_does_58 : aI1 cL_does 58 (.iastore) 59 := ⟨by decide +kernel, rfl⟩
theorem eL_does_59 : aAL cL_does 59 1 60 := Or.inl ⟨1, by decide +kernel, rfl, rfl⟩
theorem eL_does_60 : aPI cL_does 60 (nI 25) 62 := Or.inr (Or.inl ⟨25, by decide +kernel, by decide +kernel, rfl⟩)
theorem eL_does_62 : aI1 cL_does 62 (.dup2) 63 := ⟨by decide +kernel, rfl⟩
theorem eL_does_63 : aI1 cL_does 63 (.iaload) 64 := ⟨by decide +kernel, rfl⟩
theorem eL_does_64 : aPI cL_does 64 (nI 1) 65 := Or.inl ⟨1, by decide +kernel, by decide +kernel, rfl⟩
theorem eL_does_65 : aI1 cL_does 65 (.iadd) 66 := ⟨by decide +kernel, rfl⟩
theorem eL_does_66 : aI1 cL_does 66 (.iastore) 67 := ⟨by decide +kernel, rfl⟩
theorem eL_does_67 : aAL cL_does 67 0 68 := Or.inl ⟨0, by decide +kernel, rfl, rfl⟩
theorem eL_does_68 : aIL cL_does 68 4 70 := Or.inr ⟨by decide +kernel, rfl⟩
theorem eL_does_70 : aAL cL_does 70 1 71 := Or.inl ⟨1, by decide +kernel, rfl, rfl⟩
theorem eL_does_71 : aPI cL_does 71 (nI 1) 72 := Or.inl ⟨1, by decide +kernel, by decide +kernel, rfl⟩
theorem eL_does_72 : aIL cL_does 72 4 74 := Or.inr ⟨by decide +kernel, rfl⟩
theorem eL_does_74 : aI1 cL_does 74 (.iadd) 75 := ⟨by decide +kernel, rfl⟩
theorem eL_does_75 : aI1 cL_does 75 (.iaload) 76 := ⟨by decide +kernel, rfl⟩
theorem eL_does_76 : aI3 cL_does 76 (.invokevirtual 54) 79 := ⟨by decide +kernel, rfl⟩
theorem eL_does_79 : aIL cL_does 79 5 81 := Or.inr ⟨by decide +kernel, rfl⟩
theorem eL_does_81 : aIc_ne cL_does 81 84 88 := ⟨7, by decide +kernel, rfl, by decide⟩
theorem eL_does_84 : aPI cL_does 84 (nI 1) 85 := Or.inl ⟨1, by decide +kernel, by decide +kernel, rfl⟩
theorem eL_does_85 : aGo cL_does 85 89 := ⟨4, by decide +kernel, by decide⟩
theorem eL_does_88 : aPI cL_does 88 (nI 0) 89 := Or.inl ⟨0, by decide +kernel, by decide +kernel, rfl⟩
theorem eL_does_89 : ∀ x : Int32, (x = 0 ∨ x = 1) → aRet cL_does (some .boolean) 89 (some (.int x)) := fun x h => Or.inr (Or.inl ⟨x, _, rfl, rfl, by rcases h with rfl | rfl <;> decide +kernel, by decide +kernel⟩)
theorem eL_does_90 : aIL cL_does 90 3 91 := Or.inl ⟨3, by decide +kernel, rfl, rfl⟩
theorem eL_does_91 : aPI cL_does 91 (nI 5) 92 := Or.inl ⟨5, by decide +kernel, by decide +kernel, rfl⟩
theorem eL_does_92 : aIc_ne cL_does 92 95 157 := ⟨65, by decide +kernel, rfl, by decide⟩
theorem eL_does_95 : aAL cL_does 95 1 96 := Or.inl ⟨1, by decide +kernel, rfl, rfl⟩
theorem eL_does_96 : aPI cL_does 96 (nI 11) 98 := Or.inr (Or.inl ⟨11, by decide +kernel, by decide +kernel, rfl⟩)
theorem eL_does_98 : aI1 cL_does 98 (.iaload) 99 := ⟨by decide +kernel, rfl⟩
theorem eL_does_99 : aIS cL_does 99 4 101 := Or.inr ⟨by decide +kernel, rfl⟩
theorem eL_does_101 : aAL cL_does 101 1 102 := Or.inl ⟨1, by decide +kernel, rfl, rfl⟩
theorem eL_does_102 : aPI cL_does 102 (nI 11) 104 := Or.inr (Or.inl ⟨11, by decide +kernel, by decide +kernel, rfl⟩)
theorem eL_does_104 : aPI cL_does 104 (nI 1) 105 := Or.inl ⟨1, by decide +kernel, by decide +kernel, rfl⟩
theorem eL_does_105 : aIL cL_does 105 2 106 := Or.inl ⟨2, by decide +kernel, rfl, rfl⟩
theorem eL_does_106 : aPI cL_does 106 (nI 4) 107 := Or.inl ⟨4, by decide +kernel, by decide +kernel, rfl⟩
theorem eL_does_107 : aI1 cL_does 107 (.ishr) 108 := ⟨by decide +kernel, rfl⟩
theorem eL_does_108 : aIL cL_does 108 2 109 := Or.inl ⟨2, by decide +kernel, rfl, rfl⟩
theorem eL_does_109 : aPI cL_does 109 (nI 9) 111 := Or.inr (Or.inl ⟨9, by decide +kernel, by decide +kernel, rfl⟩)
theorem eL_does_111 : aI1 cL_does 111 (.ishr) 112 := ⟨by decide +kernel, rfl⟩
theorem eL_does_112 : aPI cL_does 112 (nI 2) 113 := Or.inl ⟨2, by decide +kernel, by decide +kernel, rfl⟩
theorem eL_does_113 : aI3 cL_does 113 (.invokestatic 14) 116 := ⟨by decide +kernel, rfl⟩
theorem eL_does_116 : aIf_ne cL_does 116 119 124 := ⟨8, by decide +kernel, rfl, by decide⟩
theorem eL_does_119 : aPI cL_does 119 (nI 10) 121 := Or.inr (Or.inl ⟨10, by decide +kernel, by decide +kernel, rfl⟩)
theorem eL_does_121 : aGo cL_does 121 125 := ⟨4, by decide +kernel, by decide⟩
theorem eL_does_124 : aPI cL_does 124 (nI 4) 125 := Or.inl ⟨4, by decide +kernel, by decide +kernel, rfl⟩
theorem eL_does_125 : aI3 cL_does 125 (.invokestatic 14) 128 := ⟨by decide +kernel, rfl⟩
theorem eL_does_128 : aI1 cL_does 128 (.iadd) 129 := ⟨by decide +kernel, rfl⟩
theorem eL_does_129 : aI1 cL_does 129 (.iastore) 130 := ⟨by decide +kernel, rfl⟩
theorem eL_does_130 : aAL cL_does 130 1 131 := Or.inl ⟨1, by decide +kernel, rfl, rfl⟩
theorem eL_does_131 : aPI cL_does 131 (nI 25) 133 := Or.inr (Or.inl ⟨25, by decide +kernel, by decide +kernel, rfl⟩)
theorem eL_does_133 : aI1 cL_does 133 (.dup2) 134 := ⟨by decide +kernel, rfl⟩
theorem eL_does_134 : aI1 cL_does 134 (.iaload) 135 := ⟨by decide +kernel, rfl⟩
theorem eL_does_135 : aPI cL_does 135 (nI 1) 136 := Or.inl ⟨1, by decide +kernel, by decide +kernel, rfl⟩
theorem eL_does_136 : aI1 cL_does 136 (.iadd) 137 := ⟨by decide +kernel, rfl⟩
theorem eL_does_137 : aI1 cL_does 137 (.iastore) 138 := ⟨by decide +kernel, rfl⟩
theorem eL_does_138 : aAL cL_does 138 0 139 := Or.inl ⟨0, by decide +kernel, rfl, rfl⟩
theorem eL_does_139 : aAL cL_does 139 1 140 := Or.inl ⟨1, by decide +kernel, rfl, rfl⟩
theorem eL_does_140 : aPI cL_does 140 (nI 11) 142 := Or.inr (Or.inl ⟨11, by decide +kernel, by decide +kernel, rfl⟩)
theorem eL_does_142 : aI1 cL_does 142 (.iaload) 143 := ⟨by decide +kernel, rfl⟩
theorem eL_does_143 : aI3 cL_does 143 (.invokevirtual 57) 146 := ⟨by decide +kernel, rfl⟩
theorem eL_does_146 : aIL cL_does 146 4 148 := Or.inr ⟨by decide +kernel, rfl⟩
theorem eL_does_148 : aIc_ne cL_does 148 151 155 := ⟨7, by decide +kernel, rfl, by decide⟩
theorem eL_does_151 : aPI cL_does 151 (nI 1) 152 := Or.inl ⟨1, by decide +kernel, by decide +kernel, rfl⟩
theorem eL_does_152 : aGo cL_does 152 156 := ⟨4, by decide +kernel, by decide⟩
theorem eL_does_155 : aPI cL_does 155 (nI 0) 156 := Or.inl ⟨0, by decide +kernel, by decide +kernel, rfl⟩
theorem eL_does_156 : ∀ x : Int32, (x = 0 ∨ x = 1) → aRet cL_does (some .boolean) 156 (some (.int x)) := fun x h => Or.inr (Or.inl ⟨x, _, rfl, rfl, by rcases h with rfl | rfl <;> decide +kernel, by decide +kernel⟩)
theorem eL_does_157 : aIL cL_does 157 3 158 := Or.inl ⟨3, by decide +kernel, rfl, rfl⟩
theorem eL_does_158 : aPI cL_does 158 (nI 6) 160 := Or.inr (Or.inl ⟨6, by decide +kernel, by decide +kernel, rfl⟩)
theorem eL_does_160 : aIc_ne cL_does 160 163 184 := ⟨24, by decide +kernel, rfl, by decide⟩
theorem eL_does_163 : aAL cL_does 163 0 164 := Or.inl ⟨0, by decide +kernel, rfl, rfl⟩
theorem eL_does_164 : aAL cL_does 164 1 165 := Or.inl ⟨1, by decide +kernel, rfl, rfl⟩
theorem eL_does_165 : aIL cL_does 165 2 166 := Or.inl ⟨2, by decide +kernel, rfl, rfl⟩
theorem eL_does_166 : aPI cL_does 166 (nI 4) 167 := Or.inl ⟨4, by decide +kernel, by decide +kernel, rfl⟩
theorem eL_does_167 : aI1 cL_does 167 (.ishr) 168 := ⟨by decide +kernel, rfl⟩
theorem eL_does_168 : aPI cL_does 168 (nI 5) 169 := Or.inl ⟨5, by decide +kernel, by decide +kernel, rfl⟩
theorem eL_does_169 : aI3 cL_does 169 (.invokestatic 14) 172 := ⟨by decide +kernel, rfl⟩
theorem eL_does_172 : aIL cL_does 172 2 173 := Or.inl ⟨2, by decide +kernel, rfl, rfl⟩
theorem eL_does_173 : aPI cL_does 173 (nI 8) 175 := Or.inr (Or.inl ⟨8, by decide +kernel, by decide +kernel, rfl⟩)
theorem eL_does_175 : aI1 cL_does 175 (.ishr) 176 := ⟨by decide +kernel, rfl⟩
theorem eL_does_176 : aPI cL_does 176 (nI 5) 177 := Or.inl ⟨5, by decide +kernel, by decide +kernel, rfl⟩
theorem eL_does_177 : aI3 cL_does 177 (.invokestatic 14) 180 := ⟨by decide +kernel, rfl⟩
theorem eL_does_180 : aI3 cL_does 180 (.invokestatic 60) 183 := ⟨by decide +kernel, rfl⟩
theorem eL_does_183 : ∀ x : Int32, (x = 0 ∨ x = 1) → aRet cL_does (some .boolean) 183 (some (.int x)) := fun x h => Or.inr (Or.inl ⟨x, _, rfl, rfl, by rcases h with rfl | rfl <;> decide +kernel, by decide +kernel⟩)
theorem eL_does_184 : aIL cL_does 184 2 185 := Or.inl ⟨2, by decide +kernel, rfl, rfl⟩
theorem eL_does_185 : aPI cL_does 185 (nI 4) 186 := Or.inl ⟨4, by decide +kernel, by decide +kernel, rfl⟩
theorem eL_does_186 : aI1 cL_does 186 (.ishr) 187 := ⟨by decide +kernel, rfl⟩
theorem eL_does_187 : aAL cL_does 187 1 188 := Or.inl ⟨1, by decide +kernel, rfl, rfl⟩
theorem eL_does_188 : aPI cL_does 188 (nI 12) 190 := Or.inr (Or.inl ⟨12, by decide +kernel, by decide +kernel, rfl⟩)
theorem eL_does_190 : aI1 cL_does 190 (.iaload) 191 := ⟨by decide +kernel, rfl⟩
theorem eL_does_191 : aI3 cL_does 191 (.invokestatic 14) 194 := ⟨by decide +kernel, rfl⟩
theorem eL_does_194 : aIS cL_does 194 4 196 := Or.inr ⟨by decide +kernel, rfl⟩
theorem eL_does_196 : aIL cL_does 196 3 197 := Or.inl ⟨3, by decide +kernel, rfl, rfl⟩
theorem eL_does_197 : aPI cL_does 197 (nI 11) 199 := Or.inr (Or.inl ⟨11, by decide +kernel, by decide +kernel, rfl⟩)
theorem eL_does_199 : aIc_ge cL_does 199 202 296 := ⟨97, by decide +kernel, rfl, by decide⟩
theorem eL_does_202 : aIL cL_does 202 2 203 := Or.inl ⟨2, by decide +kernel, rfl, rfl⟩
theorem eL_does_203 : aPI cL_does 203 (nI 8) 205 := Or.inr (Or.inl ⟨8, by decide +kernel, by decide +kernel, rfl⟩)
theorem eL_does_205 : aI1 cL_does 205 (.ishr) 206 := ⟨by decide +kernel, rfl⟩
theorem eL_does_206 : aPI cL_does 206 (nI 8) 208 := Or.inr (Or.inl ⟨8, by decide +kernel, by decide +kernel, rfl⟩)
theorem eL_does_208 : aI3 cL_does 208 (.invokestatic 14) 211 := ⟨by decide +kernel, rfl⟩
theorem eL_does_211 : aIS cL_does 211 5 213 := Or.inr ⟨by decide +kernel, rfl⟩
theorem eL_does_213 : aAL cL_does 213 1 214 := Or.inl ⟨1, by decide +kernel, rfl, rfl⟩
theorem eL_does_214 : aPI cL_does 214 (nI 21) 216 := Or.inr (Or.inl ⟨21, by decide +kernel, by decide +kernel, rfl⟩)
theorem eL_does_216 : aIL cL_does 216 4 218 := Or.inr ⟨by decide +kernel, rfl⟩
theorem eL_does_218 : aI1 cL_does 218 (.iadd) 219 := ⟨by decide +kernel, rfl⟩
theorem eL_does_219 : aI1 cL_does 219 (.iaload) 220 := ⟨by decide +kernel, rfl⟩
theorem eL_does_220 : aIL cL_does 220 5 222 := Or.inr ⟨by decide +kernel, rfl⟩
theorem eL_does_222 : aI3 cL_does 222 (.invokestatic 18) 225 := ⟨by decide +kernel, rfl⟩
theorem eL_does_225 : aIf_eq cL_does 225 228 247 := ⟨22, by decide +kernel, rfl, by decide⟩
theorem eL_does_228 : aAL cL_does 228 0 229 := Or.inl ⟨0, by decide +kernel, rfl, rfl⟩
theorem eL_does_229 : aIL cL_does 229 4 231 := Or.inr ⟨by decide +kernel, rfl⟩
theorem eL_does_231 : aIL cL_does 231 5 233 := Or.inr ⟨by decide +kernel, rfl⟩
theorem eL_does_233 : aI3 cL_does 233 (.invokevirtual 64) 236 := ⟨by decide +kernel, rfl⟩
theorem eL_does_236 : aPI cL_does 236 (-103) 238 := Or.inr (Or.inl ⟨(-103), by decide +kernel, by decide +kernel, rfl⟩)
theorem eL_does_238 : aIc_ne cL_does 238 241 245 := ⟨7, by decide +kernel, rfl, by decide⟩
theorem eL_does_241 : aPI cL_does 241 (nI 1) 242 := Or.inl ⟨1, by decide +kernel, by decide +kernel, rfl⟩
theorem eL_does_242 : aGo cL_does 242 246 := ⟨4, by decide +kernel, by decide⟩
theorem eL_does_245 : aPI cL_does 245 (nI 0) 246 := Or.inl ⟨0, by decide +kernel, by decide +kernel, rfl⟩
theorem eL_does_246 : ∀ x : Int32, (x = 0 ∨ x = 1) → aRet cL_does (some .boolean) 246 (some (.int x)) := fun x h => Or.inr (Or.inl ⟨x, _, rfl, rfl, by rcases h with rfl | rfl <;> decide +kernel, by decide +kernel⟩)
theorem eL_does_247 : aAL cL_does 247 1 248 := Or.inl ⟨1, by decide +kernel, rfl, rfl⟩
theorem eL_does_248 : aPI cL_does 248 (nI 21) 250 := Or.inr (Or.inl ⟨21, by decide +kernel, by decide +kernel, rfl⟩)
theorem eL_does_250 : aIL cL_does 250 4 252 := Or.inr ⟨by decide +kernel, rfl⟩
theorem eL_does_252 : aI1 cL_does 252 (.iadd) 253 := ⟨by decide +kernel, rfl⟩
theorem eL_does_253 : aI1 cL_does 253 (.dup2) 254 := ⟨by decide +kernel, rfl⟩
theorem eL_does_254 : aI1 cL_does 254 (.iaload) 255 := ⟨by decide +kernel, rfl⟩
theorem eL_does_255 : aPI cL_does 255 (nI 1) 256 := Or.inl ⟨1, by decide +kernel, by decide +kernel, rfl⟩
theorem eL_does_256 : aIL cL_does 256 5 258 := Or.inr ⟨by decide +kernel, rfl⟩
theorem eL_does_258 : aI1 cL_does 258 (.ishl) 259 := ⟨by decide +kernel, rfl⟩
theorem eL_does_259 : aI1 cL_does 259 (.ior) 260 := ⟨by decide +kernel, rfl⟩
theorem eL_does_260 : aI1 cL_does 260 (.iastore) 261 := ⟨by decide +kernel, rfl⟩
theorem eL_does_261 : aAL cL_does 261 1 262 := Or.inl ⟨1, by decide +kernel, rfl, rfl⟩
theorem eL_does_262 : aPI cL_does 262 (nI 25) 264 := Or.inr (Or.inl ⟨25, by decide +kernel, by decide +kernel, rfl⟩)
theorem eL_does_264 : aI1 cL_does 264 (.dup2) 265 := ⟨by decide +kernel, rfl⟩
theorem eL_does_265 : aI1 cL_does 265 (.iaload) 266 := ⟨by decide +kernel, rfl⟩
theorem eL_does_266 : aPI cL_does 266 (nI 1) 267 := Or.inl ⟨1, by decide +kernel, by decide +kernel, rfl⟩
theorem eL_does_267 : aI1 cL_does 267 (.iadd) 268 := ⟨by decide +kernel, rfl⟩
theorem eL_does_268 : aI1 cL_does 268 (.iastore) 269 := ⟨by decide +kernel, rfl⟩
theorem eL_does_269 : aAL cL_does 269 0 270 := Or.inl ⟨0, by decide +kernel, rfl, rfl⟩
theorem eL_does_270 : aIL cL_does 270 4 272 := Or.inr ⟨by decide +kernel, rfl⟩
theorem eL_does_272 : aIL cL_does 272 5 274 := Or.inr ⟨by decide +kernel, rfl⟩
theorem eL_does_274 : aI3 cL_does 274 (.invokevirtual 64) 277 := ⟨by decide +kernel, rfl⟩
theorem eL_does_277 : aAL cL_does 277 1 278 := Or.inl ⟨1, by decide +kernel, rfl, rfl⟩
theorem eL_does_278 : aPI cL_does 278 (nI 21) 280 := Or.inr (Or.inl ⟨21, by decide +kernel, by decide +kernel, rfl⟩)
theorem eL_does_280 : aIL cL_does 280 4 282 := Or.inr ⟨by decide +kernel, rfl⟩
theorem eL_does_282 : aI1 cL_does 282 (.iadd) 283 := ⟨by decide +kernel, rfl⟩
theorem eL_does_283 : aI1 cL_does 283 (.iaload) 284 := ⟨by decide +kernel, rfl⟩
theorem eL_does_284 : aI3 cL_does 284 (.invokestatic 45) 287 := ⟨by decide +kernel, rfl⟩
theorem eL_does_287 : aIc_ne cL_does 287 290 294 := ⟨7, by decide +kernel, rfl, by decide⟩
theorem eL_does_290 : aPI cL_does 290 (nI 1) 291 := Or.inl ⟨1, by decide +kernel, by decide +kernel, rfl⟩
theorem eL_does_291 : aGo cL_does 291 295 := ⟨4, by decide +kernel, by decide⟩
theorem eL_does_294 : aPI cL_does 294 (nI 0) 295 := Or.inl ⟨0, by decide +kernel, by decide +kernel, rfl⟩
theorem eL_does_295 : ∀ x : Int32, (x = 0 ∨ x = 1) → aRet cL_does (some .boolean) 295 (some (.int x)) := fun x h => Or.inr (Or.inl ⟨x, _, rfl, rfl, by rcases h with rfl | rfl <;> decide +kernel, by decide +kernel⟩)
theorem eL_does_296 : aAL cL_does 296 1 297 := Or.inl ⟨1, by decide +kernel, rfl, rfl⟩
theorem eL_does_297 : aPI cL_does 297 (nI 21) 299 := Or.inr (Or.inl ⟨21, by decide +kernel, by decide +kernel, rfl⟩)
theorem eL_does_299 : aIL cL_does 299 4 301 := Or.inr ⟨by decide +kernel, rfl⟩
theorem eL_does_301 : aI1 cL_does 301 (.iadd) 302 := ⟨by decide +kernel, rfl⟩
theorem eL_does_302 : aI1 cL_does 302 (.iaload) 303 := ⟨by decide +kernel, rfl⟩
theorem eL_does_303 : aI3 cL_does 303 (.invokestatic 45) 306 := ⟨by decide +kernel, rfl⟩
theorem eL_does_306 : aIS cL_does 306 5 308 := Or.inr ⟨by decide +kernel, rfl⟩
theorem eL_does_308 : aAL cL_does 308 1 309 := Or.inl ⟨1, by decide +kernel, rfl, rfl⟩
theorem eL_does_309 : aPI cL_does 309 (nI 21) 311 := Or.inr (Or.inl ⟨21, by decide +kernel, by decide +kernel, rfl⟩)
theorem eL_does_311 : aIL cL_does 311 4 313 := Or.inr ⟨by decide +kernel, rfl⟩
theorem eL_does_313 : aI1 cL_does 313 (.iadd) 314 := ⟨by decide +kernel, rfl⟩
theorem eL_does_314 : aPI cL_does 314 (nI 0) 315 := Or.inl ⟨0, by decide +kernel, by decide +kernel, rfl⟩
theorem eL_does_315 : aI1 cL_does 315 (.iastore) 316 := ⟨by decide +kernel, rfl⟩
theorem eL_does_316 : aAL cL_does 316 1 317 := Or.inl ⟨1, by decide +kernel, rfl, rfl⟩
theorem eL_does_317 : aPI cL_does 317 (nI 25) 319 := Or.inr (Or.inl ⟨25, by decide +kernel, by decide +kernel, rfl⟩)
theorem eL_does_319 : aI1 cL_does 319 (.dup2) 320 := ⟨by decide +kernel, rfl⟩
theorem eL_does_320 : aI1 cL_does 320 (.iaload) 321 := ⟨by decide +kernel, rfl⟩
theorem eL_does_321 : aPI cL_does 321 (nI 1) 322 := Or.inl ⟨1, by decide +kernel, by decide +kernel, rfl⟩
theorem eL_does_322 : aI1 cL_does 322 (.iadd) 323 := ⟨by decide +kernel, rfl⟩
theorem eL_does_323 : aI1 cL_does 323 (.iastore) 324 := ⟨by decide +kernel, rfl⟩
theorem eL_does_324 : aAL cL_does 324 0 325 := Or.inl ⟨0, by decide +kernel, rfl, rfl⟩
theorem eL_does_325 : aIL cL_does 325 4 327 := Or.inr ⟨by decide +kernel, rfl⟩
theorem eL_does_327 : aI3 cL_does 327 (.invokevirtual 67) 330 := ⟨by decide +kernel, rfl⟩
theorem eL_does_330 : aIL cL_does 330 5 332 := Or.inr ⟨by decide +kernel, rfl⟩
theorem eL_does_332 : aIc_ne cL_does 332 335 339 := ⟨7, by decide +kernel, rfl, by decide⟩
theorem eL_does_335 : aPI cL_does 335 (nI 1) 336 := Or.inl ⟨1, by decide +kernel, by decide +kernel, rfl⟩
theorem eL_does_336 : aGo cL_does 336 340 := ⟨4, by decide +kernel, by decide⟩
theorem eL_does_339 : aPI cL_does 339 (nI 0) 340 := Or.inl ⟨0, by decide +kernel, by decide +kernel, rfl⟩
theorem eL_does_340 : ∀ x : Int32, (x = 0 ∨ x = 1) → aRet cL_does (some .boolean) 340 (some (.int x)) := fun x h => Or.inr (Or.inl ⟨x, _, rfl, rfl, by rcases h with rfl | rfl <;> decide +kernel, by decide +kernel⟩)
theorem eL_law_0 : aI3 cL_law 0 (.new 23) 3 := ⟨by decide +kernel, rfl⟩
theorem eL_law_3 : aI1 cL_law 3 (.dup) 4 := ⟨by decide +kernel, rfl⟩
theorem eL_law_4 : aI3 cL_law 4 (.invokespecial 70) 7 := ⟨by decide +kernel, rfl⟩
theorem eL_law_7 : aAS cL_law 7 1 8 := Or.inl ⟨1, by decide +kernel, rfl, rfl⟩
theorem eL_law_8 : aPI cL_law 8 (nI 5) 9 := Or.inl ⟨5, by decide +kernel, by decide +kernel, rfl⟩
theorem eL_law_9 : aI2 cL_law 9 (.newarray .int) 11 := ⟨by decide +kernel, rfl⟩
theorem eL_law_11 : aAS cL_law 11 2 12 := Or.inl ⟨2, by decide +kernel, rfl, rfl⟩
theorem eL_law_12 : aPI cL_law 12 (nI 26) 14 := Or.inr (Or.inl ⟨26, by decide +kernel, by decide +kernel, rfl⟩)
theorem eL_law_14 : aI2 cL_law 14 (.newarray .int) 16 := ⟨by decide +kernel, rfl⟩
theorem eL_law_16 : aAS cL_law 16 3 17 := Or.inl ⟨3, by decide +kernel, rfl, rfl⟩
theorem eL_law_17 : aPI cL_law 17 (nI 28) 19 := Or.inr (Or.inl ⟨28, by decide +kernel, by decide +kernel, rfl⟩)
theorem eL_law_19 : aI2 cL_law 19 (.newarray .int) 21 := ⟨by decide +kernel, rfl⟩
theorem eL_law_21 : aAS cL_law 21 4 23 := Or.inr ⟨by decide +kernel, rfl⟩
theorem eL_law_23 : aAL cL_law 23 0 24 := Or.inl ⟨0, by decide +kernel, rfl, rfl⟩
theorem eL_law_24 : aPI cL_law 24 (nI 0) 25 := Or.inl ⟨0, by decide +kernel, by decide +kernel, rfl⟩
theorem eL_law_25 : aAL cL_law 25 2 26 := Or.inl ⟨2, by decide +kernel, rfl, rfl⟩
theorem eL_law_26 : aAL cL_law 26 3 27 := Or.inl ⟨3, by decide +kernel, rfl, rfl⟩
theorem eL_law_27 : aAL cL_law 27 4 29 := Or.inr ⟨by decide +kernel, rfl⟩
theorem eL_law_29 : aI3 cL_law 29 (.invokestatic 71) 32 := ⟨by decide +kernel, rfl⟩
theorem eL_law_32 : aIS cL_law 32 5 34 := Or.inr ⟨by decide +kernel, rfl⟩
theorem eL_law_34 : aAL cL_law 34 1 35 := Or.inl ⟨1, by decide +kernel, rfl, rfl⟩
theorem eL_law_35 : aAL cL_law 35 4 37 := Or.inr ⟨by decide +kernel, rfl⟩
theorem eL_law_37 : aIL cL_law 37 5 39 := Or.inr ⟨by decide +kernel, rfl⟩
theorem eL_law_39 : aI3 cL_law 39 (.invokestatic 75) 42 := ⟨by decide +kernel, rfl⟩
theorem eL_law_42 : aIf_eq cL_law 42 45 73 := ⟨31, by decide +kernel, rfl, by decide⟩
theorem eL_law_45 : aAL cL_law 45 1 46 := Or.inl ⟨1, by decide +kernel, rfl, rfl⟩
theorem eL_law_46 : aI3 cL_law 46 (.invokevirtual 79) 49 := ⟨by decide +kernel, rfl⟩
theorem eL_law_49 : aIL cL_law 49 5 51 := Or.inr ⟨by decide +kernel, rfl⟩
theorem eL_law_51 : aIc_ne cL_law 51 54 73 := ⟨22, by decide +kernel, rfl, by decide⟩
theorem eL_law_54 : aAL cL_law 54 1 55 := Or.inl ⟨1, by decide +kernel, rfl, rfl⟩
theorem eL_law_55 : aI3 cL_law 55 (.invokevirtual 83) 58 := ⟨by decide +kernel, rfl⟩
theorem eL_law_58 : aAL cL_law 58 3 59 := Or.inl ⟨3, by decide +kernel, rfl, rfl⟩
theorem eL_law_59 : aPI cL_law 59 (nI 0) 60 := Or.inl ⟨0, by decide +kernel, by decide +kernel, rfl⟩
theorem eL_law_60 : aI1 cL_law 60 (.iaload) 61 := ⟨by decide +kernel, rfl⟩
theorem eL_law_61 : aIc_ne cL_law 61 64 73 := ⟨12, by decide +kernel, rfl, by decide⟩
theorem eL_law_64 : aAL cL_law 64 1 65 := Or.inl ⟨1, by decide +kernel, rfl, rfl⟩
theorem eL_law_65 : aAL cL_law 65 2 66 := Or.inl ⟨2, by decide +kernel, rfl, rfl⟩
theorem eL_law_66 : aAL cL_law 66 3 67 := Or.inl ⟨3, by decide +kernel, rfl, rfl⟩
theorem eL_law_67 : aI3 cL_law 67 (.invokestatic 86) 70 := ⟨by decide +kernel, rfl⟩
theorem eL_law_70 : aIf_ne cL_law 70 73 75 := ⟨5, by decide +kernel, rfl, by decide⟩
theorem eL_law_73 : aPI cL_law 73 (nI 0) 74 := Or.inl ⟨0, by decide +kernel, by decide +kernel, rfl⟩
theorem eL_law_74 : ∀ x : Int32, (x = 0 ∨ x = 1) → aRet cL_law (some .boolean) 74 (some (.int x)) := fun x h => Or.inr (Or.inl ⟨x, _, rfl, rfl, by rcases h with rfl | rfl <;> decide +kernel, by decide +kernel⟩)
theorem eL_law_75 : aPI cL_law 75 (nI 0) 76 := Or.inl ⟨0, by decide +kernel, by decide +kernel, rfl⟩
theorem eL_law_76 : aIS cL_law 76 6 78 := Or.inr ⟨by decide +kernel, rfl⟩
theorem eL_law_78 : aIL cL_law 78 6 80 := Or.inr ⟨by decide +kernel, rfl⟩
theorem eL_law_80 : aPI cL_law 80 (nI 3) 81 := Or.inl ⟨3, by decide +kernel, by decide +kernel, rfl⟩
theorem eL_law_81 : aIc_ge cL_law 81 84 137 := ⟨56, by decide +kernel, rfl, by decide⟩
theorem eL_law_84 : aAL cL_law 84 1 85 := Or.inl ⟨1, by decide +kernel, rfl, rfl⟩
theorem eL_law_85 : aAL cL_law 85 3 86 := Or.inl ⟨3, by decide +kernel, rfl, rfl⟩
theorem eL_law_86 : aAL cL_law 86 0 87 := Or.inl ⟨0, by decide +kernel, rfl, rfl⟩
theorem eL_law_87 : aPI cL_law 87 (nI 3) 88 := Or.inl ⟨3, by decide +kernel, by decide +kernel, rfl⟩
theorem eL_law_88 : aI3 cL_law 88 (.invokestatic 8) 91 := ⟨by decide +kernel, rfl⟩
theorem eL_law_91 : aPI cL_law 91 (nI 3) 92 := Or.inl ⟨3, by decide +kernel, by decide +kernel, rfl⟩
theorem eL_law_92 : aIL cL_law 92 6 94 := Or.inr ⟨by decide +kernel, rfl⟩
theorem eL_law_94 : aI1 cL_law 94 (.imul) 95 := ⟨by decide +kernel, rfl⟩
theorem eL_law_95 : aI1 cL_law 95 (.ishr) 96 := ⟨by decide +kernel, rfl⟩
theorem eL_law_96 : aPI cL_law 96 (nI 5) 97 := Or.inl ⟨5, by decide +kernel, by decide +kernel, rfl⟩
theorem eL_law_97 : aI3 cL_law 97 (.invokestatic 14) 100 := ⟨by decide +kernel, rfl⟩
theorem eL_law_100 : aAL cL_law 100 0 101 := Or.inl ⟨0, by decide +kernel, rfl, rfl⟩
theorem eL_law_101 : aPI cL_law 101 (nI 4) 102 := Or.inl ⟨4, by decide +kernel, by decide +kernel, rfl⟩
theorem eL_law_102 : aI3 cL_law 102 (.invokestatic 8) 105 := ⟨by decide +kernel, rfl⟩
theorem eL_law_105 : aPI cL_law 105 (nI 3) 106 := Or.inl ⟨3, by decide +kernel, by decide +kernel, rfl⟩
theorem eL_law_106 : aIL cL_law 106 6 108 := Or.inr ⟨by decide +kernel, rfl⟩
theorem eL_law_108 : aI1 cL_law 108 (.imul) 109 := ⟨by decide +kernel, rfl⟩
theorem eL_law_109 : aI1 cL_law 109 (.ishr) 110 := ⟨by decide +kernel, rfl⟩
theorem eL_law_110 : aPI cL_law 110 (nI 5) 111 := Or.inl ⟨5, by decide +kernel, by decide +kernel, rfl⟩
theorem eL_law_111 : aI3 cL_law 111 (.invokestatic 14) 114 := ⟨by decide +kernel, rfl⟩
theorem eL_law_114 : aI3 cL_law 114 (.invokestatic 60) 117 := ⟨by decide +kernel, rfl⟩
theorem eL_law_117 : aIf_eq cL_law 117 120 129 := ⟨12, by decide +kernel, rfl, by decide⟩
theorem eL_law_120 : aAL cL_law 120 1 121 := Or.inl ⟨1, by decide +kernel, rfl, rfl⟩
theorem eL_law_121 : aAL cL_law 121 2 122 := Or.inl ⟨2, by decide +kernel, rfl, rfl⟩
theorem eL_law_122 : aAL cL_law 122 3 123 := Or.inl ⟨3, by decide +kernel, rfl, rfl⟩
theorem eL_law_123 : aI3 cL_law 123 (.invokestatic 86) 126 := ⟨by decide +kernel, rfl⟩
theorem eL_law_126 : aIf_ne cL_law 126 129 131 := ⟨5, by decide +kernel, rfl, by decide⟩
theorem eL_law_129 : aPI cL_law 129 (nI 0) 130 := Or.inl ⟨0, by decide +kernel, by decide +kernel, rfl⟩
theorem eL_law_130 : ∀ x : Int32, (x = 0 ∨ x = 1) → aRet cL_law (some .boolean) 130 (some (.int x)) := fun x h => Or.inr (Or.inl ⟨x, _, rfl, rfl, by rcases h with rfl | rfl <;> decide +kernel, by decide +kernel⟩)
theorem eL_law_131 : aII cL_law 131 6 (nI 1) 134 := ⟨1, by decide +kernel, by decide +kernel, rfl⟩
theorem eL_law_134 : aGo cL_law 134 78 := ⟨(-56), by decide +kernel, by decide⟩
theorem eL_law_137 : aPI cL_law 137 (nI 0) 138 := Or.inl ⟨0, by decide +kernel, by decide +kernel, rfl⟩
theorem eL_law_138 : aIS cL_law 138 6 140 := Or.inr ⟨by decide +kernel, rfl⟩
theorem eL_law_140 : aIL cL_law 140 6 142 := Or.inr ⟨by decide +kernel, rfl⟩
theorem eL_law_142 : aPI cL_law 142 (nI 28) 144 := Or.inr (Or.inl ⟨28, by decide +kernel, by decide +kernel, rfl⟩)
theorem eL_law_144 : aIc_ge cL_law 144 147 241 := ⟨97, by decide +kernel, rfl, by decide⟩
theorem eL_law_147 : aAL cL_law 147 0 148 := Or.inl ⟨0, by decide +kernel, rfl, rfl⟩
theorem eL_law_148 : aPI cL_law 148 (nI 5) 149 := Or.inl ⟨5, by decide +kernel, by decide +kernel, rfl⟩
theorem eL_law_149 : aIL cL_law 149 6 151 := Or.inr ⟨by decide +kernel, rfl⟩
theorem eL_law_151 : aI1 cL_law 151 (.iadd) 152 := ⟨by decide +kernel, rfl⟩
theorem eL_law_152 : aI3 cL_law 152 (.invokestatic 8) 155 := ⟨by decide +kernel, rfl⟩
theorem eL_law_155 : aIS cL_law 155 7 157 := Or.inr ⟨by decide +kernel, rfl⟩
theorem eL_law_157 : aIL cL_law 157 7 159 := Or.inr ⟨by decide +kernel, rfl⟩
theorem eL_law_159 : aPI cL_law 159 (nI 8) 161 := Or.inr (Or.inl ⟨8, by decide +kernel, by decide +kernel, rfl⟩)
theorem eL_law_161 : aI3 cL_law 161 (.invokestatic 14) 164 := ⟨by decide +kernel, rfl⟩
theorem eL_law_164 : aIS cL_law 164 8 166 := Or.inr ⟨by decide +kernel, rfl⟩
theorem eL_law_166 : aIL cL_law 166 8 168 := Or.inr ⟨by decide +kernel, rfl⟩
theorem eL_law_168 : aPI cL_law 168 (nI 7) 170 := Or.inr (Or.inl ⟨7, by decide +kernel, by decide +kernel, rfl⟩)
theorem eL_law_170 : aIc_ge cL_law 170 173 188 := ⟨18, by decide +kernel, rfl, by decide⟩
theorem eL_law_173 : aAL cL_law 173 1 174 := Or.inl ⟨1, by decide +kernel, rfl, rfl⟩
theorem eL_law_174 : aAL cL_law 174 3 175 := Or.inl ⟨3, by decide +kernel, rfl, rfl⟩
theorem eL_law_175 : aIL cL_law 175 7 177 := Or.inr ⟨by decide +kernel, rfl⟩
theorem eL_law_177 : aPI cL_law 177 (nI 3) 178 := Or.inl ⟨3, by decide +kernel, by decide +kernel, rfl⟩
theorem eL_law_178 : aI1 cL_law 178 (.ishr) 179 := ⟨by decide +kernel, rfl⟩
theorem eL_law_179 : aI3 cL_law 179 (.invokestatic 90) 182 := ⟨by decide +kernel, rfl⟩
theorem eL_law_182 : aIf_ne cL_law 182 185 224 := ⟨42, by decide +kernel, rfl, by decide⟩
theorem eL_law_185 : aGo cL_law 185 222 := ⟨37, by decide +kernel, by decide⟩
theorem eL_law_188 : aAL cL_law 188 1 189 := Or.inl ⟨1, by decide +kernel, rfl, rfl⟩
theorem eL_law_189 : aAL cL_law 189 2 190 := Or.inl ⟨2, by decide +kernel, rfl, rfl⟩
theorem eL_law_190 : aAL cL_law 190 3 191 := Or.inl ⟨3, by decide +kernel, rfl, rfl⟩
theorem eL_law_191 : aPI cL_law 191 (nI 1) 192 := Or.inl ⟨1, by decide +kernel, by decide +kernel, rfl⟩
theorem eL_law_192 : aIL cL_law 192 7 194 := Or.inr ⟨by decide +kernel, rfl⟩
theorem eL_law_194 : aPI cL_law 194 (nI 3) 195 := Or.inl ⟨3, by decide +kernel, by decide +kernel, rfl⟩
theorem eL_law_195 : aI1 cL_law 195 (.ishr) 196 := ⟨by decide +kernel, rfl⟩
theorem eL_law_196 : aPI cL_law 196 (nI 40) 198 := Or.inr (Or.inl ⟨40, by decide +kernel, by decide +kernel, rfl⟩)
theorem eL_law_198 : aI3 cL_law 198 (.invokestatic 14) 201 := ⟨by decide +kernel, rfl⟩
theorem eL_law_201 : aI1 cL_law 201 (.iadd) 202 := ⟨by decide +kernel, rfl⟩
theorem eL_law_202 : aAL cL_law 202 0 203 := Or.inl ⟨0, by decide +kernel, rfl, rfl⟩
theorem eL_law_203 : aPI cL_law 203 (nI 33) 205 := Or.inr (Or.inl ⟨33, by decide +kernel, by decide +kernel, rfl⟩)
theorem eL_law_205 : aIL cL_law 205 6 207 := Or.inr ⟨by decide +kernel, rfl⟩
theorem eL_law_207 : aPI cL_law 207 (nI 4) 208 := Or.inl ⟨4, by decide +kernel, by decide +kernel, rfl⟩
theorem eL_law_208 : aI1 cL_law 208 (.irem) 209 := ⟨by decide +kernel, rfl⟩
theorem eL_law_209 : aI1 cL_law 209 (.iadd) 210 := ⟨by decide +kernel, rfl⟩
theorem eL_law_210 : aI3 cL_law 210 (.invokestatic 8) 213 := ⟨by decide +kernel, rfl⟩
theorem eL_law_213 : aLd cL_law 213 93 215 := Or.inl ⟨by decide +kernel, rfl⟩
theorem eL_law_215 : aI1 cL_law 215 (.iand) 216 := ⟨by decide +kernel, rfl⟩
theorem eL_law_216 : aI3 cL_law 216 (.invokestatic 94) 219 := ⟨by decide +kernel, rfl⟩
theorem eL_law_219 : aIf_ne cL_law 219 222 224 := ⟨5, by decide +kernel, rfl, by decide⟩
theorem eL_law_222 : aPI cL_law 222 (nI 0) 223 := Or.inl ⟨0, by decide +kernel, by decide +kernel, rfl⟩
theorem eL_law_223 : ∀ x : Int32, (x = 0 ∨ x = 1) → aRet cL_law (some .boolean) 223 (some (.int x)) := fun x h => Or.inr (Or.inl ⟨x, _, rfl, rfl, by rcases h with rfl | rfl <;> decide +kernel, by decide +kernel⟩)
theorem eL_law_224 : aAL cL_law 224 1 225 := Or.inl ⟨1, by decide +kernel, rfl, rfl⟩
theorem eL_law_225 : aAL cL_law 225 2 226 := Or.inl ⟨2, by decide +kernel, rfl, rfl⟩
theorem eL_law_226 : aAL cL_law 226 3 227 := Or.inl ⟨3, by decide +kernel, rfl, rfl⟩
theorem eL_law_227 : aI3 cL_law 227 (.invokestatic 86) 230 := ⟨by decide +kernel, rfl⟩
theorem eL_law_230 : aIf_ne cL_law 230 233 235 := ⟨5, by decide +kernel, rfl, by decide⟩
theorem eL_law_233 : aPI cL_law 233 (nI 0) 234 := Or.inl ⟨0, by decide +kernel, by decide +kernel, rfl⟩
theorem eL_law_234 : ∀ x : Int32, (x = 0 ∨ x = 1) → aRet cL_law (some .boolean) 234 (some (.int x)) := fun x h => Or.inr (Or.inl ⟨x, _, rfl, rfl, by rcases h with rfl | rfl <;> decide +kernel, by decide +kernel⟩)
theorem eL_law_235 : aII cL_law 235 6 (nI 1) 238 := ⟨1, by decide +kernel, by decide +kernel, rfl⟩
theorem eL_law_238 : aGo cL_law 238 140 := ⟨(-98), by decide +kernel, by decide⟩
theorem eL_law_241 : aPI cL_law 241 (nI 0) 242 := Or.inl ⟨0, by decide +kernel, by decide +kernel, rfl⟩
theorem eL_law_242 : aIS cL_law 242 6 244 := Or.inr ⟨by decide +kernel, rfl⟩
theorem eL_law_244 : aIL cL_law 244 6 246 := Or.inr ⟨by decide +kernel, rfl⟩
theorem eL_law_246 : aAL cL_law 246 3 247 := Or.inl ⟨3, by decide +kernel, rfl, rfl⟩
theorem eL_law_247 : aPI cL_law 247 (nI 12) 249 := Or.inr (Or.inl ⟨12, by decide +kernel, by decide +kernel, rfl⟩)
theorem eL_law_249 : aI1 cL_law 249 (.iaload) 250 := ⟨by decide +kernel, rfl⟩
theorem eL_law_250 : aIc_ge cL_law 250 253 327 := ⟨77, by decide +kernel, rfl, by decide⟩
theorem eL_law_253 : aPI cL_law 253 (nI 0) 254 := Or.inl ⟨0, by decide +kernel, by decide +kernel, rfl⟩
theorem eL_law_254 : aIS cL_law 254 7 256 := Or.inr ⟨by decide +kernel, rfl⟩
theorem eL_law_256 : aIL cL_law 256 7 258 := Or.inr ⟨by decide +kernel, rfl⟩
theorem eL_law_258 : aPI cL_law 258 (nI 5) 259 := Or.inl ⟨5, by decide +kernel, by decide +kernel, rfl⟩
theorem eL_law_259 : aIc_ge cL_law 259 262 321 := ⟨62, by decide +kernel, rfl, by decide⟩
theorem eL_law_262 : aAL cL_law 262 1 263 := Or.inl ⟨1, by decide +kernel, rfl, rfl⟩
theorem eL_law_263 : aIL cL_law 263 6 265 := Or.inr ⟨by decide +kernel, rfl⟩
theorem eL_law_265 : aIL cL_law 265 7 267 := Or.inr ⟨by decide +kernel, rfl⟩
theorem eL_law_267 : aI3 cL_law 267 (.invokevirtual 98) 270 := ⟨by decide +kernel, rfl⟩
theorem eL_law_270 : aIL cL_law 270 7 272 := Or.inr ⟨by decide +kernel, rfl⟩
theorem eL_law_272 : aIf_eq cL_law 272 275 304 := ⟨32, by decide +kernel, rfl, by decide⟩
theorem eL_law_275 : aIL cL_law 275 7 277 := Or.inr ⟨by decide +kernel, rfl⟩
theorem eL_law_277 : aAL cL_law 277 3 278 := Or.inl ⟨3, by decide +kernel, rfl, rfl⟩
theorem eL_law_278 : aPI cL_law 278 (nI 13) 280 := Or.inr (Or.inl ⟨13, by decide +kernel, by decide +kernel, rfl⟩)
theorem eL_law_280 : aIL cL_law 280 6 282 := Or.inr ⟨by decide +kernel, rfl⟩
theorem eL_law_282 : aI1 cL_law 282 (.iadd) 283 := ⟨by decide +kernel, rfl⟩
theorem eL_law_283 : aI1 cL_law 283 (.iaload) 284 := ⟨by decide +kernel, rfl⟩
theorem eL_law_284 : aIc_eq cL_law 284 287 304 := ⟨20, by decide +kernel, rfl, by decide⟩
theorem eL_law_287 : aIL cL_law 287 7 289 := Or.inr ⟨by decide +kernel, rfl⟩
theorem eL_law_289 : aPI cL_law 289 (nI 1) 290 := Or.inl ⟨1, by decide +kernel, by decide +kernel, rfl⟩
theorem eL_law_290 : aIc_ne cL_law 290 293 309 := ⟨19, by decide +kernel, rfl, by decide⟩
theorem eL_law_293 : aAL cL_law 293 3 294 := Or.inl ⟨3, by decide +kernel, rfl, rfl⟩
theorem eL_law_294 : aPI cL_law 294 (nI 13) 296 := Or.inr (Or.inl ⟨13, by decide +kernel, by decide +kernel, rfl⟩)
theorem eL_law_296 : aIL cL_law 296 6 298 := Or.inr ⟨by decide +kernel, rfl⟩
theorem eL_law_298 : aI1 cL_law 298 (.iadd) 299 := ⟨by decide +kernel, rfl⟩
theorem eL_law_299 : aI1 cL_law 299 (.iaload) 300 := ⟨by decide +kernel, rfl⟩
theorem eL_law_300 : aPI cL_law 300 (nI 4) 301 := Or.inl ⟨4, by decide +kernel, by decide +kernel, rfl⟩
theorem eL_law_301 : aIc_ne cL_law 301 304 309 := ⟨8, by decide +kernel, rfl, by decide⟩
theorem eL_law_304 : aIL cL_law 304 6 306 := Or.inr ⟨by decide +kernel, rfl⟩
theorem eL_law_306 : aGo cL_law 306 310 := ⟨4, by decide +kernel, by decide⟩
theorem eL_law_309 : aPI cL_law 309 (-1) 310 := Or.inl ⟨(-1), by decide +kernel, by decide +kernel, rfl⟩
theorem eL_law_310 : aIc_eq cL_law 310 313 315 := ⟨5, by decide +kernel, rfl, by decide⟩
theorem eL_law_313 : aPI cL_law 313 (nI 0) 314 := Or.inl ⟨0, by decide +kernel, by decide +kernel, rfl⟩
theorem eL_law_314 : ∀ x : Int32, (x = 0 ∨ x = 1) → aRet cL_law (some .boolean) 314 (some (.int x)) := fun x h => Or.inr (Or.inl ⟨x, _, rfl, rfl, by rcases h with rfl | rfl <;> decide +kernel, by decide +kernel⟩)
theorem eL_law_315 : aII cL_law 315 7 (nI 1) 318 := ⟨1, by decide +kernel, by decide +kernel, rfl⟩
theorem eL_law_318 : aGo cL_law 318 256 := ⟨(-62), by decide +kernel, by decide⟩
theorem eL_law_321 : aII cL_law 321 6 (nI 1) 324 := ⟨1, by decide +kernel, by decide +kernel, rfl⟩
theorem eL_law_324 : aGo cL_law 324 244 := ⟨(-80), by decide +kernel, by decide⟩
theorem eL_law_327 : aAL cL_law 327 3 328 := Or.inl ⟨3, by decide +kernel, rfl, rfl⟩
theorem eL_law_328 : aPI cL_law 328 (nI 0) 329 := Or.inl ⟨0, by decide +kernel, by decide +kernel, rfl⟩
theorem eL_law_329 : aI1 cL_law 329 (.iaload) 330 := ⟨by decide +kernel, rfl⟩
theorem eL_law_330 : aIS cL_law 330 6 332 := Or.inr ⟨by decide +kernel, rfl⟩
theorem eL_law_332 : aAL cL_law 332 3 333 := Or.inl ⟨3, by decide +kernel, rfl, rfl⟩
theorem eL_law_333 : aPI cL_law 333 (nI 12) 335 := Or.inr (Or.inl ⟨12, by decide +kernel, by decide +kernel, rfl⟩)
theorem eL_law_335 : aI1 cL_law 335 (.iaload) 336 := ⟨by decide +kernel, rfl⟩
theorem eL_law_336 : aIS cL_law 336 7 338 := Or.inr ⟨by decide +kernel, rfl⟩
theorem eL_law_338 : aAL cL_law 338 1 339 := Or.inl ⟨1, by decide +kernel, rfl, rfl⟩
theorem eL_law_339 : aAL cL_law 339 2 340 := Or.inl ⟨2, by decide +kernel, rfl, rfl⟩
theorem eL_law_340 : aAL cL_law 340 3 341 := Or.inl ⟨3, by decide +kernel, rfl, rfl⟩
theorem eL_law_341 : aPI cL_law 341 (nI 40) 343 := Or.inr (Or.inl ⟨40, by decide +kernel, by decide +kernel, rfl⟩)
theorem eL_law_343 : aPI cL_law 343 (nI 0) 344 := Or.inl ⟨0, by decide +kernel, by decide +kernel, rfl⟩
theorem eL_law_344 : aI3 cL_law 344 (.invokestatic 94) 347 := ⟨by decide +kernel, rfl⟩
theorem eL_law_347 : aIf_eq cL_law 347 350 627 := ⟨280, by decide +kernel, rfl, by decide⟩
theorem eL_law_350 : aAL cL_law 350 1 351 := Or.inl ⟨1, by decide +kernel, rfl, rfl⟩
theorem eL_law_351 : aAL cL_law 351 2 352 := Or.inl ⟨2, by decide +kernel, rfl, rfl⟩
theorem eL_law_352 : aAL cL_law 352 3 353 := Or.inl ⟨3, by decide +kernel, rfl, rfl⟩
theorem eL_law_353 : aPI cL_law 353 (nI 1) 354 := Or.inl ⟨1, by decide +kernel, by decide +kernel, rfl⟩
theorem eL_law_354 : aLd cL_law 354 93 356 := Or.inl ⟨by decide +kernel, rfl⟩
theorem eL_law_356 : aI3 cL_law 356 (.invokestatic 94) 359 := ⟨by decide +kernel, rfl⟩
theorem eL_law_359 : aIf_eq cL_law 359 362 627 := ⟨268, by decide +kernel, rfl, by decide⟩
theorem eL_law_362 : aAL cL_law 362 1 363 := Or.inl ⟨1, by decide +kernel, rfl, rfl⟩
theorem eL_law_363 : aPI cL_law 363 (nI 5) 364 := Or.inl ⟨5, by decide +kernel, by decide +kernel, rfl⟩
theorem eL_law_364 : aI3 cL_law 364 (.invokevirtual 35) 367 := ⟨by decide +kernel, rfl⟩
theorem eL_law_367 : aPI cL_law 367 (-101) 369 := Or.inr (Or.inl ⟨(-101), by decide +kernel, by decide +kernel, rfl⟩)
theorem eL_law_369 : aIc_ne cL_law 369 372 627 := ⟨258, by decide +kernel, rfl, by decide⟩
theorem eL_law_372 : aAL cL_law 372 1 373 := Or.inl ⟨1, by decide +kernel, rfl, rfl⟩
theorem eL_law_373 : aPI cL_law 373 (-1) 374 := Or.inl ⟨(-1), by decide +kernel, by decide +kernel, rfl⟩
theorem eL_law_374 : aI3 cL_law 374 (.invokevirtual 35) 377 := ⟨by decide +kernel, rfl⟩
theorem eL_law_377 : aPI cL_law 377 (-101) 379 := Or.inr (Or.inl ⟨(-101), by decide +kernel, by decide +kernel, rfl⟩)
theorem eL_law_379 : aIc_ne cL_law 379 382 627 := ⟨248, by decide +kernel, rfl, by decide⟩
theorem eL_law_382 : aAL cL_law 382 1 383 := Or.inl ⟨1, by decide +kernel, rfl, rfl⟩
theorem eL_law_383 : aIL cL_law 383 6 385 := Or.inr ⟨by decide +kernel, rfl⟩
theorem eL_law_385 : aI3 cL_law 385 (.invokevirtual 38) 388 := ⟨by decide +kernel, rfl⟩
theorem eL_law_388 : aPI cL_law 388 (-101) 390 := Or.inr (Or.inl ⟨(-101), by decide +kernel, by decide +kernel, rfl⟩)
theorem eL_law_390 : aIc_ne cL_law 390 393 627 := ⟨237, by decide +kernel, rfl, by decide⟩
theorem eL_law_393 : aAL cL_law 393 1 394 := Or.inl ⟨1, by decide +kernel, rfl, rfl⟩
theorem eL_law_394 : aPI cL_law 394 (-1) 395 := Or.inl ⟨(-1), by decide +kernel, by decide +kernel, rfl⟩
theorem eL_law_395 : aI3 cL_law 395 (.invokevirtual 38) 398 := ⟨by decide +kernel, rfl⟩
theorem eL_law_398 : aPI cL_law 398 (-101) 400 := Or.inr (Or.inl ⟨(-101), by decide +kernel, by decide +kernel, rfl⟩)
theorem eL_law_400 : aIc_ne cL_law 400 403 627 := ⟨227, by decide +kernel, rfl, by decide⟩
theorem eL_law_403 : aAL cL_law 403 1 404 := Or.inl ⟨1, by decide +kernel, rfl, rfl⟩
theorem eL_law_404 : aIL cL_law 404 6 406 := Or.inr ⟨by decide +kernel, rfl⟩
theorem eL_law_406 : aPI cL_law 406 (nI 0) 407 := Or.inl ⟨0, by decide +kernel, by decide +kernel, rfl⟩
theorem eL_law_407 : aI3 cL_law 407 (.invokevirtual 54) 410 := ⟨by decide +kernel, rfl⟩
theorem eL_law_410 : aPI cL_law 410 (-101) 412 := Or.inr (Or.inl ⟨(-101), by decide +kernel, by decide +kernel, rfl⟩)
theorem eL_law_412 : aIc_ne cL_law 412 415 627 := ⟨215, by decide +kernel, rfl, by decide⟩
theorem eL_law_415 : aAL cL_law 415 1 416 := Or.inl ⟨1, by decide +kernel, rfl, rfl⟩
theorem eL_law_416 : aPI cL_law 416 (nI 0) 417 := Or.inl ⟨0, by decide +kernel, by decide +kernel, rfl⟩
theorem eL_law_417 : aPI cL_law 417 (nI 8) 419 := Or.inr (Or.inl ⟨8, by decide +kernel, by decide +kernel, rfl⟩)
theorem eL_law_419 : aI3 cL_law 419 (.invokevirtual 54) 422 := ⟨by decide +kernel, rfl⟩
theorem eL_law_422 : aPI cL_law 422 (-102) 424 := Or.inr (Or.inl ⟨(-102), by decide +kernel, by decide +kernel, rfl⟩)
theorem eL_law_424 : aIc_ne cL_law 424 427 627 := ⟨203, by decide +kernel, rfl, by decide⟩
theorem eL_law_427 : aAL cL_law 427 1 428 := Or.inl ⟨1, by decide +kernel, rfl, rfl⟩
theorem eL_law_428 : aPI cL_law 428 (nI 0) 429 := Or.inl ⟨0, by decide +kernel, by decide +kernel, rfl⟩
theorem eL_law_429 : aPI cL_law 429 (-1) 430 := Or.inl ⟨(-1), by decide +kernel, by decide +kernel, rfl⟩
theorem eL_law_430 : aI3 cL_law 430 (.invokevirtual 54) 433 := ⟨by decide +kernel, rfl⟩
theorem eL_law_433 : aPI cL_law 433 (-102) 435 := Or.inr (Or.inl ⟨(-102), by decide +kernel, by decide +kernel, rfl⟩)
theorem eL_law_435 : aIc_ne cL_law 435 438 627 := ⟨192, by decide +kernel, rfl, by decide⟩
theorem eL_law_438 : aAL cL_law 438 1 439 := Or.inl ⟨1, by decide +kernel, rfl, rfl⟩
theorem eL_law_439 : aPI cL_law 439 (nI 0) 440 := Or.inl ⟨0, by decide +kernel, by decide +kernel, rfl⟩
theorem eL_law_440 : aI3 cL_law 440 (.invokevirtual 57) 443 := ⟨by decide +kernel, rfl⟩
theorem eL_law_443 : aPI cL_law 443 (-102) 445 := Or.inr (Or.inl ⟨(-102), by decide +kernel, by decide +kernel, rfl⟩)
theorem eL_law_445 : aIc_ne cL_law 445 448 627 := ⟨182, by decide +kernel, rfl, by decide⟩
theorem eL_law_448 : aAL cL_law 448 1 449 := Or.inl ⟨1, by decide +kernel, rfl, rfl⟩
theorem eL_law_449 : aPI cL_law 449 (nI 11) 451 := Or.inr (Or.inl ⟨11, by decide +kernel, by decide +kernel, rfl⟩)
theorem eL_law_451 : aI3 cL_law 451 (.invokevirtual 57) 454 := ⟨by decide +kernel, rfl⟩
theorem eL_law_454 : aPI cL_law 454 (-102) 456 := Or.inr (Or.inl ⟨(-102), by decide +kernel, by decide +kernel, rfl⟩)
theorem eL_law_456 : aIc_ne cL_law 456 459 627 := ⟨171, by decide +kernel, rfl, by decide⟩
theorem eL_law_459 : aAL cL_law 459 1 460 := Or.inl ⟨1, by decide +kernel, rfl, rfl⟩
theorem eL_law_460 : aPI cL_law 460 (nI 5) 461 := Or.inl ⟨5, by decide +kernel, by decide +kernel, rfl⟩
theorem eL_law_461 : aPI cL_law 461 (nI 0) 462 := Or.inl ⟨0, by decide +kernel, by decide +kernel, rfl⟩
theorem eL_law_462 : aI3 cL_law 462 (.invokevirtual 28) 465 := ⟨by decide +kernel, rfl⟩
theorem eL_law_465 : aPI cL_law 465 (-102) 467 := Or.inr (Or.inl ⟨(-102), by decide +kernel, by decide +kernel, rfl⟩)
theorem eL_law_467 : aIc_ne cL_law 467 470 627 := ⟨160, by decide +kernel, rfl, by decide⟩
theorem eL_law_470 : aAL cL_law 470 1 471 := Or.inl ⟨1, by decide +kernel, rfl, rfl⟩
theorem eL_law_471 : aPI cL_law 471 (nI 0) 472 := Or.inl ⟨0, by decide +kernel, by decide +kernel, rfl⟩
theorem eL_law_472 : aPI cL_law 472 (nI 5) 473 := Or.inl ⟨5, by decide +kernel, by decide +kernel, rfl⟩
theorem eL_law_473 : aI3 cL_law 473 (.invokevirtual 28) 476 := ⟨by decide +kernel, rfl⟩
theorem eL_law_476 : aPI cL_law 476 (-102) 478 := Or.inr (Or.inl ⟨(-102), by decide +kernel, by decide +kernel, rfl⟩)
theorem eL_law_478 : aIc_ne cL_law 478 481 627 := ⟨149, by decide +kernel, rfl, by decide⟩
theorem eL_law_481 : aAL cL_law 481 1 482 := Or.inl ⟨1, by decide +kernel, rfl, rfl⟩
theorem eL_law_482 : aPI cL_law 482 (-1) 483 := Or.inl ⟨(-1), by decide +kernel, by decide +kernel, rfl⟩
theorem eL_law_483 : aPI cL_law 483 (nI 0) 484 := Or.inl ⟨0, by decide +kernel, by decide +kernel, rfl⟩
theorem eL_law_484 : aI3 cL_law 484 (.invokevirtual 28) 487 := ⟨by decide +kernel, rfl⟩
theorem eL_law_487 : aPI cL_law 487 (-102) 489 := Or.inr (Or.inl ⟨(-102), by decide +kernel, by decide +kernel, rfl⟩)
theorem eL_law_489 : aIc_ne cL_law 489 492 627 := ⟨138, by decide +kernel, rfl, by decide⟩
theorem eL_law_492 : aAL cL_law 492 1 493 := Or.inl ⟨1, by decide +kernel, rfl, rfl⟩
theorem eL_law_493 : aIL cL_law 493 7 495 := Or.inr ⟨by decide +kernel, rfl⟩
theorem eL_law_495 : aPI cL_law 495 (nI 0) 496 := Or.inl ⟨0, by decide +kernel, by decide +kernel, rfl⟩
theorem eL_law_496 : aI3 cL_law 496 (.invokevirtual 48) 499 := ⟨by decide +kernel, rfl⟩
theorem eL_law_499 : aPI cL_law 499 (-101) 501 := Or.inr (Or.inl ⟨(-101), by decide +kernel, by decide +kernel, rfl⟩)
theorem eL_law_501 : aIc_ne cL_law 501 504 627 := ⟨126, by decide +kernel, rfl, by decide⟩
theorem eL_law_504 : aAL cL_law 504 1 505 := Or.inl ⟨1, by decide +kernel, rfl, rfl⟩
theorem eL_law_505 : aPI cL_law 505 (nI 0) 506 := Or.inl ⟨0, by decide +kernel, by decide +kernel, rfl⟩
theorem eL_law_506 : aPI cL_law 506 (nI 8) 508 := Or.inr (Or.inl ⟨8, by decide +kernel, by decide +kernel, rfl⟩)
theorem eL_law_508 : aI3 cL_law 508 (.invokevirtual 48) 511 := ⟨by decide +kernel, rfl⟩
theorem eL_law_511 : aPI cL_law 511 (-102) 513 := Or.inr (Or.inl ⟨(-102), by decide +kernel, by decide +kernel, rfl⟩)
theorem eL_law_513 : aIc_ne cL_law 513 516 627 := ⟨114, by decide +kernel, rfl, by decide⟩
theorem eL_law_516 : aAL cL_law 516 1 517 := Or.inl ⟨1, by decide +kernel, rfl, rfl⟩
theorem eL_law_517 : aIL cL_law 517 7 519 := Or.inr ⟨by decide +kernel, rfl⟩
theorem eL_law_519 : aPI cL_law 519 (nI 0) 520 := Or.inl ⟨0, by decide +kernel, by decide +kernel, rfl⟩
theorem eL_law_520 : aI3 cL_law 520 (.invokevirtual 98) 523 := ⟨by decide +kernel, rfl⟩
theorem eL_law_523 : aPI cL_law 523 (-101) 525 := Or.inr (Or.inl ⟨(-101), by decide +kernel, by decide +kernel, rfl⟩)
theorem eL_law_525 : aIc_ne cL_law 525 528 627 := ⟨102, by decide +kernel, rfl, by decide⟩
theorem eL_law_528 : aAL cL_law 528 1 529 := Or.inl ⟨1, by decide +kernel, rfl, rfl⟩
theorem eL_law_529 : aPI cL_law 529 (nI 0) 530 := Or.inl ⟨0, by decide +kernel, by decide +kernel, rfl⟩
theorem eL_law_530 : aPI cL_law 530 (nI 5) 531 := Or.inl ⟨5, by decide +kernel, by decide +kernel, rfl⟩
theorem eL_law_531 : aI3 cL_law 531 (.invokevirtual 98) 534 := ⟨by decide +kernel, rfl⟩
theorem eL_law_534 : aPI cL_law 534 (-102) 536 := Or.inr (Or.inl ⟨(-102), by decide +kernel, by decide +kernel, rfl⟩)
theorem eL_law_536 : aIc_ne cL_law 536 539 627 := ⟨91, by decide +kernel, rfl, by decide⟩
theorem eL_law_539 : aAL cL_law 539 1 540 := Or.inl ⟨1, by decide +kernel, rfl, rfl⟩
theorem eL_law_540 : aIL cL_law 540 7 542 := Or.inr ⟨by decide +kernel, rfl⟩
theorem eL_law_542 : aPI cL_law 542 (nI 0) 543 := Or.inl ⟨0, by decide +kernel, by decide +kernel, rfl⟩
theorem eL_law_543 : aI3 cL_law 543 (.invokevirtual 64) 546 := ⟨by decide +kernel, rfl⟩
theorem eL_law_546 : aPI cL_law 546 (-101) 548 := Or.inr (Or.inl ⟨(-101), by decide +kernel, by decide +kernel, rfl⟩)
theorem eL_law_548 : aIc_ne cL_law 548 551 627 := ⟨79, by decide +kernel, rfl, by decide⟩
theorem eL_law_551 : aAL cL_law 551 1 552 := Or.inl ⟨1, by decide +kernel, rfl, rfl⟩
theorem eL_law_552 : aPI cL_law 552 (nI 0) 553 := Or.inl ⟨0, by decide +kernel, by decide +kernel, rfl⟩
theorem eL_law_553 : aPI cL_law 553 (nI 8) 555 := Or.inr (Or.inl ⟨8, by decide +kernel, by decide +kernel, rfl⟩)
theorem eL_law_555 : aI3 cL_law 555 (.invokevirtual 64) 558 := ⟨by decide +kernel, rfl⟩
theorem eL_law_558 : aPI cL_law 558 (-102) 560 := Or.inr (Or.inl ⟨(-102), by decide +kernel, by decide +kernel, rfl⟩)
theorem eL_law_560 : aIc_ne cL_law 560 563 627 := ⟨67, by decide +kernel, rfl, by decide⟩
theorem eL_law_563 : aAL cL_law 563 1 564 := Or.inl ⟨1, by decide +kernel, rfl, rfl⟩
theorem eL_law_564 : aIL cL_law 564 7 566 := Or.inr ⟨by decide +kernel, rfl⟩
theorem eL_law_566 : aI3 cL_law 566 (.invokevirtual 67) 569 := ⟨by decide +kernel, rfl⟩
theorem eL_law_569 : aPI cL_law 569 (-101) 571 := Or.inr (Or.inl ⟨(-101), by decide +kernel, by decide +kernel, rfl⟩)
theorem eL_law_571 : aIc_ne cL_law 571 574 627 := ⟨56, by decide +kernel, rfl, by decide⟩
theorem eL_law_574 : aAL cL_law 574 1 575 := Or.inl ⟨1, by decide +kernel, rfl, rfl⟩
theorem eL_law_575 : aPI cL_law 575 (nI 0) 576 := Or.inl ⟨0, by decide +kernel, by decide +kernel, rfl⟩
theorem eL_law_576 : aPI cL_law 576 (nI 0) 577 := Or.inl ⟨0, by decide +kernel, by decide +kernel, rfl⟩
theorem eL_law_577 : aPI cL_law 577 (nI 0) 578 := Or.inl ⟨0, by decide +kernel, by decide +kernel, rfl⟩
theorem eL_law_578 : aI3 cL_law 578 (.invokevirtual 101) 581 := ⟨by decide +kernel, rfl⟩
theorem eL_law_581 : aPI cL_law 581 (-102) 583 := Or.inr (Or.inl ⟨(-102), by decide +kernel, by decide +kernel, rfl⟩)
theorem eL_law_583 : aIc_ne cL_law 583 586 627 := ⟨44, by decide +kernel, rfl, by decide⟩
theorem eL_law_586 : aAL cL_law 586 1 587 := Or.inl ⟨1, by decide +kernel, rfl, rfl⟩
theorem eL_law_587 : aPI cL_law 587 (nI 41) 589 := Or.inr (Or.inl ⟨41, by decide +kernel, by decide +kernel, rfl⟩)
theorem eL_law_589 : aPI cL_law 589 (nI 0) 590 := Or.inl ⟨0, by decide +kernel, by decide +kernel, rfl⟩
theorem eL_law_590 : aPI cL_law 590 (nI 0) 591 := Or.inl ⟨0, by decide +kernel, by decide +kernel, rfl⟩
theorem eL_law_591 : aI3 cL_law 591 (.invokevirtual 101) 594 := ⟨by decide +kernel, rfl⟩
theorem eL_law_594 : aPI cL_law 594 (-102) 596 := Or.inr (Or.inl ⟨(-102), by decide +kernel, by decide +kernel, rfl⟩)
theorem eL_law_596 : aIc_ne cL_law 596 599 627 := ⟨31, by decide +kernel, rfl, by decide⟩
theorem eL_law_599 : aAL cL_law 599 1 600 := Or.inl ⟨1, by decide +kernel, rfl, rfl⟩
theorem eL_law_600 : aPI cL_law 600 (nI 1) 601 := Or.inl ⟨1, by decide +kernel, by decide +kernel, rfl⟩
theorem eL_law_601 : aPI cL_law 601 (-1) 602 := Or.inl ⟨(-1), by decide +kernel, by decide +kernel, rfl⟩
theorem eL_law_602 : aPI cL_law 602 (nI 0) 603 := Or.inl ⟨0, by decide +kernel, by decide +kernel, rfl⟩
theorem eL_law_603 : aI3 cL_law 603 (.invokevirtual 101) 606 := ⟨by decide +kernel, rfl⟩
theorem eL_law_606 : aPI cL_law 606 (-102) 608 := Or.inr (Or.inl ⟨(-102), by decide +kernel, by decide +kernel, rfl⟩)
theorem eL_law_608 : aIc_ne cL_law 608 611 627 := ⟨19, by decide +kernel, rfl, by decide⟩
theorem eL_law_611 : aAL cL_law 611 1 612 := Or.inl ⟨1, by decide +kernel, rfl, rfl⟩
theorem eL_law_612 : aPI cL_law 612 (nI 1) 613 := Or.inl ⟨1, by decide +kernel, by decide +kernel, rfl⟩
theorem eL_law_613 : aPI cL_law 613 (nI 0) 614 := Or.inl ⟨0, by decide +kernel, by decide +kernel, rfl⟩
theorem eL_law_614 : aPI cL_law 614 (nI 3) 615 := Or.inl ⟨3, by decide +kernel, by decide +kernel, rfl⟩
theorem eL_law_615 : aI3 cL_law 615 (.invokevirtual 101) 618 := ⟨by decide +kernel, rfl⟩
theorem eL_law_618 : aPI cL_law 618 (-102) 620 := Or.inr (Or.inl ⟨(-102), by decide +kernel, by decide +kernel, rfl⟩)
theorem eL_law_620 : aIc_ne cL_law 620 623 627 := ⟨7, by decide +kernel, rfl, by decide⟩
theorem eL_law_623 : aPI cL_law 623 (nI 1) 624 := Or.inl ⟨1, by decide +kernel, by decide +kernel, rfl⟩
theorem eL_law_624 : aGo cL_law 624 628 := ⟨4, by decide +kernel, by decide⟩
theorem eL_law_627 : aPI cL_law 627 (nI 0) 628 := Or.inl ⟨0, by decide +kernel, by decide +kernel, rfl⟩
theorem eL_law_628 : ∀ x : Int32, (x = 0 ∨ x = 1) → aRet cL_law (some .boolean) 628 (some (.int x)) := fun x h => Or.inr (Or.inl ⟨x, _, rfl, rfl, by rcases h with rfl | rfl <;> decide +kernel, by decide +kernel⟩)
theorem eL_trials_0 : aPI cL_trials 0 (nI 26) 2 := Or.inr (Or.inl ⟨26, by decide +kernel, by decide +kernel, rfl⟩)
theorem eL_trials_2 : aI2 cL_trials 2 (.newarray .int) 4 := ⟨by decide +kernel, rfl⟩
theorem eL_trials_4 : aAS cL_trials 4 5 6 := Or.inr ⟨by decide +kernel, rfl⟩
theorem eL_trials_6 : aAL cL_trials 6 5 8 := Or.inr ⟨by decide +kernel, rfl⟩
theorem eL_trials_8 : aAL cL_trials 8 2 9 := Or.inl ⟨2, by decide +kernel, rfl, rfl⟩
theorem eL_trials_9 : aI3 cL_trials 9 (.invokestatic 104) 12 := ⟨by decide +kernel, rfl⟩
theorem eL_trials_12 : aIL cL_trials 12 4 14 := Or.inr ⟨by decide +kernel, rfl⟩
theorem eL_trials_14 : aI1 cL_trials 14 (.i2l) 15 := ⟨by decide +kernel, rfl⟩
theorem eL_trials_15 : aLS cL_trials 15 6 17 := Or.inr ⟨by decide +kernel, rfl⟩
theorem eL_trials_17 : aPI cL_trials 17 (nI 0) 18 := Or.inl ⟨0, by decide +kernel, by decide +kernel, rfl⟩
theorem eL_trials_18 : aIS cL_trials 18 8 20 := Or.inr ⟨by decide +kernel, rfl⟩
theorem eL_trials_20 : aPI cL_trials 20 (nI 0) 21 := Or.inl ⟨0, by decide +kernel, by decide +kernel, rfl⟩
theorem eL_trials_21 : aIS cL_trials 21 9 23 := Or.inr ⟨by decide +kernel, rfl⟩
theorem eL_trials_23 : aPI cL_trials 23 (nI 0) 24 := Or.inl ⟨0, by decide +kernel, by decide +kernel, rfl⟩
theorem eL_trials_24 : aIS cL_trials 24 10 26 := Or.inr ⟨by decide +kernel, rfl⟩
theorem eL_trials_26 : aIL cL_trials 26 10 28 := Or.inr ⟨by decide +kernel, rfl⟩
theorem eL_trials_28 : aIL cL_trials 28 3 29 := Or.inl ⟨3, by decide +kernel, rfl, rfl⟩
theorem eL_trials_29 : aIc_ge cL_trials 29 32 142 := ⟨113, by decide +kernel, rfl, by decide⟩
theorem eL_trials_32 : aPI cL_trials 32 (nI 0) 33 := Or.inl ⟨0, by decide +kernel, by decide +kernel, rfl⟩
theorem eL_trials_33 : aIS cL_trials 33 11 35 := Or.inr ⟨by decide +kernel, rfl⟩
theorem eL_trials_35 : aIL cL_trials 35 11 37 := Or.inr ⟨by decide +kernel, rfl⟩
theorem eL_trials_37 : aAL cL_trials 37 5 39 := Or.inr ⟨by decide +kernel, rfl⟩
theorem eL_trials_39 : aPI cL_trials 39 (nI 0) 40 := Or.inl ⟨0, by decide +kernel, by decide +kernel, rfl⟩
theorem eL_trials_40 : aI1 cL_trials 40 (.iaload) 41 := ⟨by decide +kernel, rfl⟩
theorem eL_trials_41 : aIc_ge cL_trials 41 44 84 := ⟨43, by decide +kernel, rfl, by decide⟩
theorem eL_trials_44 : aLL cL_trials 44 6 46 := Or.inr ⟨by decide +kernel, rfl⟩
theorem eL_trials_46 : aI3 cL_trials 46 (.ldc2_w 108) 49 := ⟨by decide +kernel, rfl⟩
theorem eL_trials_49 : aI1 cL_trials 49 (.lmul) 50 := ⟨by decide +kernel, rfl⟩
theorem eL_trials_50 : aI3 cL_trials 50 (.ldc2_w 110) 53 := ⟨by decide +kernel, rfl⟩
theorem eL_trials_53 : aI1 cL_trials 53 (.ladd) 54 := ⟨by decide +kernel, rfl⟩
theorem eL_trials_54 : aI3 cL_trials 54 (.ldc2_w 112) 57 := ⟨by decide +kernel, rfl⟩
theorem eL_trials_57 : aI1 cL_trials 57 (.lrem) 58 := ⟨by decide +kernel, rfl⟩
theorem eL_trials_58 : aLS cL_trials 58 6 60 := Or.inr ⟨by decide +kernel, rfl⟩
theorem eL_trials_60 : aAL cL_trials 60 5 62 := Or.inr ⟨by decide +kernel, rfl⟩
theorem eL_trials_62 : aPI cL_trials 62 (nI 1) 63 := Or.inl ⟨1, by decide +kernel, by decide +kernel, rfl⟩
theorem eL_trials_63 : aIL cL_trials 63 11 65 := Or.inr ⟨by decide +kernel, rfl⟩
theorem eL_trials_65 : aI1 cL_trials 65 (.iadd) 66 := ⟨by decide +kernel, rfl⟩
theorem eL_trials_66 : aLL cL_trials 66 6 68 := Or.inr ⟨by decide +kernel, rfl⟩
theorem eL_trials_68 : aI3 cL_trials 68 (.ldc2_w 114) 71 := ⟨by decide +kernel, rfl⟩
theorem eL_trials_71 : aI1 cL_trials 71 (.ldiv) 72 := ⟨by decide +kernel, rfl⟩
theorem eL_trials_72 : aI3 cL_trials 72 (.ldc2_w 116) 75 := ⟨by decide +kernel, rfl⟩
theorem eL_trials_75 : aI1 cL_trials 75 (.lrem) 76 := ⟨by decide +kernel, rfl⟩
theorem eL_trials_76 : aI1 cL_trials 76 (.l2i) 77 := ⟨by decide +kernel, rfl⟩
theorem eL_trials_77 : aI1 cL_trials 77 (.iastore) 78 := ⟨by decide +kernel, rfl⟩
theorem eL_trials_78 : aII cL_trials 78 11 (nI 1) 81 := ⟨1, by decide +kernel, by decide +kernel, rfl⟩
theorem eL_trials_81 : aGo cL_trials 81 35 := ⟨(-46), by decide +kernel, by decide⟩
theorem eL_trials_84 : aPI cL_trials 84 (nI 0) 85 := Or.inl ⟨0, by decide +kernel, by decide +kernel, rfl⟩
theorem eL_trials_85 : aIS cL_trials 85 11 87 := Or.inr ⟨by decide +kernel, rfl⟩
theorem eL_trials_87 : aIL cL_trials 87 11 89 := Or.inr ⟨by decide +kernel, rfl⟩
theorem eL_trials_89 : aAL cL_trials 89 5 91 := Or.inr ⟨by decide +kernel, rfl⟩
theorem eL_trials_91 : aPI cL_trials 91 (nI 12) 93 := Or.inr (Or.inl ⟨12, by decide +kernel, by decide +kernel, rfl⟩)
theorem eL_trials_93 : aI1 cL_trials 93 (.iaload) 94 := ⟨by decide +kernel, rfl⟩
theorem eL_trials_94 : aIc_ge cL_trials 94 97 136 := ⟨42, by decide +kernel, rfl, by decide⟩
theorem eL_trials_97 : aAL cL_trials 97 1 98 := Or.inl ⟨1, by decide +kernel, rfl, rfl⟩
theorem eL_trials_98 : aAL cL_trials 98 5 100 := Or.inr ⟨by decide +kernel, rfl⟩
theorem eL_trials_100 : aIL cL_trials 100 11 102 := Or.inr ⟨by decide +kernel, rfl⟩
theorem eL_trials_102 : aI3 cL_trials 102 (.invokestatic 41) 105 := ⟨by decide +kernel, rfl⟩
theorem eL_trials_105 : aI3 cL_trials 105 (.invokestatic 45) 108 := ⟨by decide +kernel, rfl⟩
theorem eL_trials_108 : aIS cL_trials 108 12 110 := Or.inr ⟨by decide +kernel, rfl⟩
theorem eL_trials_110 : aIL cL_trials 110 9 112 := Or.inr ⟨by decide +kernel, rfl⟩
theorem eL_trials_112 : aIL cL_trials 112 12 114 := Or.inr ⟨by decide +kernel, rfl⟩
theorem eL_trials_114 : aI1 cL_trials 114 (.iadd) 115 := ⟨by decide +kernel, rfl⟩
theorem eL_trials_115 : aIS cL_trials 115 9 117 := Or.inr ⟨by decide +kernel, rfl⟩
theorem eL_trials_117 : aIL cL_trials 117 12 119 := Or.inr ⟨by decide +kernel, rfl⟩
theorem eL_trials_119 : aAL cL_trials 119 5 121 := Or.inr ⟨by decide +kernel, rfl⟩
theorem eL_trials_121 : aPI cL_trials 121 (nI 11) 123 := Or.inr (Or.inl ⟨11, by decide +kernel, by decide +kernel, rfl⟩)
theorem eL_trials_123 : aI1 cL_trials 123 (.iaload) 124 := ⟨by decide +kernel, rfl⟩
theorem eL_trials_124 : aIc_lt cL_trials 124 127 130 := ⟨6, by decide +kernel, rfl, by decide⟩
theorem eL_trials_127 : aII cL_trials 127 8 (nI 1) 130 := ⟨1, by decide +kernel, by decide +kernel, rfl⟩
theorem eL_trials_130 : aII cL_trials 130 11 (nI 1) 133 := ⟨1, by decide +kernel, by decide +kernel, rfl⟩
theorem eL_trials_133 : aGo cL_trials 133 87 := ⟨(-46), by decide +kernel, by decide⟩
theorem eL_trials_136 : aII cL_trials 136 10 (nI 1) 139 := ⟨1, by decide +kernel, by decide +kernel, rfl⟩
theorem eL_trials_139 : aGo cL_trials 139 26 := ⟨(-113), by decide +kernel, by decide⟩
theorem eL_trials_142 : aAL cL_trials 142 0 143 := Or.inl ⟨0, by decide +kernel, rfl, rfl⟩
theorem eL_trials_143 : aIL cL_trials 143 3 144 := Or.inl ⟨3, by decide +kernel, rfl, rfl⟩
theorem eL_trials_144 : aIL cL_trials 144 4 146 := Or.inr ⟨by decide +kernel, rfl⟩
theorem eL_trials_146 : aPI cL_trials 146 (nI 0) 147 := Or.inl ⟨0, by decide +kernel, by decide +kernel, rfl⟩
theorem eL_trials_147 : aI3 cL_trials 147 (.invokevirtual 101) 150 := ⟨by decide +kernel, rfl⟩
theorem eL_trials_150 : aIL cL_trials 150 8 152 := Or.inr ⟨by decide +kernel, rfl⟩
theorem eL_trials_152 : aIc_ne cL_trials 152 155 187 := ⟨35, by decide +kernel, rfl, by decide⟩
theorem eL_trials_155 : aAL cL_trials 155 0 156 := Or.inl ⟨0, by decide +kernel, rfl, rfl⟩
theorem eL_trials_156 : aIL cL_trials 156 3 157 := Or.inl ⟨3, by decide +kernel, rfl, rfl⟩
theorem eL_trials_157 : aIL cL_trials 157 4 159 := Or.inr ⟨by decide +kernel, rfl⟩
theorem eL_trials_159 : aPI cL_trials 159 (nI 1) 160 := Or.inl ⟨1, by decide +kernel, by decide +kernel, rfl⟩
theorem eL_trials_160 : aI3 cL_trials 160 (.invokevirtual 101) 163 := ⟨by decide +kernel, rfl⟩
theorem eL_trials_163 : aIL cL_trials 163 9 165 := Or.inr ⟨by decide +kernel, rfl⟩
theorem eL_trials_165 : aIc_ne cL_trials 165 168 187 := ⟨22, by decide +kernel, rfl, by decide⟩
theorem eL_trials_168 : aAL cL_trials 168 0 169 := Or.inl ⟨0, by decide +kernel, rfl, rfl⟩
theorem eL_trials_169 : aIL cL_trials 169 3 170 := Or.inl ⟨3, by decide +kernel, rfl, rfl⟩
theorem eL_trials_170 : aIL cL_trials 170 4 172 := Or.inr ⟨by decide +kernel, rfl⟩
theorem eL_trials_172 : aPI cL_trials 172 (nI 2) 173 := Or.inl ⟨2, by decide +kernel, by decide +kernel, rfl⟩
theorem eL_trials_173 : aI3 cL_trials 173 (.invokevirtual 101) 176 := ⟨by decide +kernel, rfl⟩
theorem eL_trials_176 : aI1 cL_trials 176 (.i2l) 177 := ⟨by decide +kernel, rfl⟩
theorem eL_trials_177 : aLL cL_trials 177 6 179 := Or.inr ⟨by decide +kernel, rfl⟩
theorem eL_trials_179 : aI1 cL_trials 179 (.lcmp) 180 := ⟨by decide +kernel, rfl⟩
theorem eL_trials_180 : aIf_ne cL_trials 180 183 187 := ⟨7, by decide +kernel, rfl, by decide⟩
theorem eL_trials_183 : aPI cL_trials 183 (nI 1) 184 := Or.inl ⟨1, by decide +kernel, by decide +kernel, rfl⟩
theorem eL_trials_184 : aGo cL_trials 184 188 := ⟨4, by decide +kernel, by decide⟩
theorem eL_trials_187 : aPI cL_trials 187 (nI 0) 188 := Or.inl ⟨0, by decide +kernel, by decide +kernel, rfl⟩
theorem eL_trials_188 : ∀ x : Int32, (x = 0 ∨ x = 1) → aRet cL_trials (some .boolean) 188 (some (.int x)) := fun x h => Or.inr (Or.inl ⟨x, _, rfl, rfl, by rcases h with rfl | rfl <;> decide +kernel, by decide +kernel⟩)
abbrev GX0_init (lv mc ms : Nat) (post : Option Value → aH → Prop) (k n pc : Nat) (L : List (Option Value)) (S : List Value) (σ : aH) : Prop := G yX0_init cX0_init 2 none lv mc ms post k n pc L S σ
abbrev MX0_init (lv mc ms : Nat) (args : List Value) (σ : aH) (post : Option Value → aH → Prop) : Prop := AMet yX0_init cX0_init 2 none lv mc ms args σ post
theorem sX0_init {lv mc ms : Nat} {args : List Value} {σ : aH} {post : Option Value → aH → Prop} (hlen : (aEn args).length ≤ 2) (h : GX0_init lv mc ms post 0 0 0 (aL0 2 args) [] σ) : MX0_init lv mc ms args σ post := AMet_of_G (by decide +kernel) hlen h
abbrev GX0_kind (lv mc ms : Nat) (post : Option Value → aH → Prop) (k n pc : Nat) (L : List (Option Value)) (S : List Value) (σ : aH) : Prop := G yX0_kind cX0_kind 1 (some .int) lv mc ms post k n pc L S σ
abbrev MX0_kind (lv mc ms : Nat) (args : List Value) (σ : aH) (post : Option Value → aH → Prop) : Prop := AMet yX0_kind cX0_kind 1 (some .int) lv mc ms args σ post
theorem sX0_kind {lv mc ms : Nat} {args : List Value} {σ : aH} {post : Option Value → aH → Prop} (hlen : (aEn args).length ≤ 1) (h : GX0_kind lv mc ms post 0 0 0 (aL0 1 args) [] σ) : MX0_kind lv mc ms args σ post := AMet_of_G (by decide +kernel) hlen h
abbrev GX0_placesByDeed (lv mc ms : Nat) (post : Option Value → aH → Prop) (k n pc : Nat) (L : List (Option Value)) (S : List Value) (σ : aH) : Prop := G yX0_placesByDeed cX0_placesByDeed 3 (some .int) lv mc ms post k n pc L S σ
abbrev MX0_placesByDeed (lv mc ms : Nat) (args : List Value) (σ : aH) (post : Option Value → aH → Prop) : Prop := AMet yX0_placesByDeed cX0_placesByDeed 3 (some .int) lv mc ms args σ post
theorem sX0_placesByDeed {lv mc ms : Nat} {args : List Value} {σ : aH} {post : Option Value → aH → Prop} (hlen : (aEn args).length ≤ 3) (h : GX0_placesByDeed lv mc ms post 0 0 0 (aL0 3 args) [] σ) : MX0_placesByDeed lv mc ms args σ post := AMet_of_G (by decide +kernel) hlen h
abbrev GX1_init (lv mc ms : Nat) (post : Option Value → aH → Prop) (k n pc : Nat) (L : List (Option Value)) (S : List Value) (σ : aH) : Prop := G yX1_init cX1_init 2 none lv mc ms post k n pc L S σ
abbrev MX1_init (lv mc ms : Nat) (args : List Value) (σ : aH) (post : Option Value → aH → Prop) : Prop := AMet yX1_init cX1_init 2 none lv mc ms args σ post
theorem sX1_init {lv mc ms : Nat} {args : List Value} {σ : aH} {post : Option Value → aH → Prop} (hlen : (aEn args).length ≤ 2) (h : GX1_init lv mc ms post 0 0 0 (aL0 2 args) [] σ) : MX1_init lv mc ms args σ post := AMet_of_G (by decide +kernel) hlen h
abbrev GX1_kind (lv mc ms : Nat) (post : Option Value → aH → Prop) (k n pc : Nat) (L : List (Option Value)) (S : List Value) (σ : aH) : Prop := G yX1_kind cX1_kind 1 (some .int) lv mc ms post k n pc L S σ
abbrev MX1_kind (lv mc ms : Nat) (args : List Value) (σ : aH) (post : Option Value → aH → Prop) : Prop := AMet yX1_kind cX1_kind 1 (some .int) lv mc ms args σ post
theorem sX1_kind {lv mc ms : Nat} {args : List Value} {σ : aH} {post : Option Value → aH → Prop} (hlen : (aEn args).length ≤ 1) (h : GX1_kind lv mc ms post 0 0 0 (aL0 1 args) [] σ) : MX1_kind lv mc ms args σ post := AMet_of_G (by decide +kernel) hlen h
abbrev GX1_placesByDeed (lv mc ms : Nat) (post : Option Value → aH → Prop) (k n pc : Nat) (L : List (Option Value)) (S : List Value) (σ : aH) : Prop := G yX1_placesByDeed cX1_placesByDeed 3 (some .int) lv mc ms post k n pc L S σ
abbrev MX1_placesByDeed (lv mc ms : Nat) (args : List Value) (σ : aH) (post : Option Value → aH → Prop) : Prop := AMet yX1_placesByDeed cX1_placesByDeed 3 (some .int) lv mc ms args σ post
theorem sX1_placesByDeed {lv mc ms : Nat} {args : List Value} {σ : aH} {post : Option Value → aH → Prop} (hlen : (aEn args).length ≤ 3) (h : GX1_placesByDeed lv mc ms post 0 0 0 (aL0 3 args) [] σ) : MX1_placesByDeed lv mc ms args σ post := AMet_of_G (by decide +kernel) hlen h
abbrev GX2_init (lv mc ms : Nat) (post : Option Value → aH → Prop) (k n pc : Nat) (L : List (Option Value)) (S : List Value) (σ : aH) : Prop := G yX2_init cX2_init 1 none lv mc ms post k n pc L S σ
abbrev MX2_init (lv mc ms : Nat) (args : List Value) (σ : aH) (post : Option Value → aH → Prop) : Prop := AMet yX2_init cX2_init 1 none lv mc ms args σ post
theorem sX2_init {lv mc ms : Nat} {args : List Value} {σ : aH} {post : Option Value → aH → Prop} (hlen : (aEn args).length ≤ 1) (h : GX2_init lv mc ms post 0 0 0 (aL0 1 args) [] σ) : MX2_init lv mc ms args σ post := AMet_of_G (by decide +kernel) hlen h
abbrev GX3_init (lv mc ms : Nat) (post : Option Value → aH → Prop) (k n pc : Nat) (L : List (Option Value)) (S : List Value) (σ : aH) : Prop := G yX3_init cX3_init 1 none lv mc ms post k n pc L S σ
abbrev MX3_init (lv mc ms : Nat) (args : List Value) (σ : aH) (post : Option Value → aH → Prop) : Prop := AMet yX3_init cX3_init 1 none lv mc ms args σ post
theorem sX3_init {lv mc ms : Nat} {args : List Value} {σ : aH} {post : Option Value → aH → Prop} (hlen : (aEn args).length ≤ 1) (h : GX3_init lv mc ms post 0 0 0 (aL0 1 args) [] σ) : MX3_init lv mc ms args σ post := AMet_of_G (by decide +kernel) hlen h
abbrev GX3_size (lv mc ms : Nat) (post : Option Value → aH → Prop) (k n pc : Nat) (L : List (Option Value)) (S : List Value) (σ : aH) : Prop := G yX3_size cX3_size 1 (some .int) lv mc ms post k n pc L S σ
abbrev MX3_size (lv mc ms : Nat) (args : List Value) (σ : aH) (post : Option Value → aH → Prop) : Prop := AMet yX3_size cX3_size 1 (some .int) lv mc ms args σ post
theorem sX3_size {lv mc ms : Nat} {args : List Value} {σ : aH} {post : Option Value → aH → Prop} (hlen : (aEn args).length ≤ 1) (h : GX3_size lv mc ms post 0 0 0 (aL0 1 args) [] σ) : MX3_size lv mc ms args σ post := AMet_of_G (by decide +kernel) hlen h
abbrev GX3_clear (lv mc ms : Nat) (post : Option Value → aH → Prop) (k n pc : Nat) (L : List (Option Value)) (S : List Value) (σ : aH) : Prop := G yX3_clear cX3_clear 1 none lv mc ms post k n pc L S σ
abbrev MX3_clear (lv mc ms : Nat) (args : List Value) (σ : aH) (post : Option Value → aH → Prop) : Prop := AMet yX3_clear cX3_clear 1 none lv mc ms args σ post
theorem sX3_clear {lv mc ms : Nat} {args : List Value} {σ : aH} {post : Option Value → aH → Prop} (hlen : (aEn args).length ≤ 1) (h : GX3_clear lv mc ms post 0 0 0 (aL0 1 args) [] σ) : MX3_clear lv mc ms args σ post := AMet_of_G (by decide +kernel) hlen h
abbrev GX3_deedsLeft (lv mc ms : Nat) (post : Option Value → aH → Prop) (k n pc : Nat) (L : List (Option Value)) (S : List Value) (σ : aH) : Prop := G yX3_deedsLeft cX3_deedsLeft 4 (some .int) lv mc ms post k n pc L S σ
abbrev MX3_deedsLeft (lv mc ms : Nat) (args : List Value) (σ : aH) (post : Option Value → aH → Prop) : Prop := AMet yX3_deedsLeft cX3_deedsLeft 4 (some .int) lv mc ms args σ post
theorem sX3_deedsLeft {lv mc ms : Nat} {args : List Value} {σ : aH} {post : Option Value → aH → Prop} (hlen : (aEn args).length ≤ 4) (h : GX3_deedsLeft lv mc ms post 0 0 0 (aL0 4 args) [] σ) : MX3_deedsLeft lv mc ms args σ post := AMet_of_G (by decide +kernel) hlen h
abbrev GX4_init (lv mc ms : Nat) (post : Option Value → aH → Prop) (k n pc : Nat) (L : List (Option Value)) (S : List Value) (σ : aH) : Prop := G yX4_init cX4_init 2 none lv mc ms post k n pc L S σ
abbrev MX4_init (lv mc ms : Nat) (args : List Value) (σ : aH) (post : Option Value → aH → Prop) : Prop := AMet yX4_init cX4_init 2 none lv mc ms args σ post
theorem sX4_init {lv mc ms : Nat} {args : List Value} {σ : aH} {post : Option Value → aH → Prop} (hlen : (aEn args).length ≤ 2) (h : GX4_init lv mc ms post 0 0 0 (aL0 2 args) [] σ) : MX4_init lv mc ms args σ post := AMet_of_G (by decide +kernel) hlen h
abbrev GX4_deed (lv mc ms : Nat) (post : Option Value → aH → Prop) (k n pc : Nat) (L : List (Option Value)) (S : List Value) (σ : aH) : Prop := G yX4_deed cX4_deed 1 (some .int) lv mc ms post k n pc L S σ
abbrev MX4_deed (lv mc ms : Nat) (args : List Value) (σ : aH) (post : Option Value → aH → Prop) : Prop := AMet yX4_deed cX4_deed 1 (some .int) lv mc ms args σ post
theorem sX4_deed {lv mc ms : Nat} {args : List Value} {σ : aH} {post : Option Value → aH → Prop} (hlen : (aEn args).length ≤ 1) (h : GX4_deed lv mc ms post 0 0 0 (aL0 1 args) [] σ) : MX4_deed lv mc ms args σ post := AMet_of_G (by decide +kernel) hlen h
abbrev GX4_kind (lv mc ms : Nat) (post : Option Value → aH → Prop) (k n pc : Nat) (L : List (Option Value)) (S : List Value) (σ : aH) : Prop := G yX4_kind cX4_kind 1 (some .int) lv mc ms post k n pc L S σ
abbrev MX4_kind (lv mc ms : Nat) (args : List Value) (σ : aH) (post : Option Value → aH → Prop) : Prop := AMet yX4_kind cX4_kind 1 (some .int) lv mc ms args σ post
theorem sX4_kind {lv mc ms : Nat} {args : List Value} {σ : aH} {post : Option Value → aH → Prop} (hlen : (aEn args).length ≤ 1) (h : GX4_kind lv mc ms post 0 0 0 (aL0 1 args) [] σ) : MX4_kind lv mc ms args σ post := AMet_of_G (by decide +kernel) hlen h
abbrev GX4_placesByDeed (lv mc ms : Nat) (post : Option Value → aH → Prop) (k n pc : Nat) (L : List (Option Value)) (S : List Value) (σ : aH) : Prop := G yX4_placesByDeed cX4_placesByDeed 3 (some .int) lv mc ms post k n pc L S σ
abbrev MX4_placesByDeed (lv mc ms : Nat) (args : List Value) (σ : aH) (post : Option Value → aH → Prop) : Prop := AMet yX4_placesByDeed cX4_placesByDeed 3 (some .int) lv mc ms args σ post
theorem sX4_placesByDeed {lv mc ms : Nat} {args : List Value} {σ : aH} {post : Option Value → aH → Prop} (hlen : (aEn args).length ≤ 3) (h : GX4_placesByDeed lv mc ms post 0 0 0 (aL0 3 args) [] σ) : MX4_placesByDeed lv mc ms args σ post := AMet_of_G (by decide +kernel) hlen h
abbrev GX4_placesAnyhow (lv mc ms : Nat) (post : Option Value → aH → Prop) (k n pc : Nat) (L : List (Option Value)) (S : List Value) (σ : aH) : Prop := G yX4_placesAnyhow cX4_placesAnyhow 2 (some .int) lv mc ms post k n pc L S σ
abbrev MX4_placesAnyhow (lv mc ms : Nat) (args : List Value) (σ : aH) (post : Option Value → aH → Prop) : Prop := AMet yX4_placesAnyhow cX4_placesAnyhow 2 (some .int) lv mc ms args σ post
theorem sX4_placesAnyhow {lv mc ms : Nat} {args : List Value} {σ : aH} {post : Option Value → aH → Prop} (hlen : (aEn args).length ≤ 2) (h : GX4_placesAnyhow lv mc ms post 0 0 0 (aL0 2 args) [] σ) : MX4_placesAnyhow lv mc ms args σ post := AMet_of_G (by decide +kernel) hlen h
abbrev GX5_init (lv mc ms : Nat) (post : Option Value → aH → Prop) (k n pc : Nat) (L : List (Option Value)) (S : List Value) (σ : aH) : Prop := G yX5_init cX5_init 1 none lv mc ms post k n pc L S σ
abbrev MX5_init (lv mc ms : Nat) (args : List Value) (σ : aH) (post : Option Value → aH → Prop) : Prop := AMet yX5_init cX5_init 1 none lv mc ms args σ post
theorem sX5_init {lv mc ms : Nat} {args : List Value} {σ : aH} {post : Option Value → aH → Prop} (hlen : (aEn args).length ≤ 1) (h : GX5_init lv mc ms post 0 0 0 (aL0 1 args) [] σ) : MX5_init lv mc ms args σ post := AMet_of_G (by decide +kernel) hlen h
abbrev GX5_size (lv mc ms : Nat) (post : Option Value → aH → Prop) (k n pc : Nat) (L : List (Option Value)) (S : List Value) (σ : aH) : Prop := G yX5_size cX5_size 1 (some .int) lv mc ms post k n pc L S σ
abbrev MX5_size (lv mc ms : Nat) (args : List Value) (σ : aH) (post : Option Value → aH → Prop) : Prop := AMet yX5_size cX5_size 1 (some .int) lv mc ms args σ post
theorem sX5_size {lv mc ms : Nat} {args : List Value} {σ : aH} {post : Option Value → aH → Prop} (hlen : (aEn args).length ≤ 1) (h : GX5_size lv mc ms post 0 0 0 (aL0 1 args) [] σ) : MX5_size lv mc ms args σ post := AMet_of_G (by decide +kernel) hlen h
abbrev GX5_codeAt (lv mc ms : Nat) (post : Option Value → aH → Prop) (k n pc : Nat) (L : List (Option Value)) (S : List Value) (σ : aH) : Prop := G yX5_codeAt cX5_codeAt 2 (some .int) lv mc ms post k n pc L S σ
abbrev MX5_codeAt (lv mc ms : Nat) (args : List Value) (σ : aH) (post : Option Value → aH → Prop) : Prop := AMet yX5_codeAt cX5_codeAt 2 (some .int) lv mc ms args σ post
theorem sX5_codeAt {lv mc ms : Nat} {args : List Value} {σ : aH} {post : Option Value → aH → Prop} (hlen : (aEn args).length ≤ 2) (h : GX5_codeAt lv mc ms post 0 0 0 (aL0 2 args) [] σ) : MX5_codeAt lv mc ms args σ post := AMet_of_G (by decide +kernel) hlen h
abbrev GX5_add (lv mc ms : Nat) (post : Option Value → aH → Prop) (k n pc : Nat) (L : List (Option Value)) (S : List Value) (σ : aH) : Prop := G yX5_add cX5_add 2 (some .boolean) lv mc ms post k n pc L S σ
abbrev MX5_add (lv mc ms : Nat) (args : List Value) (σ : aH) (post : Option Value → aH → Prop) : Prop := AMet yX5_add cX5_add 2 (some .boolean) lv mc ms args σ post
theorem sX5_add {lv mc ms : Nat} {args : List Value} {σ : aH} {post : Option Value → aH → Prop} (hlen : (aEn args).length ≤ 2) (h : GX5_add lv mc ms post 0 0 0 (aL0 2 args) [] σ) : MX5_add lv mc ms args σ post := AMet_of_G (by decide +kernel) hlen h
abbrev GX5_clear (lv mc ms : Nat) (post : Option Value → aH → Prop) (k n pc : Nat) (L : List (Option Value)) (S : List Value) (σ : aH) : Prop := G yX5_clear cX5_clear 1 none lv mc ms post k n pc L S σ
abbrev MX5_clear (lv mc ms : Nat) (args : List Value) (σ : aH) (post : Option Value → aH → Prop) : Prop := AMet yX5_clear cX5_clear 1 none lv mc ms args σ post
theorem sX5_clear {lv mc ms : Nat} {args : List Value} {σ : aH} {post : Option Value → aH → Prop} (hlen : (aEn args).length ≤ 1) (h : GX5_clear lv mc ms post 0 0 0 (aL0 1 args) [] σ) : MX5_clear lv mc ms args σ post := AMet_of_G (by decide +kernel) hlen h
abbrev GX5_faultPlace (lv mc ms : Nat) (post : Option Value → aH → Prop) (k n pc : Nat) (L : List (Option Value)) (S : List Value) (σ : aH) : Prop := G yX5_faultPlace cX5_faultPlace 2 (some .int) lv mc ms post k n pc L S σ
abbrev MX5_faultPlace (lv mc ms : Nat) (args : List Value) (σ : aH) (post : Option Value → aH → Prop) : Prop := AMet yX5_faultPlace cX5_faultPlace 2 (some .int) lv mc ms args σ post
theorem sX5_faultPlace {lv mc ms : Nat} {args : List Value} {σ : aH} {post : Option Value → aH → Prop} (hlen : (aEn args).length ≤ 2) (h : GX5_faultPlace lv mc ms post 0 0 0 (aL0 2 args) [] σ) : MX5_faultPlace lv mc ms args σ post := AMet_of_G (by decide +kernel) hlen h
abbrev GX5_isCourt (lv mc ms : Nat) (post : Option Value → aH → Prop) (k n pc : Nat) (L : List (Option Value)) (S : List Value) (σ : aH) : Prop := G yX5_isCourt cX5_isCourt 1 (some .boolean) lv mc ms post k n pc L S σ
abbrev MX5_isCourt (lv mc ms : Nat) (args : List Value) (σ : aH) (post : Option Value → aH → Prop) : Prop := AMet yX5_isCourt cX5_isCourt 1 (some .boolean) lv mc ms args σ post
theorem sX5_isCourt {lv mc ms : Nat} {args : List Value} {σ : aH} {post : Option Value → aH → Prop} (hlen : (aEn args).length ≤ 1) (h : GX5_isCourt lv mc ms post 0 0 0 (aL0 1 args) [] σ) : MX5_isCourt lv mc ms args σ post := AMet_of_G (by decide +kernel) hlen h
abbrev GX6_init (lv mc ms : Nat) (post : Option Value → aH → Prop) (k n pc : Nat) (L : List (Option Value)) (S : List Value) (σ : aH) : Prop := G yX6_init cX6_init 1 none lv mc ms post k n pc L S σ
abbrev MX6_init (lv mc ms : Nat) (args : List Value) (σ : aH) (post : Option Value → aH → Prop) : Prop := AMet yX6_init cX6_init 1 none lv mc ms args σ post
theorem sX6_init {lv mc ms : Nat} {args : List Value} {σ : aH} {post : Option Value → aH → Prop} (hlen : (aEn args).length ≤ 1) (h : GX6_init lv mc ms post 0 0 0 (aL0 1 args) [] σ) : MX6_init lv mc ms args σ post := AMet_of_G (by decide +kernel) hlen h
abbrev GX6_size (lv mc ms : Nat) (post : Option Value → aH → Prop) (k n pc : Nat) (L : List (Option Value)) (S : List Value) (σ : aH) : Prop := G yX6_size cX6_size 1 (some .int) lv mc ms post k n pc L S σ
abbrev MX6_size (lv mc ms : Nat) (args : List Value) (σ : aH) (post : Option Value → aH → Prop) : Prop := AMet yX6_size cX6_size 1 (some .int) lv mc ms args σ post
theorem sX6_size {lv mc ms : Nat} {args : List Value} {σ : aH} {post : Option Value → aH → Prop} (hlen : (aEn args).length ≤ 1) (h : GX6_size lv mc ms post 0 0 0 (aL0 1 args) [] σ) : MX6_size lv mc ms args σ post := AMet_of_G (by decide +kernel) hlen h
abbrev GX6_has (lv mc ms : Nat) (post : Option Value → aH → Prop) (k n pc : Nat) (L : List (Option Value)) (S : List Value) (σ : aH) : Prop := G yX6_has cX6_has 2 (some .boolean) lv mc ms post k n pc L S σ
abbrev MX6_has (lv mc ms : Nat) (args : List Value) (σ : aH) (post : Option Value → aH → Prop) : Prop := AMet yX6_has cX6_has 2 (some .boolean) lv mc ms args σ post
theorem sX6_has {lv mc ms : Nat} {args : List Value} {σ : aH} {post : Option Value → aH → Prop} (hlen : (aEn args).length ≤ 2) (h : GX6_has lv mc ms post 0 0 0 (aL0 2 args) [] σ) : MX6_has lv mc ms args σ post := AMet_of_G (by decide +kernel) hlen h
abbrev GX6_at (lv mc ms : Nat) (post : Option Value → aH → Prop) (k n pc : Nat) (L : List (Option Value)) (S : List Value) (σ : aH) : Prop := G yX6_at cX6_at 2 (some .int) lv mc ms post k n pc L S σ
abbrev MX6_at (lv mc ms : Nat) (args : List Value) (σ : aH) (post : Option Value → aH → Prop) : Prop := AMet yX6_at cX6_at 2 (some .int) lv mc ms args σ post
theorem sX6_at {lv mc ms : Nat} {args : List Value} {σ : aH} {post : Option Value → aH → Prop} (hlen : (aEn args).length ≤ 2) (h : GX6_at lv mc ms post 0 0 0 (aL0 2 args) [] σ) : MX6_at lv mc ms args σ post := AMet_of_G (by decide +kernel) hlen h
abbrev GX6_set (lv mc ms : Nat) (post : Option Value → aH → Prop) (k n pc : Nat) (L : List (Option Value)) (S : List Value) (σ : aH) : Prop := G yX6_set cX6_set 3 none lv mc ms post k n pc L S σ
abbrev MX6_set (lv mc ms : Nat) (args : List Value) (σ : aH) (post : Option Value → aH → Prop) : Prop := AMet yX6_set cX6_set 3 none lv mc ms args σ post
theorem sX6_set {lv mc ms : Nat} {args : List Value} {σ : aH} {post : Option Value → aH → Prop} (hlen : (aEn args).length ≤ 3) (h : GX6_set lv mc ms post 0 0 0 (aL0 3 args) [] σ) : MX6_set lv mc ms args σ post := AMet_of_G (by decide +kernel) hlen h
abbrev GX6_add (lv mc ms : Nat) (post : Option Value → aH → Prop) (k n pc : Nat) (L : List (Option Value)) (S : List Value) (σ : aH) : Prop := G yX6_add cX6_add 2 none lv mc ms post k n pc L S σ
abbrev MX6_add (lv mc ms : Nat) (args : List Value) (σ : aH) (post : Option Value → aH → Prop) : Prop := AMet yX6_add cX6_add 2 none lv mc ms args σ post
theorem sX6_add {lv mc ms : Nat} {args : List Value} {σ : aH} {post : Option Value → aH → Prop} (hlen : (aEn args).length ≤ 2) (h : GX6_add lv mc ms post 0 0 0 (aL0 2 args) [] σ) : MX6_add lv mc ms args σ post := AMet_of_G (by decide +kernel) hlen h
abbrev GX6_clear (lv mc ms : Nat) (post : Option Value → aH → Prop) (k n pc : Nat) (L : List (Option Value)) (S : List Value) (σ : aH) : Prop := G yX6_clear cX6_clear 1 none lv mc ms post k n pc L S σ
abbrev MX6_clear (lv mc ms : Nat) (args : List Value) (σ : aH) (post : Option Value → aH → Prop) : Prop := AMet yX6_clear cX6_clear 1 none lv mc ms args σ post
theorem sX6_clear {lv mc ms : Nat} {args : List Value} {σ : aH} {post : Option Value → aH → Prop} (hlen : (aEn args).length ≤ 1) (h : GX6_clear lv mc ms post 0 0 0 (aL0 1 args) [] σ) : MX6_clear lv mc ms args σ post := AMet_of_G (by decide +kernel) hlen h
abbrev GX6_placesOf (lv mc ms : Nat) (post : Option Value → aH → Prop) (k n pc : Nat) (L : List (Option Value)) (S : List Value) (σ : aH) : Prop := G yX6_placesOf cX6_placesOf 4 (some .int) lv mc ms post k n pc L S σ
abbrev MX6_placesOf (lv mc ms : Nat) (args : List Value) (σ : aH) (post : Option Value → aH → Prop) : Prop := AMet yX6_placesOf cX6_placesOf 4 (some .int) lv mc ms args σ post
theorem sX6_placesOf {lv mc ms : Nat} {args : List Value} {σ : aH} {post : Option Value → aH → Prop} (hlen : (aEn args).length ≤ 4) (h : GX6_placesOf lv mc ms post 0 0 0 (aL0 4 args) [] σ) : MX6_placesOf lv mc ms args σ post := AMet_of_G (by decide +kernel) hlen h
abbrev GX6_firstPlacesOf (lv mc ms : Nat) (post : Option Value → aH → Prop) (k n pc : Nat) (L : List (Option Value)) (S : List Value) (σ : aH) : Prop := G yX6_firstPlacesOf cX6_firstPlacesOf 5 (some .int) lv mc ms post k n pc L S σ
abbrev MX6_firstPlacesOf (lv mc ms : Nat) (args : List Value) (σ : aH) (post : Option Value → aH → Prop) : Prop := AMet yX6_firstPlacesOf cX6_firstPlacesOf 5 (some .int) lv mc ms args σ post
theorem sX6_firstPlacesOf {lv mc ms : Nat} {args : List Value} {σ : aH} {post : Option Value → aH → Prop} (hlen : (aEn args).length ≤ 5) (h : GX6_firstPlacesOf lv mc ms post 0 0 0 (aL0 5 args) [] σ) : MX6_firstPlacesOf lv mc ms args σ post := AMet_of_G (by decide +kernel) hlen h
abbrev GX6_placesBehind (lv mc ms : Nat) (post : Option Value → aH → Prop) (k n pc : Nat) (L : List (Option Value)) (S : List Value) (σ : aH) : Prop := G yX6_placesBehind cX6_placesBehind 2 (some .int) lv mc ms post k n pc L S σ
abbrev MX6_placesBehind (lv mc ms : Nat) (args : List Value) (σ : aH) (post : Option Value → aH → Prop) : Prop := AMet yX6_placesBehind cX6_placesBehind 2 (some .int) lv mc ms args σ post
theorem sX6_placesBehind {lv mc ms : Nat} {args : List Value} {σ : aH} {post : Option Value → aH → Prop} (hlen : (aEn args).length ≤ 2) (h : GX6_placesBehind lv mc ms post 0 0 0 (aL0 2 args) [] σ) : MX6_placesBehind lv mc ms args σ post := AMet_of_G (by decide +kernel) hlen h
abbrev GX6_unlikeWords (lv mc ms : Nat) (post : Option Value → aH → Prop) (k n pc : Nat) (L : List (Option Value)) (S : List Value) (σ : aH) : Prop := G yX6_unlikeWords cX6_unlikeWords 3 (some .int) lv mc ms post k n pc L S σ
abbrev MX6_unlikeWords (lv mc ms : Nat) (args : List Value) (σ : aH) (post : Option Value → aH → Prop) : Prop := AMet yX6_unlikeWords cX6_unlikeWords 3 (some .int) lv mc ms args σ post
theorem sX6_unlikeWords {lv mc ms : Nat} {args : List Value} {σ : aH} {post : Option Value → aH → Prop} (hlen : (aEn args).length ≤ 3) (h : GX6_unlikeWords lv mc ms post 0 0 0 (aL0 3 args) [] σ) : MX6_unlikeWords lv mc ms args σ post := AMet_of_G (by decide +kernel) hlen h
abbrev GX7_init (lv mc ms : Nat) (post : Option Value → aH → Prop) (k n pc : Nat) (L : List (Option Value)) (S : List Value) (σ : aH) : Prop := G yX7_init cX7_init 2 none lv mc ms post k n pc L S σ
abbrev MX7_init (lv mc ms : Nat) (args : List Value) (σ : aH) (post : Option Value → aH → Prop) : Prop := AMet yX7_init cX7_init 2 none lv mc ms args σ post
theorem sX7_init {lv mc ms : Nat} {args : List Value} {σ : aH} {post : Option Value → aH → Prop} (hlen : (aEn args).length ≤ 2) (h : GX7_init lv mc ms post 0 0 0 (aL0 2 args) [] σ) : MX7_init lv mc ms args σ post := AMet_of_G (by decide +kernel) hlen h
abbrev GX7_kind (lv mc ms : Nat) (post : Option Value → aH → Prop) (k n pc : Nat) (L : List (Option Value)) (S : List Value) (σ : aH) : Prop := G yX7_kind cX7_kind 1 (some .int) lv mc ms post k n pc L S σ
abbrev MX7_kind (lv mc ms : Nat) (args : List Value) (σ : aH) (post : Option Value → aH → Prop) : Prop := AMet yX7_kind cX7_kind 1 (some .int) lv mc ms args σ post
theorem sX7_kind {lv mc ms : Nat} {args : List Value} {σ : aH} {post : Option Value → aH → Prop} (hlen : (aEn args).length ≤ 1) (h : GX7_kind lv mc ms post 0 0 0 (aL0 1 args) [] σ) : MX7_kind lv mc ms args σ post := AMet_of_G (by decide +kernel) hlen h
abbrev GX7_placesAnyhow (lv mc ms : Nat) (post : Option Value → aH → Prop) (k n pc : Nat) (L : List (Option Value)) (S : List Value) (σ : aH) : Prop := G yX7_placesAnyhow cX7_placesAnyhow 2 (some .int) lv mc ms post k n pc L S σ
abbrev MX7_placesAnyhow (lv mc ms : Nat) (args : List Value) (σ : aH) (post : Option Value → aH → Prop) : Prop := AMet yX7_placesAnyhow cX7_placesAnyhow 2 (some .int) lv mc ms args σ post
theorem sX7_placesAnyhow {lv mc ms : Nat} {args : List Value} {σ : aH} {post : Option Value → aH → Prop} (hlen : (aEn args).length ≤ 2) (h : GX7_placesAnyhow lv mc ms post 0 0 0 (aL0 2 args) [] σ) : MX7_placesAnyhow lv mc ms args σ post := AMet_of_G (by decide +kernel) hlen h
abbrev GX8_init (lv mc ms : Nat) (post : Option Value → aH → Prop) (k n pc : Nat) (L : List (Option Value)) (S : List Value) (σ : aH) : Prop := G yX8_init cX8_init 1 none lv mc ms post k n pc L S σ
abbrev MX8_init (lv mc ms : Nat) (args : List Value) (σ : aH) (post : Option Value → aH → Prop) : Prop := AMet yX8_init cX8_init 1 none lv mc ms args σ post
theorem sX8_init {lv mc ms : Nat} {args : List Value} {σ : aH} {post : Option Value → aH → Prop} (hlen : (aEn args).length ≤ 1) (h : GX8_init lv mc ms post 0 0 0 (aL0 1 args) [] σ) : MX8_init lv mc ms args σ post := AMet_of_G (by decide +kernel) hlen h
abbrev GX8_begin (lv mc ms : Nat) (post : Option Value → aH → Prop) (k n pc : Nat) (L : List (Option Value)) (S : List Value) (σ : aH) : Prop := G yX8_begin cX8_begin 1 none lv mc ms post k n pc L S σ
abbrev MX8_begin (lv mc ms : Nat) (args : List Value) (σ : aH) (post : Option Value → aH → Prop) : Prop := AMet yX8_begin cX8_begin 1 none lv mc ms args σ post
theorem sX8_begin {lv mc ms : Nat} {args : List Value} {σ : aH} {post : Option Value → aH → Prop} (hlen : (aEn args).length ≤ 1) (h : GX8_begin lv mc ms post 0 0 0 (aL0 1 args) [] σ) : MX8_begin lv mc ms args σ post := AMet_of_G (by decide +kernel) hlen h
abbrev GX9_init (lv mc ms : Nat) (post : Option Value → aH → Prop) (k n pc : Nat) (L : List (Option Value)) (S : List Value) (σ : aH) : Prop := G yX9_init cX9_init 1 none lv mc ms post k n pc L S σ
abbrev MX9_init (lv mc ms : Nat) (args : List Value) (σ : aH) (post : Option Value → aH → Prop) : Prop := AMet yX9_init cX9_init 1 none lv mc ms args σ post
theorem sX9_init {lv mc ms : Nat} {args : List Value} {σ : aH} {post : Option Value → aH → Prop} (hlen : (aEn args).length ≤ 1) (h : GX9_init lv mc ms post 0 0 0 (aL0 1 args) [] σ) : MX9_init lv mc ms args σ post := AMet_of_G (by decide +kernel) hlen h
abbrev GX9_begin (lv mc ms : Nat) (post : Option Value → aH → Prop) (k n pc : Nat) (L : List (Option Value)) (S : List Value) (σ : aH) : Prop := G yX9_begin cX9_begin 1 none lv mc ms post k n pc L S σ
abbrev MX9_begin (lv mc ms : Nat) (args : List Value) (σ : aH) (post : Option Value → aH → Prop) : Prop := AMet yX9_begin cX9_begin 1 none lv mc ms args σ post
theorem sX9_begin {lv mc ms : Nat} {args : List Value} {σ : aH} {post : Option Value → aH → Prop} (hlen : (aEn args).length ≤ 1) (h : GX9_begin lv mc ms post 0 0 0 (aL0 1 args) [] σ) : MX9_begin lv mc ms args σ post := AMet_of_G (by decide +kernel) hlen h
abbrev GX9_passes (lv mc ms : Nat) (post : Option Value → aH → Prop) (k n pc : Nat) (L : List (Option Value)) (S : List Value) (σ : aH) : Prop := G yX9_passes cX9_passes 3 (some .boolean) lv mc ms post k n pc L S σ
abbrev MX9_passes (lv mc ms : Nat) (args : List Value) (σ : aH) (post : Option Value → aH → Prop) : Prop := AMet yX9_passes cX9_passes 3 (some .boolean) lv mc ms args σ post
theorem sX9_passes {lv mc ms : Nat} {args : List Value} {σ : aH} {post : Option Value → aH → Prop} (hlen : (aEn args).length ≤ 3) (h : GX9_passes lv mc ms post 0 0 0 (aL0 3 args) [] σ) : MX9_passes lv mc ms args σ post := AMet_of_G (by decide +kernel) hlen h
abbrev GX9_isWhole (lv mc ms : Nat) (post : Option Value → aH → Prop) (k n pc : Nat) (L : List (Option Value)) (S : List Value) (σ : aH) : Prop := G yX9_isWhole cX9_isWhole 1 (some .boolean) lv mc ms post k n pc L S σ
abbrev MX9_isWhole (lv mc ms : Nat) (args : List Value) (σ : aH) (post : Option Value → aH → Prop) : Prop := AMet yX9_isWhole cX9_isWhole 1 (some .boolean) lv mc ms args σ post
theorem sX9_isWhole {lv mc ms : Nat} {args : List Value} {σ : aH} {post : Option Value → aH → Prop} (hlen : (aEn args).length ≤ 1) (h : GX9_isWhole lv mc ms post 0 0 0 (aL0 1 args) [] σ) : MX9_isWhole lv mc ms args σ post := AMet_of_G (by decide +kernel) hlen h
abbrev GX9_enter (lv mc ms : Nat) (post : Option Value → aH → Prop) (k n pc : Nat) (L : List (Option Value)) (S : List Value) (σ : aH) : Prop := G yX9_enter cX9_enter 2 none lv mc ms post k n pc L S σ
abbrev MX9_enter (lv mc ms : Nat) (args : List Value) (σ : aH) (post : Option Value → aH → Prop) : Prop := AMet yX9_enter cX9_enter 2 none lv mc ms args σ post
theorem sX9_enter {lv mc ms : Nat} {args : List Value} {σ : aH} {post : Option Value → aH → Prop} (hlen : (aEn args).length ≤ 2) (h : GX9_enter lv mc ms post 0 0 0 (aL0 2 args) [] σ) : MX9_enter lv mc ms args σ post := AMet_of_G (by decide +kernel) hlen h
abbrev GX9_passesWord (lv mc ms : Nat) (post : Option Value → aH → Prop) (k n pc : Nat) (L : List (Option Value)) (S : List Value) (σ : aH) : Prop := G yX9_passesWord cX9_passesWord 3 (some .boolean) lv mc ms post k n pc L S σ
abbrev MX9_passesWord (lv mc ms : Nat) (args : List Value) (σ : aH) (post : Option Value → aH → Prop) : Prop := AMet yX9_passesWord cX9_passesWord 3 (some .boolean) lv mc ms args σ post
theorem sX9_passesWord {lv mc ms : Nat} {args : List Value} {σ : aH} {post : Option Value → aH → Prop} (hlen : (aEn args).length ≤ 3) (h : GX9_passesWord lv mc ms post 0 0 0 (aL0 3 args) [] σ) : MX9_passesWord lv mc ms args σ post := AMet_of_G (by decide +kernel) hlen h
abbrev GX10_init (lv mc ms : Nat) (post : Option Value → aH → Prop) (k n pc : Nat) (L : List (Option Value)) (S : List Value) (σ : aH) : Prop := G yX10_init cX10_init 2 none lv mc ms post k n pc L S σ
abbrev MX10_init (lv mc ms : Nat) (args : List Value) (σ : aH) (post : Option Value → aH → Prop) : Prop := AMet yX10_init cX10_init 2 none lv mc ms args σ post
theorem sX10_init {lv mc ms : Nat} {args : List Value} {σ : aH} {post : Option Value → aH → Prop} (hlen : (aEn args).length ≤ 2) (h : GX10_init lv mc ms post 0 0 0 (aL0 2 args) [] σ) : MX10_init lv mc ms args σ post := AMet_of_G (by decide +kernel) hlen h
abbrev GX10_kind (lv mc ms : Nat) (post : Option Value → aH → Prop) (k n pc : Nat) (L : List (Option Value)) (S : List Value) (σ : aH) : Prop := G yX10_kind cX10_kind 1 (some .int) lv mc ms post k n pc L S σ
abbrev MX10_kind (lv mc ms : Nat) (args : List Value) (σ : aH) (post : Option Value → aH → Prop) : Prop := AMet yX10_kind cX10_kind 1 (some .int) lv mc ms args σ post
theorem sX10_kind {lv mc ms : Nat} {args : List Value} {σ : aH} {post : Option Value → aH → Prop} (hlen : (aEn args).length ≤ 1) (h : GX10_kind lv mc ms post 0 0 0 (aL0 1 args) [] σ) : MX10_kind lv mc ms args σ post := AMet_of_G (by decide +kernel) hlen h
abbrev GX10_placesAnyhow (lv mc ms : Nat) (post : Option Value → aH → Prop) (k n pc : Nat) (L : List (Option Value)) (S : List Value) (σ : aH) : Prop := G yX10_placesAnyhow cX10_placesAnyhow 2 (some .int) lv mc ms post k n pc L S σ
abbrev MX10_placesAnyhow (lv mc ms : Nat) (args : List Value) (σ : aH) (post : Option Value → aH → Prop) : Prop := AMet yX10_placesAnyhow cX10_placesAnyhow 2 (some .int) lv mc ms args σ post
theorem sX10_placesAnyhow {lv mc ms : Nat} {args : List Value} {σ : aH} {post : Option Value → aH → Prop} (hlen : (aEn args).length ≤ 2) (h : GX10_placesAnyhow lv mc ms post 0 0 0 (aL0 2 args) [] σ) : MX10_placesAnyhow lv mc ms args σ post := AMet_of_G (by decide +kernel) hlen h
abbrev GX11_init (lv mc ms : Nat) (post : Option Value → aH → Prop) (k n pc : Nat) (L : List (Option Value)) (S : List Value) (σ : aH) : Prop := G yX11_init cX11_init 1 none lv mc ms post k n pc L S σ
abbrev MX11_init (lv mc ms : Nat) (args : List Value) (σ : aH) (post : Option Value → aH → Prop) : Prop := AMet yX11_init cX11_init 1 none lv mc ms args σ post
theorem sX11_init {lv mc ms : Nat} {args : List Value} {σ : aH} {post : Option Value → aH → Prop} (hlen : (aEn args).length ≤ 1) (h : GX11_init lv mc ms post 0 0 0 (aL0 1 args) [] σ) : MX11_init lv mc ms args σ post := AMet_of_G (by decide +kernel) hlen h
abbrev GX11_letter (lv mc ms : Nat) (post : Option Value → aH → Prop) (k n pc : Nat) (L : List (Option Value)) (S : List Value) (σ : aH) : Prop := G yX11_letter cX11_letter 2 (some .int) lv mc ms post k n pc L S σ
abbrev MX11_letter (lv mc ms : Nat) (args : List Value) (σ : aH) (post : Option Value → aH → Prop) : Prop := AMet yX11_letter cX11_letter 2 (some .int) lv mc ms args σ post
theorem sX11_letter {lv mc ms : Nat} {args : List Value} {σ : aH} {post : Option Value → aH → Prop} (hlen : (aEn args).length ≤ 2) (h : GX11_letter lv mc ms post 0 0 0 (aL0 2 args) [] σ) : MX11_letter lv mc ms args σ post := AMet_of_G (by decide +kernel) hlen h
abbrev GX11_fault (lv mc ms : Nat) (post : Option Value → aH → Prop) (k n pc : Nat) (L : List (Option Value)) (S : List Value) (σ : aH) : Prop := G yX11_fault cX11_fault 1 (some .int) lv mc ms post k n pc L S σ
abbrev MX11_fault (lv mc ms : Nat) (args : List Value) (σ : aH) (post : Option Value → aH → Prop) : Prop := AMet yX11_fault cX11_fault 1 (some .int) lv mc ms args σ post
theorem sX11_fault {lv mc ms : Nat} {args : List Value} {σ : aH} {post : Option Value → aH → Prop} (hlen : (aEn args).length ≤ 1) (h : GX11_fault lv mc ms post 0 0 0 (aL0 1 args) [] σ) : MX11_fault lv mc ms args σ post := AMet_of_G (by decide +kernel) hlen h
abbrev GX11_court (lv mc ms : Nat) (post : Option Value → aH → Prop) (k n pc : Nat) (L : List (Option Value)) (S : List Value) (σ : aH) : Prop := G yX11_court cX11_court 1 (some .int) lv mc ms post k n pc L S σ
abbrev MX11_court (lv mc ms : Nat) (args : List Value) (σ : aH) (post : Option Value → aH → Prop) : Prop := AMet yX11_court cX11_court 1 (some .int) lv mc ms args σ post
theorem sX11_court {lv mc ms : Nat} {args : List Value} {σ : aH} {post : Option Value → aH → Prop} (hlen : (aEn args).length ≤ 1) (h : GX11_court lv mc ms post 0 0 0 (aL0 1 args) [] σ) : MX11_court lv mc ms args σ post := AMet_of_G (by decide +kernel) hlen h
abbrev GX11_near (lv mc ms : Nat) (post : Option Value → aH → Prop) (k n pc : Nat) (L : List (Option Value)) (S : List Value) (σ : aH) : Prop := G yX11_near cX11_near 2 (some .int) lv mc ms post k n pc L S σ
abbrev MX11_near (lv mc ms : Nat) (args : List Value) (σ : aH) (post : Option Value → aH → Prop) : Prop := AMet yX11_near cX11_near 2 (some .int) lv mc ms args σ post
theorem sX11_near {lv mc ms : Nat} {args : List Value} {σ : aH} {post : Option Value → aH → Prop} (hlen : (aEn args).length ≤ 2) (h : GX11_near lv mc ms post 0 0 0 (aL0 2 args) [] σ) : MX11_near lv mc ms args σ post := AMet_of_G (by decide +kernel) hlen h
abbrev GX11_word (lv mc ms : Nat) (post : Option Value → aH → Prop) (k n pc : Nat) (L : List (Option Value)) (S : List Value) (σ : aH) : Prop := G yX11_word cX11_word 2 (some .int) lv mc ms post k n pc L S σ
abbrev MX11_word (lv mc ms : Nat) (args : List Value) (σ : aH) (post : Option Value → aH → Prop) : Prop := AMet yX11_word cX11_word 2 (some .int) lv mc ms args σ post
theorem sX11_word {lv mc ms : Nat} {args : List Value} {σ : aH} {post : Option Value → aH → Prop} (hlen : (aEn args).length ≤ 2) (h : GX11_word lv mc ms post 0 0 0 (aL0 2 args) [] σ) : MX11_word lv mc ms args σ post := AMet_of_G (by decide +kernel) hlen h
abbrev GX11_put (lv mc ms : Nat) (post : Option Value → aH → Prop) (k n pc : Nat) (L : List (Option Value)) (S : List Value) (σ : aH) : Prop := G yX11_put cX11_put 4 (some .int) lv mc ms post k n pc L S σ
abbrev MX11_put (lv mc ms : Nat) (args : List Value) (σ : aH) (post : Option Value → aH → Prop) : Prop := AMet yX11_put cX11_put 4 (some .int) lv mc ms args σ post
theorem sX11_put {lv mc ms : Nat} {args : List Value} {σ : aH} {post : Option Value → aH → Prop} (hlen : (aEn args).length ≤ 4) (h : GX11_put lv mc ms post 0 0 0 (aL0 4 args) [] σ) : MX11_put lv mc ms args σ post := AMet_of_G (by decide +kernel) hlen h
abbrev GX11_limit (lv mc ms : Nat) (post : Option Value → aH → Prop) (k n pc : Nat) (L : List (Option Value)) (S : List Value) (σ : aH) : Prop := G yX11_limit cX11_limit 3 (some .int) lv mc ms post k n pc L S σ
abbrev MX11_limit (lv mc ms : Nat) (args : List Value) (σ : aH) (post : Option Value → aH → Prop) : Prop := AMet yX11_limit cX11_limit 3 (some .int) lv mc ms args σ post
theorem sX11_limit {lv mc ms : Nat} {args : List Value} {σ : aH} {post : Option Value → aH → Prop} (hlen : (aEn args).length ≤ 3) (h : GX11_limit lv mc ms post 0 0 0 (aL0 3 args) [] σ) : MX11_limit lv mc ms args σ post := AMet_of_G (by decide +kernel) hlen h
abbrev GX11_accuse (lv mc ms : Nat) (post : Option Value → aH → Prop) (k n pc : Nat) (L : List (Option Value)) (S : List Value) (σ : aH) : Prop := G yX11_accuse cX11_accuse 4 (some .int) lv mc ms post k n pc L S σ
abbrev MX11_accuse (lv mc ms : Nat) (args : List Value) (σ : aH) (post : Option Value → aH → Prop) : Prop := AMet yX11_accuse cX11_accuse 4 (some .int) lv mc ms args σ post
theorem sX11_accuse {lv mc ms : Nat} {args : List Value} {σ : aH} {post : Option Value → aH → Prop} (hlen : (aEn args).length ≤ 4) (h : GX11_accuse lv mc ms post 0 0 0 (aL0 4 args) [] σ) : MX11_accuse lv mc ms args σ post := AMet_of_G (by decide +kernel) hlen h
abbrev GX11_about (lv mc ms : Nat) (post : Option Value → aH → Prop) (k n pc : Nat) (L : List (Option Value)) (S : List Value) (σ : aH) : Prop := G yX11_about cX11_about 4 (some .int) lv mc ms post k n pc L S σ
abbrev MX11_about (lv mc ms : Nat) (args : List Value) (σ : aH) (post : Option Value → aH → Prop) : Prop := AMet yX11_about cX11_about 4 (some .int) lv mc ms args σ post
theorem sX11_about {lv mc ms : Nat} {args : List Value} {σ : aH} {post : Option Value → aH → Prop} (hlen : (aEn args).length ≤ 4) (h : GX11_about lv mc ms post 0 0 0 (aL0 4 args) [] σ) : MX11_about lv mc ms args σ post := AMet_of_G (by decide +kernel) hlen h
abbrev GX11_as (lv mc ms : Nat) (post : Option Value → aH → Prop) (k n pc : Nat) (L : List (Option Value)) (S : List Value) (σ : aH) : Prop := G yX11_as cX11_as 4 (some .int) lv mc ms post k n pc L S σ
abbrev MX11_as (lv mc ms : Nat) (args : List Value) (σ : aH) (post : Option Value → aH → Prop) : Prop := AMet yX11_as cX11_as 4 (some .int) lv mc ms args σ post
theorem sX11_as {lv mc ms : Nat} {args : List Value} {σ : aH} {post : Option Value → aH → Prop} (hlen : (aEn args).length ≤ 4) (h : GX11_as lv mc ms post 0 0 0 (aL0 4 args) [] σ) : MX11_as lv mc ms args σ post := AMet_of_G (by decide +kernel) hlen h
abbrev GX11_lesson (lv mc ms : Nat) (post : Option Value → aH → Prop) (k n pc : Nat) (L : List (Option Value)) (S : List Value) (σ : aH) : Prop := G yX11_lesson cX11_lesson 4 (some .int) lv mc ms post k n pc L S σ
abbrev MX11_lesson (lv mc ms : Nat) (args : List Value) (σ : aH) (post : Option Value → aH → Prop) : Prop := AMet yX11_lesson cX11_lesson 4 (some .int) lv mc ms args σ post
theorem sX11_lesson {lv mc ms : Nat} {args : List Value} {σ : aH} {post : Option Value → aH → Prop} (hlen : (aEn args).length ≤ 4) (h : GX11_lesson lv mc ms post 0 0 0 (aL0 4 args) [] σ) : MX11_lesson lv mc ms args σ post := AMet_of_G (by decide +kernel) hlen h
abbrev GX11_unlearn (lv mc ms : Nat) (post : Option Value → aH → Prop) (k n pc : Nat) (L : List (Option Value)) (S : List Value) (σ : aH) : Prop := G yX11_unlearn cX11_unlearn 3 (some .int) lv mc ms post k n pc L S σ
abbrev MX11_unlearn (lv mc ms : Nat) (args : List Value) (σ : aH) (post : Option Value → aH → Prop) : Prop := AMet yX11_unlearn cX11_unlearn 3 (some .int) lv mc ms args σ post
theorem sX11_unlearn {lv mc ms : Nat} {args : List Value} {σ : aH} {post : Option Value → aH → Prop} (hlen : (aEn args).length ≤ 3) (h : GX11_unlearn lv mc ms post 0 0 0 (aL0 3 args) [] σ) : MX11_unlearn lv mc ms args σ post := AMet_of_G (by decide +kernel) hlen h
abbrev GX11_trials (lv mc ms : Nat) (post : Option Value → aH → Prop) (k n pc : Nat) (L : List (Option Value)) (S : List Value) (σ : aH) : Prop := G yX11_trials cX11_trials 8 (some .int) lv mc ms post k n pc L S σ
abbrev MX11_trials (lv mc ms : Nat) (args : List Value) (σ : aH) (post : Option Value → aH → Prop) : Prop := AMet yX11_trials cX11_trials 8 (some .int) lv mc ms args σ post
theorem sX11_trials {lv mc ms : Nat} {args : List Value} {σ : aH} {post : Option Value → aH → Prop} (hlen : (aEn args).length ≤ 8) (h : GX11_trials lv mc ms post 0 0 0 (aL0 8 args) [] σ) : MX11_trials lv mc ms args σ post := AMet_of_G (by decide +kernel) hlen h
abbrev GX11_count (lv mc ms : Nat) (post : Option Value → aH → Prop) (k n pc : Nat) (L : List (Option Value)) (S : List Value) (σ : aH) : Prop := G yX11_count cX11_count 2 (some .int) lv mc ms post k n pc L S σ
abbrev MX11_count (lv mc ms : Nat) (args : List Value) (σ : aH) (post : Option Value → aH → Prop) : Prop := AMet yX11_count cX11_count 2 (some .int) lv mc ms args σ post
theorem sX11_count {lv mc ms : Nat} {args : List Value} {σ : aH} {post : Option Value → aH → Prop} (hlen : (aEn args).length ≤ 2) (h : GX11_count lv mc ms post 0 0 0 (aL0 2 args) [] σ) : MX11_count lv mc ms args σ post := AMet_of_G (by decide +kernel) hlen h
abbrev GX11_hasCourt (lv mc ms : Nat) (post : Option Value → aH → Prop) (k n pc : Nat) (L : List (Option Value)) (S : List Value) (σ : aH) : Prop := G yX11_hasCourt cX11_hasCourt 1 (some .boolean) lv mc ms post k n pc L S σ
abbrev MX11_hasCourt (lv mc ms : Nat) (args : List Value) (σ : aH) (post : Option Value → aH → Prop) : Prop := AMet yX11_hasCourt cX11_hasCourt 1 (some .boolean) lv mc ms args σ post
theorem sX11_hasCourt {lv mc ms : Nat} {args : List Value} {σ : aH} {post : Option Value → aH → Prop} (hlen : (aEn args).length ≤ 1) (h : GX11_hasCourt lv mc ms post 0 0 0 (aL0 1 args) [] σ) : MX11_hasCourt lv mc ms args σ post := AMet_of_G (by decide +kernel) hlen h
abbrev GX11_isAccused (lv mc ms : Nat) (post : Option Value → aH → Prop) (k n pc : Nat) (L : List (Option Value)) (S : List Value) (σ : aH) : Prop := G yX11_isAccused cX11_isAccused 2 (some .boolean) lv mc ms post k n pc L S σ
abbrev MX11_isAccused (lv mc ms : Nat) (args : List Value) (σ : aH) (post : Option Value → aH → Prop) : Prop := AMet yX11_isAccused cX11_isAccused 2 (some .boolean) lv mc ms args σ post
theorem sX11_isAccused {lv mc ms : Nat} {args : List Value} {σ : aH} {post : Option Value → aH → Prop} (hlen : (aEn args).length ≤ 2) (h : GX11_isAccused lv mc ms post 0 0 0 (aL0 2 args) [] σ) : MX11_isAccused lv mc ms args σ post := AMet_of_G (by decide +kernel) hlen h
abbrev GX11_isWord (lv mc ms : Nat) (post : Option Value → aH → Prop) (k n pc : Nat) (L : List (Option Value)) (S : List Value) (σ : aH) : Prop := G yX11_isWord cX11_isWord 1 (some .boolean) lv mc ms post k n pc L S σ
abbrev MX11_isWord (lv mc ms : Nat) (args : List Value) (σ : aH) (post : Option Value → aH → Prop) : Prop := AMet yX11_isWord cX11_isWord 1 (some .boolean) lv mc ms args σ post
theorem sX11_isWord {lv mc ms : Nat} {args : List Value} {σ : aH} {post : Option Value → aH → Prop} (hlen : (aEn args).length ≤ 1) (h : GX11_isWord lv mc ms post 0 0 0 (aL0 1 args) [] σ) : MX11_isWord lv mc ms args σ post := AMet_of_G (by decide +kernel) hlen h
abbrev GX11_isKind (lv mc ms : Nat) (post : Option Value → aH → Prop) (k n pc : Nat) (L : List (Option Value)) (S : List Value) (σ : aH) : Prop := G yX11_isKind cX11_isKind 1 (some .boolean) lv mc ms post k n pc L S σ
abbrev MX11_isKind (lv mc ms : Nat) (args : List Value) (σ : aH) (post : Option Value → aH → Prop) : Prop := AMet yX11_isKind cX11_isKind 1 (some .boolean) lv mc ms args σ post
theorem sX11_isKind {lv mc ms : Nat} {args : List Value} {σ : aH} {post : Option Value → aH → Prop} (hlen : (aEn args).length ≤ 1) (h : GX11_isKind lv mc ms post 0 0 0 (aL0 1 args) [] σ) : MX11_isKind lv mc ms args σ post := AMet_of_G (by decide +kernel) hlen h
abbrev GX11_manOf (lv mc ms : Nat) (post : Option Value → aH → Prop) (k n pc : Nat) (L : List (Option Value)) (S : List Value) (σ : aH) : Prop := G yX11_manOf cX11_manOf 2 (some (.object "ReadAloud$Man")) lv mc ms post k n pc L S σ
abbrev MX11_manOf (lv mc ms : Nat) (args : List Value) (σ : aH) (post : Option Value → aH → Prop) : Prop := AMet yX11_manOf cX11_manOf 2 (some (.object "ReadAloud$Man")) lv mc ms args σ post
theorem sX11_manOf {lv mc ms : Nat} {args : List Value} {σ : aH} {post : Option Value → aH → Prop} (hlen : (aEn args).length ≤ 2) (h : GX11_manOf lv mc ms post 0 0 0 (aL0 2 args) [] σ) : MX11_manOf lv mc ms args σ post := AMet_of_G (by decide +kernel) hlen h
abbrev GX11_deedOf (lv mc ms : Nat) (post : Option Value → aH → Prop) (k n pc : Nat) (L : List (Option Value)) (S : List Value) (σ : aH) : Prop := G yX11_deedOf cX11_deedOf 3 (some .int) lv mc ms post k n pc L S σ
abbrev MX11_deedOf (lv mc ms : Nat) (args : List Value) (σ : aH) (post : Option Value → aH → Prop) : Prop := AMet yX11_deedOf cX11_deedOf 3 (some .int) lv mc ms args σ post
theorem sX11_deedOf {lv mc ms : Nat} {args : List Value} {σ : aH} {post : Option Value → aH → Prop} (hlen : (aEn args).length ≤ 3) (h : GX11_deedOf lv mc ms post 0 0 0 (aL0 3 args) [] σ) : MX11_deedOf lv mc ms args σ post := AMet_of_G (by decide +kernel) hlen h
abbrev GX11_hiddenBy (lv mc ms : Nat) (post : Option Value → aH → Prop) (k n pc : Nat) (L : List (Option Value)) (S : List Value) (σ : aH) : Prop := G yX11_hiddenBy cX11_hiddenBy 2 (some .int) lv mc ms post k n pc L S σ
abbrev MX11_hiddenBy (lv mc ms : Nat) (args : List Value) (σ : aH) (post : Option Value → aH → Prop) : Prop := AMet yX11_hiddenBy cX11_hiddenBy 2 (some .int) lv mc ms args σ post
theorem sX11_hiddenBy {lv mc ms : Nat} {args : List Value} {σ : aH} {post : Option Value → aH → Prop} (hlen : (aEn args).length ≤ 2) (h : GX11_hiddenBy lv mc ms post 0 0 0 (aL0 2 args) [] σ) : MX11_hiddenBy lv mc ms args σ post := AMet_of_G (by decide +kernel) hlen h
abbrev GX11_manOfKind (lv mc ms : Nat) (post : Option Value → aH → Prop) (k n pc : Nat) (L : List (Option Value)) (S : List Value) (σ : aH) : Prop := G yX11_manOfKind cX11_manOfKind 2 (some (.object "ReadAloud$Man")) lv mc ms post k n pc L S σ
abbrev MX11_manOfKind (lv mc ms : Nat) (args : List Value) (σ : aH) (post : Option Value → aH → Prop) : Prop := AMet yX11_manOfKind cX11_manOfKind 2 (some (.object "ReadAloud$Man")) lv mc ms args σ post
theorem sX11_manOfKind {lv mc ms : Nat} {args : List Value} {σ : aH} {post : Option Value → aH → Prop} (hlen : (aEn args).length ≤ 2) (h : GX11_manOfKind lv mc ms post 0 0 0 (aL0 2 args) [] σ) : MX11_manOfKind lv mc ms args σ post := AMet_of_G (by decide +kernel) hlen h
abbrev GX11_isOfKind (lv mc ms : Nat) (post : Option Value → aH → Prop) (k n pc : Nat) (L : List (Option Value)) (S : List Value) (σ : aH) : Prop := G yX11_isOfKind cX11_isOfKind 2 (some .boolean) lv mc ms post k n pc L S σ
abbrev MX11_isOfKind (lv mc ms : Nat) (args : List Value) (σ : aH) (post : Option Value → aH → Prop) : Prop := AMet yX11_isOfKind cX11_isOfKind 2 (some .boolean) lv mc ms args σ post
theorem sX11_isOfKind {lv mc ms : Nat} {args : List Value} {σ : aH} {post : Option Value → aH → Prop} (hlen : (aEn args).length ≤ 2) (h : GX11_isOfKind lv mc ms post 0 0 0 (aL0 2 args) [] σ) : MX11_isOfKind lv mc ms args σ post := AMet_of_G (by decide +kernel) hlen h
abbrev GX11_readCourt (lv mc ms : Nat) (post : Option Value → aH → Prop) (k n pc : Nat) (L : List (Option Value)) (S : List Value) (σ : aH) : Prop := G yX11_readCourt cX11_readCourt 4 none lv mc ms post k n pc L S σ
abbrev MX11_readCourt (lv mc ms : Nat) (args : List Value) (σ : aH) (post : Option Value → aH → Prop) : Prop := AMet yX11_readCourt cX11_readCourt 4 none lv mc ms args σ post
theorem sX11_readCourt {lv mc ms : Nat} {args : List Value} {σ : aH} {post : Option Value → aH → Prop} (hlen : (aEn args).length ≤ 4) (h : GX11_readCourt lv mc ms post 0 0 0 (aL0 4 args) [] σ) : MX11_readCourt lv mc ms args σ post := AMet_of_G (by decide +kernel) hlen h
abbrev GX11_wouldAlter (lv mc ms : Nat) (post : Option Value → aH → Prop) (k n pc : Nat) (L : List (Option Value)) (S : List Value) (σ : aH) : Prop := G yX11_wouldAlter cX11_wouldAlter 7 (some .int) lv mc ms post k n pc L S σ
abbrev MX11_wouldAlter (lv mc ms : Nat) (args : List Value) (σ : aH) (post : Option Value → aH → Prop) : Prop := AMet yX11_wouldAlter cX11_wouldAlter 7 (some .int) lv mc ms args σ post
theorem sX11_wouldAlter {lv mc ms : Nat} {args : List Value} {σ : aH} {post : Option Value → aH → Prop} (hlen : (aEn args).length ≤ 7) (h : GX11_wouldAlter lv mc ms post 0 0 0 (aL0 7 args) [] σ) : MX11_wouldAlter lv mc ms args σ post := AMet_of_G (by decide +kernel) hlen h
abbrev GX11_alteredBy (lv mc ms : Nat) (post : Option Value → aH → Prop) (k n pc : Nat) (L : List (Option Value)) (S : List Value) (σ : aH) : Prop := G yX11_alteredBy cX11_alteredBy 3 (some .int) lv mc ms post k n pc L S σ
abbrev MX11_alteredBy (lv mc ms : Nat) (args : List Value) (σ : aH) (post : Option Value → aH → Prop) : Prop := AMet yX11_alteredBy cX11_alteredBy 3 (some .int) lv mc ms args σ post
theorem sX11_alteredBy {lv mc ms : Nat} {args : List Value} {σ : aH} {post : Option Value → aH → Prop} (hlen : (aEn args).length ≤ 3) (h : GX11_alteredBy lv mc ms post 0 0 0 (aL0 3 args) [] σ) : MX11_alteredBy lv mc ms args σ post := AMet_of_G (by decide +kernel) hlen h
abbrev GX11_hangingAt (lv mc ms : Nat) (post : Option Value → aH → Prop) (k n pc : Nat) (L : List (Option Value)) (S : List Value) (σ : aH) : Prop := G yX11_hangingAt cX11_hangingAt 4 (some .int) lv mc ms post k n pc L S σ
abbrev MX11_hangingAt (lv mc ms : Nat) (args : List Value) (σ : aH) (post : Option Value → aH → Prop) : Prop := AMet yX11_hangingAt cX11_hangingAt 4 (some .int) lv mc ms args σ post
theorem sX11_hangingAt {lv mc ms : Nat} {args : List Value} {σ : aH} {post : Option Value → aH → Prop} (hlen : (aEn args).length ≤ 4) (h : GX11_hangingAt lv mc ms post 0 0 0 (aL0 4 args) [] σ) : MX11_hangingAt lv mc ms args σ post := AMet_of_G (by decide +kernel) hlen h
abbrev GX11_allAltering (lv mc ms : Nat) (post : Option Value → aH → Prop) (k n pc : Nat) (L : List (Option Value)) (S : List Value) (σ : aH) : Prop := G yX11_allAltering cX11_allAltering 4 (some .int) lv mc ms post k n pc L S σ
abbrev MX11_allAltering (lv mc ms : Nat) (args : List Value) (σ : aH) (post : Option Value → aH → Prop) : Prop := AMet yX11_allAltering cX11_allAltering 4 (some .int) lv mc ms args σ post
theorem sX11_allAltering {lv mc ms : Nat} {args : List Value} {σ : aH} {post : Option Value → aH → Prop} (hlen : (aEn args).length ≤ 4) (h : GX11_allAltering lv mc ms post 0 0 0 (aL0 4 args) [] σ) : MX11_allAltering lv mc ms args σ post := AMet_of_G (by decide +kernel) hlen h
abbrev GX11_deedsAltering (lv mc ms : Nat) (post : Option Value → aH → Prop) (k n pc : Nat) (L : List (Option Value)) (S : List Value) (σ : aH) : Prop := G yX11_deedsAltering cX11_deedsAltering 6 (some .int) lv mc ms post k n pc L S σ
abbrev MX11_deedsAltering (lv mc ms : Nat) (args : List Value) (σ : aH) (post : Option Value → aH → Prop) : Prop := AMet yX11_deedsAltering cX11_deedsAltering 6 (some .int) lv mc ms args σ post
theorem sX11_deedsAltering {lv mc ms : Nat} {args : List Value} {σ : aH} {post : Option Value → aH → Prop} (hlen : (aEn args).length ≤ 6) (h : GX11_deedsAltering lv mc ms post 0 0 0 (aL0 6 args) [] σ) : MX11_deedsAltering lv mc ms args σ post := AMet_of_G (by decide +kernel) hlen h
abbrev GX11_placeToListen (lv mc ms : Nat) (post : Option Value → aH → Prop) (k n pc : Nat) (L : List (Option Value)) (S : List Value) (σ : aH) : Prop := G yX11_placeToListen cX11_placeToListen 8 (some .int) lv mc ms post k n pc L S σ
abbrev MX11_placeToListen (lv mc ms : Nat) (args : List Value) (σ : aH) (post : Option Value → aH → Prop) : Prop := AMet yX11_placeToListen cX11_placeToListen 8 (some .int) lv mc ms args σ post
theorem sX11_placeToListen {lv mc ms : Nat} {args : List Value} {σ : aH} {post : Option Value → aH → Prop} (hlen : (aEn args).length ≤ 8) (h : GX11_placeToListen lv mc ms post 0 0 0 (aL0 8 args) [] σ) : MX11_placeToListen lv mc ms args σ post := AMet_of_G (by decide +kernel) hlen h
abbrev GX11_drawSheet (lv mc ms : Nat) (post : Option Value → aH → Prop) (k n pc : Nat) (L : List (Option Value)) (S : List Value) (σ : aH) : Prop := G yX11_drawSheet cX11_drawSheet 4 (some .int) lv mc ms post k n pc L S σ
abbrev MX11_drawSheet (lv mc ms : Nat) (args : List Value) (σ : aH) (post : Option Value → aH → Prop) : Prop := AMet yX11_drawSheet cX11_drawSheet 4 (some .int) lv mc ms args σ post
theorem sX11_drawSheet {lv mc ms : Nat} {args : List Value} {σ : aH} {post : Option Value → aH → Prop} (hlen : (aEn args).length ≤ 4) (h : GX11_drawSheet lv mc ms post 0 0 0 (aL0 4 args) [] σ) : MX11_drawSheet lv mc ms args σ post := AMet_of_G (by decide +kernel) hlen h
abbrev GJ6_bitCount_0f7a4 (lv mc ms : Nat) (post : Option Value → aH → Prop) (k n pc : Nat) (L : List (Option Value)) (S : List Value) (σ : aH) : Prop := G yJ6_bitCount_0f7a4 cJ6_bitCount_0f7a4 1 (some .int) lv mc ms post k n pc L S σ
abbrev MJ6_bitCount_0f7a4 (lv mc ms : Nat) (args : List Value) (σ : aH) (post : Option Value → aH → Prop) : Prop := AMet yJ6_bitCount_0f7a4 cJ6_bitCount_0f7a4 1 (some .int) lv mc ms args σ post
theorem sJ6_bitCount_0f7a4 {lv mc ms : Nat} {args : List Value} {σ : aH} {post : Option Value → aH → Prop} (hlen : (aEn args).length ≤ 1) (h : GJ6_bitCount_0f7a4 lv mc ms post 0 0 0 (aL0 1 args) [] σ) : MJ6_bitCount_0f7a4 lv mc ms args σ post := AMet_of_G (by decide +kernel) hlen h
abbrev GJ9_max_7cf53 (lv mc ms : Nat) (post : Option Value → aH → Prop) (k n pc : Nat) (L : List (Option Value)) (S : List Value) (σ : aH) : Prop := G yJ9_max_7cf53 cJ9_max_7cf53 2 (some .int) lv mc ms post k n pc L S σ
abbrev GL_cell (lv mc ms : Nat) (post : Option Value → aH → Prop) (k n pc : Nat) (L : List (Option Value)) (S : List Value) (σ : aH) : Prop := G yL_cell cL_cell 2 (some .int) lv mc ms post k n pc L S σ
abbrev ML_cell (lv mc ms : Nat) (args : List Value) (σ : aH) (post : Option Value → aH → Prop) : Prop := AMet yL_cell cL_cell 2 (some .int) lv mc ms args σ post
theorem sL_cell {lv mc ms : Nat} {args : List Value} {σ : aH} {post : Option Value → aH → Prop} (hlen : (aEn args).length ≤ 2) (h : GL_cell lv mc ms post 0 0 0 (aL0 2 args) [] σ) : ML_cell lv mc ms args σ post := AMet_of_G (by decide +kernel) hlen h
abbrev GL_at (lv mc ms : Nat) (post : Option Value → aH → Prop) (k n pc : Nat) (L : List (Option Value)) (S : List Value) (σ : aH) : Prop := G yL_at cL_at 2 (some .int) lv mc ms post k n pc L S σ
abbrev ML_at (lv mc ms : Nat) (args : List Value) (σ : aH) (post : Option Value → aH → Prop) : Prop := AMet yL_at cL_at 2 (some .int) lv mc ms args σ post
theorem sL_at {lv mc ms : Nat} {args : List Value} {σ : aH} {post : Option Value → aH → Prop} (hlen : (aEn args).length ≤ 2) (h : GL_at lv mc ms post 0 0 0 (aL0 2 args) [] σ) : ML_at lv mc ms args σ post := AMet_of_G (by decide +kernel) hlen h
abbrev GL_courtText (lv mc ms : Nat) (post : Option Value → aH → Prop) (k n pc : Nat) (L : List (Option Value)) (S : List Value) (σ : aH) : Prop := G yL_courtText cL_courtText 11 (some .int) lv mc ms post k n pc L S σ
abbrev ML_courtText (lv mc ms : Nat) (args : List Value) (σ : aH) (post : Option Value → aH → Prop) : Prop := AMet yL_courtText cL_courtText 11 (some .int) lv mc ms args σ post
theorem sL_courtText {lv mc ms : Nat} {args : List Value} {σ : aH} {post : Option Value → aH → Prop} (hlen : (aEn args).length ≤ 11) (h : GL_courtText lv mc ms post 0 0 0 (aL0 11 args) [] σ) : ML_courtText lv mc ms args σ post := AMet_of_G (by decide +kernel) hlen h
abbrev GL_write (lv mc ms : Nat) (post : Option Value → aH → Prop) (k n pc : Nat) (L : List (Option Value)) (S : List Value) (σ : aH) : Prop := G yL_write cL_write 4 (some .boolean) lv mc ms post k n pc L S σ
abbrev ML_write (lv mc ms : Nat) (args : List Value) (σ : aH) (post : Option Value → aH → Prop) : Prop := AMet yL_write cL_write 4 (some .boolean) lv mc ms args σ post
theorem sL_write {lv mc ms : Nat} {args : List Value} {σ : aH} {post : Option Value → aH → Prop} (hlen : (aEn args).length ≤ 4) (h : GL_write lv mc ms post 0 0 0 (aL0 4 args) [] σ) : ML_write lv mc ms args σ post := AMet_of_G (by decide +kernel) hlen h
abbrev GL_in (lv mc ms : Nat) (post : Option Value → aH → Prop) (k n pc : Nat) (L : List (Option Value)) (S : List Value) (σ : aH) : Prop := G yL_in cL_in 2 (some .boolean) lv mc ms post k n pc L S σ
abbrev ML_in (lv mc ms : Nat) (args : List Value) (σ : aH) (post : Option Value → aH → Prop) : Prop := AMet yL_in cL_in 2 (some .boolean) lv mc ms args σ post
theorem sL_in {lv mc ms : Nat} {args : List Value} {σ : aH} {post : Option Value → aH → Prop} (hlen : (aEn args).length ≤ 2) (h : GL_in lv mc ms post 0 0 0 (aL0 2 args) [] σ) : ML_in lv mc ms args σ post := AMet_of_G (by decide +kernel) hlen h
abbrev GL_size (lv mc ms : Nat) (post : Option Value → aH → Prop) (k n pc : Nat) (L : List (Option Value)) (S : List Value) (σ : aH) : Prop := G yL_size cL_size 3 (some .int) lv mc ms post k n pc L S σ
abbrev ML_size (lv mc ms : Nat) (args : List Value) (σ : aH) (post : Option Value → aH → Prop) : Prop := AMet yL_size cL_size 3 (some .int) lv mc ms args σ post
theorem sL_size {lv mc ms : Nat} {args : List Value} {σ : aH} {post : Option Value → aH → Prop} (hlen : (aEn args).length ≤ 3) (h : GL_size lv mc ms post 0 0 0 (aL0 3 args) [] σ) : ML_size lv mc ms args σ post := AMet_of_G (by decide +kernel) hlen h
abbrev GL_come (lv mc ms : Nat) (post : Option Value → aH → Prop) (k n pc : Nat) (L : List (Option Value)) (S : List Value) (σ : aH) : Prop := G yL_come cL_come 5 (some .boolean) lv mc ms post k n pc L S σ
abbrev ML_come (lv mc ms : Nat) (args : List Value) (σ : aH) (post : Option Value → aH → Prop) : Prop := AMet yL_come cL_come 5 (some .boolean) lv mc ms args σ post
theorem sL_come {lv mc ms : Nat} {args : List Value} {σ : aH} {post : Option Value → aH → Prop} (hlen : (aEn args).length ≤ 5) (h : GL_come lv mc ms post 0 0 0 (aL0 5 args) [] σ) : ML_come lv mc ms args σ post := AMet_of_G (by decide +kernel) hlen h
abbrev GL_alters (lv mc ms : Nat) (post : Option Value → aH → Prop) (k n pc : Nat) (L : List (Option Value)) (S : List Value) (σ : aH) : Prop := G yL_alters cL_alters 9 (some .int) lv mc ms post k n pc L S σ
abbrev ML_alters (lv mc ms : Nat) (args : List Value) (σ : aH) (post : Option Value → aH → Prop) : Prop := AMet yL_alters cL_alters 9 (some .int) lv mc ms args σ post
theorem sL_alters {lv mc ms : Nat} {args : List Value} {σ : aH} {post : Option Value → aH → Prop} (hlen : (aEn args).length ≤ 9) (h : GL_alters lv mc ms post 0 0 0 (aL0 9 args) [] σ) : ML_alters lv mc ms args σ post := AMet_of_G (by decide +kernel) hlen h
abbrev GL_now (lv mc ms : Nat) (post : Option Value → aH → Prop) (k n pc : Nat) (L : List (Option Value)) (S : List Value) (σ : aH) : Prop := G yL_now cL_now 3 (some .int) lv mc ms post k n pc L S σ
abbrev ML_now (lv mc ms : Nat) (args : List Value) (σ : aH) (post : Option Value → aH → Prop) : Prop := AMet yL_now cL_now 3 (some .int) lv mc ms args σ post
theorem sL_now {lv mc ms : Nat} {args : List Value} {σ : aH} {post : Option Value → aH → Prop} (hlen : (aEn args).length ≤ 3) (h : GL_now lv mc ms post 0 0 0 (aL0 3 args) [] σ) : ML_now lv mc ms args σ post := AMet_of_G (by decide +kernel) hlen h
abbrev GL_over (lv mc ms : Nat) (post : Option Value → aH → Prop) (k n pc : Nat) (L : List (Option Value)) (S : List Value) (σ : aH) : Prop := G yL_over cL_over 3 none lv mc ms post k n pc L S σ
abbrev ML_over (lv mc ms : Nat) (args : List Value) (σ : aH) (post : Option Value → aH → Prop) : Prop := AMet yL_over cL_over 3 none lv mc ms args σ post
theorem sL_over {lv mc ms : Nat} {args : List Value} {σ : aH} {post : Option Value → aH → Prop} (hlen : (aEn args).length ≤ 3) (h : GL_over lv mc ms post 0 0 0 (aL0 3 args) [] σ) : ML_over lv mc ms args σ post := AMet_of_G (by decide +kernel) hlen h
abbrev GL_stands (lv mc ms : Nat) (post : Option Value → aH → Prop) (k n pc : Nat) (L : List (Option Value)) (S : List Value) (σ : aH) : Prop := G yL_stands cL_stands 8 (some .boolean) lv mc ms post k n pc L S σ
abbrev ML_stands (lv mc ms : Nat) (args : List Value) (σ : aH) (post : Option Value → aH → Prop) : Prop := AMet yL_stands cL_stands 8 (some .boolean) lv mc ms args σ post
theorem sL_stands {lv mc ms : Nat} {args : List Value} {σ : aH} {post : Option Value → aH → Prop} (hlen : (aEn args).length ≤ 8) (h : GL_stands lv mc ms post 0 0 0 (aL0 8 args) [] σ) : ML_stands lv mc ms args σ post := AMet_of_G (by decide +kernel) hlen h
abbrev GL_does (lv mc ms : Nat) (post : Option Value → aH → Prop) (k n pc : Nat) (L : List (Option Value)) (S : List Value) (σ : aH) : Prop := G yL_does cL_does 6 (some .boolean) lv mc ms post k n pc L S σ
abbrev ML_does (lv mc ms : Nat) (args : List Value) (σ : aH) (post : Option Value → aH → Prop) : Prop := AMet yL_does cL_does 6 (some .boolean) lv mc ms args σ post
theorem sL_does {lv mc ms : Nat} {args : List Value} {σ : aH} {post : Option Value → aH → Prop} (hlen : (aEn args).length ≤ 6) (h : GL_does lv mc ms post 0 0 0 (aL0 6 args) [] σ) : ML_does lv mc ms args σ post := AMet_of_G (by decide +kernel) hlen h
abbrev GL_law (lv mc ms : Nat) (post : Option Value → aH → Prop) (k n pc : Nat) (L : List (Option Value)) (S : List Value) (σ : aH) : Prop := G yL_law cL_law 9 (some .boolean) lv mc ms post k n pc L S σ
abbrev GL_trials (lv mc ms : Nat) (post : Option Value → aH → Prop) (k n pc : Nat) (L : List (Option Value)) (S : List Value) (σ : aH) : Prop := G yL_trials cL_trials 13 (some .boolean) lv mc ms post k n pc L S σ
abbrev ML_trials (lv mc ms : Nat) (args : List Value) (σ : aH) (post : Option Value → aH → Prop) : Prop := AMet yL_trials cL_trials 13 (some .boolean) lv mc ms args σ post
theorem sL_trials {lv mc ms : Nat} {args : List Value} {σ : aH} {post : Option Value → aH → Prop} (hlen : (aEn args).length ≤ 13) (h : GL_trials lv mc ms post 0 0 0 (aL0 13 args) [] σ) : ML_trials lv mc ms args σ post := AMet_of_G (by decide +kernel) hlen h
end
section
/-! rows over numbers -/
theorem nA_and (a b : Nat) : nI a &&& nI b = nI (a &&& b) := by
  apply Int32.toBitVec_inj.1
  show BitVec.ofNat 32 a &&& BitVec.ofNat 32 b = BitVec.ofNat 32 (a &&& b)
  apply BitVec.eq_of_getLsbD_eq
  intro i hi
  simp [hi]
theorem nA_or (a b : Nat) : nI a ||| nI b = nI (a ||| b) := by
  apply Int32.toBitVec_inj.1
  show BitVec.ofNat 32 a ||| BitVec.ofNat 32 b = BitVec.ofNat 32 (a ||| b)
  apply BitVec.eq_of_getLsbD_eq
  intro i hi
  simp [hi]
theorem nA_xor (a b : Nat) : nI a ^^^ nI b = nI (a ^^^ b) := by
  apply Int32.toBitVec_inj.1
  show BitVec.ofNat 32 a ^^^ BitVec.ofNat 32 b = BitVec.ofNat 32 (a ^^^ b)
  apply BitVec.eq_of_getLsbD_eq
  intro i hi
  simp [hi]
theorem nA_sl : ∀ n, n < 32 → ((nI n &&& 31).toBitVec.smod 32).toNat = n := by decide +kernel
theorem nA_su : ∀ n, n < 32 → (((nI n).toUInt32 &&& Int32.toUInt32 31).toBitVec % 32).toNat = n := by decide +kernel
theorem nA_shl {a b : Nat} (hb : b < 32) (h : a * 2 ^ b < 4294967296) : nI a <<< (nI b &&& 31) = nI (a * 2 ^ b) := pk_shlN _ b (nA_sl b hb) h
theorem nA_shr {a b : Nat} (ha : a < 2147483648) (hb : b < 32) : nI a >>> (nI b &&& 31) = nI (a / 2 ^ b) := pk_shrN ha _ b (nA_sl b hb)
theorem nA_ushr {a b : Nat} (ha : a < 4294967296) (hb : b < 32) : ((nI a).toUInt32 >>> ((nI b).toUInt32 &&& Int32.toUInt32 31)).toInt32 = nI (a / 2 ^ b) := pk_ushrN ha _ b (nA_su b hb)
theorem nA_m1 : (-1 : Int32) = nI 4294967295 := by decide +kernel
theorem nA_0 : (0 : Int32) = nI 0 := rfl
theorem nA_lt0 {a : Nat} (ha : a < 2147483648) : ¬ nI a < 0 := nI_pos ha
theorem nA_eq0 {a : Nat} (ha : a < 2147483648) : nI a = 0 ↔ a = 0 := by rw [nA_0]; exact nI_eq ha (by omega)
theorem nA_le0 {a : Nat} (ha : a < 2147483648) : nI a ≤ 0 ↔ a = 0 := by rw [nA_0, nI_leI ha (by omega)]; omega
theorem nA_gt0 {a : Nat} (ha : a < 2147483648) : 0 < nI a ↔ ¬ a = 0 := by rw [nA_0, nI_ltI (by omega) ha]; omega
theorem nA_getD (ws : List Nat) (j : Nat) : (ws.map nI).getD j 0 = nI (ws.getD j 0) := by
  rw [List.getD_eq_getElem?_getD, List.getD_eq_getElem?_getD, List.getElem?_map]
  cases ws[j]? <;> rfl
theorem nA_set (ws : List Nat) (j v : Nat) : (ws.map nI).set j (nI v) = (ws.set j v).map nI := by rw [List.map_set]
theorem at_ne {σ : aH} {i j : Nat} {c d : aT} (h : i ≠ j) (hj : σ[j]? = some c) : (σ.set i d)[j]? = some c := by rw [List.getElem?_set_ne h]; exact hj
theorem at_eq {σ : aH} {i : Nat} {c d : aT} (h : σ[i]? = some c) : (σ.set i d)[i]? = some d := List.getElem?_set_self (List.getElem?_eq_some_iff.mp h).1
theorem at_pl {σ : aH} {j : Nat} {c d : aT} (h : σ[j]? = some c) : (σ ++ [d])[j]? = some c := by rw [List.getElem?_append_left (List.getElem?_eq_some_iff.mp h).1]; exact h
theorem at_pn {σ : aH} {d : aT} : (σ ++ [d])[σ.length]? = some d := by simp
theorem i_lt {x : Int32} {a : Nat} (ha : a < 2147483648) : x < nI a ↔ x.toInt < (a : Int) := by rw [Int32.lt_iff_toInt_lt, nI_toInt (by omega)]
theorem i_gt {x : Int32} {a : Nat} (ha : a < 2147483648) : nI a < x ↔ (a : Int) < x.toInt := by rw [Int32.lt_iff_toInt_lt, nI_toInt (by omega)]
theorem i_le {x : Int32} {a : Nat} (ha : a < 2147483648) : x ≤ nI a ↔ x.toInt ≤ (a : Int) := by rw [Int32.le_iff_toInt_le, nI_toInt (by omega)]
theorem i_ge {x : Int32} {a : Nat} (ha : a < 2147483648) : nI a ≤ x ↔ (a : Int) ≤ x.toInt := by rw [Int32.le_iff_toInt_le, nI_toInt (by omega)]
theorem i_eq {x : Int32} {a : Nat} (ha : a < 2147483648) : x = nI a ↔ x.toInt = (a : Int) := by rw [← Int32.toInt_inj, nI_toInt (by omega)]
theorem i_lt0 {x : Int32} : x < 0 ↔ x.toInt < 0 := i_lt (a := 0) (by decide)
theorem i_gt0 {x : Int32} : 0 < x ↔ 0 < x.toInt := i_gt (a := 0) (by decide)
theorem i_le0 {x : Int32} : x ≤ 0 ↔ x.toInt ≤ 0 := i_le (a := 0) (by decide)
theorem i_ge0 {x : Int32} : 0 ≤ x ↔ 0 ≤ x.toInt := i_ge (a := 0) (by decide)
theorem i_eq0 {x : Int32} : x = 0 ↔ x.toInt = 0 := i_eq (a := 0) (by decide)
abbrev aA (ws : List Nat) : aT := .inl (ws.map nI)
abbrev aO (ci : Nat) (fs : List Value) : aT := .inr (.inr (ci, fs))
abbrev aPu (r : Option Value) (σ : aH) : Option Value → aH → Prop := fun v σ' => v = r ∧ σ' = σ
section AN
variable {Y : MethodName} {cc : ByteArray} {nL : Nat} {rt : Option FieldType} {lv mc ms : Nat} {post : Option Value → aH → Prop} {k n pc pc' tgt : Nat} {L L' : List (Option Value)} {S S0 : List Value} {σ : aH}
theorem g_iaddN {a b : Nat} (hd : aI1 cc pc .iadd pc') (kk : G Y cc nL rt lv mc ms post k n pc' L (.int (nI (a + b)) :: S) σ) : G Y cc nL rt lv mc ms post k n pc L (.int (nI b) :: .int (nI a) :: S) σ := g_iadd hd (by rw [nI_add]; exact kk)
theorem g_imulN {a b : Nat} (hd : aI1 cc pc .imul pc') (kk : G Y cc nL rt lv mc ms post k n pc' L (.int (nI (a * b)) :: S) σ) : G Y cc nL rt lv mc ms post k n pc L (.int (nI b) :: .int (nI a) :: S) σ := g_imul hd (by rw [pk_mul]; exact kk)
theorem g_iandN {a b : Nat} (hd : aI1 cc pc .iand pc') (kk : G Y cc nL rt lv mc ms post k n pc' L (.int (nI (a &&& b)) :: S) σ) : G Y cc nL rt lv mc ms post k n pc L (.int (nI b) :: .int (nI a) :: S) σ := g_iand hd (by rw [nA_and]; exact kk)
theorem g_iorN {a b : Nat} (hd : aI1 cc pc .ior pc') (kk : G Y cc nL rt lv mc ms post k n pc' L (.int (nI (a ||| b)) :: S) σ) : G Y cc nL rt lv mc ms post k n pc L (.int (nI b) :: .int (nI a) :: S) σ := g_ior hd (by rw [nA_or]; exact kk)
theorem g_ixorN {a b : Nat} (hd : aI1 cc pc .ixor pc') (kk : G Y cc nL rt lv mc ms post k n pc' L (.int (nI (a ^^^ b)) :: S) σ) : G Y cc nL rt lv mc ms post k n pc L (.int (nI b) :: .int (nI a) :: S) σ := g_ixor hd (by rw [nA_xor]; exact kk)
theorem g_isubN {a b : Nat} (hd : aI1 cc pc .isub pc') (h : b ≤ a) (kk : G Y cc nL rt lv mc ms post k n pc' L (.int (nI (a - b)) :: S) σ) : G Y cc nL rt lv mc ms post k n pc L (.int (nI b) :: .int (nI a) :: S) σ := g_isub hd (by rw [pk_sub h]; exact kk)
theorem g_ishlN {a b : Nat} (hd : aI1 cc pc .ishl pc') (h1 : b < 32) (h2 : a * 2 ^ b < 4294967296) (kk : G Y cc nL rt lv mc ms post k n pc' L (.int (nI (a * 2 ^ b)) :: S) σ) : G Y cc nL rt lv mc ms post k n pc L (.int (nI b) :: .int (nI a) :: S) σ := g_ishl hd (by rw [nA_shl h1 h2]; exact kk)
theorem g_ishrN {a b : Nat} (hd : aI1 cc pc .ishr pc') (h1 : a < 2147483648) (h2 : b < 32) (kk : G Y cc nL rt lv mc ms post k n pc' L (.int (nI (a / 2 ^ b)) :: S) σ) : G Y cc nL rt lv mc ms post k n pc L (.int (nI b) :: .int (nI a) :: S) σ := g_ishr hd (by rw [nA_shr h1 h2]; exact kk)
theorem g_iushrN {a b : Nat} (hd : aI1 cc pc .iushr pc') (h1 : a < 4294967296) (h2 : b < 32) (kk : G Y cc nL rt lv mc ms post k n pc' L (.int (nI (a / 2 ^ b)) :: S) σ) : G Y cc nL rt lv mc ms post k n pc L (.int (nI b) :: .int (nI a) :: S) σ := g_iushr hd (by rw [nA_ushr h1 h2]; exact kk)
theorem g_idivN {a b : Nat} (hd : aI1 cc pc .idiv pc') (h1 : a < 2147483648) (h2 : 0 < b) (h3 : b < 2147483648) (kk : G Y cc nL rt lv mc ms post k n pc' L (.int (nI (a / b)) :: S) σ) : G Y cc nL rt lv mc ms post k n pc L (.int (nI b) :: .int (nI a) :: S) σ := g_idiv hd (nI_ne0 h2 h3) (by rw [pk_div h1 h2 h3]; exact kk)
theorem g_iremN {a b : Nat} (hd : aI1 cc pc .irem pc') (h1 : a < 2147483648) (h2 : 0 < b) (h3 : b < 2147483648) (kk : G Y cc nL rt lv mc ms post k n pc' L (.int (nI (a % b)) :: S) σ) : G Y cc nL rt lv mc ms post k n pc L (.int (nI b) :: .int (nI a) :: S) σ := g_irem hd (nI_ne0 h2 h3) (by rw [pk_rem h1 h2 h3]; exact kk)
theorem g_iincN {i a b : Nat} (hd : aII cc pc i (nI b) pc') (hx : L[i]? = some (some (.int (nI a)))) (hi : aSto1 L i (.int (nI (a + b))) = some L') (kk : G Y cc nL rt lv mc ms post k n pc' L' S σ) : G Y cc nL rt lv mc ms post k n pc L S σ := g_iinc hd hx (by rw [nI_add]; exact hi) kk
theorem g_if_eqN {a : Nat} (hd : aIf_eq cc pc pc' tgt) (ha : a < 2147483648) (kt : a = 0 → G Y cc nL rt lv mc ms post k n tgt L S σ) (kf : ¬ a = 0 → G Y cc nL rt lv mc ms post k n pc' L S σ) : G Y cc nL rt lv mc ms post k n pc L (.int (nI a) :: S) σ := g_if_eq hd (fun h => kt ((nA_eq0 ha).mp h)) (fun h => kf (fun z => h ((nA_eq0 ha).mpr z)))
theorem g_if_leN {a : Nat} (hd : aIf_le cc pc pc' tgt) (ha : a < 2147483648) (kt : a = 0 → G Y cc nL rt lv mc ms post k n tgt L S σ) (kf : ¬ a = 0 → G Y cc nL rt lv mc ms post k n pc' L S σ) : G Y cc nL rt lv mc ms post k n pc L (.int (nI a) :: S) σ := g_if_le hd (fun h => kt ((nA_le0 ha).mp h)) (fun h => kf (fun z => h ((nA_le0 ha).mpr z)))
theorem g_if_gtN {a : Nat} (hd : aIf_gt cc pc pc' tgt) (ha : a < 2147483648) (kt : ¬ a = 0 → G Y cc nL rt lv mc ms post k n tgt L S σ) (kf : a = 0 → G Y cc nL rt lv mc ms post k n pc' L S σ) : G Y cc nL rt lv mc ms post k n pc L (.int (nI a) :: S) σ := g_if_gt hd (fun h => kt ((nA_gt0 ha).mp h)) (fun h => kf (Classical.byContradiction fun z => h ((nA_gt0 ha).mpr z)))
theorem g_if_neN {a : Nat} (hd : aIf_ne cc pc pc' tgt) (ha : a < 2147483648) (kt : ¬ a = 0 → G Y cc nL rt lv mc ms post k n tgt L S σ) (kf : a = 0 → G Y cc nL rt lv mc ms post k n pc' L S σ) : G Y cc nL rt lv mc ms post k n pc L (.int (nI a) :: S) σ := g_if_ne hd (fun h => kt (fun z => h ((nA_eq0 ha).mpr z))) (fun h => kf ((nA_eq0 ha).mp h))
theorem g_if_ltN {a : Nat} (hd : aIf_lt cc pc pc' tgt) (ha : a < 2147483648) (kf : G Y cc nL rt lv mc ms post k n pc' L S σ) : G Y cc nL rt lv mc ms post k n pc L (.int (nI a) :: S) σ := g_if_lt hd (fun h => absurd h (nA_lt0 ha)) (fun _ => kf)
theorem g_if_geN {a : Nat} (hd : aIf_ge cc pc pc' tgt) (ha : a < 2147483648) (kt : G Y cc nL rt lv mc ms post k n tgt L S σ) : G Y cc nL rt lv mc ms post k n pc L (.int (nI a) :: S) σ := g_if_ge hd (fun _ => kt) (fun h => absurd (nI_pos' ha) h)
theorem g_icmp_eqN {a b : Nat} (hd : aIc_eq cc pc pc' tgt) (ha : a < 2147483648) (hb : b < 2147483648) (kt : a = b → G Y cc nL rt lv mc ms post k n tgt L S σ) (kf : ¬ a = b → G Y cc nL rt lv mc ms post k n pc' L S σ) : G Y cc nL rt lv mc ms post k n pc L (.int (nI b) :: .int (nI a) :: S) σ := g_icmp_eq hd (fun h => kt ((nI_eq ha hb).mp h)) (fun h => kf (fun z => h ((nI_eq ha hb).mpr z)))
theorem g_icmp_neN {a b : Nat} (hd : aIc_ne cc pc pc' tgt) (ha : a < 2147483648) (hb : b < 2147483648) (kt : ¬ a = b → G Y cc nL rt lv mc ms post k n tgt L S σ) (kf : a = b → G Y cc nL rt lv mc ms post k n pc' L S σ) : G Y cc nL rt lv mc ms post k n pc L (.int (nI b) :: .int (nI a) :: S) σ := g_icmp_ne hd (fun h => kt (fun z => h ((nI_eq ha hb).mpr z))) (fun h => kf ((nI_eq ha hb).mp h))
theorem g_icmp_ltN {a b : Nat} (hd : aIc_lt cc pc pc' tgt) (ha : a < 2147483648) (hb : b < 2147483648) (kt : a < b → G Y cc nL rt lv mc ms post k n tgt L S σ) (kf : b ≤ a → G Y cc nL rt lv mc ms post k n pc' L S σ) : G Y cc nL rt lv mc ms post k n pc L (.int (nI b) :: .int (nI a) :: S) σ := g_icmp_lt hd (fun h => kt ((nI_ltI ha hb).mp h)) (fun h => kf (Nat.not_lt.mp fun z => h ((nI_ltI ha hb).mpr z)))
theorem g_icmp_geN {a b : Nat} (hd : aIc_ge cc pc pc' tgt) (ha : a < 2147483648) (hb : b < 2147483648) (kt : b ≤ a → G Y cc nL rt lv mc ms post k n tgt L S σ) (kf : a < b → G Y cc nL rt lv mc ms post k n pc' L S σ) : G Y cc nL rt lv mc ms post k n pc L (.int (nI b) :: .int (nI a) :: S) σ := g_icmp_ge hd (fun h => kt ((nI_leI hb ha).mp h)) (fun h => kf (Nat.not_le.mp fun z => h ((nI_leI hb ha).mpr z)))
theorem g_icmp_gtN {a b : Nat} (hd : aIc_gt cc pc pc' tgt) (ha : a < 2147483648) (hb : b < 2147483648) (kt : b < a → G Y cc nL rt lv mc ms post k n tgt L S σ) (kf : a ≤ b → G Y cc nL rt lv mc ms post k n pc' L S σ) : G Y cc nL rt lv mc ms post k n pc L (.int (nI b) :: .int (nI a) :: S) σ := g_icmp_gt hd (fun h => kt ((nI_ltI hb ha).mp h)) (fun h => kf (Nat.not_lt.mp fun z => h ((nI_ltI hb ha).mpr z)))
theorem g_icmp_leN {a b : Nat} (hd : aIc_le cc pc pc' tgt) (ha : a < 2147483648) (hb : b < 2147483648) (kt : a ≤ b → G Y cc nL rt lv mc ms post k n tgt L S σ) (kf : b < a → G Y cc nL rt lv mc ms post k n pc' L S σ) : G Y cc nL rt lv mc ms post k n pc L (.int (nI b) :: .int (nI a) :: S) σ := g_icmp_le hd (fun h => kt ((nI_leI ha hb).mp h)) (fun h => kf (Nat.not_le.mp fun z => h ((nI_leI ha hb).mpr z)))
theorem g_ialdN {a j : Nat} {ws : List Nat} (hd : aI1 cc pc .iaload pc') (hσ : σ[a]? = some (aA ws)) (hj : j < ws.length) (hs : ws.length < 65536) (kk : G Y cc nL rt lv mc ms post k n pc' L (.int (nI (ws.getD j 0)) :: S) σ) : G Y cc nL rt lv mc ms post k n pc L (.int (nI j) :: .ref a :: S) σ := g_iald hd hσ (by rw [List.length_map]; exact vp_in_nI hj (by omega)) (by rw [nI_clamp (by omega), nA_getD]; exact kk)
theorem g_iastN {a j v : Nat} {ws : List Nat} (hd : aI1 cc pc .iastore pc') (hσ : σ[a]? = some (aA ws)) (hj : j < ws.length) (hs : ws.length < 65536) (kk : G Y cc nL rt lv mc ms post k n pc' L S (σ.set a (aA (ws.set j v)))) : G Y cc nL rt lv mc ms post k n pc L (.int (nI v) :: .int (nI j) :: .ref a :: S) σ := g_iast hd hσ (by rw [List.length_map]; exact vp_in_nI hj (by omega)) (by rw [nI_clamp (by omega), nA_set]; exact kk)
theorem g_ilenN {a : Nat} {ws : List Nat} (hd : aI1 cc pc .arraylength pc') (hσ : σ[a]? = some (aA ws)) (kk : G Y cc nL rt lv mc ms post k n pc' L (.int (nI ws.length) :: S) σ) : G Y cc nL rt lv mc ms post k n pc L (.ref a :: S) σ := g_ilen hd hσ (by rw [List.length_map]; exact kk)
theorem g_putI {index ci fk a : Nat} {fs : List Value} {x : Int32} (hd : aI3 cc pc (.putfield index) pc') (hf : aFl Y.cls index ci fk) (hp : aFp ci fk .int false) (hσ : σ[a]? = some (aO ci fs)) (hlt : fk < fs.length) (kk : G Y cc nL rt lv mc ms post k n pc' L S (σ.set a (aO ci (fs.set fk (.int x))))) : G Y cc nL rt lv mc ms post k n pc L (.int x :: .ref a :: S) σ := g_put hd hf hp hσ hlt (fun _ => ⟨rfl, rfl⟩) kk
theorem g_putJ {index ci fk a : Nat} {fs : List Value} {x : Int64} (hd : aI3 cc pc (.putfield index) pc') (hf : aFl Y.cls index ci fk) (hp : aFp ci fk .long false) (hσ : σ[a]? = some (aO ci fs)) (hlt : fk < fs.length) (kk : G Y cc nL rt lv mc ms post k n pc' L S (σ.set a (aO ci (fs.set fk (.long x))))) : G Y cc nL rt lv mc ms post k n pc L (.long x :: .ref a :: S) σ := g_put hd hf hp hσ hlt (fun _ => ⟨rfl, rfl⟩) kk
theorem g_putZ {index ci fk a : Nat} {fs : List Value} {x : Int32} (hd : aI3 cc pc (.putfield index) pc') (hf : aFl Y.cls index ci fk) (hp : aFp ci fk .boolean false) (hx : x = 0 ∨ x = 1) (hσ : σ[a]? = some (aO ci fs)) (hlt : fk < fs.length) (kk : G Y cc nL rt lv mc ms post k n pc' L S (σ.set a (aO ci (fs.set fk (.int x))))) : G Y cc nL rt lv mc ms post k n pc L (.int x :: .ref a :: S) σ := g_put hd hf hp hσ hlt (fun _ => by rcases hx with rfl | rfl <;> (show narrow FieldType.boolean (.int _) = .int _ ∧ fits FieldType.boolean (.int _) = true; decide +kernel)) kk
theorem g_putR {index ci fk a b : Nat} {fs : List Value} {C : String} (hd : aI3 cc pc (.putfield index) pc') (hf : aFl Y.cls index ci fk) (hp : aFp ci fk (.object C) true) (hin : Y.name = "<init>") (hdc : ∀ q : vw_C, vwCl[ci]? = some q → (q.2.1 fk).1 = Y.cls) (hσ : σ[a]? = some (aO ci fs)) (hlt : fk < fs.length) (kk : G Y cc nL rt lv mc ms post k n pc' L S (σ.set a (aO ci (fs.set fk (.ref b))))) : G Y cc nL rt lv mc ms post k n pc L (.ref b :: .ref a :: S) σ := g_putF hd hf hp hin hdc hσ hlt (fun _ => ⟨rfl, rfl⟩) kk
theorem g_putA {index ci fk a b : Nat} {fs : List Value} {t : FieldType} (hd : aI3 cc pc (.putfield index) pc') (hf : aFl Y.cls index ci fk) (hp : aFp ci fk (.array t) true) (hin : Y.name = "<init>") (hdc : ∀ q : vw_C, vwCl[ci]? = some q → (q.2.1 fk).1 = Y.cls) (hσ : σ[a]? = some (aO ci fs)) (hlt : fk < fs.length) (kk : G Y cc nL rt lv mc ms post k n pc' L S (σ.set a (aO ci (fs.set fk (.ref b))))) : G Y cc nL rt lv mc ms post k n pc L (.ref b :: .ref a :: S) σ := g_putF hd hf hp hin hdc hσ hlt (fun _ => ⟨rfl, rfl⟩) kk
theorem g_putIF {index ci fk a : Nat} {fs : List Value} {x : Int32} (hd : aI3 cc pc (.putfield index) pc') (hf : aFl Y.cls index ci fk) (hp : aFp ci fk .int true) (hin : Y.name = "<init>") (hdc : ∀ q : vw_C, vwCl[ci]? = some q → (q.2.1 fk).1 = Y.cls) (hσ : σ[a]? = some (aO ci fs)) (hlt : fk < fs.length) (kk : G Y cc nL rt lv mc ms post k n pc' L S (σ.set a (aO ci (fs.set fk (.int x))))) : G Y cc nL rt lv mc ms post k n pc L (.int x :: .ref a :: S) σ := g_putF hd hf hp hin hdc hσ hlt (fun _ => ⟨rfl, rfl⟩) kk
theorem g_maxN {a b index : Nat} (hd : aI3 cc pc (.invokestatic index) pc') (hw : Cond.methodLink Y.cls index Lib.Math.max.name ∈ aWd) (hlv : 1 ≤ lv) (hsum : (S.map fun v => v.category).sum ≤ 8) (hmc : k ≤ mc) (hms : n ≤ ms) (ha : a < 2147483648) (hb : b < 2147483648) (kk : G Y cc nL rt lv mc ms post k n pc' L (.int (nI (max a b)) :: S) σ) : G Y cc nL rt lv mc ms post k n pc L (.int (nI b) :: .int (nI a) :: S) σ := g_max hd hw hlv hsum hmc hms (by
  rw [show (if nI a < nI b then nI b else nI a) = nI (max a b) from ?_]
  · exact kk
  · by_cases h : a < b
    · rw [if_pos ((nI_ltI ha hb).mpr h), Nat.max_eq_right (by omega)]
    · rw [if_neg (fun z => h ((nI_ltI ha hb).mp z)), Nat.max_eq_left (by omega)])
theorem g_icmp_ltI {x : Int32} {a : Nat} (hd : aIc_lt cc pc pc' tgt) (ha : a < 2147483648) (kt : x.toInt < (a : Int) → G Y cc nL rt lv mc ms post k n tgt L S σ) (kf : ¬ x.toInt < (a : Int) → G Y cc nL rt lv mc ms post k n pc' L S σ) : G Y cc nL rt lv mc ms post k n pc L (.int (nI a) :: .int x :: S) σ := g_icmp_lt hd (fun h => kt ((i_lt ha).mp h)) (fun h => kf (fun z => h ((i_lt ha).mpr z)))
theorem g_if_ltI {x : Int32} (hd : aIf_lt cc pc pc' tgt) (kt : x.toInt < 0 → G Y cc nL rt lv mc ms post k n tgt L S σ) (kf : ¬ x.toInt < 0 → G Y cc nL rt lv mc ms post k n pc' L S σ) : G Y cc nL rt lv mc ms post k n pc L (.int x :: S) σ := g_if_lt hd (fun h => kt ((i_lt0).mp h)) (fun h => kf (fun z => h ((i_lt0).mpr z)))
theorem g_icmp_geI {x : Int32} {a : Nat} (hd : aIc_ge cc pc pc' tgt) (ha : a < 2147483648) (kt : (a : Int) ≤ x.toInt → G Y cc nL rt lv mc ms post k n tgt L S σ) (kf : ¬ (a : Int) ≤ x.toInt → G Y cc nL rt lv mc ms post k n pc' L S σ) : G Y cc nL rt lv mc ms post k n pc L (.int (nI a) :: .int x :: S) σ := g_icmp_ge hd (fun h => kt ((i_ge ha).mp h)) (fun h => kf (fun z => h ((i_ge ha).mpr z)))
theorem g_if_geI {x : Int32} (hd : aIf_ge cc pc pc' tgt) (kt : 0 ≤ x.toInt → G Y cc nL rt lv mc ms post k n tgt L S σ) (kf : ¬ 0 ≤ x.toInt → G Y cc nL rt lv mc ms post k n pc' L S σ) : G Y cc nL rt lv mc ms post k n pc L (.int x :: S) σ := g_if_ge hd (fun h => kt ((i_ge0).mp h)) (fun h => kf (fun z => h ((i_ge0).mpr z)))
theorem g_icmp_gtI {x : Int32} {a : Nat} (hd : aIc_gt cc pc pc' tgt) (ha : a < 2147483648) (kt : (a : Int) < x.toInt → G Y cc nL rt lv mc ms post k n tgt L S σ) (kf : ¬ (a : Int) < x.toInt → G Y cc nL rt lv mc ms post k n pc' L S σ) : G Y cc nL rt lv mc ms post k n pc L (.int (nI a) :: .int x :: S) σ := g_icmp_gt hd (fun h => kt ((i_gt ha).mp h)) (fun h => kf (fun z => h ((i_gt ha).mpr z)))
theorem g_if_gtI {x : Int32} (hd : aIf_gt cc pc pc' tgt) (kt : 0 < x.toInt → G Y cc nL rt lv mc ms post k n tgt L S σ) (kf : ¬ 0 < x.toInt → G Y cc nL rt lv mc ms post k n pc' L S σ) : G Y cc nL rt lv mc ms post k n pc L (.int x :: S) σ := g_if_gt hd (fun h => kt ((i_gt0).mp h)) (fun h => kf (fun z => h ((i_gt0).mpr z)))
theorem g_icmp_leI {x : Int32} {a : Nat} (hd : aIc_le cc pc pc' tgt) (ha : a < 2147483648) (kt : x.toInt ≤ (a : Int) → G Y cc nL rt lv mc ms post k n tgt L S σ) (kf : ¬ x.toInt ≤ (a : Int) → G Y cc nL rt lv mc ms post k n pc' L S σ) : G Y cc nL rt lv mc ms post k n pc L (.int (nI a) :: .int x :: S) σ := g_icmp_le hd (fun h => kt ((i_le ha).mp h)) (fun h => kf (fun z => h ((i_le ha).mpr z)))
theorem g_if_leI {x : Int32} (hd : aIf_le cc pc pc' tgt) (kt : x.toInt ≤ 0 → G Y cc nL rt lv mc ms post k n tgt L S σ) (kf : ¬ x.toInt ≤ 0 → G Y cc nL rt lv mc ms post k n pc' L S σ) : G Y cc nL rt lv mc ms post k n pc L (.int x :: S) σ := g_if_le hd (fun h => kt ((i_le0).mp h)) (fun h => kf (fun z => h ((i_le0).mpr z)))
theorem g_icmp_eqI {x : Int32} {a : Nat} (hd : aIc_eq cc pc pc' tgt) (ha : a < 2147483648) (kt : x.toInt = (a : Int) → G Y cc nL rt lv mc ms post k n tgt L S σ) (kf : ¬ x.toInt = (a : Int) → G Y cc nL rt lv mc ms post k n pc' L S σ) : G Y cc nL rt lv mc ms post k n pc L (.int (nI a) :: .int x :: S) σ := g_icmp_eq hd (fun h => kt ((i_eq ha).mp h)) (fun h => kf (fun z => h ((i_eq ha).mpr z)))
theorem g_if_eqI {x : Int32} (hd : aIf_eq cc pc pc' tgt) (kt : x.toInt = 0 → G Y cc nL rt lv mc ms post k n tgt L S σ) (kf : ¬ x.toInt = 0 → G Y cc nL rt lv mc ms post k n pc' L S σ) : G Y cc nL rt lv mc ms post k n pc L (.int x :: S) σ := g_if_eq hd (fun h => kt ((i_eq0).mp h)) (fun h => kf (fun z => h ((i_eq0).mpr z)))
theorem g_icmp_neI {x : Int32} {a : Nat} (hd : aIc_ne cc pc pc' tgt) (ha : a < 2147483648) (kt : ¬ x.toInt = (a : Int) → G Y cc nL rt lv mc ms post k n tgt L S σ) (kf : x.toInt = (a : Int) → G Y cc nL rt lv mc ms post k n pc' L S σ) : G Y cc nL rt lv mc ms post k n pc L (.int (nI a) :: .int x :: S) σ := g_icmp_ne hd (fun h => kt (fun z => h ((i_eq ha).mpr z))) (fun h => kf ((i_eq ha).mp h))
theorem g_if_neI {x : Int32} (hd : aIf_ne cc pc pc' tgt) (kt : ¬ x.toInt = 0 → G Y cc nL rt lv mc ms post k n tgt L S σ) (kf : x.toInt = 0 → G Y cc nL rt lv mc ms post k n pc' L S σ) : G Y cc nL rt lv mc ms post k n pc L (.int x :: S) σ := g_if_ne hd (fun h => kt (fun z => h (i_eq0.mpr z))) (fun h => kf (i_eq0.mp h))
variable {y : MethodName} {cc' : ByteArray} {nL' : Nat} {rt' : Option FieldType} {lv' : Nat} {post' : Option Value → aH → Prop} {As : List Value} {b index np : Nat}
theorem g_callV0 {ci : Nat} {fs : List Value} {r : vw_C} (hd : aI3 cc pc (.invokevirtual index) pc') (hk : aLV Y.cls index r.1 y cc' nL' rt' np) (hσ : σ[b]? = some (aO ci fs)) (hr : vwCl[ci]? = some r) (hM : AMet y cc' nL' rt' lv' 0 0 (.ref b :: As) σ post') (hst : S0 = As.reverse ++ .ref b :: S) (hnp : As.length = np) (hlv : lv' + 1 ≤ lv) (hnl : nL' ≤ 21) (hsum : (S.map fun v => v.category).sum ≤ 8) (hmc : k ≤ mc) (hms : n ≤ ms) (kk : ∀ v σ', post' v σ' → σ.length ≤ σ'.length → G Y cc nL rt lv mc ms post k n pc' L (v.toList ++ S) σ') : G Y cc nL rt lv mc ms post k n pc L S0 σ := g_callV hd hk hσ hr hM hst hnp hlv hnl hsum hmc hms kk
theorem g_callVp {ci : Nat} {fs : List Value} {r : vw_C} (hd : aI3 cc pc (.invokevirtual index) pc') (hk : aLV Y.cls index r.1 y cc' nL' rt' np) (hσ : σ[b]? = some (aO ci fs)) (hr : vwCl[ci]? = some r) {r' : Option Value} {σ2 : aH} (hM : AMet y cc' nL' rt' lv' 0 0 (.ref b :: As) σ (aPu r' σ2)) (hst : S0 = As.reverse ++ .ref b :: S) (hnp : As.length = np) (hlv : lv' + 1 ≤ lv) (hnl : nL' ≤ 21) (hsum : (S.map fun v => v.category).sum ≤ 8) (hmc : k ≤ mc) (hms : n ≤ ms) (kk : G Y cc nL rt lv mc ms post k n pc' L (r'.toList ++ S) σ2) : G Y cc nL rt lv mc ms post k n pc L S0 σ := g_callV hd hk hσ hr hM hst hnp hlv hnl hsum hmc hms (fun v σ' hp _ => by obtain ⟨rfl, rfl⟩ := hp; exact kk)
theorem g_callU0 {ci : Nat} {fs : List Value} {r : vw_C} {owner : String} {x : MethodName} (hd : aI3 cc pc (.invokevirtual index) pc') (hk : aLU Y.cls index r.1 owner x y cc' nL' rt' np) (hσ : σ[b]? = some (aO ci fs)) (hr : vwCl[ci]? = some r) (hM : AMet y cc' nL' rt' lv' 0 0 (.ref b :: As) σ post') (hst : S0 = As.reverse ++ .ref b :: S) (hnp : As.length = np) (hlv : lv' + 1 ≤ lv) (hnl : nL' ≤ 21) (hsum : (S.map fun v => v.category).sum ≤ 8) (hmc : k ≤ mc) (hms : n ≤ ms) (kk : ∀ v σ', post' v σ' → σ.length ≤ σ'.length → G Y cc nL rt lv mc ms post k n pc' L (v.toList ++ S) σ') : G Y cc nL rt lv mc ms post k n pc L S0 σ := g_callU hd hk hσ hr hM hst hnp hlv hnl hsum hmc hms kk
theorem g_callUp {ci : Nat} {fs : List Value} {r : vw_C} {owner : String} {x : MethodName} (hd : aI3 cc pc (.invokevirtual index) pc') (hk : aLU Y.cls index r.1 owner x y cc' nL' rt' np) (hσ : σ[b]? = some (aO ci fs)) (hr : vwCl[ci]? = some r) {r' : Option Value} {σ2 : aH} (hM : AMet y cc' nL' rt' lv' 0 0 (.ref b :: As) σ (aPu r' σ2)) (hst : S0 = As.reverse ++ .ref b :: S) (hnp : As.length = np) (hlv : lv' + 1 ≤ lv) (hnl : nL' ≤ 21) (hsum : (S.map fun v => v.category).sum ≤ 8) (hmc : k ≤ mc) (hms : n ≤ ms) (kk : G Y cc nL rt lv mc ms post k n pc' L (r'.toList ++ S) σ2) : G Y cc nL rt lv mc ms post k n pc L S0 σ := g_callU hd hk hσ hr hM hst hnp hlv hnl hsum hmc hms (fun v σ' hp _ => by obtain ⟨rfl, rfl⟩ := hp; exact kk)
theorem g_callSu0 {ci : Nat} {fs : List Value} {r : vw_C} (hd : aI3 cc pc (.invokespecial index) pc') (hk : aLSu Y.cls index y cc' nL' rt' np) (hσ : σ[b]? = some (aO ci fs)) (hr : vwCl[ci]? = some r) (hM : AMet y cc' nL' rt' lv' 0 0 (.ref b :: As) σ post') (hst : S0 = As.reverse ++ .ref b :: S) (hnp : As.length = np) (hlv : lv' + 1 ≤ lv) (hnl : nL' ≤ 21) (hsum : (S.map fun v => v.category).sum ≤ 8) (hmc : k ≤ mc) (hms : n ≤ ms) (kk : ∀ v σ', post' v σ' → σ.length ≤ σ'.length → G Y cc nL rt lv mc ms post k n pc' L (v.toList ++ S) σ') : G Y cc nL rt lv mc ms post k n pc L S0 σ := g_callSu hd hk hσ hr hM hst hnp hlv hnl hsum hmc hms kk
theorem g_callSup {ci : Nat} {fs : List Value} {r : vw_C} (hd : aI3 cc pc (.invokespecial index) pc') (hk : aLSu Y.cls index y cc' nL' rt' np) (hσ : σ[b]? = some (aO ci fs)) (hr : vwCl[ci]? = some r) {r' : Option Value} {σ2 : aH} (hM : AMet y cc' nL' rt' lv' 0 0 (.ref b :: As) σ (aPu r' σ2)) (hst : S0 = As.reverse ++ .ref b :: S) (hnp : As.length = np) (hlv : lv' + 1 ≤ lv) (hnl : nL' ≤ 21) (hsum : (S.map fun v => v.category).sum ≤ 8) (hmc : k ≤ mc) (hms : n ≤ ms) (kk : G Y cc nL rt lv mc ms post k n pc' L (r'.toList ++ S) σ2) : G Y cc nL rt lv mc ms post k n pc L S0 σ := g_callSu hd hk hσ hr hM hst hnp hlv hnl hsum hmc hms (fun v σ' hp _ => by obtain ⟨rfl, rfl⟩ := hp; exact kk)
theorem g_callS0 (hd : aI3 cc pc (.invokestatic index) pc') (hk : aLSt Y.cls index y cc' nL' rt' np) (hM : AMet y cc' nL' rt' lv' 0 0 As σ post') (hst : S0 = As.reverse ++ S) (hnp : As.length = np) (hlv : lv' + 1 ≤ lv) (hnl : nL' ≤ 21) (hsum : (S.map fun v => v.category).sum ≤ 8) (hmc : k ≤ mc) (hms : n ≤ ms) (kk : ∀ v σ', post' v σ' → σ.length ≤ σ'.length → G Y cc nL rt lv mc ms post k n pc' L (v.toList ++ S) σ') : G Y cc nL rt lv mc ms post k n pc L S0 σ := g_callS hd hk hM hst hnp hlv hnl hsum hmc hms kk
theorem g_callSp (hd : aI3 cc pc (.invokestatic index) pc') (hk : aLSt Y.cls index y cc' nL' rt' np) {r' : Option Value} {σ2 : aH} (hM : AMet y cc' nL' rt' lv' 0 0 As σ (aPu r' σ2)) (hst : S0 = As.reverse ++ S) (hnp : As.length = np) (hlv : lv' + 1 ≤ lv) (hnl : nL' ≤ 21) (hsum : (S.map fun v => v.category).sum ≤ 8) (hmc : k ≤ mc) (hms : n ≤ ms) (kk : G Y cc nL rt lv mc ms post k n pc' L (r'.toList ++ S) σ2) : G Y cc nL rt lv mc ms post k n pc L S0 σ := g_callS hd hk hM hst hnp hlv hnl hsum hmc hms (fun v σ' hp _ => by obtain ⟨rfl, rfl⟩ := hp; exact kk)
theorem g_callSn0 {host : String} (hd : aI3 cc pc (.invokestatic index) pc') (hk : aLSn Y.cls index y host cc' nL' rt' np) (hM : AMet y cc' nL' rt' lv' 0 0 As σ post') (hst : S0 = As.reverse ++ S) (hnp : As.length = np) (hlv : lv' + 1 ≤ lv) (hnl : nL' ≤ 21) (hsum : (S.map fun v => v.category).sum ≤ 8) (hmc : k ≤ mc) (hms : n ≤ ms) (kk : ∀ v σ', post' v σ' → σ.length ≤ σ'.length → G Y cc nL rt lv mc ms post k n pc' L (v.toList ++ S) σ') : G Y cc nL rt lv mc ms post k n pc L S0 σ := g_callSn hd hk hM hst hnp hlv hnl hsum hmc hms kk
theorem g_callSnp {host : String} (hd : aI3 cc pc (.invokestatic index) pc') (hk : aLSn Y.cls index y host cc' nL' rt' np) {r' : Option Value} {σ2 : aH} (hM : AMet y cc' nL' rt' lv' 0 0 As σ (aPu r' σ2)) (hst : S0 = As.reverse ++ S) (hnp : As.length = np) (hlv : lv' + 1 ≤ lv) (hnl : nL' ≤ 21) (hsum : (S.map fun v => v.category).sum ≤ 8) (hmc : k ≤ mc) (hms : n ≤ ms) (kk : G Y cc nL rt lv mc ms post k n pc' L (r'.toList ++ S) σ2) : G Y cc nL rt lv mc ms post k n pc L S0 σ := g_callSn hd hk hM hst hnp hlv hnl hsum hmc hms (fun v σ' hp _ => by obtain ⟨rfl, rfl⟩ := hp; exact kk)
end AN
end
section

/-! pure words: masks, counts -/
def msk (f : Nat → Bool) : Nat → Nat
  | 0 => 0
  | n + 1 => msk f n ||| ((f n).toNat * 2 ^ n)
theorem nbit (w x : Nat) : w / 2 ^ x &&& 1 = (w.testBit x).toNat := by
  rw [Nat.and_one_is_mod, Nat.testBit_eq_decide_div_mod_eq]
  rcases Nat.mod_two_eq_zero_or_one (w / 2 ^ x) with h | h <;> simp [h]
theorem tb_bit (b : Bool) (n i : Nat) : (b.toNat * 2 ^ n).testBit i = (decide (i = n) && b) := by
  cases b
  · simp
  · simp only [Bool.toNat_true, Nat.one_mul, Nat.testBit_two_pow, Bool.and_true]
    rw [decide_eq_decide]
    exact eq_comm
theorem msk_tb (f : Nat → Bool) : ∀ n i, (msk f n).testBit i = (decide (i < n) && f i)
  | 0, i => by simp [msk]
  | n + 1, i => by
    rw [msk, Nat.testBit_or, msk_tb f n i, tb_bit]
    by_cases h : i = n
    · subst h
      simp
    · by_cases h2 : i < n
      · simp [h, h2, Nat.lt_succ_of_lt h2]
      · simp [h, h2, show ¬ i < n + 1 by omega]
theorem msk_lt (f : Nat → Bool) : ∀ n, msk f n < 2 ^ n
  | 0 => by simp [msk]
  | n + 1 => by
    rw [msk]
    refine Nat.or_lt_two_pow (Nat.lt_of_lt_of_le (msk_lt f n) (Nat.pow_le_pow_right (by omega) (by omega))) ?_
    have : (f n).toNat ≤ 1 := by cases f n <;> simp
    calc (f n).toNat * 2 ^ n ≤ 1 * 2 ^ n := Nat.mul_le_mul_right _ this
      _ < 2 ^ (n + 1) := by rw [Nat.pow_succ]; have := Nat.two_pow_pos n; omega
theorem msk_congr {f g : Nat → Bool} : ∀ {n}, (∀ i, i < n → f i = g i) → msk f n = msk g n
  | 0, _ => rfl
  | n + 1, h => by rw [msk, msk, msk_congr (fun i hi => h i (by omega)), h n (by omega)]
theorem msk_ext {f : Nat → Bool} {n m : Nat} (hm : m < 2 ^ n) (h : ∀ i, i < n → m.testBit i = f i) : m = msk f n := by
  apply Nat.eq_of_testBit_eq
  intro i
  rw [msk_tb]
  by_cases hi : i < n
  · simp [hi, h i hi]
  · simp [hi, Nat.testBit_lt_two_pow (Nat.lt_of_lt_of_le hm (Nat.pow_le_pow_right (by omega) (by omega : n ≤ i)))]
theorem bit_shl (v i : Nat) (hi : i < 32) : (v &&& 1) * 2 ^ i < 4294967296 := by
  rw [Nat.and_one_is_mod]
  have h1 : v % 2 ≤ 1 := by omega
  have h2 : 2 ^ i ≤ 2 ^ 31 := Nat.pow_le_pow_right (by omega) (by omega)
  calc v % 2 * 2 ^ i ≤ 1 * 2 ^ 31 := Nat.mul_le_mul h1 h2
    _ < 4294967296 := by decide
theorem one_shl (i : Nat) (hi : i < 32) : 1 * 2 ^ i < 4294967296 := by
  have h2 : 2 ^ i ≤ 2 ^ 31 := Nat.pow_le_pow_right (by omega) (by omega)
  omega
def seenB (s : Nat → Nat) : Nat → Nat → Bool
  | 0, _ => false
  | n + 1, x => seenB s n x || s n == x
/-! THE SHEET: reads -/
abbrev shW (ws : List Nat) : Nat → Nat := fun k => ws.getD k 0
set_option maxRecDepth 20000 in
theorem c_size {σ : aH} {a b sz : Nat} (h1 : σ[a]? = some (aO 6 [.ref b, .int (nI sz)])) : MX6_size 0 0 0 [.ref a] σ (aPu (some (.int (nI sz))) σ) := by
  refine sX6_size (Nat.le_of_ble_eq_true rfl) ?_
  refine g_aload eX6_size_0 rfl ?_
  refine g_get eX6_size_1 fX6_15_X6 (by assumption) (by rfl) ?_
  exact g_ret (eX6_size_4 _) (Nat.le_refl _) (Nat.le_refl _) ⟨rfl, rfl⟩
theorem hasT_ {x : Int32} {sz : Nat} (c1 : ¬ x < 0) (c9 : ¬ nI sz ≤ x) (hs : sz ≤ 10) : (∃ j, j < sz ∧ x = nI j ∧ (some (Value.int (nI 1)) = some (Value.int 1))) ∨ ((∀ j, j < sz → x ≠ nI j) ∧ some (Value.int (nI 1)) = some (Value.int 0)) := by
  obtain ⟨j, hj, rfl⟩ := nI_of c1
  refine Or.inl ⟨j, ?_, rfl, rfl⟩
  rw [nI_leI (by omega) hj] at c9
  omega
theorem hasF_ {x : Int32} {sz : Nat} (c : x < 0 ∨ nI sz ≤ x) (hs : sz ≤ 10) : (∃ j, j < sz ∧ x = nI j ∧ (some (Value.int (nI 0)) = some (Value.int 1))) ∨ ((∀ j, j < sz → x ≠ nI j) ∧ some (Value.int (nI 0)) = some (Value.int 0)) := by
  refine Or.inr ⟨fun j hj => ?_, rfl⟩
  rintro rfl
  rcases c with c | c
  · exact nA_lt0 (by omega) c
  · rw [nI_leI (by omega) (by omega)] at c
    omega
set_option maxRecDepth 20000 in
theorem c_has {σ : aH} {a b sz : Nat} {x : Int32} (h1 : σ[a]? = some (aO 6 [.ref b, .int (nI sz)])) (hs : sz ≤ 10) : MX6_has 0 0 0 [.ref a, .int x] σ (fun v σ' => ((∃ j, j < sz ∧ x = nI j ∧ v = some (.int 1)) ∨ ((∀ j, j < sz → x ≠ nI j) ∧ v = some (.int 0))) ∧ σ' = σ) := by
  refine sX6_has (Nat.le_of_ble_eq_true rfl) ?_
  refine g_iload eX6_has_0 rfl ?_
  refine g_if_lt eX6_has_1 (fun c1 => ?_) (fun c1 => ?_)
  · refine g_push eX6_has_16 ?_
    exact g_ret (eX6_has_17 _ (by first | exact Or.inl rfl | exact Or.inr rfl)) (Nat.le_refl _) (Nat.le_refl _) ⟨by first | exact hasT_ c1 c9 hs | exact hasF_ (by first | exact Or.inl c1 | exact Or.inr c9) hs, rfl⟩
  · refine g_iload eX6_has_4 rfl ?_
    refine g_aload eX6_has_5 rfl ?_
    refine g_get eX6_has_6 fX6_15_X6 (by assumption) (by rfl) ?_
    refine g_icmp_ge eX6_has_9 (fun c9 => ?_) (fun c9 => ?_)
    · refine g_push eX6_has_16 ?_
      exact g_ret (eX6_has_17 _ (by first | exact Or.inl rfl | exact Or.inr rfl)) (Nat.le_refl _) (Nat.le_refl _) ⟨by first | exact hasT_ c1 c9 hs | exact hasF_ (by first | exact Or.inl c1 | exact Or.inr c9) hs, rfl⟩
    · refine g_push eX6_has_12 ?_
      refine g_goto eX6_has_13 ?_
      exact g_ret (eX6_has_17 _ (by first | exact Or.inl rfl | exact Or.inr rfl)) (Nat.le_refl _) (Nat.le_refl _) ⟨by first | exact hasT_ c1 c9 hs | exact hasF_ (by first | exact Or.inl c1 | exact Or.inr c9) hs, rfl⟩
set_option maxRecDepth 20000 in
theorem c_placesOf {σ : aH} {a b sz : Nat} {ws : List Nat} (h1 : σ[a]? = some (aO 6 [.ref b, .int (nI sz)])) (h2 : σ[b]? = some (aA ws)) (hl : ws.length = 10) (hs : sz ≤ 10) (hw : ∀ k, k < sz → ws.getD k 0 < 8) {w : Nat} (hw2 : w < 2147483648) : MX6_placesOf 0 0 0 [.ref a, .int (nI w)] σ (aPu (some (.int (nI (msk (fun k => w.testBit (ws.getD k 0)) sz)))) σ) := by
  refine sX6_placesOf (Nat.le_of_ble_eq_true rfl) ?_
  have key : ∀ d i, i + d = sz → GX6_placesOf 0 0 0 (aPu (some (.int (nI (msk (fun k => w.testBit (ws.getD k 0)) sz)))) σ) 0 0 4 [some (.ref a), some (.int (nI w)), some (.int (nI (msk (fun k => w.testBit (ws.getD k 0)) i))), some (.int (nI i))] [] σ := by
    intro d
    induction d with
    | zero =>
      intro i hi
      obtain rfl : i = sz := by omega
      refine g_iload eX6_placesOf_4 rfl ?_
      refine g_aload eX6_placesOf_5 rfl ?_
      refine g_get eX6_placesOf_6 fX6_15_X6 (by assumption) (by rfl) ?_
      refine g_icmp_geN eX6_placesOf_9 (by omega) (by omega) (fun c9 => ?_) (fun c9 => by exfalso; omega)
      refine g_iload eX6_placesOf_33 rfl ?_
      exact g_ret (eX6_placesOf_34 _) (Nat.le_refl _) (Nat.le_refl _) ⟨rfl, rfl⟩
    | succ d ih =>
      intro i hi
      have hb := hw i (by omega)
      refine g_iload eX6_placesOf_4 rfl ?_
      refine g_aload eX6_placesOf_5 rfl ?_
      refine g_get eX6_placesOf_6 fX6_15_X6 (by assumption) (by rfl) ?_
      refine g_icmp_geN eX6_placesOf_9 (by omega) (by omega) (fun c9 => by exfalso; omega) (fun c9 => ?_)
      refine g_iload eX6_placesOf_12 rfl ?_
      refine g_iload eX6_placesOf_13 rfl ?_
      refine g_aload eX6_placesOf_14 rfl ?_
      refine g_get eX6_placesOf_15 fX6_9_X6 (by assumption) (by rfl) ?_
      refine g_iload eX6_placesOf_18 rfl ?_
      refine g_ialdN eX6_placesOf_19 (by assumption) (by omega) (by omega) ?_
      refine g_ishrN eX6_placesOf_20 (by omega) (by omega) ?_
      refine g_push eX6_placesOf_21 ?_
      refine g_iandN eX6_placesOf_22 ?_
      refine g_iload eX6_placesOf_23 rfl ?_
      refine g_ishlN eX6_placesOf_24 (by omega) (bit_shl _ _ (by omega)) ?_
      refine g_iorN eX6_placesOf_25 ?_
      refine g_istore eX6_placesOf_26 rfl ?_
      refine g_iincN eX6_placesOf_27 rfl rfl ?_
      refine g_goto eX6_placesOf_30 ?_
      rw [nbit]
      exact ih (i + 1) (by omega)
  refine g_push eX6_placesOf_0 ?_
  refine g_istore eX6_placesOf_1 rfl ?_
  refine g_push eX6_placesOf_2 ?_
  refine g_istore eX6_placesOf_3 rfl ?_
  exact key sz 0 (by omega)
def cnt (f : Nat → Bool) : Nat → Nat
  | 0 => 0
  | n + 1 => cnt f n + (f n).toNat
def popc (m : Nat) : Nat := cnt (fun i => m.testBit i) 10
theorem cnt_le (f : Nat → Bool) : ∀ n, cnt f n ≤ n
  | 0 => Nat.le_refl _
  | n + 1 => by
    have h1 := cnt_le f n
    have h2 : (f n).toNat ≤ 1 := by cases f n <;> simp
    show cnt f n + (f n).toNat ≤ n + 1
    omega
theorem cnt_congr {f g : Nat → Bool} : ∀ {n}, (∀ i, i < n → f i = g i) → cnt f n = cnt g n
  | 0, _ => rfl
  | n + 1, h => by
    show cnt f n + (f n).toNat = cnt g n + (g n).toNat
    rw [cnt_congr (fun i hi => h i (by omega)), h n (by omega)]
theorem cnt_tail {f : Nat → Bool} {n : Nat} : ∀ m, n ≤ m → (∀ i, n ≤ i → i < m → f i = false) → cnt f m = cnt f n
  | 0, h, _ => by
    obtain rfl : n = 0 := by omega
    rfl
  | m + 1, h, hf => by
    by_cases hm : n = m + 1
    · rw [hm]
    · show cnt f m + (f m).toNat = _
      rw [cnt_tail m (by omega) (fun i h1 h2 => hf i h1 (by omega)), hf m (by omega) (by omega)]
      rfl
theorem popc_msk {f : Nat → Bool} {n : Nat} (hn : n ≤ 10) : popc (msk f n) = cnt f n := by
  unfold popc
  rw [cnt_tail 10 hn (fun i h1 h2 => by rw [msk_tb]; simp [show ¬ i < n by omega])]
  exact cnt_congr (fun i hi => by rw [msk_tb]; simp [hi])
theorem popc_le (m : Nat) : popc m ≤ 10 := cnt_le _ 10
set_option maxRecDepth 20000 in
theorem bc_all : (List.range 1024).all (fun m => decide (((fun x9 => (fun x23 => (fun x33 => (fun x40 => (fun x47 => (x47 &&& nI 63)) ((x40 + ((x40).toUInt32 >>> ((nI 16).toUInt32 &&& Int32.toUInt32 31)).toInt32))) ((x33 + ((x33).toUInt32 >>> ((nI 8).toUInt32 &&& Int32.toUInt32 31)).toInt32))) (((x23 + ((x23).toUInt32 >>> ((nI 4).toUInt32 &&& Int32.toUInt32 31)).toInt32) &&& (252645135 : Int32)))) (((x9 &&& (858993459 : Int32)) + (((x9).toUInt32 >>> ((nI 2).toUInt32 &&& Int32.toUInt32 31)).toInt32 &&& (858993459 : Int32))))) ((nI m - (((nI m).toUInt32 >>> ((nI 1).toUInt32 &&& Int32.toUInt32 31)).toInt32 &&& (1431655765 : Int32)))) : Int32) = nI (popc m))) = true := by decide +kernel
set_option maxRecDepth 20000 in
theorem c_bitCount {σ : aH} {m : Nat} (hm : m < 1024) : MJ6_bitCount_0f7a4 0 0 0 [.int (nI m)] σ (aPu (some (.int (nI (popc m)))) σ) := by
  refine sJ6_bitCount_0f7a4 (Nat.le_of_ble_eq_true rfl) ?_
  refine g_iload eJ6_bitCount_0f7a4_0 rfl ?_
  refine g_iload eJ6_bitCount_0f7a4_1 rfl ?_
  refine g_push eJ6_bitCount_0f7a4_2 ?_
  refine g_iushr eJ6_bitCount_0f7a4_3 ?_
  refine g_ldc eJ6_bitCount_0f7a4_4 lJ6_265 ?_
  refine g_iand eJ6_bitCount_0f7a4_7 ?_
  refine g_isub eJ6_bitCount_0f7a4_8 ?_
  refine g_istore eJ6_bitCount_0f7a4_9 rfl ?_
  refine g_iload eJ6_bitCount_0f7a4_10 rfl ?_
  refine g_ldc eJ6_bitCount_0f7a4_11 lJ6_266 ?_
  refine g_iand eJ6_bitCount_0f7a4_14 ?_
  refine g_iload eJ6_bitCount_0f7a4_15 rfl ?_
  refine g_push eJ6_bitCount_0f7a4_16 ?_
  refine g_iushr eJ6_bitCount_0f7a4_17 ?_
  refine g_ldc eJ6_bitCount_0f7a4_18 lJ6_266 ?_
  refine g_iand eJ6_bitCount_0f7a4_21 ?_
  refine g_iadd eJ6_bitCount_0f7a4_22 ?_
  refine g_istore eJ6_bitCount_0f7a4_23 rfl ?_
  refine g_iload eJ6_bitCount_0f7a4_24 rfl ?_
  refine g_iload eJ6_bitCount_0f7a4_25 rfl ?_
  refine g_push eJ6_bitCount_0f7a4_26 ?_
  refine g_iushr eJ6_bitCount_0f7a4_27 ?_
  refine g_iadd eJ6_bitCount_0f7a4_28 ?_
  refine g_ldc eJ6_bitCount_0f7a4_29 lJ6_267 ?_
  refine g_iand eJ6_bitCount_0f7a4_32 ?_
  refine g_istore eJ6_bitCount_0f7a4_33 rfl ?_
  refine g_iload eJ6_bitCount_0f7a4_34 rfl ?_
  refine g_iload eJ6_bitCount_0f7a4_35 rfl ?_
  refine g_push eJ6_bitCount_0f7a4_36 ?_
  refine g_iushr eJ6_bitCount_0f7a4_38 ?_
  refine g_iadd eJ6_bitCount_0f7a4_39 ?_
  refine g_istore eJ6_bitCount_0f7a4_40 rfl ?_
  refine g_iload eJ6_bitCount_0f7a4_41 rfl ?_
  refine g_iload eJ6_bitCount_0f7a4_42 rfl ?_
  refine g_push eJ6_bitCount_0f7a4_43 ?_
  refine g_iushr eJ6_bitCount_0f7a4_45 ?_
  refine g_iadd eJ6_bitCount_0f7a4_46 ?_
  refine g_istore eJ6_bitCount_0f7a4_47 rfl ?_
  refine g_iload eJ6_bitCount_0f7a4_48 rfl ?_
  refine g_push eJ6_bitCount_0f7a4_49 ?_
  refine g_iand eJ6_bitCount_0f7a4_51 ?_
  exact g_ret (eJ6_bitCount_0f7a4_52 _) (Nat.le_refl _) (Nat.le_refl _) ⟨congrArg (fun x => some (Value.int x)) (co_dec (P := fun m => ((fun x9 => (fun x23 => (fun x33 => (fun x40 => (fun x47 => (x47 &&& nI 63)) ((x40 + ((x40).toUInt32 >>> ((nI 16).toUInt32 &&& Int32.toUInt32 31)).toInt32))) ((x33 + ((x33).toUInt32 >>> ((nI 8).toUInt32 &&& Int32.toUInt32 31)).toInt32))) (((x23 + ((x23).toUInt32 >>> ((nI 4).toUInt32 &&& Int32.toUInt32 31)).toInt32) &&& (252645135 : Int32)))) (((x9 &&& (858993459 : Int32)) + (((x9).toUInt32 >>> ((nI 2).toUInt32 &&& Int32.toUInt32 31)).toInt32 &&& (858993459 : Int32))))) ((nI m - (((nI m).toUInt32 >>> ((nI 1).toUInt32 &&& Int32.toUInt32 31)).toInt32 &&& (1431655765 : Int32)))) : Int32) = nI (popc m)) bc_all hm), rfl⟩
theorem tb_ones (t : Nat) (h : t < 32) : (4294967295 : Nat).testBit t = true := co_dec (N := 32) (P := fun t => (4294967295 : Nat).testBit t = true) (by decide +kernel) h
theorem beq_eq_decide (a b : Nat) : (a == b) = decide (a = b) := rfl
set_option maxRecDepth 20000 in
theorem c_firstPlacesOf {σ : aH} {a b sz : Nat} {ws : List Nat} (h1 : σ[a]? = some (aO 6 [.ref b, .int (nI sz)])) (h2 : σ[b]? = some (aA ws)) (hl : ws.length = 10) (hs : sz ≤ 10) (hw : ∀ k, k < sz → ws.getD k 0 < 8) {w : Nat} (hw2 : w < 2147483648) : MX6_firstPlacesOf 0 0 0 [.ref a, .int (nI w)] σ (aPu (some (.int (nI (msk (fun k => w.testBit (ws.getD k 0) && !seenB (shW ws) k (ws.getD k 0)) sz)))) σ) := by
  refine sX6_firstPlacesOf (Nat.le_of_ble_eq_true rfl) ?_
  have key : ∀ d i u, i + d = sz → u < 2147483648 → (∀ t, t < 8 → u.testBit t = (w.testBit t && !seenB (shW ws) i t)) → GX6_firstPlacesOf 0 0 0 (aPu (some (.int (nI (msk (fun k => w.testBit (ws.getD k 0) && !seenB (shW ws) k (ws.getD k 0)) sz)))) σ) 0 0 7 [some (.ref a), some (.int (nI w)), some (.int (nI (msk (fun k => w.testBit (ws.getD k 0) && !seenB (shW ws) k (ws.getD k 0)) i))), some (.int (nI u)), some (.int (nI i))] [] σ := by
    intro d
    induction d with
    | zero =>
      intro i u hi hu hut
      obtain rfl : i = sz := by omega
      refine g_iload eX6_firstPlacesOf_7 rfl ?_
      refine g_aload eX6_firstPlacesOf_9 rfl ?_
      refine g_get eX6_firstPlacesOf_10 fX6_15_X6 (by assumption) (by rfl) ?_
      refine g_icmp_geN eX6_firstPlacesOf_13 (by omega) (by omega) (fun c13 => ?_) (fun c13 => by exfalso; omega)
      refine g_iload eX6_firstPlacesOf_53 rfl ?_
      exact g_ret (eX6_firstPlacesOf_54 _) (Nat.le_refl _) (Nat.le_refl _) ⟨rfl, rfl⟩
    | succ d ih =>
      intro i u hi hu hut
      have hb := hw i (by omega)
      refine g_iload eX6_firstPlacesOf_7 rfl ?_
      refine g_aload eX6_firstPlacesOf_9 rfl ?_
      refine g_get eX6_firstPlacesOf_10 fX6_15_X6 (by assumption) (by rfl) ?_
      refine g_icmp_geN eX6_firstPlacesOf_13 (by omega) (by omega) (fun c13 => by exfalso; omega) (fun c13 => ?_)
      refine g_iload eX6_firstPlacesOf_16 rfl ?_
      refine g_iload eX6_firstPlacesOf_17 rfl ?_
      refine g_aload eX6_firstPlacesOf_18 rfl ?_
      refine g_get eX6_firstPlacesOf_19 fX6_9_X6 (by assumption) (by rfl) ?_
      refine g_iload eX6_firstPlacesOf_22 rfl ?_
      refine g_ialdN eX6_firstPlacesOf_24 (by assumption) (by omega) (by omega) ?_
      refine g_ishrN eX6_firstPlacesOf_25 (by omega) (by omega) ?_
      refine g_push eX6_firstPlacesOf_26 ?_
      refine g_iandN eX6_firstPlacesOf_27 ?_
      refine g_iload eX6_firstPlacesOf_28 rfl ?_
      refine g_ishlN eX6_firstPlacesOf_30 (by omega) (bit_shl _ _ (by omega)) ?_
      refine g_iorN eX6_firstPlacesOf_31 ?_
      refine g_istore eX6_firstPlacesOf_32 rfl ?_
      refine g_iload eX6_firstPlacesOf_33 rfl ?_
      refine g_push eX6_firstPlacesOf_34 ?_
      refine g_aload eX6_firstPlacesOf_35 rfl ?_
      refine g_get eX6_firstPlacesOf_36 fX6_9_X6 (by assumption) (by rfl) ?_
      refine g_iload eX6_firstPlacesOf_39 rfl ?_
      refine g_ialdN eX6_firstPlacesOf_41 (by assumption) (by omega) (by omega) ?_
      refine g_ishlN eX6_firstPlacesOf_42 (by omega) (one_shl _ (by omega)) ?_
      refine g_push (v := nI 4294967295) (nA_m1 ▸ eX6_firstPlacesOf_43) ?_
      refine g_ixorN eX6_firstPlacesOf_44 ?_
      refine g_iandN eX6_firstPlacesOf_45 ?_
      refine g_istore eX6_firstPlacesOf_46 rfl ?_
      refine g_iincN eX6_firstPlacesOf_47 rfl rfl ?_
      refine g_goto eX6_firstPlacesOf_50 ?_
      rw [nbit, hut _ hb]
      refine ih (i + 1) _ (by omega) (Nat.lt_of_le_of_lt Nat.and_le_left hu) (fun t ht => ?_)
      rw [Nat.testBit_and, hut t ht, Nat.testBit_xor, Nat.one_mul, Nat.testBit_two_pow, tb_ones t (by omega)]
      show (w.testBit t && !seenB (shW ws) i t && (decide (ws.getD i 0 = t) ^^ true)) = (w.testBit t && !(seenB (shW ws) i t || ws.getD i 0 == t))
      rw [beq_eq_decide]
      cases w.testBit t <;> cases seenB (shW ws) i t <;> cases decide (ws.getD i 0 = t) <;> rfl
  refine g_push eX6_firstPlacesOf_0 ?_
  refine g_istore eX6_firstPlacesOf_1 rfl ?_
  refine g_iload eX6_firstPlacesOf_2 rfl ?_
  refine g_istore eX6_firstPlacesOf_3 rfl ?_
  refine g_push eX6_firstPlacesOf_4 ?_
  refine g_istore eX6_firstPlacesOf_5 rfl ?_
  exact key sz 0 w (by omega) hw2 (fun t _ => by simp [seenB])
theorem behind_eq (p sz : Nat) : (p * 2 ^ 1 &&& 1 * 2 ^ sz - 1) = msk (fun k => decide (0 < k) && p.testBit (k - 1)) sz := by
  rw [Nat.one_mul, Nat.and_two_pow_sub_one_eq_mod]
  refine msk_ext (Nat.mod_lt _ (Nat.two_pow_pos sz)) (fun i hi => ?_)
  rw [Nat.testBit_mod_two_pow, Nat.pow_one]
  simp only [hi, decide_true, Bool.true_and]
  cases i with
  | zero => simp [Nat.testBit_zero]
  | succ i =>
    rw [Nat.testBit_succ, Nat.mul_div_cancel _ (by omega)]
    simp
set_option maxRecDepth 20000 in
theorem c_placesBehind {σ : aH} {a b sz : Nat} {p : Nat} (h1 : σ[a]? = some (aO 6 [.ref b, .int (nI sz)])) (hs : sz ≤ 10) (hp : p < 1024) : MX6_placesBehind 0 0 0 [.ref a, .int (nI p)] σ (aPu (some (.int (nI (msk (fun k => decide (0 < k) && p.testBit (k - 1)) sz)))) σ) := by
  refine sX6_placesBehind (Nat.le_of_ble_eq_true rfl) ?_
  refine g_iload eX6_placesBehind_0 rfl ?_
  refine g_push eX6_placesBehind_1 ?_
  refine g_ishlN eX6_placesBehind_2 (by omega) (by omega) ?_
  refine g_push eX6_placesBehind_3 ?_
  refine g_aload eX6_placesBehind_4 rfl ?_
  refine g_get eX6_placesBehind_5 fX6_15_X6 (by assumption) (by rfl) ?_
  refine g_ishlN eX6_placesBehind_8 (by omega) (one_shl _ (by omega)) ?_
  refine g_push eX6_placesBehind_9 ?_
  refine g_isubN eX6_placesBehind_10 (by have := Nat.two_pow_pos sz; omega) ?_
  refine g_iandN eX6_placesBehind_11 ?_
  exact g_ret (eX6_placesBehind_12 _) (Nat.le_refl _) (Nat.le_refl _) ⟨congrArg (fun x => some (Value.int (nI x))) (behind_eq p sz), rfl⟩
def orW (s : Nat → Nat) : Nat → Nat
  | 0 => 0
  | n + 1 => orW s n ||| 2 ^ (s n)
theorem orW_lt (s : Nat → Nat) : ∀ n, (∀ k, k < n → s k < 8) → orW s n < 256
  | 0, _ => by show 0 < 256; decide
  | n + 1, h => by
    refine Nat.or_lt_two_pow (n := 8) (orW_lt s n (fun k hk => h k (by omega))) ?_
    exact Nat.pow_lt_pow_right (by omega) (h n (by omega))
set_option maxRecDepth 20000 in
theorem c_unlikeWords {σ : aH} {a b sz : Nat} {ws : List Nat} (h1 : σ[a]? = some (aO 6 [.ref b, .int (nI sz)])) (h2 : σ[b]? = some (aA ws)) (hl : ws.length = 10) (hs : sz ≤ 10) (hw : ∀ k, k < sz → ws.getD k 0 < 8) : MX6_unlikeWords 1 0 0 [.ref a] σ (aPu (some (.int (nI (popc (orW (shW ws) sz))))) σ) := by
  refine sX6_unlikeWords (Nat.le_of_ble_eq_true rfl) ?_
  have key : ∀ d i, i + d = sz → GX6_unlikeWords 1 0 0 (aPu (some (.int (nI (popc (orW (shW ws) sz))))) σ) 0 0 4 [some (.ref a), some (.int (nI (orW (shW ws) i))), some (.int (nI i))] [] σ := by
    intro d
    induction d with
    | zero =>
      intro i hi
      obtain rfl : i = sz := by omega
      have hlt := orW_lt (shW ws) i hw
      refine g_iload eX6_unlikeWords_4 rfl ?_
      refine g_aload eX6_unlikeWords_5 rfl ?_
      refine g_get eX6_unlikeWords_6 fX6_15_X6 (by assumption) (by rfl) ?_
      refine g_icmp_geN eX6_unlikeWords_9 (by omega) (by omega) (fun c9 => ?_) (fun c9 => by exfalso; omega)
      refine g_iload eX6_unlikeWords_29 rfl ?_
      refine g_callSp eX6_unlikeWords_30 kX6_29 (c_bitCount (m := orW (shW ws) i) (by omega)) (by rfl) (by rfl) (by exact Nat.le_of_ble_eq_true rfl) (by exact Nat.le_of_ble_eq_true rfl) (by exact Nat.le_of_ble_eq_true rfl) (Nat.le_refl _) (Nat.le_refl _) ?_
      exact g_ret (eX6_unlikeWords_33 _) (Nat.le_refl _) (Nat.le_refl _) ⟨rfl, rfl⟩
    | succ d ih =>
      intro i hi
      have hb := hw i (by omega)
      refine g_iload eX6_unlikeWords_4 rfl ?_
      refine g_aload eX6_unlikeWords_5 rfl ?_
      refine g_get eX6_unlikeWords_6 fX6_15_X6 (by assumption) (by rfl) ?_
      refine g_icmp_geN eX6_unlikeWords_9 (by omega) (by omega) (fun c9 => by exfalso; omega) (fun c9 => ?_)
      refine g_iload eX6_unlikeWords_12 rfl ?_
      refine g_push eX6_unlikeWords_13 ?_
      refine g_aload eX6_unlikeWords_14 rfl ?_
      refine g_get eX6_unlikeWords_15 fX6_9_X6 (by assumption) (by rfl) ?_
      refine g_iload eX6_unlikeWords_18 rfl ?_
      refine g_ialdN eX6_unlikeWords_19 (by assumption) (by omega) (by omega) ?_
      refine g_ishlN eX6_unlikeWords_20 (by omega) (one_shl _ (by omega)) ?_
      refine g_iorN eX6_unlikeWords_21 ?_
      refine g_istore eX6_unlikeWords_22 rfl ?_
      refine g_iincN eX6_unlikeWords_23 rfl rfl ?_
      refine g_goto eX6_unlikeWords_26 ?_
      rw [Nat.one_mul]
      exact ih (i + 1) (by omega)
  refine g_push eX6_unlikeWords_0 ?_
  refine g_istore eX6_unlikeWords_1 rfl ?_
  refine g_push eX6_unlikeWords_2 ?_
  refine g_istore eX6_unlikeWords_3 rfl ?_
  exact key sz 0 (by omega)
set_option maxRecDepth 20000 in
theorem c_at {σ : aH} {a b sz : Nat} {ws : List Nat} (h1 : σ[a]? = some (aO 6 [.ref b, .int (nI sz)])) (h2 : σ[b]? = some (aA ws)) (hl : ws.length = 10) (hs : sz ≤ 10) {j : Nat} (hj : j < sz) : MX6_at 1 0 0 [.ref a, .int (nI j)] σ (aPu (some (.int (nI (ws.getD j 0)))) σ) := by
  refine sX6_at (Nat.le_of_ble_eq_true rfl) ?_
  refine g_aload eX6_at_0 rfl ?_
  refine g_iload eX6_at_1 rfl ?_
  refine g_callV0 (r := (RX6, TX6, 2)) eX6_at_2 kX6_19 (by assumption) (by rfl) (c_has h1 hs) (by rfl) (by rfl) (by exact Nat.le_of_ble_eq_true rfl) (by exact Nat.le_of_ble_eq_true rfl) (by exact Nat.le_of_ble_eq_true rfl) (Nat.le_refl _) (Nat.le_refl _) (fun v2 σ2 hp2 hn2 => ?_)
  obtain ⟨h, rfl⟩ := hp2
  obtain ⟨j', -, -, rfl⟩ := h.resolve_right (fun z => z.1 j hj rfl)
  refine g_if_eq eX6_at_5 (fun c5 => absurd c5 (by decide)) (fun c5 => ?_)
  refine g_aload eX6_at_8 rfl ?_
  refine g_get eX6_at_9 fX6_9_X6 (by assumption) (by rfl) ?_
  refine g_iload eX6_at_12 rfl ?_
  refine g_ialdN eX6_at_13 (by assumption) (by omega) (by omega) ?_
  refine g_goto eX6_at_14 ?_
  exact g_ret (eX6_at_18 _) (Nat.le_refl _) (Nat.le_refl _) ⟨rfl, rfl⟩
set_option maxRecDepth 20000 in
theorem c_set {σ : aH} {a b sz : Nat} {ws : List Nat} (h1 : σ[a]? = some (aO 6 [.ref b, .int (nI sz)])) (h2 : σ[b]? = some (aA ws)) (hl : ws.length = 10) (hs : sz ≤ 10) {j v : Nat} (hj : j < sz) : MX6_set 1 0 0 [.ref a, .int (nI j), .int (nI v)] σ (aPu none (σ.set b (aA (ws.set j v)))) := by
  refine sX6_set (Nat.le_of_ble_eq_true rfl) ?_
  refine g_aload eX6_set_0 rfl ?_
  refine g_iload eX6_set_1 rfl ?_
  refine g_callV0 (r := (RX6, TX6, 2)) eX6_set_2 kX6_19 (by assumption) (by rfl) (c_has h1 hs) (by rfl) (by rfl) (by exact Nat.le_of_ble_eq_true rfl) (by exact Nat.le_of_ble_eq_true rfl) (by exact Nat.le_of_ble_eq_true rfl) (Nat.le_refl _) (Nat.le_refl _) (fun v2 σ2 hp2 hn2 => ?_)
  obtain ⟨h, rfl⟩ := hp2
  obtain ⟨j', -, -, rfl⟩ := h.resolve_right (fun z => z.1 j hj rfl)
  refine g_if_eq eX6_set_5 (fun c5 => absurd c5 (by decide)) (fun c5 => ?_)
  refine g_aload eX6_set_8 rfl ?_
  refine g_get eX6_set_9 fX6_9_X6 (by assumption) (by rfl) ?_
  refine g_iload eX6_set_12 rfl ?_
  refine g_iload eX6_set_13 rfl ?_
  refine g_iastN eX6_set_14 (by assumption) (by omega) (by omega) ?_
  exact g_ret eX6_set_15 (Nat.le_refl _) (Nat.le_refl _) ⟨rfl, rfl⟩
set_option maxRecDepth 20000 in
theorem c_clear {σ : aH} {a b : Nat} {z : Int32} (h1 : σ[a]? = some (aO 6 [.ref b, .int z])) : MX6_clear 0 0 0 [.ref a] σ (aPu none (σ.set a (aO 6 [.ref b, .int (nI 0)]))) := by
  refine sX6_clear (Nat.le_of_ble_eq_true rfl) ?_
  refine g_aload eX6_clear_0 rfl ?_
  refine g_push eX6_clear_1 ?_
  refine g_putI eX6_clear_2 fX6_15_X6 pX6_1 (by assumption) (by exact Nat.le_of_ble_eq_true rfl) ?_
  exact g_ret eX6_clear_5 (Nat.le_refl _) (Nat.le_refl _) ⟨rfl, rfl⟩
set_option maxRecDepth 20000 in
theorem c_add {σ : aH} {a b sz : Nat} {ws : List Nat} (h1 : σ[a]? = some (aO 6 [.ref b, .int (nI sz)])) (h2 : σ[b]? = some (aA ws)) (hl : ws.length = 10) (hs : sz ≤ 10) (hab : b ≠ a) {x : Nat} (hj : sz < 10) : MX6_add 0 0 0 [.ref a, .int (nI x)] σ (aPu none ((σ.set b (aA (ws.set sz x))).set a (aO 6 [.ref b, .int (nI (sz + 1))]))) := by
  refine sX6_add (Nat.le_of_ble_eq_true rfl) ?_
  refine g_aload eX6_add_0 rfl ?_
  refine g_get eX6_add_1 fX6_15_X6 (by assumption) (by rfl) ?_
  refine g_aload eX6_add_4 rfl ?_
  refine g_get eX6_add_5 fX6_9_X6 (by assumption) (by rfl) ?_
  refine g_ilenN eX6_add_8 (by assumption) ?_
  refine g_icmp_geN eX6_add_9 (by omega) (by omega) (fun c9 => by exfalso; omega) (fun c9 => ?_)
  refine g_aload eX6_add_12 rfl ?_
  refine g_get eX6_add_13 fX6_9_X6 (by assumption) (by rfl) ?_
  refine g_aload eX6_add_16 rfl ?_
  refine g_get eX6_add_17 fX6_15_X6 (by assumption) (by rfl) ?_
  refine g_iload eX6_add_20 rfl ?_
  refine g_iastN eX6_add_21 (by assumption) (by omega) (by omega) ?_
  refine g_aload eX6_add_22 rfl ?_
  refine g_dup eX6_add_23 rfl ?_
  refine g_get eX6_add_24 fX6_15_X6 (at_ne hab h1) (by rfl) ?_
  refine g_push eX6_add_27 ?_
  refine g_iaddN eX6_add_28 ?_
  refine g_putI eX6_add_29 fX6_15_X6 pX6_1 (at_ne hab h1) (by exact Nat.le_of_ble_eq_true rfl) ?_
  exact g_ret eX6_add_32 (Nat.le_refl _) (Nat.le_refl _) ⟨rfl, rfl⟩
end
section
/-! what is heard; the walk over the page; the page -/
def lw : Nat → Int32
  | 0 => -1
  | n + 1 => nI n
theorem lw_le {v l : Nat} (hv : v < 1000) (hl : l < 1000) : nI v ≤ lw l ↔ v < l := by
  cases l with
  | zero =>
    constructor
    · intro h
      have h1 := Int32.le_iff_toInt_le.mp h
      rw [nI_toInt (by omega), show (lw 0).toInt = -1 from rfl] at h1
      omega
    · omega
  | succ l =>
    show nI v ≤ nI l ↔ _
    rw [nI_leI (by omega) (by omega)]
    omega
abbrev wO (s : Nat × Nat × Nat) : aT := aO 9 [.int (nI s.1), .int (nI s.2.1), .int (lw s.2.2)]
def pword (p m l v : Nat) : Bool := if p < 4 then decide (m < 3 ∧ l ≤ v) else decide (m < 10)
def wstep (s : Nat × Nat × Nat) (c : Nat) : Option (Nat × Nat × Nat) :=
  if 97 ≤ c ∧ c < 105 then (if pword s.1 s.2.1 s.2.2 (c - 97) then some (s.1, s.2.1 + 1, c - 97 + 1) else none)
  else if s.1 < 4 ∧ 0 < s.2.1 ∧ c = (if s.1 = 3 then 59 else 44) then some (s.1 + 1, 0, 0) else none
def wok (s : Nat × Nat × Nat) : Prop := s.1 ≤ 4 ∧ s.2.1 ≤ 10 ∧ s.2.2 ≤ 8
theorem wstep_ok {s s' : Nat × Nat × Nat} {c : Nat} (h : wok s) (e : wstep s c = some s') : wok s' := by
  obtain ⟨p, m, l⟩ := s
  obtain ⟨h1, h2, h3⟩ := h
  simp only at h1 h2 h3
  unfold wstep at e
  by_cases a : 97 ≤ c ∧ c < 105
  · rw [if_pos a] at e
    by_cases hp : pword p m l (c - 97) = true
    · rw [if_pos hp] at e
      cases e
      unfold pword at hp
      refine ⟨h1, ?_, by show c - 97 + 1 ≤ 8; omega⟩
      show m + 1 ≤ 10
      by_cases h4 : p < 4
      · rw [if_pos h4] at hp
        have := of_decide_eq_true hp
        omega
      · rw [if_neg h4] at hp
        have := of_decide_eq_true hp
        omega
    · rw [if_neg hp] at e
      cases e
  · rw [if_neg a] at e
    by_cases b : p < 4 ∧ 0 < m ∧ c = (if p = 3 then 59 else 44)
    · rw [if_pos b] at e
      cases e
      exact ⟨by show p + 1 ≤ 4; omega, by show 0 ≤ 10; omega, by show 0 ≤ 8; omega⟩
    · rw [if_neg b] at e
      cases e
def wfa (pg : Nat → Nat) : Nat → Nat → Nat × Nat × Nat → Nat × (Nat × Nat × Nat)
  | 0, k, s => (k, s)
  | d + 1, k, s => match wstep s (pg k) with
    | some s' => wfa pg d (k + 1) s'
    | none => (k, s)
theorem wfa_some {pg : Nat → Nat} {d k : Nat} {s s' : Nat × Nat × Nat} (e : wstep s (pg k) = some s') : wfa pg (d + 1) k s = wfa pg d (k + 1) s' := by simp only [wfa, e]
theorem wfa_none {pg : Nat → Nat} {d k : Nat} {s : Nat × Nat × Nat} (e : wstep s (pg k) = none) : wfa pg (d + 1) k s = (k, s) := by simp only [wfa, e]
theorem wfa_ok (pg : Nat → Nat) : ∀ d k s, wok s → wok (wfa pg d k s).2 ∧ k ≤ (wfa pg d k s).1 ∧ (wfa pg d k s).1 ≤ k + d
  | 0, k, s, h => ⟨h, Nat.le_refl _, Nat.le_refl _⟩
  | d + 1, k, s, h => by
    cases e : wstep s (pg k) with
    | none =>
      rw [wfa_none e]
      exact ⟨h, Nat.le_refl _, Nat.le_add_right _ _⟩
    | some s' =>
      rw [wfa_some e]
      have := wfa_ok pg d (k + 1) s' (wstep_ok h e)
      exact ⟨this.1, by omega, by omega⟩
def wcourt (pg : Nat → Nat) (n : Nat) : Bool := decide ((wfa pg n 0 (0, 0, 0)).1 = n ∧ (wfa pg n 0 (0, 0, 0)).2.1 = 4 ∧ 0 < (wfa pg n 0 (0, 0, 0)).2.2.1)
def dleft (wm dm : Nat → Nat) (n : Nat) : Nat → Nat
  | 0 => 31
  | i + 1 => if wm i = n then dleft wm dm n i &&& dm i else dleft wm dm n i
theorem dleft_le (wm dm : Nat → Nat) (n : Nat) : ∀ i, dleft wm dm n i ≤ 31
  | 0 => Nat.le_refl _
  | i + 1 => by
    have h := dleft_le wm dm n i
    unfold dleft
    split
    · exact Nat.le_trans Nat.and_le_left h
    · exact h
set_option maxRecDepth 20000 in
theorem c_hsize {σ : aH} {a b c hs : Nat} (h1 : σ[a]? = some (aO 3 [.ref b, .ref c, .int (nI hs)])) : MX3_size 0 0 0 [.ref a] σ (aPu (some (.int (nI hs))) σ) := by
  refine sX3_size (Nat.le_of_ble_eq_true rfl) ?_
  refine g_aload eX3_size_0 rfl ?_
  refine g_get eX3_size_1 fX3_18_X3 (by assumption) (by rfl) ?_
  exact g_ret (eX3_size_4 _) (Nat.le_refl _) (Nat.le_refl _) ⟨rfl, rfl⟩
set_option maxRecDepth 20000 in
theorem c_hclear {σ : aH} {a b c : Nat} {z : Int32} (h1 : σ[a]? = some (aO 3 [.ref b, .ref c, .int z])) : MX3_clear 0 0 0 [.ref a] σ (aPu none (σ.set a (aO 3 [.ref b, .ref c, .int (nI 0)]))) := by
  refine sX3_clear (Nat.le_of_ble_eq_true rfl) ?_
  refine g_aload eX3_clear_0 rfl ?_
  refine g_push eX3_clear_1 ?_
  refine g_putI eX3_clear_2 fX3_18_X3 pX3_2 (by assumption) (by exact Nat.le_of_ble_eq_true rfl) ?_
  exact g_ret eX3_clear_5 (Nat.le_refl _) (Nat.le_refl _) ⟨rfl, rfl⟩
set_option maxRecDepth 20000 in
theorem c_deedsLeft {σ : aH} {a b c hs : Nat} {wm dm : List Nat} (h1 : σ[a]? = some (aO 3 [.ref b, .ref c, .int (nI hs)])) (h2 : σ[b]? = some (aA wm)) (h3 : σ[c]? = some (aA dm)) (hl2 : wm.length = 8) (hl3 : dm.length = 8) (hs8 : hs ≤ 8) (hw : ∀ k, wm.getD k 0 < 65536) {n : Nat} (hn : n < 65536) : MX3_deedsLeft 0 0 0 [.ref a, .int (nI n)] σ (aPu (some (.int (nI (dleft (shW wm) (shW dm) n hs)))) σ) := by
  refine sX3_deedsLeft (Nat.le_of_ble_eq_true rfl) ?_
  have key : ∀ d i, i + d = hs → GX3_deedsLeft 0 0 0 (aPu (some (.int (nI (dleft (shW wm) (shW dm) n hs)))) σ) 0 0 5 [some (.ref a), some (.int (nI n)), some (.int (nI (dleft (shW wm) (shW dm) n i))), some (.int (nI i))] [] σ := by
    intro d
    induction d with
    | zero =>
      intro i hi
      obtain rfl : i = hs := by omega
      refine g_iload eX3_deedsLeft_5 rfl ?_
      refine g_aload eX3_deedsLeft_6 rfl ?_
      refine g_get eX3_deedsLeft_7 fX3_18_X3 (by assumption) (by rfl) ?_
      refine g_icmp_geN eX3_deedsLeft_10 (by omega) (by omega) (fun c10 => ?_) (fun c10 => by exfalso; omega)
      refine g_iload eX3_deedsLeft_38 rfl ?_
      exact g_ret (eX3_deedsLeft_39 _) (Nat.le_refl _) (Nat.le_refl _) ⟨rfl, rfl⟩
    | succ d ih =>
      intro i hi
      have hb := hw i
      have ih2 := ih (i + 1) (by omega)
      refine g_iload eX3_deedsLeft_5 rfl ?_
      refine g_aload eX3_deedsLeft_6 rfl ?_
      refine g_get eX3_deedsLeft_7 fX3_18_X3 (by assumption) (by rfl) ?_
      refine g_icmp_geN eX3_deedsLeft_10 (by omega) (by omega) (fun c10 => by exfalso; omega) (fun c10 => ?_)
      refine g_aload eX3_deedsLeft_13 rfl ?_
      refine g_get eX3_deedsLeft_14 fX3_9_X3 (by assumption) (by rfl) ?_
      refine g_iload eX3_deedsLeft_17 rfl ?_
      refine g_ialdN eX3_deedsLeft_18 (by assumption) (by omega) (by omega) ?_
      refine g_iload eX3_deedsLeft_19 rfl ?_
      refine g_icmp_neN eX3_deedsLeft_20 (by omega) (by omega) (fun c20 => ?_) (fun c20 => ?_)
      · refine g_iincN eX3_deedsLeft_32 rfl rfl ?_
        refine g_goto eX3_deedsLeft_35 ?_
        first
          | (have e2 : dleft (shW wm) (shW dm) n (i + 1) = (dleft (shW wm) (shW dm) n i &&& dm.getD i 0) := if_pos c20
             rw [e2] at ih2; exact ih2)
          | (have e2 : dleft (shW wm) (shW dm) n (i + 1) = dleft (shW wm) (shW dm) n i := if_neg c20
             rw [e2] at ih2; exact ih2)
      · refine g_iload eX3_deedsLeft_23 rfl ?_
        refine g_aload eX3_deedsLeft_24 rfl ?_
        refine g_get eX3_deedsLeft_25 fX3_15_X3 (by assumption) (by rfl) ?_
        refine g_iload eX3_deedsLeft_28 rfl ?_
        refine g_ialdN eX3_deedsLeft_29 (by assumption) (by omega) (by omega) ?_
        refine g_iandN eX3_deedsLeft_30 ?_
        refine g_istore eX3_deedsLeft_31 rfl ?_
        refine g_iincN eX3_deedsLeft_32 rfl rfl ?_
        refine g_goto eX3_deedsLeft_35 ?_
        first
          | (have e2 : dleft (shW wm) (shW dm) n (i + 1) = (dleft (shW wm) (shW dm) n i &&& dm.getD i 0) := if_pos c20
             rw [e2] at ih2; exact ih2)
          | (have e2 : dleft (shW wm) (shW dm) n (i + 1) = dleft (shW wm) (shW dm) n i := if_neg c20
             rw [e2] at ih2; exact ih2)
  refine g_push eX3_deedsLeft_0 ?_
  refine g_istore eX3_deedsLeft_2 rfl ?_
  refine g_push eX3_deedsLeft_3 ?_
  refine g_istore eX3_deedsLeft_4 rfl ?_
  exact key hs 0 (by omega)
set_option maxRecDepth 20000 in
theorem c_enter {σ : aH} {w : Nat} {x0 x1 x2 : Int32} (h1 : σ[w]? = some (aO 9 [.int x0, .int x1, .int x2])) {x : Int32} : MX9_enter 0 0 0 [.ref w, .int x] σ (aPu none (σ.set w (aO 9 [.int x, .int (nI 0), .int (-1)]))) := by
  refine sX9_enter (Nat.le_of_ble_eq_true rfl) ?_
  refine g_aload eX9_enter_0 rfl ?_
  refine g_iload eX9_enter_1 rfl ?_
  refine g_putI eX9_enter_2 fX9_22_X9 pX9_0 h1 (by exact Nat.le_of_ble_eq_true rfl) ?_
  refine g_aload eX9_enter_5 rfl ?_
  refine g_push eX9_enter_6 ?_
  refine g_putI eX9_enter_7 fX9_26_X9 pX9_1 (at_eq h1) (by exact Nat.le_of_ble_eq_true rfl) ?_
  refine g_aload eX9_enter_10 rfl ?_
  refine g_push eX9_enter_11 ?_
  refine g_putI eX9_enter_12 fX9_29_X9 pX9_2 (at_eq (at_eq h1)) (by exact Nat.le_of_ble_eq_true rfl) ?_
  exact g_ret eX9_enter_15 (Nat.le_refl _) (Nat.le_refl _) ⟨rfl, by rw [List.set_set, List.set_set]; rfl⟩
set_option maxRecDepth 20000 in
theorem c_begin {σ : aH} {w : Nat} {x0 x1 x2 : Int32} (h1 : σ[w]? = some (aO 9 [.int x0, .int x1, .int x2])) : MX9_begin 1 0 0 [.ref w] σ (aPu none (σ.set w (wO (0, 0, 0)))) := by
  refine sX9_begin (Nat.le_of_ble_eq_true rfl) ?_
  refine g_aload eX9_begin_0 rfl ?_
  refine g_push eX9_begin_1 ?_
  refine g_callV0 (r := (RX9, TX9, 3)) eX9_begin_2 kX9_9 (by assumption) (by rfl) (c_enter h1) (by rfl) (by rfl) (by exact Nat.le_of_ble_eq_true rfl) (by exact Nat.le_of_ble_eq_true rfl) (by exact Nat.le_of_ble_eq_true rfl) (Nat.le_refl _) (Nat.le_refl _) (fun v2 σ2 hp2 hn2 => ?_)
  obtain ⟨rfl, rfl⟩ := hp2
  exact g_ret eX9_begin_5 (Nat.le_refl _) (Nat.le_refl _) ⟨rfl, rfl⟩
set_option maxRecDepth 20000 in
theorem c_isWhole {σ : aH} {w : Nat} {s : Nat × Nat × Nat} (h1 : σ[w]? = some (wO s)) (ho : wok s) : MX9_isWhole 0 0 0 [.ref w] σ (fun v σ' => v = some (.int (nI (decide (s.1 = 4 ∧ 0 < s.2.1)).toNat)) ∧ σ' = σ) := by
  refine sX9_isWhole (Nat.le_of_ble_eq_true rfl) ?_
  obtain ⟨ho1, ho2, ho3⟩ := ho
  refine g_aload eX9_isWhole_0 rfl ?_
  refine g_get eX9_isWhole_1 fX9_22_X9 (by assumption) (by rfl) ?_
  refine g_push eX9_isWhole_4 ?_
  refine g_icmp_neN eX9_isWhole_5 (by omega) (by omega) (fun c5 => ?_) (fun c5 => ?_)
  · refine g_push eX9_isWhole_19 ?_
    exact g_ret (eX9_isWhole_20 _ (by first | exact Or.inl rfl | exact Or.inr rfl)) (Nat.le_refl _) (Nat.le_refl _) ⟨by first | rw [decide_eq_true (by omega)]; rfl | rw [decide_eq_false (by omega)]; rfl, rfl⟩
  · refine g_aload eX9_isWhole_8 rfl ?_
    refine g_get eX9_isWhole_9 fX9_26_X9 (by assumption) (by rfl) ?_
    refine g_if_leN eX9_isWhole_12 (by omega) (fun c12 => ?_) (fun c12 => ?_)
    · refine g_push eX9_isWhole_19 ?_
      exact g_ret (eX9_isWhole_20 _ (by first | exact Or.inl rfl | exact Or.inr rfl)) (Nat.le_refl _) (Nat.le_refl _) ⟨by first | rw [decide_eq_true (by omega)]; rfl | rw [decide_eq_false (by omega)]; rfl, rfl⟩
    · refine g_push eX9_isWhole_15 ?_
      refine g_goto eX9_isWhole_16 ?_
      exact g_ret (eX9_isWhole_20 _ (by first | exact Or.inl rfl | exact Or.inr rfl)) (Nat.le_refl _) (Nat.le_refl _) ⟨by first | rw [decide_eq_true (by omega)]; rfl | rw [decide_eq_false (by omega)]; rfl, rfl⟩
set_option maxRecDepth 20000 in
theorem c_passesWord {σ : aH} {w : Nat} {s : Nat × Nat × Nat} (h1 : σ[w]? = some (wO s)) (ho : wok s) {v : Nat} (hv : v < 8) : MX9_passesWord 0 0 0 [.ref w, .int (nI v)] σ (fun r σ' => (pword s.1 s.2.1 s.2.2 v = true ∧ r = some (.int (nI 1)) ∧ σ' = σ.set w (wO (s.1, s.2.1 + 1, v + 1))) ∨ (pword s.1 s.2.1 s.2.2 v = false ∧ r = some (.int (nI 0)) ∧ σ' = σ)) := by
  refine sX9_passesWord (Nat.le_of_ble_eq_true rfl) ?_
  obtain ⟨ho1, ho2, ho3⟩ := ho
  refine g_aload eX9_passesWord_0 rfl ?_
  refine g_get eX9_passesWord_1 fX9_22_X9 (by assumption) (by rfl) ?_
  refine g_push eX9_passesWord_4 ?_
  refine g_icmp_geN eX9_passesWord_5 (by omega) (by omega) (fun c5 => ?_) (fun c5 => ?_)
  · refine g_aload eX9_passesWord_33 rfl ?_
    refine g_get eX9_passesWord_34 fX9_26_X9 (by assumption) (by rfl) ?_
    refine g_push eX9_passesWord_37 ?_
    refine g_icmp_geN eX9_passesWord_39 (by omega) (by omega) (fun c39 => ?_) (fun c39 => ?_)
    · refine g_push eX9_passesWord_46 ?_
      refine g_istore eX9_passesWord_47 rfl ?_
      refine g_iload eX9_passesWord_48 rfl ?_
      refine g_if_eqN eX9_passesWord_49 (by omega) (fun c49 => ?_) (fun c49 => ?_)
      · refine g_iload eX9_passesWord_67 rfl ?_
        exact g_ret (eX9_passesWord_68 _ (Or.inl rfl)) (Nat.le_refl _) (Nat.le_refl _) (Or.inr ⟨by unfold pword; first | (rw [if_pos (by omega)]; exact decide_eq_false (by omega)) | (rw [if_neg (by omega)]; exact decide_eq_false (by omega)), rfl, rfl⟩)
      · exact absurd rfl c49
    · refine g_push eX9_passesWord_42 ?_
      refine g_goto eX9_passesWord_43 ?_
      refine g_istore eX9_passesWord_47 rfl ?_
      refine g_iload eX9_passesWord_48 rfl ?_
      refine g_if_eqN eX9_passesWord_49 (by omega) (fun c49 => ?_) (fun c49 => ?_)
      · exact absurd c49 (by decide)
      · refine g_aload eX9_passesWord_52 rfl ?_
        refine g_dup eX9_passesWord_53 rfl ?_
        refine g_get eX9_passesWord_54 fX9_26_X9 h1 (by rfl) ?_
        refine g_push eX9_passesWord_57 ?_
        refine g_iaddN eX9_passesWord_58 ?_
        refine g_putI eX9_passesWord_59 fX9_26_X9 pX9_1 h1 (by exact Nat.le_of_ble_eq_true rfl) ?_
        refine g_aload eX9_passesWord_62 rfl ?_
        refine g_iload eX9_passesWord_63 rfl ?_
        refine g_putI eX9_passesWord_64 fX9_29_X9 pX9_2 (at_eq h1) (by exact Nat.le_of_ble_eq_true rfl) ?_
        refine g_iload eX9_passesWord_67 rfl ?_
        exact g_ret (eX9_passesWord_68 _ (Or.inr rfl)) (Nat.le_refl _) (Nat.le_refl _) (Or.inl ⟨by unfold pword; first | (rw [if_pos (by omega)]; exact decide_eq_true (by omega)) | (rw [if_neg (by omega)]; exact decide_eq_true (by omega)), rfl, by rw [List.set_set]; rfl⟩)
  · refine g_aload eX9_passesWord_8 rfl ?_
    refine g_get eX9_passesWord_9 fX9_26_X9 (by assumption) (by rfl) ?_
    refine g_push eX9_passesWord_12 ?_
    refine g_icmp_geN eX9_passesWord_13 (by omega) (by omega) (fun c13 => ?_) (fun c13 => ?_)
    · refine g_push eX9_passesWord_28 ?_
      refine g_istore eX9_passesWord_29 rfl ?_
      refine g_goto eX9_passesWord_30 ?_
      refine g_iload eX9_passesWord_48 rfl ?_
      refine g_if_eqN eX9_passesWord_49 (by omega) (fun c49 => ?_) (fun c49 => ?_)
      · refine g_iload eX9_passesWord_67 rfl ?_
        exact g_ret (eX9_passesWord_68 _ (Or.inl rfl)) (Nat.le_refl _) (Nat.le_refl _) (Or.inr ⟨by unfold pword; first | (rw [if_pos (by omega)]; exact decide_eq_false (by omega)) | (rw [if_neg (by omega)]; exact decide_eq_false (by omega)), rfl, rfl⟩)
      · exact absurd rfl c49
    · refine g_iload eX9_passesWord_16 rfl ?_
      refine g_aload eX9_passesWord_17 rfl ?_
      refine g_get eX9_passesWord_18 fX9_29_X9 (by assumption) (by rfl) ?_
      refine g_icmp_le eX9_passesWord_21 (fun c21 => ?_) (fun c21 => ?_)
      · have c21 := (lw_le (by omega) (by omega)).mp c21
        refine g_push eX9_passesWord_28 ?_
        refine g_istore eX9_passesWord_29 rfl ?_
        refine g_goto eX9_passesWord_30 ?_
        refine g_iload eX9_passesWord_48 rfl ?_
        refine g_if_eqN eX9_passesWord_49 (by omega) (fun c49 => ?_) (fun c49 => ?_)
        · refine g_iload eX9_passesWord_67 rfl ?_
          exact g_ret (eX9_passesWord_68 _ (Or.inl rfl)) (Nat.le_refl _) (Nat.le_refl _) (Or.inr ⟨by unfold pword; first | (rw [if_pos (by omega)]; exact decide_eq_false (by omega)) | (rw [if_neg (by omega)]; exact decide_eq_false (by omega)), rfl, rfl⟩)
        · exact absurd rfl c49
      · have c21 : ¬ v < s.2.2 := fun z => c21 ((lw_le (by omega) (by omega)).mpr z)
        refine g_push eX9_passesWord_24 ?_
        refine g_goto eX9_passesWord_25 ?_
        refine g_istore eX9_passesWord_29 rfl ?_
        refine g_goto eX9_passesWord_30 ?_
        refine g_iload eX9_passesWord_48 rfl ?_
        refine g_if_eqN eX9_passesWord_49 (by omega) (fun c49 => ?_) (fun c49 => ?_)
        · exact absurd c49 (by decide)
        · refine g_aload eX9_passesWord_52 rfl ?_
          refine g_dup eX9_passesWord_53 rfl ?_
          refine g_get eX9_passesWord_54 fX9_26_X9 h1 (by rfl) ?_
          refine g_push eX9_passesWord_57 ?_
          refine g_iaddN eX9_passesWord_58 ?_
          refine g_putI eX9_passesWord_59 fX9_26_X9 pX9_1 h1 (by exact Nat.le_of_ble_eq_true rfl) ?_
          refine g_aload eX9_passesWord_62 rfl ?_
          refine g_iload eX9_passesWord_63 rfl ?_
          refine g_putI eX9_passesWord_64 fX9_29_X9 pX9_2 (at_eq h1) (by exact Nat.le_of_ble_eq_true rfl) ?_
          refine g_iload eX9_passesWord_67 rfl ?_
          exact g_ret (eX9_passesWord_68 _ (Or.inr rfl)) (Nat.le_refl _) (Nat.le_refl _) (Or.inl ⟨by unfold pword; first | (rw [if_pos (by omega)]; exact decide_eq_true (by omega)) | (rw [if_neg (by omega)]; exact decide_eq_true (by omega)), rfl, by rw [List.set_set]; rfl⟩)
theorem hasT2_ {x : Int32} {sz : Nat} (c1 : ¬ x < 0) (c9 : ¬ nI sz ≤ x) (hs : sz ≤ 1000) : (∃ j, j < sz ∧ x = nI j ∧ (some (Value.int (nI 1)) = some (Value.int (nI 1)))) ∨ ((∀ j, j < sz → x ≠ nI j) ∧ some (Value.int (nI 1)) = some (Value.int (nI 0))) := by
  obtain ⟨j, hj, rfl⟩ := nI_of c1
  refine Or.inl ⟨j, ?_, rfl, rfl⟩
  rw [nI_leI (by omega) hj] at c9
  omega
theorem hasF2_ {x : Int32} {sz : Nat} (c : x < 0 ∨ nI sz ≤ x) (hs : sz ≤ 1000) : (∃ j, j < sz ∧ x = nI j ∧ (some (Value.int (nI 0)) = some (Value.int (nI 1)))) ∨ ((∀ j, j < sz → x ≠ nI j) ∧ some (Value.int (nI 0)) = some (Value.int (nI 0))) := by
  refine Or.inr ⟨fun j hj => ?_, rfl⟩
  rintro rfl
  rcases c with c | c
  · exact nA_lt0 (by omega) c
  · rw [nI_leI (by omega) (by omega)] at c
    omega
set_option maxRecDepth 20000 in
theorem c_isWord {σ : aH} {x : Int32} : MX11_isWord 0 0 0 [.int x] σ (fun v σ' => ((∃ j, j < 8 ∧ x = nI j ∧ v = some (.int (nI 1))) ∨ ((∀ j, j < 8 → x ≠ nI j) ∧ v = some (.int (nI 0)))) ∧ σ' = σ) := by
  refine sX11_isWord (Nat.le_of_ble_eq_true rfl) ?_
  refine g_iload eX11_isWord_0 rfl ?_
  refine g_if_lt eX11_isWord_1 (fun c1 => ?_) (fun c1 => ?_)
  · refine g_push eX11_isWord_14 ?_
    exact g_ret (eX11_isWord_15 _ (by first | exact Or.inl rfl | exact Or.inr rfl)) (Nat.le_refl _) (Nat.le_refl _) ⟨by first | exact hasT2_ c1 c7 (by decide) | exact hasF2_ (by first | exact Or.inl c1 | exact Or.inr c7) (by decide), rfl⟩
  · refine g_iload eX11_isWord_4 rfl ?_
    refine g_push eX11_isWord_5 ?_
    refine g_icmp_ge eX11_isWord_7 (fun c7 => ?_) (fun c7 => ?_)
    · refine g_push eX11_isWord_14 ?_
      exact g_ret (eX11_isWord_15 _ (by first | exact Or.inl rfl | exact Or.inr rfl)) (Nat.le_refl _) (Nat.le_refl _) ⟨by first | exact hasT2_ c1 c7 (by decide) | exact hasF2_ (by first | exact Or.inl c1 | exact Or.inr c7) (by decide), rfl⟩
    · refine g_push eX11_isWord_10 ?_
      refine g_goto eX11_isWord_11 ?_
      exact g_ret (eX11_isWord_15 _ (by first | exact Or.inl rfl | exact Or.inr rfl)) (Nat.le_refl _) (Nat.le_refl _) ⟨by first | exact hasT2_ c1 c7 (by decide) | exact hasF2_ (by first | exact Or.inl c1 | exact Or.inr c7) (by decide), rfl⟩
theorem c97 {c : Nat} (hc : c < 1000) {j : Nat} (hj : j < 8) : nI c - nI 97 = nI j ↔ c = j + 97 := by
  constructor
  · intro h
    have h1 := congrArg Int32.toInt h
    rw [pk_sub_toInt (by omega) (by omega), nI_toInt (by omega)] at h1
    omega
  · rintro rfl
    rw [pk_sub (by omega), Nat.add_sub_cancel]
theorem wstep_none {s : Nat × Nat × Nat} {c : Nat} (h1 : ¬ (97 ≤ c ∧ c < 105)) (h2 : s.1 < 4 → 0 < s.2.1 → c = (if s.1 = 3 then 59 else 44) → False) : wstep s c = none := by
  unfold wstep
  rw [if_neg h1, if_neg (fun h => h2 h.1 h.2.1 h.2.2)]
theorem wstep_sep {s : Nat × Nat × Nat} {c : Nat} (h1 : ¬ (97 ≤ c ∧ c < 105)) (h2 : s.1 < 4) (h3 : 0 < s.2.1) (h4 : c = (if s.1 = 3 then 59 else 44)) : wstep s c = some (s.1 + 1, 0, 0) := by
  unfold wstep
  rw [if_neg h1, if_pos ⟨h2, h3, h4⟩]
set_option maxRecDepth 20000 in
theorem c_passes {σ : aH} {w : Nat} {s : Nat × Nat × Nat} (h1 : σ[w]? = some (wO s)) (ho : wok s) {c : Nat} (hc : c < 1000) : MX9_passes 1 0 0 [.ref w, .int (nI c)] σ (fun r σ' => (∃ s', wstep s c = some s' ∧ r = some (.int (nI 1)) ∧ σ' = σ.set w (wO s')) ∨ (wstep s c = none ∧ r = some (.int (nI 0)) ∧ σ' = σ)) := by
  refine sX9_passes (Nat.le_of_ble_eq_true rfl) ?_
  have ho' := ho
  obtain ⟨ho1, ho2, ho3⟩ := ho'
  refine g_iload eX9_passes_0 rfl ?_
  refine g_push eX9_passes_1 ?_
  refine g_isub eX9_passes_3 ?_
  refine g_istore eX9_passes_4 rfl ?_
  refine g_iload eX9_passes_5 rfl ?_
  refine g_callSn0 eX9_passes_6 kX9_15 (c_isWord) (by rfl) (by rfl) (by exact Nat.le_of_ble_eq_true rfl) (by exact Nat.le_of_ble_eq_true rfl) (by exact Nat.le_of_ble_eq_true rfl) (Nat.le_refl _) (Nat.le_refl _) (fun v6 σ6 hp6 hn6 => ?_)
  obtain ⟨h6, rfl⟩ := hp6
  rcases h6 with ⟨j, hj, e6, rfl⟩ | ⟨h6, rfl⟩
  · refine g_if_eqN eX9_passes_9 (by omega) (fun c9 => absurd c9 (by decide)) (fun c9 => ?_)
    refine g_aload eX9_passes_12 rfl ?_
    refine g_iload eX9_passes_13 rfl ?_
    rw [e6]
    refine g_callV0 (r := (RX9, TX9, 3)) eX9_passes_14 kX9_19 (by assumption) (by rfl) (c_passesWord h1 ho hj) (by rfl) (by rfl) (by exact Nat.le_of_ble_eq_true rfl) (by exact Nat.le_of_ble_eq_true rfl) (by exact Nat.le_of_ble_eq_true rfl) (Nat.le_refl _) (Nat.le_refl _) (fun v14 σ14 hp14 hn14 => ?_)
    obtain rfl := (c97 hc hj).mp e6
    rcases hp14 with ⟨q1, rfl, rfl⟩ | ⟨q1, rfl, rfl⟩
    · exact g_ret (eX9_passes_17 _ (Or.inr rfl)) (Nat.le_refl _) (Nat.le_refl _) (Or.inl ⟨_, by unfold wstep; rw [if_pos (by omega), Nat.add_sub_cancel, if_pos q1], rfl, rfl⟩)
    · exact g_ret (eX9_passes_17 _ (Or.inl rfl)) (Nat.le_refl _) (Nat.le_refl _) (Or.inr ⟨by unfold wstep; rw [if_pos (by omega), Nat.add_sub_cancel, if_neg (fun h => by rw [q1] at h; cases h)], rfl, rfl⟩)
  · refine g_if_eqN eX9_passes_9 (by omega) (fun c9 => ?_) (fun c9 => absurd rfl c9)
    have hno : ¬ (97 ≤ c ∧ c < 105) := fun h => h6 (c - 97) (by omega) ((c97 hc (by omega)).mpr (by omega))
    refine g_aload eX9_passes_18 rfl ?_
    refine g_get eX9_passes_19 fX9_22_X9 (by assumption) (by rfl) ?_
    refine g_push eX9_passes_22 ?_
    refine g_icmp_geN eX9_passes_23 (by omega) (by omega) (fun c23 => ?_) (fun c23 => ?_)
    · refine g_push eX9_passes_33 ?_
      exact g_ret (eX9_passes_34 _ (Or.inl rfl)) (Nat.le_refl _) (Nat.le_refl _) (Or.inr ⟨wstep_none (fun h => by omega) (fun h1 h2 h3 => by first | omega | (rw [if_pos (by omega)] at h3; omega) | (rw [if_neg (by omega)] at h3; omega)), rfl, rfl⟩)
    · refine g_aload eX9_passes_26 rfl ?_
      refine g_get eX9_passes_27 fX9_26_X9 (by assumption) (by rfl) ?_
      refine g_if_neN eX9_passes_30 (by omega) (fun c30 => ?_) (fun c30 => ?_)
      · refine g_iload eX9_passes_35 rfl ?_
        refine g_aload eX9_passes_36 rfl ?_
        refine g_get eX9_passes_37 fX9_22_X9 (by assumption) (by rfl) ?_
        refine g_push eX9_passes_40 ?_
        refine g_icmp_neN eX9_passes_41 (by omega) (by omega) (fun c41 => ?_) (fun c41 => ?_)
        · refine g_push eX9_passes_49 ?_
          refine g_icmp_eqN eX9_passes_51 (by omega) (by omega) (fun c51 => ?_) (fun c51 => ?_)
          · refine g_aload eX9_passes_56 rfl ?_
            refine g_aload eX9_passes_57 rfl ?_
            refine g_get eX9_passes_58 fX9_22_X9 (by assumption) (by rfl) ?_
            refine g_push eX9_passes_61 ?_
            refine g_iaddN eX9_passes_62 ?_
            refine g_callV0 (r := (RX9, TX9, 3)) eX9_passes_63 kX9_9 (by assumption) (by rfl) (c_enter h1) (by rfl) (by rfl) (by exact Nat.le_of_ble_eq_true rfl) (by exact Nat.le_of_ble_eq_true rfl) (by exact Nat.le_of_ble_eq_true rfl) (Nat.le_refl _) (Nat.le_refl _) (fun v63 σ63 hp63 hn63 => ?_)
            obtain ⟨rfl, rfl⟩ := hp63
            refine g_push eX9_passes_66 ?_
            exact g_ret (eX9_passes_67 _ (Or.inr rfl)) (Nat.le_refl _) (Nat.le_refl _) (Or.inl ⟨_, wstep_sep (fun h => by omega) (by omega) (by omega) (by first | (rw [if_pos (by omega)]; omega) | (rw [if_neg (by omega)]; omega)), rfl, rfl⟩)
          · refine g_push eX9_passes_54 ?_
            exact g_ret (eX9_passes_55 _ (Or.inl rfl)) (Nat.le_refl _) (Nat.le_refl _) (Or.inr ⟨wstep_none (fun h => by omega) (fun h1 h2 h3 => by first | omega | (rw [if_pos (by omega)] at h3; omega) | (rw [if_neg (by omega)] at h3; omega)), rfl, rfl⟩)
        · refine g_push eX9_passes_44 ?_
          refine g_goto eX9_passes_46 ?_
          refine g_icmp_eqN eX9_passes_51 (by omega) (by omega) (fun c51 => ?_) (fun c51 => ?_)
          · refine g_aload eX9_passes_56 rfl ?_
            refine g_aload eX9_passes_57 rfl ?_
            refine g_get eX9_passes_58 fX9_22_X9 (by assumption) (by rfl) ?_
            refine g_push eX9_passes_61 ?_
            refine g_iaddN eX9_passes_62 ?_
            refine g_callV0 (r := (RX9, TX9, 3)) eX9_passes_63 kX9_9 (by assumption) (by rfl) (c_enter h1) (by rfl) (by rfl) (by exact Nat.le_of_ble_eq_true rfl) (by exact Nat.le_of_ble_eq_true rfl) (by exact Nat.le_of_ble_eq_true rfl) (Nat.le_refl _) (Nat.le_refl _) (fun v63 σ63 hp63 hn63 => ?_)
            obtain ⟨rfl, rfl⟩ := hp63
            refine g_push eX9_passes_66 ?_
            exact g_ret (eX9_passes_67 _ (Or.inr rfl)) (Nat.le_refl _) (Nat.le_refl _) (Or.inl ⟨_, wstep_sep (fun h => by omega) (by omega) (by omega) (by first | (rw [if_pos (by omega)]; omega) | (rw [if_neg (by omega)]; omega)), rfl, rfl⟩)
          · refine g_push eX9_passes_54 ?_
            exact g_ret (eX9_passes_55 _ (Or.inl rfl)) (Nat.le_refl _) (Nat.le_refl _) (Or.inr ⟨wstep_none (fun h => by omega) (fun h1 h2 h3 => by first | omega | (rw [if_pos (by omega)] at h3; omega) | (rw [if_neg (by omega)] at h3; omega)), rfl, rfl⟩)
      · refine g_push eX9_passes_33 ?_
        exact g_ret (eX9_passes_34 _ (Or.inl rfl)) (Nat.le_refl _) (Nat.le_refl _) (Or.inr ⟨wstep_none (fun h => by omega) (fun h1 h2 h3 => by first | omega | (rw [if_pos (by omega)] at h3; omega) | (rw [if_neg (by omega)] at h3; omega)), rfl, rfl⟩)
set_option maxRecDepth 20000 in
theorem c_psize {σ : aH} {a b w n : Nat} (h1 : σ[a]? = some (aO 5 [.ref b, .ref w, .int (nI n)])) : MX5_size 0 0 0 [.ref a] σ (aPu (some (.int (nI n))) σ) := by
  refine sX5_size (Nat.le_of_ble_eq_true rfl) ?_
  refine g_aload eX5_size_0 rfl ?_
  refine g_get eX5_size_1 fX5_22_X5 (by assumption) (by rfl) ?_
  exact g_ret (eX5_size_4 _) (Nat.le_refl _) (Nat.le_refl _) ⟨rfl, rfl⟩
set_option maxRecDepth 20000 in
theorem c_pclear {σ : aH} {a b w : Nat} {z : Int32} (h1 : σ[a]? = some (aO 5 [.ref b, .ref w, .int z])) : MX5_clear 0 0 0 [.ref a] σ (aPu none (σ.set a (aO 5 [.ref b, .ref w, .int (nI 0)]))) := by
  refine sX5_clear (Nat.le_of_ble_eq_true rfl) ?_
  refine g_aload eX5_clear_0 rfl ?_
  refine g_push eX5_clear_1 ?_
  refine g_putI eX5_clear_2 fX5_22_X5 pX5_2 (by assumption) (by exact Nat.le_of_ble_eq_true rfl) ?_
  exact g_ret eX5_clear_5 (Nat.le_refl _) (Nat.le_refl _) ⟨rfl, rfl⟩
set_option maxRecDepth 20000 in
theorem c_codeAt {σ : aH} {a b w n : Nat} {cd : List Nat} (h1 : σ[a]? = some (aO 5 [.ref b, .ref w, .int (nI n)])) (h2 : σ[b]? = some (aA cd)) (hl : cd.length = 28) (hn : n ≤ 28) {k : Nat} (hk : k < n) : MX5_codeAt 0 0 0 [.ref a, .int (nI k)] σ (aPu (some (.int (nI (cd.getD k 0)))) σ) := by
  refine sX5_codeAt (Nat.le_of_ble_eq_true rfl) ?_
  refine g_iload eX5_codeAt_0 rfl ?_
  refine g_if_ltN eX5_codeAt_1 (by omega) ?_
  refine g_iload eX5_codeAt_4 rfl ?_
  refine g_aload eX5_codeAt_5 rfl ?_
  refine g_get eX5_codeAt_6 fX5_22_X5 (by assumption) (by rfl) ?_
  refine g_icmp_geN eX5_codeAt_9 (by omega) (by omega) (fun c9 => by exfalso; omega) (fun c9 => ?_)
  refine g_aload eX5_codeAt_12 rfl ?_
  refine g_get eX5_codeAt_13 fX5_9_X5 (by assumption) (by rfl) ?_
  refine g_iload eX5_codeAt_16 rfl ?_
  refine g_ialdN eX5_codeAt_17 (by assumption) (by omega) (by omega) ?_
  refine g_goto eX5_codeAt_18 ?_
  exact g_ret (eX5_codeAt_22 _) (Nat.le_refl _) (Nat.le_refl _) ⟨rfl, rfl⟩
set_option maxRecDepth 20000 in
theorem c_padd {σ : aH} {a b w n : Nat} {cd : List Nat} (h1 : σ[a]? = some (aO 5 [.ref b, .ref w, .int (nI n)])) (h2 : σ[b]? = some (aA cd)) (hl : cd.length = 28) (hn : n ≤ 28) (hab : b ≠ a) {c : Nat} : MX5_add 0 0 0 [.ref a, .int (nI c)] σ (fun v σ' => (n < 28 ∧ v = some (.int (nI 1)) ∧ σ' = (σ.set b (aA (cd.set n c))).set a (aO 5 [.ref b, .ref w, .int (nI (n + 1))])) ∨ (n = 28 ∧ v = some (.int (nI 0)) ∧ σ' = σ)) := by
  refine sX5_add (Nat.le_of_ble_eq_true rfl) ?_
  refine g_aload eX5_add_0 rfl ?_
  refine g_get eX5_add_1 fX5_22_X5 (by assumption) (by rfl) ?_
  refine g_aload eX5_add_4 rfl ?_
  refine g_get eX5_add_5 fX5_9_X5 (by assumption) (by rfl) ?_
  refine g_ilenN eX5_add_8 (by assumption) ?_
  refine g_icmp_ltN eX5_add_9 (by omega) (by omega) (fun c9 => ?_) (fun c9 => ?_)
  · refine g_aload eX5_add_14 rfl ?_
    refine g_get eX5_add_15 fX5_9_X5 (by assumption) (by rfl) ?_
    refine g_aload eX5_add_18 rfl ?_
    refine g_get eX5_add_19 fX5_22_X5 (by assumption) (by rfl) ?_
    refine g_iload eX5_add_22 rfl ?_
    refine g_iastN eX5_add_23 (by assumption) (by omega) (by omega) ?_
    refine g_aload eX5_add_24 rfl ?_
    refine g_dup eX5_add_25 rfl ?_
    refine g_get eX5_add_26 fX5_22_X5 (at_ne hab h1) (by rfl) ?_
    refine g_push eX5_add_29 ?_
    refine g_iaddN eX5_add_30 ?_
    refine g_putI eX5_add_31 fX5_22_X5 pX5_2 (at_ne hab h1) (by exact Nat.le_of_ble_eq_true rfl) ?_
    refine g_push eX5_add_34 ?_
    exact g_ret (eX5_add_35 _ (Or.inr rfl)) (Nat.le_refl _) (Nat.le_refl _) (Or.inl ⟨by omega, rfl, rfl⟩)
  · refine g_push eX5_add_12 ?_
    exact g_ret (eX5_add_13 _ (Or.inl rfl)) (Nat.le_refl _) (Nat.le_refl _) (Or.inr ⟨by omega, rfl, rfl⟩)
set_option maxRecDepth 20000 in
theorem c_faultPlace {σ : aH} {a b w n : Nat} {cd : List Nat} (h1 : σ[a]? = some (aO 5 [.ref b, .ref w, .int (nI n)])) (h2 : σ[b]? = some (aA cd)) (hl : cd.length = 28) (hn : n ≤ 28) {x0 x1 x2 : Int32} (h3 : σ[w]? = some (aO 9 [.int x0, .int x1, .int x2])) (n1 : w ≠ a) (n2 : w ≠ b) (hc : ∀ k, cd.getD k 0 < 1000) : MX5_faultPlace 2 0 0 [.ref a] σ (aPu (some (.int (nI (wfa (shW cd) n 0 (0, 0, 0)).1))) (σ.set w (wO (wfa (shW cd) n 0 (0, 0, 0)).2))) := by
  refine sX5_faultPlace (Nat.le_of_ble_eq_true rfl) ?_
  have key : ∀ d i s, i + d = n → wok s → wfa (shW cd) d i s = wfa (shW cd) n 0 (0, 0, 0) → GX5_faultPlace 2 0 0 (aPu (some (.int (nI (wfa (shW cd) n 0 (0, 0, 0)).1))) (σ.set w (wO (wfa (shW cd) n 0 (0, 0, 0)).2))) 0 0 9 [some (.ref a), some (.int (nI i))] [] (σ.set w (wO s)) := by
    intro d
    induction d with
    | zero =>
      intro i s hi hs he
      obtain rfl : i = n := by omega
      rw [← he]
      refine g_iload eX5_faultPlace_9 rfl ?_
      refine g_aload eX5_faultPlace_10 rfl ?_
      refine g_get eX5_faultPlace_11 fX5_22_X5 (at_ne n1 h1) (by rfl) ?_
      refine g_icmp_geN eX5_faultPlace_14 (by omega) (by omega) (fun c14 => ?_) (fun c14 => by exfalso; omega)
      refine g_iload eX5_faultPlace_39 rfl ?_
      exact g_ret (eX5_faultPlace_40 _) (Nat.le_refl _) (Nat.le_refl _) ⟨rfl, rfl⟩
    | succ d ih =>
      intro i s hi hs he
      refine g_iload eX5_faultPlace_9 rfl ?_
      refine g_aload eX5_faultPlace_10 rfl ?_
      refine g_get eX5_faultPlace_11 fX5_22_X5 (at_ne n1 h1) (by rfl) ?_
      refine g_icmp_geN eX5_faultPlace_14 (by omega) (by omega) (fun c14 => by exfalso; omega) (fun c14 => ?_)
      refine g_aload eX5_faultPlace_17 rfl ?_
      refine g_get eX5_faultPlace_18 fX5_18_X5 (at_ne n1 h1) (by rfl) ?_
      refine g_aload eX5_faultPlace_21 rfl ?_
      refine g_get eX5_faultPlace_22 fX5_9_X5 (at_ne n1 h1) (by rfl) ?_
      refine g_iload eX5_faultPlace_25 rfl ?_
      refine g_ialdN eX5_faultPlace_26 (at_ne n2 h2) (by omega) (by omega) ?_
      refine g_callV0 (r := (RX9, TX9, 3)) eX5_faultPlace_27 kX5_29 (at_eq h3) (by rfl) (c_passes (s := s) (at_eq h3) hs (hc i)) (by rfl) (by rfl) (by exact Nat.le_of_ble_eq_true rfl) (by exact Nat.le_of_ble_eq_true rfl) (by exact Nat.le_of_ble_eq_true rfl) (Nat.le_refl _) (Nat.le_refl _) (fun v27 σ27 hp27 hn27 => ?_)
      rcases hp27 with ⟨s2, e2, rfl, rfl⟩ | ⟨e2, rfl, rfl⟩
      · refine g_if_eqN eX5_faultPlace_30 (by omega) (fun c30 => absurd c30 (by decide)) (fun c30 => ?_)
        refine g_iincN eX5_faultPlace_33 rfl rfl ?_
        refine g_goto eX5_faultPlace_36 ?_
        rw [List.set_set]
        exact ih (i + 1) s2 (by omega) (wstep_ok hs e2) ((wfa_some (pg := shW cd) e2).symm.trans he)
      · refine g_if_eqN eX5_faultPlace_30 (by omega) (fun c30 => ?_) (fun c30 => absurd rfl c30)
        refine g_iload eX5_faultPlace_39 rfl ?_
        exact g_ret (eX5_faultPlace_40 _) (Nat.le_refl _) (Nat.le_refl _) (by rw [← he, wfa_none (pg := shW cd) e2]; exact ⟨rfl, rfl⟩)
  refine g_aload eX5_faultPlace_0 rfl ?_
  refine g_get eX5_faultPlace_1 fX5_18_X5 h1 (by rfl) ?_
  refine g_callV0 (r := (RX9, TX9, 3)) eX5_faultPlace_4 kX5_26 h3 (by rfl) (c_begin h3) (by rfl) (by rfl) (by exact Nat.le_of_ble_eq_true rfl) (by exact Nat.le_of_ble_eq_true rfl) (by exact Nat.le_of_ble_eq_true rfl) (Nat.le_refl _) (Nat.le_refl _) (fun v4 σ4 hp4 hn4 => ?_)
  obtain ⟨rfl, rfl⟩ := hp4
  refine g_push eX5_faultPlace_7 ?_
  refine g_istore eX5_faultPlace_8 rfl ?_
  exact key n 0 (0, 0, 0) (by omega) ⟨by decide, by decide, by decide⟩ rfl
theorem crt_t {A B : Prop} [d : Decidable B] (a : A) (c : ¬ (decide B).toNat = 0) : A ∧ B := ⟨a, Classical.byContradiction fun h => c (by rw [decide_eq_false h]; rfl)⟩
theorem crt_f {A B : Prop} [d : Decidable B] (c : (decide B).toNat = 0) : ¬ (A ∧ B) := fun h => by rw [decide_eq_true h.2] at c; cases c
set_option maxRecDepth 20000 in
theorem c_isCourt {σ : aH} {a b w n : Nat} {cd : List Nat} (h1 : σ[a]? = some (aO 5 [.ref b, .ref w, .int (nI n)])) (h2 : σ[b]? = some (aA cd)) (hl : cd.length = 28) (hn : n ≤ 28) {x0 x1 x2 : Int32} (h3 : σ[w]? = some (aO 9 [.int x0, .int x1, .int x2])) (n1 : w ≠ a) (n2 : w ≠ b) (hc : ∀ k, cd.getD k 0 < 1000) : MX5_isCourt 3 0 0 [.ref a] σ (aPu (some (.int (nI (wcourt (shW cd) n).toNat))) (σ.set w (wO (wfa (shW cd) n 0 (0, 0, 0)).2))) := by
  refine sX5_isCourt (Nat.le_of_ble_eq_true rfl) ?_
  have hok := wfa_ok (shW cd) n 0 (0, 0, 0) ⟨by decide, by decide, by decide⟩
  refine g_aload eX5_isCourt_0 rfl ?_
  refine g_callV0 (r := (RX5, TX5, 3)) eX5_isCourt_1 kX5_33 h1 (by rfl) (c_faultPlace h1 h2 hl hn h3 n1 n2 hc) (by rfl) (by rfl) (by exact Nat.le_of_ble_eq_true rfl) (by exact Nat.le_of_ble_eq_true rfl) (by exact Nat.le_of_ble_eq_true rfl) (Nat.le_refl _) (Nat.le_refl _) (fun v1 σ1 hp1 hn1 => ?_)
  obtain ⟨rfl, rfl⟩ := hp1
  refine g_aload eX5_isCourt_4 rfl ?_
  refine g_get eX5_isCourt_5 fX5_22_X5 (at_ne n1 h1) (by rfl) ?_
  refine g_icmp_neN eX5_isCourt_8 (by omega) (by omega) (fun c8 => ?_) (fun c8 => ?_)
  · refine g_push eX5_isCourt_25 ?_
    exact g_ret (eX5_isCourt_26 _ (by first | exact Or.inl rfl | exact Or.inr rfl)) (Nat.le_refl _) (Nat.le_refl _) (by unfold wcourt; first | (rw [decide_eq_true (crt_t c8 c18)]; exact ⟨rfl, rfl⟩) | (rw [decide_eq_false (crt_f c18)]; exact ⟨rfl, rfl⟩) | (rw [decide_eq_false (fun h => c8 h.1)]; exact ⟨rfl, rfl⟩))
  · refine g_aload eX5_isCourt_11 rfl ?_
    refine g_get eX5_isCourt_12 fX5_18_X5 (at_ne n1 h1) (by rfl) ?_
    refine g_callV0 (r := (RX9, TX9, 3)) eX5_isCourt_15 kX5_37 (at_eq h3) (by rfl) (c_isWhole (s := (wfa (shW cd) n 0 (0, 0, 0)).2) (at_eq h3) hok.1) (by rfl) (by rfl) (by exact Nat.le_of_ble_eq_true rfl) (by exact Nat.le_of_ble_eq_true rfl) (by exact Nat.le_of_ble_eq_true rfl) (Nat.le_refl _) (Nat.le_refl _) (fun v15 σ15 hp15 hn15 => ?_)
    obtain ⟨rfl, rfl⟩ := hp15
    refine g_if_eqN eX5_isCourt_18 (by have := Bool.toNat_le (decide ((wfa (shW cd) n 0 (0, 0, 0)).2.1 = 4 ∧ 0 < (wfa (shW cd) n 0 (0, 0, 0)).2.2.1)); omega) (fun c18 => ?_) (fun c18 => ?_)
    · refine g_push eX5_isCourt_25 ?_
      exact g_ret (eX5_isCourt_26 _ (by first | exact Or.inl rfl | exact Or.inr rfl)) (Nat.le_refl _) (Nat.le_refl _) (by unfold wcourt; first | (rw [decide_eq_true (crt_t c8 c18)]; exact ⟨rfl, rfl⟩) | (rw [decide_eq_false (crt_f c18)]; exact ⟨rfl, rfl⟩) | (rw [decide_eq_false (fun h => c8 h.1)]; exact ⟨rfl, rfl⟩))
    · refine g_push eX5_isCourt_21 ?_
      refine g_goto eX5_isCourt_22 ?_
      exact g_ret (eX5_isCourt_26 _ (by first | exact Or.inl rfl | exact Or.inr rfl)) (Nat.le_refl _) (Nat.le_refl _) (by unfold wcourt; first | (rw [decide_eq_true (crt_t c8 c18)]; exact ⟨rfl, rfl⟩) | (rw [decide_eq_false (crt_f c18)]; exact ⟨rfl, rfl⟩) | (rw [decide_eq_false (fun h => c8 h.1)]; exact ⟨rfl, rfl⟩))
end
section
/-! THE STATE, as the document has it: page, near, the court's core (sheet, limit, men, changes, heard), the image, courts read, briefs done -/
abbrev Mn : Type := Nat × Nat × Nat
abbrev Hd : Type := Nat × Nat × Bool × Nat × List Nat
abbrev Cr : Type := List Nat × Nat × List Mn × Nat × List Hd
abbrev St : Type := List Nat × List Nat × Cr × Option Cr × Nat × Nat
abbrev shO (c : Cr) : List Nat := c.1
abbrev lmO (c : Cr) : Nat := c.2.1
abbrev mnO (c : Cr) : List Mn := c.2.2.1
abbrev chO (c : Cr) : Nat := c.2.2.2.1
abbrev hdO (c : Cr) : List Hd := c.2.2.2.2
abbrev pgO (t : St) : List Nat := t.1
abbrev nrO (t : St) : List Nat := t.2.1
abbrev crO (t : St) : Cr := t.2.2.1
abbrev imO (t : St) : Option Cr := t.2.2.2.1
abbrev ctO (t : St) : Nat := t.2.2.2.2.1
abbrev brO (t : St) : Nat := t.2.2.2.2.2
abbrev m0 : Mn := (0, 0, 0)
abbrev manO (c : Cr) (i : Nat) : Mn := (mnO c).getD i m0
/-- where one alters by his deed, his kind; hides apart -/
def altB (kind : Nat) (nr : Nat) (s : Nat → Nat) (k : Nat) : Bool := match kind with
  | 1 => nr.testBit (s k) || decide (k = 0)
  | 2 => nr.testBit (s k) && !seenB s k (s k)
  | 3 => decide (0 < k) && nr.testBit (s (k - 1))
  | 4 => nr.testBit (s k) || decide (k = 0) || decide (s k = 7)
  | _ => nr.testBit (s k)
def altA (kind nr hides : Nat) (s : Nat → Nat) (k : Nat) : Bool := !hides.testBit (s k) && altB kind nr s k
abbrev h0 : Hd := (0, 0, false, 0, [])
/-- whether a deed fits what is heard of one of a kind -/
def fitB (near : Nat → Nat) (kind : Nat) (h : Hd) (d : Nat) : Bool := altA kind (near d) h.2.2.2.1 (shW h.2.2.2.2) h.2.1 == h.2.2.1
def cwf (c : Cr) : Prop := (shO c).length ≤ 10 ∧ (∀ k, (shO c).getD k 0 < 8) ∧ lmO c ≤ 10 ∧ (mnO c).length ≤ 4 ∧ (∀ i, (manO c i).1 ≤ 4 ∧ (manO c i).2.1 ≤ 4 ∧ (manO c i).2.2 < 256) ∧ (hdO c).length ≤ 8 ∧ (∀ h ∈ hdO c, h.1 < (mnO c).length ∧ h.2.1 < h.2.2.2.2.length ∧ h.2.2.2.2.length ≤ 10 ∧ h.2.2.2.1 < 256 ∧ ∀ k, h.2.2.2.2.getD k 0 < 8)
def WF (t : St) : Prop := (pgO t).length ≤ 28 ∧ (∀ k, (pgO t).getD k 0 < 127) ∧ (nrO t).length = 5 ∧ (∀ d, (nrO t).getD d 0 < 256) ∧ (nrO t).getD 4 0 = 0 ∧ cwf (crO t) ∧ (∀ c, imO t = some c → cwf c ∧ (mnO c).length ≤ (mnO (crO t)).length ∧ (∀ i, i < (mnO c).length → (manO c i).1 = (manO (crO t) i).1 ∧ (manO c i).2.1 = (manO (crO t) i).2.1) ∧ 0 < (shO c).length) ∧ (ctO t = 0 ↔ (shO (crO t)).length = 0) ∧ ctO t ≤ 1000 ∧ brO t ≤ 30 ∧ (ctO t = 0 → mnO (crO t) = [] ∧ hdO (crO t) = [] ∧ imO t = none)
/-- the cells of a 'State' object at place o -/
def IS (o : Nat) (near : Nat → Nat) (c : Cr) (σ : aH) : Prop := ∃ (ws wm dm hid : List Nat),
  σ[o]? = some (aO 8 [.ref (o + 1), .ref (o + 3), .ref (o + 6), .int (nI (lmO c)), .int (nI (mnO c).length), .int (nI (chO c))]) ∧
  σ[o + 1]? = some (aO 6 [.ref (o + 2), .int (nI (shO c).length)]) ∧ σ[o + 2]? = some (aA ws) ∧
  σ[o + 3]? = some (aO 3 [.ref (o + 4), .ref (o + 5), .int (nI (hdO c).length)]) ∧ σ[o + 4]? = some (aA wm) ∧ σ[o + 5]? = some (aA dm) ∧ σ[o + 6]? = some (aA hid) ∧
  ws.length = 10 ∧ (∀ k, k < (shO c).length → ws.getD k 0 = (shO c).getD k 0) ∧ wm.length = 8 ∧ dm.length = 8 ∧ (∀ k, wm.getD k 0 < 65536) ∧ hid.length = 4 ∧ (∀ i, i < (mnO c).length → hid.getD i 0 = (manO c i).2.2) ∧
  (∀ i, i < (hdO c).length → wm.getD i 0 = ((hdO c).getD i h0).1 ∧ dm.getD i 0 = msk (fitB near (manO c ((hdO c).getD i h0).1).1 ((hdO c).getD i h0)) 5)
/-- the same cells, whatever they hold -/
def ISh (o : Nat) (σ : aH) : Prop := ∃ (ws wm dm hid : List Nat) (y0 y1 y2 y3 y4 : Int32),
  σ[o]? = some (aO 8 [.ref (o + 1), .ref (o + 3), .ref (o + 6), .int y0, .int y1, .int y2]) ∧
  σ[o + 1]? = some (aO 6 [.ref (o + 2), .int y3]) ∧ σ[o + 2]? = some (aA ws) ∧
  σ[o + 3]? = some (aO 3 [.ref (o + 4), .ref (o + 5), .int y4]) ∧ σ[o + 4]? = some (aA wm) ∧ σ[o + 5]? = some (aA dm) ∧ σ[o + 6]? = some (aA hid) ∧
  ws.length = 10 ∧ wm.length = 8 ∧ dm.length = 8 ∧ hid.length = 4
def ciK (kind : Nat) : Nat := match kind with
  | 1 => 7
  | 2 => 0
  | 3 => 1
  | 4 => 10
  | _ => 4
def imB (t : St) : Nat := match imO t with
  | none => 0
  | some _ => 1
/-- the class's cells stand for the state t -/
def IX (t : St) (σ : aH) : Prop := ∃ (cd : List Nat) (x0 x1 x2 : Int32) (mr : List (Option Nat)) (dws : List Nat) (dsz : Int32) (bp bw : List Nat) (bs : Int32),
  σ[0]? = some (aO 11 [.ref 1, .ref 4, .ref 5, .ref 6, .ref 13, .ref 20, .ref 22, .int (nI (imB t)), .int (nI (ctO t)), .int (nI (brO t))]) ∧
  σ[1]? = some (aO 5 [.ref 2, .ref 3, .int (nI (pgO t).length)]) ∧ σ[2]? = some (aA cd) ∧ σ[3]? = some (aO 9 [.int x0, .int x1, .int x2]) ∧
  σ[4]? = some (aA (nrO t)) ∧ σ[5]? = some (.inr (.inl mr)) ∧
  σ[20]? = some (aO 6 [.ref 21, .int dsz]) ∧ σ[21]? = some (aA dws) ∧ σ[22]? = some (aO 2 [.ref 23, .ref 24, .int bs]) ∧ σ[23]? = some (aA bp) ∧ σ[24]? = some (aA bw) ∧
  IS 6 (shW (nrO t)) (crO t) σ ∧ ISh 13 σ ∧ (∀ c, imO t = some c → IS 13 (shW (nrO t)) c σ) ∧
  cd.length = 28 ∧ (∀ k, k < (pgO t).length → cd.getD k 0 = (pgO t).getD k 0) ∧ (∀ k, cd.getD k 0 < 1000) ∧ mr.length = 4 ∧ dws.length = 10 ∧ bp.length = 8 ∧ bw.length = 4 ∧
  (∀ i, i < (mnO (crO t)).length → ∃ q, mr[i]? = some (some q) ∧ 28 ≤ q ∧ σ[q]? = some (aO (ciK (manO (crO t) i).1) [.int (nI (manO (crO t) i).2.1)]))
/-- what a class's method leaves alone: all but its first 25 cells -/
def FrX (σ σ' : aH) : Prop := σ.length ≤ σ'.length ∧ ∀ j, 25 ≤ j → j < σ.length → σ'[j]? = σ[j]?
theorem FrX.rf {σ : aH} : FrX σ σ := ⟨Nat.le_refl _, fun _ _ _ => rfl⟩
theorem FrX.st {σ τ : aH} {i : Nat} {c : aT} (h : FrX σ τ) (hi : i < 25) : FrX σ (τ.set i c) := ⟨by rw [List.length_set]; exact h.1, fun j h1 h2 => by rw [List.getElem?_set_ne (by omega)]; exact h.2 j h1 h2⟩
theorem FrX.tr {σ τ υ : aH} (h : FrX σ τ) (h2 : FrX τ υ) : FrX σ υ := ⟨Nat.le_trans h.1 h2.1, fun j a b => (h2.2 j a (Nat.lt_of_lt_of_le b h.1)).trans (h.2 j a b)⟩
theorem FrX.at {σ τ : aH} {i : Nat} {c : aT} (h : FrX σ τ) (hi : 25 ≤ i) (hc : σ[i]? = some c) : τ[i]? = some c := (h.2 i hi (List.getElem?_eq_some_iff.mp hc).1).trans hc
/-! MEN: kinds, deeds -/
set_option maxRecDepth 20000 in
theorem c_X4_pbd {σ : aH} {a b sz : Nat} {ws : List Nat} (h1 : σ[a]? = some (aO 6 [.ref b, .int (nI sz)])) (h2 : σ[b]? = some (aA ws)) (hl : ws.length = 10) (hs : sz ≤ 10) (hw : ∀ k, k < sz → ws.getD k 0 < 8) {q w : Nat} (hw2 : w < 2147483648) : MX4_placesByDeed 1 0 0 [.ref q, .ref a, .int (nI w)] σ (aPu (some (.int (nI (msk (fun k => w.testBit (ws.getD k 0)) sz)))) σ) := by
  refine sX4_placesByDeed (Nat.le_of_ble_eq_true rfl) ?_
  refine g_aload eX4_placesByDeed_0 rfl ?_
  refine g_iload eX4_placesByDeed_1 rfl ?_
  refine g_callVp (r := (RX6, TX6, 2)) eX4_placesByDeed_2 kX4_13 h1 (by rfl) (c_placesOf h1 h2 hl hs hw hw2) (by rfl) (by rfl) (by exact Nat.le_of_ble_eq_true rfl) (by exact Nat.le_of_ble_eq_true rfl) (by exact Nat.le_of_ble_eq_true rfl) (Nat.le_refl _) (Nat.le_refl _) ?_
  exact g_ret (eX4_placesByDeed_5 _) (Nat.le_refl _) (Nat.le_refl _) ⟨rfl, rfl⟩
set_option maxRecDepth 20000 in
theorem c_X0_pbd {σ : aH} {a b sz : Nat} {ws : List Nat} (h1 : σ[a]? = some (aO 6 [.ref b, .int (nI sz)])) (h2 : σ[b]? = some (aA ws)) (hl : ws.length = 10) (hs : sz ≤ 10) (hw : ∀ k, k < sz → ws.getD k 0 < 8) {q w : Nat} (hw2 : w < 2147483648) : MX0_placesByDeed 1 0 0 [.ref q, .ref a, .int (nI w)] σ (aPu (some (.int (nI (msk (fun k => w.testBit (ws.getD k 0) && !seenB (shW ws) k (ws.getD k 0)) sz)))) σ) := by
  refine sX0_placesByDeed (Nat.le_of_ble_eq_true rfl) ?_
  refine g_aload eX0_placesByDeed_0 rfl ?_
  refine g_iload eX0_placesByDeed_1 rfl ?_
  refine g_callVp (r := (RX6, TX6, 2)) eX0_placesByDeed_2 kX0_7 h1 (by rfl) (c_firstPlacesOf h1 h2 hl hs hw hw2) (by rfl) (by rfl) (by exact Nat.le_of_ble_eq_true rfl) (by exact Nat.le_of_ble_eq_true rfl) (by exact Nat.le_of_ble_eq_true rfl) (Nat.le_refl _) (Nat.le_refl _) ?_
  exact g_ret (eX0_placesByDeed_5 _) (Nat.le_refl _) (Nat.le_refl _) ⟨rfl, rfl⟩
set_option maxRecDepth 20000 in
theorem c_X1_pbd {σ : aH} {a b sz : Nat} {ws : List Nat} (h1 : σ[a]? = some (aO 6 [.ref b, .int (nI sz)])) (h2 : σ[b]? = some (aA ws)) (hl : ws.length = 10) (hs : sz ≤ 10) (hw : ∀ k, k < sz → ws.getD k 0 < 8) {q w : Nat} (hw2 : w < 2147483648) : MX1_placesByDeed 1 0 0 [.ref q, .ref a, .int (nI w)] σ (aPu (some (.int (nI (msk (fun k => decide (0 < k) && w.testBit (ws.getD (k - 1) 0)) sz)))) σ) := by
  refine sX1_placesByDeed (Nat.le_of_ble_eq_true rfl) ?_
  have hlt : msk (fun k => w.testBit (ws.getD k 0)) sz < 1024 := Nat.lt_of_lt_of_le (msk_lt _ _) (show 2 ^ sz ≤ 2 ^ 10 from Nat.pow_le_pow_right (by omega) hs)
  refine g_aload eX1_placesByDeed_0 rfl ?_
  refine g_aload eX1_placesByDeed_1 rfl ?_
  refine g_iload eX1_placesByDeed_2 rfl ?_
  refine g_callVp (r := (RX6, TX6, 2)) eX1_placesByDeed_3 kX1_7 h1 (by rfl) (c_placesOf h1 h2 hl hs hw hw2) (by rfl) (by rfl) (by exact Nat.le_of_ble_eq_true rfl) (by exact Nat.le_of_ble_eq_true rfl) (by exact Nat.le_of_ble_eq_true rfl) (Nat.le_refl _) (Nat.le_refl _) ?_
  refine g_callVp (r := (RX6, TX6, 2)) eX1_placesByDeed_6 kX1_13 h1 (by rfl) (c_placesBehind h1 hs hlt) (by rfl) (by rfl) (by exact Nat.le_of_ble_eq_true rfl) (by exact Nat.le_of_ble_eq_true rfl) (by exact Nat.le_of_ble_eq_true rfl) (Nat.le_refl _) (Nat.le_refl _) ?_
  exact g_ret (eX1_placesByDeed_9 _) (Nat.le_refl _) (Nat.le_refl _) ⟨by
      congr 3
      refine msk_congr (fun k hk => ?_)
      rw [msk_tb]
      by_cases h0 : 0 < k
      · simp [h0, show k - 1 < sz by omega]
      · simp [h0], rfl⟩
set_option maxRecDepth 20000 in
theorem c_X4_any {σ : aH} {q a : Nat} : MX4_placesAnyhow 0 0 0 [.ref q, .ref a] σ (aPu (some (.int (nI 0))) σ) := by
  refine sX4_placesAnyhow (Nat.le_of_ble_eq_true rfl) ?_
  refine g_push eX4_placesAnyhow_0 ?_
  exact g_ret (eX4_placesAnyhow_1 _) (Nat.le_refl _) (Nat.le_refl _) ⟨rfl, rfl⟩
set_option maxRecDepth 20000 in
theorem c_X7_any {σ : aH} {q a : Nat} : MX7_placesAnyhow 0 0 0 [.ref q, .ref a] σ (aPu (some (.int (nI 1))) σ) := by
  refine sX7_placesAnyhow (Nat.le_of_ble_eq_true rfl) ?_
  refine g_push eX7_placesAnyhow_0 ?_
  exact g_ret (eX7_placesAnyhow_1 _) (Nat.le_refl _) (Nat.le_refl _) ⟨rfl, rfl⟩
set_option maxRecDepth 20000 in
theorem c_X10_any {σ : aH} {a b sz : Nat} {ws : List Nat} (h1 : σ[a]? = some (aO 6 [.ref b, .int (nI sz)])) (h2 : σ[b]? = some (aA ws)) (hl : ws.length = 10) (hs : sz ≤ 10) (hw : ∀ k, k < sz → ws.getD k 0 < 8) {q : Nat} {fs : List Value} (hq : σ[q]? = some (aO 10 fs)) : MX10_placesAnyhow 1 0 0 [.ref q, .ref a] σ (aPu (some (.int (nI (1 ||| msk (fun k => (128).testBit (ws.getD k 0)) sz)))) σ) := by
  refine sX10_placesAnyhow (Nat.le_of_ble_eq_true rfl) ?_
  refine g_aload eX10_placesAnyhow_0 rfl ?_
  refine g_aload eX10_placesAnyhow_1 rfl ?_
  refine g_callSup (r := (RX10, TX10, 1)) eX10_placesAnyhow_2 kX10_7 hq (by rfl) (c_X7_any) (by rfl) (by rfl) (by exact Nat.le_of_ble_eq_true rfl) (by exact Nat.le_of_ble_eq_true rfl) (by exact Nat.le_of_ble_eq_true rfl) (Nat.le_refl _) (Nat.le_refl _) ?_
  refine g_aload eX10_placesAnyhow_5 rfl ?_
  refine g_push eX10_placesAnyhow_6 ?_
  refine g_callVp (r := (RX6, TX6, 2)) eX10_placesAnyhow_9 kX10_13 h1 (by rfl) (c_placesOf (w := 128) h1 h2 hl hs hw (by omega)) (by rfl) (by rfl) (by exact Nat.le_of_ble_eq_true rfl) (by exact Nat.le_of_ble_eq_true rfl) (by exact Nat.le_of_ble_eq_true rfl) (Nat.le_refl _) (Nat.le_refl _) ?_
  refine g_iorN eX10_placesAnyhow_12 ?_
  exact g_ret (eX10_placesAnyhow_13 _) (Nat.le_refl _) (Nat.le_refl _) ⟨rfl, rfl⟩
set_option maxRecDepth 20000 in
theorem c_deed {σ : aH} {q ci : Nat} {x : Int32} (hq : σ[q]? = some (aO ci [.int x])) (hc : ci = 0 ∨ ci = 1 ∨ ci = 4 ∨ ci = 7 ∨ ci = 10) : MX4_deed 0 0 0 [.ref q] σ (aPu (some (.int x)) σ) := by
  refine sX4_deed (Nat.le_of_ble_eq_true rfl) ?_
  rcases hc with rfl | rfl | rfl | rfl | rfl
  · refine g_aload eX4_deed_0 rfl ?_
    refine g_get eX4_deed_1 fX4_7_X0 hq (by rfl) ?_
    exact g_ret (eX4_deed_4 _) (Nat.le_refl _) (Nat.le_refl _) ⟨rfl, rfl⟩
  · refine g_aload eX4_deed_0 rfl ?_
    refine g_get eX4_deed_1 fX4_7_X1 hq (by rfl) ?_
    exact g_ret (eX4_deed_4 _) (Nat.le_refl _) (Nat.le_refl _) ⟨rfl, rfl⟩
  · refine g_aload eX4_deed_0 rfl ?_
    refine g_get eX4_deed_1 fX4_7_X4 hq (by rfl) ?_
    exact g_ret (eX4_deed_4 _) (Nat.le_refl _) (Nat.le_refl _) ⟨rfl, rfl⟩
  · refine g_aload eX4_deed_0 rfl ?_
    refine g_get eX4_deed_1 fX4_7_X7 hq (by rfl) ?_
    exact g_ret (eX4_deed_4 _) (Nat.le_refl _) (Nat.le_refl _) ⟨rfl, rfl⟩
  · refine g_aload eX4_deed_0 rfl ?_
    refine g_get eX4_deed_1 fX4_7_X10 hq (by rfl) ?_
    exact g_ret (eX4_deed_4 _) (Nat.le_refl _) (Nat.le_refl _) ⟨rfl, rfl⟩
set_option maxRecDepth 20000 in
theorem c_X4_kind {σ : aH} {q : Nat} : MX4_kind 0 0 0 [.ref q] σ (aPu (some (.int (nI 0))) σ) := by
  refine sX4_kind (Nat.le_of_ble_eq_true rfl) ?_
  refine g_push eX4_kind_0 ?_
  exact g_ret (eX4_kind_1 _) (Nat.le_refl _) (Nat.le_refl _) ⟨rfl, rfl⟩
set_option maxRecDepth 20000 in
theorem c_X7_kind {σ : aH} {q : Nat} : MX7_kind 0 0 0 [.ref q] σ (aPu (some (.int (nI 1))) σ) := by
  refine sX7_kind (Nat.le_of_ble_eq_true rfl) ?_
  refine g_push eX7_kind_0 ?_
  exact g_ret (eX7_kind_1 _) (Nat.le_refl _) (Nat.le_refl _) ⟨rfl, rfl⟩
set_option maxRecDepth 20000 in
theorem c_X0_kind {σ : aH} {q : Nat} : MX0_kind 0 0 0 [.ref q] σ (aPu (some (.int (nI 2))) σ) := by
  refine sX0_kind (Nat.le_of_ble_eq_true rfl) ?_
  refine g_push eX0_kind_0 ?_
  exact g_ret (eX0_kind_1 _) (Nat.le_refl _) (Nat.le_refl _) ⟨rfl, rfl⟩
set_option maxRecDepth 20000 in
theorem c_X1_kind {σ : aH} {q : Nat} : MX1_kind 0 0 0 [.ref q] σ (aPu (some (.int (nI 3))) σ) := by
  refine sX1_kind (Nat.le_of_ble_eq_true rfl) ?_
  refine g_push eX1_kind_0 ?_
  exact g_ret (eX1_kind_1 _) (Nat.le_refl _) (Nat.le_refl _) ⟨rfl, rfl⟩
set_option maxRecDepth 20000 in
theorem c_X10_kind {σ : aH} {q : Nat} : MX10_kind 0 0 0 [.ref q] σ (aPu (some (.int (nI 4))) σ) := by
  refine sX10_kind (Nat.le_of_ble_eq_true rfl) ?_
  refine g_push eX10_kind_0 ?_
  exact g_ret (eX10_kind_1 _) (Nat.le_refl _) (Nat.le_refl _) ⟨rfl, rfl⟩
def pbd (kind w : Nat) (ws : List Nat) (sz : Nat) : Nat := match kind with
  | 2 => msk (fun k => w.testBit (ws.getD k 0) && !seenB (shW ws) k (ws.getD k 0)) sz
  | 3 => msk (fun k => decide (0 < k) && w.testBit (ws.getD (k - 1) 0)) sz
  | _ => msk (fun k => w.testBit (ws.getD k 0)) sz
def pany (kind : Nat) (ws : List Nat) (sz : Nat) : Nat := match kind with
  | 1 => 1
  | 4 => 1 ||| msk (fun k => (128).testBit (ws.getD k 0)) sz
  | _ => 0
set_option maxRecDepth 20000 in
theorem g_kind {Y : MethodName} {cc : ByteArray} {nL : Nat} {rt : Option FieldType} {lv mc ms : Nat} {post : Option Value → aH → Prop} {k n pc pc' : Nat} {L : List (Option Value)} {S : List Value} {σ : aH} {q kind : Nat} {fs : List Value} (hY : Y.cls = RX11) (hd : aI3 cc pc (.invokevirtual 122) pc') (hk : kind ≤ 4) (hq : σ[q]? = some (aO (ciK kind) fs)) (hlv : 1 ≤ lv) (hsum : (S.map fun v => v.category).sum ≤ 8) (hmc : k ≤ mc) (hms : n ≤ ms) (kk : G Y cc nL rt lv mc ms post k n pc' L (.int (nI kind) :: S) σ) : G Y cc nL rt lv mc ms post k n pc L (.ref q :: S) σ := by
  rcases (show kind = 0 ∨ kind = 1 ∨ kind = 2 ∨ kind = 3 ∨ kind = 4 by omega) with rfl | rfl | rfl | rfl | rfl
  · exact g_callVp (r := (RX4, TX4, 1)) hd (hY ▸ kX11_122_X4) hq rfl (c_X4_kind) rfl rfl (by omega) (Nat.le_of_ble_eq_true rfl) hsum hmc hms kk
  · exact g_callUp (r := (RX7, TX7, 1)) hd (hY ▸ kX11_122_X7) hq rfl (c_X7_kind) rfl rfl (by omega) (Nat.le_of_ble_eq_true rfl) hsum hmc hms kk
  · exact g_callUp (r := (RX0, TX0, 1)) hd (hY ▸ kX11_122_X0) hq rfl (c_X0_kind) rfl rfl (by omega) (Nat.le_of_ble_eq_true rfl) hsum hmc hms kk
  · exact g_callUp (r := (RX1, TX1, 1)) hd (hY ▸ kX11_122_X1) hq rfl (c_X1_kind) rfl rfl (by omega) (Nat.le_of_ble_eq_true rfl) hsum hmc hms kk
  · exact g_callUp (r := (RX10, TX10, 1)) hd (hY ▸ kX11_122_X10) hq rfl (c_X10_kind) rfl rfl (by omega) (Nat.le_of_ble_eq_true rfl) hsum hmc hms kk
set_option maxRecDepth 20000 in
theorem g_deed {Y : MethodName} {cc : ByteArray} {nL : Nat} {rt : Option FieldType} {lv mc ms : Nat} {post : Option Value → aH → Prop} {k n pc pc' : Nat} {L : List (Option Value)} {S : List Value} {σ : aH} {q kind : Nat} {fs : List Value} {x : Int32} (hfs : fs = [.int x]) (hY : Y.cls = RX11) (hd : aI3 cc pc (.invokevirtual 125) pc') (hk : kind ≤ 4) (hq : σ[q]? = some (aO (ciK kind) fs)) (hlv : 1 ≤ lv) (hsum : (S.map fun v => v.category).sum ≤ 8) (hmc : k ≤ mc) (hms : n ≤ ms) (kk : G Y cc nL rt lv mc ms post k n pc' L (.int x :: S) σ) : G Y cc nL rt lv mc ms post k n pc L (.ref q :: S) σ := by
  rcases (show kind = 0 ∨ kind = 1 ∨ kind = 2 ∨ kind = 3 ∨ kind = 4 by omega) with rfl | rfl | rfl | rfl | rfl
  · exact g_callVp (r := (RX4, TX4, 1)) hd (hY ▸ kX11_125_X4) hq rfl (c_deed (by rw [hq, hfs]) (by decide)) rfl rfl (by omega) (Nat.le_of_ble_eq_true rfl) hsum hmc hms kk
  · exact g_callUp (r := (RX7, TX7, 1)) hd (hY ▸ kX11_125_X7) hq rfl (c_deed (by rw [hq, hfs]) (by decide)) rfl rfl (by omega) (Nat.le_of_ble_eq_true rfl) hsum hmc hms kk
  · exact g_callUp (r := (RX0, TX0, 1)) hd (hY ▸ kX11_125_X0) hq rfl (c_deed (by rw [hq, hfs]) (by decide)) rfl rfl (by omega) (Nat.le_of_ble_eq_true rfl) hsum hmc hms kk
  · exact g_callUp (r := (RX1, TX1, 1)) hd (hY ▸ kX11_125_X1) hq rfl (c_deed (by rw [hq, hfs]) (by decide)) rfl rfl (by omega) (Nat.le_of_ble_eq_true rfl) hsum hmc hms kk
  · exact g_callUp (r := (RX10, TX10, 1)) hd (hY ▸ kX11_125_X10) hq rfl (c_deed (by rw [hq, hfs]) (by decide)) rfl rfl (by omega) (Nat.le_of_ble_eq_true rfl) hsum hmc hms kk
set_option maxRecDepth 20000 in
theorem g_pbd {Y : MethodName} {cc : ByteArray} {nL : Nat} {rt : Option FieldType} {lv mc ms : Nat} {post : Option Value → aH → Prop} {k n pc pc' : Nat} {L : List (Option Value)} {S : List Value} {σ : aH} {q kind : Nat} {fs : List Value} {a b sz : Nat} {ws : List Nat} (h1 : σ[a]? = some (aO 6 [.ref b, .int (nI sz)])) (h2 : σ[b]? = some (aA ws)) (hl : ws.length = 10) (hs : sz ≤ 10) (hw : ∀ k, k < sz → ws.getD k 0 < 8) {w : Nat} (hw2 : w < 2147483648) (hY : Y.cls = RX11) (hd : aI3 cc pc (.invokevirtual 246) pc') (hk : kind ≤ 4) (hq : σ[q]? = some (aO (ciK kind) fs)) (hlv : 2 ≤ lv) (hsum : (S.map fun v => v.category).sum ≤ 8) (hmc : k ≤ mc) (hms : n ≤ ms) (kk : G Y cc nL rt lv mc ms post k n pc' L (.int (nI (pbd kind w ws sz)) :: S) σ) : G Y cc nL rt lv mc ms post k n pc L (.int (nI w) :: .ref a :: .ref q :: S) σ := by
  rcases (show kind = 0 ∨ kind = 1 ∨ kind = 2 ∨ kind = 3 ∨ kind = 4 by omega) with rfl | rfl | rfl | rfl | rfl
  · exact g_callVp (r := (RX4, TX4, 1)) hd (hY ▸ kX11_246_X4) hq rfl (c_X4_pbd h1 h2 hl hs hw hw2) rfl rfl (by omega) (Nat.le_of_ble_eq_true rfl) hsum hmc hms kk
  · exact g_callUp (r := (RX7, TX7, 1)) hd (hY ▸ kX11_246_X7) hq rfl (c_X4_pbd h1 h2 hl hs hw hw2) rfl rfl (by omega) (Nat.le_of_ble_eq_true rfl) hsum hmc hms kk
  · exact g_callUp (r := (RX0, TX0, 1)) hd (hY ▸ kX11_246_X0) hq rfl (c_X0_pbd h1 h2 hl hs hw hw2) rfl rfl (by omega) (Nat.le_of_ble_eq_true rfl) hsum hmc hms kk
  · exact g_callUp (r := (RX1, TX1, 1)) hd (hY ▸ kX11_246_X1) hq rfl (c_X1_pbd h1 h2 hl hs hw hw2) rfl rfl (by omega) (Nat.le_of_ble_eq_true rfl) hsum hmc hms kk
  · exact g_callUp (r := (RX10, TX10, 1)) hd (hY ▸ kX11_246_X10) hq rfl (c_X4_pbd h1 h2 hl hs hw hw2) rfl rfl (by omega) (Nat.le_of_ble_eq_true rfl) hsum hmc hms kk
set_option maxRecDepth 20000 in
theorem g_any {Y : MethodName} {cc : ByteArray} {nL : Nat} {rt : Option FieldType} {lv mc ms : Nat} {post : Option Value → aH → Prop} {k n pc pc' : Nat} {L : List (Option Value)} {S : List Value} {σ : aH} {q kind : Nat} {fs : List Value} {a b sz : Nat} {ws : List Nat} (h1 : σ[a]? = some (aO 6 [.ref b, .int (nI sz)])) (h2 : σ[b]? = some (aA ws)) (hl : ws.length = 10) (hs : sz ≤ 10) (hw : ∀ k, k < sz → ws.getD k 0 < 8) (hY : Y.cls = RX11) (hd : aI3 cc pc (.invokevirtual 250) pc') (hk : kind ≤ 4) (hq : σ[q]? = some (aO (ciK kind) fs)) (hlv : 2 ≤ lv) (hsum : (S.map fun v => v.category).sum ≤ 8) (hmc : k ≤ mc) (hms : n ≤ ms) (kk : G Y cc nL rt lv mc ms post k n pc' L (.int (nI (pany kind ws sz)) :: S) σ) : G Y cc nL rt lv mc ms post k n pc L (.ref a :: .ref q :: S) σ := by
  rcases (show kind = 0 ∨ kind = 1 ∨ kind = 2 ∨ kind = 3 ∨ kind = 4 by omega) with rfl | rfl | rfl | rfl | rfl
  · exact g_callVp (r := (RX4, TX4, 1)) hd (hY ▸ kX11_250_X4) hq rfl (c_X4_any) rfl rfl (by omega) (Nat.le_of_ble_eq_true rfl) hsum hmc hms kk
  · exact g_callUp (r := (RX7, TX7, 1)) hd (hY ▸ kX11_250_X7) hq rfl (c_X7_any) rfl rfl (by omega) (Nat.le_of_ble_eq_true rfl) hsum hmc hms kk
  · exact g_callUp (r := (RX0, TX0, 1)) hd (hY ▸ kX11_250_X0) hq rfl (c_X4_any) rfl rfl (by omega) (Nat.le_of_ble_eq_true rfl) hsum hmc hms kk
  · exact g_callUp (r := (RX1, TX1, 1)) hd (hY ▸ kX11_250_X1) hq rfl (c_X4_any) rfl rfl (by omega) (Nat.le_of_ble_eq_true rfl) hsum hmc hms kk
  · exact g_callUp (r := (RX10, TX10, 1)) hd (hY ▸ kX11_250_X10) hq rfl (c_X10_any h1 h2 hl hs hw hq) rfl rfl (by omega) (Nat.le_of_ble_eq_true rfl) hsum hmc hms kk
theorem alt_eq {kind w hid : Nat} {ws : List Nat} {sz : Nat} (hk : kind ≤ 4) (hs : sz ≤ 10) (h0 : 0 < sz) (hw : ∀ k, k < sz → ws.getD k 0 < 8) : ((pbd kind w ws sz ||| pany kind ws sz) &&& (msk (fun k => hid.testBit (ws.getD k 0)) sz ^^^ 4294967295)) = msk (altA kind w hid (shW ws)) sz := by
  have t128 : ∀ x, x < 8 → (128).testBit x = decide (x = 7) := fun x hx => co_dec (N := 8) (P := fun x => (128).testBit x = decide (x = 7)) (by decide +kernel) hx
  have hone : ∀ i, (1 : Nat).testBit i = decide (i = 0) := fun i => by
    rw [show (1 : Nat) = 2 ^ 0 from rfl, Nat.testBit_two_pow, decide_eq_decide]
    exact eq_comm
  have hlt : (pbd kind w ws sz ||| pany kind ws sz) < 2 ^ sz := by
    refine Nat.or_lt_two_pow ?_ ?_
    · unfold pbd
      split <;> exact msk_lt _ _
    · have h1 : 1 < 2 ^ sz := Nat.one_lt_two_pow (by omega)
      unfold pany
      split
      · exact h1
      · exact Nat.or_lt_two_pow h1 (msk_lt _ _)
      · omega
  refine msk_ext (Nat.lt_of_le_of_lt Nat.and_le_left hlt) (fun i hi => ?_)
  rw [Nat.testBit_and, Nat.testBit_or, Nat.testBit_xor, tb_ones i (by omega), msk_tb]
  have ht := t128 _ (hw i hi)
  rcases (show kind = 0 ∨ kind = 1 ∨ kind = 2 ∨ kind = 3 ∨ kind = 4 by omega) with rfl | rfl | rfl | rfl | rfl <;>
    simp [pbd, pany, altA, altB, msk_tb, hi, hone, ht, Bool.and_comm, Bool.or_assoc, shW, -List.getD_eq_getElem?_getD]
set_option maxRecDepth 20000 in
theorem c_hasCourt {σ : aH} {t : St} (hI : IX t σ) (hwf : WF t) : MX11_hasCourt 0 0 0 [.ref 0] σ (aPu (some (.int (nI (decide (0 < ctO t)).toNat))) σ) := by
  refine sX11_hasCourt (Nat.le_of_ble_eq_true rfl) ?_
  obtain ⟨cd, x0, x1, x2, mr, dws, dsz, bp, bw, bs, e0, e1, e2, e3, e4, e5, e20, e21, e22, e23, e24, ⟨ws, wm, dm, hid, e6, e7, e8, e9, e10, e11, e12, lws, hws, lwm, ldm, bwm, lhid, hhid, hhd⟩, hk, hki, lcd, hcd, bcd, lmr, ldws, lbp, lbw, hmen⟩ := hI
  obtain ⟨w1, w2, w3, w4, w5, ⟨w6, w7, w8, w9, w10, w11, w12⟩, w13, w14, w15, w16, w17⟩ := hwf
  refine g_aload eX11_hasCourt_0 rfl ?_
  refine g_get eX11_hasCourt_1 fX11_75_X11 e0 (by rfl) ?_
  refine g_if_leN eX11_hasCourt_4 (by omega) (fun c4 => ?_) (fun c4 => ?_)
  · refine g_push eX11_hasCourt_11 ?_
    exact g_ret (eX11_hasCourt_12 _ (by first | exact Or.inl rfl | exact Or.inr rfl)) (Nat.le_refl _) (Nat.le_refl _) ⟨by first | rw [decide_eq_true (by omega)]; rfl | rw [decide_eq_false (by omega)]; rfl, rfl⟩
  · refine g_push eX11_hasCourt_7 ?_
    refine g_goto eX11_hasCourt_8 ?_
    exact g_ret (eX11_hasCourt_12 _ (by first | exact Or.inl rfl | exact Or.inr rfl)) (Nat.le_refl _) (Nat.le_refl _) ⟨by first | rw [decide_eq_true (by omega)]; rfl | rw [decide_eq_false (by omega)]; rfl, rfl⟩
theorem ac4_ {x : Int32} {m : Nat} (c1 : ¬ x < 0) (c12 : ¬ nI m ≤ x) (hm : m ≤ 4) : ¬ nI 4 ≤ x := by
  obtain ⟨j, hj, rfl⟩ := nI_of c1
  rw [nI_leI (by omega) hj] at c12 ⊢
  omega
set_option maxRecDepth 20000 in
theorem c_isAccused {σ : aH} {t : St} (hI : IX t σ) (hwf : WF t) {x : Int32} : MX11_isAccused 0 0 0 [.ref 0, .int x] σ (fun v σ' => ((∃ j, j < (mnO (crO t)).length ∧ x = nI j ∧ v = some (.int (nI 1))) ∨ ((∀ j, j < (mnO (crO t)).length → x ≠ nI j) ∧ v = some (.int (nI 0)))) ∧ σ' = σ) := by
  refine sX11_isAccused (Nat.le_of_ble_eq_true rfl) ?_
  obtain ⟨cd, x0, x1, x2, mr, dws, dsz, bp, bw, bs, e0, e1, e2, e3, e4, e5, e20, e21, e22, e23, e24, ⟨ws, wm, dm, hid, e6, e7, e8, e9, e10, e11, e12, lws, hws, lwm, ldm, bwm, lhid, hhid, hhd⟩, hk, hki, lcd, hcd, bcd, lmr, ldws, lbp, lbw, hmen⟩ := hI
  obtain ⟨w1, w2, w3, w4, w5, ⟨w6, w7, w8, w9, w10, w11, w12⟩, w13, w14, w15, w16, w17⟩ := hwf
  refine g_iload eX11_isAccused_0 rfl ?_
  refine g_if_lt eX11_isAccused_1 (fun c1 => ?_) (fun c1 => ?_)
  · refine g_push eX11_isAccused_24 ?_
    exact g_ret (eX11_isAccused_25 _ (by first | exact Or.inl rfl | exact Or.inr rfl)) (Nat.le_refl _) (Nat.le_refl _) ⟨by first | exact hasT2_ c1 c12 (by omega) | exact hasF2_ (by first | exact Or.inl c1 | exact Or.inr c12) (by omega), rfl⟩
  · refine g_iload eX11_isAccused_4 rfl ?_
    refine g_aload eX11_isAccused_5 rfl ?_
    refine g_get eX11_isAccused_6 fX11_29_X11 e0 (by rfl) ?_
    refine g_get eX11_isAccused_9 fX11_109_X8 e6 (by rfl) ?_
    refine g_icmp_ge eX11_isAccused_12 (fun c12 => ?_) (fun c12 => ?_)
    · refine g_push eX11_isAccused_24 ?_
      exact g_ret (eX11_isAccused_25 _ (by first | exact Or.inl rfl | exact Or.inr rfl)) (Nat.le_refl _) (Nat.le_refl _) ⟨by first | exact hasT2_ c1 c12 (by omega) | exact hasF2_ (by first | exact Or.inl c1 | exact Or.inr c12) (by omega), rfl⟩
    · refine g_iload eX11_isAccused_15 rfl ?_
      refine g_push eX11_isAccused_16 ?_
      refine g_icmp_ge eX11_isAccused_17 (fun c17 => ?_) (fun c17 => ?_)
      · exact absurd c17 (ac4_ c1 c12 w9)
      · refine g_push eX11_isAccused_20 ?_
        refine g_goto eX11_isAccused_21 ?_
        exact g_ret (eX11_isAccused_25 _ (by first | exact Or.inl rfl | exact Or.inr rfl)) (Nat.le_refl _) (Nat.le_refl _) ⟨by first | exact hasT2_ c1 c12 (by omega) | exact hasF2_ (by first | exact Or.inl c1 | exact Or.inr c12) (by omega), rfl⟩
set_option maxRecDepth 20000 in
theorem c_manOf {σ : aH} {t : St} (hI : IX t σ) (hwf : WF t) {i : Nat} (hi : i < (mnO (crO t)).length) {q : Nat} {mr : List (Option Nat)} (e5 : σ[5]? = some (.inr (.inl mr))) (hlm : mr.length = 4) (hq : mr[i]? = some (some q)) : MX11_manOf 1 0 0 [.ref 0, .int (nI i)] σ (aPu (some (.ref q)) σ) := by
  refine sX11_manOf (Nat.le_of_ble_eq_true rfl) ?_
  have hI' := hI
  have hwf' := hwf
  obtain ⟨cd, x0, x1, x2, mr0, dws, dsz, bp, bw, bs, e0, e1, e2, e3, e4, e50, e20, e21, e22, e23, e24, ⟨ws, wm, dm, hid, e6, e7, e8, e9, e10, e11, e12, lws, hws, lwm, ldm, bwm, lhid, hhid, hhd⟩, hk, hki, lcd, hcd, bcd, lmr, ldws, lbp, lbw, hmen⟩ := hI
  obtain ⟨w1, w2, w3, w4, w5, ⟨w6, w7, w8, w9, w10, w11, w12⟩, w13, w14, w15, w16, w17⟩ := hwf
  refine g_aload eX11_manOf_0 rfl ?_
  refine g_iload eX11_manOf_1 rfl ?_
  refine g_callV0 (r := (RX11, TX11, 10)) eX11_manOf_2 kX11_156 e0 (by rfl) (c_isAccused hI' hwf') (by rfl) (by rfl) (by exact Nat.le_of_ble_eq_true rfl) (by exact Nat.le_of_ble_eq_true rfl) (by exact Nat.le_of_ble_eq_true rfl) (Nat.le_refl _) (Nat.le_refl _) (fun v2 σ2 hp2 hn2 => ?_)
  obtain ⟨hx, rfl⟩ := hp2
  obtain ⟨j', -, -, rfl⟩ := hx.resolve_right (fun z => z.1 i hi rfl)
  refine g_if_eqN eX11_manOf_5 (by omega) (fun c5 => absurd c5 (by decide)) (fun c5 => ?_)
  refine g_aload eX11_manOf_8 rfl ?_
  refine g_get eX11_manOf_9 fX11_22_X11 e0 (by rfl) ?_
  refine g_iload eX11_manOf_12 rfl ?_
  refine g_aald eX11_manOf_13 e5 (by rw [hlm]; exact vp_in_nI (by omega) (by omega)) (by rw [nI_clamp (by omega)]; exact hq) ?_
  refine g_goto eX11_manOf_14 ?_
  exact g_ret (eX11_manOf_18 _) (Nat.le_refl _) (Nat.le_refl _) ⟨rfl, rfl⟩
set_option maxRecDepth 20000 in
theorem c_manOfN {σ : aH} {t : St} (hI : IX t σ) (hwf : WF t) {x : Int32} (hi : ∀ j, j < (mnO (crO t)).length → x ≠ nI j) : MX11_manOf 1 0 0 [.ref 0, .int x] σ (aPu (some .null) σ) := by
  refine sX11_manOf (Nat.le_of_ble_eq_true rfl) ?_
  have hI' := hI
  have hwf' := hwf
  obtain ⟨cd, x0, x1, x2, mr, dws, dsz, bp, bw, bs, e0, e1, e2, e3, e4, e5, e20, e21, e22, e23, e24, ⟨ws, wm, dm, hid, e6, e7, e8, e9, e10, e11, e12, lws, hws, lwm, ldm, bwm, lhid, hhid, hhd⟩, hk, hki, lcd, hcd, bcd, lmr, ldws, lbp, lbw, hmen⟩ := hI
  obtain ⟨w1, w2, w3, w4, w5, ⟨w6, w7, w8, w9, w10, w11, w12⟩, w13, w14, w15, w16, w17⟩ := hwf
  refine g_aload eX11_manOf_0 rfl ?_
  refine g_iload eX11_manOf_1 rfl ?_
  refine g_callV0 (r := (RX11, TX11, 10)) eX11_manOf_2 kX11_156 e0 (by rfl) (c_isAccused hI' hwf') (by rfl) (by rfl) (by exact Nat.le_of_ble_eq_true rfl) (by exact Nat.le_of_ble_eq_true rfl) (by exact Nat.le_of_ble_eq_true rfl) (Nat.le_refl _) (Nat.le_refl _) (fun v2 σ2 hp2 hn2 => ?_)
  obtain ⟨hx, rfl⟩ := hp2
  obtain ⟨-, rfl⟩ := hx.resolve_left (fun ⟨j', z1, z2, _⟩ => hi j' z1 z2)
  refine g_if_eqN eX11_manOf_5 (by omega) (fun c5 => ?_) (fun c5 => absurd rfl c5)
  refine g_null eX11_manOf_17 ?_
  exact g_ret eX11_manOf_18N (Nat.le_refl _) (Nat.le_refl _) ⟨rfl, rfl⟩
set_option maxRecDepth 20000 in
theorem c_deedOf {σ : aH} {t : St} (hI : IX t σ) (hwf : WF t) {i : Nat} (hi : i < (mnO (crO t)).length) : MX11_deedOf 2 0 0 [.ref 0, .int (nI i)] σ (aPu (some (.int (nI (manO (crO t) i).2.1))) σ) := by
  refine sX11_deedOf (Nat.le_of_ble_eq_true rfl) ?_
  have hI' := hI
  have hwf' := hwf
  obtain ⟨cd, x0, x1, x2, mr, dws, dsz, bp, bw, bs, e0, e1, e2, e3, e4, e5, e20, e21, e22, e23, e24, ⟨ws, wm, dm, hid, e6, e7, e8, e9, e10, e11, e12, lws, hws, lwm, ldm, bwm, lhid, hhid, hhd⟩, hk, hki, lcd, hcd, bcd, lmr, ldws, lbp, lbw, hmen⟩ := hI
  obtain ⟨w1, w2, w3, w4, w5, ⟨w6, w7, w8, w9, w10, w11, w12⟩, w13, w14, w15, w16, w17⟩ := hwf
  obtain ⟨q, g1, g2, g3⟩ := hmen i hi
  have hkd := (w10 i).1
  refine g_aload eX11_deedOf_0 rfl ?_
  refine g_iload eX11_deedOf_1 rfl ?_
  refine g_callVp (r := (RX11, TX11, 10)) eX11_deedOf_2 kX11_118 e0 (by rfl) (c_manOf hI' hwf' hi e5 lmr g1) (by rfl) (by rfl) (by exact Nat.le_of_ble_eq_true rfl) (by exact Nat.le_of_ble_eq_true rfl) (by exact Nat.le_of_ble_eq_true rfl) (Nat.le_refl _) (Nat.le_refl _) ?_
  refine g_astore eX11_deedOf_5 rfl ?_
  refine g_aload eX11_deedOf_6 rfl ?_
  refine g_ifnonnull eX11_deedOf_7 ?_
  refine g_aload eX11_deedOf_14 rfl ?_
  refine g_deed (fs := _) rfl rfl eX11_deedOf_15 hkd g3 (by exact Nat.le_of_ble_eq_true rfl) (by exact Nat.le_of_ble_eq_true rfl) (Nat.le_refl _) (Nat.le_refl _) ?_
  exact g_ret (eX11_deedOf_18 _) (Nat.le_refl _) (Nat.le_refl _) ⟨rfl, rfl⟩
set_option maxRecDepth 20000 in
theorem c_hiddenBy {σ : aH} {t : St} (hI : IX t σ) (hwf : WF t) {i : Nat} (hi : i < (mnO (crO t)).length) : MX11_hiddenBy 1 0 0 [.ref 0, .int (nI i)] σ (aPu (some (.int (nI (manO (crO t) i).2.2))) σ) := by
  refine sX11_hiddenBy (Nat.le_of_ble_eq_true rfl) ?_
  have hI' := hI
  have hwf' := hwf
  obtain ⟨cd, x0, x1, x2, mr, dws, dsz, bp, bw, bs, e0, e1, e2, e3, e4, e5, e20, e21, e22, e23, e24, ⟨ws, wm, dm, hid, e6, e7, e8, e9, e10, e11, e12, lws, hws, lwm, ldm, bwm, lhid, hhid, hhd⟩, hk, hki, lcd, hcd, bcd, lmr, ldws, lbp, lbw, hmen⟩ := hI
  obtain ⟨w1, w2, w3, w4, w5, ⟨w6, w7, w8, w9, w10, w11, w12⟩, w13, w14, w15, w16, w17⟩ := hwf
  rw [← hhid i hi]
  refine g_aload eX11_hiddenBy_0 rfl ?_
  refine g_iload eX11_hiddenBy_1 rfl ?_
  refine g_callV0 (r := (RX11, TX11, 10)) eX11_hiddenBy_2 kX11_156 e0 (by rfl) (c_isAccused hI' hwf') (by rfl) (by rfl) (by exact Nat.le_of_ble_eq_true rfl) (by exact Nat.le_of_ble_eq_true rfl) (by exact Nat.le_of_ble_eq_true rfl) (Nat.le_refl _) (Nat.le_refl _) (fun v2 σ2 hp2 hn2 => ?_)
  obtain ⟨hx, rfl⟩ := hp2
  obtain ⟨j', -, -, rfl⟩ := hx.resolve_right (fun z => z.1 i hi rfl)
  refine g_if_eqN eX11_hiddenBy_5 (by omega) (fun c5 => absurd c5 (by decide)) (fun c5 => ?_)
  refine g_aload eX11_hiddenBy_8 rfl ?_
  refine g_get eX11_hiddenBy_9 fX11_29_X11 e0 (by rfl) ?_
  refine g_get eX11_hiddenBy_12 fX11_115_X8 e6 (by rfl) ?_
  refine g_iload eX11_hiddenBy_15 rfl ?_
  refine g_ialdN eX11_hiddenBy_16 e12 (by omega) (by omega) ?_
  refine g_goto eX11_hiddenBy_17 ?_
  exact g_ret (eX11_hiddenBy_21 _) (Nat.le_refl _) (Nat.le_refl _) ⟨rfl, rfl⟩
set_option maxRecDepth 20000 in
theorem c_wouldAlter {σ : aH} {t : St} (hI : IX t σ) (hwf : WF t) {i : Nat} (hi : i < (mnO (crO t)).length) {a b sz : Nat} {ws' : List Nat} (h1 : σ[a]? = some (aO 6 [.ref b, .int (nI sz)])) (h2 : σ[b]? = some (aA ws')) (hl : ws'.length = 10) (hs : sz ≤ 10) (hz : 0 < sz) (hw : ∀ k, k < sz → ws'.getD k 0 < 8) {d hh : Nat} (hd : d ≤ 4) (hh2 : hh < 2147483648) : MX11_wouldAlter 2 0 0 [.ref 0, .int (nI i), .ref a, .int (nI d), .int (nI hh)] σ (aPu (some (.int (nI (msk (altA (manO (crO t) i).1 ((nrO t).getD d 0) hh (shW ws')) sz)))) σ) := by
  refine sX11_wouldAlter (Nat.le_of_ble_eq_true rfl) ?_
  have hI' := hI
  have hwf' := hwf
  obtain ⟨cd, x0, x1, x2, mr, dws, dsz, bp, bw, bs, e0, e1, e2, e3, e4, e5, e20, e21, e22, e23, e24, ⟨ws, wm, dm, hid, e6, e7, e8, e9, e10, e11, e12, lws, hws, lwm, ldm, bwm, lhid, hhid, hhd⟩, hk, hki, lcd, hcd, bcd, lmr, ldws, lbp, lbw, hmen⟩ := hI
  obtain ⟨w1, w2, w3, w4, w5, ⟨w6, w7, w8, w9, w10, w11, w12⟩, w13, w14, w15, w16, w17⟩ := hwf
  obtain ⟨q, g1, g2, g3⟩ := hmen i hi
  have hkd := (w10 i).1
  have hnr := w4 d
  refine g_aload eX11_wouldAlter_0 rfl ?_
  refine g_iload eX11_wouldAlter_1 rfl ?_
  refine g_callVp (r := (RX11, TX11, 10)) eX11_wouldAlter_2 kX11_118 e0 (by rfl) (c_manOf hI' hwf' hi e5 lmr g1) (by rfl) (by rfl) (by exact Nat.le_of_ble_eq_true rfl) (by exact Nat.le_of_ble_eq_true rfl) (by exact Nat.le_of_ble_eq_true rfl) (Nat.le_refl _) (Nat.le_refl _) ?_
  refine g_astore eX11_wouldAlter_5 rfl ?_
  refine g_aload eX11_wouldAlter_7 rfl ?_
  refine g_ifnull eX11_wouldAlter_9 ?_
  refine g_aload eX11_wouldAlter_12 rfl ?_
  refine g_ifnull eX11_wouldAlter_13 ?_
  refine g_iload eX11_wouldAlter_16 rfl ?_
  refine g_if_ltN eX11_wouldAlter_17 (by omega) ?_
  refine g_iload eX11_wouldAlter_20 rfl ?_
  refine g_push eX11_wouldAlter_21 ?_
  refine g_icmp_ltN eX11_wouldAlter_22 (by omega) (by omega) (fun c22 => ?_) (fun c22 => by exfalso; omega)
  refine g_aload eX11_wouldAlter_27 rfl ?_
  refine g_aload eX11_wouldAlter_29 rfl ?_
  refine g_aload eX11_wouldAlter_30 rfl ?_
  refine g_get eX11_wouldAlter_31 fX11_16_X11 e0 (by rfl) ?_
  refine g_iload eX11_wouldAlter_34 rfl ?_
  refine g_ialdN eX11_wouldAlter_35 e4 (by omega) (by omega) ?_
  refine g_pbd h1 h2 hl hs hw (by omega) rfl eX11_wouldAlter_36 hkd g3 (by exact Nat.le_of_ble_eq_true rfl) (by exact Nat.le_of_ble_eq_true rfl) (Nat.le_refl _) (Nat.le_refl _) ?_
  refine g_aload eX11_wouldAlter_39 rfl ?_
  refine g_aload eX11_wouldAlter_41 rfl ?_
  refine g_any h1 h2 hl hs hw rfl eX11_wouldAlter_42 hkd g3 (by exact Nat.le_of_ble_eq_true rfl) (by exact Nat.le_of_ble_eq_true rfl) (Nat.le_refl _) (Nat.le_refl _) ?_
  refine g_iorN eX11_wouldAlter_45 ?_
  refine g_istore eX11_wouldAlter_46 rfl ?_
  refine g_iload eX11_wouldAlter_48 rfl ?_
  refine g_aload eX11_wouldAlter_50 rfl ?_
  refine g_iload eX11_wouldAlter_51 rfl ?_
  refine g_callVp (r := (RX6, TX6, 2)) eX11_wouldAlter_53 kX11_179 h1 (by rfl) (c_placesOf h1 h2 hl hs hw hh2) (by rfl) (by rfl) (by exact Nat.le_of_ble_eq_true rfl) (by exact Nat.le_of_ble_eq_true rfl) (by exact Nat.le_of_ble_eq_true rfl) (Nat.le_refl _) (Nat.le_refl _) ?_
  refine g_push (v := nI 4294967295) (nA_m1 ▸ eX11_wouldAlter_56) ?_
  refine g_ixorN eX11_wouldAlter_57 ?_
  refine g_iandN eX11_wouldAlter_58 ?_
  exact g_ret (eX11_wouldAlter_59 _) (Nat.le_refl _) (Nat.le_refl _) ⟨congrArg (fun x => some (Value.int (nI x))) (alt_eq hkd hs hz hw), rfl⟩
set_option maxRecDepth 20000 in
theorem c_alteredBy {σ : aH} {t : St} (hI : IX t σ) (hwf : WF t) {i : Nat} (hi : i < (mnO (crO t)).length) {a b sz : Nat} {ws' : List Nat} (h1 : σ[a]? = some (aO 6 [.ref b, .int (nI sz)])) (h2 : σ[b]? = some (aA ws')) (hl : ws'.length = 10) (hs : sz ≤ 10) (hz : 0 < sz) (hw : ∀ k, k < sz → ws'.getD k 0 < 8) : MX11_alteredBy 3 0 0 [.ref 0, .int (nI i), .ref a] σ (aPu (some (.int (nI (msk (altA (manO (crO t) i).1 ((nrO t).getD (manO (crO t) i).2.1 0) (manO (crO t) i).2.2 (shW ws')) sz)))) σ) := by
  refine sX11_alteredBy (Nat.le_of_ble_eq_true rfl) ?_
  have hI' := hI
  have hwf' := hwf
  obtain ⟨cd, x0, x1, x2, mr, dws, dsz, bp, bw, bs, e0, e1, e2, e3, e4, e5, e20, e21, e22, e23, e24, ⟨ws, wm, dm, hid, e6, e7, e8, e9, e10, e11, e12, lws, hws, lwm, ldm, bwm, lhid, hhid, hhd⟩, hk, hki, lcd, hcd, bcd, lmr, ldws, lbp, lbw, hmen⟩ := hI
  obtain ⟨w1, w2, w3, w4, w5, ⟨w6, w7, w8, w9, w10, w11, w12⟩, w13, w14, w15, w16, w17⟩ := hwf
  have hkd := w10 i
  refine g_aload eX11_alteredBy_0 rfl ?_
  refine g_iload eX11_alteredBy_1 rfl ?_
  refine g_aload eX11_alteredBy_2 rfl ?_
  refine g_aload eX11_alteredBy_3 rfl ?_
  refine g_iload eX11_alteredBy_4 rfl ?_
  refine g_callVp (r := (RX11, TX11, 10)) eX11_alteredBy_5 kX11_168 e0 (by rfl) (c_deedOf hI' hwf' hi) (by rfl) (by rfl) (by exact Nat.le_of_ble_eq_true rfl) (by exact Nat.le_of_ble_eq_true rfl) (by exact Nat.le_of_ble_eq_true rfl) (Nat.le_refl _) (Nat.le_refl _) ?_
  refine g_aload eX11_alteredBy_8 rfl ?_
  refine g_iload eX11_alteredBy_9 rfl ?_
  refine g_callVp (r := (RX11, TX11, 10)) eX11_alteredBy_10 kX11_137 e0 (by rfl) (c_hiddenBy hI' hwf' hi) (by rfl) (by rfl) (by exact Nat.le_of_ble_eq_true rfl) (by exact Nat.le_of_ble_eq_true rfl) (by exact Nat.le_of_ble_eq_true rfl) (Nat.le_refl _) (Nat.le_refl _) ?_
  refine g_callVp (r := (RX11, TX11, 10)) eX11_alteredBy_13 kX11_171 e0 (by rfl) (c_wouldAlter hI' hwf' hi h1 h2 hl hs hz hw hkd.2.1 (Nat.lt_trans hkd.2.2 (by decide))) (by rfl) (by rfl) (by exact Nat.le_of_ble_eq_true rfl) (by exact Nat.le_of_ble_eq_true rfl) (by exact Nat.le_of_ble_eq_true rfl) (Nat.le_refl _) (Nat.le_refl _) ?_
  exact g_ret (eX11_alteredBy_16 _) (Nat.le_refl _) (Nat.le_refl _) ⟨rfl, rfl⟩
end
section
/-! what is told of the men on a sheet; listening; hiding; draws -/
def manM (t : St) (i : Nat) (s : Nat → Nat) (n : Nat) : Nat := msk (altA (manO (crO t) i).1 ((nrO t).getD (manO (crO t) i).2.1 0) (manO (crO t) i).2.2 s) n
def sumN (f : Nat → Nat) : Nat → Nat
  | 0 => 0
  | n + 1 => sumN f n + f n
theorem sumN_le {f : Nat → Nat} {b : Nat} (h : ∀ i, f i ≤ b) : ∀ n, sumN f n ≤ b * n
  | 0 => Nat.le_refl _
  | n + 1 => by
    have h1 := sumN_le h n
    have h2 := h n
    show sumN f n + f n ≤ b * (n + 1)
    rw [Nat.mul_succ]
    omega
def hangB (t : St) (s : Nat → Nat) (n : Nat) (i : Nat) : Bool := decide (lmO (crO t) ≤ popc (manM t i s n))
def hangN (t : St) (s : Nat → Nat) (n : Nat) : Nat := cnt (hangB t s n) (mnO (crO t)).length
def allN (t : St) (s : Nat → Nat) (n : Nat) : Nat := sumN (fun i => popc (manM t i s n)) (mnO (crO t)).length
theorem manM_lt (t : St) (i : Nat) (s : Nat → Nat) {n : Nat} (hn : n ≤ 10) : manM t i s n < 1024 := Nat.lt_of_lt_of_le (msk_lt _ _) (show 2 ^ n ≤ 2 ^ 10 from Nat.pow_le_pow_right (by omega) hn)
/-- with which deeds he would alter at a place of THE SHEET -/
def dalB (t : St) (i p : Nat) (d : Nat) : Bool := altA (manO (crO t) i).1 ((nrO t).getD d 0) (manO (crO t) i).2.2 (shW (shO (crO t))) p
def leftB (near : Nat → Nat) (kind : Nat) (hd : Nat → Hd) (a : Nat) : Nat → Nat → Bool
  | 0, _ => true
  | n + 1, d => leftB near kind hd a n d && (!decide ((hd n).1 = a) || fitB near kind (hd n) d)
abbrev hdF (c : Cr) : Nat → Hd := fun i => (hdO c).getD i h0
def lefB (t : St) (a : Nat) (d : Nat) : Bool := leftB (shW (nrO t)) (manO (crO t) a).1 (hdF (crO t)) a (hdO (crO t)).length d
def lefM (t : St) (a : Nat) : Nat := msk (lefB t a) 5
def oI : Option Nat → Int32
  | none => -1
  | some k => nI k
def lstn (w : Nat → Nat) : Nat → Option Nat × Nat
  | 0 => (none, 6)
  | k + 1 => if w k < (lstn w k).2 then (some k, w k) else lstn w k
def wrs (l a : Nat → Bool) : Nat := max (cnt (fun d => l d && a d) 5) (cnt (fun d => l d && !a d) 5)
def lisF (t : St) (a : Nat) : Int32 := if lefM t a = 0 then -1 else oI (lstn (fun k => wrs (lefB t a) (dalB t a k)) (shO (crO t)).length).1
theorem lstn_le (w : Nat → Nat) : ∀ n, (lstn w n).2 ≤ 6
  | 0 => Nat.le_refl _
  | n + 1 => by
    have h := lstn_le w n
    unfold lstn
    split
    · show w n ≤ 6
      omega
    · exact h
theorem dleft_eq {near : Nat → Nat} {kd : Nat → Nat} {hd : Nat → Hd} {wm dm : Nat → Nat} (a : Nat) : ∀ n, (∀ i, i < n → wm i = (hd i).1 ∧ dm i = msk (fitB near (kd (hd i).1) (hd i)) 5) → dleft wm dm a n = msk (leftB near (kd a) hd a n) 5
  | 0, _ => by
    show 31 = msk (leftB near (kd a) hd a 0) 5
    have e := msk_congr (f := leftB near (kd a) hd a 0) (g := fun _ => true) (n := 5) (fun i _ => rfl)
    rw [e]
    decide
  | n + 1, h => by
    have ih := dleft_eq a n (fun i hi => h i (by omega))
    obtain ⟨h1, h2⟩ := h n (by omega)
    unfold dleft
    rw [ih, h1, h2]
    by_cases hw : (hd n).1 = a
    · rw [if_pos hw, hw]
      apply Nat.eq_of_testBit_eq
      intro i
      rw [Nat.testBit_and, msk_tb, msk_tb, msk_tb]
      simp only [leftB, hw, decide_true, Bool.not_true, Bool.false_or]
      by_cases hi : i < 5 <;> simp [hi]
    · rw [if_neg hw]
      exact msk_congr (fun i _ => by simp [leftB, hw])
theorem popc_and {l a : Nat → Bool} : popc (msk l 5 &&& msk a 5) = cnt (fun d => l d && a d) 5 := by
  rw [← popc_msk (f := fun d => l d && a d) (n := 5) (by decide)]
  congr 1
  refine msk_ext (Nat.lt_of_le_of_lt Nat.and_le_left (msk_lt _ _)) (fun i hi => ?_)
  rw [Nat.testBit_and, msk_tb, msk_tb]
  simp [hi]
theorem popc_andn {l a : Nat → Bool} : popc (msk l 5 &&& (msk a 5 ^^^ 4294967295)) = cnt (fun d => l d && !a d) 5 := by
  rw [← popc_msk (f := fun d => l d && !a d) (n := 5) (by decide)]
  congr 1
  refine msk_ext (Nat.lt_of_le_of_lt Nat.and_le_left (msk_lt _ _)) (fun i hi => ?_)
  rw [Nat.testBit_and, Nat.testBit_xor, tb_ones i (by omega), msk_tb, msk_tb]
  simp [hi]
def hvy (wt : Nat → Nat) : Nat → Option Nat × Nat
  | 0 => (none, 0)
  | k + 1 => if (hvy wt k).2 < wt k then (some k, wt k) else hvy wt k
theorem hvy_le {wt : Nat → Nat} {b : Nat} (h : ∀ k, wt k ≤ b) : ∀ n, (hvy wt n).2 ≤ b ∧ ∀ k, (hvy wt n).1 = some k → k < n
  | 0 => ⟨Nat.zero_le _, fun k h => by cases h⟩
  | n + 1 => by
    obtain ⟨h1, h2⟩ := hvy_le h n
    unfold hvy
    split
    · exact ⟨h n, fun k e => by cases e; omega⟩
    · exact ⟨h1, fun k e => Nat.lt_succ_of_lt (h2 k e)⟩
abbrev plM (s : Nat → Nat) (n h : Nat) : Nat := msk (fun k => h.testBit (s k)) n
def hvyW (s : Nat → Nat) (n m : Nat) : Option Nat := (hvy (fun w => popc (m &&& plM s n (2 ^ w))) 8).1
theorem hvyW_lt {s : Nat → Nat} {n m k : Nat} (h : hvyW s n m = some k) : k < 8 := (hvy_le (fun w => popc_le _) 8).2 k h
def wth (s : Nat → Nat) (n m : Nat) : Nat → Nat → Nat
  | 0, h => h
  | d + 1, h => match hvyW s n (m &&& (plM s n h ^^^ 4294967295)) with
    | none => h
    | some w => wth s n m d (h ||| 2 ^ w)
theorem wth_none {s : Nat → Nat} {n m d h : Nat} (e : hvyW s n (m &&& (plM s n h ^^^ 4294967295)) = none) : wth s n m (d + 1) h = h := by simp only [wth, e]
theorem wth_some {s : Nat → Nat} {n m d h w : Nat} (e : hvyW s n (m &&& (plM s n h ^^^ 4294967295)) = some w) : wth s n m (d + 1) h = wth s n m d (h ||| 2 ^ w) := by simp only [wth, e]
def lcg (x : Nat) : Nat := (1103515245 * x + 12345) % 2147483648
def sdN (x : Nat) : Nat → Nat
  | 0 => x
  | n + 1 => lcg (sdN x n)
def drw (x k : Nat) : Nat := sdN x (k + 1) / 65536 % 8
theorem sdN_lt {x : Nat} (h : x < 2147483648) : ∀ n, sdN x n < 2147483648
  | 0 => h
  | n + 1 => Nat.mod_lt _ (by decide)
theorem sdN_add (x : Nat) (a : Nat) : ∀ b, sdN x (a + b) = sdN (sdN x a) b
  | 0 => rfl
  | b + 1 => by
    show lcg (sdN x (a + b)) = lcg (sdN (sdN x a) b)
    rw [sdN_add x a b]
theorem lcg_int (x : Nat) : (nI 1103515245 * nI x + nI 12345) &&& nI 2147483647 = nI (lcg x) := by
  rw [pk_mul, nI_add, nA_and, show (2147483647 : Nat) = 2 ^ 31 - 1 from rfl, Nat.and_two_pow_sub_one_eq_mod]
  rfl
/-- the same heap but at these places -/
def EqO (l : List Nat) (σ σ' : aH) : Prop := σ'.length = σ.length ∧ ∀ j, j ∉ l → σ'[j]? = σ[j]?
theorem EqO.rf {l : List Nat} {σ : aH} : EqO l σ σ := ⟨rfl, fun _ _ => rfl⟩
theorem EqO.st {l : List Nat} {σ τ : aH} {i : Nat} {c : aT} (h : EqO l σ τ) (hi : i ∈ l) : EqO l σ (τ.set i c) := ⟨by rw [List.length_set]; exact h.1, fun j hj => by rw [List.getElem?_set_ne (fun e : i = j => hj (by rw [← e]; exact hi))]; exact h.2 j hj⟩
theorem EqO.at {l : List Nat} {σ τ : aH} {i : Nat} {c : aT} (h : EqO l σ τ) (hi : i ∉ l) (hc : σ[i]? = some c) : τ[i]? = some c := (h.2 i hi).trans hc
theorem EqO.tr {l : List Nat} {σ τ υ : aH} (h : EqO l σ τ) (h2 : EqO l τ υ) : EqO l σ υ := ⟨h2.1.trans h.1, fun j hj => (h2.2 j hj).trans (h.2 j hj)⟩
theorem EqO.fr {l : List Nat} {σ τ : aH} (h : EqO l σ τ) (hl : ∀ i ∈ l, i < 25) : FrX σ τ := ⟨Nat.le_of_eq h.1.symm, fun j h1 _ => h.2 j (fun hj => by have := hl j hj; omega)⟩
theorem IS.at {o : Nat} {near : Nat → Nat} {c : Cr} {σ τ : aH} (h : IS o near c σ) (e : ∀ j, o ≤ j → j < o + 7 → τ[j]? = σ[j]?) : IS o near c τ := by
  obtain ⟨ws, wm, dm, hid, e6, e7, e8, e9, e10, e11, e12, r⟩ := h
  exact ⟨ws, wm, dm, hid, by rw [e _ (by omega) (by omega)]; exact e6, by rw [e _ (by omega) (by omega)]; exact e7, by rw [e _ (by omega) (by omega)]; exact e8, by rw [e _ (by omega) (by omega)]; exact e9, by rw [e _ (by omega) (by omega)]; exact e10, by rw [e _ (by omega) (by omega)]; exact e11, by rw [e _ (by omega) (by omega)]; exact e12, r⟩
theorem ISh.at {o : Nat} {σ τ : aH} (h : ISh o σ) (e : ∀ j, o ≤ j → j < o + 7 → τ[j]? = σ[j]?) : ISh o τ := by
  obtain ⟨ws, wm, dm, hid, y0, y1, y2, y3, y4, e6, e7, e8, e9, e10, e11, e12, r⟩ := h
  exact ⟨ws, wm, dm, hid, y0, y1, y2, y3, y4, by rw [e _ (by omega) (by omega)]; exact e6, by rw [e _ (by omega) (by omega)]; exact e7, by rw [e _ (by omega) (by omega)]; exact e8, by rw [e _ (by omega) (by omega)]; exact e9, by rw [e _ (by omega) (by omega)]; exact e10, by rw [e _ (by omega) (by omega)]; exact e11, by rw [e _ (by omega) (by omega)]; exact e12, r⟩
theorem IS.sh {o : Nat} {near : Nat → Nat} {c : Cr} {σ : aH} (h : IS o near c σ) : ISh o σ := by
  obtain ⟨ws, wm, dm, hid, e6, e7, e8, e9, e10, e11, e12, l1, -, l2, l3, -, l4, -⟩ := h
  exact ⟨ws, wm, dm, hid, _, _, _, _, _, e6, e7, e8, e9, e10, e11, e12, l1, l2, l3, l4⟩
/-- THE WALK, the drawn sheet and the seeker's rows are nobody's business -/
theorem IX.junk {t : St} {σ τ : aH} (hI : IX t σ) (h : EqO [3, 20, 21, 22, 23, 24] σ τ) {x0 x1 x2 dsz bs : Int32} {dws bp bw : List Nat} (g3 : τ[3]? = some (aO 9 [.int x0, .int x1, .int x2])) (g20 : τ[20]? = some (aO 6 [.ref 21, .int dsz])) (g21 : τ[21]? = some (aA dws)) (g22 : τ[22]? = some (aO 2 [.ref 23, .ref 24, .int bs])) (g23 : τ[23]? = some (aA bp)) (g24 : τ[24]? = some (aA bw)) (l1 : dws.length = 10) (l2 : bp.length = 8) (l3 : bw.length = 4) : IX t τ := by
  obtain ⟨cd, y0, y1, y2, mr, dws0, dsz0, bp0, bw0, bs0, e0, e1, e2, e3, e4, e5, e20, e21, e22, e23, e24, hn, hk, hki, lcd, hcd, bcd, lmr, ldws, lbp, lbw, hmen⟩ := hI
  refine ⟨cd, x0, x1, x2, mr, dws, dsz, bp, bw, bs, h.at (by decide) e0, h.at (by decide) e1, h.at (by decide) e2, g3, h.at (by decide) e4, h.at (by decide) e5, g20, g21, g22, g23, g24, hn.at (fun j a b => h.2 j ?_), hk.at (fun j a b => h.2 j ?_), fun c hc => (hki c hc).at (fun j a b => h.2 j ?_), lcd, hcd, bcd, lmr, l1, l2, l3, fun i hi => ?_⟩
  · simp only [List.mem_cons, List.not_mem_nil, or_false]; omega
  · simp only [List.mem_cons, List.not_mem_nil, or_false]; omega
  · simp only [List.mem_cons, List.not_mem_nil, or_false]; omega
  · obtain ⟨q, a1, a2, a3⟩ := hmen i hi
    exact ⟨q, a1, a2, h.at (by simp only [List.mem_cons, List.not_mem_nil, or_false]; omega) a3⟩
set_option maxRecDepth 20000 in
theorem c_hangingAt {σ : aH} {t : St} (hI : IX t σ) (hwf : WF t) {a b sz : Nat} {ws' : List Nat} (h1 : σ[a]? = some (aO 6 [.ref b, .int (nI sz)])) (h2 : σ[b]? = some (aA ws')) (hl : ws'.length = 10) (hs : sz ≤ 10) (hz : 0 < sz ∨ (mnO (crO t)).length = 0) (hw : ∀ k, k < sz → ws'.getD k 0 < 8) : MX11_hangingAt 4 0 0 [.ref 0, .ref a] σ (aPu (some (.int (nI (hangN t (shW ws') sz)))) σ) := by
  refine sX11_hangingAt (Nat.le_of_ble_eq_true rfl) ?_
  have hI' := hI
  have hwf' := hwf
  obtain ⟨cd, x0, x1, x2, mr, dws, dsz, bp, bw, bs, e0, e1, e2, e3, e4, e5, e20, e21, e22, e23, e24, ⟨ws, wm, dm, hid, e6, e7, e8, e9, e10, e11, e12, lws, hws, lwm, ldm, bwm, lhid, hhid, hhd⟩, hk, hki, lcd, hcd, bcd, lmr, ldws, lbp, lbw, hmen⟩ := hI
  obtain ⟨w1, w2, w3, w4, w5, ⟨w6, w7, w8, w9, w10, w11, w12⟩, w13, w14, w15, w16, w17⟩ := hwf
  have key : ∀ d i, i + d = (mnO (crO t)).length → GX11_hangingAt 4 0 0 (aPu (some (.int (nI (hangN t (shW ws') sz)))) σ) 0 0 4 [some (.ref 0), some (.ref a), some (.int (nI (cnt (hangB t (shW ws') sz) i))), some (.int (nI i))] [] σ := by
    intro d
    induction d with
    | zero =>
      intro i hi
      refine g_iload eX11_hangingAt_4 rfl ?_
      refine g_aload eX11_hangingAt_5 rfl ?_
      refine g_get eX11_hangingAt_6 fX11_29_X11 e0 (by rfl) ?_
      refine g_get eX11_hangingAt_9 fX11_109_X8 e6 (by rfl) ?_
      refine g_icmp_geN eX11_hangingAt_12 (by omega) (by omega) (fun c12 => ?_) (fun c12 => by exfalso; omega)
      refine g_iload eX11_hangingAt_43 rfl ?_
      exact g_ret (eX11_hangingAt_44 _) (Nat.le_refl _) (Nat.le_refl _) ⟨by rw [show i = (mnO (crO t)).length by omega]; rfl, rfl⟩
    | succ d ih =>
      intro i hi
      have hi2 : i < (mnO (crO t)).length := by omega
      have hm := manM_lt t i (shW ws') hs
      have hp := popc_le (manM t i (shW ws') sz)
      have hc := cnt_le (hangB t (shW ws') sz) i
      have ih2 := ih (i + 1) (by omega)
      refine g_iload eX11_hangingAt_4 rfl ?_
      refine g_aload eX11_hangingAt_5 rfl ?_
      refine g_get eX11_hangingAt_6 fX11_29_X11 e0 (by rfl) ?_
      refine g_get eX11_hangingAt_9 fX11_109_X8 e6 (by rfl) ?_
      refine g_icmp_geN eX11_hangingAt_12 (by omega) (by omega) (fun c12 => by exfalso; omega) (fun c12 => ?_)
      refine g_aload eX11_hangingAt_15 rfl ?_
      refine g_iload eX11_hangingAt_16 rfl ?_
      refine g_aload eX11_hangingAt_17 rfl ?_
      refine g_callVp (r := (RX11, TX11, 10)) eX11_hangingAt_18 kX11_128 e0 (by rfl) (c_alteredBy hI' hwf' hi2 h1 h2 hl hs (hz.resolve_right (by omega)) hw) (by rfl) (by rfl) (by exact Nat.le_of_ble_eq_true rfl) (by exact Nat.le_of_ble_eq_true rfl) (by exact Nat.le_of_ble_eq_true rfl) (Nat.le_refl _) (Nat.le_refl _) ?_
      refine g_callSp eX11_hangingAt_21 kX11_132 (c_bitCount hm) (by rfl) (by rfl) (by exact Nat.le_of_ble_eq_true rfl) (by exact Nat.le_of_ble_eq_true rfl) (by exact Nat.le_of_ble_eq_true rfl) (Nat.le_refl _) (Nat.le_refl _) ?_
      refine g_aload eX11_hangingAt_24 rfl ?_
      refine g_get eX11_hangingAt_25 fX11_29_X11 e0 (by rfl) ?_
      refine g_get eX11_hangingAt_28 fX11_103_X8 e6 (by rfl) ?_
      refine g_icmp_ltN eX11_hangingAt_31 (Nat.lt_of_le_of_lt hp (by decide)) (by omega) (fun c31 => ?_) (fun c31 => ?_)
      · refine g_iincN eX11_hangingAt_37 rfl rfl ?_
        refine g_goto eX11_hangingAt_40 ?_
        first
          | (have e2 : cnt (hangB t (shW ws') sz) (i + 1) = cnt (hangB t (shW ws') sz) i + 1 := congrArg (fun b : Bool => cnt (hangB t (shW ws') sz) i + b.toNat) (decide_eq_true c31)
             rw [e2] at ih2; exact ih2)
          | (have e2 : cnt (hangB t (shW ws') sz) (i + 1) = cnt (hangB t (shW ws') sz) i := congrArg (fun b : Bool => cnt (hangB t (shW ws') sz) i + b.toNat) (decide_eq_false (Nat.not_le.mpr c31))
             rw [e2] at ih2; exact ih2)
      · refine g_iincN eX11_hangingAt_34 rfl rfl ?_
        refine g_iincN eX11_hangingAt_37 rfl rfl ?_
        refine g_goto eX11_hangingAt_40 ?_
        first
          | (have e2 : cnt (hangB t (shW ws') sz) (i + 1) = cnt (hangB t (shW ws') sz) i + 1 := congrArg (fun b : Bool => cnt (hangB t (shW ws') sz) i + b.toNat) (decide_eq_true c31)
             rw [e2] at ih2; exact ih2)
          | (have e2 : cnt (hangB t (shW ws') sz) (i + 1) = cnt (hangB t (shW ws') sz) i := congrArg (fun b : Bool => cnt (hangB t (shW ws') sz) i + b.toNat) (decide_eq_false (Nat.not_le.mpr c31))
             rw [e2] at ih2; exact ih2)
  refine g_push eX11_hangingAt_0 ?_
  refine g_istore eX11_hangingAt_1 rfl ?_
  refine g_push eX11_hangingAt_2 ?_
  refine g_istore eX11_hangingAt_3 rfl ?_
  exact key (mnO (crO t)).length 0 (by omega)
set_option maxRecDepth 20000 in
theorem c_allAltering {σ : aH} {t : St} (hI : IX t σ) (hwf : WF t) {a b sz : Nat} {ws' : List Nat} (h1 : σ[a]? = some (aO 6 [.ref b, .int (nI sz)])) (h2 : σ[b]? = some (aA ws')) (hl : ws'.length = 10) (hs : sz ≤ 10) (hz : 0 < sz ∨ (mnO (crO t)).length = 0) (hw : ∀ k, k < sz → ws'.getD k 0 < 8) : MX11_allAltering 4 0 0 [.ref 0, .ref a] σ (aPu (some (.int (nI (allN t (shW ws') sz)))) σ) := by
  refine sX11_allAltering (Nat.le_of_ble_eq_true rfl) ?_
  have hI' := hI
  have hwf' := hwf
  obtain ⟨cd, x0, x1, x2, mr, dws, dsz, bp, bw, bs, e0, e1, e2, e3, e4, e5, e20, e21, e22, e23, e24, ⟨ws, wm, dm, hid, e6, e7, e8, e9, e10, e11, e12, lws, hws, lwm, ldm, bwm, lhid, hhid, hhd⟩, hk, hki, lcd, hcd, bcd, lmr, ldws, lbp, lbw, hmen⟩ := hI
  obtain ⟨w1, w2, w3, w4, w5, ⟨w6, w7, w8, w9, w10, w11, w12⟩, w13, w14, w15, w16, w17⟩ := hwf
  have key : ∀ d i, i + d = (mnO (crO t)).length → GX11_allAltering 4 0 0 (aPu (some (.int (nI (allN t (shW ws') sz)))) σ) 0 0 4 [some (.ref 0), some (.ref a), some (.int (nI (sumN (fun i => popc (manM t i (shW ws') sz)) i))), some (.int (nI i))] [] σ := by
    intro d
    induction d with
    | zero =>
      intro i hi
      refine g_iload eX11_allAltering_4 rfl ?_
      refine g_aload eX11_allAltering_5 rfl ?_
      refine g_get eX11_allAltering_6 fX11_29_X11 e0 (by rfl) ?_
      refine g_get eX11_allAltering_9 fX11_109_X8 e6 (by rfl) ?_
      refine g_icmp_geN eX11_allAltering_12 (by omega) (by omega) (fun c12 => ?_) (fun c12 => by exfalso; omega)
      refine g_iload eX11_allAltering_33 rfl ?_
      exact g_ret (eX11_allAltering_34 _) (Nat.le_refl _) (Nat.le_refl _) ⟨by rw [show i = (mnO (crO t)).length by omega]; rfl, rfl⟩
    | succ d ih =>
      intro i hi
      have hi2 : i < (mnO (crO t)).length := by omega
      have hm := manM_lt t i (shW ws') hs
      refine g_iload eX11_allAltering_4 rfl ?_
      refine g_aload eX11_allAltering_5 rfl ?_
      refine g_get eX11_allAltering_6 fX11_29_X11 e0 (by rfl) ?_
      refine g_get eX11_allAltering_9 fX11_109_X8 e6 (by rfl) ?_
      refine g_icmp_geN eX11_allAltering_12 (by omega) (by omega) (fun c12 => by exfalso; omega) (fun c12 => ?_)
      refine g_iload eX11_allAltering_15 rfl ?_
      refine g_aload eX11_allAltering_16 rfl ?_
      refine g_iload eX11_allAltering_17 rfl ?_
      refine g_aload eX11_allAltering_18 rfl ?_
      refine g_callVp (r := (RX11, TX11, 10)) eX11_allAltering_19 kX11_128 e0 (by rfl) (c_alteredBy hI' hwf' hi2 h1 h2 hl hs (hz.resolve_right (by omega)) hw) (by rfl) (by rfl) (by exact Nat.le_of_ble_eq_true rfl) (by exact Nat.le_of_ble_eq_true rfl) (by exact Nat.le_of_ble_eq_true rfl) (Nat.le_refl _) (Nat.le_refl _) ?_
      refine g_callSp eX11_allAltering_22 kX11_132 (c_bitCount hm) (by rfl) (by rfl) (by exact Nat.le_of_ble_eq_true rfl) (by exact Nat.le_of_ble_eq_true rfl) (by exact Nat.le_of_ble_eq_true rfl) (Nat.le_refl _) (Nat.le_refl _) ?_
      refine g_iaddN eX11_allAltering_25 ?_
      refine g_istore eX11_allAltering_26 rfl ?_
      refine g_iincN eX11_allAltering_27 rfl rfl ?_
      refine g_goto eX11_allAltering_30 ?_
      exact ih (i + 1) (by omega)
  refine g_push eX11_allAltering_0 ?_
  refine g_istore eX11_allAltering_1 rfl ?_
  refine g_push eX11_allAltering_2 ?_
  refine g_istore eX11_allAltering_3 rfl ?_
  exact key (mnO (crO t)).length 0 (by omega)
theorem shw_eq {c : Cr} {ws : List Nat} (hws : ∀ k, k < (shO c).length → ws.getD k 0 = (shO c).getD k 0) (hw : ∀ k, (shO c).getD k 0 < 8) : ∀ k, k < (shO c).length → ws.getD k 0 < 8 := fun k hk => by rw [hws k hk]; exact hw k
theorem seenB_congr {s u : Nat → Nat} : ∀ {n x}, (∀ k, k < n → s k = u k) → seenB s n x = seenB u n x
  | 0, _, _ => rfl
  | n + 1, x, h => by
    unfold seenB
    rw [seenB_congr (fun k hk => h k (by omega)), h n (by omega)]
theorem altB_congr {kind w k : Nat} {s u : Nat → Nat} (h : ∀ j, j ≤ k → s j = u j) : altB kind w s k = altB kind w u k := by
  unfold altB
  rw [h k (Nat.le_refl _)]
  split
  · rfl
  · rw [seenB_congr (fun j hj => h j (by omega))]
  · rw [h (k - 1) (by omega)]
  · rfl
  · rfl
theorem altA_congr {kind w hid k : Nat} {s u : Nat → Nat} (h : ∀ j, j ≤ k → s j = u j) : altA kind w hid s k = altA kind w hid u k := by
  unfold altA
  rw [altB_congr h, h k (Nat.le_refl _)]
theorem mskA_congr {kind w hid n : Nat} {s u : Nat → Nat} (h : ∀ j, j < n → s j = u j) : msk (altA kind w hid s) n = msk (altA kind w hid u) n := msk_congr (fun k hk => altA_congr (fun j hj => h j (by omega)))
theorem manM_congr {t : St} {i n : Nat} {s u : Nat → Nat} (h : ∀ j, j < n → s j = u j) : manM t i s n = manM t i u n := mskA_congr h
theorem hangN_congr {t : St} {n : Nat} {s u : Nat → Nat} (h : ∀ j, j < n → s j = u j) : hangN t s n = hangN t u n := cnt_congr (fun i _ => by unfold hangB; rw [manM_congr h])
theorem sumN_congr {f g : Nat → Nat} : ∀ {n}, (∀ i, i < n → f i = g i) → sumN f n = sumN g n
  | 0, _ => rfl
  | n + 1, h => by
    show sumN f n + f n = sumN g n + g n
    rw [sumN_congr (fun i hi => h i (by omega)), h n (by omega)]
theorem allN_congr {t : St} {n : Nat} {s u : Nat → Nat} (h : ∀ j, j < n → s j = u j) : allN t s n = allN t u n := sumN_congr (fun i _ => by rw [manM_congr h])
set_option maxRecDepth 20000 in
theorem c_deedsAltering {σ : aH} {t : St} (hI : IX t σ) (hwf : WF t) {i : Nat} (hi : i < (mnO (crO t)).length) {p : Nat} (hp : p < (shO (crO t)).length) : MX11_deedsAltering 3 0 0 [.ref 0, .int (nI i), .int (nI p)] σ (aPu (some (.int (nI (msk (dalB t i p) 5)))) σ) := by
  refine sX11_deedsAltering (Nat.le_of_ble_eq_true rfl) ?_
  have hI' := hI
  have hwf' := hwf
  obtain ⟨cd, x0, x1, x2, mr, dws, dsz, bp, bw, bs, e0, e1, e2, e3, e4, e5, e20, e21, e22, e23, e24, ⟨ws, wm, dm, hid, e6, e7, e8, e9, e10, e11, e12, lws, hws, lwm, ldm, bwm, lhid, hhid, hhd⟩, hk, hki, lcd, hcd, bcd, lmr, ldws, lbp, lbw, hmen⟩ := hI
  obtain ⟨w1, w2, w3, w4, w5, ⟨w6, w7, w8, w9, w10, w11, w12⟩, w13, w14, w15, w16, w17⟩ := hwf
  have hz : 0 < (shO (crO t)).length := by omega
  have hkd := w10 i
  have key : ∀ d j, j + d = 5 → ∀ z, GX11_deedsAltering 3 0 0 (aPu (some (.int (nI (msk (dalB t i p) 5)))) σ) 0 0 5 [some (.ref 0), some (.int (nI i)), some (.int (nI p)), some (.int (nI (msk (dalB t i p) j))), some (.int (nI j)), z] [] σ := by
    intro d
    induction d with
    | zero =>
      intro j hj z
      obtain rfl : j = 5 := by omega
      refine g_iload eX11_deedsAltering_5 rfl ?_
      refine g_push eX11_deedsAltering_7 ?_
      refine g_icmp_geN eX11_deedsAltering_8 (by omega) (by omega) (fun c8 => ?_) (fun c8 => by exfalso; omega)
      refine g_iload eX11_deedsAltering_50 rfl ?_
      exact g_ret (eX11_deedsAltering_51 _) (Nat.le_refl _) (Nat.le_refl _) ⟨rfl, rfl⟩
    | succ d ih =>
      intro j hj z
      have hlt : msk (altA (manO (crO t) i).1 ((nrO t).getD j 0) (manO (crO t) i).2.2 (shW ws)) (shO (crO t)).length < 1024 := Nat.lt_of_lt_of_le (msk_lt _ _) (show 2 ^ _ ≤ 2 ^ 10 from Nat.pow_le_pow_right (by omega) w6)
      refine g_iload eX11_deedsAltering_5 rfl ?_
      refine g_push eX11_deedsAltering_7 ?_
      refine g_icmp_geN eX11_deedsAltering_8 (by omega) (by omega) (fun c8 => by exfalso; omega) (fun c8 => ?_)
      refine g_aload eX11_deedsAltering_11 rfl ?_
      refine g_iload eX11_deedsAltering_12 rfl ?_
      refine g_aload eX11_deedsAltering_13 rfl ?_
      refine g_get eX11_deedsAltering_14 fX11_29_X11 e0 (by rfl) ?_
      refine g_get eX11_deedsAltering_17 fX11_79_X8 e6 (by rfl) ?_
      refine g_iload eX11_deedsAltering_20 rfl ?_
      refine g_aload eX11_deedsAltering_22 rfl ?_
      refine g_iload eX11_deedsAltering_23 rfl ?_
      refine g_callVp (r := (RX11, TX11, 10)) eX11_deedsAltering_24 kX11_137 e0 (by rfl) (c_hiddenBy hI' hwf' hi) (by rfl) (by rfl) (by exact Nat.le_of_ble_eq_true rfl) (by exact Nat.le_of_ble_eq_true rfl) (by exact Nat.le_of_ble_eq_true rfl) (Nat.le_refl _) (Nat.le_refl _) ?_
      refine g_callVp (r := (RX11, TX11, 10)) eX11_deedsAltering_27 kX11_171 e0 (by rfl) (c_wouldAlter (d := j) hI' hwf' hi e7 e8 lws w6 hz (shw_eq hws w7) (by omega) (Nat.lt_trans hkd.2.2 (by decide))) (by rfl) (by rfl) (by exact Nat.le_of_ble_eq_true rfl) (by exact Nat.le_of_ble_eq_true rfl) (by exact Nat.le_of_ble_eq_true rfl) (Nat.le_refl _) (Nat.le_refl _) ?_
      refine g_istore eX11_deedsAltering_30 rfl ?_
      refine g_iload eX11_deedsAltering_32 rfl ?_
      refine g_iload eX11_deedsAltering_33 rfl ?_
      refine g_iload eX11_deedsAltering_35 rfl ?_
      refine g_ishrN eX11_deedsAltering_36 (by omega) (by omega) ?_
      refine g_push eX11_deedsAltering_37 ?_
      refine g_iandN eX11_deedsAltering_38 ?_
      refine g_iload eX11_deedsAltering_39 rfl ?_
      refine g_ishlN eX11_deedsAltering_41 (by omega) (bit_shl _ _ (by omega)) ?_
      refine g_iorN eX11_deedsAltering_42 ?_
      refine g_istore eX11_deedsAltering_43 rfl ?_
      refine g_iincN eX11_deedsAltering_44 rfl rfl ?_
      refine g_goto eX11_deedsAltering_47 ?_
      rw [nbit, msk_tb, decide_eq_true hp, Bool.true_and, altA_congr (u := shW (shO (crO t))) (fun q hq => hws q (by omega))]
      exact ih (j + 1) (by omega) _
  refine g_push eX11_deedsAltering_0 ?_
  refine g_istore eX11_deedsAltering_1 rfl ?_
  refine g_push eX11_deedsAltering_2 ?_
  refine g_istore eX11_deedsAltering_3 rfl ?_
  exact key 5 0 (by omega) _
set_option maxRecDepth 20000 in
theorem c_placeToListen {σ : aH} {t : St} (hI : IX t σ) (hwf : WF t) {i : Nat} (hi : i < (mnO (crO t)).length) : MX11_placeToListen 4 0 0 [.ref 0, .int (nI i)] σ (aPu (some (.int (lisF t i))) σ) := by
  refine sX11_placeToListen (Nat.le_of_ble_eq_true rfl) ?_
  have hI' := hI
  have hwf' := hwf
  obtain ⟨cd, x0, x1, x2, mr, dws, dsz, bp, bw, bs, e0, e1, e2, e3, e4, e5, e20, e21, e22, e23, e24, ⟨ws, wm, dm, hid, e6, e7, e8, e9, e10, e11, e12, lws, hws, lwm, ldm, bwm, lhid, hhid, hhd⟩, hk, hki, lcd, hcd, bcd, lmr, ldws, lbp, lbw, hmen⟩ := hI
  obtain ⟨w1, w2, w3, w4, w5, ⟨w6, w7, w8, w9, w10, w11, w12⟩, w13, w14, w15, w16, w17⟩ := hwf
  have hdl : dleft (shW wm) (shW dm) i (hdO (crO t)).length = lefM t i := dleft_eq (kd := fun a => (manO (crO t) a).1) i _ hhd
  have hle : lefM t i < 32 := msk_lt _ _
  have key : ∀ d j, j + d = (shO (crO t)).length → ¬ lefM t i = 0 → ∀ z y, GX11_placeToListen 4 0 0 (aPu (some (.int (lisF t i))) σ) 0 0 27 [some (.ref 0), some (.int (nI i)), some (.int (nI (lefM t i))), some (.int (oI (lstn (fun k => wrs (lefB t i) (dalB t i k)) j).1)), some (.int (nI (lstn (fun k => wrs (lefB t i) (dalB t i k)) j).2)), some (.int (nI j)), z, y] [] σ := by
    intro d
    induction d with
    | zero =>
      intro j hj hnz z y
      refine g_iload eX11_placeToListen_27 rfl ?_
      refine g_aload eX11_placeToListen_29 rfl ?_
      refine g_get eX11_placeToListen_30 fX11_29_X11 e0 (by rfl) ?_
      refine g_get eX11_placeToListen_33 fX11_79_X8 e6 (by rfl) ?_
      refine g_callVp (r := (RX6, TX6, 2)) eX11_placeToListen_36 kX11_82 e7 (by rfl) (c_size e7) (by rfl) (by rfl) (by exact Nat.le_of_ble_eq_true rfl) (by exact Nat.le_of_ble_eq_true rfl) (by exact Nat.le_of_ble_eq_true rfl) (Nat.le_refl _) (Nat.le_refl _) ?_
      refine g_icmp_geN eX11_placeToListen_39 (by omega) (by omega) (fun c39 => ?_) (fun c39 => by exfalso; omega)
      refine g_iload eX11_placeToListen_92 rfl ?_
      exact g_ret (eX11_placeToListen_93 _) (Nat.le_refl _) (Nat.le_refl _) ⟨by rw [show j = (shO (crO t)).length by omega]; unfold lisF; rw [if_neg hnz], rfl⟩
    | succ d ih =>
      intro j hj hnz z y
      have hj2 : j < (shO (crO t)).length := by omega
      have hda : msk (dalB t i j) 5 < 32 := msk_lt _ _
      have hb1 : lefM t i &&& msk (dalB t i j) 5 < 1024 := Nat.lt_of_le_of_lt Nat.and_le_left (Nat.lt_trans hle (by decide))
      have hb2 : lefM t i &&& (msk (dalB t i j) 5 ^^^ 4294967295) < 1024 := Nat.lt_of_le_of_lt Nat.and_le_left (Nat.lt_trans hle (by decide))
      have hq1 := popc_le (lefM t i &&& msk (dalB t i j) 5)
      have hq2 := popc_le (lefM t i &&& (msk (dalB t i j) 5 ^^^ 4294967295))
      have hwr : max (popc (lefM t i &&& msk (dalB t i j) 5)) (popc (lefM t i &&& (msk (dalB t i j) 5 ^^^ 4294967295))) = wrs (lefB t i) (dalB t i j) := by
        rw [show lefM t i = msk (lefB t i) 5 from rfl, popc_and, popc_andn]
        rfl
      have hwl : wrs (lefB t i) (dalB t i j) < 2147483648 := by rw [← hwr]; omega
      have hl2 := lstn_le (fun k => wrs (lefB t i) (dalB t i k)) j
      have ih2 := ih (j + 1) (by omega) hnz
      refine g_iload eX11_placeToListen_27 rfl ?_
      refine g_aload eX11_placeToListen_29 rfl ?_
      refine g_get eX11_placeToListen_30 fX11_29_X11 e0 (by rfl) ?_
      refine g_get eX11_placeToListen_33 fX11_79_X8 e6 (by rfl) ?_
      refine g_callVp (r := (RX6, TX6, 2)) eX11_placeToListen_36 kX11_82 e7 (by rfl) (c_size e7) (by rfl) (by rfl) (by exact Nat.le_of_ble_eq_true rfl) (by exact Nat.le_of_ble_eq_true rfl) (by exact Nat.le_of_ble_eq_true rfl) (Nat.le_refl _) (Nat.le_refl _) ?_
      refine g_icmp_geN eX11_placeToListen_39 (by omega) (by omega) (fun c39 => by exfalso; omega) (fun c39 => ?_)
      refine g_aload eX11_placeToListen_42 rfl ?_
      refine g_iload eX11_placeToListen_43 rfl ?_
      refine g_iload eX11_placeToListen_44 rfl ?_
      refine g_callVp (r := (RX11, TX11, 10)) eX11_placeToListen_46 kX11_182 e0 (by rfl) (c_deedsAltering hI' hwf' hi hj2) (by rfl) (by rfl) (by exact Nat.le_of_ble_eq_true rfl) (by exact Nat.le_of_ble_eq_true rfl) (by exact Nat.le_of_ble_eq_true rfl) (Nat.le_refl _) (Nat.le_refl _) ?_
      refine g_istore eX11_placeToListen_49 rfl ?_
      refine g_iload eX11_placeToListen_51 rfl ?_
      refine g_iload eX11_placeToListen_52 rfl ?_
      refine g_iandN eX11_placeToListen_54 ?_
      refine g_callSp eX11_placeToListen_55 kX11_132 (c_bitCount hb1) (by rfl) (by rfl) (by exact Nat.le_of_ble_eq_true rfl) (by exact Nat.le_of_ble_eq_true rfl) (by exact Nat.le_of_ble_eq_true rfl) (Nat.le_refl _) (Nat.le_refl _) ?_
      refine g_iload eX11_placeToListen_58 rfl ?_
      refine g_iload eX11_placeToListen_59 rfl ?_
      refine g_push (v := nI 4294967295) (nA_m1 ▸ eX11_placeToListen_61) ?_
      refine g_ixorN eX11_placeToListen_62 ?_
      refine g_iandN eX11_placeToListen_63 ?_
      refine g_callSp eX11_placeToListen_64 kX11_132 (c_bitCount hb2) (by rfl) (by rfl) (by exact Nat.le_of_ble_eq_true rfl) (by exact Nat.le_of_ble_eq_true rfl) (by exact Nat.le_of_ble_eq_true rfl) (Nat.le_refl _) (Nat.le_refl _) ?_
      refine g_maxN eX11_placeToListen_67 kX11_253 (by exact Nat.le_of_ble_eq_true rfl) (by exact Nat.le_of_ble_eq_true rfl) (Nat.le_refl _) (Nat.le_refl _) (by omega) (by omega) ?_
      rw [hwr]
      refine g_istore eX11_placeToListen_70 rfl ?_
      refine g_iload eX11_placeToListen_72 rfl ?_
      refine g_iload eX11_placeToListen_74 rfl ?_
      refine g_icmp_geN eX11_placeToListen_76 (by omega) (by omega) (fun c76 => ?_) (fun c76 => ?_)
      · refine g_iincN eX11_placeToListen_86 rfl rfl ?_
        refine g_goto eX11_placeToListen_89 ?_
        first
          | (have e2 : lstn (fun k => wrs (lefB t i) (dalB t i k)) (j + 1) = (some j, wrs (lefB t i) (dalB t i j)) := if_pos c76
             rw [e2] at ih2; exact ih2 _ _)
          | (have e2 : lstn (fun k => wrs (lefB t i) (dalB t i k)) (j + 1) = lstn (fun k => wrs (lefB t i) (dalB t i k)) j := if_neg (Nat.not_lt.mpr c76)
             rw [e2] at ih2; exact ih2 _ _)
      · refine g_iload eX11_placeToListen_79 rfl ?_
        refine g_istore eX11_placeToListen_81 rfl ?_
        refine g_iload eX11_placeToListen_83 rfl ?_
        refine g_istore eX11_placeToListen_85 rfl ?_
        refine g_iincN eX11_placeToListen_86 rfl rfl ?_
        refine g_goto eX11_placeToListen_89 ?_
        first
          | (have e2 : lstn (fun k => wrs (lefB t i) (dalB t i k)) (j + 1) = (some j, wrs (lefB t i) (dalB t i j)) := if_pos c76
             rw [e2] at ih2; exact ih2 _ _)
          | (have e2 : lstn (fun k => wrs (lefB t i) (dalB t i k)) (j + 1) = lstn (fun k => wrs (lefB t i) (dalB t i k)) j := if_neg (Nat.not_lt.mpr c76)
             rw [e2] at ih2; exact ih2 _ _)
  refine g_aload eX11_placeToListen_0 rfl ?_
  refine g_get eX11_placeToListen_1 fX11_29_X11 e0 (by rfl) ?_
  refine g_get eX11_placeToListen_4 fX11_140_X8 e6 (by rfl) ?_
  refine g_iload eX11_placeToListen_7 rfl ?_
  refine g_callVp (r := (RX3, TX3, 3)) eX11_placeToListen_8 kX11_144 e9 (by rfl) (c_deedsLeft e9 e10 e11 lwm ldm w11 bwm (n := i) (by omega)) (by rfl) (by rfl) (by exact Nat.le_of_ble_eq_true rfl) (by exact Nat.le_of_ble_eq_true rfl) (by exact Nat.le_of_ble_eq_true rfl) (Nat.le_refl _) (Nat.le_refl _) ?_
  rw [hdl]
  refine g_istore eX11_placeToListen_11 rfl ?_
  refine g_iload eX11_placeToListen_12 rfl ?_
  refine g_if_neN eX11_placeToListen_13 (by omega) (fun c13 => ?_) (fun c13 => ?_)
  · refine g_push eX11_placeToListen_18 ?_
    refine g_istore eX11_placeToListen_19 rfl ?_
    refine g_push eX11_placeToListen_20 ?_
    refine g_istore eX11_placeToListen_22 rfl ?_
    refine g_push eX11_placeToListen_24 ?_
    refine g_istore eX11_placeToListen_25 rfl ?_
    exact key (shO (crO t)).length 0 (by omega) c13 _ _
  · refine g_push (v := -1) eX11_placeToListen_16 ?_
    exact g_ret (eX11_placeToListen_17 _) (Nat.le_refl _) (Nat.le_refl _) ⟨by unfold lisF; rw [if_pos c13], rfl⟩
theorem plM_congr {s u : Nat → Nat} {n h : Nat} (e : ∀ j, j < n → s j = u j) : plM s n h = plM u n h := msk_congr (fun k hk => by rw [e k hk])
theorem hvyW_congr {s u : Nat → Nat} {n m : Nat} (e : ∀ j, j < n → s j = u j) : hvyW s n m = hvyW u n m := by
  unfold hvyW
  rw [funext (fun w => by rw [plM_congr e] : ∀ w, popc (m &&& plM s n (2 ^ w)) = popc (m &&& plM u n (2 ^ w)))]
theorem oI_some {o : Option Nat} {n : Nat} (h : ∀ k, o = some k → k < n) (hn : n ≤ 1000) (hne : ¬ oI o = -1) : ∃ k, o = some k ∧ k < n := by
  cases o with
  | none => exact absurd rfl hne
  | some k => exact ⟨k, rfl, h k rfl⟩
theorem oI_none {o : Option Nat} {n : Nat} (h : ∀ k, o = some k → k < n) (hn : n ≤ 1000) (he : oI o = -1) : o = none := by
  cases o with
  | none => rfl
  | some k =>
    have h1 := h k rfl
    have h2 := congrArg Int32.toInt he
    have h3 : (oI (some k)).toInt = (k : Int) := nI_toInt (by omega)
    rw [h3, show (-1 : Int32).toInt = -1 from rfl] at h2
    omega
set_option maxRecDepth 20000 in
theorem c_drawSheet {σ : aH} {t : St} (hI : IX t σ) (hwf : WF t) {x : Nat} (hx : x < 2147483648) : MX11_drawSheet 1 0 0 [.ref 0, .int (nI x)] σ (fun v σ' => ∃ w', w'.length = 10 ∧ (∀ k, k < (shO (crO t)).length → w'.getD k 0 = drw x k) ∧ v = some (.int (nI (sdN x (shO (crO t)).length))) ∧ EqO [20, 21] σ σ' ∧ σ'[20]? = some (aO 6 [.ref 21, .int (nI (shO (crO t)).length)]) ∧ σ'[21]? = some (aA w')) := by
  refine sX11_drawSheet (Nat.le_of_ble_eq_true rfl) ?_
  have hI' := hI
  have hwf' := hwf
  obtain ⟨cd, x0, x1, x2, mr, dws, dsz, bp, bw, bs, e0, e1, e2, e3, e4, e5, e20, e21, e22, e23, e24, ⟨ws, wm, dm, hid, e6, e7, e8, e9, e10, e11, e12, lws, hws, lwm, ldm, bwm, lhid, hhid, hhd⟩, hk, hki, lcd, hcd, bcd, lmr, ldws, lbp, lbw, hmen⟩ := hI
  obtain ⟨w1, w2, w3, w4, w5, ⟨w6, w7, w8, w9, w10, w11, w12⟩, w13, w14, w15, w16, w17⟩ := hwf
  have key : ∀ d j τ w', j + d = (shO (crO t)).length → w'.length = 10 → (∀ k, k < j → w'.getD k 0 = drw x k) → EqO [20, 21] σ τ → τ[20]? = some (aO 6 [.ref 21, .int (nI j)]) → τ[21]? = some (aA w') → GX11_drawSheet 1 0 0 (fun v σ' => ∃ w', w'.length = 10 ∧ (∀ k, k < (shO (crO t)).length → w'.getD k 0 = drw x k) ∧ v = some (.int (nI (sdN x (shO (crO t)).length))) ∧ EqO [20, 21] σ σ' ∧ σ'[20]? = some (aO 6 [.ref 21, .int (nI (shO (crO t)).length)]) ∧ σ'[21]? = some (aA w')) 0 0 11 [some (.ref 0), some (.int (nI x)), some (.int (nI (sdN x j))), some (.int (nI j))] [] τ := by
    intro d
    induction d with
    | zero =>
      intro j τ w' hj hlw hwk hE g20 g21
      have a0 := hE.at (by decide) e0
      have a6 := hE.at (by decide) e6
      have a7 := hE.at (by decide) e7
      obtain rfl : j = (shO (crO t)).length := by omega
      refine g_iload eX11_drawSheet_11 rfl ?_
      refine g_aload eX11_drawSheet_12 rfl ?_
      refine g_get eX11_drawSheet_13 fX11_29_X11 a0 (by rfl) ?_
      refine g_get eX11_drawSheet_16 fX11_79_X8 a6 (by rfl) ?_
      refine g_callVp (r := (RX6, TX6, 2)) eX11_drawSheet_19 kX11_82 a7 (by rfl) (c_size a7) (by rfl) (by rfl) (by exact Nat.le_of_ble_eq_true rfl) (by exact Nat.le_of_ble_eq_true rfl) (by exact Nat.le_of_ble_eq_true rfl) (Nat.le_refl _) (Nat.le_refl _) ?_
      refine g_icmp_geN eX11_drawSheet_22 (by omega) (by omega) (fun c22 => ?_) (fun c22 => by exfalso; omega)
      refine g_iload eX11_drawSheet_60 rfl ?_
      exact g_ret (eX11_drawSheet_61 _) (Nat.le_refl _) (Nat.le_refl _) ⟨w', hlw, hwk, rfl, hE, g20, g21⟩
    | succ d ih =>
      intro j τ w' hj hlw hwk hE g20 g21
      have a0 := hE.at (by decide) e0
      have a6 := hE.at (by decide) e6
      have a7 := hE.at (by decide) e7
      have hlt := sdN_lt hx (j + 1)
      refine g_iload eX11_drawSheet_11 rfl ?_
      refine g_aload eX11_drawSheet_12 rfl ?_
      refine g_get eX11_drawSheet_13 fX11_29_X11 a0 (by rfl) ?_
      refine g_get eX11_drawSheet_16 fX11_79_X8 a6 (by rfl) ?_
      refine g_callVp (r := (RX6, TX6, 2)) eX11_drawSheet_19 kX11_82 a7 (by rfl) (c_size a7) (by rfl) (by rfl) (by exact Nat.le_of_ble_eq_true rfl) (by exact Nat.le_of_ble_eq_true rfl) (by exact Nat.le_of_ble_eq_true rfl) (Nat.le_refl _) (Nat.le_refl _) ?_
      refine g_icmp_geN eX11_drawSheet_22 (by omega) (by omega) (fun c22 => by exfalso; omega) (fun c22 => ?_)
      refine g_ldc (v := nI 1103515245) eX11_drawSheet_25 lX11_262 ?_
      refine g_iload eX11_drawSheet_28 rfl ?_
      refine g_imul eX11_drawSheet_29 ?_
      refine g_push eX11_drawSheet_30 ?_
      refine g_iadd eX11_drawSheet_33 ?_
      refine g_ldc (v := nI 2147483647) eX11_drawSheet_34 lX11_263 ?_
      refine g_iand eX11_drawSheet_37 ?_
      rw [lcg_int, show lcg (sdN x j) = sdN x (j + 1) from rfl]
      refine g_istore eX11_drawSheet_38 rfl ?_
      refine g_aload eX11_drawSheet_39 rfl ?_
      refine g_get eX11_drawSheet_40 fX11_39_X11 a0 (by rfl) ?_
      refine g_iload eX11_drawSheet_43 rfl ?_
      refine g_ldc (v := nI 65536) eX11_drawSheet_44 lX11_264 ?_
      refine g_idivN eX11_drawSheet_47 (by omega) (by omega) (by omega) ?_
      refine g_push eX11_drawSheet_48 ?_
      refine g_iremN eX11_drawSheet_50 (by omega) (by omega) (by omega) ?_
      refine g_callVp (r := (RX6, TX6, 2)) eX11_drawSheet_51 kX11_244 g20 (by rfl) (c_add g20 g21 hlw (by omega) (by decide) (by omega)) (by rfl) (by rfl) (by exact Nat.le_of_ble_eq_true rfl) (by exact Nat.le_of_ble_eq_true rfl) (by exact Nat.le_of_ble_eq_true rfl) (Nat.le_refl _) (Nat.le_refl _) ?_
      refine g_iincN eX11_drawSheet_54 rfl rfl ?_
      refine g_goto eX11_drawSheet_57 ?_
      refine ih (j + 1) _ (w'.set j (drw x j)) (by omega) (by rw [List.length_set]; exact hlw) (fun k hk => ?_) ((hE.st (by decide)).st (by decide)) (at_eq (at_ne (by decide) g20)) (at_ne (by decide) (at_eq g21))
      rw [List.getD_eq_getElem?_getD, List.getElem?_set]
      by_cases hkj : j = k
      · subst hkj
        rw [if_pos rfl, if_pos (by omega)]
        rfl
      · rw [if_neg hkj, ← List.getD_eq_getElem?_getD]
        exact hwk k (by omega)
  refine g_iload eX11_drawSheet_0 rfl ?_
  refine g_istore eX11_drawSheet_1 rfl ?_
  refine g_aload eX11_drawSheet_2 rfl ?_
  refine g_get eX11_drawSheet_3 fX11_39_X11 e0 (by rfl) ?_
  refine g_callVp (r := (RX6, TX6, 2)) eX11_drawSheet_6 kX11_261 e20 (by rfl) (c_clear e20) (by rfl) (by rfl) (by exact Nat.le_of_ble_eq_true rfl) (by exact Nat.le_of_ble_eq_true rfl) (by exact Nat.le_of_ble_eq_true rfl) (Nat.le_refl _) (Nat.le_refl _) ?_
  refine g_push eX11_drawSheet_9 ?_
  refine g_istore eX11_drawSheet_10 rfl ?_
  exact key (shO (crO t)).length 0 _ dws (by omega) ldws (fun k hk => by omega) (EqO.rf.st (by decide)) (at_eq e20) (at_ne (by decide) e21)
end
section
/-! THE CALLS, as the document has them: the answer, and the state then -/
/-- a number out of lo .. n-1 -/
def rg (x : Int32) (lo n : Nat) : Option Nat := if (lo : Int) ≤ x.toInt ∧ x.toInt < (n : Int) then some x.toInt.toNat else none
theorem rg_some {x : Int32} {lo n j : Nat} (h : rg x lo n = some j) (hn : n ≤ 2147483648 := by decide) : x = nI j ∧ lo ≤ j ∧ j < n := by
  unfold rg at h
  split at h
  · rename_i hc
    cases h
    refine ⟨(i_eq (by omega)).mpr (by omega), by omega, by omega⟩
  · cases h
theorem rg_none {x : Int32} {lo n : Nat} (h : rg x lo n = none) : x.toInt < (lo : Int) ∨ (n : Int) ≤ x.toInt := by
  unfold rg at h
  split at h
  · cases h
  · rename_i hc
    omega
theorem rg_nI {lo n j : Nat} (h1 : lo ≤ j) (h2 : j < n) (hn : n ≤ 2147483648 := by decide) : rg (nI j) lo n = some j := by
  unfold rg
  rw [nI_toInt (by omega), if_pos (by omega)]
  simp
/-- what the letters of a page say: part, near, sheet -/
def rdc (pg : Nat → Nat) : Nat → Nat × List Nat × List Nat
  | 0 => (0, [0, 0, 0, 0, 0], [])
  | k + 1 => if 97 ≤ pg k ∧ pg k < 105 then (if (rdc pg k).1 < 4 then ((rdc pg k).1, (rdc pg k).2.1.set (rdc pg k).1 ((rdc pg k).2.1.getD (rdc pg k).1 0 ||| 2 ^ (pg k - 97)), (rdc pg k).2.2) else ((rdc pg k).1, (rdc pg k).2.1, (rdc pg k).2.2 ++ [pg k - 97])) else ((rdc pg k).1 + 1, (rdc pg k).2.1, (rdc pg k).2.2)
abbrev hasC (t : St) : Prop := 0 < ctO t
def oLetter (t : St) (x : Int32) : Int32 × St := match rg x 1 127 with
  | none => (-102, t)
  | some c => if (pgO t).length < 28 then (nI ((pgO t).length + 1), (pgO t ++ [c], t.2)) else (-104, t)
def oBlank (t : St) : Int32 × St := (nI (pgO t).length, ([], t.2))
def oFault (t : St) : Int32 := nI (wfa (shW (pgO t)) (pgO t).length 0 (0, 0, 0)).1
def oCourt (t : St) : Int32 × St := if wcourt (shW (pgO t)) (pgO t).length = true then (nI (rdc (shW (pgO t)) (pgO t).length).2.2.length, ([], (rdc (shW (pgO t)) (pgO t).length).2.1, ((rdc (shW (pgO t)) (pgO t).length).2.2, 2, [], 0, []), none, ctO t + 1, brO t)) else (-103, t)
def oNear (t : St) (x : Int32) : Int32 := match rg x 0 5 with
  | none => -101
  | some d => if hasC t then nI ((nrO t).getD d 0) else -101
def oWord (t : St) (x : Int32) : Int32 := match rg x 0 (shO (crO t)).length with
  | none => -101
  | some k => nI ((shO (crO t)).getD k 0)
/-- another core -/
abbrev wcr (t : St) (c : Cr) : St := (pgO t, nrO t, c, t.2.2.2)
def oPut (t : St) (x v : Int32) : Int32 × St := match rg x 0 (shO (crO t)).length with
  | none => (-101, t)
  | some k => match rg v 0 8 with
    | none => (-102, t)
    | some w => (nI ((shO (crO t)).getD k 0), wcr t ((shO (crO t)).set k w, lmO (crO t), mnO (crO t), chO (crO t) + 1, hdO (crO t)))
def oLimit (t : St) (x : Int32) : Int32 × St := match rg x 1 11 with
  | none => (-102, t)
  | some v => if hasC t then (nI (lmO (crO t)), wcr t (shO (crO t), v, mnO (crO t), chO (crO t) + 1, hdO (crO t))) else (-103, t)
def oAccuse (t : St) (x y : Int32) : Int32 × St := match rg x 0 5 with
  | none => (-102, t)
  | some kd => match rg y 0 5 with
    | none => (-102, t)
    | some d => if hasC t then (if (mnO (crO t)).length < 4 then (nI (mnO (crO t)).length, wcr t (shO (crO t), lmO (crO t), mnO (crO t) ++ [(kd, d, 0)], chO (crO t), hdO (crO t))) else (-104, t)) else (-103, t)
abbrev altM (t : St) (a : Nat) : Nat := manM t a (shW (shO (crO t))) (shO (crO t)).length
def oTell (t : St) (a what : Nat) : Int32 := match what with
  | 0 => nI (manO (crO t) a).1
  | 1 => nI (manO (crO t) a).2.1
  | 2 => nI (altM t a)
  | 3 => nI (popc (altM t a))
  | 4 => nI (decide (lmO (crO t) ≤ popc (altM t a))).toNat
  | 5 => nI (manO (crO t) a).2.2
  | 6 => nI (lefM t a)
  | _ => lisF t a
def oAbout (t : St) (x y : Int32) : Int32 := match rg x 0 (mnO (crO t)).length with
  | none => -101
  | some a => match rg y 0 8 with
    | none => -102
    | some w => oTell t a w
def isK (of kd : Nat) : Bool := decide (kd = 0) || decide (kd = of) || (decide (kd = 1) && decide (of = 4))
def oAs (t : St) (x y : Int32) : Int32 := match rg x 0 (mnO (crO t)).length with
  | none => -101
  | some a => match rg y 0 5 with
    | none => -102
    | some k => if isK (manO (crO t) a).1 k = true then nI a else -1
def setH (c : Cr) (a h : Nat) : Cr := (shO c, lmO c, (mnO c).set a ((manO c a).1, (manO c a).2.1, h), chO c + 1, hdO c)
def oLesson (t : St) (x y : Int32) : Int32 × St := match rg x 0 (mnO (crO t)).length with
  | none => (-101, t)
  | some a => match rg y 0 8 with
    | none => (-102, t)
    | some w => if (manO (crO t) a).2.2.testBit w = true then (-103, t) else (nI (popc ((manO (crO t) a).2.2 ||| 2 ^ w)), wcr t (setH (crO t) a ((manO (crO t) a).2.2 ||| 2 ^ w)))
def oUnlearn (t : St) (x : Int32) : Int32 × St := match rg x 0 (mnO (crO t)).length with
  | none => (-101, t)
  | some a => (nI (popc (manO (crO t) a).2.2), wcr t (setH (crO t) a 0))
/-- what of SHORT is asked: 0, or 10 to 13 -/
def brW (x : Int32) : Option Nat := match rg x 0 1 with
  | some _ => some 0
  | none => rg x 10 14
def brA (near : Nat → Nat) (w : Nat) : Int32 := match brf near with
  | none => -1
  | some q => if w = 0 then nI q.1 else if w - 10 < q.1 then nI (q.2 / 2 ^ (3 * (q.1 - 1 - (w - 10))) &&& 7) else -1
def oBrief (t : St) (x : Int32) : Int32 × St := match brW x with
  | none => (-102, t)
  | some w => if hasC t ∧ brO t < 30 then (brA (shW (nrO t)) w, (pgO t, nrO t, crO t, imO t, ctO t, brO t + 1)) else (-103, t)
abbrev basM (t : St) (a : Nat) : Nat := msk (altA (manO (crO t) a).1 ((nrO t).getD (manO (crO t) a).2.1 0) 0 (shW (shO (crO t)))) (shO (crO t)).length
def hidW (t : St) (a n : Nat) : Nat := wth (shW (shO (crO t))) (shO (crO t)).length (basM t a) n 0
def hidA (t : St) (a n w : Nat) : Int32 := if w = 0 then nI (hidW t a n) else nI (popc (basM t a &&& (plM (shW (shO (crO t))) (shO (crO t)).length (hidW t a n) ^^^ 4294967295)))
def oHide (t : St) (x y z : Int32) : Int32 := match rg x 0 (mnO (crO t)).length with
  | none => -101
  | some a => match rg y 0 9 with
    | none => -102
    | some n => match rg z 0 2 with
      | none => -102
      | some w => hidA t a n w
def oHear (t : St) (x y : Int32) (b : Bool) : Int32 × St := match rg x 0 (mnO (crO t)).length with
  | none => (-101, t)
  | some a => match rg y 0 (shO (crO t)).length with
    | none => (-101, t)
    | some p => if (hdO (crO t)).length < 8 then (nI ((hdO (crO t)).length + 1), wcr t (shO (crO t), lmO (crO t), mnO (crO t), chO (crO t), hdO (crO t) ++ [(a, p, b, (manO (crO t) a).2.2, shO (crO t))])) else (-104, t)
def oForget (t : St) : Int32 × St := (nI (hdO (crO t)).length, wcr t (shO (crO t), lmO (crO t), mnO (crO t), chO (crO t), []))
/-- hanged, places, seed behind so many drawn sheets -/
def trl (t : St) (x : Nat) : Nat → Nat × Nat × Nat
  | 0 => (0, 0, x)
  | n + 1 => ((trl t x n).1 + hangN t (drw (trl t x n).2.2) (shO (crO t)).length, (trl t x n).2.1 + allN t (drw (trl t x n).2.2) (shO (crO t)).length, sdN (trl t x n).2.2 (shO (crO t)).length)
def trW (w : Nat) (r : Nat × Nat × Nat) : Int32 := match w with
  | 0 => nI r.1
  | 1 => nI r.2.1
  | _ => nI r.2.2
def oTrials (t : St) (x y z : Int32) : Int32 := match rg x 1 41 with
  | none => -102
  | some n => match rg y 0 2147483648 with
    | none => -102
    | some sd => match rg z 0 3 with
      | none => -102
      | some w => if hasC t then trW w (trl t sd n) else -103
def oImage (t : St) : Int32 × St := if hasC t then (nI (chO (crO t)), (pgO t, nrO t, crO t, some (crO t), ctO t, brO t)) else (-103, t)
def oRestore (t : St) : Int32 × St := match imO t with
  | none => (-103, t)
  | some c => (nI (chO c), wcr t c)
def oCnt (t : St) (w : Nat) : Int32 := match w with
  | 0 => nI (shO (crO t)).length
  | 1 => nI (lmO (crO t))
  | 2 => nI (mnO (crO t)).length
  | 3 => nI (hangN t (shW (shO (crO t))) (shO (crO t)).length)
  | 4 => nI (popc (orW (shW (shO (crO t))) (shO (crO t)).length))
  | 5 => nI (chO (crO t))
  | 6 => nI (hdO (crO t)).length
  | 7 => nI (pgO t).length
  | 8 => nI (ctO t)
  | _ => nI (brO t)
def oCount (t : St) (x : Int32) : Int32 := match rg x 0 10 with
  | none => -102
  | some w => oCnt t w
def say (h : Int64) (x : Int32) : Int64 := 31 * h + x.toInt64
def sayL (f : Nat → Int32) (h : Int64) : Nat → Int64
  | 0 => h
  | n + 1 => say (sayL f h n) (f n)
def sayM (t : St) (h : Int64) (a : Nat) : Int64 := say (say (sayL (fun w => oTell t a w) h 8) (hidA t a 2 0)) (hidA t a 2 1)
def sayA (t : St) (h : Int64) : Nat → Int64
  | 0 => h
  | n + 1 => sayM t (sayA t h n) n
def oDigest (t : St) : Int64 :=
  let h1 := if hasC t then sayL (fun d => nI ((nrO t).getD d 0)) 1019 5 else 1019
  let h2 := sayL (fun k => nI ((shO (crO t)).getD k 0)) h1 (shO (crO t)).length
  let h3 := sayA t h2 (mnO (crO t)).length
  let h4 := sayL (fun k => nI ((pgO t).getD k 0)) h3 (pgO t).length
  sayL (fun w => oCnt t w) h4 10
/-! the class's small tests, by what is known -/
theorem c_hasT {σ : aH} {a b sz : Nat} (h1 : σ[a]? = some (aO 6 [.ref b, .int (nI sz)])) (hs : sz ≤ 10) {j : Nat} (hj : j < sz) : MX6_has 0 0 0 [.ref a, .int (nI j)] σ (aPu (some (.int (nI 1))) σ) := (c_has h1 hs).weaken (fun v σ' h => by
  obtain ⟨h, rfl⟩ := h
  rcases h with ⟨-, -, -, rfl⟩ | ⟨h, -⟩
  · exact ⟨rfl, rfl⟩
  · exact absurd rfl (h j hj))
theorem c_hasN {σ : aH} {a b sz : Nat} (h1 : σ[a]? = some (aO 6 [.ref b, .int (nI sz)])) (hs : sz ≤ 10) {x : Int32} (hx : x.toInt < 0 ∨ ((sz : Nat) : Int) ≤ x.toInt) : MX6_has 0 0 0 [.ref a, .int x] σ (aPu (some (.int (nI 0))) σ) := (c_has h1 hs).weaken (fun v σ' h => by
  obtain ⟨h, rfl⟩ := h
  rcases h with ⟨j, hj, rfl, -⟩ | ⟨-, rfl⟩
  · rw [nI_toInt (by omega)] at hx
    omega
  · exact ⟨rfl, rfl⟩)
theorem c_isWordT {σ : aH} {j : Nat} (hj : j < 8) : MX11_isWord 0 0 0 [.int (nI j)] σ (aPu (some (.int (nI 1))) σ) := (c_isWord).weaken (fun v σ' h => by
  obtain ⟨h, rfl⟩ := h
  rcases h with ⟨-, -, -, rfl⟩ | ⟨h, -⟩
  · exact ⟨rfl, rfl⟩
  · exact absurd rfl (h j hj))
theorem c_isWordN {σ : aH} {x : Int32} (hx : x.toInt < 0 ∨ ((8 : Nat) : Int) ≤ x.toInt) : MX11_isWord 0 0 0 [.int x] σ (aPu (some (.int (nI 0))) σ) := (c_isWord).weaken (fun v σ' h => by
  obtain ⟨h, rfl⟩ := h
  rcases h with ⟨j, hj, rfl, -⟩ | ⟨-, rfl⟩
  · rw [nI_toInt (by omega)] at hx
    omega
  · exact ⟨rfl, rfl⟩)
set_option maxRecDepth 20000 in
theorem c_isKind {σ : aH} {x : Int32} : MX11_isKind 0 0 0 [.int x] σ (fun v σ' => ((∃ j, j < 5 ∧ x = nI j ∧ v = some (.int (nI 1))) ∨ ((∀ j, j < 5 → x ≠ nI j) ∧ v = some (.int (nI 0)))) ∧ σ' = σ) := by
  refine sX11_isKind (Nat.le_of_ble_eq_true rfl) ?_
  refine g_iload eX11_isKind_0 rfl ?_
  refine g_if_lt eX11_isKind_1 (fun c1 => ?_) (fun c1 => ?_)
  · refine g_push eX11_isKind_13 ?_
    exact g_ret (eX11_isKind_14 _ (by first | exact Or.inl rfl | exact Or.inr rfl)) (Nat.le_refl _) (Nat.le_refl _) ⟨by first | exact hasT2_ c1 c6 (by decide) | exact hasF2_ (by first | exact Or.inl c1 | exact Or.inr c6) (by decide), rfl⟩
  · refine g_iload eX11_isKind_4 rfl ?_
    refine g_push eX11_isKind_5 ?_
    refine g_icmp_ge eX11_isKind_6 (fun c6 => ?_) (fun c6 => ?_)
    · refine g_push eX11_isKind_13 ?_
      exact g_ret (eX11_isKind_14 _ (by first | exact Or.inl rfl | exact Or.inr rfl)) (Nat.le_refl _) (Nat.le_refl _) ⟨by first | exact hasT2_ c1 c6 (by decide) | exact hasF2_ (by first | exact Or.inl c1 | exact Or.inr c6) (by decide), rfl⟩
    · refine g_push eX11_isKind_9 ?_
      refine g_goto eX11_isKind_10 ?_
      exact g_ret (eX11_isKind_14 _ (by first | exact Or.inl rfl | exact Or.inr rfl)) (Nat.le_refl _) (Nat.le_refl _) ⟨by first | exact hasT2_ c1 c6 (by decide) | exact hasF2_ (by first | exact Or.inl c1 | exact Or.inr c6) (by decide), rfl⟩
theorem c_isKindT {σ : aH} {j : Nat} (hj : j < 5) : MX11_isKind 0 0 0 [.int (nI j)] σ (aPu (some (.int (nI 1))) σ) := (c_isKind).weaken (fun v σ' h => by
  obtain ⟨h, rfl⟩ := h
  rcases h with ⟨-, -, -, rfl⟩ | ⟨h, -⟩
  · exact ⟨rfl, rfl⟩
  · exact absurd rfl (h j hj))
theorem c_isKindN {σ : aH} {x : Int32} (hx : x.toInt < 0 ∨ ((5 : Nat) : Int) ≤ x.toInt) : MX11_isKind 0 0 0 [.int x] σ (aPu (some (.int (nI 0))) σ) := (c_isKind).weaken (fun v σ' h => by
  obtain ⟨h, rfl⟩ := h
  rcases h with ⟨j, hj, rfl, -⟩ | ⟨-, rfl⟩
  · rw [nI_toInt (by omega)] at hx
    omega
  · exact ⟨rfl, rfl⟩)
theorem c_isAccusedT {σ : aH} {t : St} (hI : IX t σ) (hwf : WF t) {j : Nat} (hj : j < (mnO (crO t)).length) : MX11_isAccused 0 0 0 [.ref 0, .int (nI j)] σ (aPu (some (.int (nI 1))) σ) := (c_isAccused hI hwf).weaken (fun v σ' h => by
  obtain ⟨h, rfl⟩ := h
  rcases h with ⟨-, -, -, rfl⟩ | ⟨h, -⟩
  · exact ⟨rfl, rfl⟩
  · exact absurd rfl (h j hj))
theorem c_isAccusedN {σ : aH} {t : St} (hI : IX t σ) (hwf : WF t) {x : Int32} (hx : x.toInt < 0 ∨ (((mnO (crO t)).length : Nat) : Int) ≤ x.toInt) : MX11_isAccused 0 0 0 [.ref 0, .int x] σ (aPu (some (.int (nI 0))) σ) := (c_isAccused hI hwf).weaken (fun v σ' h => by
  obtain ⟨h, rfl⟩ := h
  rcases h with ⟨j, hj, rfl, -⟩ | ⟨-, rfl⟩
  · have := hwf.2.2.2.2.2.1.2.2.2.1
    rw [nI_toInt (by omega)] at hx
    omega
  · exact ⟨rfl, rfl⟩)
theorem nm7 {l : List Nat} {j : Nat} (h : ∀ i ∈ l, i < 25) (hj : 28 ≤ j) : j ∉ l := fun z => by have := h j z; omega
theorem IX.page {t : St} {σ τ : aH} (hI : IX t σ) (h : EqO [1, 2] σ τ) {pg : List Nat} {cd' : List Nat} (g1 : τ[1]? = some (aO 5 [.ref 2, .ref 3, .int (nI pg.length)])) (g2 : τ[2]? = some (aA cd')) (l1 : cd'.length = 28) (l2 : ∀ k, k < pg.length → cd'.getD k 0 = pg.getD k 0) (l3 : ∀ k, cd'.getD k 0 < 1000) : IX (pg, t.2) τ := by
  obtain ⟨cd, y0, y1, y2, mr, dws, dsz, bp, bw, bs, e0, e1, e2, e3, e4, e5, e20, e21, e22, e23, e24, hn, hk, hki, lcd, hcd, bcd, lmr, ldws, lbp, lbw, hmen⟩ := hI
  refine ⟨cd', y0, y1, y2, mr, dws, dsz, bp, bw, bs, h.at (by decide) e0, g1, g2, h.at (by decide) e3, h.at (by decide) e4, h.at (by decide) e5, h.at (by decide) e20, h.at (by decide) e21, h.at (by decide) e22, h.at (by decide) e23, h.at (by decide) e24, hn.at (fun j a b => h.2 j ?_), hk.at (fun j a b => h.2 j ?_), fun c hc => (hki c hc).at (fun j a b => h.2 j ?_), l1, l2, l3, lmr, ldws, lbp, lbw, fun i hi => ?_⟩
  · simp only [List.mem_cons, List.not_mem_nil, or_false]; omega
  · simp only [List.mem_cons, List.not_mem_nil, or_false]; omega
  · simp only [List.mem_cons, List.not_mem_nil, or_false]; omega
  · obtain ⟨q, a1, a2, a3⟩ := hmen i hi
    exact ⟨q, a1, a2, h.at (nm7 (by decide) a2) a3⟩
theorem IX.core {t : St} {σ τ : aH} (hI : IX t σ) (h : EqO [6, 7, 8, 9, 10, 11, 12] σ τ) {c : Cr} (hn' : IS 6 (shW (nrO t)) c τ) (hm : ∀ i, i < (mnO c).length → i < (mnO (crO t)).length ∧ (manO c i).1 = (manO (crO t) i).1 ∧ (manO c i).2.1 = (manO (crO t) i).2.1) : IX (wcr t c) τ := by
  obtain ⟨cd, y0, y1, y2, mr, dws, dsz, bp, bw, bs, e0, e1, e2, e3, e4, e5, e20, e21, e22, e23, e24, hn, hk, hki, lcd, hcd, bcd, lmr, ldws, lbp, lbw, hmen⟩ := hI
  refine ⟨cd, y0, y1, y2, mr, dws, dsz, bp, bw, bs, h.at (by decide) e0, h.at (by decide) e1, h.at (by decide) e2, h.at (by decide) e3, h.at (by decide) e4, h.at (by decide) e5, h.at (by decide) e20, h.at (by decide) e21, h.at (by decide) e22, h.at (by decide) e23, h.at (by decide) e24, hn', hk.at (fun j a b => h.2 j ?_), fun c hc => (hki c hc).at (fun j a b => h.2 j ?_), lcd, hcd, bcd, lmr, ldws, lbp, lbw, fun i hi => ?_⟩
  · simp only [List.mem_cons, List.not_mem_nil, or_false]; omega
  · simp only [List.mem_cons, List.not_mem_nil, or_false]; omega
  · obtain ⟨b1, b2, b3⟩ := hm i hi
    obtain ⟨q, a1, a2, a3⟩ := hmen i b1
    refine ⟨q, a1, a2, ?_⟩
    show τ[q]? = some (aO (ciK (manO c i).1) [.int (nI (manO c i).2.1)])
    rw [b2, b3]
    exact h.at (nm7 (by decide) a2) a3
theorem getD_app {α : Type} (l : List α) (c d : α) (k : Nat) : (l ++ [c]).getD k d = if k < l.length then l.getD k d else if k = l.length then c else d := by
  rw [List.getD_eq_getElem?_getD, List.getD_eq_getElem?_getD, List.getElem?_append]
  by_cases h : k < l.length
  · rw [if_pos h, if_pos h]
  · rw [if_neg h, if_neg h]
    by_cases h2 : k = l.length
    · subst h2
      simp
    · rw [if_neg h2, List.getElem?_eq_none (by simp; omega)]
      rfl
theorem getD_set {α : Type} (l : List α) (i : Nat) (c d : α) (k : Nat) : (l.set i c).getD k d = if i = k ∧ i < l.length then c else l.getD k d := by
  rw [List.getD_eq_getElem?_getD, List.getD_eq_getElem?_getD, List.getElem?_set]
  by_cases h : i = k
  · subst h
    by_cases h2 : i < l.length
    · simp [h2]
    · simp [h2]
  · simp [h]
theorem IX.letter {t : St} {σ : aH} (hI : IX t σ) {cd : List Nat} {c : Nat} (q1 : (pgO t).length < 28) (hc : c < 127) (e1 : σ[1]? = some (aO 5 [.ref 2, .ref 3, .int (nI (pgO t).length)])) (e2 : σ[2]? = some (aA cd)) (lcd : cd.length = 28) (hcd : ∀ k, k < (pgO t).length → cd.getD k 0 = (pgO t).getD k 0) (bcd : ∀ k, cd.getD k 0 < 1000) : IX (pgO t ++ [c], t.2) ((σ.set 2 (aA (cd.set (pgO t).length c))).set 1 (aO 5 [.ref 2, .ref 3, .int (nI ((pgO t).length + 1))])) := by
  refine hI.page ((EqO.rf.st (by decide)).st (by decide)) (cd' := cd.set (pgO t).length c) (by rw [List.length_append]; exact at_eq (at_ne (by decide) e1)) (at_ne (by decide) (at_eq e2)) (by rw [List.length_set]; exact lcd) (fun k hk => ?_) (fun k => ?_)
  · rw [getD_set, getD_app]
    rw [List.length_append, List.length_singleton] at hk
    by_cases h : k < (pgO t).length
    · rw [if_neg (by omega), if_pos h, hcd k h]
    · rw [if_pos (by omega), if_neg h, if_pos (by omega)]
  · rw [getD_set]
    split
    · omega
    · exact bcd k
set_option maxRecDepth 20000 in
theorem x_letter {σ : aH} {t : St} (hI : IX t σ) (hwf : WF t) {x : Int32} : MX11_letter 1 0 0 [.ref 0, .int x] σ (fun v σ' => v = some (.int (oLetter t x).1) ∧ IX (oLetter t x).2 σ' ∧ FrX σ σ') := by
  refine sX11_letter (Nat.le_of_ble_eq_true rfl) ?_
  have hI' := hI
  have hwf' := hwf
  obtain ⟨cd, x0, x1, x2, mr, dws, dsz, bp, bw, bs, e0, e1, e2, e3, e4, e5, e20, e21, e22, e23, e24, ⟨ws, wm, dm, hid, e6, e7, e8, e9, e10, e11, e12, lws, hws, lwm, ldm, bwm, lhid, hhid, hhd⟩, hk, hki, lcd, hcd, bcd, lmr, ldws, lbp, lbw, hmen⟩ := hI
  obtain ⟨w1, w2, w3, w4, w5, ⟨w6, w7, w8, w9, w10, w11, w12⟩, w13, w14, w15, w16, w17⟩ := hwf
  unfold oLetter
  cases e : rg x 1 127 with
  | none =>
    dsimp only
    have hr := rg_none e
    refine g_iload eX11_letter_0 rfl ?_
    refine g_push eX11_letter_1 ?_
    refine g_icmp_ltI eX11_letter_2 (by decide) (fun c2 => ?_) (fun c2 => ?_)
    · refine g_push eX11_letter_11 ?_
      exact g_ret (eX11_letter_13 _) (Nat.le_refl _) (Nat.le_refl _) ⟨rfl, hI', FrX.rf⟩
    · refine g_iload eX11_letter_5 rfl ?_
      refine g_push eX11_letter_6 ?_
      refine g_icmp_leI eX11_letter_8 (by decide) (fun c8 => by exfalso; omega) (fun c8 => ?_)
      refine g_push eX11_letter_11 ?_
      exact g_ret (eX11_letter_13 _) (Nat.le_refl _) (Nat.le_refl _) ⟨rfl, hI', FrX.rf⟩
  | some c =>
    dsimp only
    obtain ⟨rfl, hc1, hc2⟩ := rg_some e
    refine g_iload eX11_letter_0 rfl ?_
    refine g_push eX11_letter_1 ?_
    refine g_icmp_ltN eX11_letter_2 (by omega) (by omega) (fun c2 => by exfalso; omega) (fun c2 => ?_)
    refine g_iload eX11_letter_5 rfl ?_
    refine g_push eX11_letter_6 ?_
    refine g_icmp_leN eX11_letter_8 (by omega) (by omega) (fun c8 => ?_) (fun c8 => by exfalso; omega)
    refine g_aload eX11_letter_14 rfl ?_
    refine g_get eX11_letter_15 fX11_10_X11 e0 (by rfl) ?_
    refine g_iload eX11_letter_18 rfl ?_
    refine g_callV0 (r := (RX5, TX5, 3)) eX11_letter_19 kX11_50 e1 (by rfl) (c_padd (c := c) e1 e2 lcd w1 (by decide)) (by rfl) (by rfl) (by exact Nat.le_of_ble_eq_true rfl) (by exact Nat.le_of_ble_eq_true rfl) (by exact Nat.le_of_ble_eq_true rfl) (Nat.le_refl _) (Nat.le_refl _) (fun v19 σ19 hp19 hn19 => ?_)
    rcases hp19 with ⟨q1, rfl, rfl⟩ | ⟨q1, rfl, rfl⟩
    · refine g_if_eqN eX11_letter_22 (by omega) (fun c22 => by exfalso; omega) (fun c22 => ?_)
      refine g_aload eX11_letter_25 rfl ?_
      refine g_get eX11_letter_26 fX11_10_X11 (at_ne (by decide) (at_ne (by decide) e0)) (by rfl) ?_
      refine g_callVp (r := (RX5, TX5, 3)) eX11_letter_29 kX11_54 (at_eq (at_ne (by decide) e1)) (by rfl) (c_psize (at_eq (at_ne (by decide) e1))) (by rfl) (by rfl) (by exact Nat.le_of_ble_eq_true rfl) (by exact Nat.le_of_ble_eq_true rfl) (by exact Nat.le_of_ble_eq_true rfl) (Nat.le_refl _) (Nat.le_refl _) ?_
      refine g_goto eX11_letter_32 ?_
      exact g_ret (eX11_letter_37 _) (Nat.le_refl _) (Nat.le_refl _) (by rw [if_pos q1]; exact ⟨rfl, IX.letter hI' q1 hc2 e1 e2 lcd hcd bcd, (FrX.rf.st (by decide)).st (by decide)⟩)
    · refine g_if_eqN eX11_letter_22 (by omega) (fun c22 => ?_) (fun c22 => absurd rfl c22)
      refine g_push eX11_letter_35 ?_
      exact g_ret (eX11_letter_37 _) (Nat.le_refl _) (Nat.le_refl _) (by rw [if_neg (by omega)]; exact ⟨rfl, hI', FrX.rf⟩)
end
section
/-! the class's calls: blank, fault, near, word, put, limit -/
theorem wfa_congr {p q : Nat → Nat} : ∀ d k s, (∀ j, j < k + d → p j = q j) → wfa p d k s = wfa q d k s
  | 0, _, _, _ => rfl
  | d + 1, k, s, h => by
    unfold wfa
    rw [h k (by omega)]
    cases wstep s (q k) with
    | none => rfl
    | some s' => exact wfa_congr d (k + 1) s' (fun j hj => h j (by omega))
theorem wcourt_congr {p q : Nat → Nat} {n : Nat} (h : ∀ j, j < n → p j = q j) : wcourt p n = wcourt q n := by
  unfold wcourt
  rw [wfa_congr n 0 (0, 0, 0) (fun j hj => h j (by omega))]
set_option maxRecDepth 20000 in
theorem x_fault {σ : aH} {t : St} (hI : IX t σ) (hwf : WF t)  : MX11_fault 3 0 0 [.ref 0] σ (fun v σ' => v = some (.int (oFault t)) ∧ IX t σ' ∧ FrX σ σ') := by
  refine sX11_fault (Nat.le_of_ble_eq_true rfl) ?_
  have hI' := hI
  have hwf' := hwf
  obtain ⟨cd, x0, x1, x2, mr, dws, dsz, bp, bw, bs, e0, e1, e2, e3, e4, e5, e20, e21, e22, e23, e24, ⟨ws, wm, dm, hid, e6, e7, e8, e9, e10, e11, e12, lws, hws, lwm, ldm, bwm, lhid, hhid, hhd⟩, hk, hki, lcd, hcd, bcd, lmr, ldws, lbp, lbw, hmen⟩ := hI
  obtain ⟨w1, w2, w3, w4, w5, ⟨w6, w7, w8, w9, w10, w11, w12⟩, w13, w14, w15, w16, w17⟩ := hwf
  refine g_aload eX11_fault_0 rfl ?_
  refine g_get eX11_fault_1 fX11_10_X11 e0 (by rfl) ?_
  refine g_callVp (r := (RX5, TX5, 3)) eX11_fault_4 kX11_61 e1 (by rfl) (c_faultPlace e1 e2 lcd w1 e3 (by decide) (by decide) bcd) (by rfl) (by rfl) (by exact Nat.le_of_ble_eq_true rfl) (by exact Nat.le_of_ble_eq_true rfl) (by exact Nat.le_of_ble_eq_true rfl) (Nat.le_refl _) (Nat.le_refl _) ?_
  exact g_ret (eX11_fault_7 _) (Nat.le_refl _) (Nat.le_refl _) ⟨by unfold oFault; rw [wfa_congr (p := shW cd) (q := shW (pgO t)) _ _ _ (fun j hj => hcd j (by omega))], hI'.junk (EqO.rf.st (by decide)) (at_eq e3) (at_ne (by decide) e20) (at_ne (by decide) e21) (at_ne (by decide) e22) (at_ne (by decide) e23) (at_ne (by decide) e24) ldws lbp lbw, FrX.rf.st (by decide)⟩
theorem bt_lt (b : Bool) : b.toNat < 2147483648 := Nat.lt_of_le_of_lt (Bool.toNat_le b) (by decide)
theorem bt_0 {P : Prop} [Decidable P] (h : (decide P).toNat = 0) : ¬ P := fun p => by rw [decide_eq_true p] at h; cases h
theorem bt_1 {P : Prop} [Decidable P] (h : ¬ (decide P).toNat = 0) : P := Classical.byContradiction fun p => h (by rw [decide_eq_false p]; rfl)
set_option maxRecDepth 20000 in
theorem x_near {σ : aH} {t : St} (hI : IX t σ) (hwf : WF t) {x : Int32} : MX11_near 1 0 0 [.ref 0, .int x] σ (aPu (some (.int (oNear t x))) σ) := by
  refine sX11_near (Nat.le_of_ble_eq_true rfl) ?_
  have hI' := hI
  have hwf' := hwf
  obtain ⟨cd, x0, x1, x2, mr, dws, dsz, bp, bw, bs, e0, e1, e2, e3, e4, e5, e20, e21, e22, e23, e24, ⟨ws, wm, dm, hid, e6, e7, e8, e9, e10, e11, e12, lws, hws, lwm, ldm, bwm, lhid, hhid, hhd⟩, hk, hki, lcd, hcd, bcd, lmr, ldws, lbp, lbw, hmen⟩ := hI
  obtain ⟨w1, w2, w3, w4, w5, ⟨w6, w7, w8, w9, w10, w11, w12⟩, w13, w14, w15, w16, w17⟩ := hwf
  unfold oNear
  cases e : rg x 0 5 with
  | none =>
    dsimp only
    have hr := rg_none e
    refine g_aload eX11_near_0 rfl ?_
    refine g_callVp (r := (RX11, TX11, 10)) eX11_near_1 kX11_83 e0 (by rfl) (c_hasCourt hI' hwf') (by rfl) (by rfl) (by exact Nat.le_of_ble_eq_true rfl) (by exact Nat.le_of_ble_eq_true rfl) (by exact Nat.le_of_ble_eq_true rfl) (Nat.le_refl _) (Nat.le_refl _) ?_
    refine g_if_eqN eX11_near_4 (bt_lt _) (fun c4 => ?_) (fun c4 => ?_)
    · refine g_push eX11_near_16 ?_
      exact g_ret (eX11_near_18 _) (Nat.le_refl _) (Nat.le_refl _) ⟨rfl, rfl⟩
    · refine g_iload eX11_near_7 rfl ?_
      refine g_if_ltI eX11_near_8 (fun c8 => ?_) (fun c8 => ?_)
      · refine g_push eX11_near_16 ?_
        exact g_ret (eX11_near_18 _) (Nat.le_refl _) (Nat.le_refl _) ⟨rfl, rfl⟩
      · refine g_iload eX11_near_11 rfl ?_
        refine g_push eX11_near_12 ?_
        refine g_icmp_ltI eX11_near_13 (by decide) (fun c13 => by exfalso; omega) (fun c13 => ?_)
        refine g_push eX11_near_16 ?_
        exact g_ret (eX11_near_18 _) (Nat.le_refl _) (Nat.le_refl _) ⟨rfl, rfl⟩
  | some d =>
    dsimp only
    obtain ⟨rfl, -, hc2⟩ := rg_some e
    refine g_aload eX11_near_0 rfl ?_
    refine g_callVp (r := (RX11, TX11, 10)) eX11_near_1 kX11_83 e0 (by rfl) (c_hasCourt hI' hwf') (by rfl) (by rfl) (by exact Nat.le_of_ble_eq_true rfl) (by exact Nat.le_of_ble_eq_true rfl) (by exact Nat.le_of_ble_eq_true rfl) (Nat.le_refl _) (Nat.le_refl _) ?_
    refine g_if_eqN eX11_near_4 (bt_lt _) (fun c4 => ?_) (fun c4 => ?_)
    · have hno := bt_0 c4
      refine g_push eX11_near_16 ?_
      exact g_ret (eX11_near_18 _) (Nat.le_refl _) (Nat.le_refl _) ⟨by rw [if_neg hno], rfl⟩
    · have hyes := bt_1 c4
      refine g_iload eX11_near_7 rfl ?_
      refine g_if_ltN eX11_near_8 (by omega) ?_
      refine g_iload eX11_near_11 rfl ?_
      refine g_push eX11_near_12 ?_
      refine g_icmp_ltN eX11_near_13 (by omega) (by omega) (fun c13 => ?_) (fun c13 => by exfalso; omega)
      refine g_aload eX11_near_19 rfl ?_
      refine g_get eX11_near_20 fX11_16_X11 e0 (by rfl) ?_
      refine g_iload eX11_near_23 rfl ?_
      refine g_ialdN eX11_near_24 e4 (by omega) (by omega) ?_
      exact g_ret (eX11_near_25 _) (Nat.le_refl _) (Nat.le_refl _) ⟨by rw [if_pos hyes], rfl⟩
set_option maxRecDepth 20000 in
theorem x_word {σ : aH} {t : St} (hI : IX t σ) (hwf : WF t) {x : Int32} : MX11_word 2 0 0 [.ref 0, .int x] σ (aPu (some (.int (oWord t x))) σ) := by
  refine sX11_word (Nat.le_of_ble_eq_true rfl) ?_
  have hI' := hI
  have hwf' := hwf
  obtain ⟨cd, x0, x1, x2, mr, dws, dsz, bp, bw, bs, e0, e1, e2, e3, e4, e5, e20, e21, e22, e23, e24, ⟨ws, wm, dm, hid, e6, e7, e8, e9, e10, e11, e12, lws, hws, lwm, ldm, bwm, lhid, hhid, hhd⟩, hk, hki, lcd, hcd, bcd, lmr, ldws, lbp, lbw, hmen⟩ := hI
  obtain ⟨w1, w2, w3, w4, w5, ⟨w6, w7, w8, w9, w10, w11, w12⟩, w13, w14, w15, w16, w17⟩ := hwf
  unfold oWord
  cases e : rg x 0 (shO (crO t)).length with
  | none =>
    dsimp only
    have hr := rg_none e
    refine g_aload eX11_word_0 rfl ?_
    refine g_get eX11_word_1 fX11_29_X11 e0 (by rfl) ?_
    refine g_get eX11_word_4 fX11_79_X8 e6 (by rfl) ?_
    refine g_iload eX11_word_7 rfl ?_
    refine g_callVp (r := (RX6, TX6, 2)) eX11_word_8 kX11_86 e7 (by rfl) (c_hasN e7 w6 hr) (by rfl) (by rfl) (by exact Nat.le_of_ble_eq_true rfl) (by exact Nat.le_of_ble_eq_true rfl) (by exact Nat.le_of_ble_eq_true rfl) (Nat.le_refl _) (Nat.le_refl _) ?_
    refine g_if_eqN eX11_word_11 (by omega) (fun c11 => ?_) (fun c11 => absurd rfl c11)
    refine g_push eX11_word_28 ?_
    exact g_ret (eX11_word_30 _) (Nat.le_refl _) (Nat.le_refl _) ⟨rfl, rfl⟩
  | some k =>
    dsimp only
    obtain ⟨rfl, -, hk2⟩ := rg_some e (by omega)
    rw [← hws k hk2]
    refine g_aload eX11_word_0 rfl ?_
    refine g_get eX11_word_1 fX11_29_X11 e0 (by rfl) ?_
    refine g_get eX11_word_4 fX11_79_X8 e6 (by rfl) ?_
    refine g_iload eX11_word_7 rfl ?_
    refine g_callVp (r := (RX6, TX6, 2)) eX11_word_8 kX11_86 e7 (by rfl) (c_hasT e7 w6 hk2) (by rfl) (by rfl) (by exact Nat.le_of_ble_eq_true rfl) (by exact Nat.le_of_ble_eq_true rfl) (by exact Nat.le_of_ble_eq_true rfl) (Nat.le_refl _) (Nat.le_refl _) ?_
    refine g_if_eqN eX11_word_11 (by omega) (fun c11 => absurd c11 (by decide)) (fun c11 => ?_)
    refine g_aload eX11_word_14 rfl ?_
    refine g_get eX11_word_15 fX11_29_X11 e0 (by rfl) ?_
    refine g_get eX11_word_18 fX11_79_X8 e6 (by rfl) ?_
    refine g_iload eX11_word_21 rfl ?_
    refine g_callVp (r := (RX6, TX6, 2)) eX11_word_22 kX11_89 e7 (by rfl) (c_at e7 e8 lws w6 hk2) (by rfl) (by rfl) (by exact Nat.le_of_ble_eq_true rfl) (by exact Nat.le_of_ble_eq_true rfl) (by exact Nat.le_of_ble_eq_true rfl) (Nat.le_refl _) (Nat.le_refl _) ?_
    refine g_goto eX11_word_25 ?_
    exact g_ret (eX11_word_30 _) (Nat.le_refl _) (Nat.le_refl _) ⟨rfl, rfl⟩
set_option maxRecDepth 20000 in
theorem x_put {σ : aH} {t : St} (hI : IX t σ) (hwf : WF t) {x y : Int32} : MX11_put 2 0 0 [.ref 0, .int x, .int y] σ (fun v σ' => v = some (.int (oPut t x y).1) ∧ IX (oPut t x y).2 σ' ∧ FrX σ σ') := by
  refine sX11_put (Nat.le_of_ble_eq_true rfl) ?_
  have hI' := hI
  have hwf' := hwf
  obtain ⟨cd, x0, x1, x2, mr, dws, dsz, bp, bw, bs, e0, e1, e2, e3, e4, e5, e20, e21, e22, e23, e24, ⟨ws, wm, dm, hid, e6, e7, e8, e9, e10, e11, e12, lws, hws, lwm, ldm, bwm, lhid, hhid, hhd⟩, hk, hki, lcd, hcd, bcd, lmr, ldws, lbp, lbw, hmen⟩ := hI
  obtain ⟨w1, w2, w3, w4, w5, ⟨w6, w7, w8, w9, w10, w11, w12⟩, w13, w14, w15, w16, w17⟩ := hwf
  unfold oPut
  cases e : rg x 0 (shO (crO t)).length with
  | none =>
    dsimp only
    have hr := rg_none e
    refine g_aload eX11_put_0 rfl ?_
    refine g_get eX11_put_1 fX11_29_X11 e0 (by rfl) ?_
    refine g_get eX11_put_4 fX11_79_X8 e6 (by rfl) ?_
    refine g_iload eX11_put_7 rfl ?_
    refine g_callVp (r := (RX6, TX6, 2)) eX11_put_8 kX11_86 e7 (by rfl) (c_hasN e7 w6 hr) (by rfl) (by rfl) (by exact Nat.le_of_ble_eq_true rfl) (by exact Nat.le_of_ble_eq_true rfl) (by exact Nat.le_of_ble_eq_true rfl) (Nat.le_refl _) (Nat.le_refl _) ?_
    refine g_if_neN eX11_put_11 (by omega) (fun c11 => absurd rfl c11) (fun c11 => ?_)
    refine g_push eX11_put_14 ?_
    exact g_ret (eX11_put_16 _) (Nat.le_refl _) (Nat.le_refl _) ⟨rfl, hI', FrX.rf⟩
  | some k =>
    dsimp only
    obtain ⟨rfl, -, hk2⟩ := rg_some e (by omega)
    cases f : rg y 0 8 with
    | none =>
      dsimp only
      have hr := rg_none f
      refine g_aload eX11_put_0 rfl ?_
      refine g_get eX11_put_1 fX11_29_X11 e0 (by rfl) ?_
      refine g_get eX11_put_4 fX11_79_X8 e6 (by rfl) ?_
      refine g_iload eX11_put_7 rfl ?_
      refine g_callVp (r := (RX6, TX6, 2)) eX11_put_8 kX11_86 e7 (by rfl) (c_hasT e7 w6 hk2) (by rfl) (by rfl) (by exact Nat.le_of_ble_eq_true rfl) (by exact Nat.le_of_ble_eq_true rfl) (by exact Nat.le_of_ble_eq_true rfl) (Nat.le_refl _) (Nat.le_refl _) ?_
      refine g_if_neN eX11_put_11 (by omega) (fun c11 => ?_) (fun c11 => absurd c11 (by decide))
      refine g_iload eX11_put_17 rfl ?_
      refine g_callSp eX11_put_18 kX11_93 (c_isWordN hr) (by rfl) (by rfl) (by exact Nat.le_of_ble_eq_true rfl) (by exact Nat.le_of_ble_eq_true rfl) (by exact Nat.le_of_ble_eq_true rfl) (Nat.le_refl _) (Nat.le_refl _) ?_
      refine g_if_neN eX11_put_21 (by omega) (fun c21 => absurd rfl c21) (fun c21 => ?_)
      refine g_push eX11_put_24 ?_
      exact g_ret (eX11_put_26 _) (Nat.le_refl _) (Nat.le_refl _) ⟨rfl, hI', FrX.rf⟩
    | some w =>
      dsimp only
      obtain ⟨rfl, -, hw2⟩ := rg_some f
      refine g_aload eX11_put_0 rfl ?_
      refine g_get eX11_put_1 fX11_29_X11 e0 (by rfl) ?_
      refine g_get eX11_put_4 fX11_79_X8 e6 (by rfl) ?_
      refine g_iload eX11_put_7 rfl ?_
      refine g_callVp (r := (RX6, TX6, 2)) eX11_put_8 kX11_86 e7 (by rfl) (c_hasT e7 w6 hk2) (by rfl) (by rfl) (by exact Nat.le_of_ble_eq_true rfl) (by exact Nat.le_of_ble_eq_true rfl) (by exact Nat.le_of_ble_eq_true rfl) (Nat.le_refl _) (Nat.le_refl _) ?_
      refine g_if_neN eX11_put_11 (by omega) (fun c11 => ?_) (fun c11 => absurd c11 (by decide))
      refine g_iload eX11_put_17 rfl ?_
      refine g_callSp eX11_put_18 kX11_93 (c_isWordT hw2) (by rfl) (by rfl) (by exact Nat.le_of_ble_eq_true rfl) (by exact Nat.le_of_ble_eq_true rfl) (by exact Nat.le_of_ble_eq_true rfl) (Nat.le_refl _) (Nat.le_refl _) ?_
      refine g_if_neN eX11_put_21 (by omega) (fun c21 => ?_) (fun c21 => absurd c21 (by decide))
      refine g_aload eX11_put_27 rfl ?_
      refine g_get eX11_put_28 fX11_29_X11 e0 (by rfl) ?_
      refine g_get eX11_put_31 fX11_79_X8 e6 (by rfl) ?_
      refine g_iload eX11_put_34 rfl ?_
      refine g_callVp (r := (RX6, TX6, 2)) eX11_put_35 kX11_89 e7 (by rfl) (c_at e7 e8 lws w6 hk2) (by rfl) (by rfl) (by exact Nat.le_of_ble_eq_true rfl) (by exact Nat.le_of_ble_eq_true rfl) (by exact Nat.le_of_ble_eq_true rfl) (Nat.le_refl _) (Nat.le_refl _) ?_
      refine g_istore eX11_put_38 rfl ?_
      refine g_aload eX11_put_39 rfl ?_
      refine g_get eX11_put_40 fX11_29_X11 e0 (by rfl) ?_
      refine g_get eX11_put_43 fX11_79_X8 e6 (by rfl) ?_
      refine g_iload eX11_put_46 rfl ?_
      refine g_iload eX11_put_47 rfl ?_
      refine g_callVp (r := (RX6, TX6, 2)) eX11_put_48 kX11_96 e7 (by rfl) (c_set e7 e8 lws w6 (v := w) hk2) (by rfl) (by rfl) (by exact Nat.le_of_ble_eq_true rfl) (by exact Nat.le_of_ble_eq_true rfl) (by exact Nat.le_of_ble_eq_true rfl) (Nat.le_refl _) (Nat.le_refl _) ?_
      refine g_aload eX11_put_51 rfl ?_
      refine g_get eX11_put_52 fX11_29_X11 (at_ne (by decide) e0) (by rfl) ?_
      refine g_dup eX11_put_55 rfl ?_
      refine g_get eX11_put_56 fX11_100_X8 (at_ne (by decide) e6) (by rfl) ?_
      refine g_push eX11_put_59 ?_
      refine g_iaddN eX11_put_60 ?_
      refine g_putI eX11_put_61 fX11_100_X8 pX8_5 (at_ne (by decide) e6) (by exact Nat.le_of_ble_eq_true rfl) ?_
      refine g_iload eX11_put_64 rfl ?_
      exact g_ret (eX11_put_65 _) (Nat.le_refl _) (Nat.le_refl _) ⟨by rw [hws k hk2], hI'.core ((EqO.rf.st (by decide)).st (by decide)) ⟨ws.set k w, wm, dm, hid, at_eq (at_ne (by decide) e6), by rw [List.length_set]; exact (at_ne (by decide) (at_ne (by decide) e7)), at_ne (by decide) (at_eq e8), (at_ne (by decide) (at_ne (by decide) e9)), (at_ne (by decide) (at_ne (by decide) e10)), (at_ne (by decide) (at_ne (by decide) e11)), (at_ne (by decide) (at_ne (by decide) e12)), by rw [List.length_set]; exact lws, fun j hj => by
            rw [List.length_set] at hj
            rw [getD_set, getD_set, hws j hj, lws]
            by_cases hkj : k = j
            · rw [if_pos ⟨hkj, by omega⟩, if_pos ⟨hkj, hk2⟩]
            · rw [if_neg (fun z => hkj z.1), if_neg (fun z => hkj z.1)], lwm, ldm, bwm, lhid, hhid, hhd⟩ (fun i hi => ⟨hi, rfl, rfl⟩), (FrX.rf.st (by decide)).st (by decide)⟩
set_option maxRecDepth 20000 in
theorem x_limit {σ : aH} {t : St} (hI : IX t σ) (hwf : WF t) {x : Int32} : MX11_limit 1 0 0 [.ref 0, .int x] σ (fun v σ' => v = some (.int (oLimit t x).1) ∧ IX (oLimit t x).2 σ' ∧ FrX σ σ') := by
  refine sX11_limit (Nat.le_of_ble_eq_true rfl) ?_
  have hI' := hI
  have hwf' := hwf
  obtain ⟨cd, x0, x1, x2, mr, dws, dsz, bp, bw, bs, e0, e1, e2, e3, e4, e5, e20, e21, e22, e23, e24, ⟨ws, wm, dm, hid, e6, e7, e8, e9, e10, e11, e12, lws, hws, lwm, ldm, bwm, lhid, hhid, hhd⟩, hk, hki, lcd, hcd, bcd, lmr, ldws, lbp, lbw, hmen⟩ := hI
  obtain ⟨w1, w2, w3, w4, w5, ⟨w6, w7, w8, w9, w10, w11, w12⟩, w13, w14, w15, w16, w17⟩ := hwf
  unfold oLimit
  cases e : rg x 1 11 with
  | none =>
    dsimp only
    have hr := rg_none e
    refine g_iload eX11_limit_0 rfl ?_
    refine g_push eX11_limit_1 ?_
    refine g_icmp_ltI eX11_limit_2 (by decide) (fun c2 => ?_) (fun c2 => ?_)
    · refine g_push eX11_limit_11 ?_
      exact g_ret (eX11_limit_13 _) (Nat.le_refl _) (Nat.le_refl _) ⟨rfl, hI', FrX.rf⟩
    · refine g_iload eX11_limit_5 rfl ?_
      refine g_push eX11_limit_6 ?_
      refine g_icmp_leI eX11_limit_8 (by decide) (fun c8 => by exfalso; omega) (fun c8 => ?_)
      refine g_push eX11_limit_11 ?_
      exact g_ret (eX11_limit_13 _) (Nat.le_refl _) (Nat.le_refl _) ⟨rfl, hI', FrX.rf⟩
  | some v =>
    dsimp only
    obtain ⟨rfl, hv1, hv2⟩ := rg_some e
    refine g_iload eX11_limit_0 rfl ?_
    refine g_push eX11_limit_1 ?_
    refine g_icmp_ltN eX11_limit_2 (by omega) (by omega) (fun c2 => by exfalso; omega) (fun c2 => ?_)
    refine g_iload eX11_limit_5 rfl ?_
    refine g_push eX11_limit_6 ?_
    refine g_icmp_leN eX11_limit_8 (by omega) (by omega) (fun c8 => ?_) (fun c8 => by exfalso; omega)
    refine g_aload eX11_limit_14 rfl ?_
    refine g_callVp (r := (RX11, TX11, 10)) eX11_limit_15 kX11_83 e0 (by rfl) (c_hasCourt hI' hwf') (by rfl) (by rfl) (by exact Nat.le_of_ble_eq_true rfl) (by exact Nat.le_of_ble_eq_true rfl) (by exact Nat.le_of_ble_eq_true rfl) (Nat.le_refl _) (Nat.le_refl _) ?_
    refine g_if_neN eX11_limit_18 (bt_lt _) (fun c18 => ?_) (fun c18 => ?_)
    · have hyes := bt_1 c18
      refine g_aload eX11_limit_24 rfl ?_
      refine g_get eX11_limit_25 fX11_29_X11 e0 (by rfl) ?_
      refine g_get eX11_limit_28 fX11_103_X8 e6 (by rfl) ?_
      refine g_istore eX11_limit_31 rfl ?_
      refine g_aload eX11_limit_32 rfl ?_
      refine g_get eX11_limit_33 fX11_29_X11 e0 (by rfl) ?_
      refine g_iload eX11_limit_36 rfl ?_
      refine g_putI eX11_limit_37 fX11_103_X8 pX8_3 e6 (by exact Nat.le_of_ble_eq_true rfl) ?_
      refine g_aload eX11_limit_40 rfl ?_
      refine g_get eX11_limit_41 fX11_29_X11 (at_ne (by decide) e0) (by rfl) ?_
      refine g_dup eX11_limit_44 rfl ?_
      refine g_get eX11_limit_45 fX11_100_X8 (at_eq e6) (by rfl) ?_
      refine g_push eX11_limit_48 ?_
      refine g_iaddN eX11_limit_49 ?_
      refine g_putI eX11_limit_50 fX11_100_X8 pX8_5 (at_eq e6) (by exact Nat.le_of_ble_eq_true rfl) ?_
      refine g_iload eX11_limit_53 rfl ?_
      exact g_ret (eX11_limit_54 _) (Nat.le_refl _) (Nat.le_refl _) (by
            rw [if_pos hyes]
            exact ⟨rfl, hI'.core ((EqO.rf.st (by decide)).st (by decide)) ⟨ws, wm, dm, hid, at_eq (at_eq e6), (at_ne (by decide) (at_ne (by decide) e7)), (at_ne (by decide) (at_ne (by decide) e8)), (at_ne (by decide) (at_ne (by decide) e9)), (at_ne (by decide) (at_ne (by decide) e10)), (at_ne (by decide) (at_ne (by decide) e11)), (at_ne (by decide) (at_ne (by decide) e12)), lws, hws, lwm, ldm, bwm, lhid, hhid, hhd⟩ (fun i hi => ⟨hi, rfl, rfl⟩), (FrX.rf.st (by decide)).st (by decide)⟩)
    · have hno := bt_0 c18
      refine g_push eX11_limit_21 ?_
      exact g_ret (eX11_limit_23 _) (Nat.le_refl _) (Nat.le_refl _) (by rw [if_neg hno]; exact ⟨rfl, hI', FrX.rf⟩)
end
section
/-! the class's calls: about, as, lesson, unlearn, hide, hear, forget, image, restore, count, trials -/
theorem toInt_sw {x : Int32} {k : Nat} (h : x = nI k) (hk : k < 2147483648) : x.toInt = (k : Int) := by rw [h, nI_toInt (by omega)]
set_option maxRecDepth 20000 in
theorem x_about {σ : aH} {t : St} (hI : IX t σ) (hwf : WF t) {x y : Int32} (hC : 0 < (shO (crO t)).length ∨ (mnO (crO t)).length = 0) : MX11_about 5 0 0 [.ref 0, .int x, .int y] σ (aPu (some (.int (oAbout t x y))) σ) := by
  refine sX11_about (Nat.le_of_ble_eq_true rfl) ?_
  have hI' := hI
  have hwf' := hwf
  obtain ⟨cd, x0, x1, x2, mr, dws, dsz, bp, bw, bs, e0, e1, e2, e3, e4, e5, e20, e21, e22, e23, e24, ⟨ws, wm, dm, hid, e6, e7, e8, e9, e10, e11, e12, lws, hws, lwm, ldm, bwm, lhid, hhid, hhd⟩, hk, hki, lcd, hcd, bcd, lmr, ldws, lbp, lbw, hmen⟩ := hI
  obtain ⟨w1, w2, w3, w4, w5, ⟨w6, w7, w8, w9, w10, w11, w12⟩, w13, w14, w15, w16, w17⟩ := hwf
  unfold oAbout
  cases e : rg x 0 (mnO (crO t)).length with
  | none =>
    dsimp only
    have hr := rg_none e
    have hno : ∀ j, j < (mnO (crO t)).length → x ≠ nI j := fun j hj z => by
      rw [z, nI_toInt (by omega)] at hr
      omega
    refine g_aload eX11_about_0 rfl ?_
    refine g_iload eX11_about_1 rfl ?_
    refine g_callVp (r := (RX11, TX11, 10)) eX11_about_2 kX11_118 e0 (by rfl) (c_manOfN hI' hwf' hno) (by rfl) (by rfl) (by exact Nat.le_of_ble_eq_true rfl) (by exact Nat.le_of_ble_eq_true rfl) (by exact Nat.le_of_ble_eq_true rfl) (Nat.le_refl _) (Nat.le_refl _) ?_
    refine g_astoreN eX11_about_5 rfl ?_
    refine g_aloadN eX11_about_6 rfl ?_
    refine g_ifnonnullN eX11_about_7 ?_
    refine g_push eX11_about_10 ?_
    exact g_ret (eX11_about_12 _) (Nat.le_refl _) (Nat.le_refl _) ⟨rfl, rfl⟩
  | some a =>
    dsimp only
    obtain ⟨rfl, -, ha⟩ := rg_some e (by omega)
    have hz : 0 < (shO (crO t)).length := hC.resolve_right (by omega)
    obtain ⟨q, g1, g2, g3⟩ := hmen a ha
    have hkd := (w10 a).1
    have hlt := manM_lt t a (shW ws) w6
    have hmm : manM t a (shW ws) (shO (crO t)).length = altM t a := manM_congr hws
    have hal := c_alteredBy hI' hwf' ha e7 e8 lws w6 hz (shw_eq hws w7)
    have hsc : AMet yX11_manOf cX11_manOf 2 (some (.object "ReadAloud$Man")) 1 0 0 [.ref 0, .int (nI a)] σ (aPu (some (.ref q)) σ) := c_manOf hI' hwf' ha e5 lmr g1
    cases f : rg y 0 8 with
    | none =>
      dsimp only
      have hr := rg_none f
      refine g_aload eX11_about_0 rfl ?_
      refine g_iload eX11_about_1 rfl ?_
      refine g_callVp (r := (RX11, TX11, 10)) eX11_about_2 kX11_118 e0 (by rfl) (hsc) (by rfl) (by rfl) (by exact Nat.le_of_ble_eq_true rfl) (by exact Nat.le_of_ble_eq_true rfl) (by exact Nat.le_of_ble_eq_true rfl) (Nat.le_refl _) (Nat.le_refl _) ?_
      refine g_astore eX11_about_5 rfl ?_
      refine g_aload eX11_about_6 rfl ?_
      refine g_ifnonnull eX11_about_7 ?_
      refine g_iload eX11_about_13 rfl ?_
      refine g_tswOut (tgt := 154) eX11_about_14 (by omega) (by decide) ?_
      refine g_push eX11_about_154 ?_
      exact g_ret (eX11_about_156 _) (Nat.le_refl _) (Nat.le_refl _) ⟨rfl, rfl⟩
    | some w =>
      dsimp only
      obtain ⟨rfl, -, hw8⟩ := rg_some f
      rcases (show w = 0 ∨ w = 1 ∨ w = 2 ∨ w = 3 ∨ w = 4 ∨ w = 5 ∨ w = 6 ∨ w = 7 by omega) with rfl | rfl | rfl | rfl | rfl | rfl | rfl | rfl
      · refine g_aload eX11_about_0 rfl ?_
        refine g_iload eX11_about_1 rfl ?_
        refine g_callVp (r := (RX11, TX11, 10)) eX11_about_2 kX11_118 e0 (by rfl) (hsc) (by rfl) (by rfl) (by exact Nat.le_of_ble_eq_true rfl) (by exact Nat.le_of_ble_eq_true rfl) (by exact Nat.le_of_ble_eq_true rfl) (Nat.le_refl _) (Nat.le_refl _) ?_
        refine g_astore eX11_about_5 rfl ?_
        refine g_aload eX11_about_6 rfl ?_
        refine g_ifnonnull eX11_about_7 ?_
        refine g_iload eX11_about_13 rfl ?_
        refine g_tswIn (off := 46) (tgt := 60) eX11_about_14 (by decide +kernel) (by decide +kernel) (by decide +kernel) (by decide) ?_
        refine g_aload eX11_about_60 rfl ?_
        refine g_kind rfl eX11_about_61 hkd g3 (by exact Nat.le_of_ble_eq_true rfl) (by exact Nat.le_of_ble_eq_true rfl) (Nat.le_refl _) (Nat.le_refl _) ?_
        exact g_ret (eX11_about_64 _) (Nat.le_refl _) (Nat.le_refl _) ⟨rfl, rfl⟩
      · refine g_aload eX11_about_0 rfl ?_
        refine g_iload eX11_about_1 rfl ?_
        refine g_callVp (r := (RX11, TX11, 10)) eX11_about_2 kX11_118 e0 (by rfl) (hsc) (by rfl) (by rfl) (by exact Nat.le_of_ble_eq_true rfl) (by exact Nat.le_of_ble_eq_true rfl) (by exact Nat.le_of_ble_eq_true rfl) (Nat.le_refl _) (Nat.le_refl _) ?_
        refine g_astore eX11_about_5 rfl ?_
        refine g_aload eX11_about_6 rfl ?_
        refine g_ifnonnull eX11_about_7 ?_
        refine g_iload eX11_about_13 rfl ?_
        refine g_tswIn (off := 51) (tgt := 65) eX11_about_14 (by decide +kernel) (by decide +kernel) (by decide +kernel) (by decide) ?_
        refine g_aload eX11_about_65 rfl ?_
        refine g_deed (fs := _) rfl rfl eX11_about_66 hkd g3 (by exact Nat.le_of_ble_eq_true rfl) (by exact Nat.le_of_ble_eq_true rfl) (Nat.le_refl _) (Nat.le_refl _) ?_
        exact g_ret (eX11_about_69 _) (Nat.le_refl _) (Nat.le_refl _) ⟨rfl, rfl⟩
      · refine g_aload eX11_about_0 rfl ?_
        refine g_iload eX11_about_1 rfl ?_
        refine g_callVp (r := (RX11, TX11, 10)) eX11_about_2 kX11_118 e0 (by rfl) (hsc) (by rfl) (by rfl) (by exact Nat.le_of_ble_eq_true rfl) (by exact Nat.le_of_ble_eq_true rfl) (by exact Nat.le_of_ble_eq_true rfl) (Nat.le_refl _) (Nat.le_refl _) ?_
        refine g_astore eX11_about_5 rfl ?_
        refine g_aload eX11_about_6 rfl ?_
        refine g_ifnonnull eX11_about_7 ?_
        refine g_iload eX11_about_13 rfl ?_
        refine g_tswIn (off := 56) (tgt := 70) eX11_about_14 (by decide +kernel) (by decide +kernel) (by decide +kernel) (by decide) ?_
        refine g_aload eX11_about_70 rfl ?_
        refine g_iload eX11_about_71 rfl ?_
        refine g_aload eX11_about_72 rfl ?_
        refine g_get eX11_about_73 fX11_29_X11 e0 (by rfl) ?_
        refine g_get eX11_about_76 fX11_79_X8 e6 (by rfl) ?_
        refine g_callVp (r := (RX11, TX11, 10)) eX11_about_79 kX11_128 e0 (by rfl) (hal) (by rfl) (by rfl) (by exact Nat.le_of_ble_eq_true rfl) (by exact Nat.le_of_ble_eq_true rfl) (by exact Nat.le_of_ble_eq_true rfl) (Nat.le_refl _) (Nat.le_refl _) ?_
        exact g_ret (eX11_about_82 _) (Nat.le_refl _) (Nat.le_refl _) ⟨congrArg (fun x => some (Value.int (nI x))) hmm, rfl⟩
      · refine g_aload eX11_about_0 rfl ?_
        refine g_iload eX11_about_1 rfl ?_
        refine g_callVp (r := (RX11, TX11, 10)) eX11_about_2 kX11_118 e0 (by rfl) (hsc) (by rfl) (by rfl) (by exact Nat.le_of_ble_eq_true rfl) (by exact Nat.le_of_ble_eq_true rfl) (by exact Nat.le_of_ble_eq_true rfl) (Nat.le_refl _) (Nat.le_refl _) ?_
        refine g_astore eX11_about_5 rfl ?_
        refine g_aload eX11_about_6 rfl ?_
        refine g_ifnonnull eX11_about_7 ?_
        refine g_iload eX11_about_13 rfl ?_
        refine g_tswIn (off := 69) (tgt := 83) eX11_about_14 (by decide +kernel) (by decide +kernel) (by decide +kernel) (by decide) ?_
        refine g_aload eX11_about_83 rfl ?_
        refine g_iload eX11_about_84 rfl ?_
        refine g_aload eX11_about_85 rfl ?_
        refine g_get eX11_about_86 fX11_29_X11 e0 (by rfl) ?_
        refine g_get eX11_about_89 fX11_79_X8 e6 (by rfl) ?_
        refine g_callVp (r := (RX11, TX11, 10)) eX11_about_92 kX11_128 e0 (by rfl) (hal) (by rfl) (by rfl) (by exact Nat.le_of_ble_eq_true rfl) (by exact Nat.le_of_ble_eq_true rfl) (by exact Nat.le_of_ble_eq_true rfl) (Nat.le_refl _) (Nat.le_refl _) ?_
        refine g_callSp eX11_about_95 kX11_132 (c_bitCount hlt) (by rfl) (by rfl) (by exact Nat.le_of_ble_eq_true rfl) (by exact Nat.le_of_ble_eq_true rfl) (by exact Nat.le_of_ble_eq_true rfl) (Nat.le_refl _) (Nat.le_refl _) ?_
        exact g_ret (eX11_about_98 _) (Nat.le_refl _) (Nat.le_refl _) ⟨congrArg (fun x => some (Value.int (nI (popc x)))) hmm, rfl⟩
      · refine g_aload eX11_about_0 rfl ?_
        refine g_iload eX11_about_1 rfl ?_
        refine g_callVp (r := (RX11, TX11, 10)) eX11_about_2 kX11_118 e0 (by rfl) (hsc) (by rfl) (by rfl) (by exact Nat.le_of_ble_eq_true rfl) (by exact Nat.le_of_ble_eq_true rfl) (by exact Nat.le_of_ble_eq_true rfl) (Nat.le_refl _) (Nat.le_refl _) ?_
        refine g_astore eX11_about_5 rfl ?_
        refine g_aload eX11_about_6 rfl ?_
        refine g_ifnonnull eX11_about_7 ?_
        refine g_iload eX11_about_13 rfl ?_
        refine g_tswIn (off := 85) (tgt := 99) eX11_about_14 (by decide +kernel) (by decide +kernel) (by decide +kernel) (by decide) ?_
        refine g_aload eX11_about_99 rfl ?_
        refine g_iload eX11_about_100 rfl ?_
        refine g_aload eX11_about_101 rfl ?_
        refine g_get eX11_about_102 fX11_29_X11 e0 (by rfl) ?_
        refine g_get eX11_about_105 fX11_79_X8 e6 (by rfl) ?_
        refine g_callVp (r := (RX11, TX11, 10)) eX11_about_108 kX11_128 e0 (by rfl) (hal) (by rfl) (by rfl) (by exact Nat.le_of_ble_eq_true rfl) (by exact Nat.le_of_ble_eq_true rfl) (by exact Nat.le_of_ble_eq_true rfl) (Nat.le_refl _) (Nat.le_refl _) ?_
        refine g_callSp eX11_about_111 kX11_132 (c_bitCount hlt) (by rfl) (by rfl) (by exact Nat.le_of_ble_eq_true rfl) (by exact Nat.le_of_ble_eq_true rfl) (by exact Nat.le_of_ble_eq_true rfl) (Nat.le_refl _) (Nat.le_refl _) ?_
        refine g_aload eX11_about_114 rfl ?_
        refine g_get eX11_about_115 fX11_29_X11 e0 (by rfl) ?_
        refine g_get eX11_about_118 fX11_103_X8 e6 (by rfl) ?_
        refine g_icmp_ltN eX11_about_121 (Nat.lt_of_le_of_lt (popc_le _) (by decide)) (by omega) (fun c121 => ?_) (fun c121 => ?_)
        · refine g_push eX11_about_128 ?_
          exact g_ret (eX11_about_129 _) (Nat.le_refl _) (Nat.le_refl _) ⟨congrArg (fun x => some (Value.int (nI x))) (by rw [← hmm]; first | rw [decide_eq_true c121]; rfl | rw [decide_eq_false (Nat.not_le.mpr c121)]; rfl), rfl⟩
        · refine g_push eX11_about_124 ?_
          refine g_goto eX11_about_125 ?_
          exact g_ret (eX11_about_129 _) (Nat.le_refl _) (Nat.le_refl _) ⟨congrArg (fun x => some (Value.int (nI x))) (by rw [← hmm]; first | rw [decide_eq_true c121]; rfl | rw [decide_eq_false (Nat.not_le.mpr c121)]; rfl), rfl⟩
      · refine g_aload eX11_about_0 rfl ?_
        refine g_iload eX11_about_1 rfl ?_
        refine g_callVp (r := (RX11, TX11, 10)) eX11_about_2 kX11_118 e0 (by rfl) (hsc) (by rfl) (by rfl) (by exact Nat.le_of_ble_eq_true rfl) (by exact Nat.le_of_ble_eq_true rfl) (by exact Nat.le_of_ble_eq_true rfl) (Nat.le_refl _) (Nat.le_refl _) ?_
        refine g_astore eX11_about_5 rfl ?_
        refine g_aload eX11_about_6 rfl ?_
        refine g_ifnonnull eX11_about_7 ?_
        refine g_iload eX11_about_13 rfl ?_
        refine g_tswIn (off := 116) (tgt := 130) eX11_about_14 (by decide +kernel) (by decide +kernel) (by decide +kernel) (by decide) ?_
        refine g_aload eX11_about_130 rfl ?_
        refine g_iload eX11_about_131 rfl ?_
        refine g_callVp (r := (RX11, TX11, 10)) eX11_about_132 kX11_137 e0 (by rfl) (c_hiddenBy hI' hwf' ha) (by rfl) (by rfl) (by exact Nat.le_of_ble_eq_true rfl) (by exact Nat.le_of_ble_eq_true rfl) (by exact Nat.le_of_ble_eq_true rfl) (Nat.le_refl _) (Nat.le_refl _) ?_
        exact g_ret (eX11_about_135 _) (Nat.le_refl _) (Nat.le_refl _) ⟨rfl, rfl⟩
      · refine g_aload eX11_about_0 rfl ?_
        refine g_iload eX11_about_1 rfl ?_
        refine g_callVp (r := (RX11, TX11, 10)) eX11_about_2 kX11_118 e0 (by rfl) (hsc) (by rfl) (by rfl) (by exact Nat.le_of_ble_eq_true rfl) (by exact Nat.le_of_ble_eq_true rfl) (by exact Nat.le_of_ble_eq_true rfl) (Nat.le_refl _) (Nat.le_refl _) ?_
        refine g_astore eX11_about_5 rfl ?_
        refine g_aload eX11_about_6 rfl ?_
        refine g_ifnonnull eX11_about_7 ?_
        refine g_iload eX11_about_13 rfl ?_
        refine g_tswIn (off := 122) (tgt := 136) eX11_about_14 (by decide +kernel) (by decide +kernel) (by decide +kernel) (by decide) ?_
        refine g_aload eX11_about_136 rfl ?_
        refine g_get eX11_about_137 fX11_29_X11 e0 (by rfl) ?_
        refine g_get eX11_about_140 fX11_140_X8 e6 (by rfl) ?_
        refine g_iload eX11_about_143 rfl ?_
        refine g_callVp (r := (RX3, TX3, 3)) eX11_about_144 kX11_144 e9 (by rfl) (c_deedsLeft e9 e10 e11 lwm ldm w11 bwm (n := a) (by omega)) (by rfl) (by rfl) (by exact Nat.le_of_ble_eq_true rfl) (by exact Nat.le_of_ble_eq_true rfl) (by exact Nat.le_of_ble_eq_true rfl) (Nat.le_refl _) (Nat.le_refl _) ?_
        exact g_ret (eX11_about_147 _) (Nat.le_refl _) (Nat.le_refl _) ⟨congrArg (fun x => some (Value.int (nI x))) (dleft_eq (kd := fun a => (manO (crO t) a).1) a _ hhd), rfl⟩
      · refine g_aload eX11_about_0 rfl ?_
        refine g_iload eX11_about_1 rfl ?_
        refine g_callVp (r := (RX11, TX11, 10)) eX11_about_2 kX11_118 e0 (by rfl) (hsc) (by rfl) (by rfl) (by exact Nat.le_of_ble_eq_true rfl) (by exact Nat.le_of_ble_eq_true rfl) (by exact Nat.le_of_ble_eq_true rfl) (Nat.le_refl _) (Nat.le_refl _) ?_
        refine g_astore eX11_about_5 rfl ?_
        refine g_aload eX11_about_6 rfl ?_
        refine g_ifnonnull eX11_about_7 ?_
        refine g_iload eX11_about_13 rfl ?_
        refine g_tswIn (off := 134) (tgt := 148) eX11_about_14 (by decide +kernel) (by decide +kernel) (by decide +kernel) (by decide) ?_
        refine g_aload eX11_about_148 rfl ?_
        refine g_iload eX11_about_149 rfl ?_
        refine g_callVp (r := (RX11, TX11, 10)) eX11_about_150 kX11_149 e0 (by rfl) (c_placeToListen hI' hwf' ha) (by rfl) (by rfl) (by exact Nat.le_of_ble_eq_true rfl) (by exact Nat.le_of_ble_eq_true rfl) (by exact Nat.le_of_ble_eq_true rfl) (Nat.le_refl _) (Nat.le_refl _) ?_
        exact g_ret (eX11_about_153 _) (Nat.le_refl _) (Nat.le_refl _) ⟨rfl, rfl⟩
set_option maxRecDepth 20000 in
theorem c_isOfKind {σ : aH} {q kind kd : Nat} {fs : List Value} (hk : kind ≤ 4) (hq : σ[q]? = some (aO (ciK kind) fs)) (hkd : kd < 5) : MX11_isOfKind 0 0 0 [.ref q, .int (nI kd)] σ (aPu (some (.int (nI (isK kind kd).toNat))) σ) := by
  refine sX11_isOfKind (Nat.le_of_ble_eq_true rfl) ?_
  rcases (show kd = 0 ∨ kd = 1 ∨ kd = 2 ∨ kd = 3 ∨ kd = 4 by omega) with rfl | rfl | rfl | rfl | rfl
  · refine g_iload eX11_isOfKind_0 rfl ?_
    refine g_tswOut (tgt := 52) eX11_isOfKind_1 (Or.inl (by decide +kernel)) (by decide) ?_
    refine g_aload eX11_isOfKind_52 rfl ?_
    refine g_ifnull eX11_isOfKind_53 ?_
    refine g_push eX11_isOfKind_56 ?_
    refine g_goto eX11_isOfKind_57 ?_
    exact g_ret (eX11_isOfKind_61 _ (Or.inr rfl)) (Nat.le_refl _) (Nat.le_refl _) ⟨rfl, rfl⟩
  · rcases (show kind = 0 ∨ kind = 1 ∨ kind = 2 ∨ kind = 3 ∨ kind = 4 by omega) with rfl | rfl | rfl | rfl | rfl
    · refine g_iload eX11_isOfKind_0 rfl ?_
      refine g_tswIn (off := 31) (tgt := 32) eX11_isOfKind_1 (by decide +kernel) (by decide +kernel) (by decide +kernel) (by decide) ?_
      refine g_aload eX11_isOfKind_32 rfl ?_
      refine g_instN (r := (RX4, TX4, 1)) eX11_isOfKind_33 lX11_226 hq rfl (by decide) ?_
      exact g_ret (eX11_isOfKind_36 _ (Or.inl rfl)) (Nat.le_refl _) (Nat.le_refl _) ⟨rfl, rfl⟩
    · refine g_iload eX11_isOfKind_0 rfl ?_
      refine g_tswIn (off := 31) (tgt := 32) eX11_isOfKind_1 (by decide +kernel) (by decide +kernel) (by decide +kernel) (by decide) ?_
      refine g_aload eX11_isOfKind_32 rfl ?_
      refine g_instS (r := (RX7, TX7, 1)) eX11_isOfKind_33 lX11_226 hq rfl rfl ?_
      exact g_ret (eX11_isOfKind_36 _ (Or.inr rfl)) (Nat.le_refl _) (Nat.le_refl _) ⟨rfl, rfl⟩
    · refine g_iload eX11_isOfKind_0 rfl ?_
      refine g_tswIn (off := 31) (tgt := 32) eX11_isOfKind_1 (by decide +kernel) (by decide +kernel) (by decide +kernel) (by decide) ?_
      refine g_aload eX11_isOfKind_32 rfl ?_
      refine g_instN (r := (RX0, TX0, 1)) eX11_isOfKind_33 lX11_226 hq rfl (by decide) ?_
      exact g_ret (eX11_isOfKind_36 _ (Or.inl rfl)) (Nat.le_refl _) (Nat.le_refl _) ⟨rfl, rfl⟩
    · refine g_iload eX11_isOfKind_0 rfl ?_
      refine g_tswIn (off := 31) (tgt := 32) eX11_isOfKind_1 (by decide +kernel) (by decide +kernel) (by decide +kernel) (by decide) ?_
      refine g_aload eX11_isOfKind_32 rfl ?_
      refine g_instN (r := (RX1, TX1, 1)) eX11_isOfKind_33 lX11_226 hq rfl (by decide) ?_
      exact g_ret (eX11_isOfKind_36 _ (Or.inl rfl)) (Nat.le_refl _) (Nat.le_refl _) ⟨rfl, rfl⟩
    · refine g_iload eX11_isOfKind_0 rfl ?_
      refine g_tswIn (off := 31) (tgt := 32) eX11_isOfKind_1 (by decide +kernel) (by decide +kernel) (by decide +kernel) (by decide) ?_
      refine g_aload eX11_isOfKind_32 rfl ?_
      refine g_instY (r := (RX10, TX10, 1)) eX11_isOfKind_33 lX11_226 hq rfl (by decide) ?_
      exact g_ret (eX11_isOfKind_36 _ (Or.inr rfl)) (Nat.le_refl _) (Nat.le_refl _) ⟨rfl, rfl⟩
  · rcases (show kind = 0 ∨ kind = 1 ∨ kind = 2 ∨ kind = 3 ∨ kind = 4 by omega) with rfl | rfl | rfl | rfl | rfl
    · refine g_iload eX11_isOfKind_0 rfl ?_
      refine g_tswIn (off := 36) (tgt := 37) eX11_isOfKind_1 (by decide +kernel) (by decide +kernel) (by decide +kernel) (by decide) ?_
      refine g_aload eX11_isOfKind_37 rfl ?_
      refine g_instN (r := (RX4, TX4, 1)) eX11_isOfKind_38 lX11_231 hq rfl (by decide) ?_
      exact g_ret (eX11_isOfKind_41 _ (Or.inl rfl)) (Nat.le_refl _) (Nat.le_refl _) ⟨rfl, rfl⟩
    · refine g_iload eX11_isOfKind_0 rfl ?_
      refine g_tswIn (off := 36) (tgt := 37) eX11_isOfKind_1 (by decide +kernel) (by decide +kernel) (by decide +kernel) (by decide) ?_
      refine g_aload eX11_isOfKind_37 rfl ?_
      refine g_instN (r := (RX7, TX7, 1)) eX11_isOfKind_38 lX11_231 hq rfl (by decide) ?_
      exact g_ret (eX11_isOfKind_41 _ (Or.inl rfl)) (Nat.le_refl _) (Nat.le_refl _) ⟨rfl, rfl⟩
    · refine g_iload eX11_isOfKind_0 rfl ?_
      refine g_tswIn (off := 36) (tgt := 37) eX11_isOfKind_1 (by decide +kernel) (by decide +kernel) (by decide +kernel) (by decide) ?_
      refine g_aload eX11_isOfKind_37 rfl ?_
      refine g_instS (r := (RX0, TX0, 1)) eX11_isOfKind_38 lX11_231 hq rfl rfl ?_
      exact g_ret (eX11_isOfKind_41 _ (Or.inr rfl)) (Nat.le_refl _) (Nat.le_refl _) ⟨rfl, rfl⟩
    · refine g_iload eX11_isOfKind_0 rfl ?_
      refine g_tswIn (off := 36) (tgt := 37) eX11_isOfKind_1 (by decide +kernel) (by decide +kernel) (by decide +kernel) (by decide) ?_
      refine g_aload eX11_isOfKind_37 rfl ?_
      refine g_instN (r := (RX1, TX1, 1)) eX11_isOfKind_38 lX11_231 hq rfl (by decide) ?_
      exact g_ret (eX11_isOfKind_41 _ (Or.inl rfl)) (Nat.le_refl _) (Nat.le_refl _) ⟨rfl, rfl⟩
    · refine g_iload eX11_isOfKind_0 rfl ?_
      refine g_tswIn (off := 36) (tgt := 37) eX11_isOfKind_1 (by decide +kernel) (by decide +kernel) (by decide +kernel) (by decide) ?_
      refine g_aload eX11_isOfKind_37 rfl ?_
      refine g_instN (r := (RX10, TX10, 1)) eX11_isOfKind_38 lX11_231 hq rfl (by decide) ?_
      exact g_ret (eX11_isOfKind_41 _ (Or.inl rfl)) (Nat.le_refl _) (Nat.le_refl _) ⟨rfl, rfl⟩
  · rcases (show kind = 0 ∨ kind = 1 ∨ kind = 2 ∨ kind = 3 ∨ kind = 4 by omega) with rfl | rfl | rfl | rfl | rfl
    · refine g_iload eX11_isOfKind_0 rfl ?_
      refine g_tswIn (off := 41) (tgt := 42) eX11_isOfKind_1 (by decide +kernel) (by decide +kernel) (by decide +kernel) (by decide) ?_
      refine g_aload eX11_isOfKind_42 rfl ?_
      refine g_instN (r := (RX4, TX4, 1)) eX11_isOfKind_43 lX11_234 hq rfl (by decide) ?_
      exact g_ret (eX11_isOfKind_46 _ (Or.inl rfl)) (Nat.le_refl _) (Nat.le_refl _) ⟨rfl, rfl⟩
    · refine g_iload eX11_isOfKind_0 rfl ?_
      refine g_tswIn (off := 41) (tgt := 42) eX11_isOfKind_1 (by decide +kernel) (by decide +kernel) (by decide +kernel) (by decide) ?_
      refine g_aload eX11_isOfKind_42 rfl ?_
      refine g_instN (r := (RX7, TX7, 1)) eX11_isOfKind_43 lX11_234 hq rfl (by decide) ?_
      exact g_ret (eX11_isOfKind_46 _ (Or.inl rfl)) (Nat.le_refl _) (Nat.le_refl _) ⟨rfl, rfl⟩
    · refine g_iload eX11_isOfKind_0 rfl ?_
      refine g_tswIn (off := 41) (tgt := 42) eX11_isOfKind_1 (by decide +kernel) (by decide +kernel) (by decide +kernel) (by decide) ?_
      refine g_aload eX11_isOfKind_42 rfl ?_
      refine g_instN (r := (RX0, TX0, 1)) eX11_isOfKind_43 lX11_234 hq rfl (by decide) ?_
      exact g_ret (eX11_isOfKind_46 _ (Or.inl rfl)) (Nat.le_refl _) (Nat.le_refl _) ⟨rfl, rfl⟩
    · refine g_iload eX11_isOfKind_0 rfl ?_
      refine g_tswIn (off := 41) (tgt := 42) eX11_isOfKind_1 (by decide +kernel) (by decide +kernel) (by decide +kernel) (by decide) ?_
      refine g_aload eX11_isOfKind_42 rfl ?_
      refine g_instS (r := (RX1, TX1, 1)) eX11_isOfKind_43 lX11_234 hq rfl rfl ?_
      exact g_ret (eX11_isOfKind_46 _ (Or.inr rfl)) (Nat.le_refl _) (Nat.le_refl _) ⟨rfl, rfl⟩
    · refine g_iload eX11_isOfKind_0 rfl ?_
      refine g_tswIn (off := 41) (tgt := 42) eX11_isOfKind_1 (by decide +kernel) (by decide +kernel) (by decide +kernel) (by decide) ?_
      refine g_aload eX11_isOfKind_42 rfl ?_
      refine g_instN (r := (RX10, TX10, 1)) eX11_isOfKind_43 lX11_234 hq rfl (by decide) ?_
      exact g_ret (eX11_isOfKind_46 _ (Or.inl rfl)) (Nat.le_refl _) (Nat.le_refl _) ⟨rfl, rfl⟩
  · rcases (show kind = 0 ∨ kind = 1 ∨ kind = 2 ∨ kind = 3 ∨ kind = 4 by omega) with rfl | rfl | rfl | rfl | rfl
    · refine g_iload eX11_isOfKind_0 rfl ?_
      refine g_tswIn (off := 46) (tgt := 47) eX11_isOfKind_1 (by decide +kernel) (by decide +kernel) (by decide +kernel) (by decide) ?_
      refine g_aload eX11_isOfKind_47 rfl ?_
      refine g_instN (r := (RX4, TX4, 1)) eX11_isOfKind_48 lX11_237 hq rfl (by decide) ?_
      exact g_ret (eX11_isOfKind_51 _ (Or.inl rfl)) (Nat.le_refl _) (Nat.le_refl _) ⟨rfl, rfl⟩
    · refine g_iload eX11_isOfKind_0 rfl ?_
      refine g_tswIn (off := 46) (tgt := 47) eX11_isOfKind_1 (by decide +kernel) (by decide +kernel) (by decide +kernel) (by decide) ?_
      refine g_aload eX11_isOfKind_47 rfl ?_
      refine g_instN (r := (RX7, TX7, 1)) eX11_isOfKind_48 lX11_237 hq rfl (by decide) ?_
      exact g_ret (eX11_isOfKind_51 _ (Or.inl rfl)) (Nat.le_refl _) (Nat.le_refl _) ⟨rfl, rfl⟩
    · refine g_iload eX11_isOfKind_0 rfl ?_
      refine g_tswIn (off := 46) (tgt := 47) eX11_isOfKind_1 (by decide +kernel) (by decide +kernel) (by decide +kernel) (by decide) ?_
      refine g_aload eX11_isOfKind_47 rfl ?_
      refine g_instN (r := (RX0, TX0, 1)) eX11_isOfKind_48 lX11_237 hq rfl (by decide) ?_
      exact g_ret (eX11_isOfKind_51 _ (Or.inl rfl)) (Nat.le_refl _) (Nat.le_refl _) ⟨rfl, rfl⟩
    · refine g_iload eX11_isOfKind_0 rfl ?_
      refine g_tswIn (off := 46) (tgt := 47) eX11_isOfKind_1 (by decide +kernel) (by decide +kernel) (by decide +kernel) (by decide) ?_
      refine g_aload eX11_isOfKind_47 rfl ?_
      refine g_instN (r := (RX1, TX1, 1)) eX11_isOfKind_48 lX11_237 hq rfl (by decide) ?_
      exact g_ret (eX11_isOfKind_51 _ (Or.inl rfl)) (Nat.le_refl _) (Nat.le_refl _) ⟨rfl, rfl⟩
    · refine g_iload eX11_isOfKind_0 rfl ?_
      refine g_tswIn (off := 46) (tgt := 47) eX11_isOfKind_1 (by decide +kernel) (by decide +kernel) (by decide +kernel) (by decide) ?_
      refine g_aload eX11_isOfKind_47 rfl ?_
      refine g_instS (r := (RX10, TX10, 1)) eX11_isOfKind_48 lX11_237 hq rfl rfl ?_
      exact g_ret (eX11_isOfKind_51 _ (Or.inr rfl)) (Nat.le_refl _) (Nat.le_refl _) ⟨rfl, rfl⟩
theorem bb_0 {b : Bool} (h : b.toNat = 0) : b = false := by cases b <;> first | rfl | cases h
theorem bb_1 {b : Bool} (h : ¬ b.toNat = 0) : b = true := by cases b <;> first | rfl | exact absurd rfl h
set_option maxRecDepth 20000 in
theorem x_as {σ : aH} {t : St} (hI : IX t σ) (hwf : WF t) {x y : Int32} : MX11_as 2 0 0 [.ref 0, .int x, .int y] σ (aPu (some (.int (oAs t x y))) σ) := by
  refine sX11_as (Nat.le_of_ble_eq_true rfl) ?_
  have hI' := hI
  have hwf' := hwf
  obtain ⟨cd, x0, x1, x2, mr, dws, dsz, bp, bw, bs, e0, e1, e2, e3, e4, e5, e20, e21, e22, e23, e24, ⟨ws, wm, dm, hid, e6, e7, e8, e9, e10, e11, e12, lws, hws, lwm, ldm, bwm, lhid, hhid, hhd⟩, hk, hki, lcd, hcd, bcd, lmr, ldws, lbp, lbw, hmen⟩ := hI
  obtain ⟨w1, w2, w3, w4, w5, ⟨w6, w7, w8, w9, w10, w11, w12⟩, w13, w14, w15, w16, w17⟩ := hwf
  unfold oAs
  cases e : rg x 0 (mnO (crO t)).length with
  | none =>
    dsimp only
    have hr := rg_none e
    have hno : ∀ j, j < (mnO (crO t)).length → x ≠ nI j := fun j hj z => by
      rw [z, nI_toInt (by omega)] at hr
      omega
    refine g_aload eX11_as_0 rfl ?_
    refine g_iload eX11_as_1 rfl ?_
    refine g_callVp (r := (RX11, TX11, 10)) eX11_as_2 kX11_118 e0 (by rfl) (c_manOfN hI' hwf' hno) (by rfl) (by rfl) (by exact Nat.le_of_ble_eq_true rfl) (by exact Nat.le_of_ble_eq_true rfl) (by exact Nat.le_of_ble_eq_true rfl) (Nat.le_refl _) (Nat.le_refl _) ?_
    refine g_astoreN eX11_as_5 rfl ?_
    refine g_aloadN eX11_as_6 rfl ?_
    refine g_ifnonnullN eX11_as_7 ?_
    refine g_push eX11_as_10 ?_
    exact g_ret (eX11_as_12 _) (Nat.le_refl _) (Nat.le_refl _) ⟨rfl, rfl⟩
  | some a =>
    dsimp only
    obtain ⟨rfl, -, ha⟩ := rg_some e (by omega)
    obtain ⟨q, g1, g2, g3⟩ := hmen a ha
    have hkd := (w10 a).1
    cases f : rg y 0 5 with
    | none =>
      dsimp only
      have hr := rg_none f
      refine g_aload eX11_as_0 rfl ?_
      refine g_iload eX11_as_1 rfl ?_
      refine g_callVp (r := (RX11, TX11, 10)) eX11_as_2 kX11_118 e0 (by rfl) (c_manOf hI' hwf' ha e5 lmr g1) (by rfl) (by rfl) (by exact Nat.le_of_ble_eq_true rfl) (by exact Nat.le_of_ble_eq_true rfl) (by exact Nat.le_of_ble_eq_true rfl) (Nat.le_refl _) (Nat.le_refl _) ?_
      refine g_astore eX11_as_5 rfl ?_
      refine g_aload eX11_as_6 rfl ?_
      refine g_ifnonnull eX11_as_7 ?_
      refine g_iload eX11_as_13 rfl ?_
      refine g_callSp eX11_as_14 kX11_106 (c_isKindN hr) (by rfl) (by rfl) (by exact Nat.le_of_ble_eq_true rfl) (by exact Nat.le_of_ble_eq_true rfl) (by exact Nat.le_of_ble_eq_true rfl) (Nat.le_refl _) (Nat.le_refl _) ?_
      refine g_if_neN eX11_as_17 (by omega) (fun c17 => absurd rfl c17) (fun c17 => ?_)
      refine g_push eX11_as_20 ?_
      exact g_ret (eX11_as_22 _) (Nat.le_refl _) (Nat.le_refl _) ⟨rfl, rfl⟩
    | some w =>
      dsimp only
      obtain ⟨rfl, -, hw8⟩ := rg_some f
      refine g_aload eX11_as_0 rfl ?_
      refine g_iload eX11_as_1 rfl ?_
      refine g_callVp (r := (RX11, TX11, 10)) eX11_as_2 kX11_118 e0 (by rfl) (c_manOf hI' hwf' ha e5 lmr g1) (by rfl) (by rfl) (by exact Nat.le_of_ble_eq_true rfl) (by exact Nat.le_of_ble_eq_true rfl) (by exact Nat.le_of_ble_eq_true rfl) (Nat.le_refl _) (Nat.le_refl _) ?_
      refine g_astore eX11_as_5 rfl ?_
      refine g_aload eX11_as_6 rfl ?_
      refine g_ifnonnull eX11_as_7 ?_
      refine g_iload eX11_as_13 rfl ?_
      refine g_callSp eX11_as_14 kX11_106 (c_isKindT hw8) (by rfl) (by rfl) (by exact Nat.le_of_ble_eq_true rfl) (by exact Nat.le_of_ble_eq_true rfl) (by exact Nat.le_of_ble_eq_true rfl) (Nat.le_refl _) (Nat.le_refl _) ?_
      refine g_if_neN eX11_as_17 (by omega) (fun c17 => ?_) (fun c17 => absurd c17 (by decide))
      refine g_aload eX11_as_23 rfl ?_
      refine g_iload eX11_as_24 rfl ?_
      refine g_callSp eX11_as_25 kX11_152 (c_isOfKind hkd g3 hw8) (by rfl) (by rfl) (by exact Nat.le_of_ble_eq_true rfl) (by exact Nat.le_of_ble_eq_true rfl) (by exact Nat.le_of_ble_eq_true rfl) (Nat.le_refl _) (Nat.le_refl _) ?_
      refine g_if_eqN eX11_as_28 (bt_lt _) (fun c28 => ?_) (fun c28 => ?_)
      · have hno := bb_0 c28
        refine g_push eX11_as_35 ?_
        exact g_ret (eX11_as_36 _) (Nat.le_refl _) (Nat.le_refl _) ⟨by first | rw [if_pos hyes] | (rw [if_neg (by rw [hno]; decide)]), rfl⟩
      · have hyes := bb_1 c28
        refine g_iload eX11_as_31 rfl ?_
        refine g_goto eX11_as_32 ?_
        exact g_ret (eX11_as_36 _) (Nat.le_refl _) (Nat.le_refl _) ⟨by first | rw [if_pos hyes] | (rw [if_neg (by rw [hno]; decide)]), rfl⟩
end
section
/-! the class's calls: lesson, unlearn, hide, hear, forget, image, restore, count -/
theorem or_bit_t {h w : Nat} (e : h.testBit w = true) : h ||| 2 ^ w = h := by
  apply Nat.eq_of_testBit_eq
  intro i
  rw [Nat.testBit_or, Nat.testBit_two_pow]
  by_cases hi : w = i
  · subst hi; simp [e]
  · simp [hi]
theorem or_bit_f {h w : Nat} (e : ¬ h.testBit w = true) : ¬ h ||| 2 ^ w = h := fun z => e (by
  rw [← z, Nat.testBit_or, Nat.testBit_two_pow]
  simp)
theorem manO_setH (c : Cr) (a h i : Nat) : (manO (setH c a h) i).1 = (manO c i).1 ∧ (manO (setH c a h) i).2.1 = (manO c i).2.1 ∧ (i ≠ a → (manO (setH c a h) i).2.2 = (manO c i).2.2) ∧ (i = a → a < (mnO c).length → (manO (setH c a h) i).2.2 = h) := by
  unfold manO setH
  dsimp only [mnO]
  rw [getD_set]
  by_cases hi : a = i ∧ a < c.2.2.1.length
  · rw [if_pos hi]
    obtain ⟨rfl, h2⟩ := hi
    exact ⟨rfl, rfl, fun z => absurd rfl z, fun _ _ => rfl⟩
  · rw [if_neg hi]
    exact ⟨rfl, rfl, fun _ => rfl, fun e1 e2 => absurd ⟨e1.symm, e2⟩ hi⟩
theorem setH_len (c : Cr) (a h : Nat) : (mnO (setH c a h)).length = (mnO c).length := by
  unfold setH
  dsimp only [mnO]
  rw [List.length_set]
theorem WF.hC {t : St} (h : WF t) : 0 < (shO (crO t)).length ∨ (mnO (crO t)).length = 0 := by
  by_cases h0 : ctO t = 0
  · right
    have h1 := (h.2.2.2.2.2.2.2.2.2.2 h0).1
    rw [h1]
    rfl
  · left
    have h1 := h.2.2.2.2.2.2.2.1
    omega
theorem WF.hS {t : St} (h : WF t) : 0 < ctO t ↔ 0 < (shO (crO t)).length := by
  have h1 := h.2.2.2.2.2.2.2.1
  omega
set_option maxRecDepth 20000 in
theorem x_lesson {σ : aH} {t : St} (hI : IX t σ) (hwf : WF t) {x y : Int32} : MX11_lesson 1 0 0 [.ref 0, .int x, .int y] σ (fun v σ' => v = some (.int (oLesson t x y).1) ∧ IX (oLesson t x y).2 σ' ∧ FrX σ σ') := by
  refine sX11_lesson (Nat.le_of_ble_eq_true rfl) ?_
  have hI' := hI
  have hwf' := hwf
  obtain ⟨cd, x0, x1, x2, mr, dws, dsz, bp, bw, bs, e0, e1, e2, e3, e4, e5, e20, e21, e22, e23, e24, ⟨ws, wm, dm, hid, e6, e7, e8, e9, e10, e11, e12, lws, hws, lwm, ldm, bwm, lhid, hhid, hhd⟩, hk, hki, lcd, hcd, bcd, lmr, ldws, lbp, lbw, hmen⟩ := hI
  obtain ⟨w1, w2, w3, w4, w5, ⟨w6, w7, w8, w9, w10, w11, w12⟩, w13, w14, w15, w16, w17⟩ := hwf
  unfold oLesson
  cases e : rg x 0 (mnO (crO t)).length with
  | none =>
    dsimp only
    have hr := rg_none e
    refine g_aload eX11_lesson_0 rfl ?_
    refine g_iload eX11_lesson_1 rfl ?_
    refine g_callVp (r := (RX11, TX11, 10)) eX11_lesson_2 kX11_156 e0 (by rfl) (c_isAccusedN hI' hwf' hr) (by rfl) (by rfl) (by exact Nat.le_of_ble_eq_true rfl) (by exact Nat.le_of_ble_eq_true rfl) (by exact Nat.le_of_ble_eq_true rfl) (Nat.le_refl _) (Nat.le_refl _) ?_
    refine g_if_neN eX11_lesson_5 (by omega) (fun c5 => absurd rfl c5) (fun c5 => ?_)
    refine g_push eX11_lesson_8 ?_
    exact g_ret (eX11_lesson_10 _) (Nat.le_refl _) (Nat.le_refl _) ⟨rfl, hI', FrX.rf⟩
  | some a =>
    dsimp only
    obtain ⟨rfl, -, ha⟩ := rg_some e (by omega)
    cases f : rg y 0 8 with
    | none =>
      dsimp only
      have hr := rg_none f
      refine g_aload eX11_lesson_0 rfl ?_
      refine g_iload eX11_lesson_1 rfl ?_
      refine g_callVp (r := (RX11, TX11, 10)) eX11_lesson_2 kX11_156 e0 (by rfl) (c_isAccusedT hI' hwf' ha) (by rfl) (by rfl) (by exact Nat.le_of_ble_eq_true rfl) (by exact Nat.le_of_ble_eq_true rfl) (by exact Nat.le_of_ble_eq_true rfl) (Nat.le_refl _) (Nat.le_refl _) ?_
      refine g_if_neN eX11_lesson_5 (by omega) (fun c5 => ?_) (fun c5 => absurd c5 (by decide))
      refine g_iload eX11_lesson_11 rfl ?_
      refine g_callSp eX11_lesson_12 kX11_93 (c_isWordN hr) (by rfl) (by rfl) (by exact Nat.le_of_ble_eq_true rfl) (by exact Nat.le_of_ble_eq_true rfl) (by exact Nat.le_of_ble_eq_true rfl) (Nat.le_refl _) (Nat.le_refl _) ?_
      refine g_if_neN eX11_lesson_15 (by omega) (fun c15 => absurd rfl c15) (fun c15 => ?_)
      refine g_push eX11_lesson_18 ?_
      exact g_ret (eX11_lesson_20 _) (Nat.le_refl _) (Nat.le_refl _) ⟨rfl, hI', FrX.rf⟩
    | some w =>
      dsimp only
      obtain ⟨rfl, -, hw8⟩ := rg_some f
      have hh2 := hhid a ha
      have hhb := (w10 a).2.2
      have hor : (manO (crO t) a).2.2 ||| 2 ^ w < 256 := Nat.or_lt_two_pow (n := 8) hhb (Nat.pow_lt_pow_right (by omega) hw8)
      refine g_aload eX11_lesson_0 rfl ?_
      refine g_iload eX11_lesson_1 rfl ?_
      refine g_callVp (r := (RX11, TX11, 10)) eX11_lesson_2 kX11_156 e0 (by rfl) (c_isAccusedT hI' hwf' ha) (by rfl) (by rfl) (by exact Nat.le_of_ble_eq_true rfl) (by exact Nat.le_of_ble_eq_true rfl) (by exact Nat.le_of_ble_eq_true rfl) (Nat.le_refl _) (Nat.le_refl _) ?_
      refine g_if_neN eX11_lesson_5 (by omega) (fun c5 => ?_) (fun c5 => absurd c5 (by decide))
      refine g_iload eX11_lesson_11 rfl ?_
      refine g_callSp eX11_lesson_12 kX11_93 (c_isWordT hw8) (by rfl) (by rfl) (by exact Nat.le_of_ble_eq_true rfl) (by exact Nat.le_of_ble_eq_true rfl) (by exact Nat.le_of_ble_eq_true rfl) (Nat.le_refl _) (Nat.le_refl _) ?_
      refine g_if_neN eX11_lesson_15 (by omega) (fun c15 => ?_) (fun c15 => absurd c15 (by decide))
      refine g_aload eX11_lesson_21 rfl ?_
      refine g_get eX11_lesson_22 fX11_29_X11 e0 (by rfl) ?_
      refine g_get eX11_lesson_25 fX11_115_X8 e6 (by rfl) ?_
      refine g_iload eX11_lesson_28 rfl ?_
      refine g_ialdN eX11_lesson_29 e12 (by omega) (by omega) ?_
      rw [hh2]
      refine g_push eX11_lesson_30 ?_
      refine g_iload eX11_lesson_31 rfl ?_
      refine g_ishlN eX11_lesson_32 (by omega) (one_shl _ (by omega)) ?_
      rw [Nat.one_mul]
      refine g_iorN eX11_lesson_33 ?_
      refine g_istore eX11_lesson_34 rfl ?_
      refine g_iload eX11_lesson_35 rfl ?_
      refine g_aload eX11_lesson_36 rfl ?_
      refine g_get eX11_lesson_37 fX11_29_X11 e0 (by rfl) ?_
      refine g_get eX11_lesson_40 fX11_115_X8 e6 (by rfl) ?_
      refine g_iload eX11_lesson_43 rfl ?_
      refine g_ialdN eX11_lesson_44 e12 (by omega) (by omega) ?_
      rw [hh2]
      refine g_icmp_neN eX11_lesson_45 (by omega) (by omega) (fun c45 => ?_) (fun c45 => ?_)
      · have hno : ¬ (manO (crO t) a).2.2.testBit w = true := fun z => c45 (or_bit_t z)
        refine g_aload eX11_lesson_51 rfl ?_
        refine g_get eX11_lesson_52 fX11_29_X11 e0 (by rfl) ?_
        refine g_get eX11_lesson_55 fX11_115_X8 e6 (by rfl) ?_
        refine g_iload eX11_lesson_58 rfl ?_
        refine g_iload eX11_lesson_59 rfl ?_
        refine g_iastN eX11_lesson_60 e12 (by omega) (by omega) ?_
        refine g_aload eX11_lesson_61 rfl ?_
        refine g_get eX11_lesson_62 fX11_29_X11 (at_ne (by decide) e0) (by rfl) ?_
        refine g_dup eX11_lesson_65 rfl ?_
        refine g_get eX11_lesson_66 fX11_100_X8 (at_ne (by decide) e6) (by rfl) ?_
        refine g_push eX11_lesson_69 ?_
        refine g_iaddN eX11_lesson_70 ?_
        refine g_putI eX11_lesson_71 fX11_100_X8 pX8_5 (at_ne (by decide) e6) (by exact Nat.le_of_ble_eq_true rfl) ?_
        refine g_iload eX11_lesson_74 rfl ?_
        refine g_callSp eX11_lesson_75 kX11_132 (c_bitCount (m := (manO (crO t) a).2.2 ||| 2 ^ w) (by omega)) (by rfl) (by rfl) (by exact Nat.le_of_ble_eq_true rfl) (by exact Nat.le_of_ble_eq_true rfl) (by exact Nat.le_of_ble_eq_true rfl) (Nat.le_refl _) (Nat.le_refl _) ?_
        exact g_ret (eX11_lesson_78 _) (Nat.le_refl _) (Nat.le_refl _) (by
              rw [if_neg hno]
              exact ⟨rfl, hI'.core ((EqO.rf.st (by decide)).st (by decide)) ⟨ws, wm, dm, hid.set a ((manO (crO t) a).2.2 ||| 2 ^ w), by rw [setH_len]; exact at_eq (at_ne (by decide) e6), (at_ne (by decide) (at_ne (by decide) e7)), (at_ne (by decide) (at_ne (by decide) e8)), (at_ne (by decide) (at_ne (by decide) e9)), (at_ne (by decide) (at_ne (by decide) e10)), (at_ne (by decide) (at_ne (by decide) e11)), at_ne (by decide) (at_eq e12), lws, hws, lwm, ldm, bwm, by rw [List.length_set]; exact lhid, fun i hi => by
              rw [setH_len] at hi
              obtain ⟨-, -, k1, k2⟩ := manO_setH (crO t) a ((manO (crO t) a).2.2 ||| 2 ^ w) i
              rw [getD_set]
              by_cases hia : a = i
              · rw [if_pos ⟨hia, by omega⟩, k2 hia.symm ha]
              · rw [if_neg (fun z => hia z.1), k1 (fun z => hia z.symm)]
                exact hhid i hi, fun i hi => by
              rw [(manO_setH (crO t) a ((manO (crO t) a).2.2 ||| 2 ^ w) _).1]
              exact hhd i hi⟩ (fun i hi => by
              rw [setH_len] at hi
              exact ⟨hi, (manO_setH (crO t) a ((manO (crO t) a).2.2 ||| 2 ^ w) i).1, (manO_setH (crO t) a ((manO (crO t) a).2.2 ||| 2 ^ w) i).2.1⟩), (FrX.rf.st (by decide)).st (by decide)⟩)
      · have hyes : (manO (crO t) a).2.2.testBit w = true := Classical.byContradiction fun z => or_bit_f z c45
        refine g_push eX11_lesson_48 ?_
        exact g_ret (eX11_lesson_50 _) (Nat.le_refl _) (Nat.le_refl _) (by rw [if_pos hyes]; exact ⟨rfl, hI', FrX.rf⟩)
set_option maxRecDepth 20000 in
theorem x_unlearn {σ : aH} {t : St} (hI : IX t σ) (hwf : WF t) {x : Int32} : MX11_unlearn 1 0 0 [.ref 0, .int x] σ (fun v σ' => v = some (.int (oUnlearn t x).1) ∧ IX (oUnlearn t x).2 σ' ∧ FrX σ σ') := by
  refine sX11_unlearn (Nat.le_of_ble_eq_true rfl) ?_
  have hI' := hI
  have hwf' := hwf
  obtain ⟨cd, x0, x1, x2, mr, dws, dsz, bp, bw, bs, e0, e1, e2, e3, e4, e5, e20, e21, e22, e23, e24, ⟨ws, wm, dm, hid, e6, e7, e8, e9, e10, e11, e12, lws, hws, lwm, ldm, bwm, lhid, hhid, hhd⟩, hk, hki, lcd, hcd, bcd, lmr, ldws, lbp, lbw, hmen⟩ := hI
  obtain ⟨w1, w2, w3, w4, w5, ⟨w6, w7, w8, w9, w10, w11, w12⟩, w13, w14, w15, w16, w17⟩ := hwf
  unfold oUnlearn
  cases e : rg x 0 (mnO (crO t)).length with
  | none =>
    dsimp only
    have hr := rg_none e
    refine g_aload eX11_unlearn_0 rfl ?_
    refine g_iload eX11_unlearn_1 rfl ?_
    refine g_callVp (r := (RX11, TX11, 10)) eX11_unlearn_2 kX11_156 e0 (by rfl) (c_isAccusedN hI' hwf' hr) (by rfl) (by rfl) (by exact Nat.le_of_ble_eq_true rfl) (by exact Nat.le_of_ble_eq_true rfl) (by exact Nat.le_of_ble_eq_true rfl) (Nat.le_refl _) (Nat.le_refl _) ?_
    refine g_if_neN eX11_unlearn_5 (by omega) (fun c5 => absurd rfl c5) (fun c5 => ?_)
    refine g_push eX11_unlearn_8 ?_
    exact g_ret (eX11_unlearn_10 _) (Nat.le_refl _) (Nat.le_refl _) ⟨rfl, hI', FrX.rf⟩
  | some a =>
    dsimp only
    obtain ⟨rfl, -, ha⟩ := rg_some e (by omega)
    have hh2 := hhid a ha
    have hhb := (w10 a).2.2
    refine g_aload eX11_unlearn_0 rfl ?_
    refine g_iload eX11_unlearn_1 rfl ?_
    refine g_callVp (r := (RX11, TX11, 10)) eX11_unlearn_2 kX11_156 e0 (by rfl) (c_isAccusedT hI' hwf' ha) (by rfl) (by rfl) (by exact Nat.le_of_ble_eq_true rfl) (by exact Nat.le_of_ble_eq_true rfl) (by exact Nat.le_of_ble_eq_true rfl) (Nat.le_refl _) (Nat.le_refl _) ?_
    refine g_if_neN eX11_unlearn_5 (by omega) (fun c5 => ?_) (fun c5 => absurd c5 (by decide))
    refine g_aload eX11_unlearn_11 rfl ?_
    refine g_get eX11_unlearn_12 fX11_29_X11 e0 (by rfl) ?_
    refine g_get eX11_unlearn_15 fX11_115_X8 e6 (by rfl) ?_
    refine g_iload eX11_unlearn_18 rfl ?_
    refine g_ialdN eX11_unlearn_19 e12 (by omega) (by omega) ?_
    rw [hh2]
    refine g_callSp eX11_unlearn_20 kX11_132 (c_bitCount (m := (manO (crO t) a).2.2) (by omega)) (by rfl) (by rfl) (by exact Nat.le_of_ble_eq_true rfl) (by exact Nat.le_of_ble_eq_true rfl) (by exact Nat.le_of_ble_eq_true rfl) (Nat.le_refl _) (Nat.le_refl _) ?_
    refine g_istore eX11_unlearn_23 rfl ?_
    refine g_aload eX11_unlearn_24 rfl ?_
    refine g_get eX11_unlearn_25 fX11_29_X11 e0 (by rfl) ?_
    refine g_get eX11_unlearn_28 fX11_115_X8 e6 (by rfl) ?_
    refine g_iload eX11_unlearn_31 rfl ?_
    refine g_push eX11_unlearn_32 ?_
    refine g_iastN eX11_unlearn_33 e12 (by omega) (by omega) ?_
    refine g_aload eX11_unlearn_34 rfl ?_
    refine g_get eX11_unlearn_35 fX11_29_X11 (at_ne (by decide) e0) (by rfl) ?_
    refine g_dup eX11_unlearn_38 rfl ?_
    refine g_get eX11_unlearn_39 fX11_100_X8 (at_ne (by decide) e6) (by rfl) ?_
    refine g_push eX11_unlearn_42 ?_
    refine g_iaddN eX11_unlearn_43 ?_
    refine g_putI eX11_unlearn_44 fX11_100_X8 pX8_5 (at_ne (by decide) e6) (by exact Nat.le_of_ble_eq_true rfl) ?_
    refine g_iload eX11_unlearn_47 rfl ?_
    exact g_ret (eX11_unlearn_48 _) (Nat.le_refl _) (Nat.le_refl _) ⟨rfl, hI'.core ((EqO.rf.st (by decide)).st (by decide)) ⟨ws, wm, dm, hid.set a (0), by rw [setH_len]; exact at_eq (at_ne (by decide) e6), (at_ne (by decide) (at_ne (by decide) e7)), (at_ne (by decide) (at_ne (by decide) e8)), (at_ne (by decide) (at_ne (by decide) e9)), (at_ne (by decide) (at_ne (by decide) e10)), (at_ne (by decide) (at_ne (by decide) e11)), at_ne (by decide) (at_eq e12), lws, hws, lwm, ldm, bwm, by rw [List.length_set]; exact lhid, fun i hi => by
          rw [setH_len] at hi
          obtain ⟨-, -, k1, k2⟩ := manO_setH (crO t) a (0) i
          rw [getD_set]
          by_cases hia : a = i
          · rw [if_pos ⟨hia, by omega⟩, k2 hia.symm ha]
          · rw [if_neg (fun z => hia z.1), k1 (fun z => hia z.symm)]
            exact hhid i hi, fun i hi => by
          rw [(manO_setH (crO t) a (0) _).1]
          exact hhd i hi⟩ (fun i hi => by
          rw [setH_len] at hi
          exact ⟨hi, (manO_setH (crO t) a (0) i).1, (manO_setH (crO t) a (0) i).2.1⟩), (FrX.rf.st (by decide)).st (by decide)⟩
theorem wth_lt {s : Nat → Nat} {n m : Nat} : ∀ d h, h < 256 → wth s n m d h < 256
  | 0, h, hh => hh
  | d + 1, h, hh => by
    cases e : hvyW s n (m &&& (plM s n h ^^^ 4294967295)) with
    | none => rw [wth_none e]; exact hh
    | some w =>
      rw [wth_some e]
      exact wth_lt d _ (Nat.or_lt_two_pow (n := 8) hh (Nat.pow_lt_pow_right (by omega) (hvyW_lt e)))
theorem basM_lt (t : St) (a : Nat) (h : (shO (crO t)).length ≤ 10) : basM t a < 1024 := Nat.lt_of_lt_of_le (msk_lt _ _) (show 2 ^ _ ≤ 2 ^ 10 from Nat.pow_le_pow_right (by omega) h)
theorem fit_t {t : St} {a p : Nat} : msk (dalB t a p) 5 = msk (fitB (shW (nrO t)) (manO (crO t) a).1 (a, p, true, (manO (crO t) a).2.2, shO (crO t))) 5 := msk_congr (fun d _ => by
  unfold dalB fitB
  simp)
theorem fit_f {t : St} {a p : Nat} : 31 &&& (msk (dalB t a p) 5 ^^^ 4294967295) = msk (fitB (shW (nrO t)) (manO (crO t) a).1 (a, p, false, (manO (crO t) a).2.2, shO (crO t))) 5 := by
  refine msk_ext (Nat.lt_of_le_of_lt Nat.and_le_left (by decide)) (fun i hi => ?_)
  rw [Nat.testBit_and, Nat.testBit_xor, tb_ones i (by omega), msk_tb, co_dec (N := 5) (P := fun i => (31 : Nat).testBit i = true) (by decide +kernel) hi]
  unfold dalB fitB
  simp [hi]
theorem IX.img {t : St} {σ τ : aH} (hI : IX t σ) (h : EqO [0, 13, 14, 15, 16, 17, 18, 19] σ τ) (g0 : τ[0]? = some (aO 11 [.ref 1, .ref 4, .ref 5, .ref 6, .ref 13, .ref 20, .ref 22, .int (nI 1), .int (nI (ctO t)), .int (nI (brO t))])) (g : IS 13 (shW (nrO t)) (crO t) τ) : IX (pgO t, nrO t, crO t, some (crO t), ctO t, brO t) τ := by
  obtain ⟨cd, y0, y1, y2, mr, dws, dsz, bp, bw, bs, e0, e1, e2, e3, e4, e5, e20, e21, e22, e23, e24, hn, hk, hki, lcd, hcd, bcd, lmr, ldws, lbp, lbw, hmen⟩ := hI
  refine ⟨cd, y0, y1, y2, mr, dws, dsz, bp, bw, bs, g0, h.at (by decide) e1, h.at (by decide) e2, h.at (by decide) e3, h.at (by decide) e4, h.at (by decide) e5, h.at (by decide) e20, h.at (by decide) e21, h.at (by decide) e22, h.at (by decide) e23, h.at (by decide) e24, hn.at (fun j a b => h.2 j ?_), g.sh, fun c hc => by cases hc; exact g, lcd, hcd, bcd, lmr, ldws, lbp, lbw, fun i hi => ?_⟩
  · simp only [List.mem_cons, List.not_mem_nil, or_false]; omega
  · obtain ⟨q, a1, a2, a3⟩ := hmen i hi
    exact ⟨q, a1, a2, h.at (nm7 (by decide) a2) a3⟩
theorem EqO.mono {l l' : List Nat} {σ τ : aH} (h : EqO l σ τ) (hl : ∀ i ∈ l, i ∈ l') : EqO l' σ τ := ⟨h.1, fun j hj => h.2 j (fun z => hj (hl j z))⟩
theorem orW_congr {s u : Nat → Nat} : ∀ {n}, (∀ j, j < n → s j = u j) → orW s n = orW u n
  | 0, _ => rfl
  | n + 1, h => by
    unfold orW
    rw [orW_congr (fun j hj => h j (by omega)), h n (by omega)]
set_option maxRecDepth 20000 in
theorem x_count {σ : aH} {t : St} (hI : IX t σ) (hwf : WF t) {x : Int32} : MX11_count 5 0 0 [.ref 0, .int x] σ (aPu (some (.int (oCount t x))) σ) := by
  refine sX11_count (Nat.le_of_ble_eq_true rfl) ?_
  have hI' := hI
  have hwf' := hwf
  obtain ⟨cd, x0, x1, x2, mr, dws, dsz, bp, bw, bs, e0, e1, e2, e3, e4, e5, e20, e21, e22, e23, e24, ⟨ws, wm, dm, hid, e6, e7, e8, e9, e10, e11, e12, lws, hws, lwm, ldm, bwm, lhid, hhid, hhd⟩, hk, hki, lcd, hcd, bcd, lmr, ldws, lbp, lbw, hmen⟩ := hI
  obtain ⟨w1, w2, w3, w4, w5, ⟨w6, w7, w8, w9, w10, w11, w12⟩, w13, w14, w15, w16, w17⟩ := hwf
  have hC := hwf'.hC
  unfold oCount
  cases e : rg x 0 10 with
  | none =>
    dsimp only
    have hr := rg_none e
    refine g_iload eX11_count_0 rfl ?_
    refine g_tswOut (tgt := 143) eX11_count_1 (by omega) (by decide) ?_
    refine g_push eX11_count_143 ?_
    exact g_ret (eX11_count_145 _) (Nat.le_refl _) (Nat.le_refl _) ⟨rfl, rfl⟩
  | some w =>
    dsimp only
    obtain ⟨rfl, -, hw8⟩ := rg_some e
    rcases (show w = 0 ∨ w = 1 ∨ w = 2 ∨ w = 3 ∨ w = 4 ∨ w = 5 ∨ w = 6 ∨ w = 7 ∨ w = 8 ∨ w = 9 by omega) with rfl | rfl | rfl | rfl | rfl | rfl | rfl | rfl | rfl | rfl
    · refine g_iload eX11_count_0 rfl ?_
      refine g_tswIn (off := 55) (tgt := 56) eX11_count_1 (by decide +kernel) (by decide +kernel) (by decide +kernel) (by decide) ?_
      refine g_aload eX11_count_56 rfl ?_
      refine g_get eX11_count_57 fX11_29_X11 e0 (by rfl) ?_
      refine g_get eX11_count_60 fX11_79_X8 e6 (by rfl) ?_
      refine g_callVp (r := (RX6, TX6, 2)) eX11_count_63 kX11_82 e7 (by rfl) (c_size e7) (by rfl) (by rfl) (by exact Nat.le_of_ble_eq_true rfl) (by exact Nat.le_of_ble_eq_true rfl) (by exact Nat.le_of_ble_eq_true rfl) (Nat.le_refl _) (Nat.le_refl _) ?_
      exact g_ret (eX11_count_66 _) (Nat.le_refl _) (Nat.le_refl _) ⟨rfl, rfl⟩
    · refine g_iload eX11_count_0 rfl ?_
      refine g_tswIn (off := 66) (tgt := 67) eX11_count_1 (by decide +kernel) (by decide +kernel) (by decide +kernel) (by decide) ?_
      refine g_aload eX11_count_67 rfl ?_
      refine g_get eX11_count_68 fX11_29_X11 e0 (by rfl) ?_
      refine g_get eX11_count_71 fX11_103_X8 e6 (by rfl) ?_
      exact g_ret (eX11_count_74 _) (Nat.le_refl _) (Nat.le_refl _) ⟨rfl, rfl⟩
    · refine g_iload eX11_count_0 rfl ?_
      refine g_tswIn (off := 74) (tgt := 75) eX11_count_1 (by decide +kernel) (by decide +kernel) (by decide +kernel) (by decide) ?_
      refine g_aload eX11_count_75 rfl ?_
      refine g_get eX11_count_76 fX11_29_X11 e0 (by rfl) ?_
      refine g_get eX11_count_79 fX11_109_X8 e6 (by rfl) ?_
      exact g_ret (eX11_count_82 _) (Nat.le_refl _) (Nat.le_refl _) ⟨rfl, rfl⟩
    · refine g_iload eX11_count_0 rfl ?_
      refine g_tswIn (off := 82) (tgt := 83) eX11_count_1 (by decide +kernel) (by decide +kernel) (by decide +kernel) (by decide) ?_
      refine g_aload eX11_count_83 rfl ?_
      refine g_aload eX11_count_84 rfl ?_
      refine g_get eX11_count_85 fX11_29_X11 e0 (by rfl) ?_
      refine g_get eX11_count_88 fX11_79_X8 e6 (by rfl) ?_
      refine g_callVp (r := (RX11, TX11, 10)) eX11_count_91 kX11_193 e0 (by rfl) (c_hangingAt hI' hwf' e7 e8 lws w6 hC (shw_eq hws w7)) (by rfl) (by rfl) (by exact Nat.le_of_ble_eq_true rfl) (by exact Nat.le_of_ble_eq_true rfl) (by exact Nat.le_of_ble_eq_true rfl) (Nat.le_refl _) (Nat.le_refl _) ?_
      exact g_ret (eX11_count_94 _) (Nat.le_refl _) (Nat.le_refl _) ⟨congrArg (fun x => some (Value.int (nI x))) (hangN_congr hws), rfl⟩
    · refine g_iload eX11_count_0 rfl ?_
      refine g_tswIn (off := 94) (tgt := 95) eX11_count_1 (by decide +kernel) (by decide +kernel) (by decide +kernel) (by decide) ?_
      refine g_aload eX11_count_95 rfl ?_
      refine g_get eX11_count_96 fX11_29_X11 e0 (by rfl) ?_
      refine g_get eX11_count_99 fX11_79_X8 e6 (by rfl) ?_
      refine g_callVp (r := (RX6, TX6, 2)) eX11_count_102 kX11_204 e7 (by rfl) (c_unlikeWords e7 e8 lws w6 (shw_eq hws w7)) (by rfl) (by rfl) (by exact Nat.le_of_ble_eq_true rfl) (by exact Nat.le_of_ble_eq_true rfl) (by exact Nat.le_of_ble_eq_true rfl) (Nat.le_refl _) (Nat.le_refl _) ?_
      exact g_ret (eX11_count_105 _) (Nat.le_refl _) (Nat.le_refl _) ⟨congrArg (fun x => some (Value.int (nI (popc x)))) (orW_congr hws), rfl⟩
    · refine g_iload eX11_count_0 rfl ?_
      refine g_tswIn (off := 105) (tgt := 106) eX11_count_1 (by decide +kernel) (by decide +kernel) (by decide +kernel) (by decide) ?_
      refine g_aload eX11_count_106 rfl ?_
      refine g_get eX11_count_107 fX11_29_X11 e0 (by rfl) ?_
      refine g_get eX11_count_110 fX11_100_X8 e6 (by rfl) ?_
      exact g_ret (eX11_count_113 _) (Nat.le_refl _) (Nat.le_refl _) ⟨rfl, rfl⟩
    · refine g_iload eX11_count_0 rfl ?_
      refine g_tswIn (off := 113) (tgt := 114) eX11_count_1 (by decide +kernel) (by decide +kernel) (by decide +kernel) (by decide) ?_
      refine g_aload eX11_count_114 rfl ?_
      refine g_get eX11_count_115 fX11_29_X11 e0 (by rfl) ?_
      refine g_get eX11_count_118 fX11_140_X8 e6 (by rfl) ?_
      refine g_callVp (r := (RX3, TX3, 3)) eX11_count_121 kX11_188 e9 (by rfl) (c_hsize e9) (by rfl) (by rfl) (by exact Nat.le_of_ble_eq_true rfl) (by exact Nat.le_of_ble_eq_true rfl) (by exact Nat.le_of_ble_eq_true rfl) (Nat.le_refl _) (Nat.le_refl _) ?_
      exact g_ret (eX11_count_124 _) (Nat.le_refl _) (Nat.le_refl _) ⟨rfl, rfl⟩
    · refine g_iload eX11_count_0 rfl ?_
      refine g_tswIn (off := 124) (tgt := 125) eX11_count_1 (by decide +kernel) (by decide +kernel) (by decide +kernel) (by decide) ?_
      refine g_aload eX11_count_125 rfl ?_
      refine g_get eX11_count_126 fX11_10_X11 e0 (by rfl) ?_
      refine g_callVp (r := (RX5, TX5, 3)) eX11_count_129 kX11_54 e1 (by rfl) (c_psize e1) (by rfl) (by rfl) (by exact Nat.le_of_ble_eq_true rfl) (by exact Nat.le_of_ble_eq_true rfl) (by exact Nat.le_of_ble_eq_true rfl) (Nat.le_refl _) (Nat.le_refl _) ?_
      exact g_ret (eX11_count_132 _) (Nat.le_refl _) (Nat.le_refl _) ⟨rfl, rfl⟩
    · refine g_iload eX11_count_0 rfl ?_
      refine g_tswIn (off := 132) (tgt := 133) eX11_count_1 (by decide +kernel) (by decide +kernel) (by decide +kernel) (by decide) ?_
      refine g_aload eX11_count_133 rfl ?_
      refine g_get eX11_count_134 fX11_75_X11 e0 (by rfl) ?_
      exact g_ret (eX11_count_137 _) (Nat.le_refl _) (Nat.le_refl _) ⟨rfl, rfl⟩
    · refine g_iload eX11_count_0 rfl ?_
      refine g_tswIn (off := 137) (tgt := 138) eX11_count_1 (by decide +kernel) (by decide +kernel) (by decide +kernel) (by decide) ?_
      refine g_aload eX11_count_138 rfl ?_
      refine g_get eX11_count_139 fX11_159_X11 e0 (by rfl) ?_
      exact g_ret (eX11_count_142 _) (Nat.le_refl _) (Nat.le_refl _) ⟨rfl, rfl⟩
end
section
/-! the class's calls: trials, brief, digest -/
theorem drw_lt (x k : Nat) : drw x k < 8 := Nat.mod_lt _ (by decide)
theorem trl_sd (t : St) (x : Nat) (h : x < 2147483648) : ∀ n, (trl t x n).2.2 < 2147483648
  | 0 => h
  | n + 1 => sdN_lt (trl_sd t x h n) _
set_option maxRecDepth 20000 in
theorem x_trials {σ : aH} {t : St} (hI : IX t σ) (hwf : WF t) {x y z : Int32} : MX11_trials 5 0 0 [.ref 0, .int x, .int y, .int z] σ (fun v σ' => v = some (.int (oTrials t x y z)) ∧ IX t σ' ∧ FrX σ σ') := by
  refine sX11_trials (Nat.le_of_ble_eq_true rfl) ?_
  have hI' := hI
  have hwf' := hwf
  obtain ⟨cd, x0, x1, x2, mr, dws, dsz, bp, bw, bs, e0, e1, e2, e3, e4, e5, e20, e21, e22, e23, e24, ⟨ws, wm, dm, hid, e6, e7, e8, e9, e10, e11, e12, lws, hws, lwm, ldm, bwm, lhid, hhid, hhd⟩, hk, hki, lcd, hcd, bcd, lmr, ldws, lbp, lbw, hmen⟩ := hI
  obtain ⟨w1, w2, w3, w4, w5, ⟨w6, w7, w8, w9, w10, w11, w12⟩, w13, w14, w15, w16, w17⟩ := hwf
  have hC := hwf'.hC
  have hSs := hwf'.hS
  unfold oTrials
  cases e : rg x 1 41 with
  | none =>
    dsimp only
    have hr := rg_none e
    refine g_iload eX11_trials_0 rfl ?_
    refine g_push eX11_trials_1 ?_
    refine g_icmp_ltI eX11_trials_2 (by decide) (fun c2 => ?_) (fun c2 => ?_)
    · refine g_push eX11_trials_24 ?_
      exact g_ret (eX11_trials_26 _) (Nat.le_refl _) (Nat.le_refl _) ⟨rfl, hI', FrX.rf⟩
    · refine g_iload eX11_trials_5 rfl ?_
      refine g_push eX11_trials_6 ?_
      refine g_icmp_gtI eX11_trials_8 (by decide) (fun c8 => ?_) (fun c8 => by exfalso; omega)
      refine g_push eX11_trials_24 ?_
      exact g_ret (eX11_trials_26 _) (Nat.le_refl _) (Nat.le_refl _) ⟨rfl, hI', FrX.rf⟩
  | some m =>
    dsimp only
    obtain ⟨rfl, hm1, hm2⟩ := rg_some e
    cases f : rg y 0 2147483648 with
    | none =>
      dsimp only
      have hr := rg_none f
      have hym := Int32.toInt_lt y
      refine g_iload eX11_trials_0 rfl ?_
      refine g_push eX11_trials_1 ?_
      refine g_icmp_ltN eX11_trials_2 (by omega) (by omega) (fun c2 => by exfalso; omega) (fun c2 => ?_)
      refine g_iload eX11_trials_5 rfl ?_
      refine g_push eX11_trials_6 ?_
      refine g_icmp_gtN eX11_trials_8 (by omega) (by omega) (fun c8 => by exfalso; omega) (fun c8 => ?_)
      refine g_iload eX11_trials_11 rfl ?_
      refine g_if_ltI eX11_trials_12 (fun c12 => ?_) (fun c12 => by exfalso; omega)
      refine g_push eX11_trials_24 ?_
      exact g_ret (eX11_trials_26 _) (Nat.le_refl _) (Nat.le_refl _) ⟨rfl, hI', FrX.rf⟩
    | some sd =>
      dsimp only
      obtain ⟨rfl, -, hsd⟩ := rg_some f
      cases g : rg z 0 3 with
      | none =>
        dsimp only
        have hr := rg_none g
        refine g_iload eX11_trials_0 rfl ?_
        refine g_push eX11_trials_1 ?_
        refine g_icmp_ltN eX11_trials_2 (by omega) (by omega) (fun c2 => by exfalso; omega) (fun c2 => ?_)
        refine g_iload eX11_trials_5 rfl ?_
        refine g_push eX11_trials_6 ?_
        refine g_icmp_gtN eX11_trials_8 (by omega) (by omega) (fun c8 => by exfalso; omega) (fun c8 => ?_)
        refine g_iload eX11_trials_11 rfl ?_
        refine g_if_ltN eX11_trials_12 (by omega) ?_
        refine g_iload eX11_trials_15 rfl ?_
        refine g_if_ltI eX11_trials_16 (fun c16 => ?_) (fun c16 => ?_)
        · refine g_push eX11_trials_24 ?_
          exact g_ret (eX11_trials_26 _) (Nat.le_refl _) (Nat.le_refl _) ⟨rfl, hI', FrX.rf⟩
        · refine g_iload eX11_trials_19 rfl ?_
          refine g_push eX11_trials_20 ?_
          refine g_icmp_leI eX11_trials_21 (by decide) (fun c21 => by exfalso; omega) (fun c21 => ?_)
          refine g_push eX11_trials_24 ?_
          exact g_ret (eX11_trials_26 _) (Nat.le_refl _) (Nat.le_refl _) ⟨rfl, hI', FrX.rf⟩
      | some w =>
        dsimp only
        obtain ⟨rfl, -, hw3⟩ := rg_some g
        by_cases hyes : hasC t
        · skip
          rw [if_pos hyes]
          have hz : 0 < (shO (crO t)).length := hSs.mp hyes
          have key : ∀ d j τ, j + d = m → IX t τ → FrX σ τ → GX11_trials 5 0 0 (fun v σ' => v = some (.int (trW w (trl t sd m))) ∧ IX t σ' ∧ FrX σ σ') 0 0 49 [some (.ref 0), some (.int (nI m)), some (.int (nI sd)), some (.int (nI w)), some (.int (nI (trl t sd j).1)), some (.int (nI (trl t sd j).2.1)), some (.int (nI (trl t sd j).2.2)), some (.int (nI j))] [] τ := by
            intro d
            induction d with
            | zero =>
              intro j τ hj hT hF
              obtain rfl : j = m := by omega
              refine g_iload eX11_trials_49 rfl ?_
              refine g_iload eX11_trials_51 rfl ?_
              refine g_icmp_geN eX11_trials_52 (by omega) (by omega) (fun c52 => ?_) (fun c52 => by exfalso; omega)
              refine g_iload eX11_trials_95 rfl ?_
              refine g_if_neN eX11_trials_96 (by omega) (fun c96 => ?_) (fun c96 => ?_)
              · obtain ⟨w, rfl⟩ := Nat.exists_eq_succ_of_ne_zero c96
                refine g_iload eX11_trials_102 rfl ?_
                refine g_push eX11_trials_103 ?_
                refine g_icmp_neN eX11_trials_104 (by omega) (by omega) (fun c104 => ?_) (fun c104 => ?_)
                · obtain ⟨w, rfl⟩ := Nat.exists_eq_succ_of_ne_zero (fun z : w = 0 => c104 (by rw [z]))
                  refine g_iload eX11_trials_112 rfl ?_
                  exact g_ret (eX11_trials_114 _) (Nat.le_refl _) (Nat.le_refl _) ⟨rfl, hT, hF⟩
                · obtain rfl : w = 0 := by omega
                  refine g_iload eX11_trials_107 rfl ?_
                  refine g_goto eX11_trials_109 ?_
                  exact g_ret (eX11_trials_114 _) (Nat.le_refl _) (Nat.le_refl _) ⟨rfl, hT, hF⟩
              · subst c96
                refine g_iload eX11_trials_99 rfl ?_
                exact g_ret (eX11_trials_101 _) (Nat.le_refl _) (Nat.le_refl _) ⟨rfl, hT, hF⟩
            | succ d ih =>
              intro j τ hj hT hF
              have hT' := hT
              have hsj := trl_sd t sd hsd j
              obtain ⟨_, _, _, _, _, _, _, _, _, _, a0, -⟩ := hT
              refine g_iload eX11_trials_49 rfl ?_
              refine g_iload eX11_trials_51 rfl ?_
              refine g_icmp_geN eX11_trials_52 (by omega) (by omega) (fun c52 => by exfalso; omega) (fun c52 => ?_)
              refine g_aload eX11_trials_55 rfl ?_
              refine g_iload eX11_trials_56 rfl ?_
              refine g_callV0 (r := (RX11, TX11, 10)) eX11_trials_58 kX11_190 a0 (by rfl) (c_drawSheet hT' hwf' hsj) (by rfl) (by rfl) (by exact Nat.le_of_ble_eq_true rfl) (by exact Nat.le_of_ble_eq_true rfl) (by exact Nat.le_of_ble_eq_true rfl) (Nat.le_refl _) (Nat.le_refl _) (fun v58 σ58 hp58 hn58 => ?_)
              obtain ⟨w', lw', hw', rfl, hE, k20, k21⟩ := hp58
              have hT2 : IX t σ58 := by
                have hT3 := hT'
                obtain ⟨_, _, _, _, _, _, _, _, _, _, -, -, -, b3, -, -, -, -, b22, b23, b24, -, -, -, -, -, -, -, -, l2, l3, -⟩ := hT3
                exact hT'.junk (hE.mono (by decide)) (hE.at (by decide) b3) k20 k21 (hE.at (by decide) b22) (hE.at (by decide) b23) (hE.at (by decide) b24) lw' l2 l3
              have a0 := hE.at (by decide) a0
              have h8 : ∀ k, k < (shO (crO t)).length → w'.getD k 0 < 8 := fun k hk => by rw [hw' k hk]; exact drw_lt _ _
              have hF2 : FrX σ σ58 := hF.tr (hE.fr (by decide))
              refine g_istore eX11_trials_61 rfl ?_
              refine g_iload eX11_trials_63 rfl ?_
              refine g_aload eX11_trials_65 rfl ?_
              refine g_aload eX11_trials_66 rfl ?_
              refine g_get eX11_trials_67 fX11_39_X11 a0 (by rfl) ?_
              refine g_callVp (r := (RX11, TX11, 10)) eX11_trials_70 kX11_193 a0 (by rfl) (c_hangingAt hT2 hwf' k20 k21 lw' w6 hC h8) (by rfl) (by rfl) (by exact Nat.le_of_ble_eq_true rfl) (by exact Nat.le_of_ble_eq_true rfl) (by exact Nat.le_of_ble_eq_true rfl) (Nat.le_refl _) (Nat.le_refl _) ?_
              rw [show hangN t (shW w') (shO (crO t)).length = hangN t (drw (trl t sd j).2.2) (shO (crO t)).length from hangN_congr hw']
              refine g_iaddN eX11_trials_73 ?_
              refine g_istore eX11_trials_74 rfl ?_
              refine g_iload eX11_trials_76 rfl ?_
              refine g_aload eX11_trials_78 rfl ?_
              refine g_aload eX11_trials_79 rfl ?_
              refine g_get eX11_trials_80 fX11_39_X11 a0 (by rfl) ?_
              refine g_callVp (r := (RX11, TX11, 10)) eX11_trials_83 kX11_197 a0 (by rfl) (c_allAltering hT2 hwf' k20 k21 lw' w6 hC h8) (by rfl) (by rfl) (by exact Nat.le_of_ble_eq_true rfl) (by exact Nat.le_of_ble_eq_true rfl) (by exact Nat.le_of_ble_eq_true rfl) (Nat.le_refl _) (Nat.le_refl _) ?_
              rw [show allN t (shW w') (shO (crO t)).length = allN t (drw (trl t sd j).2.2) (shO (crO t)).length from allN_congr hw']
              refine g_iaddN eX11_trials_86 ?_
              refine g_istore eX11_trials_87 rfl ?_
              refine g_iincN eX11_trials_89 rfl rfl ?_
              refine g_goto eX11_trials_92 ?_
              exact ih (j + 1) _ (by omega) hT2 hF2
          refine g_iload eX11_trials_0 rfl ?_
          refine g_push eX11_trials_1 ?_
          refine g_icmp_ltN eX11_trials_2 (by omega) (by omega) (fun c2 => by exfalso; omega) (fun c2 => ?_)
          refine g_iload eX11_trials_5 rfl ?_
          refine g_push eX11_trials_6 ?_
          refine g_icmp_gtN eX11_trials_8 (by omega) (by omega) (fun c8 => by exfalso; omega) (fun c8 => ?_)
          refine g_iload eX11_trials_11 rfl ?_
          refine g_if_ltN eX11_trials_12 (by omega) ?_
          refine g_iload eX11_trials_15 rfl ?_
          refine g_if_ltN eX11_trials_16 (by omega) ?_
          refine g_iload eX11_trials_19 rfl ?_
          refine g_push eX11_trials_20 ?_
          refine g_icmp_leN eX11_trials_21 (by omega) (by omega) (fun c21 => ?_) (fun c21 => by exfalso; omega)
          refine g_aload eX11_trials_27 rfl ?_
          refine g_callVp (r := (RX11, TX11, 10)) eX11_trials_28 kX11_83 e0 (by rfl) (c_hasCourt hI' hwf') (by rfl) (by rfl) (by exact Nat.le_of_ble_eq_true rfl) (by exact Nat.le_of_ble_eq_true rfl) (by exact Nat.le_of_ble_eq_true rfl) (Nat.le_refl _) (Nat.le_refl _) ?_
          refine g_if_neN eX11_trials_31 (bt_lt _) (fun c31 => ?_) (fun c31 => absurd hyes (bt_0 c31))
          refine g_push eX11_trials_37 ?_
          refine g_istore eX11_trials_38 rfl ?_
          refine g_push eX11_trials_40 ?_
          refine g_istore eX11_trials_41 rfl ?_
          refine g_iload eX11_trials_43 rfl ?_
          refine g_istore eX11_trials_44 rfl ?_
          refine g_push eX11_trials_46 ?_
          refine g_istore eX11_trials_47 rfl ?_
          exact key m 0 σ (by omega) hI' FrX.rf
        · have hno := hyes
          refine g_iload eX11_trials_0 rfl ?_
          refine g_push eX11_trials_1 ?_
          refine g_icmp_ltN eX11_trials_2 (by omega) (by omega) (fun c2 => by exfalso; omega) (fun c2 => ?_)
          refine g_iload eX11_trials_5 rfl ?_
          refine g_push eX11_trials_6 ?_
          refine g_icmp_gtN eX11_trials_8 (by omega) (by omega) (fun c8 => by exfalso; omega) (fun c8 => ?_)
          refine g_iload eX11_trials_11 rfl ?_
          refine g_if_ltN eX11_trials_12 (by omega) ?_
          refine g_iload eX11_trials_15 rfl ?_
          refine g_if_ltN eX11_trials_16 (by omega) ?_
          refine g_iload eX11_trials_19 rfl ?_
          refine g_push eX11_trials_20 ?_
          refine g_icmp_leN eX11_trials_21 (by omega) (by omega) (fun c21 => ?_) (fun c21 => by exfalso; omega)
          refine g_aload eX11_trials_27 rfl ?_
          refine g_callVp (r := (RX11, TX11, 10)) eX11_trials_28 kX11_83 e0 (by rfl) (c_hasCourt hI' hwf') (by rfl) (by rfl) (by exact Nat.le_of_ble_eq_true rfl) (by exact Nat.le_of_ble_eq_true rfl) (by exact Nat.le_of_ble_eq_true rfl) (Nat.le_refl _) (Nat.le_refl _) ?_
          refine g_if_neN eX11_trials_31 (bt_lt _) (fun c31 => absurd (bt_1 c31) hno) (fun c31 => ?_)
          refine g_push eX11_trials_34 ?_
          exact g_ret (eX11_trials_36 _) (Nat.le_refl _) (Nat.le_refl _) (by rw [if_neg hno]; exact ⟨rfl, hI', FrX.rf⟩)
theorem IX.brf {t : St} {σ τ : aH} (hI : IX t σ) (h : EqO [0, 22, 23, 24] σ τ) {bs : Int32} {bp bw : List Nat} (g0 : τ[0]? = some (aO 11 [.ref 1, .ref 4, .ref 5, .ref 6, .ref 13, .ref 20, .ref 22, .int (nI (imB t)), .int (nI (ctO t)), .int (nI (brO t + 1))])) (g22 : τ[22]? = some (aO 2 [.ref 23, .ref 24, .int bs])) (g23 : τ[23]? = some (aA bp)) (g24 : τ[24]? = some (aA bw)) (l2 : bp.length = 8) (l3 : bw.length = 4) : IX (pgO t, nrO t, crO t, imO t, ctO t, brO t + 1) τ := by
  obtain ⟨cd, y0, y1, y2, mr, dws, dsz, bp0, bw0, bs0, e0, e1, e2, e3, e4, e5, e20, e21, e22, e23, e24, hn, hk, hki, lcd, hcd, bcd, lmr, ldws, lbp, lbw, hmen⟩ := hI
  refine ⟨cd, y0, y1, y2, mr, dws, dsz, bp, bw, bs, g0, h.at (by decide) e1, h.at (by decide) e2, h.at (by decide) e3, h.at (by decide) e4, h.at (by decide) e5, h.at (by decide) e20, h.at (by decide) e21, g22, g23, g24, hn.at (fun j a b => h.2 j ?_), hk.at (fun j a b => h.2 j ?_), fun c hc => (hki c hc).at (fun j a b => h.2 j ?_), lcd, hcd, bcd, lmr, ldws, l2, l3, fun i hi => ?_⟩
  · simp only [List.mem_cons, List.not_mem_nil, or_false]; omega
  · simp only [List.mem_cons, List.not_mem_nil, or_false]; omega
  · simp only [List.mem_cons, List.not_mem_nil, or_false]; omega
  · obtain ⟨q, a1, a2, a3⟩ := hmen i hi
    exact ⟨q, a1, a2, h.at (nm7 (by decide) a2) a3⟩
theorem brN_le (near : Nat → Nat) : brN (brf near) ≤ 4 := by
  cases e : brf near with
  | none => exact Nat.zero_le _
  | some q => exact (brf_lt e).1
theorem brA_0 {near : Nat → Nat} : brA near 0 = if brN (brf near) = 0 then -1 else nI (brN (brf near)) := by
  unfold brA
  cases e : brf near with
  | none => rfl
  | some q =>
    have h := (brf_lt e).2.1
    have h2 : ¬ brN (some q) = 0 := by
      show ¬ q.1 = 0
      omega
    rw [if_neg h2]
    rfl
theorem brA_k {near : Nat → Nat} {w : Nat} (hw : 10 ≤ w) {bw : List Nat} (hb : ∀ k, k < brN (brf near) → bw.getD k 0 = brC (brf near) / 2 ^ (3 * (brN (brf near) - 1 - k)) &&& 7) : oI (if w - 10 < brN (brf near) then some (bw.getD (w - 10) 0) else none) = brA near w := by
  unfold brA
  cases e : brf near with
  | none => rfl
  | some q =>
    rw [e] at hb
    show _ = if w = 0 then nI q.1 else if w - 10 < q.1 then nI (q.2 / 2 ^ (3 * (q.1 - 1 - (w - 10))) &&& 7) else -1
    rw [if_neg (show ¬ w = 0 by omega)]
    by_cases h : w - 10 < brN (some q)
    · rw [if_pos h, if_pos (show w - 10 < q.1 from h), hb _ h]
      rfl
    · rw [if_neg h, if_neg (show ¬ w - 10 < q.1 from h)]
      rfl
end
section
/-! the class's court -/
/-- the walk's state when the first letters pass -/
def wpre (pg : Nat → Nat) : Nat → Option (Nat × Nat × Nat)
  | 0 => some (0, 0, 0)
  | k + 1 => match wpre pg k with
    | none => none
    | some s => wstep s (pg k)
theorem wpre_s {pg : Nat → Nat} {k : Nat} {s : Nat × Nat × Nat} (h : wpre pg k = some s) : wpre pg (k + 1) = wstep s (pg k) := by
  show (match wpre pg k with
    | none => none
    | some s => wstep s (pg k)) = _
  rw [h]
theorem wpre_n {pg : Nat → Nat} {k : Nat} (h : wpre pg k = none) : wpre pg (k + 1) = none := by
  show (match wpre pg k with
    | none => none
    | some s => wstep s (pg k)) = _
  rw [h]
theorem wfa_pre {pg : Nat → Nat} : ∀ d k s, wpre pg k = some s → (wfa pg d k s).1 = k + d → wpre pg (k + d) = some (wfa pg d k s).2
  | 0, k, s, h, _ => h
  | d + 1, k, s, h, e => by
    cases w : wstep s (pg k) with
    | none =>
      rw [wfa_none w] at e
      exfalso
      simp only at e
      omega
    | some s' =>
      rw [wfa_some w] at e ⊢
      have := wfa_pre d (k + 1) s' ((wpre_s h).trans w) (by omega)
      rw [show k + (d + 1) = k + 1 + d by omega]
      exact this
theorem wpre_le {pg : Nat → Nat} {k : Nat} : ∀ {d s}, wpre pg (k + d) = some s → ∃ s', wpre pg k = some s'
  | 0, s, h => ⟨s, h⟩
  | d + 1, s, h => by
    cases e : wpre pg (k + d) with
    | none =>
      have := wpre_n e
      rw [show k + (d + 1) = k + d + 1 from rfl, this] at h
      cases h
    | some s' => exact wpre_le e
/-- what the read letters are, by the walk's state -/
def RV (pg : Nat → Nat) (k : Nat) (s : Nat × Nat × Nat) : Prop := wok s ∧ (rdc pg k).1 = s.1 ∧ (rdc pg k).2.2.length = (if s.1 = 4 then s.2.1 else 0) ∧ (rdc pg k).2.1.length = 5 ∧ (∀ d, (rdc pg k).2.1.getD d 0 < 256) ∧ (rdc pg k).2.1.getD 4 0 = 0 ∧ ∀ j, (rdc pg k).2.2.getD j 0 < 8
theorem rdc_l {pg : Nat → Nat} {k : Nat} (h : 97 ≤ pg k ∧ pg k < 105) (h4 : (rdc pg k).1 < 4) : rdc pg (k + 1) = ((rdc pg k).1, (rdc pg k).2.1.set (rdc pg k).1 ((rdc pg k).2.1.getD (rdc pg k).1 0 ||| 2 ^ (pg k - 97)), (rdc pg k).2.2) := by
  show (if _ then (if _ then _ else _) else _) = _
  rw [if_pos h, if_pos h4]
theorem rdc_r {pg : Nat → Nat} {k : Nat} (h : 97 ≤ pg k ∧ pg k < 105) (h4 : ¬ (rdc pg k).1 < 4) : rdc pg (k + 1) = ((rdc pg k).1, (rdc pg k).2.1, (rdc pg k).2.2 ++ [pg k - 97]) := by
  show (if _ then (if _ then _ else _) else _) = _
  rw [if_pos h, if_neg h4]
theorem rdc_o {pg : Nat → Nat} {k : Nat} (h : ¬ (97 ≤ pg k ∧ pg k < 105)) : rdc pg (k + 1) = ((rdc pg k).1 + 1, (rdc pg k).2.1, (rdc pg k).2.2) := by
  show (if _ then (if _ then _ else _) else _) = _
  rw [if_neg h]
theorem wstep_l {s s' : Nat × Nat × Nat} {c : Nat} (e : wstep s c = some s') (h : 97 ≤ c ∧ c < 105) : pword s.1 s.2.1 s.2.2 (c - 97) = true ∧ s' = (s.1, s.2.1 + 1, c - 97 + 1) := by
  unfold wstep at e
  rw [if_pos h] at e
  by_cases hp : pword s.1 s.2.1 s.2.2 (c - 97) = true
  · rw [if_pos hp] at e
    exact ⟨hp, (Option.some.inj e).symm⟩
  · rw [if_neg hp] at e
    cases e
theorem wstep_o {s s' : Nat × Nat × Nat} {c : Nat} (e : wstep s c = some s') (h : ¬ (97 ≤ c ∧ c < 105)) : s.1 < 4 ∧ 0 < s.2.1 ∧ c = (if s.1 = 3 then 59 else 44) ∧ s' = (s.1 + 1, 0, 0) := by
  unfold wstep at e
  rw [if_neg h] at e
  by_cases hp : s.1 < 4 ∧ 0 < s.2.1 ∧ c = (if s.1 = 3 then 59 else 44)
  · rw [if_pos hp] at e
    exact ⟨hp.1, hp.2.1, hp.2.2, (Option.some.inj e).symm⟩
  · rw [if_neg hp] at e
    cases e
theorem pw_4 {p m l v : Nat} (h : pword p m l v = true) (hp : ¬ p < 4) : m < 10 := by
  unfold pword at h
  rw [if_neg hp] at h
  exact of_decide_eq_true h
theorem pow_lt8 {v : Nat} (h : v < 8) : 2 ^ v < 2 ^ 8 := Nat.pow_lt_pow_right (by decide) h
theorem RV_of {pg : Nat → Nat} : ∀ k s, wpre pg k = some s → RV pg k s
  | 0, s, h => by
    obtain rfl : (0, 0, 0) = s := Option.some.inj h
    refine ⟨⟨by decide, by decide, by decide⟩, rfl, rfl, rfl, fun d => ?_, rfl, fun j => ?_⟩
    · show [0, 0, 0, 0, 0].getD d 0 < 256
      rw [List.getD_eq_getElem?_getD]
      rcases d with _ | _ | _ | _ | _ | d <;> simp
    · show ([] : List Nat).getD j 0 < 8
      rw [List.getD_eq_getElem?_getD]
      simp
  | k + 1, s', h => by
    cases e : wpre pg k with
    | none =>
      rw [wpre_n e] at h
      cases h
    | some s =>
      rw [wpre_s e] at h
      obtain ⟨o, r1, r2, r3, r4, r5, r6⟩ := RV_of k s e
      have o' := wstep_ok o h
      by_cases hl : 97 ≤ pg k ∧ pg k < 105
      · obtain ⟨hp, rfl⟩ := wstep_l h hl
        by_cases h4 : (rdc pg k).1 < 4
        · unfold RV
          rw [rdc_l hl h4]
          refine ⟨o', r1, ?_, by simp only [List.length_set]; exact r3, fun d => ?_, ?_, r6⟩
          · have : ¬ s.1 = 4 := by omega
            simp only [if_neg this] at r2 ⊢
            exact r2
          · simp only [getD_set]
            split
            · exact Nat.or_lt_two_pow (n := 8) (r4 _) (pow_lt8 (by omega))
            · exact r4 d
          · simp only [getD_set]
            rw [if_neg (by omega)]
            exact r5
        · unfold RV
          rw [rdc_r hl h4]
          have h5 : s.1 = 4 := by have := o.1; omega
          refine ⟨o', r1, ?_, r3, r4, r5, fun j => ?_⟩
          · simp only [List.length_append, List.length_singleton]
            rw [if_pos h5] at r2 ⊢
            omega
          · simp only [getD_app]
            split
            · exact r6 j
            · split
              · omega
              · decide
      · obtain ⟨h4, hm, hc, rfl⟩ := wstep_o h hl
        unfold RV
        rw [rdc_o hl]
        refine ⟨o', by simp only; omega, ?_, r3, r4, r5, r6⟩
        have : ¬ s.1 = 4 := by omega
        rw [if_neg this] at r2
        simp only [r2]
        split <;> rfl
theorem wcourt_pre {pg : Nat → Nat} {n : Nat} (h : wcourt pg n = true) : ∃ s, wpre pg n = some s ∧ s.1 = 4 ∧ 0 < s.2.1 := by
  unfold wcourt at h
  obtain ⟨h1, h2, h3⟩ := of_decide_eq_true h
  have := wfa_pre (pg := pg) n 0 (0, 0, 0) rfl (by omega)
  rw [Nat.zero_add] at this
  exact ⟨_, this, h2, h3⟩
theorem list5 {l : List Nat} (h : l.length = 5) (h2 : ∀ i, i < 5 → l.getD i 0 = 0) : l = [0, 0, 0, 0, 0] := by
  apply List.ext_getElem?
  intro i
  by_cases hi : i < 5
  · have h3 := h2 i hi
    rw [List.getD_eq_getElem?_getD, List.getElem?_eq_getElem (by omega)] at h3
    rw [List.getElem?_eq_getElem (by omega)]
    have h4 : l[i] = 0 := h3
    rw [h4]
    rcases i with _ | _ | _ | _ | _ | i
    · rfl
    · rfl
    · rfl
    · rfl
    · rfl
    · omega
  · rw [List.getElem?_eq_none (by omega), List.getElem?_eq_none (by simp; omega)]
theorem s3_ {σ : aH} {a b c : aT} {j : Nat} (h : 2 ≤ j) : (((σ.set 1 a).set 0 b).set 0 c)[j]? = σ[j]? := by
  rw [List.getElem?_set_ne (by omega), List.getElem?_set_ne (by omega), List.getElem?_set_ne (by omega)]
theorem nm_ {l : List Nat} {b j : Nat} (hj : b ≤ j) (h : ∀ i ∈ l, i < b) : j ∉ l := fun z => by have := h j z; omega
set_option maxRecDepth 20000 in
theorem c_readCourt {σ : aH} {t : St} (hI : IX t σ) (hwf : WF t) {s : Nat × Nat × Nat} (hpre : wpre (shW (pgO t)) (pgO t).length = some s) : MX11_readCourt 2 0 0 [.ref 0] σ (fun v σ' => v = none ∧ EqO [4, 6, 7, 8, 9] σ σ' ∧ σ'[4]? = some (aA (rdc (shW (pgO t)) (pgO t).length).2.1) ∧ IS 6 (shW (rdc (shW (pgO t)) (pgO t).length).2.1) ((rdc (shW (pgO t)) (pgO t).length).2.2, 2, [], 0, []) σ') := by
  refine sX11_readCourt (Nat.le_of_ble_eq_true rfl) ?_
  have hI' := hI
  have hwf' := hwf
  obtain ⟨cd, x0, x1, x2, mr, dws, dsz, bp, bw, bs, e0, e1, e2, e3, e4, e5, e20, e21, e22, e23, e24, ⟨ws, wm, dm, hid, e6, e7, e8, e9, e10, e11, e12, lws, hws, lwm, ldm, bwm, lhid, hhid, hhd⟩, hk, hki, lcd, hcd, bcd, lmr, ldws, lbp, lbw, hmen⟩ := hI
  obtain ⟨w1, w2, w3, w4, w5, ⟨w6, w7, w8, w9, w10, w11, w12⟩, w13, w14, w15, w16, w17⟩ := hwf
  refine g_aload eX11_readCourt_0 rfl ?_
  refine g_get eX11_readCourt_1 fX11_29_X11 e0 (by rfl) ?_
  refine g_callV0 (r := (RX8, TX8, 6)) eX11_readCourt_4 kX11_241 e6 (by rfl) (c_stBegin ⟨ws, wm, dm, hid, _, _, _, _, _, e6, e7, e8, e9, e10, e11, e12, lws, lwm, ldm, lhid⟩) (by rfl) (by rfl) (by exact Nat.le_of_ble_eq_true rfl) (by exact Nat.le_of_ble_eq_true rfl) (by exact Nat.le_of_ble_eq_true rfl) (Nat.le_refl _) (Nat.le_refl _) (fun v4 σ4 hp4 hn4 => ?_)
  obtain ⟨rfl, hE1, ws0, _, _, _, k6, k7, k8, k9, -, -, -, lws0, -, -, -⟩ := hp4
  have e0 := hE1.at (by decide) e0
  have e1 := hE1.at (by decide) e1
  have e2 := hE1.at (by decide) e2
  have e4 := hE1.at (by decide) e4
  have e10 := hE1.at (by decide) e10
  have e11 := hE1.at (by decide) e11
  have e12 := hE1.at (by decide) e12
  have key1 : ∀ d k τ ws o, k + d = (pgO t).length → EqO [4, 7, 8] σ4 τ → τ[4]? = some (aA (rdc (shW (pgO t)) k).2.1) → τ[7]? = some (aO 6 [.ref 8, .int (nI (rdc (shW (pgO t)) k).2.2.length)]) → τ[8]? = some (aA ws) → ws.length = 10 → (∀ j, j < (rdc (shW (pgO t)) k).2.2.length → ws.getD j 0 = (rdc (shW (pgO t)) k).2.2.getD j 0) → GX11_readCourt 2 0 0 (fun v σ' => v = none ∧ EqO [4, 6, 7, 8, 9] σ σ' ∧ σ'[4]? = some (aA (rdc (shW (pgO t)) (pgO t).length).2.1) ∧ IS 6 (shW (rdc (shW (pgO t)) (pgO t).length).2.1) ((rdc (shW (pgO t)) (pgO t).length).2.2, 2, [], 0, []) σ') 0 0 31 [some (.ref 0), some (.int (nI (rdc (shW (pgO t)) k).1)), some (.int (nI k)), o] [] τ := by
    intro d
    induction d with
    | zero =>
      intro k τ ws o hk hE2 q4 q7 q8 lws hws
      obtain rfl : k = (pgO t).length := by omega
      have e0 := hE2.at (by decide) e0
      have e1 := hE2.at (by decide) e1
      refine g_iload eX11_readCourt_31 rfl ?_
      refine g_aload eX11_readCourt_32 rfl ?_
      refine g_get eX11_readCourt_33 fX11_10_X11 e0 (by rfl) ?_
      refine g_callVp (r := (RX5, TX5, 3)) eX11_readCourt_36 kX11_54 e1 (by rfl) (c_psize e1) (by rfl) (by rfl) (by exact Nat.le_of_ble_eq_true rfl) (by exact Nat.le_of_ble_eq_true rfl) (by exact Nat.le_of_ble_eq_true rfl) (Nat.le_refl _) (Nat.le_refl _) ?_
      refine g_icmp_geN eX11_readCourt_39 (by omega) (by omega) (fun c39 => ?_) (fun c39 => by exfalso; omega)
      exact g_ret eX11_readCourt_104 (Nat.le_refl _) (Nat.le_refl _) ⟨rfl, (hE1.mono (by decide)).tr (hE2.mono (by decide)), q4, ws, wm, dm, hid, hE2.at (by decide) k6, q7, q8, hE2.at (by decide) k9, hE2.at (by decide) e10, hE2.at (by decide) e11, hE2.at (by decide) e12, lws, hws, lwm, ldm, bwm, lhid, fun i hi => absurd hi (Nat.not_lt_zero i), fun i hi => absurd hi (Nat.not_lt_zero i)⟩
    | succ d ih =>
      intro k τ ws o hk hE2 q4 q7 q8 lws hws
      have e0 := hE2.at (by decide) e0
      have e1 := hE2.at (by decide) e1
      have e2 := hE2.at (by decide) e2
      have k6 := hE2.at (by decide) k6
      obtain ⟨s', hs'⟩ := wpre_le (k := k + 1) (d := d) (by rw [show k + 1 + d = (pgO t).length by omega]; exact hpre)
      obtain ⟨s0, hs0⟩ := wpre_le (k := k) (d := 1) hs'
      obtain ⟨o1, r1, r2, r3, r4, r5, r6⟩ := RV_of k s0 hs0
      have hst := (wpre_s hs0).symm.trans hs'
      have hck : (shW (pgO t)) k < 127 := w2 k
      have hcdk : cd.getD k 0 = (shW (pgO t)) k := hcd k (by omega)
      by_cases hl : 97 ≤ (shW (pgO t)) k ∧ (shW (pgO t)) k < 105
      · obtain ⟨hp, -⟩ := wstep_l hst hl
        by_cases h4 : (rdc (shW (pgO t)) k).1 < 4
        · have hnx := rdc_l hl h4
          have ih := ih (k + 1) (τ.set 4 (aA ((rdc (shW (pgO t)) k).2.1.set (rdc (shW (pgO t)) k).1 ((rdc (shW (pgO t)) k).2.1.getD (rdc (shW (pgO t)) k).1 0 ||| 2 ^ ((shW (pgO t)) k - 97))))) ws
          rw [hnx] at ih
          refine g_iload eX11_readCourt_31 rfl ?_
          refine g_aload eX11_readCourt_32 rfl ?_
          refine g_get eX11_readCourt_33 fX11_10_X11 e0 (by rfl) ?_
          refine g_callVp (r := (RX5, TX5, 3)) eX11_readCourt_36 kX11_54 e1 (by rfl) (c_psize e1) (by rfl) (by rfl) (by exact Nat.le_of_ble_eq_true rfl) (by exact Nat.le_of_ble_eq_true rfl) (by exact Nat.le_of_ble_eq_true rfl) (Nat.le_refl _) (Nat.le_refl _) ?_
          refine g_icmp_geN eX11_readCourt_39 (by omega) (by omega) (fun c39 => by exfalso; omega) (fun c39 => ?_)
          refine g_aload eX11_readCourt_42 rfl ?_
          refine g_get eX11_readCourt_43 fX11_10_X11 e0 (by rfl) ?_
          refine g_iload eX11_readCourt_46 rfl ?_
          refine g_callVp (r := (RX5, TX5, 3)) eX11_readCourt_47 kX11_220 e1 (by rfl) (c_codeAt e1 e2 lcd w1 (k := k) (by omega)) (by rfl) (by rfl) (by exact Nat.le_of_ble_eq_true rfl) (by exact Nat.le_of_ble_eq_true rfl) (by exact Nat.le_of_ble_eq_true rfl) (Nat.le_refl _) (Nat.le_refl _) ?_
          rw [hcdk]
          refine g_push eX11_readCourt_50 ?_
          refine g_isubN eX11_readCourt_52 (by omega) ?_
          refine g_istore eX11_readCourt_53 rfl ?_
          refine g_iload eX11_readCourt_54 rfl ?_
          refine g_callSp eX11_readCourt_55 kX11_93 (c_isWordT (j := (shW (pgO t)) k - 97) (by omega)) (by rfl) (by rfl) (by exact Nat.le_of_ble_eq_true rfl) (by exact Nat.le_of_ble_eq_true rfl) (by exact Nat.le_of_ble_eq_true rfl) (Nat.le_refl _) (Nat.le_refl _) ?_
          refine g_if_neN eX11_readCourt_58 (by omega) (fun c58 => ?_) (fun c58 => by exfalso; omega)
          refine g_iload eX11_readCourt_67 rfl ?_
          refine g_push eX11_readCourt_68 ?_
          refine g_icmp_geN eX11_readCourt_69 (by omega) (by omega) (fun c69 => by exfalso; omega) (fun c69 => ?_)
          refine g_aload eX11_readCourt_72 rfl ?_
          refine g_get eX11_readCourt_73 fX11_16_X11 e0 (by rfl) ?_
          refine g_iload eX11_readCourt_76 rfl ?_
          refine g_dup2 eX11_readCourt_77 rfl rfl ?_
          refine g_ialdN eX11_readCourt_78 q4 (by omega) (by omega) ?_
          refine g_push eX11_readCourt_79 ?_
          refine g_iload eX11_readCourt_80 rfl ?_
          refine g_ishlN eX11_readCourt_81 (by omega) (one_shl _ (by omega)) ?_
          refine g_iorN eX11_readCourt_82 ?_
          refine g_iastN eX11_readCourt_83 q4 (by omega) (by omega) ?_
          refine g_goto eX11_readCourt_84 ?_
          refine g_iincN eX11_readCourt_98 rfl rfl ?_
          refine g_goto eX11_readCourt_101 ?_
          rw [Nat.one_mul]
          exact ih _ (by omega) (hE2.st (by decide)) (at_eq q4) (at_ne (by decide) q7) (at_ne (by decide) q8) lws hws
        · have hnx := rdc_r hl h4
          have hm := pw_4 hp (by omega)
          have h5 : s0.1 = 4 := by have := o1.1; omega
          rw [if_pos h5] at r2
          have ih := ih (k + 1) ((τ.set 8 (aA (ws.set (rdc (shW (pgO t)) k).2.2.length ((shW (pgO t)) k - 97)))).set 7 (aO 6 [.ref 8, .int (nI ((rdc (shW (pgO t)) k).2.2.length + 1))])) (ws.set (rdc (shW (pgO t)) k).2.2.length ((shW (pgO t)) k - 97))
          rw [hnx] at ih
          refine g_iload eX11_readCourt_31 rfl ?_
          refine g_aload eX11_readCourt_32 rfl ?_
          refine g_get eX11_readCourt_33 fX11_10_X11 e0 (by rfl) ?_
          refine g_callVp (r := (RX5, TX5, 3)) eX11_readCourt_36 kX11_54 e1 (by rfl) (c_psize e1) (by rfl) (by rfl) (by exact Nat.le_of_ble_eq_true rfl) (by exact Nat.le_of_ble_eq_true rfl) (by exact Nat.le_of_ble_eq_true rfl) (Nat.le_refl _) (Nat.le_refl _) ?_
          refine g_icmp_geN eX11_readCourt_39 (by omega) (by omega) (fun c39 => by exfalso; omega) (fun c39 => ?_)
          refine g_aload eX11_readCourt_42 rfl ?_
          refine g_get eX11_readCourt_43 fX11_10_X11 e0 (by rfl) ?_
          refine g_iload eX11_readCourt_46 rfl ?_
          refine g_callVp (r := (RX5, TX5, 3)) eX11_readCourt_47 kX11_220 e1 (by rfl) (c_codeAt e1 e2 lcd w1 (k := k) (by omega)) (by rfl) (by rfl) (by exact Nat.le_of_ble_eq_true rfl) (by exact Nat.le_of_ble_eq_true rfl) (by exact Nat.le_of_ble_eq_true rfl) (Nat.le_refl _) (Nat.le_refl _) ?_
          rw [hcdk]
          refine g_push eX11_readCourt_50 ?_
          refine g_isubN eX11_readCourt_52 (by omega) ?_
          refine g_istore eX11_readCourt_53 rfl ?_
          refine g_iload eX11_readCourt_54 rfl ?_
          refine g_callSp eX11_readCourt_55 kX11_93 (c_isWordT (j := (shW (pgO t)) k - 97) (by omega)) (by rfl) (by rfl) (by exact Nat.le_of_ble_eq_true rfl) (by exact Nat.le_of_ble_eq_true rfl) (by exact Nat.le_of_ble_eq_true rfl) (Nat.le_refl _) (Nat.le_refl _) ?_
          refine g_if_neN eX11_readCourt_58 (by omega) (fun c58 => ?_) (fun c58 => by exfalso; omega)
          refine g_iload eX11_readCourt_67 rfl ?_
          refine g_push eX11_readCourt_68 ?_
          refine g_icmp_geN eX11_readCourt_69 (by omega) (by omega) (fun c69 => ?_) (fun c69 => by exfalso; omega)
          refine g_aload eX11_readCourt_87 rfl ?_
          refine g_get eX11_readCourt_88 fX11_29_X11 e0 (by rfl) ?_
          refine g_get eX11_readCourt_91 fX11_79_X8 k6 (by rfl) ?_
          refine g_iload eX11_readCourt_94 rfl ?_
          refine g_callVp (r := (RX6, TX6, 2)) eX11_readCourt_95 kX11_244 q7 (by rfl) (c_add (x := (shW (pgO t)) k - 97) q7 q8 lws (by omega) (by decide) (by omega)) (by rfl) (by rfl) (by exact Nat.le_of_ble_eq_true rfl) (by exact Nat.le_of_ble_eq_true rfl) (by exact Nat.le_of_ble_eq_true rfl) (Nat.le_refl _) (Nat.le_refl _) ?_
          refine g_iincN eX11_readCourt_98 rfl rfl ?_
          refine g_goto eX11_readCourt_101 ?_
          refine ih _ (by omega) ((hE2.st (by decide)).st (by decide)) (at_ne (by decide) (at_ne (by decide) q4)) (by simp only [List.length_append, List.length_singleton]; exact at_eq (at_ne (by decide) q7)) (at_ne (by decide) (at_eq q8)) (by rw [List.length_set]; exact lws) (fun j hj => ?_)
          simp only [List.length_append, List.length_singleton] at hj
          simp only [getD_app, getD_set, lws]
          by_cases hj2 : j < (rdc (shW (pgO t)) k).2.2.length
          · rw [if_neg (by omega), if_pos hj2]
            exact hws j hj2
          · rw [if_pos (by omega), if_neg hj2, if_pos (by omega)]
      · obtain ⟨h4, hm, hc, -⟩ := wstep_o hst hl
        have hnx := rdc_o hl
        have ih := ih (k + 1) τ ws
        rw [hnx] at ih
        have hcc : (shW (pgO t)) k = 59 ∨ (shW (pgO t)) k = 44 := by
          rw [hc]
          split
          · exact Or.inl rfl
          · exact Or.inr rfl
        have hng : (nI ((shW (pgO t)) k) - nI 97).toInt < 0 ∨ ((8 : Nat) : Int) ≤ (nI ((shW (pgO t)) k) - nI 97).toInt := by
          rcases hcc with z | z <;> rw [z] <;> decide
        refine g_iload eX11_readCourt_31 rfl ?_
        refine g_aload eX11_readCourt_32 rfl ?_
        refine g_get eX11_readCourt_33 fX11_10_X11 e0 (by rfl) ?_
        refine g_callVp (r := (RX5, TX5, 3)) eX11_readCourt_36 kX11_54 e1 (by rfl) (c_psize e1) (by rfl) (by rfl) (by exact Nat.le_of_ble_eq_true rfl) (by exact Nat.le_of_ble_eq_true rfl) (by exact Nat.le_of_ble_eq_true rfl) (Nat.le_refl _) (Nat.le_refl _) ?_
        refine g_icmp_geN eX11_readCourt_39 (by omega) (by omega) (fun c39 => by exfalso; omega) (fun c39 => ?_)
        refine g_aload eX11_readCourt_42 rfl ?_
        refine g_get eX11_readCourt_43 fX11_10_X11 e0 (by rfl) ?_
        refine g_iload eX11_readCourt_46 rfl ?_
        refine g_callVp (r := (RX5, TX5, 3)) eX11_readCourt_47 kX11_220 e1 (by rfl) (c_codeAt e1 e2 lcd w1 (k := k) (by omega)) (by rfl) (by rfl) (by exact Nat.le_of_ble_eq_true rfl) (by exact Nat.le_of_ble_eq_true rfl) (by exact Nat.le_of_ble_eq_true rfl) (Nat.le_refl _) (Nat.le_refl _) ?_
        rw [hcdk]
        refine g_push eX11_readCourt_50 ?_
        refine g_isub eX11_readCourt_52 ?_
        refine g_istore eX11_readCourt_53 rfl ?_
        refine g_iload eX11_readCourt_54 rfl ?_
        refine g_callSp eX11_readCourt_55 kX11_93 (c_isWordN hng) (by rfl) (by rfl) (by exact Nat.le_of_ble_eq_true rfl) (by exact Nat.le_of_ble_eq_true rfl) (by exact Nat.le_of_ble_eq_true rfl) (Nat.le_refl _) (Nat.le_refl _) ?_
        refine g_if_neN eX11_readCourt_58 (by omega) (fun c58 => absurd rfl c58) (fun c58 => ?_)
        refine g_iincN eX11_readCourt_61 rfl rfl ?_
        refine g_goto eX11_readCourt_64 ?_
        refine g_iincN eX11_readCourt_98 rfl rfl ?_
        refine g_goto eX11_readCourt_101 ?_
        exact ih _ (by omega) hE2 q4 q7 q8 lws hws
  have key0 : ∀ d j τ nr', j + d = 5 → EqO [4] σ4 τ → τ[4]? = some (aA nr') → nr'.length = 5 → (∀ i, i < j → nr'.getD i 0 = 0) → GX11_readCourt 2 0 0 (fun v σ' => v = none ∧ EqO [4, 6, 7, 8, 9] σ σ' ∧ σ'[4]? = some (aA (rdc (shW (pgO t)) (pgO t).length).2.1) ∧ IS 6 (shW (rdc (shW (pgO t)) (pgO t).length).2.1) ((rdc (shW (pgO t)) (pgO t).length).2.2, 2, [], 0, []) σ') 0 0 9 [some (.ref 0), some (.int (nI j)), none, none] [] τ := by
    intro d
    induction d with
    | zero =>
      intro j τ nr' hj hE2 q4 lnr hz
      obtain rfl : j = 5 := by omega
      obtain rfl := list5 lnr hz
      refine g_iload eX11_readCourt_9 rfl ?_
      refine g_push eX11_readCourt_10 ?_
      refine g_icmp_geN eX11_readCourt_11 (by omega) (by omega) (fun c11 => ?_) (fun c11 => by exfalso; omega)
      refine g_push eX11_readCourt_27 ?_
      refine g_istore eX11_readCourt_28 rfl ?_
      refine g_push eX11_readCourt_29 ?_
      refine g_istore eX11_readCourt_30 rfl ?_
      exact key1 (pgO t).length 0 τ ws0 _ (by omega) (hE2.mono (by decide)) q4 (hE2.at (by decide) k7) (hE2.at (by decide) k8) lws0 (fun j hj => absurd hj (Nat.not_lt_zero j))
    | succ d ih =>
      intro j τ nr' hj hE2 q4 lnr hz
      have e0 := hE2.at (by decide) e0
      refine g_iload eX11_readCourt_9 rfl ?_
      refine g_push eX11_readCourt_10 ?_
      refine g_icmp_geN eX11_readCourt_11 (by omega) (by omega) (fun c11 => by exfalso; omega) (fun c11 => ?_)
      refine g_aload eX11_readCourt_14 rfl ?_
      refine g_get eX11_readCourt_15 fX11_16_X11 e0 (by rfl) ?_
      refine g_iload eX11_readCourt_18 rfl ?_
      refine g_push eX11_readCourt_19 ?_
      refine g_iastN eX11_readCourt_20 q4 (by omega) (by omega) ?_
      refine g_iincN eX11_readCourt_21 rfl rfl ?_
      refine g_goto eX11_readCourt_24 ?_
      refine ih (j + 1) _ _ (by omega) (hE2.st (by decide)) (at_eq q4) (by rw [List.length_set]; exact lnr) (fun i hi => ?_)
      rw [getD_set]
      split
      · rfl
      · exact hz i (by omega)
  
  refine g_push eX11_readCourt_7 ?_
  refine g_istore eX11_readCourt_8 rfl ?_
  exact key0 5 0 σ4 (nrO t) rfl EqO.rf e4 w3 (fun i hi => absurd hi (Nat.not_lt_zero i))
set_option maxRecDepth 20000 in
theorem x_court {σ : aH} {t : St} (hI : IX t σ) (hwf : WF t)  : MX11_court 4 0 0 [.ref 0] σ (fun v σ' => v = some (.int (oCourt t).1) ∧ IX (oCourt t).2 σ' ∧ FrX σ σ') := by
  refine sX11_court (Nat.le_of_ble_eq_true rfl) ?_
  have hI' := hI
  have hwf' := hwf
  obtain ⟨cd, x0, x1, x2, mr, dws, dsz, bp, bw, bs, e0, e1, e2, e3, e4, e5, e20, e21, e22, e23, e24, ⟨ws, wm, dm, hid, e6, e7, e8, e9, e10, e11, e12, lws, hws, lwm, ldm, bwm, lhid, hhid, hhd⟩, hk, hki, lcd, hcd, bcd, lmr, ldws, lbp, lbw, hmen⟩ := hI
  obtain ⟨w1, w2, w3, w4, w5, ⟨w6, w7, w8, w9, w10, w11, w12⟩, w13, w14, w15, w16, w17⟩ := hwf
  have hcc : wcourt (shW cd) (pgO t).length = wcourt (shW (pgO t)) (pgO t).length := wcourt_congr (fun j hj => hcd j hj)
  unfold oCourt
  by_cases hf : wcourt (shW (pgO t)) (pgO t).length = false
  · rw [if_neg (show ¬ wcourt (shW (pgO t)) (pgO t).length = true from Bool.eq_false_iff.mp hf)]
    refine g_aload eX11_court_0 rfl ?_
    refine g_get eX11_court_1 fX11_10_X11 e0 (by rfl) ?_
    refine g_callVp (r := (RX5, TX5, 3)) eX11_court_4 kX11_64 e1 (by rfl) (c_isCourt e1 e2 lcd w1 e3 (by decide) (by decide) bcd) (by rfl) (by rfl) (by exact Nat.le_of_ble_eq_true rfl) (by exact Nat.le_of_ble_eq_true rfl) (by exact Nat.le_of_ble_eq_true rfl) (Nat.le_refl _) (Nat.le_refl _) ?_
    rw [hcc, hf]
    refine g_if_neN eX11_court_7 (bt_lt _) (fun c7 => absurd rfl c7) (fun c7 => ?_)
    refine g_push eX11_court_10 ?_
    exact g_ret (eX11_court_12 _) (Nat.le_refl _) (Nat.le_refl _) ⟨rfl, hI'.junk (EqO.rf.st (by decide)) (at_eq e3) (at_ne (by decide) e20) (at_ne (by decide) e21) (at_ne (by decide) e22) (at_ne (by decide) e23) (at_ne (by decide) e24) ldws lbp lbw, FrX.rf.st (by decide)⟩
  · have hw : wcourt (shW (pgO t)) (pgO t).length = true := Bool.not_eq_false _ ▸ hf
    rw [if_pos hw]
    refine g_aload eX11_court_0 rfl ?_
    refine g_get eX11_court_1 fX11_10_X11 e0 (by rfl) ?_
    refine g_callVp (r := (RX5, TX5, 3)) eX11_court_4 kX11_64 e1 (by rfl) (c_isCourt e1 e2 lcd w1 e3 (by decide) (by decide) bcd) (by rfl) (by rfl) (by exact Nat.le_of_ble_eq_true rfl) (by exact Nat.le_of_ble_eq_true rfl) (by exact Nat.le_of_ble_eq_true rfl) (Nat.le_refl _) (Nat.le_refl _) ?_
    rw [hcc, hw]
    have hJ : IX t (σ.set 3 (wO (wfa (shW cd) (pgO t).length 0 (0, 0, 0)).2)) := hI'.junk (EqO.rf.st (by decide)) (at_eq e3) (at_ne (by decide) e20) (at_ne (by decide) e21) (at_ne (by decide) e22) (at_ne (by decide) e23) (at_ne (by decide) e24) ldws lbp lbw
    have hJ' := hJ
    obtain ⟨s, hpre, hs4, hs0⟩ := wcourt_pre hw
    have hF0 : FrX σ (σ.set 3 (wO (wfa (shW cd) (pgO t).length 0 (0, 0, 0)).2)) := FrX.rf.st (by decide)
    generalize σ.set 3 (wO (wfa (shW cd) (pgO t).length 0 (0, 0, 0)).2) = τ at *
    refine g_if_neN eX11_court_7 (bt_lt _) (fun c7 => ?_) (fun c7 => absurd c7 (by decide))
    obtain ⟨cd, x0, x1, x2, mr, dws, dsz, bp, bw, bs, e0, e1, e2, e3, e4, e5, e20, e21, e22, e23, e24, hn, hk, hki, lcd, hcd, bcd, lmr, ldws, lbp, lbw, hmen⟩ := hJ'
    refine g_aload eX11_court_13 rfl ?_
    refine g_callV0 (r := (RX11, TX11, 10)) eX11_court_14 kX11_68 e0 (by rfl) (c_readCourt hJ hwf' hpre) (by rfl) (by rfl) (by exact Nat.le_of_ble_eq_true rfl) (by exact Nat.le_of_ble_eq_true rfl) (by exact Nat.le_of_ble_eq_true rfl) (Nat.le_refl _) (Nat.le_refl _) (fun v14 σ14 hp14 hn14 => ?_)
    obtain ⟨rfl, hE, g4, hIS⟩ := hp14
    have e0 := hE.at (by decide) e0
    have e1 := hE.at (by decide) e1
    have e2 := hE.at (by decide) e2
    have e3 := hE.at (by decide) e3
    have e5 := hE.at (by decide) e5
    have e20 := hE.at (by decide) e20
    have e21 := hE.at (by decide) e21
    have e22 := hE.at (by decide) e22
    have e23 := hE.at (by decide) e23
    have e24 := hE.at (by decide) e24
    have hIS' := hIS
    obtain ⟨vs, wm, dm, hid, f6, f7, f8, f9, f10, f11, f12, -⟩ := hIS
    refine g_aload eX11_court_17 rfl ?_
    refine g_get eX11_court_18 fX11_10_X11 e0 (by rfl) ?_
    refine g_callVp (r := (RX5, TX5, 3)) eX11_court_21 kX11_58 e1 (by rfl) (c_pclear e1) (by rfl) (by rfl) (by exact Nat.le_of_ble_eq_true rfl) (by exact Nat.le_of_ble_eq_true rfl) (by exact Nat.le_of_ble_eq_true rfl) (Nat.le_refl _) (Nat.le_refl _) ?_
    refine g_aload eX11_court_24 rfl ?_
    refine g_push eX11_court_25 ?_
    refine g_putZ eX11_court_26 fX11_71_X11 pX11_7 (Or.inl rfl) (at_ne (by decide) e0) (by exact Nat.le_of_ble_eq_true rfl) ?_
    refine g_aload eX11_court_29 rfl ?_
    refine g_dup eX11_court_30 rfl ?_
    refine g_get eX11_court_31 fX11_75_X11 (at_eq (at_ne (by decide) e0)) (by rfl) ?_
    refine g_push eX11_court_34 ?_
    refine g_iaddN eX11_court_35 ?_
    refine g_putI eX11_court_36 fX11_75_X11 pX11_8 (at_eq (at_ne (by decide) e0)) (by exact Nat.le_of_ble_eq_true rfl) ?_
    refine g_aload eX11_court_39 rfl ?_
    refine g_get eX11_court_40 fX11_29_X11 (at_eq (at_eq (at_ne (by decide) e0))) (by rfl) ?_
    refine g_get eX11_court_43 fX11_79_X8 (at_ne (by decide) (at_ne (by decide) (at_ne (by decide) f6))) (by rfl) ?_
    refine g_callVp (r := (RX6, TX6, 2)) eX11_court_46 kX11_82 (at_ne (by decide) (at_ne (by decide) (at_ne (by decide) f7))) (by rfl) (c_size (at_ne (by decide) (at_ne (by decide) (at_ne (by decide) f7)))) (by rfl) (by rfl) (by exact Nat.le_of_ble_eq_true rfl) (by exact Nat.le_of_ble_eq_true rfl) (by exact Nat.le_of_ble_eq_true rfl) (Nat.le_refl _) (Nat.le_refl _) ?_
    exact g_ret (eX11_court_49 _) (Nat.le_refl _) (Nat.le_refl _) ⟨rfl, ⟨cd, x0, x1, x2, mr, dws, dsz, bp, bw, bs, at_eq (at_eq (at_ne (by decide) e0)), at_ne (by decide) (at_ne (by decide) (at_eq e1)), (at_ne (by decide) (at_ne (by decide) (at_ne (by decide) e2))), (at_ne (by decide) (at_ne (by decide) (at_ne (by decide) e3))), (at_ne (by decide) (at_ne (by decide) (at_ne (by decide) g4))), (at_ne (by decide) (at_ne (by decide) (at_ne (by decide) e5))), (at_ne (by decide) (at_ne (by decide) (at_ne (by decide) e20))), (at_ne (by decide) (at_ne (by decide) (at_ne (by decide) e21))), (at_ne (by decide) (at_ne (by decide) (at_ne (by decide) e22))), (at_ne (by decide) (at_ne (by decide) (at_ne (by decide) e23))), (at_ne (by decide) (at_ne (by decide) (at_ne (by decide) e24))), hIS'.at (fun j a b => s3_ (by omega)), (hk.at (fun j a b => hE.2 j (nm_ a (by decide)))).at (fun j a b => s3_ (by omega)), (fun c hc => nomatch (show (none : Option Cr) = some c from hc)), lcd, fun k hk => absurd hk (Nat.not_lt_zero k), bcd, lmr, ldws, lbp, lbw, fun i hi => absurd hi (Nat.not_lt_zero i)⟩, ((((hF0.tr (hE.fr (by decide))).st (by decide)).st (by decide)).st (by decide))⟩
end
section
/-! the class's accuse -/
def okV : Value → Bool
  | .int _ => true
  | .null => true
  | .long _ => true
  | _ => false
theorem okV_all {fs : List Value} (h : fs.all okV = true) : ∀ v ∈ fs, (∃ x, v = .int x) ∨ v = .null ∨ (∃ x, v = .long x) := by
  intro v hv
  have := List.all_eq_true.mp h v hv
  cases v with
  | int x => exact Or.inl ⟨x, rfl⟩
  | null => exact Or.inr (Or.inl rfl)
  | long x => exact Or.inr (Or.inr ⟨x, rfl⟩)
  | _ => cases this
theorem app_set {σ : aH} {c d : aT} : (σ ++ [c]).set σ.length d = σ ++ [d] := by
  rw [List.set_append_right _ _ (Nat.le_refl _), Nat.sub_self]
  rfl
theorem app_new {σ : aH} {d : aT} : (σ ++ [d])[σ.length]? = some d := by simp
set_option maxRecDepth 20000 in
theorem c_X4_init {σ : aH} {q ci : Nat} {x y : Int32} (hc : ci = 0 ∨ ci = 1 ∨ ci = 4 ∨ ci = 7 ∨ ci = 10) (hq : σ[q]? = some (aO ci [.int y])) : MX4_init 1 0 0 [.ref q, .int x] σ (aPu none (σ.set q (aO ci [.int x]))) := by
  refine sX4_init (Nat.le_of_ble_eq_true rfl) ?_
  rcases hc with rfl | rfl | rfl | rfl | rfl
  · refine g_aload eX4_init_0 rfl ?_
    refine g_obj eX4_init_1 kX4_1 (by exact Nat.le_of_ble_eq_true rfl) (by exact Nat.le_of_ble_eq_true rfl) ?_
    refine g_aload eX4_init_4 rfl ?_
    refine g_iload eX4_init_5 rfl ?_
    refine g_putIF eX4_init_6 fX4_7_X0 pX0_0 rfl (fun q h => by cases h; rfl) hq (by exact Nat.le_of_ble_eq_true rfl) ?_
    exact g_ret eX4_init_9 (Nat.le_refl _) (Nat.le_refl _) ⟨rfl, rfl⟩
  · refine g_aload eX4_init_0 rfl ?_
    refine g_obj eX4_init_1 kX4_1 (by exact Nat.le_of_ble_eq_true rfl) (by exact Nat.le_of_ble_eq_true rfl) ?_
    refine g_aload eX4_init_4 rfl ?_
    refine g_iload eX4_init_5 rfl ?_
    refine g_putIF eX4_init_6 fX4_7_X1 pX1_0 rfl (fun q h => by cases h; rfl) hq (by exact Nat.le_of_ble_eq_true rfl) ?_
    exact g_ret eX4_init_9 (Nat.le_refl _) (Nat.le_refl _) ⟨rfl, rfl⟩
  · refine g_aload eX4_init_0 rfl ?_
    refine g_obj eX4_init_1 kX4_1 (by exact Nat.le_of_ble_eq_true rfl) (by exact Nat.le_of_ble_eq_true rfl) ?_
    refine g_aload eX4_init_4 rfl ?_
    refine g_iload eX4_init_5 rfl ?_
    refine g_putIF eX4_init_6 fX4_7_X4 pX4_0 rfl (fun q h => by cases h; rfl) hq (by exact Nat.le_of_ble_eq_true rfl) ?_
    exact g_ret eX4_init_9 (Nat.le_refl _) (Nat.le_refl _) ⟨rfl, rfl⟩
  · refine g_aload eX4_init_0 rfl ?_
    refine g_obj eX4_init_1 kX4_1 (by exact Nat.le_of_ble_eq_true rfl) (by exact Nat.le_of_ble_eq_true rfl) ?_
    refine g_aload eX4_init_4 rfl ?_
    refine g_iload eX4_init_5 rfl ?_
    refine g_putIF eX4_init_6 fX4_7_X7 pX7_0 rfl (fun q h => by cases h; rfl) hq (by exact Nat.le_of_ble_eq_true rfl) ?_
    exact g_ret eX4_init_9 (Nat.le_refl _) (Nat.le_refl _) ⟨rfl, rfl⟩
  · refine g_aload eX4_init_0 rfl ?_
    refine g_obj eX4_init_1 kX4_1 (by exact Nat.le_of_ble_eq_true rfl) (by exact Nat.le_of_ble_eq_true rfl) ?_
    refine g_aload eX4_init_4 rfl ?_
    refine g_iload eX4_init_5 rfl ?_
    refine g_putIF eX4_init_6 fX4_7_X10 pX10_0 rfl (fun q h => by cases h; rfl) hq (by exact Nat.le_of_ble_eq_true rfl) ?_
    exact g_ret eX4_init_9 (Nat.le_refl _) (Nat.le_refl _) ⟨rfl, rfl⟩
set_option maxRecDepth 20000 in
theorem c_X7_init {σ : aH} {q ci : Nat} {x y : Int32} (hc : ci = 7 ∨ ci = 10) (hq : σ[q]? = some (aO ci [.int y])) : MX7_init 2 0 0 [.ref q, .int x] σ (aPu none (σ.set q (aO ci [.int x]))) := by
  refine sX7_init (Nat.le_of_ble_eq_true rfl) ?_
  refine g_aload eX7_init_0 rfl ?_
  refine g_iload eX7_init_1 rfl ?_
  refine g_init eX7_init_2 kX7_1 (c_X4_init (x := x) (by omega) hq) (by rfl) (by rfl) (by exact Nat.le_of_ble_eq_true rfl) (by exact Nat.le_of_ble_eq_true rfl) (by exact Nat.le_of_ble_eq_true rfl) (by decide) (by decide) (fun v σ' hp hn => ?_)
  obtain ⟨rfl, rfl⟩ := hp
  exact g_ret eX7_init_5 (Nat.le_refl _) (Nat.le_refl _) ⟨rfl, rfl⟩
set_option maxRecDepth 20000 in
theorem c_X0_init {σ : aH} {q ci : Nat} {x y : Int32} (hc : ci = 0) (hq : σ[q]? = some (aO ci [.int y])) : MX0_init 2 0 0 [.ref q, .int x] σ (aPu none (σ.set q (aO ci [.int x]))) := by
  refine sX0_init (Nat.le_of_ble_eq_true rfl) ?_
  refine g_aload eX0_init_0 rfl ?_
  refine g_iload eX0_init_1 rfl ?_
  refine g_init eX0_init_2 kX0_1 (c_X4_init (x := x) (by omega) hq) (by rfl) (by rfl) (by exact Nat.le_of_ble_eq_true rfl) (by exact Nat.le_of_ble_eq_true rfl) (by exact Nat.le_of_ble_eq_true rfl) (by decide) (by decide) (fun v σ' hp hn => ?_)
  obtain ⟨rfl, rfl⟩ := hp
  exact g_ret eX0_init_5 (Nat.le_refl _) (Nat.le_refl _) ⟨rfl, rfl⟩
set_option maxRecDepth 20000 in
theorem c_X1_init {σ : aH} {q ci : Nat} {x y : Int32} (hc : ci = 1) (hq : σ[q]? = some (aO ci [.int y])) : MX1_init 2 0 0 [.ref q, .int x] σ (aPu none (σ.set q (aO ci [.int x]))) := by
  refine sX1_init (Nat.le_of_ble_eq_true rfl) ?_
  refine g_aload eX1_init_0 rfl ?_
  refine g_iload eX1_init_1 rfl ?_
  refine g_init eX1_init_2 kX1_1 (c_X4_init (x := x) (by omega) hq) (by rfl) (by rfl) (by exact Nat.le_of_ble_eq_true rfl) (by exact Nat.le_of_ble_eq_true rfl) (by exact Nat.le_of_ble_eq_true rfl) (by decide) (by decide) (fun v σ' hp hn => ?_)
  obtain ⟨rfl, rfl⟩ := hp
  exact g_ret eX1_init_5 (Nat.le_refl _) (Nat.le_refl _) ⟨rfl, rfl⟩
set_option maxRecDepth 20000 in
theorem c_X10_init {σ : aH} {q ci : Nat} {x y : Int32} (hc : ci = 10) (hq : σ[q]? = some (aO ci [.int y])) : MX10_init 3 0 0 [.ref q, .int x] σ (aPu none (σ.set q (aO ci [.int x]))) := by
  refine sX10_init (Nat.le_of_ble_eq_true rfl) ?_
  refine g_aload eX10_init_0 rfl ?_
  refine g_iload eX10_init_1 rfl ?_
  refine g_init eX10_init_2 kX10_1 (c_X7_init (x := x) (by omega) hq) (by rfl) (by rfl) (by exact Nat.le_of_ble_eq_true rfl) (by exact Nat.le_of_ble_eq_true rfl) (by exact Nat.le_of_ble_eq_true rfl) (by decide) (by decide) (fun v σ' hp hn => ?_)
  obtain ⟨rfl, rfl⟩ := hp
  exact g_ret eX10_init_5 (Nat.le_refl _) (Nat.le_refl _) ⟨rfl, rfl⟩
set_option maxRecDepth 20000 in
theorem c_manOfKind {σ : aH} {kd : Nat} {x : Int32} (hk : kd < 5) : MX11_manOfKind 4 1 1 [.int (nI kd), .int x] σ (aPu (some (.ref σ.length)) (σ ++ [aO (ciK kd) [.int x]])) := by
  refine sX11_manOfKind (Nat.le_of_ble_eq_true rfl) ?_
  rcases (show kd = 0 ∨ kd = 1 ∨ kd = 2 ∨ kd = 3 ∨ kd = 4 by omega) with rfl | rfl | rfl | rfl | rfl
  · refine g_iload eX11_manOfKind_0 rfl ?_
    refine g_tswOut (tgt := 68) eX11_manOfKind_1 (by decide) (by decide) ?_
    refine g_new (ci := 4) (r := (RX4, TX4, 1)) (fs := [.int 0]) (ty := tyX4) eX11_manOfKind_68 rfl uX4 tyX4_ok lX11_20 nX4 iX4 (fun j hj => match j, hj with | 0, _ => rfl | n + 1, h => absurd (show n + 1 < 1 from h) (by omega)) (okV_all rfl) (by exact Nat.le_of_ble_eq_true rfl) (by exact Nat.le_of_ble_eq_true rfl) ?_
    refine g_dup eX11_manOfKind_71 rfl ?_
    refine g_iload eX11_manOfKind_72 rfl ?_
    refine g_init eX11_manOfKind_73 kX11_240 (c_X4_init (x := x) (ci := 4) (by omega) app_new) (by rfl) (by rfl) (by exact Nat.le_of_ble_eq_true rfl) (by exact Nat.le_of_ble_eq_true rfl) (by exact Nat.le_of_ble_eq_true rfl) (by decide) (by decide) (fun v σ' hp hn => ?_)
    obtain ⟨rfl, rfl⟩ := hp
    rw [app_set]
    exact g_ret (eX11_manOfKind_76 _) (by decide) (by decide) ⟨rfl, rfl⟩
  · refine g_iload eX11_manOfKind_0 rfl ?_
    refine g_tswIn (off := 31) (tgt := 32) eX11_manOfKind_1 (by decide +kernel) (by decide +kernel) (by decide +kernel) (by decide) ?_
    refine g_new (ci := 7) (r := (RX7, TX7, 1)) (fs := [.int 0]) (ty := tyX7) eX11_manOfKind_32 rfl uX7 tyX7_ok lX11_226 nX7 iX7 (fun j hj => match j, hj with | 0, _ => rfl | n + 1, h => absurd (show n + 1 < 1 from h) (by omega)) (okV_all rfl) (by exact Nat.le_of_ble_eq_true rfl) (by exact Nat.le_of_ble_eq_true rfl) ?_
    refine g_dup eX11_manOfKind_35 rfl ?_
    refine g_iload eX11_manOfKind_36 rfl ?_
    refine g_init eX11_manOfKind_37 kX11_228 (c_X7_init (x := x) (ci := 7) (by omega) app_new) (by rfl) (by rfl) (by exact Nat.le_of_ble_eq_true rfl) (by exact Nat.le_of_ble_eq_true rfl) (by exact Nat.le_of_ble_eq_true rfl) (by decide) (by decide) (fun v σ' hp hn => ?_)
    obtain ⟨rfl, rfl⟩ := hp
    rw [app_set]
    exact g_ret (eX11_manOfKind_40 _) (by decide) (by decide) ⟨rfl, rfl⟩
  · refine g_iload eX11_manOfKind_0 rfl ?_
    refine g_tswIn (off := 40) (tgt := 41) eX11_manOfKind_1 (by decide +kernel) (by decide +kernel) (by decide +kernel) (by decide) ?_
    refine g_new (ci := 0) (r := (RX0, TX0, 1)) (fs := [.int 0]) (ty := tyX0) eX11_manOfKind_41 rfl uX0 tyX0_ok lX11_231 nX0 iX0 (fun j hj => match j, hj with | 0, _ => rfl | n + 1, h => absurd (show n + 1 < 1 from h) (by omega)) (okV_all rfl) (by exact Nat.le_of_ble_eq_true rfl) (by exact Nat.le_of_ble_eq_true rfl) ?_
    refine g_dup eX11_manOfKind_44 rfl ?_
    refine g_iload eX11_manOfKind_45 rfl ?_
    refine g_init eX11_manOfKind_46 kX11_233 (c_X0_init (x := x) (ci := 0) (by omega) app_new) (by rfl) (by rfl) (by exact Nat.le_of_ble_eq_true rfl) (by exact Nat.le_of_ble_eq_true rfl) (by exact Nat.le_of_ble_eq_true rfl) (by decide) (by decide) (fun v σ' hp hn => ?_)
    obtain ⟨rfl, rfl⟩ := hp
    rw [app_set]
    exact g_ret (eX11_manOfKind_49 _) (by decide) (by decide) ⟨rfl, rfl⟩
  · refine g_iload eX11_manOfKind_0 rfl ?_
    refine g_tswIn (off := 49) (tgt := 50) eX11_manOfKind_1 (by decide +kernel) (by decide +kernel) (by decide +kernel) (by decide) ?_
    refine g_new (ci := 1) (r := (RX1, TX1, 1)) (fs := [.int 0]) (ty := tyX1) eX11_manOfKind_50 rfl uX1 tyX1_ok lX11_234 nX1 iX1 (fun j hj => match j, hj with | 0, _ => rfl | n + 1, h => absurd (show n + 1 < 1 from h) (by omega)) (okV_all rfl) (by exact Nat.le_of_ble_eq_true rfl) (by exact Nat.le_of_ble_eq_true rfl) ?_
    refine g_dup eX11_manOfKind_53 rfl ?_
    refine g_iload eX11_manOfKind_54 rfl ?_
    refine g_init eX11_manOfKind_55 kX11_236 (c_X1_init (x := x) (ci := 1) (by omega) app_new) (by rfl) (by rfl) (by exact Nat.le_of_ble_eq_true rfl) (by exact Nat.le_of_ble_eq_true rfl) (by exact Nat.le_of_ble_eq_true rfl) (by decide) (by decide) (fun v σ' hp hn => ?_)
    obtain ⟨rfl, rfl⟩ := hp
    rw [app_set]
    exact g_ret (eX11_manOfKind_58 _) (by decide) (by decide) ⟨rfl, rfl⟩
  · refine g_iload eX11_manOfKind_0 rfl ?_
    refine g_tswIn (off := 58) (tgt := 59) eX11_manOfKind_1 (by decide +kernel) (by decide +kernel) (by decide +kernel) (by decide) ?_
    refine g_new (ci := 10) (r := (RX10, TX10, 1)) (fs := [.int 0]) (ty := tyX10) eX11_manOfKind_59 rfl uX10 tyX10_ok lX11_237 nX10 iX10 (fun j hj => match j, hj with | 0, _ => rfl | n + 1, h => absurd (show n + 1 < 1 from h) (by omega)) (okV_all rfl) (by exact Nat.le_of_ble_eq_true rfl) (by exact Nat.le_of_ble_eq_true rfl) ?_
    refine g_dup eX11_manOfKind_62 rfl ?_
    refine g_iload eX11_manOfKind_63 rfl ?_
    refine g_init eX11_manOfKind_64 kX11_239 (c_X10_init (x := x) (ci := 10) (by omega) app_new) (by rfl) (by rfl) (by exact Nat.le_of_ble_eq_true rfl) (by exact Nat.le_of_ble_eq_true rfl) (by exact Nat.le_of_ble_eq_true rfl) (by decide) (by decide) (fun v σ' hp hn => ?_)
    obtain ⟨rfl, rfl⟩ := hp
    rw [app_set]
    exact g_ret (eX11_manOfKind_67 _) (by decide) (by decide) ⟨rfl, rfl⟩
theorem ciK_cl {kd : Nat} (hk : kd < 5) : ∃ r, vwCl[ciK kd]? = some r ∧ (r.1 = "ReadAloud$Man" ∨ (r.1, "ReadAloud$Man") ∈ aCy) := by
  rcases (show kd = 0 ∨ kd = 1 ∨ kd = 2 ∨ kd = 3 ∨ kd = 4 by omega) with rfl | rfl | rfl | rfl | rfl
  · exact ⟨_, rfl, Or.inl rfl⟩
  · exact ⟨_, rfl, Or.inr (List.mem_of_getElem? (i := 1) rfl)⟩
  · exact ⟨_, rfl, Or.inr (List.mem_of_getElem? (i := 2) rfl)⟩
  · exact ⟨_, rfl, Or.inr (List.mem_of_getElem? (i := 3) rfl)⟩
  · exact ⟨_, rfl, Or.inr (List.mem_of_getElem? (i := 4) rfl)⟩
theorem getD_mem {α : Type} {l : List α} {i : Nat} {d : α} (h : i < l.length) : l.getD i d ∈ l := by
  rw [List.getD_eq_getElem?_getD, List.getElem?_eq_getElem h]
  exact List.getElem_mem h
theorem FrX.app {σ : aH} {c : aT} : FrX σ (σ ++ [c]) := ⟨by simp, fun j _ h => List.getElem?_append_left h⟩
theorem IX.man {t : St} {σ : aH} (hI : IX t σ) (hwf : WF t) (h40 : 28 ≤ σ.length) {kd d : Nat} {mr : List (Option Nat)} (lmr : mr.length = 4) (hm4 : (mnO (crO t)).length < 4) (e0 : σ[0]? = some (aO 11 [.ref 1, .ref 4, .ref 5, .ref 6, .ref 13, .ref 20, .ref 22, .int (nI (imB t)), .int (nI (ctO t)), .int (nI (brO t))])) (e5 : σ[5]? = some (.inr (.inl mr))) (hmr : ∀ i, i < (mnO (crO t)).length → ∃ q, mr[i]? = some (some q) ∧ 40 ≤ q ∧ σ[q]? = some (aO (ciK (manO (crO t) i).1) [.int (nI (manO (crO t) i).2.1)])) {ws wm dm hid : List Nat}
  (e6 : σ[6]? = some (aO 8 [.ref 7, .ref 9, .ref 12, .int (nI (lmO (crO t))), .int (nI (mnO (crO t)).length), .int (nI (chO (crO t)))])) (e7 : σ[7]? = some (aO 6 [.ref 8, .int (nI (shO (crO t)).length)])) (e8 : σ[8]? = some (aA ws)) (e9 : σ[9]? = some (aO 3 [.ref 10, .ref 11, .int (nI (hdO (crO t)).length)])) (e10 : σ[10]? = some (aA wm)) (e11 : σ[11]? = some (aA dm)) (e12 : σ[12]? = some (aA hid)) (lws : ws.length = 10) (hws : ∀ k, k < (shO (crO t)).length → ws.getD k 0 = (shO (crO t)).getD k 0) (lwm : wm.length = 8) (ldm : dm.length = 8) (bwm : ∀ k, wm.getD k 0 < 65536) (lhid : hid.length = 4) (hhid : ∀ i, i < (mnO (crO t)).length → hid.getD i 0 = (manO (crO t) i).2.2)
  (hhd : ∀ i, i < (hdO (crO t)).length → wm.getD i 0 = ((hdO (crO t)).getD i h0).1 ∧ dm.getD i 0 = msk (fitB (shW (nrO t)) (manO (crO t) ((hdO (crO t)).getD i h0).1).1 ((hdO (crO t)).getD i h0)) 5) :
  IX (wcr t (shO (crO t), lmO (crO t), mnO (crO t) ++ [(kd, d, 0)], chO (crO t), hdO (crO t))) ((((σ ++ [aO (ciK kd) [.int (nI d)]]).set 5 (.inr (.inl (mr.set (mnO (crO t)).length (some σ.length))))).set 12 (aA (hid.set (mnO (crO t)).length 0))).set 6 (aO 8 [.ref 7, .ref 9, .ref 12, .int (nI (lmO (crO t))), .int (nI ((mnO (crO t)).length + 1)), .int (nI (chO (crO t)))])) := by
  have h3 : ∀ j, j ≠ 5 → j ≠ 12 → j ≠ 6 → j < σ.length → ((((σ ++ [aO (ciK kd) [.int (nI d)]]).set 5 (.inr (.inl (mr.set (mnO (crO t)).length (some σ.length))))).set 12 (aA (hid.set (mnO (crO t)).length 0))).set 6 (aO 8 [.ref 7, .ref 9, .ref 12, .int (nI (lmO (crO t))), .int (nI ((mnO (crO t)).length + 1)), .int (nI (chO (crO t)))]))[j]? = σ[j]? := fun j a b c h => by
    rw [List.getElem?_set_ne (Ne.symm c), List.getElem?_set_ne (Ne.symm b), List.getElem?_set_ne (Ne.symm a), List.getElem?_append_left h]
  have h4 : ∀ j c, σ[j]? = some c → j ≠ 5 → j ≠ 12 → j ≠ 6 → ((((σ ++ [aO (ciK kd) [.int (nI d)]]).set 5 (.inr (.inl (mr.set (mnO (crO t)).length (some σ.length))))).set 12 (aA (hid.set (mnO (crO t)).length 0))).set 6 (aO 8 [.ref 7, .ref 9, .ref 12, .int (nI (lmO (crO t))), .int (nI ((mnO (crO t)).length + 1)), .int (nI (chO (crO t)))]))[j]? = some c := fun j c z a b e => (h3 j a b e (List.getElem?_eq_some_iff.mp z).1).trans z
  have hw12 := hwf.2.2.2.2.2.1.2.2.2.2.2.2
  obtain ⟨cd, y0, y1, y2, mr0, dws, dsz, bp, bw, bs, f0, f1, f2, f3, f4, f5, f20, f21, f22, f23, f24, hn, hk, hki, lcd, hcd, bcd, lmr0, ldws, lbp, lbw, hmen⟩ := hI
  refine ⟨cd, y0, y1, y2, _, dws, dsz, bp, bw, bs, h4 _ _ e0 (by decide) (by decide) (by decide), h4 _ _ f1 (by decide) (by decide) (by decide), h4 _ _ f2 (by decide) (by decide) (by decide), h4 _ _ f3 (by decide) (by decide) (by decide), h4 _ _ f4 (by decide) (by decide) (by decide), at_ne (by decide) (at_ne (by decide) (at_eq (at_pl e5))), h4 _ _ f20 (by decide) (by decide) (by decide), h4 _ _ f21 (by decide) (by decide) (by decide), h4 _ _ f22 (by decide) (by decide) (by decide), h4 _ _ f23 (by decide) (by decide) (by decide), h4 _ _ f24 (by decide) (by decide) (by decide), ?_, hk.at (fun j a b => h3 j (by omega) (by omega) (by omega) (by omega)), fun c hc => (hki c hc).at (fun j a b => h3 j (by omega) (by omega) (by omega) (by omega)), lcd, hcd, bcd, by rw [List.length_set]; exact lmr, ldws, lbp, lbw, fun i hi => ?_⟩
  · refine ⟨ws, wm, dm, hid.set (mnO (crO t)).length 0, ?_, h4 _ _ e7 (by decide) (by decide) (by decide), h4 _ _ e8 (by decide) (by decide) (by decide), h4 _ _ e9 (by decide) (by decide) (by decide), h4 _ _ e10 (by decide) (by decide) (by decide), h4 _ _ e11 (by decide) (by decide) (by decide), at_ne (by decide) (at_eq (at_ne (by decide) (at_pl e12))), lws, hws, lwm, ldm, bwm, by rw [List.length_set]; exact lhid, fun i hi => ?_, fun i hi => ?_⟩
    · show _ = some (aO 8 [.ref 7, .ref 9, .ref 12, .int (nI (lmO (crO t))), .int (nI (mnO (crO t) ++ [(kd, d, 0)]).length), .int (nI (chO (crO t)))])
      rw [List.length_append, List.length_singleton]
      exact at_eq (at_ne (by decide) (at_ne (by decide) (at_pl e6)))
    · have hi2 : i < (mnO (crO t)).length + 1 := by
        have : (mnO (crO t) ++ [(kd, d, 0)]).length = (mnO (crO t)).length + 1 := by simp
        exact this ▸ hi
      show _ = ((mnO (crO t) ++ [(kd, d, 0)]).getD i m0).2.2
      rw [getD_set, getD_app]
      by_cases h : i < (mnO (crO t)).length
      · rw [if_neg (by omega), if_pos h]
        exact hhid i h
      · rw [if_pos (by omega), if_neg h, if_pos (by omega)]
    · obtain ⟨g1, g2⟩ := hhd i hi
      refine ⟨g1, ?_⟩
      have hlt := (hw12 ((hdO (crO t)).getD i h0) (getD_mem (d := h0) hi)).1
      have hq : (mnO (crO t) ++ [(kd, d, 0)]).getD ((hdO (crO t)).getD i h0).1 m0 = manO (crO t) ((hdO (crO t)).getD i h0).1 := by
        rw [getD_app, if_pos hlt]
      exact g2.trans (congrArg (fun z : Mn => msk (fitB (shW (nrO t)) z.1 ((hdO (crO t)).getD i h0)) 5) hq.symm)
  · have hi2 : i < (mnO (crO t)).length + 1 := by
      have : (mnO (crO t) ++ [(kd, d, 0)]).length = (mnO (crO t)).length + 1 := by simp
      exact this ▸ hi
    show ∃ q, _ ∧ _ ∧ _ = some (aO (ciK ((mnO (crO t) ++ [(kd, d, 0)]).getD i m0).1) [.int (nI ((mnO (crO t) ++ [(kd, d, 0)]).getD i m0).2.1)])
    rw [getD_app]
    by_cases h : i < (mnO (crO t)).length
    · rw [if_pos h]
      obtain ⟨q, a1, a2, a3⟩ := hmr i h
      exact ⟨q, by rw [List.getElem?_set_ne (by omega)]; exact a1, a2, h4 _ _ a3 (by omega) (by omega) (by omega)⟩
    · obtain rfl : i = (mnO (crO t)).length := by omega
      rw [if_neg h, if_pos rfl]
      exact ⟨σ.length, List.getElem?_set_self (by omega), h40, by rw [List.getElem?_set_ne (by omega), List.getElem?_set_ne (by omega), List.getElem?_set_ne (by omega)]; exact app_new⟩
set_option maxRecDepth 20000 in
theorem x_accuse {σ : aH} {t : St} (hI : IX t σ) (hwf : WF t) (h40 : 28 ≤ σ.length) {x y : Int32} : MX11_accuse 5 1 1 [.ref 0, .int x, .int y] σ (fun v σ' => v = some (.int (oAccuse t x y).1) ∧ IX (oAccuse t x y).2 σ' ∧ FrX σ σ') := by
  refine sX11_accuse (Nat.le_of_ble_eq_true rfl) ?_
  have hI' := hI
  have hwf' := hwf
  obtain ⟨cd, x0, x1, x2, mr, dws, dsz, bp, bw, bs, e0, e1, e2, e3, e4, e5, e20, e21, e22, e23, e24, ⟨ws, wm, dm, hid, e6, e7, e8, e9, e10, e11, e12, lws, hws, lwm, ldm, bwm, lhid, hhid, hhd⟩, hk, hki, lcd, hcd, bcd, lmr, ldws, lbp, lbw, hmen⟩ := hI
  obtain ⟨w1, w2, w3, w4, w5, ⟨w6, w7, w8, w9, w10, w11, w12⟩, w13, w14, w15, w16, w17⟩ := hwf
  unfold oAccuse
  cases e : rg x 0 5 with
  | none =>
    dsimp only
    have hr := rg_none e
    refine g_iload eX11_accuse_0 rfl ?_
    refine g_callSp eX11_accuse_1 kX11_106 (c_isKindN hr) (by rfl) (by rfl) (by exact Nat.le_of_ble_eq_true rfl) (by exact Nat.le_of_ble_eq_true rfl) (by exact Nat.le_of_ble_eq_true rfl) (by decide) (by decide) ?_
    refine g_if_eqN eX11_accuse_4 (by omega) (fun c4 => ?_) (fun c4 => absurd rfl c4)
    refine g_push eX11_accuse_16 ?_
    exact g_ret (eX11_accuse_18 _) (by decide) (by decide) ⟨rfl, hI', FrX.rf⟩
  | some kd =>
    dsimp only
    obtain ⟨rfl, -, hkd⟩ := rg_some e
    cases f : rg y 0 5 with
    | none =>
      dsimp only
      have hr := rg_none f
      refine g_iload eX11_accuse_0 rfl ?_
      refine g_callSp eX11_accuse_1 kX11_106 (c_isKindT hkd) (by rfl) (by rfl) (by exact Nat.le_of_ble_eq_true rfl) (by exact Nat.le_of_ble_eq_true rfl) (by exact Nat.le_of_ble_eq_true rfl) (by decide) (by decide) ?_
      refine g_if_eqN eX11_accuse_4 (by omega) (fun c4 => absurd c4 (by decide)) (fun c4 => ?_)
      refine g_iload eX11_accuse_7 rfl ?_
      refine g_if_ltI eX11_accuse_8 (fun c8 => ?_) (fun c8 => ?_)
      · refine g_push eX11_accuse_16 ?_
        exact g_ret (eX11_accuse_18 _) (by decide) (by decide) ⟨rfl, hI', FrX.rf⟩
      · refine g_iload eX11_accuse_11 rfl ?_
        refine g_push eX11_accuse_12 ?_
        refine g_icmp_ltI eX11_accuse_13 (by decide) (fun c13 => by exfalso; omega) (fun c13 => ?_)
        refine g_push eX11_accuse_16 ?_
        exact g_ret (eX11_accuse_18 _) (by decide) (by decide) ⟨rfl, hI', FrX.rf⟩
    | some d =>
      dsimp only
      obtain ⟨rfl, -, hd5⟩ := rg_some f
      obtain ⟨r, hr1, hr2⟩ := ciK_cl hkd
      refine g_iload eX11_accuse_0 rfl ?_
      refine g_callSp eX11_accuse_1 kX11_106 (c_isKindT hkd) (by rfl) (by rfl) (by exact Nat.le_of_ble_eq_true rfl) (by exact Nat.le_of_ble_eq_true rfl) (by exact Nat.le_of_ble_eq_true rfl) (by decide) (by decide) ?_
      refine g_if_eqN eX11_accuse_4 (by omega) (fun c4 => absurd c4 (by decide)) (fun c4 => ?_)
      refine g_iload eX11_accuse_7 rfl ?_
      refine g_if_ltN eX11_accuse_8 (by omega) ?_
      refine g_iload eX11_accuse_11 rfl ?_
      refine g_push eX11_accuse_12 ?_
      refine g_icmp_ltN eX11_accuse_13 (by omega) (by omega) (fun c13 => ?_) (fun c13 => by exfalso; omega)
      refine g_aload eX11_accuse_19 rfl ?_
      refine g_callVp (r := (RX11, TX11, 10)) eX11_accuse_20 kX11_83 e0 (by rfl) (c_hasCourt hI' hwf') (by rfl) (by rfl) (by exact Nat.le_of_ble_eq_true rfl) (by exact Nat.le_of_ble_eq_true rfl) (by exact Nat.le_of_ble_eq_true rfl) (by decide) (by decide) ?_
      refine g_if_neN eX11_accuse_23 (bt_lt _) (fun c23 => ?_) (fun c23 => ?_)
      · have hyes := bt_1 c23
        refine g_aload eX11_accuse_29 rfl ?_
        refine g_get eX11_accuse_30 fX11_29_X11 e0 (by rfl) ?_
        refine g_get eX11_accuse_33 fX11_109_X8 e6 (by rfl) ?_
        refine g_istore eX11_accuse_36 rfl ?_
        refine g_iload eX11_accuse_37 rfl ?_
        refine g_if_ltN eX11_accuse_38 (by omega) ?_
        refine g_iload eX11_accuse_41 rfl ?_
        refine g_push eX11_accuse_42 ?_
        refine g_icmp_ltN eX11_accuse_43 (by omega) (by omega) (fun c43 => ?_) (fun c43 => ?_)
        · refine g_aload eX11_accuse_49 rfl ?_
          refine g_get eX11_accuse_50 fX11_22_X11 e0 (by rfl) ?_
          refine g_iload eX11_accuse_53 rfl ?_
          refine g_iload eX11_accuse_54 rfl ?_
          refine g_iload eX11_accuse_55 rfl ?_
          refine g_callS eX11_accuse_56 kX11_111 (c_manOfKind (x := nI d) hkd) (by rfl) (by rfl) (by exact Nat.le_of_ble_eq_true rfl) (by exact Nat.le_of_ble_eq_true rfl) (by exact Nat.le_of_ble_eq_true rfl) (by decide) (by decide) (fun v σ' hp hn => ?_)
          obtain ⟨rfl, rfl⟩ := hp
          refine g_aast eX11_accuse_59 (at_pl e5) app_new hr1 hr2 (by rw [lmr]; exact vp_in_nI (by omega) (by omega)) ?_
          rw [nI_clamp (by omega)]
          refine g_aload eX11_accuse_60 rfl ?_
          refine g_get eX11_accuse_61 fX11_29_X11 (at_ne (by decide) (at_pl e0)) (by rfl) ?_
          refine g_get eX11_accuse_64 fX11_115_X8 (at_ne (by decide) (at_pl e6)) (by rfl) ?_
          refine g_iload eX11_accuse_67 rfl ?_
          refine g_push eX11_accuse_68 ?_
          refine g_iastN eX11_accuse_69 (at_ne (by decide) (at_pl e12)) (by omega) (by omega) ?_
          refine g_aload eX11_accuse_70 rfl ?_
          refine g_get eX11_accuse_71 fX11_29_X11 (at_ne (by decide) (at_ne (by decide) (at_pl e0))) (by rfl) ?_
          refine g_dup eX11_accuse_74 rfl ?_
          refine g_get eX11_accuse_75 fX11_109_X8 (at_ne (by decide) (at_ne (by decide) (at_pl e6))) (by rfl) ?_
          refine g_push eX11_accuse_78 ?_
          refine g_iaddN eX11_accuse_79 ?_
          refine g_putI eX11_accuse_80 fX11_109_X8 pX8_4 (at_ne (by decide) (at_ne (by decide) (at_pl e6))) (by exact Nat.le_of_ble_eq_true rfl) ?_
          refine g_iload eX11_accuse_83 rfl ?_
          exact g_ret (eX11_accuse_84 _) (by decide) (by decide) (by
            rw [if_pos hyes, if_pos (show (mnO (crO t)).length < 4 by omega)]
            refine ⟨rfl, IX.man hI' hwf' h40 lmr (by omega) e0 e5 hmen e6 e7 e8 e9 e10 e11 e12 lws hws lwm ldm bwm lhid hhid hhd, ?_⟩
            exact (((FrX.app).st (by decide)).st (by decide)).st (by decide))
        · refine g_push eX11_accuse_46 ?_
          exact g_ret (eX11_accuse_48 _) (by decide) (by decide) (by rw [if_pos hyes, if_neg (show ¬ (mnO (crO t)).length < 4 by omega)]; exact ⟨rfl, hI', FrX.rf⟩)
      · have hno := bt_0 c23
        refine g_push eX11_accuse_26 ?_
        exact g_ret (eX11_accuse_28 _) (by decide) (by decide) (by rw [if_neg hno]; exact ⟨rfl, hI', FrX.rf⟩)
end
section
/-! the objects' birth: the class's 25 cells, the reference's 15 behind them -/
def hp_0 : aH := [aO 11 [.null, .null, .null, .null, .null, .null, .null, .int 0, .int 0, .int 0]]
def hp_1 : aH := [aO 11 [.null, .null, .null, .null, .null, .null, .null, .int 0, .int 0, .int 0], aO 5 [.null, .null, .int 0]]
def hp_2 : aH := [aO 11 [.null, .null, .null, .null, .null, .null, .null, .int 0, .int 0, .int 0], aO 5 [.null, .null, .int 0], .inl (List.replicate 28 0)]
def hp_3 : aH := [aO 11 [.null, .null, .null, .null, .null, .null, .null, .int 0, .int 0, .int 0], aO 5 [.ref 2, .null, .int 0], .inl (List.replicate 28 0)]
def hp_4 : aH := [aO 11 [.null, .null, .null, .null, .null, .null, .null, .int 0, .int 0, .int 0], aO 5 [.ref 2, .null, .int 0], .inl (List.replicate 28 0), aO 9 [.int 0, .int 0, .int 0]]
set_option maxRecDepth 20000 in
theorem c_init_X9_3 : MX9_init 1 0 0 [.ref 3] hp_4 (aPu none hp_4) := by
  refine sX9_init (Nat.le_of_ble_eq_true rfl) ?_
  refine g_aload eX9_init_0 rfl ?_
  refine g_obj eX9_init_1 kX9_3 (by exact Nat.le_of_ble_eq_true rfl) (by exact Nat.le_of_ble_eq_true rfl) ?_
  exact g_ret eX9_init_4 (by exact Nat.le_of_ble_eq_true rfl) (by exact Nat.le_of_ble_eq_true rfl) ⟨rfl, rfl⟩
def hp_5 : aH := [aO 11 [.null, .null, .null, .null, .null, .null, .null, .int 0, .int 0, .int 0], aO 5 [.ref 2, .ref 3, .int 0], .inl (List.replicate 28 0), aO 9 [.int 0, .int 0, .int 0]]
set_option maxRecDepth 20000 in
theorem c_init_X5_1 : MX5_init 2 2 31 [.ref 1] hp_1 (aPu none hp_5) := by
  refine sX5_init (Nat.le_of_ble_eq_true rfl) ?_
  refine g_aload eX5_init_0 rfl ?_
  refine g_obj eX5_init_1 kX5_3 (by exact Nat.le_of_ble_eq_true rfl) (by exact Nat.le_of_ble_eq_true rfl) ?_
  refine g_aload eX5_init_4 rfl ?_
  refine g_push (v := nI 28) eX5_init_5 ?_
  refine g_newa (N := 28) eX5_init_7 rfl (by exact Nat.le_of_ble_eq_true rfl) (by exact Nat.le_of_ble_eq_true rfl) (by exact Nat.le_of_ble_eq_true rfl) ?_
  show GX5_init 2 2 31 (aPu none hp_5) 1 28 9 [some (.ref 1)] [.ref 2, .ref 1] hp_2
  refine g_putA eX5_init_9 fX5_9_X5 pX5_0 rfl (fun q h => by cases h; rfl) (by rfl) (by exact Nat.le_of_ble_eq_true rfl) ?_
  show GX5_init 2 2 31 (aPu none hp_5) 1 28 12 [some (.ref 1)] [] hp_3
  refine g_aload eX5_init_12 rfl ?_
  refine g_new (ci := 9) (r := (RX9, TX9, 3)) (fs := [.int 0, .int 0, .int 0]) (ty := tyX9) eX5_init_13 rfl uX9 tyX9_ok lX5_15 nX9 iX9 (fun j hj => match j, hj with | 0, _ => rfl | 1, _ => rfl | 2, _ => rfl | n + 3, h => absurd (show n + 3 < 3 from h) (by omega)) (okV_all rfl) (by exact Nat.le_of_ble_eq_true rfl) (by exact Nat.le_of_ble_eq_true rfl) ?_
  show GX5_init 2 2 31 (aPu none hp_5) 2 31 16 [some (.ref 1)] [.ref 3, .ref 1] hp_4
  refine g_dup eX5_init_16 rfl ?_
  refine g_initn eX5_init_17 kX5_17 c_init_X9_3 (by rfl) (by rfl) (by exact Nat.le_of_ble_eq_true rfl) (by exact Nat.le_of_ble_eq_true rfl) (by exact Nat.le_of_ble_eq_true rfl) (by exact Nat.le_of_ble_eq_true rfl) (by exact Nat.le_of_ble_eq_true rfl) (fun v σ' hp hn => ?_)
  obtain ⟨rfl, rfl⟩ := hp
  show GX5_init 2 2 31 (aPu none hp_5) 2 31 20 [some (.ref 1)] [.ref 3, .ref 1] hp_4
  refine g_putR eX5_init_20 fX5_18_X5 pX5_1 rfl (fun q h => by cases h; rfl) (by rfl) (by exact Nat.le_of_ble_eq_true rfl) ?_
  show GX5_init 2 2 31 (aPu none hp_5) 2 31 23 [some (.ref 1)] [] hp_5
  exact g_ret eX5_init_23 (by exact Nat.le_of_ble_eq_true rfl) (by exact Nat.le_of_ble_eq_true rfl) ⟨rfl, rfl⟩
def hp_6 : aH := [aO 11 [.ref 1, .null, .null, .null, .null, .null, .null, .int 0, .int 0, .int 0], aO 5 [.ref 2, .ref 3, .int 0], .inl (List.replicate 28 0), aO 9 [.int 0, .int 0, .int 0]]
def hp_7 : aH := [aO 11 [.ref 1, .null, .null, .null, .null, .null, .null, .int 0, .int 0, .int 0], aO 5 [.ref 2, .ref 3, .int 0], .inl (List.replicate 28 0), aO 9 [.int 0, .int 0, .int 0], .inl (List.replicate 5 0)]
def hp_8 : aH := [aO 11 [.ref 1, .ref 4, .null, .null, .null, .null, .null, .int 0, .int 0, .int 0], aO 5 [.ref 2, .ref 3, .int 0], .inl (List.replicate 28 0), aO 9 [.int 0, .int 0, .int 0], .inl (List.replicate 5 0)]
def hp_9 : aH := [aO 11 [.ref 1, .ref 4, .null, .null, .null, .null, .null, .int 0, .int 0, .int 0], aO 5 [.ref 2, .ref 3, .int 0], .inl (List.replicate 28 0), aO 9 [.int 0, .int 0, .int 0], .inl (List.replicate 5 0), .inr (.inl (List.replicate 4 none))]
def hp_10 : aH := [aO 11 [.ref 1, .ref 4, .ref 5, .null, .null, .null, .null, .int 0, .int 0, .int 0], aO 5 [.ref 2, .ref 3, .int 0], .inl (List.replicate 28 0), aO 9 [.int 0, .int 0, .int 0], .inl (List.replicate 5 0), .inr (.inl (List.replicate 4 none))]
def hp_11 : aH := [aO 11 [.ref 1, .ref 4, .ref 5, .null, .null, .null, .null, .int 0, .int 0, .int 0], aO 5 [.ref 2, .ref 3, .int 0], .inl (List.replicate 28 0), aO 9 [.int 0, .int 0, .int 0], .inl (List.replicate 5 0), .inr (.inl (List.replicate 4 none)), aO 8 [.null, .null, .null, .int 0, .int 0, .int 0]]
def hp_12 : aH := [aO 11 [.ref 1, .ref 4, .ref 5, .null, .null, .null, .null, .int 0, .int 0, .int 0], aO 5 [.ref 2, .ref 3, .int 0], .inl (List.replicate 28 0), aO 9 [.int 0, .int 0, .int 0], .inl (List.replicate 5 0), .inr (.inl (List.replicate 4 none)), aO 8 [.null, .null, .null, .int 0, .int 0, .int 0], aO 6 [.null, .int 0]]
def hp_13 : aH := [aO 11 [.ref 1, .ref 4, .ref 5, .null, .null, .null, .null, .int 0, .int 0, .int 0], aO 5 [.ref 2, .ref 3, .int 0], .inl (List.replicate 28 0), aO 9 [.int 0, .int 0, .int 0], .inl (List.replicate 5 0), .inr (.inl (List.replicate 4 none)), aO 8 [.null, .null, .null, .int 0, .int 0, .int 0], aO 6 [.null, .int 0], .inl (List.replicate 10 0)]
def hp_14 : aH := [aO 11 [.ref 1, .ref 4, .ref 5, .null, .null, .null, .null, .int 0, .int 0, .int 0], aO 5 [.ref 2, .ref 3, .int 0], .inl (List.replicate 28 0), aO 9 [.int 0, .int 0, .int 0], .inl (List.replicate 5 0), .inr (.inl (List.replicate 4 none)), aO 8 [.null, .null, .null, .int 0, .int 0, .int 0], aO 6 [.ref 8, .int 0], .inl (List.replicate 10 0)]
set_option maxRecDepth 20000 in
theorem c_init_X6_7 : MX6_init 1 1 10 [.ref 7] hp_12 (aPu none hp_14) := by
  refine sX6_init (Nat.le_of_ble_eq_true rfl) ?_
  refine g_aload eX6_init_0 rfl ?_
  refine g_obj eX6_init_1 kX6_3 (by exact Nat.le_of_ble_eq_true rfl) (by exact Nat.le_of_ble_eq_true rfl) ?_
  refine g_aload eX6_init_4 rfl ?_
  refine g_push (v := nI 10) eX6_init_5 ?_
  refine g_newa (N := 10) eX6_init_7 rfl (by exact Nat.le_of_ble_eq_true rfl) (by exact Nat.le_of_ble_eq_true rfl) (by exact Nat.le_of_ble_eq_true rfl) ?_
  show GX6_init 1 1 10 (aPu none hp_14) 1 10 9 [some (.ref 7)] [.ref 8, .ref 7] hp_13
  refine g_putA eX6_init_9 fX6_9_X6 pX6_0 rfl (fun q h => by cases h; rfl) (by rfl) (by exact Nat.le_of_ble_eq_true rfl) ?_
  show GX6_init 1 1 10 (aPu none hp_14) 1 10 12 [some (.ref 7)] [] hp_14
  exact g_ret eX6_init_12 (by exact Nat.le_of_ble_eq_true rfl) (by exact Nat.le_of_ble_eq_true rfl) ⟨rfl, rfl⟩
def hp_15 : aH := [aO 11 [.ref 1, .ref 4, .ref 5, .null, .null, .null, .null, .int 0, .int 0, .int 0], aO 5 [.ref 2, .ref 3, .int 0], .inl (List.replicate 28 0), aO 9 [.int 0, .int 0, .int 0], .inl (List.replicate 5 0), .inr (.inl (List.replicate 4 none)), aO 8 [.ref 7, .null, .null, .int 0, .int 0, .int 0], aO 6 [.ref 8, .int 0], .inl (List.replicate 10 0)]
def hp_16 : aH := [aO 11 [.ref 1, .ref 4, .ref 5, .null, .null, .null, .null, .int 0, .int 0, .int 0], aO 5 [.ref 2, .ref 3, .int 0], .inl (List.replicate 28 0), aO 9 [.int 0, .int 0, .int 0], .inl (List.replicate 5 0), .inr (.inl (List.replicate 4 none)), aO 8 [.ref 7, .null, .null, .int 0, .int 0, .int 0], aO 6 [.ref 8, .int 0], .inl (List.replicate 10 0), aO 3 [.null, .null, .int 0]]
def hp_17 : aH := [aO 11 [.ref 1, .ref 4, .ref 5, .null, .null, .null, .null, .int 0, .int 0, .int 0], aO 5 [.ref 2, .ref 3, .int 0], .inl (List.replicate 28 0), aO 9 [.int 0, .int 0, .int 0], .inl (List.replicate 5 0), .inr (.inl (List.replicate 4 none)), aO 8 [.ref 7, .null, .null, .int 0, .int 0, .int 0], aO 6 [.ref 8, .int 0], .inl (List.replicate 10 0), aO 3 [.null, .null, .int 0], .inl (List.replicate 8 0)]
def hp_18 : aH := [aO 11 [.ref 1, .ref 4, .ref 5, .null, .null, .null, .null, .int 0, .int 0, .int 0], aO 5 [.ref 2, .ref 3, .int 0], .inl (List.replicate 28 0), aO 9 [.int 0, .int 0, .int 0], .inl (List.replicate 5 0), .inr (.inl (List.replicate 4 none)), aO 8 [.ref 7, .null, .null, .int 0, .int 0, .int 0], aO 6 [.ref 8, .int 0], .inl (List.replicate 10 0), aO 3 [.ref 10, .null, .int 0], .inl (List.replicate 8 0)]
def hp_19 : aH := [aO 11 [.ref 1, .ref 4, .ref 5, .null, .null, .null, .null, .int 0, .int 0, .int 0], aO 5 [.ref 2, .ref 3, .int 0], .inl (List.replicate 28 0), aO 9 [.int 0, .int 0, .int 0], .inl (List.replicate 5 0), .inr (.inl (List.replicate 4 none)), aO 8 [.ref 7, .null, .null, .int 0, .int 0, .int 0], aO 6 [.ref 8, .int 0], .inl (List.replicate 10 0), aO 3 [.ref 10, .null, .int 0], .inl (List.replicate 8 0), .inl (List.replicate 8 0)]
def hp_20 : aH := [aO 11 [.ref 1, .ref 4, .ref 5, .null, .null, .null, .null, .int 0, .int 0, .int 0], aO 5 [.ref 2, .ref 3, .int 0], .inl (List.replicate 28 0), aO 9 [.int 0, .int 0, .int 0], .inl (List.replicate 5 0), .inr (.inl (List.replicate 4 none)), aO 8 [.ref 7, .null, .null, .int 0, .int 0, .int 0], aO 6 [.ref 8, .int 0], .inl (List.replicate 10 0), aO 3 [.ref 10, .ref 11, .int 0], .inl (List.replicate 8 0), .inl (List.replicate 8 0)]
set_option maxRecDepth 20000 in
theorem c_init_X3_9 : MX3_init 1 2 16 [.ref 9] hp_16 (aPu none hp_20) := by
  refine sX3_init (Nat.le_of_ble_eq_true rfl) ?_
  refine g_aload eX3_init_0 rfl ?_
  refine g_obj eX3_init_1 kX3_3 (by exact Nat.le_of_ble_eq_true rfl) (by exact Nat.le_of_ble_eq_true rfl) ?_
  refine g_aload eX3_init_4 rfl ?_
  refine g_push (v := nI 8) eX3_init_5 ?_
  refine g_newa (N := 8) eX3_init_7 rfl (by exact Nat.le_of_ble_eq_true rfl) (by exact Nat.le_of_ble_eq_true rfl) (by exact Nat.le_of_ble_eq_true rfl) ?_
  show GX3_init 1 2 16 (aPu none hp_20) 1 8 9 [some (.ref 9)] [.ref 10, .ref 9] hp_17
  refine g_putA eX3_init_9 fX3_9_X3 pX3_0 rfl (fun q h => by cases h; rfl) (by rfl) (by exact Nat.le_of_ble_eq_true rfl) ?_
  show GX3_init 1 2 16 (aPu none hp_20) 1 8 12 [some (.ref 9)] [] hp_18
  refine g_aload eX3_init_12 rfl ?_
  refine g_push (v := nI 8) eX3_init_13 ?_
  refine g_newa (N := 8) eX3_init_15 rfl (by exact Nat.le_of_ble_eq_true rfl) (by exact Nat.le_of_ble_eq_true rfl) (by exact Nat.le_of_ble_eq_true rfl) ?_
  show GX3_init 1 2 16 (aPu none hp_20) 2 16 17 [some (.ref 9)] [.ref 11, .ref 9] hp_19
  refine g_putA eX3_init_17 fX3_15_X3 pX3_1 rfl (fun q h => by cases h; rfl) (by rfl) (by exact Nat.le_of_ble_eq_true rfl) ?_
  show GX3_init 1 2 16 (aPu none hp_20) 2 16 20 [some (.ref 9)] [] hp_20
  exact g_ret eX3_init_20 (by exact Nat.le_of_ble_eq_true rfl) (by exact Nat.le_of_ble_eq_true rfl) ⟨rfl, rfl⟩
def hp_21 : aH := [aO 11 [.ref 1, .ref 4, .ref 5, .null, .null, .null, .null, .int 0, .int 0, .int 0], aO 5 [.ref 2, .ref 3, .int 0], .inl (List.replicate 28 0), aO 9 [.int 0, .int 0, .int 0], .inl (List.replicate 5 0), .inr (.inl (List.replicate 4 none)), aO 8 [.ref 7, .ref 9, .null, .int 0, .int 0, .int 0], aO 6 [.ref 8, .int 0], .inl (List.replicate 10 0), aO 3 [.ref 10, .ref 11, .int 0], .inl (List.replicate 8 0), .inl (List.replicate 8 0)]
def hp_22 : aH := [aO 11 [.ref 1, .ref 4, .ref 5, .null, .null, .null, .null, .int 0, .int 0, .int 0], aO 5 [.ref 2, .ref 3, .int 0], .inl (List.replicate 28 0), aO 9 [.int 0, .int 0, .int 0], .inl (List.replicate 5 0), .inr (.inl (List.replicate 4 none)), aO 8 [.ref 7, .ref 9, .null, .int 0, .int 0, .int 0], aO 6 [.ref 8, .int 0], .inl (List.replicate 10 0), aO 3 [.ref 10, .ref 11, .int 0], .inl (List.replicate 8 0), .inl (List.replicate 8 0), .inl (List.replicate 4 0)]
def hp_23 : aH := [aO 11 [.ref 1, .ref 4, .ref 5, .null, .null, .null, .null, .int 0, .int 0, .int 0], aO 5 [.ref 2, .ref 3, .int 0], .inl (List.replicate 28 0), aO 9 [.int 0, .int 0, .int 0], .inl (List.replicate 5 0), .inr (.inl (List.replicate 4 none)), aO 8 [.ref 7, .ref 9, .ref 12, .int 0, .int 0, .int 0], aO 6 [.ref 8, .int 0], .inl (List.replicate 10 0), aO 3 [.ref 10, .ref 11, .int 0], .inl (List.replicate 8 0), .inl (List.replicate 8 0), .inl (List.replicate 4 0)]
set_option maxRecDepth 20000 in
theorem c_init_X8_6 : MX8_init 2 6 35 [.ref 6] hp_11 (aPu none hp_23) := by
  refine sX8_init (Nat.le_of_ble_eq_true rfl) ?_
  refine g_aload eX8_init_0 rfl ?_
  refine g_obj eX8_init_1 kX8_3 (by exact Nat.le_of_ble_eq_true rfl) (by exact Nat.le_of_ble_eq_true rfl) ?_
  refine g_aload eX8_init_4 rfl ?_
  refine g_new (ci := 6) (r := (RX6, TX6, 2)) (fs := [.null, .int 0]) (ty := tyX6) eX8_init_5 rfl uX6 tyX6_ok lX8_9 nX6 iX6 (fun j hj => match j, hj with | 0, _ => rfl | 1, _ => rfl | n + 2, h => absurd (show n + 2 < 2 from h) (by omega)) (okV_all rfl) (by exact Nat.le_of_ble_eq_true rfl) (by exact Nat.le_of_ble_eq_true rfl) ?_
  show GX8_init 2 6 35 (aPu none hp_23) 1 2 8 [some (.ref 6)] [.ref 7, .ref 6] hp_12
  refine g_dup eX8_init_8 rfl ?_
  refine g_initn eX8_init_9 kX8_11 c_init_X6_7 (by rfl) (by rfl) (by exact Nat.le_of_ble_eq_true rfl) (by exact Nat.le_of_ble_eq_true rfl) (by exact Nat.le_of_ble_eq_true rfl) (by exact Nat.le_of_ble_eq_true rfl) (by exact Nat.le_of_ble_eq_true rfl) (fun v σ' hp hn => ?_)
  obtain ⟨rfl, rfl⟩ := hp
  show GX8_init 2 6 35 (aPu none hp_23) 2 12 12 [some (.ref 6)] [.ref 7, .ref 6] hp_14
  refine g_putR eX8_init_12 fX8_12_X8 pX8_0 rfl (fun q h => by cases h; rfl) (by rfl) (by exact Nat.le_of_ble_eq_true rfl) ?_
  show GX8_init 2 6 35 (aPu none hp_23) 2 12 15 [some (.ref 6)] [] hp_15
  refine g_aload eX8_init_15 rfl ?_
  refine g_new (ci := 3) (r := (RX3, TX3, 3)) (fs := [.null, .null, .int 0]) (ty := tyX3) eX8_init_16 rfl uX3 tyX3_ok lX8_18 nX3 iX3 (fun j hj => match j, hj with | 0, _ => rfl | 1, _ => rfl | 2, _ => rfl | n + 3, h => absurd (show n + 3 < 3 from h) (by omega)) (okV_all rfl) (by exact Nat.le_of_ble_eq_true rfl) (by exact Nat.le_of_ble_eq_true rfl) ?_
  show GX8_init 2 6 35 (aPu none hp_23) 3 15 19 [some (.ref 6)] [.ref 9, .ref 6] hp_16
  refine g_dup eX8_init_19 rfl ?_
  refine g_initn eX8_init_20 kX8_20 c_init_X3_9 (by rfl) (by rfl) (by exact Nat.le_of_ble_eq_true rfl) (by exact Nat.le_of_ble_eq_true rfl) (by exact Nat.le_of_ble_eq_true rfl) (by exact Nat.le_of_ble_eq_true rfl) (by exact Nat.le_of_ble_eq_true rfl) (fun v σ' hp hn => ?_)
  obtain ⟨rfl, rfl⟩ := hp
  show GX8_init 2 6 35 (aPu none hp_23) 5 31 23 [some (.ref 6)] [.ref 9, .ref 6] hp_20
  refine g_putR eX8_init_23 fX8_21_X8 pX8_1 rfl (fun q h => by cases h; rfl) (by rfl) (by exact Nat.le_of_ble_eq_true rfl) ?_
  show GX8_init 2 6 35 (aPu none hp_23) 5 31 26 [some (.ref 6)] [] hp_21
  refine g_aload eX8_init_26 rfl ?_
  refine g_push (v := nI 4) eX8_init_27 ?_
  refine g_newa (N := 4) eX8_init_28 rfl (by exact Nat.le_of_ble_eq_true rfl) (by exact Nat.le_of_ble_eq_true rfl) (by exact Nat.le_of_ble_eq_true rfl) ?_
  show GX8_init 2 6 35 (aPu none hp_23) 6 35 30 [some (.ref 6)] [.ref 12, .ref 6] hp_22
  refine g_putA eX8_init_30 fX8_25_X8 pX8_2 rfl (fun q h => by cases h; rfl) (by rfl) (by exact Nat.le_of_ble_eq_true rfl) ?_
  show GX8_init 2 6 35 (aPu none hp_23) 6 35 33 [some (.ref 6)] [] hp_23
  exact g_ret eX8_init_33 (by exact Nat.le_of_ble_eq_true rfl) (by exact Nat.le_of_ble_eq_true rfl) ⟨rfl, rfl⟩
def hp_24 : aH := [aO 11 [.ref 1, .ref 4, .ref 5, .ref 6, .null, .null, .null, .int 0, .int 0, .int 0], aO 5 [.ref 2, .ref 3, .int 0], .inl (List.replicate 28 0), aO 9 [.int 0, .int 0, .int 0], .inl (List.replicate 5 0), .inr (.inl (List.replicate 4 none)), aO 8 [.ref 7, .ref 9, .ref 12, .int 0, .int 0, .int 0], aO 6 [.ref 8, .int 0], .inl (List.replicate 10 0), aO 3 [.ref 10, .ref 11, .int 0], .inl (List.replicate 8 0), .inl (List.replicate 8 0), .inl (List.replicate 4 0)]
def hp_25 : aH := [aO 11 [.ref 1, .ref 4, .ref 5, .ref 6, .null, .null, .null, .int 0, .int 0, .int 0], aO 5 [.ref 2, .ref 3, .int 0], .inl (List.replicate 28 0), aO 9 [.int 0, .int 0, .int 0], .inl (List.replicate 5 0), .inr (.inl (List.replicate 4 none)), aO 8 [.ref 7, .ref 9, .ref 12, .int 0, .int 0, .int 0], aO 6 [.ref 8, .int 0], .inl (List.replicate 10 0), aO 3 [.ref 10, .ref 11, .int 0], .inl (List.replicate 8 0), .inl (List.replicate 8 0), .inl (List.replicate 4 0), aO 8 [.null, .null, .null, .int 0, .int 0, .int 0]]
def hp_26 : aH := [aO 11 [.ref 1, .ref 4, .ref 5, .ref 6, .null, .null, .null, .int 0, .int 0, .int 0], aO 5 [.ref 2, .ref 3, .int 0], .inl (List.replicate 28 0), aO 9 [.int 0, .int 0, .int 0], .inl (List.replicate 5 0), .inr (.inl (List.replicate 4 none)), aO 8 [.ref 7, .ref 9, .ref 12, .int 0, .int 0, .int 0], aO 6 [.ref 8, .int 0], .inl (List.replicate 10 0), aO 3 [.ref 10, .ref 11, .int 0], .inl (List.replicate 8 0), .inl (List.replicate 8 0), .inl (List.replicate 4 0), aO 8 [.null, .null, .null, .int 0, .int 0, .int 0], aO 6 [.null, .int 0]]
def hp_27 : aH := [aO 11 [.ref 1, .ref 4, .ref 5, .ref 6, .null, .null, .null, .int 0, .int 0, .int 0], aO 5 [.ref 2, .ref 3, .int 0], .inl (List.replicate 28 0), aO 9 [.int 0, .int 0, .int 0], .inl (List.replicate 5 0), .inr (.inl (List.replicate 4 none)), aO 8 [.ref 7, .ref 9, .ref 12, .int 0, .int 0, .int 0], aO 6 [.ref 8, .int 0], .inl (List.replicate 10 0), aO 3 [.ref 10, .ref 11, .int 0], .inl (List.replicate 8 0), .inl (List.replicate 8 0), .inl (List.replicate 4 0), aO 8 [.null, .null, .null, .int 0, .int 0, .int 0], aO 6 [.null, .int 0], .inl (List.replicate 10 0)]
def hp_28 : aH := [aO 11 [.ref 1, .ref 4, .ref 5, .ref 6, .null, .null, .null, .int 0, .int 0, .int 0], aO 5 [.ref 2, .ref 3, .int 0], .inl (List.replicate 28 0), aO 9 [.int 0, .int 0, .int 0], .inl (List.replicate 5 0), .inr (.inl (List.replicate 4 none)), aO 8 [.ref 7, .ref 9, .ref 12, .int 0, .int 0, .int 0], aO 6 [.ref 8, .int 0], .inl (List.replicate 10 0), aO 3 [.ref 10, .ref 11, .int 0], .inl (List.replicate 8 0), .inl (List.replicate 8 0), .inl (List.replicate 4 0), aO 8 [.null, .null, .null, .int 0, .int 0, .int 0], aO 6 [.ref 15, .int 0], .inl (List.replicate 10 0)]
set_option maxRecDepth 20000 in
theorem c_init_X6_14 : MX6_init 1 1 10 [.ref 14] hp_26 (aPu none hp_28) := by
  refine sX6_init (Nat.le_of_ble_eq_true rfl) ?_
  refine g_aload eX6_init_0 rfl ?_
  refine g_obj eX6_init_1 kX6_3 (by exact Nat.le_of_ble_eq_true rfl) (by exact Nat.le_of_ble_eq_true rfl) ?_
  refine g_aload eX6_init_4 rfl ?_
  refine g_push (v := nI 10) eX6_init_5 ?_
  refine g_newa (N := 10) eX6_init_7 rfl (by exact Nat.le_of_ble_eq_true rfl) (by exact Nat.le_of_ble_eq_true rfl) (by exact Nat.le_of_ble_eq_true rfl) ?_
  show GX6_init 1 1 10 (aPu none hp_28) 1 10 9 [some (.ref 14)] [.ref 15, .ref 14] hp_27
  refine g_putA eX6_init_9 fX6_9_X6 pX6_0 rfl (fun q h => by cases h; rfl) (by rfl) (by exact Nat.le_of_ble_eq_true rfl) ?_
  show GX6_init 1 1 10 (aPu none hp_28) 1 10 12 [some (.ref 14)] [] hp_28
  exact g_ret eX6_init_12 (by exact Nat.le_of_ble_eq_true rfl) (by exact Nat.le_of_ble_eq_true rfl) ⟨rfl, rfl⟩
def hp_29 : aH := [aO 11 [.ref 1, .ref 4, .ref 5, .ref 6, .null, .null, .null, .int 0, .int 0, .int 0], aO 5 [.ref 2, .ref 3, .int 0], .inl (List.replicate 28 0), aO 9 [.int 0, .int 0, .int 0], .inl (List.replicate 5 0), .inr (.inl (List.replicate 4 none)), aO 8 [.ref 7, .ref 9, .ref 12, .int 0, .int 0, .int 0], aO 6 [.ref 8, .int 0], .inl (List.replicate 10 0), aO 3 [.ref 10, .ref 11, .int 0], .inl (List.replicate 8 0), .inl (List.replicate 8 0), .inl (List.replicate 4 0), aO 8 [.ref 14, .null, .null, .int 0, .int 0, .int 0], aO 6 [.ref 15, .int 0], .inl (List.replicate 10 0)]
def hp_30 : aH := [aO 11 [.ref 1, .ref 4, .ref 5, .ref 6, .null, .null, .null, .int 0, .int 0, .int 0], aO 5 [.ref 2, .ref 3, .int 0], .inl (List.replicate 28 0), aO 9 [.int 0, .int 0, .int 0], .inl (List.replicate 5 0), .inr (.inl (List.replicate 4 none)), aO 8 [.ref 7, .ref 9, .ref 12, .int 0, .int 0, .int 0], aO 6 [.ref 8, .int 0], .inl (List.replicate 10 0), aO 3 [.ref 10, .ref 11, .int 0], .inl (List.replicate 8 0), .inl (List.replicate 8 0), .inl (List.replicate 4 0), aO 8 [.ref 14, .null, .null, .int 0, .int 0, .int 0], aO 6 [.ref 15, .int 0], .inl (List.replicate 10 0), aO 3 [.null, .null, .int 0]]
def hp_31 : aH := [aO 11 [.ref 1, .ref 4, .ref 5, .ref 6, .null, .null, .null, .int 0, .int 0, .int 0], aO 5 [.ref 2, .ref 3, .int 0], .inl (List.replicate 28 0), aO 9 [.int 0, .int 0, .int 0], .inl (List.replicate 5 0), .inr (.inl (List.replicate 4 none)), aO 8 [.ref 7, .ref 9, .ref 12, .int 0, .int 0, .int 0], aO 6 [.ref 8, .int 0], .inl (List.replicate 10 0), aO 3 [.ref 10, .ref 11, .int 0], .inl (List.replicate 8 0), .inl (List.replicate 8 0), .inl (List.replicate 4 0), aO 8 [.ref 14, .null, .null, .int 0, .int 0, .int 0], aO 6 [.ref 15, .int 0], .inl (List.replicate 10 0), aO 3 [.null, .null, .int 0], .inl (List.replicate 8 0)]
def hp_32 : aH := [aO 11 [.ref 1, .ref 4, .ref 5, .ref 6, .null, .null, .null, .int 0, .int 0, .int 0], aO 5 [.ref 2, .ref 3, .int 0], .inl (List.replicate 28 0), aO 9 [.int 0, .int 0, .int 0], .inl (List.replicate 5 0), .inr (.inl (List.replicate 4 none)), aO 8 [.ref 7, .ref 9, .ref 12, .int 0, .int 0, .int 0], aO 6 [.ref 8, .int 0], .inl (List.replicate 10 0), aO 3 [.ref 10, .ref 11, .int 0], .inl (List.replicate 8 0), .inl (List.replicate 8 0), .inl (List.replicate 4 0), aO 8 [.ref 14, .null, .null, .int 0, .int 0, .int 0], aO 6 [.ref 15, .int 0], .inl (List.replicate 10 0), aO 3 [.ref 17, .null, .int 0], .inl (List.replicate 8 0)]
def hp_33 : aH := [aO 11 [.ref 1, .ref 4, .ref 5, .ref 6, .null, .null, .null, .int 0, .int 0, .int 0], aO 5 [.ref 2, .ref 3, .int 0], .inl (List.replicate 28 0), aO 9 [.int 0, .int 0, .int 0], .inl (List.replicate 5 0), .inr (.inl (List.replicate 4 none)), aO 8 [.ref 7, .ref 9, .ref 12, .int 0, .int 0, .int 0], aO 6 [.ref 8, .int 0], .inl (List.replicate 10 0), aO 3 [.ref 10, .ref 11, .int 0], .inl (List.replicate 8 0), .inl (List.replicate 8 0), .inl (List.replicate 4 0), aO 8 [.ref 14, .null, .null, .int 0, .int 0, .int 0], aO 6 [.ref 15, .int 0], .inl (List.replicate 10 0), aO 3 [.ref 17, .null, .int 0], .inl (List.replicate 8 0), .inl (List.replicate 8 0)]
def hp_34 : aH := [aO 11 [.ref 1, .ref 4, .ref 5, .ref 6, .null, .null, .null, .int 0, .int 0, .int 0], aO 5 [.ref 2, .ref 3, .int 0], .inl (List.replicate 28 0), aO 9 [.int 0, .int 0, .int 0], .inl (List.replicate 5 0), .inr (.inl (List.replicate 4 none)), aO 8 [.ref 7, .ref 9, .ref 12, .int 0, .int 0, .int 0], aO 6 [.ref 8, .int 0], .inl (List.replicate 10 0), aO 3 [.ref 10, .ref 11, .int 0], .inl (List.replicate 8 0), .inl (List.replicate 8 0), .inl (List.replicate 4 0), aO 8 [.ref 14, .null, .null, .int 0, .int 0, .int 0], aO 6 [.ref 15, .int 0], .inl (List.replicate 10 0), aO 3 [.ref 17, .ref 18, .int 0], .inl (List.replicate 8 0), .inl (List.replicate 8 0)]
set_option maxRecDepth 20000 in
theorem c_init_X3_16 : MX3_init 1 2 16 [.ref 16] hp_30 (aPu none hp_34) := by
  refine sX3_init (Nat.le_of_ble_eq_true rfl) ?_
  refine g_aload eX3_init_0 rfl ?_
  refine g_obj eX3_init_1 kX3_3 (by exact Nat.le_of_ble_eq_true rfl) (by exact Nat.le_of_ble_eq_true rfl) ?_
  refine g_aload eX3_init_4 rfl ?_
  refine g_push (v := nI 8) eX3_init_5 ?_
  refine g_newa (N := 8) eX3_init_7 rfl (by exact Nat.le_of_ble_eq_true rfl) (by exact Nat.le_of_ble_eq_true rfl) (by exact Nat.le_of_ble_eq_true rfl) ?_
  show GX3_init 1 2 16 (aPu none hp_34) 1 8 9 [some (.ref 16)] [.ref 17, .ref 16] hp_31
  refine g_putA eX3_init_9 fX3_9_X3 pX3_0 rfl (fun q h => by cases h; rfl) (by rfl) (by exact Nat.le_of_ble_eq_true rfl) ?_
  show GX3_init 1 2 16 (aPu none hp_34) 1 8 12 [some (.ref 16)] [] hp_32
  refine g_aload eX3_init_12 rfl ?_
  refine g_push (v := nI 8) eX3_init_13 ?_
  refine g_newa (N := 8) eX3_init_15 rfl (by exact Nat.le_of_ble_eq_true rfl) (by exact Nat.le_of_ble_eq_true rfl) (by exact Nat.le_of_ble_eq_true rfl) ?_
  show GX3_init 1 2 16 (aPu none hp_34) 2 16 17 [some (.ref 16)] [.ref 18, .ref 16] hp_33
  refine g_putA eX3_init_17 fX3_15_X3 pX3_1 rfl (fun q h => by cases h; rfl) (by rfl) (by exact Nat.le_of_ble_eq_true rfl) ?_
  show GX3_init 1 2 16 (aPu none hp_34) 2 16 20 [some (.ref 16)] [] hp_34
  exact g_ret eX3_init_20 (by exact Nat.le_of_ble_eq_true rfl) (by exact Nat.le_of_ble_eq_true rfl) ⟨rfl, rfl⟩
def hp_35 : aH := [aO 11 [.ref 1, .ref 4, .ref 5, .ref 6, .null, .null, .null, .int 0, .int 0, .int 0], aO 5 [.ref 2, .ref 3, .int 0], .inl (List.replicate 28 0), aO 9 [.int 0, .int 0, .int 0], .inl (List.replicate 5 0), .inr (.inl (List.replicate 4 none)), aO 8 [.ref 7, .ref 9, .ref 12, .int 0, .int 0, .int 0], aO 6 [.ref 8, .int 0], .inl (List.replicate 10 0), aO 3 [.ref 10, .ref 11, .int 0], .inl (List.replicate 8 0), .inl (List.replicate 8 0), .inl (List.replicate 4 0), aO 8 [.ref 14, .ref 16, .null, .int 0, .int 0, .int 0], aO 6 [.ref 15, .int 0], .inl (List.replicate 10 0), aO 3 [.ref 17, .ref 18, .int 0], .inl (List.replicate 8 0), .inl (List.replicate 8 0)]
def hp_36 : aH := [aO 11 [.ref 1, .ref 4, .ref 5, .ref 6, .null, .null, .null, .int 0, .int 0, .int 0], aO 5 [.ref 2, .ref 3, .int 0], .inl (List.replicate 28 0), aO 9 [.int 0, .int 0, .int 0], .inl (List.replicate 5 0), .inr (.inl (List.replicate 4 none)), aO 8 [.ref 7, .ref 9, .ref 12, .int 0, .int 0, .int 0], aO 6 [.ref 8, .int 0], .inl (List.replicate 10 0), aO 3 [.ref 10, .ref 11, .int 0], .inl (List.replicate 8 0), .inl (List.replicate 8 0), .inl (List.replicate 4 0), aO 8 [.ref 14, .ref 16, .null, .int 0, .int 0, .int 0], aO 6 [.ref 15, .int 0], .inl (List.replicate 10 0), aO 3 [.ref 17, .ref 18, .int 0], .inl (List.replicate 8 0), .inl (List.replicate 8 0), .inl (List.replicate 4 0)]
def hp_37 : aH := [aO 11 [.ref 1, .ref 4, .ref 5, .ref 6, .null, .null, .null, .int 0, .int 0, .int 0], aO 5 [.ref 2, .ref 3, .int 0], .inl (List.replicate 28 0), aO 9 [.int 0, .int 0, .int 0], .inl (List.replicate 5 0), .inr (.inl (List.replicate 4 none)), aO 8 [.ref 7, .ref 9, .ref 12, .int 0, .int 0, .int 0], aO 6 [.ref 8, .int 0], .inl (List.replicate 10 0), aO 3 [.ref 10, .ref 11, .int 0], .inl (List.replicate 8 0), .inl (List.replicate 8 0), .inl (List.replicate 4 0), aO 8 [.ref 14, .ref 16, .ref 19, .int 0, .int 0, .int 0], aO 6 [.ref 15, .int 0], .inl (List.replicate 10 0), aO 3 [.ref 17, .ref 18, .int 0], .inl (List.replicate 8 0), .inl (List.replicate 8 0), .inl (List.replicate 4 0)]
set_option maxRecDepth 20000 in
theorem c_init_X8_13 : MX8_init 2 6 35 [.ref 13] hp_25 (aPu none hp_37) := by
  refine sX8_init (Nat.le_of_ble_eq_true rfl) ?_
  refine g_aload eX8_init_0 rfl ?_
  refine g_obj eX8_init_1 kX8_3 (by exact Nat.le_of_ble_eq_true rfl) (by exact Nat.le_of_ble_eq_true rfl) ?_
  refine g_aload eX8_init_4 rfl ?_
  refine g_new (ci := 6) (r := (RX6, TX6, 2)) (fs := [.null, .int 0]) (ty := tyX6) eX8_init_5 rfl uX6 tyX6_ok lX8_9 nX6 iX6 (fun j hj => match j, hj with | 0, _ => rfl | 1, _ => rfl | n + 2, h => absurd (show n + 2 < 2 from h) (by omega)) (okV_all rfl) (by exact Nat.le_of_ble_eq_true rfl) (by exact Nat.le_of_ble_eq_true rfl) ?_
  show GX8_init 2 6 35 (aPu none hp_37) 1 2 8 [some (.ref 13)] [.ref 14, .ref 13] hp_26
  refine g_dup eX8_init_8 rfl ?_
  refine g_initn eX8_init_9 kX8_11 c_init_X6_14 (by rfl) (by rfl) (by exact Nat.le_of_ble_eq_true rfl) (by exact Nat.le_of_ble_eq_true rfl) (by exact Nat.le_of_ble_eq_true rfl) (by exact Nat.le_of_ble_eq_true rfl) (by exact Nat.le_of_ble_eq_true rfl) (fun v σ' hp hn => ?_)
  obtain ⟨rfl, rfl⟩ := hp
  show GX8_init 2 6 35 (aPu none hp_37) 2 12 12 [some (.ref 13)] [.ref 14, .ref 13] hp_28
  refine g_putR eX8_init_12 fX8_12_X8 pX8_0 rfl (fun q h => by cases h; rfl) (by rfl) (by exact Nat.le_of_ble_eq_true rfl) ?_
  show GX8_init 2 6 35 (aPu none hp_37) 2 12 15 [some (.ref 13)] [] hp_29
  refine g_aload eX8_init_15 rfl ?_
  refine g_new (ci := 3) (r := (RX3, TX3, 3)) (fs := [.null, .null, .int 0]) (ty := tyX3) eX8_init_16 rfl uX3 tyX3_ok lX8_18 nX3 iX3 (fun j hj => match j, hj with | 0, _ => rfl | 1, _ => rfl | 2, _ => rfl | n + 3, h => absurd (show n + 3 < 3 from h) (by omega)) (okV_all rfl) (by exact Nat.le_of_ble_eq_true rfl) (by exact Nat.le_of_ble_eq_true rfl) ?_
  show GX8_init 2 6 35 (aPu none hp_37) 3 15 19 [some (.ref 13)] [.ref 16, .ref 13] hp_30
  refine g_dup eX8_init_19 rfl ?_
  refine g_initn eX8_init_20 kX8_20 c_init_X3_16 (by rfl) (by rfl) (by exact Nat.le_of_ble_eq_true rfl) (by exact Nat.le_of_ble_eq_true rfl) (by exact Nat.le_of_ble_eq_true rfl) (by exact Nat.le_of_ble_eq_true rfl) (by exact Nat.le_of_ble_eq_true rfl) (fun v σ' hp hn => ?_)
  obtain ⟨rfl, rfl⟩ := hp
  show GX8_init 2 6 35 (aPu none hp_37) 5 31 23 [some (.ref 13)] [.ref 16, .ref 13] hp_34
  refine g_putR eX8_init_23 fX8_21_X8 pX8_1 rfl (fun q h => by cases h; rfl) (by rfl) (by exact Nat.le_of_ble_eq_true rfl) ?_
  show GX8_init 2 6 35 (aPu none hp_37) 5 31 26 [some (.ref 13)] [] hp_35
  refine g_aload eX8_init_26 rfl ?_
  refine g_push (v := nI 4) eX8_init_27 ?_
  refine g_newa (N := 4) eX8_init_28 rfl (by exact Nat.le_of_ble_eq_true rfl) (by exact Nat.le_of_ble_eq_true rfl) (by exact Nat.le_of_ble_eq_true rfl) ?_
  show GX8_init 2 6 35 (aPu none hp_37) 6 35 30 [some (.ref 13)] [.ref 19, .ref 13] hp_36
  refine g_putA eX8_init_30 fX8_25_X8 pX8_2 rfl (fun q h => by cases h; rfl) (by rfl) (by exact Nat.le_of_ble_eq_true rfl) ?_
  show GX8_init 2 6 35 (aPu none hp_37) 6 35 33 [some (.ref 13)] [] hp_37
  exact g_ret eX8_init_33 (by exact Nat.le_of_ble_eq_true rfl) (by exact Nat.le_of_ble_eq_true rfl) ⟨rfl, rfl⟩
def hp_38 : aH := [aO 11 [.ref 1, .ref 4, .ref 5, .ref 6, .ref 13, .null, .null, .int 0, .int 0, .int 0], aO 5 [.ref 2, .ref 3, .int 0], .inl (List.replicate 28 0), aO 9 [.int 0, .int 0, .int 0], .inl (List.replicate 5 0), .inr (.inl (List.replicate 4 none)), aO 8 [.ref 7, .ref 9, .ref 12, .int 0, .int 0, .int 0], aO 6 [.ref 8, .int 0], .inl (List.replicate 10 0), aO 3 [.ref 10, .ref 11, .int 0], .inl (List.replicate 8 0), .inl (List.replicate 8 0), .inl (List.replicate 4 0), aO 8 [.ref 14, .ref 16, .ref 19, .int 0, .int 0, .int 0], aO 6 [.ref 15, .int 0], .inl (List.replicate 10 0), aO 3 [.ref 17, .ref 18, .int 0], .inl (List.replicate 8 0), .inl (List.replicate 8 0), .inl (List.replicate 4 0)]
def hp_39 : aH := [aO 11 [.ref 1, .ref 4, .ref 5, .ref 6, .ref 13, .null, .null, .int 0, .int 0, .int 0], aO 5 [.ref 2, .ref 3, .int 0], .inl (List.replicate 28 0), aO 9 [.int 0, .int 0, .int 0], .inl (List.replicate 5 0), .inr (.inl (List.replicate 4 none)), aO 8 [.ref 7, .ref 9, .ref 12, .int 0, .int 0, .int 0], aO 6 [.ref 8, .int 0], .inl (List.replicate 10 0), aO 3 [.ref 10, .ref 11, .int 0], .inl (List.replicate 8 0), .inl (List.replicate 8 0), .inl (List.replicate 4 0), aO 8 [.ref 14, .ref 16, .ref 19, .int 0, .int 0, .int 0], aO 6 [.ref 15, .int 0], .inl (List.replicate 10 0), aO 3 [.ref 17, .ref 18, .int 0], .inl (List.replicate 8 0), .inl (List.replicate 8 0), .inl (List.replicate 4 0), aO 6 [.null, .int 0]]
def hp_40 : aH := [aO 11 [.ref 1, .ref 4, .ref 5, .ref 6, .ref 13, .null, .null, .int 0, .int 0, .int 0], aO 5 [.ref 2, .ref 3, .int 0], .inl (List.replicate 28 0), aO 9 [.int 0, .int 0, .int 0], .inl (List.replicate 5 0), .inr (.inl (List.replicate 4 none)), aO 8 [.ref 7, .ref 9, .ref 12, .int 0, .int 0, .int 0], aO 6 [.ref 8, .int 0], .inl (List.replicate 10 0), aO 3 [.ref 10, .ref 11, .int 0], .inl (List.replicate 8 0), .inl (List.replicate 8 0), .inl (List.replicate 4 0), aO 8 [.ref 14, .ref 16, .ref 19, .int 0, .int 0, .int 0], aO 6 [.ref 15, .int 0], .inl (List.replicate 10 0), aO 3 [.ref 17, .ref 18, .int 0], .inl (List.replicate 8 0), .inl (List.replicate 8 0), .inl (List.replicate 4 0), aO 6 [.null, .int 0], .inl (List.replicate 10 0)]
def hp_41 : aH := [aO 11 [.ref 1, .ref 4, .ref 5, .ref 6, .ref 13, .null, .null, .int 0, .int 0, .int 0], aO 5 [.ref 2, .ref 3, .int 0], .inl (List.replicate 28 0), aO 9 [.int 0, .int 0, .int 0], .inl (List.replicate 5 0), .inr (.inl (List.replicate 4 none)), aO 8 [.ref 7, .ref 9, .ref 12, .int 0, .int 0, .int 0], aO 6 [.ref 8, .int 0], .inl (List.replicate 10 0), aO 3 [.ref 10, .ref 11, .int 0], .inl (List.replicate 8 0), .inl (List.replicate 8 0), .inl (List.replicate 4 0), aO 8 [.ref 14, .ref 16, .ref 19, .int 0, .int 0, .int 0], aO 6 [.ref 15, .int 0], .inl (List.replicate 10 0), aO 3 [.ref 17, .ref 18, .int 0], .inl (List.replicate 8 0), .inl (List.replicate 8 0), .inl (List.replicate 4 0), aO 6 [.ref 21, .int 0], .inl (List.replicate 10 0)]
set_option maxRecDepth 20000 in
theorem c_init_X6_20 : MX6_init 1 1 10 [.ref 20] hp_39 (aPu none hp_41) := by
  refine sX6_init (Nat.le_of_ble_eq_true rfl) ?_
  refine g_aload eX6_init_0 rfl ?_
  refine g_obj eX6_init_1 kX6_3 (by exact Nat.le_of_ble_eq_true rfl) (by exact Nat.le_of_ble_eq_true rfl) ?_
  refine g_aload eX6_init_4 rfl ?_
  refine g_push (v := nI 10) eX6_init_5 ?_
  refine g_newa (N := 10) eX6_init_7 rfl (by exact Nat.le_of_ble_eq_true rfl) (by exact Nat.le_of_ble_eq_true rfl) (by exact Nat.le_of_ble_eq_true rfl) ?_
  show GX6_init 1 1 10 (aPu none hp_41) 1 10 9 [some (.ref 20)] [.ref 21, .ref 20] hp_40
  refine g_putA eX6_init_9 fX6_9_X6 pX6_0 rfl (fun q h => by cases h; rfl) (by rfl) (by exact Nat.le_of_ble_eq_true rfl) ?_
  show GX6_init 1 1 10 (aPu none hp_41) 1 10 12 [some (.ref 20)] [] hp_41
  exact g_ret eX6_init_12 (by exact Nat.le_of_ble_eq_true rfl) (by exact Nat.le_of_ble_eq_true rfl) ⟨rfl, rfl⟩
def hp_42 : aH := [aO 11 [.ref 1, .ref 4, .ref 5, .ref 6, .ref 13, .ref 20, .null, .int 0, .int 0, .int 0], aO 5 [.ref 2, .ref 3, .int 0], .inl (List.replicate 28 0), aO 9 [.int 0, .int 0, .int 0], .inl (List.replicate 5 0), .inr (.inl (List.replicate 4 none)), aO 8 [.ref 7, .ref 9, .ref 12, .int 0, .int 0, .int 0], aO 6 [.ref 8, .int 0], .inl (List.replicate 10 0), aO 3 [.ref 10, .ref 11, .int 0], .inl (List.replicate 8 0), .inl (List.replicate 8 0), .inl (List.replicate 4 0), aO 8 [.ref 14, .ref 16, .ref 19, .int 0, .int 0, .int 0], aO 6 [.ref 15, .int 0], .inl (List.replicate 10 0), aO 3 [.ref 17, .ref 18, .int 0], .inl (List.replicate 8 0), .inl (List.replicate 8 0), .inl (List.replicate 4 0), aO 6 [.ref 21, .int 0], .inl (List.replicate 10 0)]
def hp_43 : aH := [aO 11 [.ref 1, .ref 4, .ref 5, .ref 6, .ref 13, .ref 20, .null, .int 0, .int 0, .int 0], aO 5 [.ref 2, .ref 3, .int 0], .inl (List.replicate 28 0), aO 9 [.int 0, .int 0, .int 0], .inl (List.replicate 5 0), .inr (.inl (List.replicate 4 none)), aO 8 [.ref 7, .ref 9, .ref 12, .int 0, .int 0, .int 0], aO 6 [.ref 8, .int 0], .inl (List.replicate 10 0), aO 3 [.ref 10, .ref 11, .int 0], .inl (List.replicate 8 0), .inl (List.replicate 8 0), .inl (List.replicate 4 0), aO 8 [.ref 14, .ref 16, .ref 19, .int 0, .int 0, .int 0], aO 6 [.ref 15, .int 0], .inl (List.replicate 10 0), aO 3 [.ref 17, .ref 18, .int 0], .inl (List.replicate 8 0), .inl (List.replicate 8 0), .inl (List.replicate 4 0), aO 6 [.ref 21, .int 0], .inl (List.replicate 10 0), aO 2 [.null, .null, .int 0]]
def hp_44 : aH := [aO 11 [.ref 1, .ref 4, .ref 5, .ref 6, .ref 13, .ref 20, .null, .int 0, .int 0, .int 0], aO 5 [.ref 2, .ref 3, .int 0], .inl (List.replicate 28 0), aO 9 [.int 0, .int 0, .int 0], .inl (List.replicate 5 0), .inr (.inl (List.replicate 4 none)), aO 8 [.ref 7, .ref 9, .ref 12, .int 0, .int 0, .int 0], aO 6 [.ref 8, .int 0], .inl (List.replicate 10 0), aO 3 [.ref 10, .ref 11, .int 0], .inl (List.replicate 8 0), .inl (List.replicate 8 0), .inl (List.replicate 4 0), aO 8 [.ref 14, .ref 16, .ref 19, .int 0, .int 0, .int 0], aO 6 [.ref 15, .int 0], .inl (List.replicate 10 0), aO 3 [.ref 17, .ref 18, .int 0], .inl (List.replicate 8 0), .inl (List.replicate 8 0), .inl (List.replicate 4 0), aO 6 [.ref 21, .int 0], .inl (List.replicate 10 0), aO 2 [.null, .null, .int 0], .inl (List.replicate 8 0)]
def hp_45 : aH := [aO 11 [.ref 1, .ref 4, .ref 5, .ref 6, .ref 13, .ref 20, .null, .int 0, .int 0, .int 0], aO 5 [.ref 2, .ref 3, .int 0], .inl (List.replicate 28 0), aO 9 [.int 0, .int 0, .int 0], .inl (List.replicate 5 0), .inr (.inl (List.replicate 4 none)), aO 8 [.ref 7, .ref 9, .ref 12, .int 0, .int 0, .int 0], aO 6 [.ref 8, .int 0], .inl (List.replicate 10 0), aO 3 [.ref 10, .ref 11, .int 0], .inl (List.replicate 8 0), .inl (List.replicate 8 0), .inl (List.replicate 4 0), aO 8 [.ref 14, .ref 16, .ref 19, .int 0, .int 0, .int 0], aO 6 [.ref 15, .int 0], .inl (List.replicate 10 0), aO 3 [.ref 17, .ref 18, .int 0], .inl (List.replicate 8 0), .inl (List.replicate 8 0), .inl (List.replicate 4 0), aO 6 [.ref 21, .int 0], .inl (List.replicate 10 0), aO 2 [.ref 23, .null, .int 0], .inl (List.replicate 8 0)]
def hp_46 : aH := [aO 11 [.ref 1, .ref 4, .ref 5, .ref 6, .ref 13, .ref 20, .null, .int 0, .int 0, .int 0], aO 5 [.ref 2, .ref 3, .int 0], .inl (List.replicate 28 0), aO 9 [.int 0, .int 0, .int 0], .inl (List.replicate 5 0), .inr (.inl (List.replicate 4 none)), aO 8 [.ref 7, .ref 9, .ref 12, .int 0, .int 0, .int 0], aO 6 [.ref 8, .int 0], .inl (List.replicate 10 0), aO 3 [.ref 10, .ref 11, .int 0], .inl (List.replicate 8 0), .inl (List.replicate 8 0), .inl (List.replicate 4 0), aO 8 [.ref 14, .ref 16, .ref 19, .int 0, .int 0, .int 0], aO 6 [.ref 15, .int 0], .inl (List.replicate 10 0), aO 3 [.ref 17, .ref 18, .int 0], .inl (List.replicate 8 0), .inl (List.replicate 8 0), .inl (List.replicate 4 0), aO 6 [.ref 21, .int 0], .inl (List.replicate 10 0), aO 2 [.ref 23, .null, .int 0], .inl (List.replicate 8 0), .inl (List.replicate 4 0)]
def hp_47 : aH := [aO 11 [.ref 1, .ref 4, .ref 5, .ref 6, .ref 13, .ref 20, .null, .int 0, .int 0, .int 0], aO 5 [.ref 2, .ref 3, .int 0], .inl (List.replicate 28 0), aO 9 [.int 0, .int 0, .int 0], .inl (List.replicate 5 0), .inr (.inl (List.replicate 4 none)), aO 8 [.ref 7, .ref 9, .ref 12, .int 0, .int 0, .int 0], aO 6 [.ref 8, .int 0], .inl (List.replicate 10 0), aO 3 [.ref 10, .ref 11, .int 0], .inl (List.replicate 8 0), .inl (List.replicate 8 0), .inl (List.replicate 4 0), aO 8 [.ref 14, .ref 16, .ref 19, .int 0, .int 0, .int 0], aO 6 [.ref 15, .int 0], .inl (List.replicate 10 0), aO 3 [.ref 17, .ref 18, .int 0], .inl (List.replicate 8 0), .inl (List.replicate 8 0), .inl (List.replicate 4 0), aO 6 [.ref 21, .int 0], .inl (List.replicate 10 0), aO 2 [.ref 23, .ref 24, .int 0], .inl (List.replicate 8 0), .inl (List.replicate 4 0)]
set_option maxRecDepth 20000 in
theorem c_init_X2_22 : MX2_init 1 2 12 [.ref 22] hp_43 (aPu none hp_47) := by
  refine sX2_init (Nat.le_of_ble_eq_true rfl) ?_
  refine g_aload eX2_init_0 rfl ?_
  refine g_obj eX2_init_1 kX2_3 (by exact Nat.le_of_ble_eq_true rfl) (by exact Nat.le_of_ble_eq_true rfl) ?_
  refine g_aload eX2_init_4 rfl ?_
  refine g_push (v := nI 8) eX2_init_5 ?_
  refine g_newa (N := 8) eX2_init_7 rfl (by exact Nat.le_of_ble_eq_true rfl) (by exact Nat.le_of_ble_eq_true rfl) (by exact Nat.le_of_ble_eq_true rfl) ?_
  show GX2_init 1 2 12 (aPu none hp_47) 1 8 9 [some (.ref 22)] [.ref 23, .ref 22] hp_44
  refine g_putA eX2_init_9 fX2_9_X2 pX2_0 rfl (fun q h => by cases h; rfl) (by rfl) (by exact Nat.le_of_ble_eq_true rfl) ?_
  show GX2_init 1 2 12 (aPu none hp_47) 1 8 12 [some (.ref 22)] [] hp_45
  refine g_aload eX2_init_12 rfl ?_
  refine g_push (v := nI 4) eX2_init_13 ?_
  refine g_newa (N := 4) eX2_init_14 rfl (by exact Nat.le_of_ble_eq_true rfl) (by exact Nat.le_of_ble_eq_true rfl) (by exact Nat.le_of_ble_eq_true rfl) ?_
  show GX2_init 1 2 12 (aPu none hp_47) 2 12 16 [some (.ref 22)] [.ref 24, .ref 22] hp_46
  refine g_putA eX2_init_16 fX2_15_X2 pX2_1 rfl (fun q h => by cases h; rfl) (by rfl) (by exact Nat.le_of_ble_eq_true rfl) ?_
  show GX2_init 1 2 12 (aPu none hp_47) 2 12 19 [some (.ref 22)] [] hp_47
  exact g_ret eX2_init_19 (by exact Nat.le_of_ble_eq_true rfl) (by exact Nat.le_of_ble_eq_true rfl) ⟨rfl, rfl⟩
def hp_48 : aH := [aO 11 [.ref 1, .ref 4, .ref 5, .ref 6, .ref 13, .ref 20, .ref 22, .int 0, .int 0, .int 0], aO 5 [.ref 2, .ref 3, .int 0], .inl (List.replicate 28 0), aO 9 [.int 0, .int 0, .int 0], .inl (List.replicate 5 0), .inr (.inl (List.replicate 4 none)), aO 8 [.ref 7, .ref 9, .ref 12, .int 0, .int 0, .int 0], aO 6 [.ref 8, .int 0], .inl (List.replicate 10 0), aO 3 [.ref 10, .ref 11, .int 0], .inl (List.replicate 8 0), .inl (List.replicate 8 0), .inl (List.replicate 4 0), aO 8 [.ref 14, .ref 16, .ref 19, .int 0, .int 0, .int 0], aO 6 [.ref 15, .int 0], .inl (List.replicate 10 0), aO 3 [.ref 17, .ref 18, .int 0], .inl (List.replicate 8 0), .inl (List.replicate 8 0), .inl (List.replicate 4 0), aO 6 [.ref 21, .int 0], .inl (List.replicate 10 0), aO 2 [.ref 23, .ref 24, .int 0], .inl (List.replicate 8 0), .inl (List.replicate 4 0)]
set_option maxRecDepth 20000 in
theorem c_init_X11_0 : MX11_init 3 24 152 [.ref 0] hp_0 (aPu none hp_48) := by
  refine sX11_init (Nat.le_of_ble_eq_true rfl) ?_
  refine g_aload eX11_init_0 rfl ?_
  refine g_obj eX11_init_1 kX11_1 (by exact Nat.le_of_ble_eq_true rfl) (by exact Nat.le_of_ble_eq_true rfl) ?_
  refine g_aload eX11_init_4 rfl ?_
  refine g_new (ci := 5) (r := (RX5, TX5, 3)) (fs := [.null, .null, .int 0]) (ty := tyX5) eX11_init_5 rfl uX5 tyX5_ok lX11_7 nX5 iX5 (fun j hj => match j, hj with | 0, _ => rfl | 1, _ => rfl | 2, _ => rfl | n + 3, h => absurd (show n + 3 < 3 from h) (by omega)) (okV_all rfl) (by exact Nat.le_of_ble_eq_true rfl) (by exact Nat.le_of_ble_eq_true rfl) ?_
  show GX11_init 3 24 152 (aPu none hp_48) 1 3 8 [some (.ref 0)] [.ref 1, .ref 0] hp_1
  refine g_dup eX11_init_8 rfl ?_
  refine g_initn eX11_init_9 kX11_9 c_init_X5_1 (by rfl) (by rfl) (by exact Nat.le_of_ble_eq_true rfl) (by exact Nat.le_of_ble_eq_true rfl) (by exact Nat.le_of_ble_eq_true rfl) (by exact Nat.le_of_ble_eq_true rfl) (by exact Nat.le_of_ble_eq_true rfl) (fun v σ' hp hn => ?_)
  obtain ⟨rfl, rfl⟩ := hp
  show GX11_init 3 24 152 (aPu none hp_48) 3 34 12 [some (.ref 0)] [.ref 1, .ref 0] hp_5
  refine g_putR eX11_init_12 fX11_10_X11 pX11_0 rfl (fun q h => by cases h; rfl) (by rfl) (by exact Nat.le_of_ble_eq_true rfl) ?_
  show GX11_init 3 24 152 (aPu none hp_48) 3 34 15 [some (.ref 0)] [] hp_6
  refine g_aload eX11_init_15 rfl ?_
  refine g_push (v := nI 5) eX11_init_16 ?_
  refine g_newa (N := 5) eX11_init_17 rfl (by exact Nat.le_of_ble_eq_true rfl) (by exact Nat.le_of_ble_eq_true rfl) (by exact Nat.le_of_ble_eq_true rfl) ?_
  show GX11_init 3 24 152 (aPu none hp_48) 4 39 19 [some (.ref 0)] [.ref 4, .ref 0] hp_7
  refine g_putA eX11_init_19 fX11_16_X11 pX11_1 rfl (fun q h => by cases h; rfl) (by rfl) (by exact Nat.le_of_ble_eq_true rfl) ?_
  show GX11_init 3 24 152 (aPu none hp_48) 4 39 22 [some (.ref 0)] [] hp_8
  refine g_aload eX11_init_22 rfl ?_
  refine g_push (v := nI 4) eX11_init_23 ?_
  refine g_newq (N := 4) eX11_init_24 lX11_20 rfl (by exact Nat.le_of_ble_eq_true rfl) (by exact Nat.le_of_ble_eq_true rfl) (by exact Nat.le_of_ble_eq_true rfl) ?_
  show GX11_init 3 24 152 (aPu none hp_48) 5 43 27 [some (.ref 0)] [.ref 5, .ref 0] hp_9
  refine g_putA eX11_init_27 fX11_22_X11 pX11_2 rfl (fun q h => by cases h; rfl) (by rfl) (by exact Nat.le_of_ble_eq_true rfl) ?_
  show GX11_init 3 24 152 (aPu none hp_48) 5 43 30 [some (.ref 0)] [] hp_10
  refine g_aload eX11_init_30 rfl ?_
  refine g_new (ci := 8) (r := (RX8, TX8, 6)) (fs := [.null, .null, .null, .int 0, .int 0, .int 0]) (ty := tyX8) eX11_init_31 rfl uX8 tyX8_ok lX11_26 nX8 iX8 (fun j hj => match j, hj with | 0, _ => rfl | 1, _ => rfl | 2, _ => rfl | 3, _ => rfl | 4, _ => rfl | 5, _ => rfl | n + 6, h => absurd (show n + 6 < 6 from h) (by omega)) (okV_all rfl) (by exact Nat.le_of_ble_eq_true rfl) (by exact Nat.le_of_ble_eq_true rfl) ?_
  show GX11_init 3 24 152 (aPu none hp_48) 6 49 34 [some (.ref 0)] [.ref 6, .ref 0] hp_11
  refine g_dup eX11_init_34 rfl ?_
  refine g_initn eX11_init_35 kX11_28 c_init_X8_6 (by rfl) (by rfl) (by exact Nat.le_of_ble_eq_true rfl) (by exact Nat.le_of_ble_eq_true rfl) (by exact Nat.le_of_ble_eq_true rfl) (by exact Nat.le_of_ble_eq_true rfl) (by exact Nat.le_of_ble_eq_true rfl) (fun v σ' hp hn => ?_)
  obtain ⟨rfl, rfl⟩ := hp
  show GX11_init 3 24 152 (aPu none hp_48) 12 84 38 [some (.ref 0)] [.ref 6, .ref 0] hp_23
  refine g_putR eX11_init_38 fX11_29_X11 pX11_3 rfl (fun q h => by cases h; rfl) (by rfl) (by exact Nat.le_of_ble_eq_true rfl) ?_
  show GX11_init 3 24 152 (aPu none hp_48) 12 84 41 [some (.ref 0)] [] hp_24
  refine g_aload eX11_init_41 rfl ?_
  refine g_new (ci := 8) (r := (RX8, TX8, 6)) (fs := [.null, .null, .null, .int 0, .int 0, .int 0]) (ty := tyX8) eX11_init_42 rfl uX8 tyX8_ok lX11_26 nX8 iX8 (fun j hj => match j, hj with | 0, _ => rfl | 1, _ => rfl | 2, _ => rfl | 3, _ => rfl | 4, _ => rfl | 5, _ => rfl | n + 6, h => absurd (show n + 6 < 6 from h) (by omega)) (okV_all rfl) (by exact Nat.le_of_ble_eq_true rfl) (by exact Nat.le_of_ble_eq_true rfl) ?_
  show GX11_init 3 24 152 (aPu none hp_48) 13 90 45 [some (.ref 0)] [.ref 13, .ref 0] hp_25
  refine g_dup eX11_init_45 rfl ?_
  refine g_initn eX11_init_46 kX11_28 c_init_X8_13 (by rfl) (by rfl) (by exact Nat.le_of_ble_eq_true rfl) (by exact Nat.le_of_ble_eq_true rfl) (by exact Nat.le_of_ble_eq_true rfl) (by exact Nat.le_of_ble_eq_true rfl) (by exact Nat.le_of_ble_eq_true rfl) (fun v σ' hp hn => ?_)
  obtain ⟨rfl, rfl⟩ := hp
  show GX11_init 3 24 152 (aPu none hp_48) 19 125 49 [some (.ref 0)] [.ref 13, .ref 0] hp_37
  refine g_putR eX11_init_49 fX11_33_X11 pX11_4 rfl (fun q h => by cases h; rfl) (by rfl) (by exact Nat.le_of_ble_eq_true rfl) ?_
  show GX11_init 3 24 152 (aPu none hp_48) 19 125 52 [some (.ref 0)] [] hp_38
  refine g_aload eX11_init_52 rfl ?_
  refine g_new (ci := 6) (r := (RX6, TX6, 2)) (fs := [.null, .int 0]) (ty := tyX6) eX11_init_53 rfl uX6 tyX6_ok lX11_36 nX6 iX6 (fun j hj => match j, hj with | 0, _ => rfl | 1, _ => rfl | n + 2, h => absurd (show n + 2 < 2 from h) (by omega)) (okV_all rfl) (by exact Nat.le_of_ble_eq_true rfl) (by exact Nat.le_of_ble_eq_true rfl) ?_
  show GX11_init 3 24 152 (aPu none hp_48) 20 127 56 [some (.ref 0)] [.ref 20, .ref 0] hp_39
  refine g_dup eX11_init_56 rfl ?_
  refine g_initn eX11_init_57 kX11_38 c_init_X6_20 (by rfl) (by rfl) (by exact Nat.le_of_ble_eq_true rfl) (by exact Nat.le_of_ble_eq_true rfl) (by exact Nat.le_of_ble_eq_true rfl) (by exact Nat.le_of_ble_eq_true rfl) (by exact Nat.le_of_ble_eq_true rfl) (fun v σ' hp hn => ?_)
  obtain ⟨rfl, rfl⟩ := hp
  show GX11_init 3 24 152 (aPu none hp_48) 21 137 60 [some (.ref 0)] [.ref 20, .ref 0] hp_41
  refine g_putR eX11_init_60 fX11_39_X11 pX11_5 rfl (fun q h => by cases h; rfl) (by rfl) (by exact Nat.le_of_ble_eq_true rfl) ?_
  show GX11_init 3 24 152 (aPu none hp_48) 21 137 63 [some (.ref 0)] [] hp_42
  refine g_aload eX11_init_63 rfl ?_
  refine g_new (ci := 2) (r := (RX2, TX2, 3)) (fs := [.null, .null, .int 0]) (ty := tyX2) eX11_init_64 rfl uX2 tyX2_ok lX11_43 nX2 iX2 (fun j hj => match j, hj with | 0, _ => rfl | 1, _ => rfl | 2, _ => rfl | n + 3, h => absurd (show n + 3 < 3 from h) (by omega)) (okV_all rfl) (by exact Nat.le_of_ble_eq_true rfl) (by exact Nat.le_of_ble_eq_true rfl) ?_
  show GX11_init 3 24 152 (aPu none hp_48) 22 140 67 [some (.ref 0)] [.ref 22, .ref 0] hp_43
  refine g_dup eX11_init_67 rfl ?_
  refine g_initn eX11_init_68 kX11_45 c_init_X2_22 (by rfl) (by rfl) (by exact Nat.le_of_ble_eq_true rfl) (by exact Nat.le_of_ble_eq_true rfl) (by exact Nat.le_of_ble_eq_true rfl) (by exact Nat.le_of_ble_eq_true rfl) (by exact Nat.le_of_ble_eq_true rfl) (fun v σ' hp hn => ?_)
  obtain ⟨rfl, rfl⟩ := hp
  show GX11_init 3 24 152 (aPu none hp_48) 24 152 71 [some (.ref 0)] [.ref 22, .ref 0] hp_47
  refine g_putR eX11_init_71 fX11_46_X11 pX11_6 rfl (fun q h => by cases h; rfl) (by rfl) (by exact Nat.le_of_ble_eq_true rfl) ?_
  show GX11_init 3 24 152 (aPu none hp_48) 24 152 74 [some (.ref 0)] [] hp_48
  exact g_ret eX11_init_74 (by exact Nat.le_of_ble_eq_true rfl) (by exact Nat.le_of_ble_eq_true rfl) ⟨rfl, rfl⟩
def hp_49 : aH := [aO 11 [.ref 1, .ref 4, .ref 5, .ref 6, .ref 13, .ref 20, .ref 22, .int 0, .int 0, .int 0], aO 5 [.ref 2, .ref 3, .int 0], .inl (List.replicate 28 0), aO 9 [.int 0, .int 0, .int 0], .inl (List.replicate 5 0), .inr (.inl (List.replicate 4 none)), aO 8 [.ref 7, .ref 9, .ref 12, .int 0, .int 0, .int 0], aO 6 [.ref 8, .int 0], .inl (List.replicate 10 0), aO 3 [.ref 10, .ref 11, .int 0], .inl (List.replicate 8 0), .inl (List.replicate 8 0), .inl (List.replicate 4 0), aO 8 [.ref 14, .ref 16, .ref 19, .int 0, .int 0, .int 0], aO 6 [.ref 15, .int 0], .inl (List.replicate 10 0), aO 3 [.ref 17, .ref 18, .int 0], .inl (List.replicate 8 0), .inl (List.replicate 8 0), .inl (List.replicate 4 0), aO 6 [.ref 21, .int 0], .inl (List.replicate 10 0), aO 2 [.ref 23, .ref 24, .int 0], .inl (List.replicate 8 0), .inl (List.replicate 4 0), aO 12 [.null, .int 0, .int 0, .int 0, .int 0, .null, .null, .int 0, .int 0, .int 0, .int 0, .null, .null, .int 0, .null, .int 0, .null, .null, .int 0, .null, .null, .int 0, .null, .int 0, .int 0, .int 0, .int 0, .int 0, .null, .null, .null, .long 0]]
def hp_50 : aH := [aO 11 [.ref 1, .ref 4, .ref 5, .ref 6, .ref 13, .ref 20, .ref 22, .int 0, .int 0, .int 0], aO 5 [.ref 2, .ref 3, .int 0], .inl (List.replicate 28 0), aO 9 [.int 0, .int 0, .int 0], .inl (List.replicate 5 0), .inr (.inl (List.replicate 4 none)), aO 8 [.ref 7, .ref 9, .ref 12, .int 0, .int 0, .int 0], aO 6 [.ref 8, .int 0], .inl (List.replicate 10 0), aO 3 [.ref 10, .ref 11, .int 0], .inl (List.replicate 8 0), .inl (List.replicate 8 0), .inl (List.replicate 4 0), aO 8 [.ref 14, .ref 16, .ref 19, .int 0, .int 0, .int 0], aO 6 [.ref 15, .int 0], .inl (List.replicate 10 0), aO 3 [.ref 17, .ref 18, .int 0], .inl (List.replicate 8 0), .inl (List.replicate 8 0), .inl (List.replicate 4 0), aO 6 [.ref 21, .int 0], .inl (List.replicate 10 0), aO 2 [.ref 23, .ref 24, .int 0], .inl (List.replicate 8 0), .inl (List.replicate 4 0), aO 12 [.null, .int 0, .int 0, .int 0, .int 0, .null, .null, .int 0, .int 0, .int 0, .int 0, .null, .null, .int 0, .null, .int 0, .null, .null, .int 0, .null, .null, .int 0, .null, .int 0, .int 0, .int 0, .int 0, .int 0, .null, .null, .null, .long 0], .inl (List.replicate 28 0)]
def hp_51 : aH := [aO 11 [.ref 1, .ref 4, .ref 5, .ref 6, .ref 13, .ref 20, .ref 22, .int 0, .int 0, .int 0], aO 5 [.ref 2, .ref 3, .int 0], .inl (List.replicate 28 0), aO 9 [.int 0, .int 0, .int 0], .inl (List.replicate 5 0), .inr (.inl (List.replicate 4 none)), aO 8 [.ref 7, .ref 9, .ref 12, .int 0, .int 0, .int 0], aO 6 [.ref 8, .int 0], .inl (List.replicate 10 0), aO 3 [.ref 10, .ref 11, .int 0], .inl (List.replicate 8 0), .inl (List.replicate 8 0), .inl (List.replicate 4 0), aO 8 [.ref 14, .ref 16, .ref 19, .int 0, .int 0, .int 0], aO 6 [.ref 15, .int 0], .inl (List.replicate 10 0), aO 3 [.ref 17, .ref 18, .int 0], .inl (List.replicate 8 0), .inl (List.replicate 8 0), .inl (List.replicate 4 0), aO 6 [.ref 21, .int 0], .inl (List.replicate 10 0), aO 2 [.ref 23, .ref 24, .int 0], .inl (List.replicate 8 0), .inl (List.replicate 4 0), aO 12 [.ref 26, .int 0, .int 0, .int 0, .int 0, .null, .null, .int 0, .int 0, .int 0, .int 0, .null, .null, .int 0, .null, .int 0, .null, .null, .int 0, .null, .null, .int 0, .null, .int 0, .int 0, .int 0, .int 0, .int 0, .null, .null, .null, .long 0], .inl (List.replicate 28 0)]
def hp_52 : aH := [aO 11 [.ref 1, .ref 4, .ref 5, .ref 6, .ref 13, .ref 20, .ref 22, .int 0, .int 0, .int 0], aO 5 [.ref 2, .ref 3, .int 0], .inl (List.replicate 28 0), aO 9 [.int 0, .int 0, .int 0], .inl (List.replicate 5 0), .inr (.inl (List.replicate 4 none)), aO 8 [.ref 7, .ref 9, .ref 12, .int 0, .int 0, .int 0], aO 6 [.ref 8, .int 0], .inl (List.replicate 10 0), aO 3 [.ref 10, .ref 11, .int 0], .inl (List.replicate 8 0), .inl (List.replicate 8 0), .inl (List.replicate 4 0), aO 8 [.ref 14, .ref 16, .ref 19, .int 0, .int 0, .int 0], aO 6 [.ref 15, .int 0], .inl (List.replicate 10 0), aO 3 [.ref 17, .ref 18, .int 0], .inl (List.replicate 8 0), .inl (List.replicate 8 0), .inl (List.replicate 4 0), aO 6 [.ref 21, .int 0], .inl (List.replicate 10 0), aO 2 [.ref 23, .ref 24, .int 0], .inl (List.replicate 8 0), .inl (List.replicate 4 0), aO 12 [.ref 26, .int 0, .int 0, .int 0, .int 0, .null, .null, .int 0, .int 0, .int 0, .int 0, .null, .null, .int 0, .null, .int 0, .null, .null, .int 0, .null, .null, .int 0, .null, .int 0, .int 0, .int 0, .int 0, .int 0, .null, .null, .null, .long 0], .inl (List.replicate 28 0), .inl (List.replicate 5 0)]
def hp_53 : aH := [aO 11 [.ref 1, .ref 4, .ref 5, .ref 6, .ref 13, .ref 20, .ref 22, .int 0, .int 0, .int 0], aO 5 [.ref 2, .ref 3, .int 0], .inl (List.replicate 28 0), aO 9 [.int 0, .int 0, .int 0], .inl (List.replicate 5 0), .inr (.inl (List.replicate 4 none)), aO 8 [.ref 7, .ref 9, .ref 12, .int 0, .int 0, .int 0], aO 6 [.ref 8, .int 0], .inl (List.replicate 10 0), aO 3 [.ref 10, .ref 11, .int 0], .inl (List.replicate 8 0), .inl (List.replicate 8 0), .inl (List.replicate 4 0), aO 8 [.ref 14, .ref 16, .ref 19, .int 0, .int 0, .int 0], aO 6 [.ref 15, .int 0], .inl (List.replicate 10 0), aO 3 [.ref 17, .ref 18, .int 0], .inl (List.replicate 8 0), .inl (List.replicate 8 0), .inl (List.replicate 4 0), aO 6 [.ref 21, .int 0], .inl (List.replicate 10 0), aO 2 [.ref 23, .ref 24, .int 0], .inl (List.replicate 8 0), .inl (List.replicate 4 0), aO 12 [.ref 26, .int 0, .int 0, .int 0, .int 0, .ref 27, .null, .int 0, .int 0, .int 0, .int 0, .null, .null, .int 0, .null, .int 0, .null, .null, .int 0, .null, .null, .int 0, .null, .int 0, .int 0, .int 0, .int 0, .int 0, .null, .null, .null, .long 0], .inl (List.replicate 28 0), .inl (List.replicate 5 0)]
def hp_54 : aH := [aO 11 [.ref 1, .ref 4, .ref 5, .ref 6, .ref 13, .ref 20, .ref 22, .int 0, .int 0, .int 0], aO 5 [.ref 2, .ref 3, .int 0], .inl (List.replicate 28 0), aO 9 [.int 0, .int 0, .int 0], .inl (List.replicate 5 0), .inr (.inl (List.replicate 4 none)), aO 8 [.ref 7, .ref 9, .ref 12, .int 0, .int 0, .int 0], aO 6 [.ref 8, .int 0], .inl (List.replicate 10 0), aO 3 [.ref 10, .ref 11, .int 0], .inl (List.replicate 8 0), .inl (List.replicate 8 0), .inl (List.replicate 4 0), aO 8 [.ref 14, .ref 16, .ref 19, .int 0, .int 0, .int 0], aO 6 [.ref 15, .int 0], .inl (List.replicate 10 0), aO 3 [.ref 17, .ref 18, .int 0], .inl (List.replicate 8 0), .inl (List.replicate 8 0), .inl (List.replicate 4 0), aO 6 [.ref 21, .int 0], .inl (List.replicate 10 0), aO 2 [.ref 23, .ref 24, .int 0], .inl (List.replicate 8 0), .inl (List.replicate 4 0), aO 12 [.ref 26, .int 0, .int 0, .int 0, .int 0, .ref 27, .null, .int 0, .int 0, .int 0, .int 0, .null, .null, .int 0, .null, .int 0, .null, .null, .int 0, .null, .null, .int 0, .null, .int 0, .int 0, .int 0, .int 0, .int 0, .null, .null, .null, .long 0], .inl (List.replicate 28 0), .inl (List.replicate 5 0), .inl (List.replicate 10 0)]
def hp_55 : aH := [aO 11 [.ref 1, .ref 4, .ref 5, .ref 6, .ref 13, .ref 20, .ref 22, .int 0, .int 0, .int 0], aO 5 [.ref 2, .ref 3, .int 0], .inl (List.replicate 28 0), aO 9 [.int 0, .int 0, .int 0], .inl (List.replicate 5 0), .inr (.inl (List.replicate 4 none)), aO 8 [.ref 7, .ref 9, .ref 12, .int 0, .int 0, .int 0], aO 6 [.ref 8, .int 0], .inl (List.replicate 10 0), aO 3 [.ref 10, .ref 11, .int 0], .inl (List.replicate 8 0), .inl (List.replicate 8 0), .inl (List.replicate 4 0), aO 8 [.ref 14, .ref 16, .ref 19, .int 0, .int 0, .int 0], aO 6 [.ref 15, .int 0], .inl (List.replicate 10 0), aO 3 [.ref 17, .ref 18, .int 0], .inl (List.replicate 8 0), .inl (List.replicate 8 0), .inl (List.replicate 4 0), aO 6 [.ref 21, .int 0], .inl (List.replicate 10 0), aO 2 [.ref 23, .ref 24, .int 0], .inl (List.replicate 8 0), .inl (List.replicate 4 0), aO 12 [.ref 26, .int 0, .int 0, .int 0, .int 0, .ref 27, .ref 28, .int 0, .int 0, .int 0, .int 0, .null, .null, .int 0, .null, .int 0, .null, .null, .int 0, .null, .null, .int 0, .null, .int 0, .int 0, .int 0, .int 0, .int 0, .null, .null, .null, .long 0], .inl (List.replicate 28 0), .inl (List.replicate 5 0), .inl (List.replicate 10 0)]
def hp_56 : aH := [aO 11 [.ref 1, .ref 4, .ref 5, .ref 6, .ref 13, .ref 20, .ref 22, .int 0, .int 0, .int 0], aO 5 [.ref 2, .ref 3, .int 0], .inl (List.replicate 28 0), aO 9 [.int 0, .int 0, .int 0], .inl (List.replicate 5 0), .inr (.inl (List.replicate 4 none)), aO 8 [.ref 7, .ref 9, .ref 12, .int 0, .int 0, .int 0], aO 6 [.ref 8, .int 0], .inl (List.replicate 10 0), aO 3 [.ref 10, .ref 11, .int 0], .inl (List.replicate 8 0), .inl (List.replicate 8 0), .inl (List.replicate 4 0), aO 8 [.ref 14, .ref 16, .ref 19, .int 0, .int 0, .int 0], aO 6 [.ref 15, .int 0], .inl (List.replicate 10 0), aO 3 [.ref 17, .ref 18, .int 0], .inl (List.replicate 8 0), .inl (List.replicate 8 0), .inl (List.replicate 4 0), aO 6 [.ref 21, .int 0], .inl (List.replicate 10 0), aO 2 [.ref 23, .ref 24, .int 0], .inl (List.replicate 8 0), .inl (List.replicate 4 0), aO 12 [.ref 26, .int 0, .int 0, .int 0, .int 0, .ref 27, .ref 28, .int 0, .int 0, .int 0, .int 0, .null, .null, .int 0, .null, .int 0, .null, .null, .int 0, .null, .null, .int 0, .null, .int 0, .int 0, .int 0, .int 0, .int 0, .null, .null, .null, .long 0], .inl (List.replicate 28 0), .inl (List.replicate 5 0), .inl (List.replicate 10 0), .inl (List.replicate 5 0)]
def hp_57 : aH := [aO 11 [.ref 1, .ref 4, .ref 5, .ref 6, .ref 13, .ref 20, .ref 22, .int 0, .int 0, .int 0], aO 5 [.ref 2, .ref 3, .int 0], .inl (List.replicate 28 0), aO 9 [.int 0, .int 0, .int 0], .inl (List.replicate 5 0), .inr (.inl (List.replicate 4 none)), aO 8 [.ref 7, .ref 9, .ref 12, .int 0, .int 0, .int 0], aO 6 [.ref 8, .int 0], .inl (List.replicate 10 0), aO 3 [.ref 10, .ref 11, .int 0], .inl (List.replicate 8 0), .inl (List.replicate 8 0), .inl (List.replicate 4 0), aO 8 [.ref 14, .ref 16, .ref 19, .int 0, .int 0, .int 0], aO 6 [.ref 15, .int 0], .inl (List.replicate 10 0), aO 3 [.ref 17, .ref 18, .int 0], .inl (List.replicate 8 0), .inl (List.replicate 8 0), .inl (List.replicate 4 0), aO 6 [.ref 21, .int 0], .inl (List.replicate 10 0), aO 2 [.ref 23, .ref 24, .int 0], .inl (List.replicate 8 0), .inl (List.replicate 4 0), aO 12 [.ref 26, .int 0, .int 0, .int 0, .int 0, .ref 27, .ref 28, .int 0, .int 0, .int 0, .int 0, .ref 29, .null, .int 0, .null, .int 0, .null, .null, .int 0, .null, .null, .int 0, .null, .int 0, .int 0, .int 0, .int 0, .int 0, .null, .null, .null, .long 0], .inl (List.replicate 28 0), .inl (List.replicate 5 0), .inl (List.replicate 10 0), .inl (List.replicate 5 0)]
def hp_58 : aH := [aO 11 [.ref 1, .ref 4, .ref 5, .ref 6, .ref 13, .ref 20, .ref 22, .int 0, .int 0, .int 0], aO 5 [.ref 2, .ref 3, .int 0], .inl (List.replicate 28 0), aO 9 [.int 0, .int 0, .int 0], .inl (List.replicate 5 0), .inr (.inl (List.replicate 4 none)), aO 8 [.ref 7, .ref 9, .ref 12, .int 0, .int 0, .int 0], aO 6 [.ref 8, .int 0], .inl (List.replicate 10 0), aO 3 [.ref 10, .ref 11, .int 0], .inl (List.replicate 8 0), .inl (List.replicate 8 0), .inl (List.replicate 4 0), aO 8 [.ref 14, .ref 16, .ref 19, .int 0, .int 0, .int 0], aO 6 [.ref 15, .int 0], .inl (List.replicate 10 0), aO 3 [.ref 17, .ref 18, .int 0], .inl (List.replicate 8 0), .inl (List.replicate 8 0), .inl (List.replicate 4 0), aO 6 [.ref 21, .int 0], .inl (List.replicate 10 0), aO 2 [.ref 23, .ref 24, .int 0], .inl (List.replicate 8 0), .inl (List.replicate 4 0), aO 12 [.ref 26, .int 0, .int 0, .int 0, .int 0, .ref 27, .ref 28, .int 0, .int 0, .int 0, .int 0, .ref 29, .null, .int 0, .null, .int 0, .null, .null, .int 0, .null, .null, .int 0, .null, .int 0, .int 0, .int 0, .int 0, .int 0, .null, .null, .null, .long 0], .inl (List.replicate 28 0), .inl (List.replicate 5 0), .inl (List.replicate 10 0), .inl (List.replicate 5 0), .inl (List.replicate 10 0)]
def hp_59 : aH := [aO 11 [.ref 1, .ref 4, .ref 5, .ref 6, .ref 13, .ref 20, .ref 22, .int 0, .int 0, .int 0], aO 5 [.ref 2, .ref 3, .int 0], .inl (List.replicate 28 0), aO 9 [.int 0, .int 0, .int 0], .inl (List.replicate 5 0), .inr (.inl (List.replicate 4 none)), aO 8 [.ref 7, .ref 9, .ref 12, .int 0, .int 0, .int 0], aO 6 [.ref 8, .int 0], .inl (List.replicate 10 0), aO 3 [.ref 10, .ref 11, .int 0], .inl (List.replicate 8 0), .inl (List.replicate 8 0), .inl (List.replicate 4 0), aO 8 [.ref 14, .ref 16, .ref 19, .int 0, .int 0, .int 0], aO 6 [.ref 15, .int 0], .inl (List.replicate 10 0), aO 3 [.ref 17, .ref 18, .int 0], .inl (List.replicate 8 0), .inl (List.replicate 8 0), .inl (List.replicate 4 0), aO 6 [.ref 21, .int 0], .inl (List.replicate 10 0), aO 2 [.ref 23, .ref 24, .int 0], .inl (List.replicate 8 0), .inl (List.replicate 4 0), aO 12 [.ref 26, .int 0, .int 0, .int 0, .int 0, .ref 27, .ref 28, .int 0, .int 0, .int 0, .int 0, .ref 29, .ref 30, .int 0, .null, .int 0, .null, .null, .int 0, .null, .null, .int 0, .null, .int 0, .int 0, .int 0, .int 0, .int 0, .null, .null, .null, .long 0], .inl (List.replicate 28 0), .inl (List.replicate 5 0), .inl (List.replicate 10 0), .inl (List.replicate 5 0), .inl (List.replicate 10 0)]
def hp_60 : aH := [aO 11 [.ref 1, .ref 4, .ref 5, .ref 6, .ref 13, .ref 20, .ref 22, .int 0, .int 0, .int 0], aO 5 [.ref 2, .ref 3, .int 0], .inl (List.replicate 28 0), aO 9 [.int 0, .int 0, .int 0], .inl (List.replicate 5 0), .inr (.inl (List.replicate 4 none)), aO 8 [.ref 7, .ref 9, .ref 12, .int 0, .int 0, .int 0], aO 6 [.ref 8, .int 0], .inl (List.replicate 10 0), aO 3 [.ref 10, .ref 11, .int 0], .inl (List.replicate 8 0), .inl (List.replicate 8 0), .inl (List.replicate 4 0), aO 8 [.ref 14, .ref 16, .ref 19, .int 0, .int 0, .int 0], aO 6 [.ref 15, .int 0], .inl (List.replicate 10 0), aO 3 [.ref 17, .ref 18, .int 0], .inl (List.replicate 8 0), .inl (List.replicate 8 0), .inl (List.replicate 4 0), aO 6 [.ref 21, .int 0], .inl (List.replicate 10 0), aO 2 [.ref 23, .ref 24, .int 0], .inl (List.replicate 8 0), .inl (List.replicate 4 0), aO 12 [.ref 26, .int 0, .int 0, .int 0, .int 0, .ref 27, .ref 28, .int 0, .int 0, .int 0, .int 0, .ref 29, .ref 30, .int 0, .null, .int 0, .null, .null, .int 0, .null, .null, .int 0, .null, .int 0, .int 0, .int 0, .int 0, .int 0, .null, .null, .null, .long 0], .inl (List.replicate 28 0), .inl (List.replicate 5 0), .inl (List.replicate 10 0), .inl (List.replicate 5 0), .inl (List.replicate 10 0), .inl (List.replicate 12 0)]
def hp_61 : aH := [aO 11 [.ref 1, .ref 4, .ref 5, .ref 6, .ref 13, .ref 20, .ref 22, .int 0, .int 0, .int 0], aO 5 [.ref 2, .ref 3, .int 0], .inl (List.replicate 28 0), aO 9 [.int 0, .int 0, .int 0], .inl (List.replicate 5 0), .inr (.inl (List.replicate 4 none)), aO 8 [.ref 7, .ref 9, .ref 12, .int 0, .int 0, .int 0], aO 6 [.ref 8, .int 0], .inl (List.replicate 10 0), aO 3 [.ref 10, .ref 11, .int 0], .inl (List.replicate 8 0), .inl (List.replicate 8 0), .inl (List.replicate 4 0), aO 8 [.ref 14, .ref 16, .ref 19, .int 0, .int 0, .int 0], aO 6 [.ref 15, .int 0], .inl (List.replicate 10 0), aO 3 [.ref 17, .ref 18, .int 0], .inl (List.replicate 8 0), .inl (List.replicate 8 0), .inl (List.replicate 4 0), aO 6 [.ref 21, .int 0], .inl (List.replicate 10 0), aO 2 [.ref 23, .ref 24, .int 0], .inl (List.replicate 8 0), .inl (List.replicate 4 0), aO 12 [.ref 26, .int 0, .int 0, .int 0, .int 0, .ref 27, .ref 28, .int 0, .int 0, .int 0, .int 0, .ref 29, .ref 30, .int 0, .ref 31, .int 0, .null, .null, .int 0, .null, .null, .int 0, .null, .int 0, .int 0, .int 0, .int 0, .int 0, .null, .null, .null, .long 0], .inl (List.replicate 28 0), .inl (List.replicate 5 0), .inl (List.replicate 10 0), .inl (List.replicate 5 0), .inl (List.replicate 10 0), .inl (List.replicate 12 0)]
def hp_62 : aH := [aO 11 [.ref 1, .ref 4, .ref 5, .ref 6, .ref 13, .ref 20, .ref 22, .int 0, .int 0, .int 0], aO 5 [.ref 2, .ref 3, .int 0], .inl (List.replicate 28 0), aO 9 [.int 0, .int 0, .int 0], .inl (List.replicate 5 0), .inr (.inl (List.replicate 4 none)), aO 8 [.ref 7, .ref 9, .ref 12, .int 0, .int 0, .int 0], aO 6 [.ref 8, .int 0], .inl (List.replicate 10 0), aO 3 [.ref 10, .ref 11, .int 0], .inl (List.replicate 8 0), .inl (List.replicate 8 0), .inl (List.replicate 4 0), aO 8 [.ref 14, .ref 16, .ref 19, .int 0, .int 0, .int 0], aO 6 [.ref 15, .int 0], .inl (List.replicate 10 0), aO 3 [.ref 17, .ref 18, .int 0], .inl (List.replicate 8 0), .inl (List.replicate 8 0), .inl (List.replicate 4 0), aO 6 [.ref 21, .int 0], .inl (List.replicate 10 0), aO 2 [.ref 23, .ref 24, .int 0], .inl (List.replicate 8 0), .inl (List.replicate 4 0), aO 12 [.ref 26, .int 0, .int 0, .int 0, .int 0, .ref 27, .ref 28, .int 0, .int 0, .int 0, .int 0, .ref 29, .ref 30, .int 0, .ref 31, .int 0, .null, .null, .int 0, .null, .null, .int 0, .null, .int 0, .int 0, .int 0, .int 0, .int 0, .null, .null, .null, .long 0], .inl (List.replicate 28 0), .inl (List.replicate 5 0), .inl (List.replicate 10 0), .inl (List.replicate 5 0), .inl (List.replicate 10 0), .inl (List.replicate 12 0), .inl (List.replicate 4 0)]
def hp_63 : aH := [aO 11 [.ref 1, .ref 4, .ref 5, .ref 6, .ref 13, .ref 20, .ref 22, .int 0, .int 0, .int 0], aO 5 [.ref 2, .ref 3, .int 0], .inl (List.replicate 28 0), aO 9 [.int 0, .int 0, .int 0], .inl (List.replicate 5 0), .inr (.inl (List.replicate 4 none)), aO 8 [.ref 7, .ref 9, .ref 12, .int 0, .int 0, .int 0], aO 6 [.ref 8, .int 0], .inl (List.replicate 10 0), aO 3 [.ref 10, .ref 11, .int 0], .inl (List.replicate 8 0), .inl (List.replicate 8 0), .inl (List.replicate 4 0), aO 8 [.ref 14, .ref 16, .ref 19, .int 0, .int 0, .int 0], aO 6 [.ref 15, .int 0], .inl (List.replicate 10 0), aO 3 [.ref 17, .ref 18, .int 0], .inl (List.replicate 8 0), .inl (List.replicate 8 0), .inl (List.replicate 4 0), aO 6 [.ref 21, .int 0], .inl (List.replicate 10 0), aO 2 [.ref 23, .ref 24, .int 0], .inl (List.replicate 8 0), .inl (List.replicate 4 0), aO 12 [.ref 26, .int 0, .int 0, .int 0, .int 0, .ref 27, .ref 28, .int 0, .int 0, .int 0, .int 0, .ref 29, .ref 30, .int 0, .ref 31, .int 0, .ref 32, .null, .int 0, .null, .null, .int 0, .null, .int 0, .int 0, .int 0, .int 0, .int 0, .null, .null, .null, .long 0], .inl (List.replicate 28 0), .inl (List.replicate 5 0), .inl (List.replicate 10 0), .inl (List.replicate 5 0), .inl (List.replicate 10 0), .inl (List.replicate 12 0), .inl (List.replicate 4 0)]
def hp_64 : aH := [aO 11 [.ref 1, .ref 4, .ref 5, .ref 6, .ref 13, .ref 20, .ref 22, .int 0, .int 0, .int 0], aO 5 [.ref 2, .ref 3, .int 0], .inl (List.replicate 28 0), aO 9 [.int 0, .int 0, .int 0], .inl (List.replicate 5 0), .inr (.inl (List.replicate 4 none)), aO 8 [.ref 7, .ref 9, .ref 12, .int 0, .int 0, .int 0], aO 6 [.ref 8, .int 0], .inl (List.replicate 10 0), aO 3 [.ref 10, .ref 11, .int 0], .inl (List.replicate 8 0), .inl (List.replicate 8 0), .inl (List.replicate 4 0), aO 8 [.ref 14, .ref 16, .ref 19, .int 0, .int 0, .int 0], aO 6 [.ref 15, .int 0], .inl (List.replicate 10 0), aO 3 [.ref 17, .ref 18, .int 0], .inl (List.replicate 8 0), .inl (List.replicate 8 0), .inl (List.replicate 4 0), aO 6 [.ref 21, .int 0], .inl (List.replicate 10 0), aO 2 [.ref 23, .ref 24, .int 0], .inl (List.replicate 8 0), .inl (List.replicate 4 0), aO 12 [.ref 26, .int 0, .int 0, .int 0, .int 0, .ref 27, .ref 28, .int 0, .int 0, .int 0, .int 0, .ref 29, .ref 30, .int 0, .ref 31, .int 0, .ref 32, .null, .int 0, .null, .null, .int 0, .null, .int 0, .int 0, .int 0, .int 0, .int 0, .null, .null, .null, .long 0], .inl (List.replicate 28 0), .inl (List.replicate 5 0), .inl (List.replicate 10 0), .inl (List.replicate 5 0), .inl (List.replicate 10 0), .inl (List.replicate 12 0), .inl (List.replicate 4 0), .inl (List.replicate 5 0)]
/-- the state of a new object -/
def t0 : St := ([], [0, 0, 0, 0, 0], ([], 0, [], 0, []), none, 0, 0)
theorem rep0 (n : Nat) : List.replicate n (0 : Int32) = (List.replicate n 0).map nI := by rw [List.map_replicate]; rfl
theorem repD (n k b : Nat) (hb : 0 < b) : (List.replicate n 0).getD k 0 < b := by
  rw [List.getD_eq_getElem?_getD, List.getElem?_replicate]
  split
  · exact hb
  · exact hb
theorem repA {n : Nat} {σ : aH} {j : Nat} (h : σ[j]? = some (.inl (List.replicate n 0))) : σ[j]? = some (aA (List.replicate n 0)) := by rw [h, rep0]
theorem WF_0 : WF t0 := by
  have h0 : ∀ k, ([] : List Nat).getD k 0 = 0 := fun k => by rw [List.getD_eq_getElem?_getD]; simp
  have h5 : ∀ d, [0, 0, 0, 0, 0].getD d 0 < 256 := fun d => by
    rw [List.getD_eq_getElem?_getD]
    rcases d with _ | _ | _ | _ | _ | d <;> simp
  refine ⟨by decide, fun k => ?_, rfl, h5, rfl, ⟨by decide, fun k => ?_, by decide, by decide, fun i => ?_, by decide, fun h hh => by cases hh⟩, fun c hc => (nomatch (show (none : Option Cr) = some c from hc)), by decide, by decide, by decide, fun _ => ⟨rfl, rfl, rfl⟩⟩
  · show ([] : List Nat).getD k 0 < 127
    rw [h0]; decide
  · show ([] : List Nat).getD k 0 < 8
    rw [h0]; decide
  · show (([] : List Mn).getD i m0).1 ≤ 4 ∧ (([] : List Mn).getD i m0).2.1 ≤ 4 ∧ (([] : List Mn).getD i m0).2.2 < 256
    rw [List.getD_eq_getElem?_getD]
    simp
end
