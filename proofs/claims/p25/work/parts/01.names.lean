-- ===== PART A: goes FIRST, ahead of the names: the tables' words, and 'selects' of the private methods out of them =====
/-- a private method of a class that the tables say can be made, by its rows of tables_1 -/
def lw_okq (q : MethodName × Nat) : Prop := (q.1.cls ≠ "java/lang/invoke/MethodHandle" ∧ q.1.cls ≠ "java/lang/invoke/VarHandle") ∧ Cond.instantiable q.1.cls q.2 ∈ tables_1 ∧ Cond.privateMethod q.1 ∈ tables_1 ∧ Cond.instanceMethod q.1 ∈ tables_1
theorem lw_p0 : lw_okq (⟨"ReadAloud$Walk", "enter", "(I)V"⟩, 3) := ⟨⟨by decide +kernel, by decide +kernel⟩, List.mem_of_getElem? (i := 30) (by decide +kernel), List.mem_of_getElem? (i := 179) (by decide +kernel), List.mem_of_getElem? (i := 180) (by decide +kernel)⟩
theorem lw_p1 : lw_okq (⟨"ReadAloud$Walk", "passesWord", "(I)Z"⟩, 3) := ⟨⟨by decide +kernel, by decide +kernel⟩, List.mem_of_getElem? (i := 30) (by decide +kernel), List.mem_of_getElem? (i := 190) (by decide +kernel), List.mem_of_getElem? (i := 191) (by decide +kernel)⟩
theorem lw_p2 : lw_okq (⟨"ReadAloud", "readCourt", "()V"⟩, 10) := ⟨⟨by decide +kernel, by decide +kernel⟩, List.mem_of_getElem? (i := 16) (by decide +kernel), List.mem_of_getElem? (i := 207) (by decide +kernel), List.mem_of_getElem? (i := 208) (by decide +kernel)⟩
theorem lw_p3 : lw_okq (⟨"ReadAloud", "hasCourt", "()Z"⟩, 10) := ⟨⟨by decide +kernel, by decide +kernel⟩, List.mem_of_getElem? (i := 16) (by decide +kernel), List.mem_of_getElem? (i := 248) (by decide +kernel), List.mem_of_getElem? (i := 249) (by decide +kernel)⟩
theorem lw_p4 : lw_okq (⟨"ReadAloud", "manOf", "(I)LReadAloud$Man;"⟩, 10) := ⟨⟨by decide +kernel, by decide +kernel⟩, List.mem_of_getElem? (i := 16) (by decide +kernel), List.mem_of_getElem? (i := 332) (by decide +kernel), List.mem_of_getElem? (i := 333) (by decide +kernel)⟩
theorem lw_p5 : lw_okq (⟨"ReadAloud", "isAccused", "(I)Z"⟩, 10) := ⟨⟨by decide +kernel, by decide +kernel⟩, List.mem_of_getElem? (i := 16) (by decide +kernel), List.mem_of_getElem? (i := 336) (by decide +kernel), List.mem_of_getElem? (i := 337) (by decide +kernel)⟩
theorem lw_p6 : lw_okq (⟨"ReadAloud", "alteredBy", "(ILReadAloud$Sheet;)I"⟩, 10) := ⟨⟨by decide +kernel, by decide +kernel⟩, List.mem_of_getElem? (i := 16) (by decide +kernel), List.mem_of_getElem? (i := 366) (by decide +kernel), List.mem_of_getElem? (i := 367) (by decide +kernel)⟩
theorem lw_p7 : lw_okq (⟨"ReadAloud", "deedOf", "(I)I"⟩, 10) := ⟨⟨by decide +kernel, by decide +kernel⟩, List.mem_of_getElem? (i := 16) (by decide +kernel), List.mem_of_getElem? (i := 370) (by decide +kernel), List.mem_of_getElem? (i := 371) (by decide +kernel)⟩
theorem lw_p8 : lw_okq (⟨"ReadAloud", "hiddenBy", "(I)I"⟩, 10) := ⟨⟨by decide +kernel, by decide +kernel⟩, List.mem_of_getElem? (i := 16) (by decide +kernel), List.mem_of_getElem? (i := 374) (by decide +kernel), List.mem_of_getElem? (i := 375) (by decide +kernel)⟩
theorem lw_p9 : lw_okq (⟨"ReadAloud", "wouldAlter", "(ILReadAloud$Sheet;II)I"⟩, 10) := ⟨⟨by decide +kernel, by decide +kernel⟩, List.mem_of_getElem? (i := 16) (by decide +kernel), List.mem_of_getElem? (i := 378) (by decide +kernel), List.mem_of_getElem? (i := 379) (by decide +kernel)⟩
theorem lw_p10 : lw_okq (⟨"ReadAloud", "placeToListen", "(I)I"⟩, 10) := ⟨⟨by decide +kernel, by decide +kernel⟩, List.mem_of_getElem? (i := 16) (by decide +kernel), List.mem_of_getElem? (i := 434) (by decide +kernel), List.mem_of_getElem? (i := 435) (by decide +kernel)⟩
theorem lw_p11 : lw_okq (⟨"ReadAloud", "deedsAltering", "(II)I"⟩, 10) := ⟨⟨by decide +kernel, by decide +kernel⟩, List.mem_of_getElem? (i := 16) (by decide +kernel), List.mem_of_getElem? (i := 438) (by decide +kernel), List.mem_of_getElem? (i := 439) (by decide +kernel)⟩
theorem lw_p12 : lw_okq (⟨"ReadAloud", "drawSheet", "(I)I"⟩, 10) := ⟨⟨by decide +kernel, by decide +kernel⟩, List.mem_of_getElem? (i := 16) (by decide +kernel), List.mem_of_getElem? (i := 464) (by decide +kernel), List.mem_of_getElem? (i := 465) (by decide +kernel)⟩
theorem lw_p13 : lw_okq (⟨"ReadAloud", "hangingAt", "(LReadAloud$Sheet;)I"⟩, 10) := ⟨⟨by decide +kernel, by decide +kernel⟩, List.mem_of_getElem? (i := 16) (by decide +kernel), List.mem_of_getElem? (i := 472) (by decide +kernel), List.mem_of_getElem? (i := 473) (by decide +kernel)⟩
theorem lw_p14 : lw_okq (⟨"ReadAloud", "allAltering", "(LReadAloud$Sheet;)I"⟩, 10) := ⟨⟨by decide +kernel, by decide +kernel⟩, List.mem_of_getElem? (i := 16) (by decide +kernel), List.mem_of_getElem? (i := 476) (by decide +kernel), List.mem_of_getElem? (i := 477) (by decide +kernel)⟩
def lw_privs_1 : List (MethodName × Nat) := [(⟨"ReadAloud$Walk", "enter", "(I)V"⟩, 3), (⟨"ReadAloud$Walk", "passesWord", "(I)Z"⟩, 3), (⟨"ReadAloud", "readCourt", "()V"⟩, 10), (⟨"ReadAloud", "hasCourt", "()Z"⟩, 10), (⟨"ReadAloud", "manOf", "(I)LReadAloud$Man;"⟩, 10), (⟨"ReadAloud", "isAccused", "(I)Z"⟩, 10), (⟨"ReadAloud", "alteredBy", "(ILReadAloud$Sheet;)I"⟩, 10), (⟨"ReadAloud", "deedOf", "(I)I"⟩, 10), (⟨"ReadAloud", "hiddenBy", "(I)I"⟩, 10), (⟨"ReadAloud", "wouldAlter", "(ILReadAloud$Sheet;II)I"⟩, 10), (⟨"ReadAloud", "placeToListen", "(I)I"⟩, 10), (⟨"ReadAloud", "deedsAltering", "(II)I"⟩, 10), (⟨"ReadAloud", "drawSheet", "(I)I"⟩, 10), (⟨"ReadAloud", "hangingAt", "(LReadAloud$Sheet;)I"⟩, 10), (⟨"ReadAloud", "allAltering", "(LReadAloud$Sheet;)I"⟩, 10)]
theorem lw_r1 : ∀ q ∈ lw_privs_1, lw_okq q := List.forall_mem_cons.mpr ⟨lw_p0, List.forall_mem_cons.mpr ⟨lw_p1, List.forall_mem_cons.mpr ⟨lw_p2, List.forall_mem_cons.mpr ⟨lw_p3, List.forall_mem_cons.mpr ⟨lw_p4, List.forall_mem_cons.mpr ⟨lw_p5, List.forall_mem_cons.mpr ⟨lw_p6, List.forall_mem_cons.mpr ⟨lw_p7, List.forall_mem_cons.mpr ⟨lw_p8, List.forall_mem_cons.mpr ⟨lw_p9, List.forall_mem_cons.mpr ⟨lw_p10, List.forall_mem_cons.mpr ⟨lw_p11, List.forall_mem_cons.mpr ⟨lw_p12, List.forall_mem_cons.mpr ⟨lw_p13, List.forall_mem_cons.mpr ⟨lw_p14, fun _ h => absurd h List.not_mem_nil⟩⟩⟩⟩⟩⟩⟩⟩⟩⟩⟩⟩⟩⟩⟩
def lw_privs : List (MethodName × Nat) := lw_privs_1
def lw_tbl : List Cond := k2_sels lw_privs ++ tables_1
theorem lw_privs_ok : ∀ q ∈ lw_privs, lw_okq q := lw_r1
theorem goodIn_r {big : List Cond} (ws : List Cond) (ps : List Nat) (hp : ws = ps.filterMap (fun i => big[i]?)) (h : ws.all goodWord = true) : GoodIn big ws := by
  intro w hw
  have h1 := List.all_eq_true.mp h w hw
  rw [hp] at hw
  obtain ⟨i, -, hi⟩ := List.mem_filterMap.mp hw
  have hm : w ∈ big := by first | exact List.mem_of_getElem? hi | exact List.getElem?_mem hi
  exact ⟨hm, good_of_word h1⟩
theorem goodIn_app {big a b : List Cond} (ha : GoodIn big a) (hb : GoodIn big b) : GoodIn big (a ++ b) := fun w h => (List.mem_append.mp h).elim (ha w) (hb w)
theorem goodIn_ca {big a b : List Cond} {c : Cond} (ha : GoodIn big (c :: a)) (hb : GoodIn big b) : GoodIn big (c :: (a ++ b)) := fun w h => (List.mem_cons.mp h).elim (fun e => ha w (List.mem_cons.mpr (Or.inl e))) (fun h => (List.mem_append.mp h).elim (fun h => ha w (List.mem_cons.mpr (Or.inr h))) (hb w))
theorem goodIn_sub {big ws : List Cond} (hm : ∀ w ∈ ws, w ∈ big) (h : ws.all goodWord = true) : GoodIn big ws := fun w hw => ⟨hm w hw, good_of_word (List.all_eq_true.mp h w hw)⟩

def RX0 : String := "ReadAloud$Actor"
def TX0 : u_T := fun k => match k with
  | _ => ("ReadAloud$Man", "deed", "I", true)
def tyX0 : Nat → FieldType := fun k => match k with
  | _ => .int
abbrev wsX00 : List Cond := u_ws RX0 TX0 1
theorem nmX0 : ∀ a, a < 1 → ∀ b, b < 1 → a ≠ b → (TX0 a).2.1 ≠ (TX0 b).2.1 := by decide +kernel
theorem tyX0_ok : ∀ k, k < 1 → parseFieldDescriptor (TX0 k).2.2.1 = some (tyX0 k) := by decide +kernel
abbrev cX0_init : ByteArray := prog_2_method_1_code
def yX0_init : MethodName := ⟨RX0, "<init>", "(I)V"⟩
abbrev cX0_kind : ByteArray := prog_2_method_2_code
def yX0_kind : MethodName := ⟨RX0, "kind", "()I"⟩
abbrev cX0_placesByDeed : ByteArray := prog_2_method_3_code
def yX0_placesByDeed : MethodName := ⟨RX0, "placesByDeed", "(LReadAloud$Sheet;I)I"⟩
def RX1 : String := "ReadAloud$Boy"
def TX1 : u_T := fun k => match k with
  | _ => ("ReadAloud$Man", "deed", "I", true)
def tyX1 : Nat → FieldType := fun k => match k with
  | _ => .int
abbrev wsX10 : List Cond := u_ws RX1 TX1 1
theorem nmX1 : ∀ a, a < 1 → ∀ b, b < 1 → a ≠ b → (TX1 a).2.1 ≠ (TX1 b).2.1 := by decide +kernel
theorem tyX1_ok : ∀ k, k < 1 → parseFieldDescriptor (TX1 k).2.2.1 = some (tyX1 k) := by decide +kernel
abbrev cX1_init : ByteArray := prog_3_method_1_code
def yX1_init : MethodName := ⟨RX1, "<init>", "(I)V"⟩
abbrev cX1_kind : ByteArray := prog_3_method_2_code
def yX1_kind : MethodName := ⟨RX1, "kind", "()I"⟩
abbrev cX1_placesByDeed : ByteArray := prog_3_method_3_code
def yX1_placesByDeed : MethodName := ⟨RX1, "placesByDeed", "(LReadAloud$Sheet;I)I"⟩
def RX2 : String := "ReadAloud$Brief"
def TX2 : u_T := fun k => match k with
  | 0 => ("ReadAloud$Brief", "pairsTold", "[I", true)
  | 1 => ("ReadAloud$Brief", "words", "[I", true)
  | _ => ("ReadAloud$Brief", "size", "I", false)
def tyX2 : Nat → FieldType := fun k => match k with
  | 0 => .array .int
  | 1 => .array .int
  | _ => .int
abbrev wsX20 : List Cond := u_ws RX2 TX2 3
theorem nmX2 : ∀ a, a < 3 → ∀ b, b < 3 → a ≠ b → (TX2 a).2.1 ≠ (TX2 b).2.1 := by decide +kernel
theorem tyX2_ok : ∀ k, k < 3 → parseFieldDescriptor (TX2 k).2.2.1 = some (tyX2 k) := by decide +kernel
abbrev cX2_init : ByteArray := prog_4_method_1_code
def yX2_init : MethodName := ⟨RX2, "<init>", "()V"⟩
def RX3 : String := "ReadAloud$Heard"
def TX3 : u_T := fun k => match k with
  | 0 => ("ReadAloud$Heard", "whom", "[I", true)
  | 1 => ("ReadAloud$Heard", "deeds", "[I", true)
  | _ => ("ReadAloud$Heard", "size", "I", false)
def tyX3 : Nat → FieldType := fun k => match k with
  | 0 => .array .int
  | 1 => .array .int
  | _ => .int
abbrev wsX30 : List Cond := u_ws RX3 TX3 3
theorem nmX3 : ∀ a, a < 3 → ∀ b, b < 3 → a ≠ b → (TX3 a).2.1 ≠ (TX3 b).2.1 := by decide +kernel
theorem tyX3_ok : ∀ k, k < 3 → parseFieldDescriptor (TX3 k).2.2.1 = some (tyX3 k) := by decide +kernel
abbrev cX3_init : ByteArray := prog_5_method_1_code
def yX3_init : MethodName := ⟨RX3, "<init>", "()V"⟩
abbrev cX3_size : ByteArray := prog_5_method_2_code
def yX3_size : MethodName := ⟨RX3, "size", "()I"⟩
abbrev cX3_clear : ByteArray := prog_5_method_4_code
def yX3_clear : MethodName := ⟨RX3, "clear", "()V"⟩
abbrev cX3_deedsLeft : ByteArray := prog_5_method_6_code
def yX3_deedsLeft : MethodName := ⟨RX3, "deedsLeft", "(I)I"⟩
def RX4 : String := "ReadAloud$Man"
def TX4 : u_T := fun k => match k with
  | _ => ("ReadAloud$Man", "deed", "I", true)
def tyX4 : Nat → FieldType := fun k => match k with
  | _ => .int
abbrev wsX40 : List Cond := u_ws RX4 TX4 1
theorem nmX4 : ∀ a, a < 1 → ∀ b, b < 1 → a ≠ b → (TX4 a).2.1 ≠ (TX4 b).2.1 := by decide +kernel
theorem tyX4_ok : ∀ k, k < 1 → parseFieldDescriptor (TX4 k).2.2.1 = some (tyX4 k) := by decide +kernel
abbrev cX4_init : ByteArray := prog_6_method_1_code
def yX4_init : MethodName := ⟨RX4, "<init>", "(I)V"⟩
abbrev cX4_deed : ByteArray := prog_6_method_2_code
def yX4_deed : MethodName := ⟨RX4, "deed", "()I"⟩
abbrev cX4_kind : ByteArray := prog_6_method_3_code
def yX4_kind : MethodName := ⟨RX4, "kind", "()I"⟩
abbrev cX4_placesByDeed : ByteArray := prog_6_method_4_code
def yX4_placesByDeed : MethodName := ⟨RX4, "placesByDeed", "(LReadAloud$Sheet;I)I"⟩
abbrev cX4_placesAnyhow : ByteArray := prog_6_method_5_code
def yX4_placesAnyhow : MethodName := ⟨RX4, "placesAnyhow", "(LReadAloud$Sheet;)I"⟩
def RX5 : String := "ReadAloud$Page"
def TX5 : u_T := fun k => match k with
  | 0 => ("ReadAloud$Page", "codes", "[I", true)
  | 1 => ("ReadAloud$Page", "walk", "LReadAloud$Walk;", true)
  | _ => ("ReadAloud$Page", "size", "I", false)
def tyX5 : Nat → FieldType := fun k => match k with
  | 0 => .array .int
  | 1 => .object "ReadAloud$Walk"
  | _ => .int
abbrev wsX50 : List Cond := u_ws RX5 TX5 3
theorem nmX5 : ∀ a, a < 3 → ∀ b, b < 3 → a ≠ b → (TX5 a).2.1 ≠ (TX5 b).2.1 := by decide +kernel
theorem tyX5_ok : ∀ k, k < 3 → parseFieldDescriptor (TX5 k).2.2.1 = some (tyX5 k) := by decide +kernel
abbrev cX5_init : ByteArray := prog_7_method_1_code
def yX5_init : MethodName := ⟨RX5, "<init>", "()V"⟩
abbrev cX5_size : ByteArray := prog_7_method_2_code
def yX5_size : MethodName := ⟨RX5, "size", "()I"⟩
abbrev cX5_codeAt : ByteArray := prog_7_method_3_code
def yX5_codeAt : MethodName := ⟨RX5, "codeAt", "(I)I"⟩
abbrev cX5_add : ByteArray := prog_7_method_4_code
def yX5_add : MethodName := ⟨RX5, "add", "(I)Z"⟩
abbrev cX5_clear : ByteArray := prog_7_method_5_code
def yX5_clear : MethodName := ⟨RX5, "clear", "()V"⟩
abbrev cX5_faultPlace : ByteArray := prog_7_method_6_code
def yX5_faultPlace : MethodName := ⟨RX5, "faultPlace", "()I"⟩
abbrev cX5_isCourt : ByteArray := prog_7_method_7_code
def yX5_isCourt : MethodName := ⟨RX5, "isCourt", "()Z"⟩
def RX6 : String := "ReadAloud$Sheet"
def TX6 : u_T := fun k => match k with
  | 0 => ("ReadAloud$Sheet", "words", "[I", true)
  | _ => ("ReadAloud$Sheet", "size", "I", false)
def tyX6 : Nat → FieldType := fun k => match k with
  | 0 => .array .int
  | _ => .int
abbrev wsX60 : List Cond := u_ws RX6 TX6 2
theorem nmX6 : ∀ a, a < 2 → ∀ b, b < 2 → a ≠ b → (TX6 a).2.1 ≠ (TX6 b).2.1 := by decide +kernel
theorem tyX6_ok : ∀ k, k < 2 → parseFieldDescriptor (TX6 k).2.2.1 = some (tyX6 k) := by decide +kernel
abbrev cX6_init : ByteArray := prog_8_method_1_code
def yX6_init : MethodName := ⟨RX6, "<init>", "()V"⟩
abbrev cX6_size : ByteArray := prog_8_method_2_code
def yX6_size : MethodName := ⟨RX6, "size", "()I"⟩
abbrev cX6_has : ByteArray := prog_8_method_3_code
def yX6_has : MethodName := ⟨RX6, "has", "(I)Z"⟩
abbrev cX6_at : ByteArray := prog_8_method_4_code
def yX6_at : MethodName := ⟨RX6, "at", "(I)I"⟩
abbrev cX6_set : ByteArray := prog_8_method_5_code
def yX6_set : MethodName := ⟨RX6, "set", "(II)V"⟩
abbrev cX6_add : ByteArray := prog_8_method_6_code
def yX6_add : MethodName := ⟨RX6, "add", "(I)V"⟩
abbrev cX6_clear : ByteArray := prog_8_method_7_code
def yX6_clear : MethodName := ⟨RX6, "clear", "()V"⟩
abbrev cX6_placesOf : ByteArray := prog_8_method_9_code
def yX6_placesOf : MethodName := ⟨RX6, "placesOf", "(I)I"⟩
abbrev cX6_firstPlacesOf : ByteArray := prog_8_method_10_code
def yX6_firstPlacesOf : MethodName := ⟨RX6, "firstPlacesOf", "(I)I"⟩
abbrev cX6_placesBehind : ByteArray := prog_8_method_11_code
def yX6_placesBehind : MethodName := ⟨RX6, "placesBehind", "(I)I"⟩
abbrev cX6_unlikeWords : ByteArray := prog_8_method_12_code
def yX6_unlikeWords : MethodName := ⟨RX6, "unlikeWords", "()I"⟩
def RX7 : String := "ReadAloud$Stammerer"
def TX7 : u_T := fun k => match k with
  | _ => ("ReadAloud$Man", "deed", "I", true)
def tyX7 : Nat → FieldType := fun k => match k with
  | _ => .int
abbrev wsX70 : List Cond := u_ws RX7 TX7 1
theorem nmX7 : ∀ a, a < 1 → ∀ b, b < 1 → a ≠ b → (TX7 a).2.1 ≠ (TX7 b).2.1 := by decide +kernel
theorem tyX7_ok : ∀ k, k < 1 → parseFieldDescriptor (TX7 k).2.2.1 = some (tyX7 k) := by decide +kernel
abbrev cX7_init : ByteArray := prog_9_method_1_code
def yX7_init : MethodName := ⟨RX7, "<init>", "(I)V"⟩
abbrev cX7_kind : ByteArray := prog_9_method_2_code
def yX7_kind : MethodName := ⟨RX7, "kind", "()I"⟩
abbrev cX7_placesAnyhow : ByteArray := prog_9_method_3_code
def yX7_placesAnyhow : MethodName := ⟨RX7, "placesAnyhow", "(LReadAloud$Sheet;)I"⟩
def RX8 : String := "ReadAloud$State"
def TX8 : u_T := fun k => match k with
  | 0 => ("ReadAloud$State", "sheet", "LReadAloud$Sheet;", true)
  | 1 => ("ReadAloud$State", "heard", "LReadAloud$Heard;", true)
  | 2 => ("ReadAloud$State", "hidden", "[I", true)
  | 3 => ("ReadAloud$State", "limit", "I", false)
  | 4 => ("ReadAloud$State", "men", "I", false)
  | _ => ("ReadAloud$State", "changes", "I", false)
def tyX8 : Nat → FieldType := fun k => match k with
  | 0 => .object "ReadAloud$Sheet"
  | 1 => .object "ReadAloud$Heard"
  | 2 => .array .int
  | 3 => .int
  | 4 => .int
  | _ => .int
abbrev wsX80 : List Cond := u_ws RX8 TX8 6
theorem nmX8 : ∀ a, a < 6 → ∀ b, b < 6 → a ≠ b → (TX8 a).2.1 ≠ (TX8 b).2.1 := by decide +kernel
theorem tyX8_ok : ∀ k, k < 6 → parseFieldDescriptor (TX8 k).2.2.1 = some (tyX8 k) := by decide +kernel
abbrev cX8_init : ByteArray := prog_10_method_1_code
def yX8_init : MethodName := ⟨RX8, "<init>", "()V"⟩
abbrev cX8_begin : ByteArray := prog_10_method_2_code
def yX8_begin : MethodName := ⟨RX8, "begin", "()V"⟩
def RX9 : String := "ReadAloud$Walk"
def TX9 : u_T := fun k => match k with
  | 0 => ("ReadAloud$Walk", "part", "I", false)
  | 1 => ("ReadAloud$Walk", "wordsOfPart", "I", false)
  | _ => ("ReadAloud$Walk", "lastWord", "I", false)
def tyX9 : Nat → FieldType := fun k => match k with
  | 0 => .int
  | 1 => .int
  | _ => .int
abbrev wsX90 : List Cond := u_ws RX9 TX9 3
theorem nmX9 : ∀ a, a < 3 → ∀ b, b < 3 → a ≠ b → (TX9 a).2.1 ≠ (TX9 b).2.1 := by decide +kernel
theorem tyX9_ok : ∀ k, k < 3 → parseFieldDescriptor (TX9 k).2.2.1 = some (tyX9 k) := by decide +kernel
abbrev cX9_init : ByteArray := prog_11_method_1_code
def yX9_init : MethodName := ⟨RX9, "<init>", "()V"⟩
abbrev cX9_begin : ByteArray := prog_11_method_2_code
def yX9_begin : MethodName := ⟨RX9, "begin", "()V"⟩
abbrev cX9_passes : ByteArray := prog_11_method_3_code
def yX9_passes : MethodName := ⟨RX9, "passes", "(I)Z"⟩
abbrev cX9_isWhole : ByteArray := prog_11_method_4_code
def yX9_isWhole : MethodName := ⟨RX9, "isWhole", "()Z"⟩
abbrev cX9_enter : ByteArray := prog_11_method_5_code
def yX9_enter : MethodName := ⟨RX9, "enter", "(I)V"⟩
abbrev cX9_passesWord : ByteArray := prog_11_method_6_code
def yX9_passesWord : MethodName := ⟨RX9, "passesWord", "(I)Z"⟩
def RX10 : String := "ReadAloud$Weeper"
def TX10 : u_T := fun k => match k with
  | _ => ("ReadAloud$Man", "deed", "I", true)
def tyX10 : Nat → FieldType := fun k => match k with
  | _ => .int
abbrev wsX100 : List Cond := u_ws RX10 TX10 1
theorem nmX10 : ∀ a, a < 1 → ∀ b, b < 1 → a ≠ b → (TX10 a).2.1 ≠ (TX10 b).2.1 := by decide +kernel
theorem tyX10_ok : ∀ k, k < 1 → parseFieldDescriptor (TX10 k).2.2.1 = some (tyX10 k) := by decide +kernel
abbrev cX10_init : ByteArray := prog_12_method_1_code
def yX10_init : MethodName := ⟨RX10, "<init>", "(I)V"⟩
abbrev cX10_kind : ByteArray := prog_12_method_2_code
def yX10_kind : MethodName := ⟨RX10, "kind", "()I"⟩
abbrev cX10_placesAnyhow : ByteArray := prog_12_method_3_code
def yX10_placesAnyhow : MethodName := ⟨RX10, "placesAnyhow", "(LReadAloud$Sheet;)I"⟩
def RX11 : String := "ReadAloud"
def TX11 : u_T := fun k => match k with
  | 0 => ("ReadAloud", "page", "LReadAloud$Page;", true)
  | 1 => ("ReadAloud", "near", "[I", true)
  | 2 => ("ReadAloud", "men", "[LReadAloud$Man;", true)
  | 3 => ("ReadAloud", "now", "LReadAloud$State;", true)
  | 4 => ("ReadAloud", "kept", "LReadAloud$State;", true)
  | 5 => ("ReadAloud", "drawn", "LReadAloud$Sheet;", true)
  | 6 => ("ReadAloud", "shortest", "LReadAloud$Brief;", true)
  | 7 => ("ReadAloud", "imageKept", "Z", false)
  | 8 => ("ReadAloud", "courtsRead", "I", false)
  | _ => ("ReadAloud", "briefsDone", "I", false)
def tyX11 : Nat → FieldType := fun k => match k with
  | 0 => .object "ReadAloud$Page"
  | 1 => .array .int
  | 2 => .array (.object "ReadAloud$Man")
  | 3 => .object "ReadAloud$State"
  | 4 => .object "ReadAloud$State"
  | 5 => .object "ReadAloud$Sheet"
  | 6 => .object "ReadAloud$Brief"
  | 7 => .boolean
  | 8 => .int
  | _ => .int
abbrev wsX110 : List Cond := u_ws RX11 TX11 10
theorem nmX11 : ∀ a, a < 10 → ∀ b, b < 10 → a ≠ b → (TX11 a).2.1 ≠ (TX11 b).2.1 := by decide +kernel
theorem tyX11_ok : ∀ k, k < 10 → parseFieldDescriptor (TX11 k).2.2.1 = some (tyX11 k) := by decide +kernel
abbrev cX11_init : ByteArray := prog_1_method_1_code
def yX11_init : MethodName := ⟨RX11, "<init>", "()V"⟩
abbrev cX11_letter : ByteArray := prog_1_method_2_code
def yX11_letter : MethodName := ⟨RX11, "letter", "(I)I"⟩
abbrev cX11_fault : ByteArray := prog_1_method_4_code
def yX11_fault : MethodName := ⟨RX11, "fault", "()I"⟩
abbrev cX11_court : ByteArray := prog_1_method_5_code
def yX11_court : MethodName := ⟨RX11, "court", "()I"⟩
abbrev cX11_near : ByteArray := prog_1_method_6_code
def yX11_near : MethodName := ⟨RX11, "near", "(I)I"⟩
abbrev cX11_word : ByteArray := prog_1_method_7_code
def yX11_word : MethodName := ⟨RX11, "word", "(I)I"⟩
abbrev cX11_put : ByteArray := prog_1_method_8_code
def yX11_put : MethodName := ⟨RX11, "put", "(II)I"⟩
abbrev cX11_limit : ByteArray := prog_1_method_9_code
def yX11_limit : MethodName := ⟨RX11, "limit", "(I)I"⟩
abbrev cX11_accuse : ByteArray := prog_1_method_10_code
def yX11_accuse : MethodName := ⟨RX11, "accuse", "(II)I"⟩
abbrev cX11_about : ByteArray := prog_1_method_11_code
def yX11_about : MethodName := ⟨RX11, "about", "(II)I"⟩
abbrev cX11_as : ByteArray := prog_1_method_12_code
def yX11_as : MethodName := ⟨RX11, "as", "(II)I"⟩
abbrev cX11_lesson : ByteArray := prog_1_method_13_code
def yX11_lesson : MethodName := ⟨RX11, "lesson", "(II)I"⟩
abbrev cX11_unlearn : ByteArray := prog_1_method_14_code
def yX11_unlearn : MethodName := ⟨RX11, "unlearn", "(I)I"⟩
abbrev cX11_trials : ByteArray := prog_1_method_19_code
def yX11_trials : MethodName := ⟨RX11, "trials", "(III)I"⟩
abbrev cX11_count : ByteArray := prog_1_method_22_code
def yX11_count : MethodName := ⟨RX11, "count", "(I)I"⟩
abbrev cX11_hasCourt : ByteArray := prog_1_method_24_code
def yX11_hasCourt : MethodName := ⟨RX11, "hasCourt", "()Z"⟩
abbrev cX11_isAccused : ByteArray := prog_1_method_25_code
def yX11_isAccused : MethodName := ⟨RX11, "isAccused", "(I)Z"⟩
abbrev cX11_isWord : ByteArray := prog_1_method_26_code
def yX11_isWord : MethodName := ⟨RX11, "isWord", "(I)Z"⟩
abbrev cX11_isKind : ByteArray := prog_1_method_27_code
def yX11_isKind : MethodName := ⟨RX11, "isKind", "(I)Z"⟩
abbrev cX11_manOf : ByteArray := prog_1_method_28_code
def yX11_manOf : MethodName := ⟨RX11, "manOf", "(I)LReadAloud$Man;"⟩
abbrev cX11_deedOf : ByteArray := prog_1_method_29_code
def yX11_deedOf : MethodName := ⟨RX11, "deedOf", "(I)I"⟩
abbrev cX11_hiddenBy : ByteArray := prog_1_method_30_code
def yX11_hiddenBy : MethodName := ⟨RX11, "hiddenBy", "(I)I"⟩
abbrev cX11_manOfKind : ByteArray := prog_1_method_31_code
def yX11_manOfKind : MethodName := ⟨RX11, "manOfKind", "(II)LReadAloud$Man;"⟩
abbrev cX11_isOfKind : ByteArray := prog_1_method_32_code
def yX11_isOfKind : MethodName := ⟨RX11, "isOfKind", "(LReadAloud$Man;I)Z"⟩
abbrev cX11_readCourt : ByteArray := prog_1_method_33_code
def yX11_readCourt : MethodName := ⟨RX11, "readCourt", "()V"⟩
abbrev cX11_wouldAlter : ByteArray := prog_1_method_34_code
def yX11_wouldAlter : MethodName := ⟨RX11, "wouldAlter", "(ILReadAloud$Sheet;II)I"⟩
abbrev cX11_alteredBy : ByteArray := prog_1_method_35_code
def yX11_alteredBy : MethodName := ⟨RX11, "alteredBy", "(ILReadAloud$Sheet;)I"⟩
abbrev cX11_hangingAt : ByteArray := prog_1_method_36_code
def yX11_hangingAt : MethodName := ⟨RX11, "hangingAt", "(LReadAloud$Sheet;)I"⟩
abbrev cX11_allAltering : ByteArray := prog_1_method_37_code
def yX11_allAltering : MethodName := ⟨RX11, "allAltering", "(LReadAloud$Sheet;)I"⟩
abbrev cX11_deedsAltering : ByteArray := prog_1_method_38_code
def yX11_deedsAltering : MethodName := ⟨RX11, "deedsAltering", "(II)I"⟩
abbrev cX11_placeToListen : ByteArray := prog_1_method_39_code
def yX11_placeToListen : MethodName := ⟨RX11, "placeToListen", "(I)I"⟩
abbrev cX11_drawSheet : ByteArray := prog_1_method_42_code
def yX11_drawSheet : MethodName := ⟨RX11, "drawSheet", "(I)I"⟩
def RX12 : String := "ReadAloudModel"
def TX12 : u_T := fun k => match k with
  | _ => ("", "", "", false)
def tyX12 : Nat → FieldType := fun k => match k with
  | _ => .int
abbrev wsX120 : List Cond := u_ws RX12 TX12 0
theorem nmX12 : ∀ a, a < 0 → ∀ b, b < 0 → a ≠ b → (TX12 a).2.1 ≠ (TX12 b).2.1 := by decide +kernel
theorem tyX12_ok : ∀ k, k < 0 → parseFieldDescriptor (TX12 k).2.2.1 = some (tyX12 k) := by decide +kernel
def RJ6 : String := "java/lang/Integer"
def TJ6 : u_T := fun k => match k with
  | _ => ("", "", "", false)
def tyJ6 : Nat → FieldType := fun k => match k with
  | _ => .int
abbrev wsJ60 : List Cond := u_ws RJ6 TJ6 0
theorem nmJ6 : ∀ a, a < 0 → ∀ b, b < 0 → a ≠ b → (TJ6 a).2.1 ≠ (TJ6 b).2.1 := by decide +kernel
theorem tyJ6_ok : ∀ k, k < 0 → parseFieldDescriptor (TJ6 k).2.2.1 = some (tyJ6 k) := by decide +kernel
abbrev cJ6_bitCount_0f7a4 : ByteArray := prog_15_method_49_code
def yJ6_bitCount_0f7a4 : MethodName := ⟨RJ6, "bitCount", "(I)I"⟩
def RJ9 : String := "java/lang/Math"
def TJ9 : u_T := fun k => match k with
  | _ => ("", "", "", false)
def tyJ9 : Nat → FieldType := fun k => match k with
  | _ => .int
abbrev wsJ90 : List Cond := u_ws RJ9 TJ9 0
theorem nmJ9 : ∀ a, a < 0 → ∀ b, b < 0 → a ≠ b → (TJ9 a).2.1 ≠ (TJ9 b).2.1 := by decide +kernel
theorem tyJ9_ok : ∀ k, k < 0 → parseFieldDescriptor (TJ9 k).2.2.1 = some (tyJ9 k) := by decide +kernel
abbrev cJ9_max_7cf53 : ByteArray := prog_16_method_65_code
def yJ9_max_7cf53 : MethodName := ⟨RJ9, "max", "(II)I"⟩
def RL : String := "ReadAloudLaw"
abbrev cL_cell : ByteArray := method_2_code
def yL_cell : MethodName := ⟨RL, "cell", "([II)I"⟩
abbrev cL_at : ByteArray := method_3_code
def yL_at : MethodName := ⟨RL, "at", "(II)I"⟩
abbrev cL_courtText : ByteArray := method_4_code
def yL_courtText : MethodName := ⟨RL, "courtText", "([II[I[I[I)I"⟩
abbrev cL_write : ByteArray := method_5_code
def yL_write : MethodName := ⟨RL, "write", "(LReadAloud;[II)Z"⟩
abbrev cL_in : ByteArray := method_6_code
def yL_in : MethodName := ⟨RL, "in", "(II)Z"⟩
abbrev cL_size : ByteArray := method_7_code
def yL_size : MethodName := ⟨RL, "size", "(I)I"⟩
abbrev cL_come : ByteArray := method_8_code
def yL_come : MethodName := ⟨RL, "come", "(LReadAloud;[III)Z"⟩
abbrev cL_alters : ByteArray := method_9_code
def yL_alters : MethodName := ⟨RL, "alters", "([IIII)I"⟩
abbrev cL_now : ByteArray := method_10_code
def yL_now : MethodName := ⟨RL, "now", "([I[II)I"⟩
abbrev cL_over : ByteArray := method_11_code
def yL_over : MethodName := ⟨RL, "over", "([I[I)V"⟩
abbrev cL_stands : ByteArray := method_12_code
def yL_stands : MethodName := ⟨RL, "stands", "(LReadAloud;[I[I)Z"⟩
abbrev cL_does : ByteArray := method_13_code
def yL_does : MethodName := ⟨RL, "does", "(LReadAloud;[II)Z"⟩
abbrev cL_law : ByteArray := code
def yL_law : MethodName := ⟨RL, "law", "([I)Z"⟩
abbrev cL_trials : ByteArray := method_15_code
def yL_trials : MethodName := ⟨RL, "trials", "(LReadAloud;[I[III)Z"⟩
abbrev vwCl : List vw_C := [(RX0, TX0, 1), (RX1, TX1, 1), (RX2, TX2, 3), (RX3, TX3, 3), (RX4, TX4, 1), (RX5, TX5, 3), (RX6, TX6, 2), (RX7, TX7, 1), (RX8, TX8, 6), (RX9, TX9, 3), (RX10, TX10, 1), (RX11, TX11, 10)]
