section
-- ===== PART A: goes FIRST, ahead of the names: the tables' words, and 'selects' of the private methods out of them =====
/-- a private method of a class that the tables say can be made, by its rows of tables_1 -/
def lw_okq (q : MethodName × Nat) : Prop := (q.1.cls ≠ "java/lang/invoke/MethodHandle" ∧ q.1.cls ≠ "java/lang/invoke/VarHandle") ∧ Cond.instantiable q.1.cls q.2 ∈ tables_1 ∧ Cond.privateMethod q.1 ∈ tables_1 ∧ Cond.instanceMethod q.1 ∈ tables_1
theorem lw_p0 : lw_okq (⟨"ReadAloud$Walk", "enter", "(I)V"⟩, 3) := ⟨⟨by decide +kernel, by decide +kernel⟩, List.mem_of_getElem? (i := 32) (by decide +kernel), List.mem_of_getElem? (i := 202) (by decide +kernel), List.mem_of_getElem? (i := 203) (by decide +kernel)⟩
theorem lw_p1 : lw_okq (⟨"ReadAloud$Walk", "passesWord", "(I)Z"⟩, 3) := ⟨⟨by decide +kernel, by decide +kernel⟩, List.mem_of_getElem? (i := 32) (by decide +kernel), List.mem_of_getElem? (i := 213) (by decide +kernel), List.mem_of_getElem? (i := 214) (by decide +kernel)⟩
theorem lw_p2 : lw_okq (⟨"ReadAloud", "readCourt", "()V"⟩, 10) := ⟨⟨by decide +kernel, by decide +kernel⟩, List.mem_of_getElem? (i := 18) (by decide +kernel), List.mem_of_getElem? (i := 230) (by decide +kernel), List.mem_of_getElem? (i := 231) (by decide +kernel)⟩
theorem lw_p3 : lw_okq (⟨"ReadAloud", "hasCourt", "()Z"⟩, 10) := ⟨⟨by decide +kernel, by decide +kernel⟩, List.mem_of_getElem? (i := 18) (by decide +kernel), List.mem_of_getElem? (i := 263) (by decide +kernel), List.mem_of_getElem? (i := 264) (by decide +kernel)⟩
theorem lw_p4 : lw_okq (⟨"ReadAloud", "manOf", "(I)LReadAloud$Man;"⟩, 10) := ⟨⟨by decide +kernel, by decide +kernel⟩, List.mem_of_getElem? (i := 18) (by decide +kernel), List.mem_of_getElem? (i := 347) (by decide +kernel), List.mem_of_getElem? (i := 348) (by decide +kernel)⟩
theorem lw_p5 : lw_okq (⟨"ReadAloud", "isAccused", "(I)Z"⟩, 10) := ⟨⟨by decide +kernel, by decide +kernel⟩, List.mem_of_getElem? (i := 18) (by decide +kernel), List.mem_of_getElem? (i := 351) (by decide +kernel), List.mem_of_getElem? (i := 352) (by decide +kernel)⟩
theorem lw_p6 : lw_okq (⟨"ReadAloud", "alteredBy", "(ILReadAloud$Sheet;)I"⟩, 10) := ⟨⟨by decide +kernel, by decide +kernel⟩, List.mem_of_getElem? (i := 18) (by decide +kernel), List.mem_of_getElem? (i := 381) (by decide +kernel), List.mem_of_getElem? (i := 382) (by decide +kernel)⟩
theorem lw_p7 : lw_okq (⟨"ReadAloud", "deedOf", "(I)I"⟩, 10) := ⟨⟨by decide +kernel, by decide +kernel⟩, List.mem_of_getElem? (i := 18) (by decide +kernel), List.mem_of_getElem? (i := 385) (by decide +kernel), List.mem_of_getElem? (i := 386) (by decide +kernel)⟩
theorem lw_p8 : lw_okq (⟨"ReadAloud", "hiddenBy", "(I)I"⟩, 10) := ⟨⟨by decide +kernel, by decide +kernel⟩, List.mem_of_getElem? (i := 18) (by decide +kernel), List.mem_of_getElem? (i := 389) (by decide +kernel), List.mem_of_getElem? (i := 390) (by decide +kernel)⟩
theorem lw_p9 : lw_okq (⟨"ReadAloud", "wouldAlter", "(ILReadAloud$Sheet;II)I"⟩, 10) := ⟨⟨by decide +kernel, by decide +kernel⟩, List.mem_of_getElem? (i := 18) (by decide +kernel), List.mem_of_getElem? (i := 393) (by decide +kernel), List.mem_of_getElem? (i := 394) (by decide +kernel)⟩
theorem lw_p10 : lw_okq (⟨"ReadAloud", "placeToListen", "(I)I"⟩, 10) := ⟨⟨by decide +kernel, by decide +kernel⟩, List.mem_of_getElem? (i := 18) (by decide +kernel), List.mem_of_getElem? (i := 449) (by decide +kernel), List.mem_of_getElem? (i := 450) (by decide +kernel)⟩
theorem lw_p11 : lw_okq (⟨"ReadAloud", "deedsAltering", "(II)I"⟩, 10) := ⟨⟨by decide +kernel, by decide +kernel⟩, List.mem_of_getElem? (i := 18) (by decide +kernel), List.mem_of_getElem? (i := 453) (by decide +kernel), List.mem_of_getElem? (i := 454) (by decide +kernel)⟩
theorem lw_p12 : lw_okq (⟨"ReadAloud", "wordsToHide", "(II)I"⟩, 10) := ⟨⟨by decide +kernel, by decide +kernel⟩, List.mem_of_getElem? (i := 18) (by decide +kernel), List.mem_of_getElem? (i := 501) (by decide +kernel), List.mem_of_getElem? (i := 502) (by decide +kernel)⟩
theorem lw_p13 : lw_okq (⟨"ReadAloud", "heaviestWord", "(I)I"⟩, 10) := ⟨⟨by decide +kernel, by decide +kernel⟩, List.mem_of_getElem? (i := 18) (by decide +kernel), List.mem_of_getElem? (i := 505) (by decide +kernel), List.mem_of_getElem? (i := 506) (by decide +kernel)⟩
theorem lw_p14 : lw_okq (⟨"ReadAloud", "drawSheet", "(I)I"⟩, 10) := ⟨⟨by decide +kernel, by decide +kernel⟩, List.mem_of_getElem? (i := 18) (by decide +kernel), List.mem_of_getElem? (i := 530) (by decide +kernel), List.mem_of_getElem? (i := 531) (by decide +kernel)⟩
theorem lw_p15 : lw_okq (⟨"ReadAloud", "hangingAt", "(LReadAloud$Sheet;)I"⟩, 10) := ⟨⟨by decide +kernel, by decide +kernel⟩, List.mem_of_getElem? (i := 18) (by decide +kernel), List.mem_of_getElem? (i := 538) (by decide +kernel), List.mem_of_getElem? (i := 539) (by decide +kernel)⟩
def lw_privs_1 : List (MethodName × Nat) := [(⟨"ReadAloud$Walk", "enter", "(I)V"⟩, 3), (⟨"ReadAloud$Walk", "passesWord", "(I)Z"⟩, 3), (⟨"ReadAloud", "readCourt", "()V"⟩, 10), (⟨"ReadAloud", "hasCourt", "()Z"⟩, 10), (⟨"ReadAloud", "manOf", "(I)LReadAloud$Man;"⟩, 10), (⟨"ReadAloud", "isAccused", "(I)Z"⟩, 10), (⟨"ReadAloud", "alteredBy", "(ILReadAloud$Sheet;)I"⟩, 10), (⟨"ReadAloud", "deedOf", "(I)I"⟩, 10), (⟨"ReadAloud", "hiddenBy", "(I)I"⟩, 10), (⟨"ReadAloud", "wouldAlter", "(ILReadAloud$Sheet;II)I"⟩, 10), (⟨"ReadAloud", "placeToListen", "(I)I"⟩, 10), (⟨"ReadAloud", "deedsAltering", "(II)I"⟩, 10), (⟨"ReadAloud", "wordsToHide", "(II)I"⟩, 10), (⟨"ReadAloud", "heaviestWord", "(I)I"⟩, 10), (⟨"ReadAloud", "drawSheet", "(I)I"⟩, 10), (⟨"ReadAloud", "hangingAt", "(LReadAloud$Sheet;)I"⟩, 10)]
theorem lw_r1 : ∀ q ∈ lw_privs_1, lw_okq q := List.forall_mem_cons.mpr ⟨lw_p0, List.forall_mem_cons.mpr ⟨lw_p1, List.forall_mem_cons.mpr ⟨lw_p2, List.forall_mem_cons.mpr ⟨lw_p3, List.forall_mem_cons.mpr ⟨lw_p4, List.forall_mem_cons.mpr ⟨lw_p5, List.forall_mem_cons.mpr ⟨lw_p6, List.forall_mem_cons.mpr ⟨lw_p7, List.forall_mem_cons.mpr ⟨lw_p8, List.forall_mem_cons.mpr ⟨lw_p9, List.forall_mem_cons.mpr ⟨lw_p10, List.forall_mem_cons.mpr ⟨lw_p11, List.forall_mem_cons.mpr ⟨lw_p12, List.forall_mem_cons.mpr ⟨lw_p13, List.forall_mem_cons.mpr ⟨lw_p14, List.forall_mem_cons.mpr ⟨lw_p15, fun _ h => absurd h List.not_mem_nil⟩⟩⟩⟩⟩⟩⟩⟩⟩⟩⟩⟩⟩⟩⟩⟩
theorem lw_p16 : lw_okq (⟨"ReadAloud", "allAltering", "(LReadAloud$Sheet;)I"⟩, 10) := ⟨⟨by decide +kernel, by decide +kernel⟩, List.mem_of_getElem? (i := 18) (by decide +kernel), List.mem_of_getElem? (i := 542) (by decide +kernel), List.mem_of_getElem? (i := 543) (by decide +kernel)⟩
theorem lw_p17 : lw_okq (⟨"ReadAloudModel", "faultOf", "()I"⟩, 32) := ⟨⟨by decide +kernel, by decide +kernel⟩, List.mem_of_getElem? (i := 590) (by decide +kernel), List.mem_of_getElem? (i := 709) (by decide +kernel), List.mem_of_getElem? (i := 710) (by decide +kernel)⟩
theorem lw_p18 : lw_okq (⟨"ReadAloudModel", "go", "(I)Z"⟩, 32) := ⟨⟨by decide +kernel, by decide +kernel⟩, List.mem_of_getElem? (i := 590) (by decide +kernel), List.mem_of_getElem? (i := 713) (by decide +kernel), List.mem_of_getElem? (i := 714) (by decide +kernel)⟩
theorem lw_p19 : lw_okq (⟨"ReadAloudModel", "lacks", "()Z"⟩, 32) := ⟨⟨by decide +kernel, by decide +kernel⟩, List.mem_of_getElem? (i := 590) (by decide +kernel), List.mem_of_getElem? (i := 729) (by decide +kernel), List.mem_of_getElem? (i := 730) (by decide +kernel)⟩
theorem lw_p20 : lw_okq (⟨"ReadAloudModel", "isPlace", "(I)Z"⟩, 32) := ⟨⟨by decide +kernel, by decide +kernel⟩, List.mem_of_getElem? (i := 590) (by decide +kernel), List.mem_of_getElem? (i := 738) (by decide +kernel), List.mem_of_getElem? (i := 739) (by decide +kernel)⟩
theorem lw_p21 : lw_okq (⟨"ReadAloudModel", "isAccused", "(I)Z"⟩, 32) := ⟨⟨by decide +kernel, by decide +kernel⟩, List.mem_of_getElem? (i := 590) (by decide +kernel), List.mem_of_getElem? (i := 759) (by decide +kernel), List.mem_of_getElem? (i := 760) (by decide +kernel)⟩
theorem lw_p22 : lw_okq (⟨"ReadAloudModel", "tell", "(II)I"⟩, 32) := ⟨⟨by decide +kernel, by decide +kernel⟩, List.mem_of_getElem? (i := 590) (by decide +kernel), List.mem_of_getElem? (i := 763) (by decide +kernel), List.mem_of_getElem? (i := 764) (by decide +kernel)⟩
theorem lw_p23 : lw_okq (⟨"ReadAloudModel", "altersOf", "(I)I"⟩, 32) := ⟨⟨by decide +kernel, by decide +kernel⟩, List.mem_of_getElem? (i := 590) (by decide +kernel), List.mem_of_getElem? (i := 767) (by decide +kernel), List.mem_of_getElem? (i := 768) (by decide +kernel)⟩
theorem lw_p24 : lw_okq (⟨"ReadAloudModel", "altersOn", "(III[II)I"⟩, 32) := ⟨⟨by decide +kernel, by decide +kernel⟩, List.mem_of_getElem? (i := 590) (by decide +kernel), List.mem_of_getElem? (i := 771) (by decide +kernel), List.mem_of_getElem? (i := 772) (by decide +kernel)⟩
theorem lw_p25 : lw_okq (⟨"ReadAloudModel", "alters", "(III[II)Z"⟩, 32) := ⟨⟨by decide +kernel, by decide +kernel⟩, List.mem_of_getElem? (i := 590) (by decide +kernel), List.mem_of_getElem? (i := 775) (by decide +kernel), List.mem_of_getElem? (i := 776) (by decide +kernel)⟩
theorem lw_p26 : lw_okq (⟨"ReadAloudModel", "isNear", "(II)Z"⟩, 32) := ⟨⟨by decide +kernel, by decide +kernel⟩, List.mem_of_getElem? (i := 590) (by decide +kernel), List.mem_of_getElem? (i := 779) (by decide +kernel), List.mem_of_getElem? (i := 780) (by decide +kernel)⟩
theorem lw_p27 : lw_okq (⟨"ReadAloudModel", "hangs", "(I)Z"⟩, 32) := ⟨⟨by decide +kernel, by decide +kernel⟩, List.mem_of_getElem? (i := 590) (by decide +kernel), List.mem_of_getElem? (i := 789) (by decide +kernel), List.mem_of_getElem? (i := 790) (by decide +kernel)⟩
theorem lw_p28 : lw_okq (⟨"ReadAloudModel", "whichOf", "(I)I"⟩, 32) := ⟨⟨by decide +kernel, by decide +kernel⟩, List.mem_of_getElem? (i := 590) (by decide +kernel), List.mem_of_getElem? (i := 793) (by decide +kernel), List.mem_of_getElem? (i := 794) (by decide +kernel)⟩
theorem lw_p29 : lw_okq (⟨"ReadAloudModel", "isHeard", "(III)Z"⟩, 32) := ⟨⟨by decide +kernel, by decide +kernel⟩, List.mem_of_getElem? (i := 590) (by decide +kernel), List.mem_of_getElem? (i := 797) (by decide +kernel), List.mem_of_getElem? (i := 798) (by decide +kernel)⟩
theorem lw_p30 : lw_okq (⟨"ReadAloudModel", "listenOf", "(I)I"⟩, 32) := ⟨⟨by decide +kernel, by decide +kernel⟩, List.mem_of_getElem? (i := 590) (by decide +kernel), List.mem_of_getElem? (i := 801) (by decide +kernel), List.mem_of_getElem? (i := 802) (by decide +kernel)⟩
theorem lw_p31 : lw_okq (⟨"ReadAloudModel", "briefOf", "(I)I"⟩, 32) := ⟨⟨by decide +kernel, by decide +kernel⟩, List.mem_of_getElem? (i := 590) (by decide +kernel), List.mem_of_getElem? (i := 822) (by decide +kernel), List.mem_of_getElem? (i := 823) (by decide +kernel)⟩
def lw_privs_2 : List (MethodName × Nat) := [(⟨"ReadAloud", "allAltering", "(LReadAloud$Sheet;)I"⟩, 10), (⟨"ReadAloudModel", "faultOf", "()I"⟩, 32), (⟨"ReadAloudModel", "go", "(I)Z"⟩, 32), (⟨"ReadAloudModel", "lacks", "()Z"⟩, 32), (⟨"ReadAloudModel", "isPlace", "(I)Z"⟩, 32), (⟨"ReadAloudModel", "isAccused", "(I)Z"⟩, 32), (⟨"ReadAloudModel", "tell", "(II)I"⟩, 32), (⟨"ReadAloudModel", "altersOf", "(I)I"⟩, 32), (⟨"ReadAloudModel", "altersOn", "(III[II)I"⟩, 32), (⟨"ReadAloudModel", "alters", "(III[II)Z"⟩, 32), (⟨"ReadAloudModel", "isNear", "(II)Z"⟩, 32), (⟨"ReadAloudModel", "hangs", "(I)Z"⟩, 32), (⟨"ReadAloudModel", "whichOf", "(I)I"⟩, 32), (⟨"ReadAloudModel", "isHeard", "(III)Z"⟩, 32), (⟨"ReadAloudModel", "listenOf", "(I)I"⟩, 32), (⟨"ReadAloudModel", "briefOf", "(I)I"⟩, 32)]
theorem lw_r2 : ∀ q ∈ lw_privs_2, lw_okq q := List.forall_mem_cons.mpr ⟨lw_p16, List.forall_mem_cons.mpr ⟨lw_p17, List.forall_mem_cons.mpr ⟨lw_p18, List.forall_mem_cons.mpr ⟨lw_p19, List.forall_mem_cons.mpr ⟨lw_p20, List.forall_mem_cons.mpr ⟨lw_p21, List.forall_mem_cons.mpr ⟨lw_p22, List.forall_mem_cons.mpr ⟨lw_p23, List.forall_mem_cons.mpr ⟨lw_p24, List.forall_mem_cons.mpr ⟨lw_p25, List.forall_mem_cons.mpr ⟨lw_p26, List.forall_mem_cons.mpr ⟨lw_p27, List.forall_mem_cons.mpr ⟨lw_p28, List.forall_mem_cons.mpr ⟨lw_p29, List.forall_mem_cons.mpr ⟨lw_p30, List.forall_mem_cons.mpr ⟨lw_p31, fun _ h => absurd h List.not_mem_nil⟩⟩⟩⟩⟩⟩⟩⟩⟩⟩⟩⟩⟩⟩⟩⟩
theorem lw_p32 : lw_okq (⟨"ReadAloudModel", "isApart", "(I)Z"⟩, 32) := ⟨⟨by decide +kernel, by decide +kernel⟩, List.mem_of_getElem? (i := 590) (by decide +kernel), List.mem_of_getElem? (i := 826) (by decide +kernel), List.mem_of_getElem? (i := 827) (by decide +kernel)⟩
theorem lw_p33 : lw_okq (⟨"ReadAloudModel", "hideOf", "(III)I"⟩, 32) := ⟨⟨by decide +kernel, by decide +kernel⟩, List.mem_of_getElem? (i := 590) (by decide +kernel), List.mem_of_getElem? (i := 835) (by decide +kernel), List.mem_of_getElem? (i := 836) (by decide +kernel)⟩
theorem lw_p34 : lw_okq (⟨"ReadAloudModel", "draw", "(I)I"⟩, 32) := ⟨⟨by decide +kernel, by decide +kernel⟩, List.mem_of_getElem? (i := 590) (by decide +kernel), List.mem_of_getElem? (i := 853) (by decide +kernel), List.mem_of_getElem? (i := 854) (by decide +kernel)⟩
theorem lw_p35 : lw_okq (⟨"ReadAloudModel", "countOf", "(I)I"⟩, 32) := ⟨⟨by decide +kernel, by decide +kernel⟩, List.mem_of_getElem? (i := 590) (by decide +kernel), List.mem_of_getElem? (i := 873) (by decide +kernel), List.mem_of_getElem? (i := 874) (by decide +kernel)⟩
theorem lw_p36 : lw_okq (⟨"ReadAloudModel", "hangMany", "()I"⟩, 32) := ⟨⟨by decide +kernel, by decide +kernel⟩, List.mem_of_getElem? (i := 590) (by decide +kernel), List.mem_of_getElem? (i := 877) (by decide +kernel), List.mem_of_getElem? (i := 878) (by decide +kernel)⟩
theorem lw_p37 : lw_okq (⟨"ReadAloudModel", "unlike", "()I"⟩, 32) := ⟨⟨by decide +kernel, by decide +kernel⟩, List.mem_of_getElem? (i := 590) (by decide +kernel), List.mem_of_getElem? (i := 881) (by decide +kernel), List.mem_of_getElem? (i := 882) (by decide +kernel)⟩
theorem lw_p38 : lw_okq (⟨"ReadAloudModel", "say", "(J)V"⟩, 32) := ⟨⟨by decide +kernel, by decide +kernel⟩, List.mem_of_getElem? (i := 590) (by decide +kernel), List.mem_of_getElem? (i := 890) (by decide +kernel), List.mem_of_getElem? (i := 891) (by decide +kernel)⟩
def lw_privs_3 : List (MethodName × Nat) := [(⟨"ReadAloudModel", "isApart", "(I)Z"⟩, 32), (⟨"ReadAloudModel", "hideOf", "(III)I"⟩, 32), (⟨"ReadAloudModel", "draw", "(I)I"⟩, 32), (⟨"ReadAloudModel", "countOf", "(I)I"⟩, 32), (⟨"ReadAloudModel", "hangMany", "()I"⟩, 32), (⟨"ReadAloudModel", "unlike", "()I"⟩, 32), (⟨"ReadAloudModel", "say", "(J)V"⟩, 32)]
theorem lw_r3 : ∀ q ∈ lw_privs_3, lw_okq q := List.forall_mem_cons.mpr ⟨lw_p32, List.forall_mem_cons.mpr ⟨lw_p33, List.forall_mem_cons.mpr ⟨lw_p34, List.forall_mem_cons.mpr ⟨lw_p35, List.forall_mem_cons.mpr ⟨lw_p36, List.forall_mem_cons.mpr ⟨lw_p37, List.forall_mem_cons.mpr ⟨lw_p38, fun _ h => absurd h List.not_mem_nil⟩⟩⟩⟩⟩⟩⟩
def lw_privs : List (MethodName × Nat) := lw_privs_1 ++ (lw_privs_2 ++ (lw_privs_3))
def lw_tbl : List Cond := k2_sels lw_privs ++ tables_1
theorem lw_privs_ok : ∀ q ∈ lw_privs, lw_okq q := by
  show ∀ q ∈ lw_privs_1 ++ (lw_privs_2 ++ (lw_privs_3)), lw_okq q
  exact List.forall_mem_append.mpr ⟨lw_r1, List.forall_mem_append.mpr ⟨lw_r2, lw_r3⟩⟩
theorem goodIn_r {big : List Cond} (ws : List Cond) (ps : List Nat) (hp : ws = ps.filterMap (fun i => big[i]?)) (h : ws.all goodWord = true) : GoodIn big ws := by
  intro w hw
  have h1 := List.all_eq_true.mp h w hw
  rw [hp] at hw
  obtain ⟨i, -, hi⟩ := List.mem_filterMap.mp hw
  have hm : w ∈ big := by first | exact List.mem_of_getElem? hi | exact List.getElem?_mem hi
  exact ⟨hm, good_of_word h1⟩
theorem goodIn_app {big a b : List Cond} (ha : GoodIn big a) (hb : GoodIn big b) : GoodIn big (a ++ b) := fun w h => (List.mem_append.mp h).elim (ha w) (hb w)
theorem goodIn_ca {big a b : List Cond} {c : Cond} (ha : GoodIn big (c :: a)) (hb : GoodIn big b) : GoodIn big (c :: (a ++ b)) := fun w h => (List.mem_cons.mp h).elim (fun e => ha w (List.mem_cons.mpr (Or.inl e))) (fun h => (List.mem_append.mp h).elim (fun h => ha w (List.mem_cons.mpr (Or.inr h))) (hb w))
theorem goodIn_sub {big ws : List Cond} (hm : ∀ w ∈ ws, w ∈ big) (h : ws.all goodWord = true) : GoodIn big ws := fun w hw => ⟨hm w hw, good_of_word (List.all_eq_true.mp h w hw)⟩

def RX0 : String := "ReadAloud$Actor"
def TX0 : u_T := fun k => match k with
  | _ => ("ReadAloud$Man", "deed", "I", true)
def tyX0 : Nat → FieldType := fun k => match k with
  | _ => .int
abbrev wsX00 : List Cond := u_ws RX0 TX0 1
theorem nmX0 : ∀ a, a < 1 → ∀ b, b < 1 → a ≠ b → (TX0 a).2.1 ≠ (TX0 b).2.1 := by decide +kernel
theorem tyX0_ok : ∀ k, k < 1 → parseFieldDescriptor (TX0 k).2.2.1 = some (tyX0 k) := by decide +kernel
abbrev cX0_init : ByteArray := prog_2_method_1_code
def yX0_init : MethodName := ⟨RX0, "<init>", "(I)V"⟩
abbrev cX0_kind : ByteArray := prog_2_method_2_code
def yX0_kind : MethodName := ⟨RX0, "kind", "()I"⟩
abbrev cX0_placesByDeed : ByteArray := prog_2_method_3_code
def yX0_placesByDeed : MethodName := ⟨RX0, "placesByDeed", "(LReadAloud$Sheet;I)I"⟩
def RX1 : String := "ReadAloud$Boy"
def TX1 : u_T := fun k => match k with
  | _ => ("ReadAloud$Man", "deed", "I", true)
def tyX1 : Nat → FieldType := fun k => match k with
  | _ => .int
abbrev wsX10 : List Cond := u_ws RX1 TX1 1
theorem nmX1 : ∀ a, a < 1 → ∀ b, b < 1 → a ≠ b → (TX1 a).2.1 ≠ (TX1 b).2.1 := by decide +kernel
theorem tyX1_ok : ∀ k, k < 1 → parseFieldDescriptor (TX1 k).2.2.1 = some (tyX1 k) := by decide +kernel
abbrev cX1_init : ByteArray := prog_3_method_1_code
def yX1_init : MethodName := ⟨RX1, "<init>", "(I)V"⟩
abbrev cX1_kind : ByteArray := prog_3_method_2_code
def yX1_kind : MethodName := ⟨RX1, "kind", "()I"⟩
abbrev cX1_placesByDeed : ByteArray := prog_3_method_3_code
def yX1_placesByDeed : MethodName := ⟨RX1, "placesByDeed", "(LReadAloud$Sheet;I)I"⟩
def RX2 : String := "ReadAloud$Brief"
def TX2 : u_T := fun k => match k with
  | 0 => ("ReadAloud$Brief", "pairsTold", "[I", true)
  | 1 => ("ReadAloud$Brief", "words", "[I", true)
  | _ => ("ReadAloud$Brief", "size", "I", false)
def tyX2 : Nat → FieldType := fun k => match k with
  | 0 => .array .int
  | 1 => .array .int
  | _ => .int
abbrev wsX20 : List Cond := u_ws RX2 TX2 3
theorem nmX2 : ∀ a, a < 3 → ∀ b, b < 3 → a ≠ b → (TX2 a).2.1 ≠ (TX2 b).2.1 := by decide +kernel
theorem tyX2_ok : ∀ k, k < 3 → parseFieldDescriptor (TX2 k).2.2.1 = some (tyX2 k) := by decide +kernel
abbrev cX2_init : ByteArray := prog_4_method_1_code
def yX2_init : MethodName := ⟨RX2, "<init>", "()V"⟩
abbrev cX2_size : ByteArray := prog_4_method_2_code
def yX2_size : MethodName := ⟨RX2, "size", "()I"⟩
abbrev cX2_at : ByteArray := prog_4_method_3_code
def yX2_at : MethodName := ⟨RX2, "at", "(I)I"⟩
abbrev cX2_seek : ByteArray := prog_4_method_4_code
def yX2_seek : MethodName := ⟨RX2, "seek", "([I)V"⟩
abbrev cX2_pairsToldBy : ByteArray := prog_4_method_5_code
def yX2_pairsToldBy : MethodName := ⟨RX2, "pairsToldBy", "(I[I)I"⟩
abbrev cX2_firstSheet : ByteArray := prog_4_method_6_code
def yX2_firstSheet : MethodName := ⟨RX2, "firstSheet", "([IIIII)I"⟩
def RX3 : String := "ReadAloud$Heard"
def TX3 : u_T := fun k => match k with
  | 0 => ("ReadAloud$Heard", "whom", "[I", true)
  | 1 => ("ReadAloud$Heard", "deeds", "[I", true)
  | _ => ("ReadAloud$Heard", "size", "I", false)
def tyX3 : Nat → FieldType := fun k => match k with
  | 0 => .array .int
  | 1 => .array .int
  | _ => .int
abbrev wsX30 : List Cond := u_ws RX3 TX3 3
theorem nmX3 : ∀ a, a < 3 → ∀ b, b < 3 → a ≠ b → (TX3 a).2.1 ≠ (TX3 b).2.1 := by decide +kernel
theorem tyX3_ok : ∀ k, k < 3 → parseFieldDescriptor (TX3 k).2.2.1 = some (tyX3 k) := by decide +kernel
abbrev cX3_init : ByteArray := prog_5_method_1_code
def yX3_init : MethodName := ⟨RX3, "<init>", "()V"⟩
abbrev cX3_size : ByteArray := prog_5_method_2_code
def yX3_size : MethodName := ⟨RX3, "size", "()I"⟩
abbrev cX3_add : ByteArray := prog_5_method_3_code
def yX3_add : MethodName := ⟨RX3, "add", "(II)Z"⟩
abbrev cX3_clear : ByteArray := prog_5_method_4_code
def yX3_clear : MethodName := ⟨RX3, "clear", "()V"⟩
abbrev cX3_copyFrom : ByteArray := prog_5_method_5_code
def yX3_copyFrom : MethodName := ⟨RX3, "copyFrom", "(LReadAloud$Heard;)V"⟩
abbrev cX3_deedsLeft : ByteArray := prog_5_method_6_code
def yX3_deedsLeft : MethodName := ⟨RX3, "deedsLeft", "(I)I"⟩
def RX4 : String := "ReadAloud$Man"
def TX4 : u_T := fun k => match k with
  | _ => ("ReadAloud$Man", "deed", "I", true)
def tyX4 : Nat → FieldType := fun k => match k with
  | _ => .int
abbrev wsX40 : List Cond := u_ws RX4 TX4 1
theorem nmX4 : ∀ a, a < 1 → ∀ b, b < 1 → a ≠ b → (TX4 a).2.1 ≠ (TX4 b).2.1 := by decide +kernel
theorem tyX4_ok : ∀ k, k < 1 → parseFieldDescriptor (TX4 k).2.2.1 = some (tyX4 k) := by decide +kernel
abbrev cX4_init : ByteArray := prog_6_method_1_code
def yX4_init : MethodName := ⟨RX4, "<init>", "(I)V"⟩
abbrev cX4_deed : ByteArray := prog_6_method_2_code
def yX4_deed : MethodName := ⟨RX4, "deed", "()I"⟩
abbrev cX4_kind : ByteArray := prog_6_method_3_code
def yX4_kind : MethodName := ⟨RX4, "kind", "()I"⟩
abbrev cX4_placesByDeed : ByteArray := prog_6_method_4_code
def yX4_placesByDeed : MethodName := ⟨RX4, "placesByDeed", "(LReadAloud$Sheet;I)I"⟩
abbrev cX4_placesAnyhow : ByteArray := prog_6_method_5_code
def yX4_placesAnyhow : MethodName := ⟨RX4, "placesAnyhow", "(LReadAloud$Sheet;)I"⟩
def RX5 : String := "ReadAloud$Page"
def TX5 : u_T := fun k => match k with
  | 0 => ("ReadAloud$Page", "codes", "[I", true)
  | 1 => ("ReadAloud$Page", "walk", "LReadAloud$Walk;", true)
  | _ => ("ReadAloud$Page", "size", "I", false)
def tyX5 : Nat → FieldType := fun k => match k with
  | 0 => .array .int
  | 1 => .object "ReadAloud$Walk"
  | _ => .int
abbrev wsX50 : List Cond := u_ws RX5 TX5 3
theorem nmX5 : ∀ a, a < 3 → ∀ b, b < 3 → a ≠ b → (TX5 a).2.1 ≠ (TX5 b).2.1 := by decide +kernel
theorem tyX5_ok : ∀ k, k < 3 → parseFieldDescriptor (TX5 k).2.2.1 = some (tyX5 k) := by decide +kernel
abbrev cX5_init : ByteArray := prog_7_method_1_code
def yX5_init : MethodName := ⟨RX5, "<init>", "()V"⟩
abbrev cX5_size : ByteArray := prog_7_method_2_code
def yX5_size : MethodName := ⟨RX5, "size", "()I"⟩
abbrev cX5_codeAt : ByteArray := prog_7_method_3_code
def yX5_codeAt : MethodName := ⟨RX5, "codeAt", "(I)I"⟩
abbrev cX5_add : ByteArray := prog_7_method_4_code
def yX5_add : MethodName := ⟨RX5, "add", "(I)Z"⟩
abbrev cX5_clear : ByteArray := prog_7_method_5_code
def yX5_clear : MethodName := ⟨RX5, "clear", "()V"⟩
abbrev cX5_faultPlace : ByteArray := prog_7_method_6_code
def yX5_faultPlace : MethodName := ⟨RX5, "faultPlace", "()I"⟩
abbrev cX5_isCourt : ByteArray := prog_7_method_7_code
def yX5_isCourt : MethodName := ⟨RX5, "isCourt", "()Z"⟩
def RX6 : String := "ReadAloud$Sheet"
def TX6 : u_T := fun k => match k with
  | 0 => ("ReadAloud$Sheet", "words", "[I", true)
  | _ => ("ReadAloud$Sheet", "size", "I", false)
def tyX6 : Nat → FieldType := fun k => match k with
  | 0 => .array .int
  | _ => .int
abbrev wsX60 : List Cond := u_ws RX6 TX6 2
theorem nmX6 : ∀ a, a < 2 → ∀ b, b < 2 → a ≠ b → (TX6 a).2.1 ≠ (TX6 b).2.1 := by decide +kernel
theorem tyX6_ok : ∀ k, k < 2 → parseFieldDescriptor (TX6 k).2.2.1 = some (tyX6 k) := by decide +kernel
abbrev cX6_init : ByteArray := prog_8_method_1_code
def yX6_init : MethodName := ⟨RX6, "<init>", "()V"⟩
abbrev cX6_size : ByteArray := prog_8_method_2_code
def yX6_size : MethodName := ⟨RX6, "size", "()I"⟩
abbrev cX6_has : ByteArray := prog_8_method_3_code
def yX6_has : MethodName := ⟨RX6, "has", "(I)Z"⟩
abbrev cX6_at : ByteArray := prog_8_method_4_code
def yX6_at : MethodName := ⟨RX6, "at", "(I)I"⟩
abbrev cX6_set : ByteArray := prog_8_method_5_code
def yX6_set : MethodName := ⟨RX6, "set", "(II)V"⟩
abbrev cX6_add : ByteArray := prog_8_method_6_code
def yX6_add : MethodName := ⟨RX6, "add", "(I)V"⟩
abbrev cX6_clear : ByteArray := prog_8_method_7_code
def yX6_clear : MethodName := ⟨RX6, "clear", "()V"⟩
abbrev cX6_copyFrom : ByteArray := prog_8_method_8_code
def yX6_copyFrom : MethodName := ⟨RX6, "copyFrom", "(LReadAloud$Sheet;)V"⟩
abbrev cX6_placesOf : ByteArray := prog_8_method_9_code
def yX6_placesOf : MethodName := ⟨RX6, "placesOf", "(I)I"⟩
abbrev cX6_firstPlacesOf : ByteArray := prog_8_method_10_code
def yX6_firstPlacesOf : MethodName := ⟨RX6, "firstPlacesOf", "(I)I"⟩
abbrev cX6_placesBehind : ByteArray := prog_8_method_11_code
def yX6_placesBehind : MethodName := ⟨RX6, "placesBehind", "(I)I"⟩
abbrev cX6_unlikeWords : ByteArray := prog_8_method_12_code
def yX6_unlikeWords : MethodName := ⟨RX6, "unlikeWords", "()I"⟩
def RX7 : String := "ReadAloud$Stammerer"
def TX7 : u_T := fun k => match k with
  | _ => ("ReadAloud$Man", "deed", "I", true)
def tyX7 : Nat → FieldType := fun k => match k with
  | _ => .int
abbrev wsX70 : List Cond := u_ws RX7 TX7 1
theorem nmX7 : ∀ a, a < 1 → ∀ b, b < 1 → a ≠ b → (TX7 a).2.1 ≠ (TX7 b).2.1 := by decide +kernel
theorem tyX7_ok : ∀ k, k < 1 → parseFieldDescriptor (TX7 k).2.2.1 = some (tyX7 k) := by decide +kernel
abbrev cX7_init : ByteArray := prog_9_method_1_code
def yX7_init : MethodName := ⟨RX7, "<init>", "(I)V"⟩
abbrev cX7_kind : ByteArray := prog_9_method_2_code
def yX7_kind : MethodName := ⟨RX7, "kind", "()I"⟩
abbrev cX7_placesAnyhow : ByteArray := prog_9_method_3_code
def yX7_placesAnyhow : MethodName := ⟨RX7, "placesAnyhow", "(LReadAloud$Sheet;)I"⟩
def RX8 : String := "ReadAloud$State"
def TX8 : u_T := fun k => match k with
  | 0 => ("ReadAloud$State", "sheet", "LReadAloud$Sheet;", true)
  | 1 => ("ReadAloud$State", "heard", "LReadAloud$Heard;", true)
  | 2 => ("ReadAloud$State", "hidden", "[I", true)
  | 3 => ("ReadAloud$State", "limit", "I", false)
  | 4 => ("ReadAloud$State", "men", "I", false)
  | _ => ("ReadAloud$State", "changes", "I", false)
def tyX8 : Nat → FieldType := fun k => match k with
  | 0 => .object "ReadAloud$Sheet"
  | 1 => .object "ReadAloud$Heard"
  | 2 => .array .int
  | 3 => .int
  | 4 => .int
  | _ => .int
abbrev wsX80 : List Cond := u_ws RX8 TX8 6
theorem nmX8 : ∀ a, a < 6 → ∀ b, b < 6 → a ≠ b → (TX8 a).2.1 ≠ (TX8 b).2.1 := by decide +kernel
theorem tyX8_ok : ∀ k, k < 6 → parseFieldDescriptor (TX8 k).2.2.1 = some (tyX8 k) := by decide +kernel
abbrev cX8_init : ByteArray := prog_10_method_1_code
def yX8_init : MethodName := ⟨RX8, "<init>", "()V"⟩
abbrev cX8_begin : ByteArray := prog_10_method_2_code
def yX8_begin : MethodName := ⟨RX8, "begin", "()V"⟩
abbrev cX8_copyFrom : ByteArray := prog_10_method_3_code
def yX8_copyFrom : MethodName := ⟨RX8, "copyFrom", "(LReadAloud$State;)V"⟩
def RX9 : String := "ReadAloud$Walk"
def TX9 : u_T := fun k => match k with
  | 0 => ("ReadAloud$Walk", "part", "I", false)
  | 1 => ("ReadAloud$Walk", "wordsOfPart", "I", false)
  | _ => ("ReadAloud$Walk", "lastWord", "I", false)
def tyX9 : Nat → FieldType := fun k => match k with
  | 0 => .int
  | 1 => .int
  | _ => .int
abbrev wsX90 : List Cond := u_ws RX9 TX9 3
theorem nmX9 : ∀ a, a < 3 → ∀ b, b < 3 → a ≠ b → (TX9 a).2.1 ≠ (TX9 b).2.1 := by decide +kernel
theorem tyX9_ok : ∀ k, k < 3 → parseFieldDescriptor (TX9 k).2.2.1 = some (tyX9 k) := by decide +kernel
abbrev cX9_init : ByteArray := prog_11_method_1_code
def yX9_init : MethodName := ⟨RX9, "<init>", "()V"⟩
abbrev cX9_begin : ByteArray := prog_11_method_2_code
def yX9_begin : MethodName := ⟨RX9, "begin", "()V"⟩
abbrev cX9_passes : ByteArray := prog_11_method_3_code
def yX9_passes : MethodName := ⟨RX9, "passes", "(I)Z"⟩
abbrev cX9_isWhole : ByteArray := prog_11_method_4_code
def yX9_isWhole : MethodName := ⟨RX9, "isWhole", "()Z"⟩
abbrev cX9_enter : ByteArray := prog_11_method_5_code
def yX9_enter : MethodName := ⟨RX9, "enter", "(I)V"⟩
abbrev cX9_passesWord : ByteArray := prog_11_method_6_code
def yX9_passesWord : MethodName := ⟨RX9, "passesWord", "(I)Z"⟩
def RX10 : String := "ReadAloud$Weeper"
def TX10 : u_T := fun k => match k with
  | _ => ("ReadAloud$Man", "deed", "I", true)
def tyX10 : Nat → FieldType := fun k => match k with
  | _ => .int
abbrev wsX100 : List Cond := u_ws RX10 TX10 1
theorem nmX10 : ∀ a, a < 1 → ∀ b, b < 1 → a ≠ b → (TX10 a).2.1 ≠ (TX10 b).2.1 := by decide +kernel
theorem tyX10_ok : ∀ k, k < 1 → parseFieldDescriptor (TX10 k).2.2.1 = some (tyX10 k) := by decide +kernel
abbrev cX10_init : ByteArray := prog_12_method_1_code
def yX10_init : MethodName := ⟨RX10, "<init>", "(I)V"⟩
abbrev cX10_kind : ByteArray := prog_12_method_2_code
def yX10_kind : MethodName := ⟨RX10, "kind", "()I"⟩
abbrev cX10_placesAnyhow : ByteArray := prog_12_method_3_code
def yX10_placesAnyhow : MethodName := ⟨RX10, "placesAnyhow", "(LReadAloud$Sheet;)I"⟩
def RX11 : String := "ReadAloud"
def TX11 : u_T := fun k => match k with
  | 0 => ("ReadAloud", "page", "LReadAloud$Page;", true)
  | 1 => ("ReadAloud", "near", "[I", true)
  | 2 => ("ReadAloud", "men", "[LReadAloud$Man;", true)
  | 3 => ("ReadAloud", "now", "LReadAloud$State;", true)
  | 4 => ("ReadAloud", "kept", "LReadAloud$State;", true)
  | 5 => ("ReadAloud", "drawn", "LReadAloud$Sheet;", true)
  | 6 => ("ReadAloud", "shortest", "LReadAloud$Brief;", true)
  | 7 => ("ReadAloud", "imageKept", "Z", false)
  | 8 => ("ReadAloud", "courtsRead", "I", false)
  | _ => ("ReadAloud", "briefsDone", "I", false)
def tyX11 : Nat → FieldType := fun k => match k with
  | 0 => .object "ReadAloud$Page"
  | 1 => .array .int
  | 2 => .array (.object "ReadAloud$Man")
  | 3 => .object "ReadAloud$State"
  | 4 => .object "ReadAloud$State"
  | 5 => .object "ReadAloud$Sheet"
  | 6 => .object "ReadAloud$Brief"
  | 7 => .boolean
  | 8 => .int
  | _ => .int
abbrev wsX110 : List Cond := u_ws RX11 TX11 10
theorem nmX11 : ∀ a, a < 10 → ∀ b, b < 10 → a ≠ b → (TX11 a).2.1 ≠ (TX11 b).2.1 := by decide +kernel
theorem tyX11_ok : ∀ k, k < 10 → parseFieldDescriptor (TX11 k).2.2.1 = some (tyX11 k) := by decide +kernel
abbrev cX11_init : ByteArray := prog_1_method_1_code
def yX11_init : MethodName := ⟨RX11, "<init>", "()V"⟩
abbrev cX11_letter : ByteArray := prog_1_method_2_code
def yX11_letter : MethodName := ⟨RX11, "letter", "(I)I"⟩
abbrev cX11_blank : ByteArray := prog_1_method_3_code
def yX11_blank : MethodName := ⟨RX11, "blank", "()I"⟩
abbrev cX11_fault : ByteArray := prog_1_method_4_code
def yX11_fault : MethodName := ⟨RX11, "fault", "()I"⟩
abbrev cX11_court : ByteArray := prog_1_method_5_code
def yX11_court : MethodName := ⟨RX11, "court", "()I"⟩
abbrev cX11_near : ByteArray := prog_1_method_6_code
def yX11_near : MethodName := ⟨RX11, "near", "(I)I"⟩
abbrev cX11_word : ByteArray := prog_1_method_7_code
def yX11_word : MethodName := ⟨RX11, "word", "(I)I"⟩
abbrev cX11_put : ByteArray := prog_1_method_8_code
def yX11_put : MethodName := ⟨RX11, "put", "(II)I"⟩
abbrev cX11_limit : ByteArray := prog_1_method_9_code
def yX11_limit : MethodName := ⟨RX11, "limit", "(I)I"⟩
abbrev cX11_accuse : ByteArray := prog_1_method_10_code
def yX11_accuse : MethodName := ⟨RX11, "accuse", "(II)I"⟩
abbrev cX11_about : ByteArray := prog_1_method_11_code
def yX11_about : MethodName := ⟨RX11, "about", "(II)I"⟩
abbrev cX11_as : ByteArray := prog_1_method_12_code
def yX11_as : MethodName := ⟨RX11, "as", "(II)I"⟩
abbrev cX11_lesson : ByteArray := prog_1_method_13_code
def yX11_lesson : MethodName := ⟨RX11, "lesson", "(II)I"⟩
abbrev cX11_unlearn : ByteArray := prog_1_method_14_code
def yX11_unlearn : MethodName := ⟨RX11, "unlearn", "(I)I"⟩
abbrev cX11_brief : ByteArray := prog_1_method_15_code
def yX11_brief : MethodName := ⟨RX11, "brief", "(I)I"⟩
abbrev cX11_hide : ByteArray := prog_1_method_16_code
def yX11_hide : MethodName := ⟨RX11, "hide", "(III)I"⟩
abbrev cX11_hear : ByteArray := prog_1_method_17_code
def yX11_hear : MethodName := ⟨RX11, "hear", "(IIZ)I"⟩
abbrev cX11_forget : ByteArray := prog_1_method_18_code
def yX11_forget : MethodName := ⟨RX11, "forget", "()I"⟩
abbrev cX11_trials : ByteArray := prog_1_method_19_code
def yX11_trials : MethodName := ⟨RX11, "trials", "(III)I"⟩
abbrev cX11_image : ByteArray := prog_1_method_20_code
def yX11_image : MethodName := ⟨RX11, "image", "()I"⟩
abbrev cX11_restore : ByteArray := prog_1_method_21_code
def yX11_restore : MethodName := ⟨RX11, "restore", "()I"⟩
abbrev cX11_count : ByteArray := prog_1_method_22_code
def yX11_count : MethodName := ⟨RX11, "count", "(I)I"⟩
abbrev cX11_digest : ByteArray := prog_1_method_23_code
def yX11_digest : MethodName := ⟨RX11, "digest", "()J"⟩
abbrev cX11_hasCourt : ByteArray := prog_1_method_24_code
def yX11_hasCourt : MethodName := ⟨RX11, "hasCourt", "()Z"⟩
abbrev cX11_isAccused : ByteArray := prog_1_method_25_code
def yX11_isAccused : MethodName := ⟨RX11, "isAccused", "(I)Z"⟩
abbrev cX11_isWord : ByteArray := prog_1_method_26_code
def yX11_isWord : MethodName := ⟨RX11, "isWord", "(I)Z"⟩
abbrev cX11_isKind : ByteArray := prog_1_method_27_code
def yX11_isKind : MethodName := ⟨RX11, "isKind", "(I)Z"⟩
abbrev cX11_manOf : ByteArray := prog_1_method_28_code
def yX11_manOf : MethodName := ⟨RX11, "manOf", "(I)LReadAloud$Man;"⟩
abbrev cX11_deedOf : ByteArray := prog_1_method_29_code
def yX11_deedOf : MethodName := ⟨RX11, "deedOf", "(I)I"⟩
abbrev cX11_hiddenBy : ByteArray := prog_1_method_30_code
def yX11_hiddenBy : MethodName := ⟨RX11, "hiddenBy", "(I)I"⟩
abbrev cX11_manOfKind : ByteArray := prog_1_method_31_code
def yX11_manOfKind : MethodName := ⟨RX11, "manOfKind", "(II)LReadAloud$Man;"⟩
abbrev cX11_isOfKind : ByteArray := prog_1_method_32_code
def yX11_isOfKind : MethodName := ⟨RX11, "isOfKind", "(LReadAloud$Man;I)Z"⟩
abbrev cX11_readCourt : ByteArray := prog_1_method_33_code
def yX11_readCourt : MethodName := ⟨RX11, "readCourt", "()V"⟩
abbrev cX11_wouldAlter : ByteArray := prog_1_method_34_code
def yX11_wouldAlter : MethodName := ⟨RX11, "wouldAlter", "(ILReadAloud$Sheet;II)I"⟩
abbrev cX11_alteredBy : ByteArray := prog_1_method_35_code
def yX11_alteredBy : MethodName := ⟨RX11, "alteredBy", "(ILReadAloud$Sheet;)I"⟩
abbrev cX11_hangingAt : ByteArray := prog_1_method_36_code
def yX11_hangingAt : MethodName := ⟨RX11, "hangingAt", "(LReadAloud$Sheet;)I"⟩
abbrev cX11_allAltering : ByteArray := prog_1_method_37_code
def yX11_allAltering : MethodName := ⟨RX11, "allAltering", "(LReadAloud$Sheet;)I"⟩
abbrev cX11_deedsAltering : ByteArray := prog_1_method_38_code
def yX11_deedsAltering : MethodName := ⟨RX11, "deedsAltering", "(II)I"⟩
abbrev cX11_placeToListen : ByteArray := prog_1_method_39_code
def yX11_placeToListen : MethodName := ⟨RX11, "placeToListen", "(I)I"⟩
abbrev cX11_wordsToHide : ByteArray := prog_1_method_40_code
def yX11_wordsToHide : MethodName := ⟨RX11, "wordsToHide", "(II)I"⟩
abbrev cX11_heaviestWord : ByteArray := prog_1_method_41_code
def yX11_heaviestWord : MethodName := ⟨RX11, "heaviestWord", "(I)I"⟩
abbrev cX11_drawSheet : ByteArray := prog_1_method_42_code
def yX11_drawSheet : MethodName := ⟨RX11, "drawSheet", "(I)I"⟩
def RX12 : String := "ReadAloudModel"
def TX12 : u_T := fun k => match k with
  | 0 => ("ReadAloudModel", "page", "[I", true)
  | 1 => ("ReadAloudModel", "pageMany", "I", false)
  | 2 => ("ReadAloudModel", "part", "I", false)
  | 3 => ("ReadAloudModel", "partMany", "I", false)
  | 4 => ("ReadAloudModel", "lastWord", "I", false)
  | 5 => ("ReadAloudModel", "readNear", "[I", true)
  | 6 => ("ReadAloudModel", "readSheet", "[I", true)
  | 7 => ("ReadAloudModel", "limitNow", "I", false)
  | 8 => ("ReadAloudModel", "words", "I", false)
  | 9 => ("ReadAloudModel", "changes", "I", false)
  | 10 => ("ReadAloudModel", "courtsRead", "I", false)
  | 11 => ("ReadAloudModel", "nears", "[I", true)
  | 12 => ("ReadAloudModel", "sheet", "[I", true)
  | 13 => ("ReadAloudModel", "accused", "I", false)
  | 14 => ("ReadAloudModel", "rows", "[I", true)
  | 15 => ("ReadAloudModel", "briefDone", "I", false)
  | 16 => ("ReadAloudModel", "row", "[I", true)
  | 17 => ("ReadAloudModel", "heard", "[I", true)
  | 18 => ("ReadAloudModel", "heardMany", "I", false)
  | 19 => ("ReadAloudModel", "heards", "[I", true)
  | 20 => ("ReadAloudModel", "then", "[I", true)
  | 21 => ("ReadAloudModel", "seedNow", "I", false)
  | 22 => ("ReadAloudModel", "drawn", "[I", true)
  | 23 => ("ReadAloudModel", "keptCourt", "I", false)
  | 24 => ("ReadAloudModel", "keptLimit", "I", false)
  | 25 => ("ReadAloudModel", "keptAccused", "I", false)
  | 26 => ("ReadAloudModel", "keptChanges", "I", false)
  | 27 => ("ReadAloudModel", "keptHeard", "I", false)
  | 28 => ("ReadAloudModel", "keptSheet", "[I", true)
  | 29 => ("ReadAloudModel", "keptRows", "[I", true)
  | 30 => ("ReadAloudModel", "keptHeards", "[I", true)
  | _ => ("ReadAloudModel", "hash", "J", false)
def tyX12 : Nat → FieldType := fun k => match k with
  | 0 => .array .int
  | 1 => .int
  | 2 => .int
  | 3 => .int
  | 4 => .int
  | 5 => .array .int
  | 6 => .array .int
  | 7 => .int
  | 8 => .int
  | 9 => .int
  | 10 => .int
  | 11 => .array .int
  | 12 => .array .int
  | 13 => .int
  | 14 => .array .int
  | 15 => .int
  | 16 => .array .int
  | 17 => .array .int
  | 18 => .int
  | 19 => .array .int
  | 20 => .array .int
  | 21 => .int
  | 22 => .array .int
  | 23 => .int
  | 24 => .int
  | 25 => .int
  | 26 => .int
  | 27 => .int
  | 28 => .array .int
  | 29 => .array .int
  | 30 => .array .int
  | _ => .long
abbrev wsX120 : List Cond := u_ws RX12 TX12 32
theorem nmX12 : ∀ a, a < 32 → ∀ b, b < 32 → a ≠ b → (TX12 a).2.1 ≠ (TX12 b).2.1 := by decide +kernel
theorem tyX12_ok : ∀ k, k < 32 → parseFieldDescriptor (TX12 k).2.2.1 = some (tyX12 k) := by decide +kernel
abbrev cX12_init : ByteArray := prog_14_method_1_code
def yX12_init : MethodName := ⟨RX12, "<init>", "()V"⟩
abbrev cX12_in : ByteArray := prog_14_method_2_code
def yX12_in : MethodName := ⟨RX12, "in", "(JJJ)Z"⟩
abbrev cX12_copy : ByteArray := prog_14_method_3_code
def yX12_copy : MethodName := ⟨RX12, "copy", "([I[I)V"⟩
abbrev cX12_ones : ByteArray := prog_14_method_4_code
def yX12_ones : MethodName := ⟨RX12, "ones", "(I)I"⟩
abbrev cX12_letter : ByteArray := prog_14_method_5_code
def yX12_letter : MethodName := ⟨RX12, "letter", "(I)I"⟩
abbrev cX12_blank : ByteArray := prog_14_method_6_code
def yX12_blank : MethodName := ⟨RX12, "blank", "()I"⟩
abbrev cX12_go : ByteArray := prog_14_method_7_code
def yX12_go : MethodName := ⟨RX12, "go", "(I)Z"⟩
abbrev cX12_faultOf : ByteArray := prog_14_method_8_code
def yX12_faultOf : MethodName := ⟨RX12, "faultOf", "()I"⟩
abbrev cX12_fault : ByteArray := prog_14_method_9_code
def yX12_fault : MethodName := ⟨RX12, "fault", "()I"⟩
abbrev cX12_court : ByteArray := prog_14_method_10_code
def yX12_court : MethodName := ⟨RX12, "court", "()I"⟩
abbrev cX12_lacks : ByteArray := prog_14_method_11_code
def yX12_lacks : MethodName := ⟨RX12, "lacks", "()Z"⟩
abbrev cX12_isPlace : ByteArray := prog_14_method_12_code
def yX12_isPlace : MethodName := ⟨RX12, "isPlace", "(I)Z"⟩
abbrev cX12_near : ByteArray := prog_14_method_13_code
def yX12_near : MethodName := ⟨RX12, "near", "(I)I"⟩
abbrev cX12_word : ByteArray := prog_14_method_14_code
def yX12_word : MethodName := ⟨RX12, "word", "(I)I"⟩
abbrev cX12_put : ByteArray := prog_14_method_15_code
def yX12_put : MethodName := ⟨RX12, "put", "(II)I"⟩
abbrev cX12_limit : ByteArray := prog_14_method_16_code
def yX12_limit : MethodName := ⟨RX12, "limit", "(I)I"⟩
abbrev cX12_isNear : ByteArray := prog_14_method_17_code
def yX12_isNear : MethodName := ⟨RX12, "isNear", "(II)Z"⟩
abbrev cX12_stands : ByteArray := prog_14_method_18_code
def yX12_stands : MethodName := ⟨RX12, "stands", "([II)Z"⟩
abbrev cX12_alters : ByteArray := prog_14_method_19_code
def yX12_alters : MethodName := ⟨RX12, "alters", "(III[II)Z"⟩
abbrev cX12_altersOn : ByteArray := prog_14_method_20_code
def yX12_altersOn : MethodName := ⟨RX12, "altersOn", "(III[II)I"⟩
abbrev cX12_isAccused : ByteArray := prog_14_method_21_code
def yX12_isAccused : MethodName := ⟨RX12, "isAccused", "(I)Z"⟩
abbrev cX12_accuse : ByteArray := prog_14_method_22_code
def yX12_accuse : MethodName := ⟨RX12, "accuse", "(II)I"⟩
abbrev cX12_altersOf : ByteArray := prog_14_method_23_code
def yX12_altersOf : MethodName := ⟨RX12, "altersOf", "(I)I"⟩
abbrev cX12_hangs : ByteArray := prog_14_method_24_code
def yX12_hangs : MethodName := ⟨RX12, "hangs", "(I)Z"⟩
abbrev cX12_tell : ByteArray := prog_14_method_25_code
def yX12_tell : MethodName := ⟨RX12, "tell", "(II)I"⟩
abbrev cX12_about : ByteArray := prog_14_method_26_code
def yX12_about : MethodName := ⟨RX12, "about", "(II)I"⟩
abbrev cX12_as : ByteArray := prog_14_method_27_code
def yX12_as : MethodName := ⟨RX12, "as", "(II)I"⟩
abbrev cX12_lesson : ByteArray := prog_14_method_28_code
def yX12_lesson : MethodName := ⟨RX12, "lesson", "(II)I"⟩
abbrev cX12_unlearn : ByteArray := prog_14_method_29_code
def yX12_unlearn : MethodName := ⟨RX12, "unlearn", "(I)I"⟩
abbrev cX12_isApart : ByteArray := prog_14_method_30_code
def yX12_isApart : MethodName := ⟨RX12, "isApart", "(I)Z"⟩
abbrev cX12_briefOf : ByteArray := prog_14_method_31_code
def yX12_briefOf : MethodName := ⟨RX12, "briefOf", "(I)I"⟩
abbrev cX12_brief : ByteArray := prog_14_method_32_code
def yX12_brief : MethodName := ⟨RX12, "brief", "(I)I"⟩
abbrev cX12_hideOf : ByteArray := prog_14_method_33_code
def yX12_hideOf : MethodName := ⟨RX12, "hideOf", "(III)I"⟩
abbrev cX12_hide : ByteArray := prog_14_method_34_code
def yX12_hide : MethodName := ⟨RX12, "hide", "(III)I"⟩
abbrev cX12_hear : ByteArray := prog_14_method_35_code
def yX12_hear : MethodName := ⟨RX12, "hear", "(IIZ)I"⟩
abbrev cX12_forget : ByteArray := prog_14_method_36_code
def yX12_forget : MethodName := ⟨RX12, "forget", "()I"⟩
abbrev cX12_isHeard : ByteArray := prog_14_method_37_code
def yX12_isHeard : MethodName := ⟨RX12, "isHeard", "(III)Z"⟩
abbrev cX12_whichOf : ByteArray := prog_14_method_38_code
def yX12_whichOf : MethodName := ⟨RX12, "whichOf", "(I)I"⟩
abbrev cX12_listenOf : ByteArray := prog_14_method_39_code
def yX12_listenOf : MethodName := ⟨RX12, "listenOf", "(I)I"⟩
abbrev cX12_draw : ByteArray := prog_14_method_40_code
def yX12_draw : MethodName := ⟨RX12, "draw", "(I)I"⟩
abbrev cX12_trials : ByteArray := prog_14_method_41_code
def yX12_trials : MethodName := ⟨RX12, "trials", "(III)I"⟩
abbrev cX12_image : ByteArray := prog_14_method_42_code
def yX12_image : MethodName := ⟨RX12, "image", "()I"⟩
abbrev cX12_restore : ByteArray := prog_14_method_43_code
def yX12_restore : MethodName := ⟨RX12, "restore", "()I"⟩
abbrev cX12_hangMany : ByteArray := prog_14_method_44_code
def yX12_hangMany : MethodName := ⟨RX12, "hangMany", "()I"⟩
abbrev cX12_unlike : ByteArray := prog_14_method_45_code
def yX12_unlike : MethodName := ⟨RX12, "unlike", "()I"⟩
abbrev cX12_countOf : ByteArray := prog_14_method_46_code
def yX12_countOf : MethodName := ⟨RX12, "countOf", "(I)I"⟩
abbrev cX12_count : ByteArray := prog_14_method_47_code
def yX12_count : MethodName := ⟨RX12, "count", "(I)I"⟩
abbrev cX12_say : ByteArray := prog_14_method_48_code
def yX12_say : MethodName := ⟨RX12, "say", "(J)V"⟩
abbrev cX12_digest : ByteArray := prog_14_method_49_code
def yX12_digest : MethodName := ⟨RX12, "digest", "()J"⟩
def RJ6 : String := "java/lang/Integer"
def TJ6 : u_T := fun k => match k with
  | _ => ("", "", "", false)
def tyJ6 : Nat → FieldType := fun k => match k with
  | _ => .int
abbrev wsJ60 : List Cond := u_ws RJ6 TJ6 0
theorem nmJ6 : ∀ a, a < 0 → ∀ b, b < 0 → a ≠ b → (TJ6 a).2.1 ≠ (TJ6 b).2.1 := by decide +kernel
theorem tyJ6_ok : ∀ k, k < 0 → parseFieldDescriptor (TJ6 k).2.2.1 = some (tyJ6 k) := by decide +kernel
abbrev cJ6_bitCount_0f7a4 : ByteArray := prog_15_method_49_code
def yJ6_bitCount_0f7a4 : MethodName := ⟨RJ6, "bitCount", "(I)I"⟩
def RJ9 : String := "java/lang/Math"
def TJ9 : u_T := fun k => match k with
  | _ => ("", "", "", false)
def tyJ9 : Nat → FieldType := fun k => match k with
  | _ => .int
abbrev wsJ90 : List Cond := u_ws RJ9 TJ9 0
theorem nmJ9 : ∀ a, a < 0 → ∀ b, b < 0 → a ≠ b → (TJ9 a).2.1 ≠ (TJ9 b).2.1 := by decide +kernel
theorem tyJ9_ok : ∀ k, k < 0 → parseFieldDescriptor (TJ9 k).2.2.1 = some (tyJ9 k) := by decide +kernel
abbrev cJ9_max_7cf53 : ByteArray := prog_16_method_65_code
def yJ9_max_7cf53 : MethodName := ⟨RJ9, "max", "(II)I"⟩
def RJ10 : String := "java/lang/System"
def TJ10 : u_T := fun k => match k with
  | _ => ("", "", "", false)
def tyJ10 : Nat → FieldType := fun k => match k with
  | _ => .int
abbrev wsJ100 : List Cond := u_ws RJ10 TJ10 0
theorem nmJ10 : ∀ a, a < 0 → ∀ b, b < 0 → a ≠ b → (TJ10 a).2.1 ≠ (TJ10 b).2.1 := by decide +kernel
theorem tyJ10_ok : ∀ k, k < 0 → parseFieldDescriptor (TJ10 k).2.2.1 = some (tyJ10 k) := by decide +kernel
def RL : String := "ReadAloudLaw"
abbrev cL_law : ByteArray := code
def yL_law : MethodName := ⟨RL, "law", "([I)Z"⟩
abbrev vwCl : List vw_C := [(RX0, TX0, 1), (RX1, TX1, 1), (RX2, TX2, 3), (RX3, TX3, 3), (RX4, TX4, 1), (RX5, TX5, 3), (RX6, TX6, 2), (RX7, TX7, 1), (RX8, TX8, 6), (RX9, TX9, 3), (RX10, TX10, 1), (RX11, TX11, 10), (RX12, TX12, 32)]
end
section

/-- the tables' words that any method may be given -/
def aWd : List Cond := lw_tbl.filter goodWord
theorem aWd_tbl {w : Cond} (h : w ∈ aWd) : w ∈ lw_tbl := (List.mem_filter.mp h).1
theorem aWd_good : GoodIn aWd aWd := fun w h => ⟨h, good_of_word (List.mem_filter.mp h).2⟩
theorem aWd_t {w : Cond} (h : w ∈ tables_1) (g : goodWord w = true) : w ∈ aWd := List.mem_filter.mpr ⟨List.mem_append_right _ h, g⟩
theorem aWd_1 {w : Cond} (h : w ∈ tables_1_1) (g : goodWord w = true) : w ∈ aWd := aWd_t (List.mem_append_left _ h) g
theorem aWd_2 {w : Cond} (h : w ∈ tables_1_2) (g : goodWord w = true) : w ∈ aWd := aWd_t (List.mem_append_right _ (List.mem_append_left _ h)) g
theorem aWd_3 {w : Cond} (h : w ∈ tables_1_3) (g : goodWord w = true) : w ∈ aWd := aWd_t (List.mem_append_right _ (List.mem_append_right _ (List.mem_append_left _ h))) g
theorem aWd_4 {w : Cond} (h : w ∈ tables_1_4) (g : goodWord w = true) : w ∈ aWd := aWd_t (List.mem_append_right _ (List.mem_append_right _ (List.mem_append_right _ h))) g
theorem aArr_in : Cond.arrayClass .int ∈ aWd := aWd_1 (List.mem_of_getElem? (i := 47) rfl) rfl
/-! THE ABSTRACT MACHINE: a heap is a list of cells by their places; a reference is a place. G says: from here the method ends with 'post'. AMet says it of a whole method. -/
abbrev aT : Type := List Int32 ⊕ (List (Option Nat) ⊕ (Nat × List Value))
abbrev aH : Type := List aT
def aRe (ad : Nat → Nat) (v : Value) : Value := match v with
  | .ref i => .ref (ad i)
  | w => w
def aE (cI cM : ClassId) (ad : Nat → Nat) (c : aT) : va_E := match c with
  | .inl xs => .inl (cI, xs.length, .inl (fun k => xs.getD k 0))
  | .inr (.inl rs) => .inl (cM, rs.length, .inr (.inr (.inr (.inr (fun k => (rs.getD k none).map ad)))))
  | .inr (.inr o) => .inr (o.1, o.2.map (aRe ad))
def aW (cI cM : ClassId) (ad : Nat → Nat) (σ : aH) : va_W := σ.mapIdx (fun i c => (ad i, aE cI cM ad c))
theorem aW_get (cI cM : ClassId) (ad : Nat → Nat) (σ : aH) (i : Nat) : (aW cI cM ad σ)[i]? = (σ[i]?).map (fun c => (ad i, aE cI cM ad c)) := by simp [aW]
theorem aW_at {cI cM : ClassId} {ad : Nat → Nat} {σ : aH} {i : Nat} {c : aT} (h : σ[i]? = some c) : (aW cI cM ad σ)[i]? = some (ad i, aE cI cM ad c) := by rw [aW_get, h]; rfl
theorem aW_len (cI cM : ClassId) (ad : Nat → Nat) (σ : aH) : (aW cI cM ad σ).length = σ.length := by simp [aW]
theorem aW_set (cI cM : ClassId) (ad : Nat → Nat) (σ : aH) (i : Nat) (c : aT) : (aW cI cM ad σ).set i (ad i, aE cI cM ad c) = aW cI cM ad (σ.set i c) := by
  apply List.ext_getElem?
  intro j
  rw [aW_get, List.getElem?_set, List.getElem?_set, aW_get, aW_len]
  by_cases h : i = j
  · subst h
    by_cases h2 : i < σ.length <;> simp [h2]
  · simp [h]
def aSc (n : Nat) (v : Value) : Prop := ∀ i, v = .ref i → i < n
def aScC (n : Nat) (c : aT) : Prop := match c with
  | .inl xs => xs.length < 65536
  | .inr (.inl rs) => rs.length < 65536 ∧ ∀ i : Nat, some i ∈ rs → i < n
  | .inr (.inr o) => ∀ v ∈ o.2, aSc n v
def aScH (σ : aH) : Prop := ∀ c ∈ σ, aScC σ.length c
theorem aSc_int {n : Nat} {x : Int32} : aSc n (.int x) := fun i h => by cases h
theorem aSc_long {n : Nat} {x : Int64} : aSc n (.long x) := fun i h => by cases h
theorem aSc_null {n : Nat} : aSc n .null := fun i h => by cases h
theorem aSc_ref {n i : Nat} (h : i < n) : aSc n (.ref i) := fun j e => by cases e; exact h
theorem aSc_mono {n n' : Nat} (h : n ≤ n') {v : Value} (hv : aSc n v) : aSc n' v := fun i e => Nat.lt_of_lt_of_le (hv i e) h
theorem aScC_mono {n n' : Nat} (h : n ≤ n') {c : aT} (hc : aScC n c) : aScC n' c := by
  rcases c with xs | rs | o
  · exact hc
  · exact ⟨hc.1, fun i hi => Nat.lt_of_lt_of_le (hc.2 i hi) h⟩
  · exact fun v hv => aSc_mono h (hc v hv)
theorem aScH_at {σ : aH} (h : aScH σ) {i : Nat} {c : aT} (hi : σ[i]? = some c) : aScC σ.length c := h c (List.mem_of_getElem? hi)
theorem aScH_set {σ : aH} (h : aScH σ) {i : Nat} {c : aT} (hc : aScC σ.length c) : aScH (σ.set i c) := by
  intro d hd
  rw [List.length_set]
  rcases List.mem_or_eq_of_mem_set hd with h1 | h1
  · exact h d h1
  · subst h1; exact hc
theorem aScH_push {σ : aH} (h : aScH σ) {c : aT} (hc : aScC (σ.length + 1) c) : aScH (σ ++ [c]) := by
  intro d hd
  rw [List.length_append, List.length_singleton]
  rcases List.mem_append.mp hd with h1 | h1
  · exact aScC_mono (Nat.le_succ _) (h d h1)
  · rw [List.mem_singleton.mp h1]; exact hc
theorem aRe_eq {ad ad' : Nat → Nat} {n : Nat} (h : ∀ i, i < n → ad' i = ad i) {v : Value} (hv : aSc n v) : aRe ad' v = aRe ad v := by
  cases v <;> try rfl
  rename_i a
  show Value.ref _ = Value.ref _
  rw [h a (hv a rfl)]
theorem aRe_map {ad ad' : Nat → Nat} {n : Nat} (h : ∀ i, i < n → ad' i = ad i) {S : List Value} (hS : ∀ v ∈ S, aSc n v) : S.map (aRe ad') = S.map (aRe ad) :=
  List.map_congr_left (fun v hv => aRe_eq h (hS v hv))
theorem aE_eq {cI cM : ClassId} {ad ad' : Nat → Nat} {n : Nat} (h : ∀ i, i < n → ad' i = ad i) {c : aT} (hc : aScC n c) : aE cI cM ad' c = aE cI cM ad c := by
  rcases c with xs | rs | o
  · rfl
  · have hf : (fun k => (rs.getD k none).map ad') = fun k => (rs.getD k none).map ad := by
      funext k
      cases hk : rs.getD k none with
      | none => rfl
      | some i =>
        show some _ = some _
        rw [h i (hc.2 i ?_)]
        rw [List.getD_eq_getElem?_getD] at hk
        cases hr : rs[k]? with
        | none => rw [hr] at hk; cases hk
        | some w =>
          rw [hr] at hk
          have hk2 : w = some i := hk
          rw [← hk2]
          exact List.mem_of_getElem? hr
    simp only [aE, hf]
  · show Sum.inr _ = Sum.inr _
    rw [aRe_map h hc]
theorem aW_eq {cI cM : ClassId} {ad ad' : Nat → Nat} {σ : aH} (h : ∀ i, i < σ.length → ad' i = ad i) (hσ : aScH σ) : aW cI cM ad' σ = aW cI cM ad σ := by
  apply List.ext_getElem?
  intro j
  rw [aW_get, aW_get]
  cases hj : σ[j]? with
  | none => rfl
  | some c =>
    have hl : j < σ.length := (List.getElem?_eq_some_iff.mp hj).1
    simp only [Option.map_some]
    rw [h j hl, aE_eq h (aScH_at hσ hj)]
theorem aW_push {cI cM : ClassId} {ad : Nat → Nat} {σ : aH} {q : Nat} {c : aT} (hσ : aScH σ) : aW cI cM (fun i => if i = σ.length then q else ad i) (σ ++ [c]) = aW cI cM ad σ ++ [(q, aE cI cM (fun i => if i = σ.length then q else ad i) c)] := by
  have h1 : aW cI cM (fun i => if i = σ.length then q else ad i) σ = aW cI cM ad σ := aW_eq (fun i hi => by simp [Nat.ne_of_lt hi]) hσ
  rw [← h1]
  apply List.ext_getElem?
  intro j
  rw [aW_get, List.getElem?_append, List.getElem?_append, aW_get, aW_len]
  by_cases h : j < σ.length
  · simp [h]
  · rw [if_neg h, if_neg h]
    by_cases h2 : j = σ.length
    · subst h2
      simp
    · have h3 : j - σ.length ≠ 0 := by omega
      obtain ⟨d, hd⟩ := Nat.exists_eq_succ_of_ne_zero h3
      rw [hd]
      rfl
/-! what stands for the whole run: classes, arrays' classes, nest mates, casts -/
def aNl : List (String × Nat × MethodName × String) := [("ReadAloud", 9, ⟨"ReadAloud$Page", "<init>", "()V"⟩, "ReadAloud"), ("ReadAloud$Page", 17, ⟨"ReadAloud$Walk", "<init>", "()V"⟩, "ReadAloud"), ("ReadAloud", 28, ⟨"ReadAloud$State", "<init>", "()V"⟩, "ReadAloud"), ("ReadAloud$State", 11, ⟨"ReadAloud$Sheet", "<init>", "()V"⟩, "ReadAloud"), ("ReadAloud$State", 20, ⟨"ReadAloud$Heard", "<init>", "()V"⟩, "ReadAloud"), ("ReadAloud", 38, ⟨"ReadAloud$Sheet", "<init>", "()V"⟩, "ReadAloud"), ("ReadAloud", 45, ⟨"ReadAloud$Brief", "<init>", "()V"⟩, "ReadAloud"), ("ReadAloud$Walk", 15, ⟨"ReadAloud", "isWord", "(I)Z"⟩, "ReadAloud")]
def aCy : List (String × String) := [("ReadAloud$Weeper", "ReadAloud$Stammerer"), ("ReadAloud$Stammerer", "ReadAloud$Man"), ("ReadAloud$Actor", "ReadAloud$Man"), ("ReadAloud$Boy", "ReadAloud$Man"), ("ReadAloud$Weeper", "ReadAloud$Man")]
def aCn : List (String × String) := [("ReadAloud$Actor", "ReadAloud$Stammerer"), ("ReadAloud$Boy", "ReadAloud$Stammerer"), ("ReadAloud$Man", "ReadAloud$Stammerer"), ("ReadAloud$Stammerer", "ReadAloud$Actor"), ("ReadAloud$Boy", "ReadAloud$Actor"), ("ReadAloud$Weeper", "ReadAloud$Actor"), ("ReadAloud$Man", "ReadAloud$Actor"), ("ReadAloud$Stammerer", "ReadAloud$Boy"), ("ReadAloud$Actor", "ReadAloud$Boy"), ("ReadAloud$Weeper", "ReadAloud$Boy"), ("ReadAloud$Man", "ReadAloud$Boy"), ("ReadAloud$Stammerer", "ReadAloud$Weeper"), ("ReadAloud$Actor", "ReadAloud$Weeper"), ("ReadAloud$Boy", "ReadAloud$Weeper"), ("ReadAloud$Man", "ReadAloud$Weeper")]
def aNs (U : State) : Prop := (∀ q ∈ aNl, va_Nw (.methodLinkNest q.1 q.2.1 q.2.2.1 q.2.2.2) U) ∧ va_AO "ReadAloud$Man" U ∧ (∀ q ∈ aCy, va_Nw (.castable q.1 q.2) U) ∧ ∀ q ∈ aCn, va_Nc q.1 q.2 U
def aK (D : va_G) (cI cM : ClassId) (U : State) : Prop := va_K D vwCl [(cI, .int), (cM, .object "ReadAloud$Man")] U ∧ aNs U
theorem aK.warm {D : va_G} {cI cM : ClassId} {s U : State} (hW : s.WarmedH U.vm) (h : aK D cI cM s) : aK D cI cM U :=
  ⟨va_K.moved hW.alike h.1, fun q hq => va_Nw.warmM hW (h.2.1 q hq), va_AO.moved hW.alike h.2.2.1, fun q hq => va_Nw.warmC hW (h.2.2.2.1 q hq), fun q hq => va_Nc.moved hW.alike (h.2.2.2.2 q hq)⟩
theorem aK.same {D : va_G} {cI cM : ClassId} {u U : State} (hv : u.vm = U.vm) (h : aK D cI cM u) : aK D cI cM U :=
  ⟨va_K.moved (by rw [← hv]; exact Vm.Alike.refl u.vm) h.1, fun q hq => va_Nw.same rfl hv (h.2.1 q hq), va_AO.moved (by rw [← hv]; exact Vm.Alike.refl u.vm) h.2.2.1, fun q hq => va_Nw.same rfl hv (h.2.2.2.1 q hq), fun q hq => va_Nc.moved (by rw [← hv]; exact Vm.Alike.refl u.vm) (h.2.2.2.2 q hq)⟩
/-! a state: heap, locals, stack -/
def aSt (D : va_G) (cI cM : ClassId) (A : Nat → Prop) (H0 : Heap) (ad0 : Nat → Nat) (n0 : Nat) (H : Heap) (locs : List Loc) (ad : Nat → Nat) (σ : aH) : Prop :=
  va_P D vwCl (aW cI cM ad σ) H ∧ va_D A (aW cI cM ad σ) ∧ va_S A H0 H locs ∧ aScH σ ∧ (∀ i, i < n0 → ad i = ad0 i) ∧ n0 ≤ σ.length
def aL2 (ad : Nat → Nat) (L : List (Option Value)) : List (Nat × Value) := L.zipIdx.filterMap (fun q => q.1.map (fun v => (q.2, aRe ad v)))
theorem aL2_mem {ad : Nat → Nat} {L : List (Option Value)} {j : Nat} {w : Value} : (j, w) ∈ aL2 ad L ↔ ∃ v, L[j]? = some (some v) ∧ w = aRe ad v := by
  unfold aL2
  rw [List.mem_filterMap]
  constructor
  · rintro ⟨⟨o, k⟩, h1, h2⟩
    cases o with
    | none => cases h2
    | some v =>
      simp only [Option.map_some, Option.some.injEq, Prod.mk.injEq] at h2
      rw [List.mk_mem_zipIdx_iff_getElem?] at h1
      exact ⟨v, by rw [← h2.1]; exact h1, h2.2.symm⟩
  · rintro ⟨v, h1, h2⟩
    exact ⟨(some v, j), by rw [List.mk_mem_zipIdx_iff_getElem?]; exact h1, by rw [h2]; rfl⟩
def aLo (ad : Nat → Nat) (ls : Array Slot) (nL : Nat) (L : List (Option Value)) (n : Nat) : Prop := lv_has ls nL (aL2 ad L) ∧ L.length = nL ∧ ∀ v, some v ∈ L → aSc n v
theorem lv_less {ls : Array Slot} {nL : Nat} {l l' : List (Nat × Value)} (h : lv_has ls nL l) (hs : ∀ q ∈ l', q ∈ l) : lv_has ls nL l' := ⟨h.1, h.2.1, fun q hq => h.2.2 q (hs q hq)⟩
theorem aLo_at {ad : Nat → Nat} {ls : Array Slot} {nL : Nat} {L : List (Option Value)} {n : Nat} (h : aLo ad ls nL L n) {i : Nat} {v : Value} (hi : L[i]? = some (some v)) : ls[i]? = some (.val (aRe ad v)) ∧ aSc n v :=
  ⟨h.1.2.2 (i, aRe ad v) (aL2_mem.mpr ⟨v, hi, rfl⟩), h.2.2 v (List.mem_of_getElem? hi)⟩
theorem aLo_ad {ad ad' : Nat → Nat} {ls : Array Slot} {nL : Nat} {L : List (Option Value)} {n n' : Nat} (h : aLo ad ls nL L n) (hn : n ≤ n') (he : ∀ i, i < n → ad' i = ad i) : aLo ad' ls nL L n' := by
  refine ⟨lv_less h.1 ?_, h.2.1, fun v hv => aSc_mono hn (h.2.2 v hv)⟩
  rintro ⟨j, w⟩ hq
  obtain ⟨v, h1, h2⟩ := aL2_mem.mp hq
  exact aL2_mem.mpr ⟨v, h1, by rw [h2, aRe_eq he (h.2.2 v (List.mem_of_getElem? h1))]⟩
def aWide (L : List (Option Value)) : Nat → Bool
  | 0 => false
  | i + 1 => match L[i]? with
    | some (some (.long _)) => true
    | some (some (.double _)) => true
    | _ => false
def aSto1 (L : List (Option Value)) (i : Nat) (v : Value) : Option (List (Option Value)) := match Nat.blt i L.length && !(aWide L i) with
  | true => some (L.set i (some v))
  | false => none
def aSto2 (L : List (Option Value)) (i : Nat) (v : Value) : Option (List (Option Value)) := match Nat.blt (i + 1) L.length && !(aWide L i) with
  | true => some ((L.set i (some v)).set (i + 1) none)
  | false => none
theorem aWide_no {L : List (Option Value)} {i j : Nat} {w : Value} (h : aWide L i = false) (hj : j + 1 = i) (hw : L[j]? = some (some w)) : ¬ w.category = 2 := by
  subst hj
  simp only [aWide, hw] at h
  intro hc
  cases w <;> simp_all [Value.category]
theorem aRe_cat (ad : Nat → Nat) (v : Value) : (aRe ad v).category = v.category := by cases v <;> rfl
theorem aSto1_spec {L L' : List (Option Value)} {i : Nat} {v : Value} (h : aSto1 L i v = some L') : i < L.length ∧ aWide L i = false ∧ L' = L.set i (some v) := by
  unfold aSto1 at h
  split at h
  · rename_i hb
    simp only [Bool.and_eq_true, Bool.not_eq_true', Nat.blt_eq] at hb
    exact ⟨hb.1, hb.2, (Option.some.inj h).symm⟩
  · cases h
theorem aSto2_spec {L L' : List (Option Value)} {i : Nat} {v : Value} (h : aSto2 L i v = some L') : i + 1 < L.length ∧ aWide L i = false ∧ L' = (L.set i (some v)).set (i + 1) none := by
  unfold aSto2 at h
  split at h
  · rename_i hb
    simp only [Bool.and_eq_true, Bool.not_eq_true', Nat.blt_eq] at hb
    exact ⟨hb.1, hb.2, (Option.some.inj h).symm⟩
  · cases h
theorem aLo_sto1 {ad : Nat → Nat} {ls' : Array Slot} {nL n i : Nat} {L L' : List (Option Value)} {v : Value} (h : aSto1 L i v = some L') (hl : L.length = nL) (hsc : ∀ v, some v ∈ L → aSc n v) (hv : aSc n v)
    (h' : lv_has ls' nL ((i, aRe ad v) :: (aL2 ad L).filter (fun q => !(q.1 == i) && !(q.1 + 1 == i && q.2.category == 2)))) : aLo ad ls' nL L' n := by
  obtain ⟨h1, h2, rfl⟩ := aSto1_spec h
  refine ⟨lv_less h' ?_, by rw [List.length_set]; exact hl, fun w hw => ?_⟩
  · rintro ⟨j, w⟩ hq
    obtain ⟨u, g1, g2⟩ := aL2_mem.mp hq
    rw [List.getElem?_set] at g1
    by_cases e : i = j
    · subst e
      rw [if_pos rfl, if_pos h1] at g1
      cases g1
      rw [g2]
      exact List.mem_cons_self
    · rw [if_neg e] at g1
      refine List.mem_cons_of_mem _ (List.mem_filter.mpr ⟨aL2_mem.mpr ⟨u, g1, g2⟩, ?_⟩)
      have e1 : ¬ j = i := fun z => e z.symm
      by_cases e2 : j + 1 = i
      · have e3 := aWide_no h2 e2 g1
        rw [g2]
        simp [e1, aRe_cat, e3]
      · simp [e1, e2]
  · rcases List.mem_or_eq_of_mem_set hw with g | g
    · exact hsc w g
    · cases g; exact hv
theorem aLo_sto2 {ad : Nat → Nat} {ls' : Array Slot} {nL n i : Nat} {L L' : List (Option Value)} {v : Value} (h : aSto2 L i v = some L') (hl : L.length = nL) (hsc : ∀ v, some v ∈ L → aSc n v) (hv : aSc n v)
    (h' : lv_has ls' nL ((i, aRe ad v) :: (aL2 ad L).filter (fun q => !(q.1 == i) && (!(q.1 == i + 1) && !(q.1 + 1 == i && q.2.category == 2))))) : aLo ad ls' nL L' n := by
  obtain ⟨h1, h2, rfl⟩ := aSto2_spec h
  refine ⟨lv_less h' ?_, by rw [List.length_set, List.length_set]; exact hl, fun w hw => ?_⟩
  · rintro ⟨j, w⟩ hq
    obtain ⟨u, g1, g2⟩ := aL2_mem.mp hq
    rw [List.getElem?_set, List.length_set] at g1
    by_cases e0 : i + 1 = j
    · subst e0
      rw [if_pos rfl, if_pos h1] at g1
      cases g1
    · rw [if_neg e0, List.getElem?_set] at g1
      by_cases e : i = j
      · subst e
        rw [if_pos rfl, if_pos (by omega)] at g1
        cases g1
        rw [g2]
        exact List.mem_cons_self
      · rw [if_neg e] at g1
        refine List.mem_cons_of_mem _ (List.mem_filter.mpr ⟨aL2_mem.mpr ⟨u, g1, g2⟩, ?_⟩)
        have e1 : ¬ j = i := fun z => e z.symm
        have e4 : ¬ j = i + 1 := fun z => e0 z.symm
        by_cases e2 : j + 1 = i
        · have e3 := aWide_no h2 e2 g1
          rw [g2]
          simp [e1, e4, aRe_cat, e3]
        · simp [e1, e2, e4]
  · rcases List.mem_or_eq_of_mem_set hw with g | g
    · rcases List.mem_or_eq_of_mem_set g with g | g
      · exact hsc w g
      · cases g; exact hv
    · cases g
/-! the standing of a method; its end -/
def aRet (cc : ByteArray) (rt : Option FieldType) (pc : Nat) (v : Option Value) : Prop :=
  (v = none ∧ rt = none ∧ decode cc pc = .ok (.return_, 1)) ∨ (∃ x ty, v = some (.int x) ∧ rt = some ty ∧ narrow ty (.int x) = .int x ∧ decode cc pc = .ok (.ireturn, 1)) ∨ (∃ x, v = some (.long x) ∧ rt = some .long ∧ decode cc pc = .ok (.lreturn, 1)) ∨ ((v = some .null ∨ ∃ i, v = some (.ref i)) ∧ (∃ z, rt = some (.object z)) ∧ decode cc pc = .ok (.areturn, 1))
def aR (R : Room) (lv mc ms : Nat) : Prop := lv ≤ R.frames ∧ 60 * lv + 20 ≤ R.locals ∧ mc ≤ R.cells ∧ ms ≤ R.slots
def aCx (D : va_G) (cI cM : ClassId) (p : Program) (l : Launch) (e : Env) (R : Room) (s : State) (m : MethodId) (args : Array Value) (below : List Frame) (meth : Method) (c : Code) (A : Nat → Prop) (Q : State → Prop) (ad0 : Nat → Nat) (n0 : Nat) (Y : MethodName) (cc : ByteArray) (nL : Nat) (rt : Option FieldType) (lv mc ms : Nat) (post : Option Value → aH → Prop) : Prop :=
  p.tables.exec = Jvm.exec ∧ c.code = cc ∧ c.maxLocals = nL ∧ s.vm.findClass Y.cls = some m.cls ∧ (∀ w ∈ aWd, w.before args s = true) ∧ meth.name = Y.name ∧ aK D cI cM s ∧ (∀ q, s.heap.size ≤ q → A q) ∧ aR R lv mc ms ∧
  ∀ {H : Heap} {locs : List Loc} {ls : Array Slot} {ad : Nat → Nat} {σ : aH} {k n pc : Nat} {v : Option Value}, post v σ → k ≤ mc → n ≤ ms → aSt D cI cM A s.heap ad0 n0 H locs ad σ → (∀ w, v = some w → aSc σ.length w) → aRet cc rt pc v → W p l e R s m args below meth c H locs k n Q (F0 m pc ls (v.toList.map (aRe ad)))
/-- the judgement: from this frame and heap the method ends with 'post' -/
def G (Y : MethodName) (cc : ByteArray) (nL : Nat) (rt : Option FieldType) (lv mc ms : Nat) (post : Option Value → aH → Prop) (k n pc : Nat) (L : List (Option Value)) (S : List Value) (σ : aH) : Prop :=
  ∀ (D : va_G) (cI cM : ClassId) (p : Program) (l : Launch) (e : Env) (R : Room) (s : State) (m : MethodId) (args : Array Value) (below : List Frame) (meth : Method) (c : Code) (A : Nat → Prop) (Q : State → Prop) (ad0 : Nat → Nat) (n0 : Nat) (H : Heap) (locs : List Loc) (ls : Array Slot) (ad : Nat → Nat),
    aCx D cI cM p l e R s m args below meth c A Q ad0 n0 Y cc nL rt lv mc ms post → aSt D cI cM A s.heap ad0 n0 H locs ad σ → aLo ad ls nL L σ.length → (∀ v ∈ S, aSc σ.length v) → W p l e R s m args below meth c H locs k n Q (F0 m pc ls (S.map (aRe ad)))
theorem G.use {Y : MethodName} {cc : ByteArray} {nL : Nat} {rt : Option FieldType} {lv mc ms : Nat} {post : Option Value → aH → Prop} {k n pc : Nat} {L : List (Option Value)} {S : List Value} {σ : aH} (h : G Y cc nL rt lv mc ms post k n pc L S σ) {D : va_G} {cI cM : ClassId} {p : Program} {l : Launch} {e : Env} {R : Room} {s : State} {m : MethodId} {args : Array Value} {below : List Frame} {meth : Method} {c : Code} {A : Nat → Prop} {Q : State → Prop} {ad0 : Nat → Nat} {n0 : Nat} {H : Heap} {locs : List Loc} {ls : Array Slot} {ad : Nat → Nat} (C : aCx D cI cM p l e R s m args below meth c A Q ad0 n0 Y cc nL rt lv mc ms post) (X : aSt D cI cM A s.heap ad0 n0 H locs ad σ) (hl : aLo ad ls nL L σ.length) (hS : ∀ v ∈ S, aSc σ.length v) : W p l e R s m args below meth c H locs k n Q (F0 m pc ls (S.map (aRe ad))) := h D cI cM p l e R s m args below meth c A Q ad0 n0 H locs ls ad C X hl hS
section AR
variable {Y : MethodName} {cc : ByteArray} {nL : Nat} {rt : Option FieldType} {lv mc ms : Nat} {post : Option Value → aH → Prop} {k n pc pc' tgt : Nat} {L L' : List (Option Value)} {S : List Value} {σ : aH}
theorem aS1 {N : Nat} {a : Value} (h : ∀ v ∈ a :: S, aSc N v) : ∀ v ∈ S, aSc N v := fun v hv => h v (List.mem_cons_of_mem _ hv)
theorem aS2 {N : Nat} {a b : Value} (h : ∀ v ∈ a :: b :: S, aSc N v) : ∀ v ∈ S, aSc N v := fun v hv => h v (List.mem_cons_of_mem _ (List.mem_cons_of_mem _ hv))
theorem aS3 {N : Nat} {a b c : Value} (h : ∀ v ∈ a :: b :: c :: S, aSc N v) : ∀ v ∈ S, aSc N v := fun v hv => h v (List.mem_cons_of_mem _ (List.mem_cons_of_mem _ (List.mem_cons_of_mem _ hv)))
theorem aSC {N : Nat} {a : Value} (ha : aSc N a) (h : ∀ v ∈ S, aSc N v) : ∀ v ∈ a :: S, aSc N v := List.forall_mem_cons.mpr ⟨ha, h⟩
theorem aSI {N : Nat} {x : Int32} (h : ∀ v ∈ S, aSc N v) : ∀ v ∈ Value.int x :: S, aSc N v := aSC aSc_int h
theorem aSJ {N : Nat} {x : Int64} (h : ∀ v ∈ S, aSc N v) : ∀ v ∈ Value.long x :: S, aSc N v := aSC aSc_long h
/-! decoded instructions, by what they do -/
def aPI (cc : ByteArray) (pc : Nat) (v : Int32) (pc' : Nat) : Prop := (∃ n : Int, decode cc pc = .ok (.iconst n, 1) ∧ Int32.ofInt n = v ∧ pc + 1 = pc') ∨ (∃ n : Int, decode cc pc = .ok (.bipush n, 2) ∧ (Int8.ofInt n).toInt32 = v ∧ pc + 2 = pc') ∨ (∃ n : Int, decode cc pc = .ok (.sipush n, 3) ∧ (Int16.ofInt n).toInt32 = v ∧ pc + 3 = pc')
def aIL (cc : ByteArray) (pc i pc' : Nat) : Prop := (∃ k : Fin 4, decode cc pc = .ok (.iload_n k, 1) ∧ (k : Nat) = i ∧ pc + 1 = pc') ∨ (decode cc pc = .ok (.iload i, 2) ∧ pc + 2 = pc')
def aAL (cc : ByteArray) (pc i pc' : Nat) : Prop := (∃ k : Fin 4, decode cc pc = .ok (.aload_n k, 1) ∧ (k : Nat) = i ∧ pc + 1 = pc') ∨ (decode cc pc = .ok (.aload i, 2) ∧ pc + 2 = pc')
def aLL (cc : ByteArray) (pc i pc' : Nat) : Prop := (∃ k : Fin 4, decode cc pc = .ok (.lload_n k, 1) ∧ (k : Nat) = i ∧ pc + 1 = pc') ∨ (decode cc pc = .ok (.lload i, 2) ∧ pc + 2 = pc')
def aIS (cc : ByteArray) (pc i pc' : Nat) : Prop := (∃ k : Fin 4, decode cc pc = .ok (.istore_n k, 1) ∧ (k : Nat) = i ∧ pc + 1 = pc') ∨ (decode cc pc = .ok (.istore i, 2) ∧ pc + 2 = pc')
def aAS (cc : ByteArray) (pc i pc' : Nat) : Prop := (∃ k : Fin 4, decode cc pc = .ok (.astore_n k, 1) ∧ (k : Nat) = i ∧ pc + 1 = pc') ∨ (decode cc pc = .ok (.astore i, 2) ∧ pc + 2 = pc')
def aLS (cc : ByteArray) (pc i pc' : Nat) : Prop := (∃ k : Fin 4, decode cc pc = .ok (.lstore_n k, 1) ∧ (k : Nat) = i ∧ pc + 1 = pc') ∨ (decode cc pc = .ok (.lstore i, 2) ∧ pc + 2 = pc')
def aII (cc : ByteArray) (pc i : Nat) (v : Int32) (pc' : Nat) : Prop := ∃ n : Int, decode cc pc = .ok (.iinc i n, 3) ∧ Int32.ofInt n = v ∧ pc + 3 = pc'
def aI1 (cc : ByteArray) (pc : Nat) (i : Instr) (pc' : Nat) : Prop := decode cc pc = .ok (i, 1) ∧ pc + 1 = pc'
def aI2 (cc : ByteArray) (pc : Nat) (i : Instr) (pc' : Nat) : Prop := decode cc pc = .ok (i, 2) ∧ pc + 2 = pc'
def aI3 (cc : ByteArray) (pc : Nat) (i : Instr) (pc' : Nat) : Prop := decode cc pc = .ok (i, 3) ∧ pc + 3 = pc'
def aLd (cc : ByteArray) (pc i pc' : Nat) : Prop := (decode cc pc = .ok (.ldc i, 2) ∧ pc + 2 = pc') ∨ (decode cc pc = .ok (.ldc_w i, 3) ∧ pc + 3 = pc')
def aGo (cc : ByteArray) (pc tgt : Nat) : Prop := ∃ off : Int, decode cc pc = .ok (.goto off, 3) ∧ (pc : Int) + off = (tgt : Int)
theorem g_push {v : Int32} (hd : aPI cc pc v pc') (kk : G Y cc nL rt lv mc ms post k n pc' L (.int v :: S) σ) : G Y cc nL rt lv mc ms post k n pc L S σ := by
  intro D cI cM p l e R s m args below meth c A Q ad0 n0 H locs ls ad C X hl hS
  rcases hd with ⟨z, h1, h2, rfl⟩ | ⟨z, h1, h2, rfl⟩ | ⟨z, h1, h2, rfl⟩
  · exact lv_iconst C.1 C.2.1 h1 h2 (kk.use C X hl (aSI hS))
  · exact lv_bipush C.1 C.2.1 h1 h2 (kk.use C X hl (aSI hS))
  · exact lv_sipush C.1 C.2.1 h1 h2 (kk.use C X hl (aSI hS))
theorem g_lconst {z : Fin 2} {v : Int64} (hd : aI1 cc pc (.lconst z) pc') (hv : Int64.ofNat (z : Nat) = v) (kk : G Y cc nL rt lv mc ms post k n pc' L (.long v :: S) σ) : G Y cc nL rt lv mc ms post k n pc L S σ := by
  intro D cI cM p l e R s m args below meth c A Q ad0 n0 H locs ls ad C X hl hS
  obtain ⟨hd, rfl⟩ := hd
  exact lv_lconst C.1 C.2.1 hd hv (kk.use C X hl (aSJ hS))
theorem g_ldc {i : Nat} {v : Int32} (hd : aLd cc pc i pc') (hw : Cond.constant Y.cls i v ∈ aWd) (kk : G Y cc nL rt lv mc ms post k n pc' L (.int v :: S) σ) : G Y cc nL rt lv mc ms post k n pc L S σ := by
  intro D cI cM p l e R s m args below meth c A Q ad0 n0 H locs ls ad C X hl hS
  have ho := C.2.2.2.1
  have hw := C.2.2.2.2.1 _ hw
  rcases hd with ⟨h1, rfl⟩ | ⟨h1, rfl⟩
  · exact lv_ldc C.1 C.2.1 ho hw h1 (kk.use C X hl (aSI hS))
  · exact lv_ldcw C.1 C.2.1 ho hw h1 (kk.use C X hl (aSI hS))
theorem g_ldc2 {i : Nat} {v : Int64} (hd : aI3 cc pc (.ldc2_w i) pc') (hw : Cond.constantLong Y.cls i v ∈ aWd) (kk : G Y cc nL rt lv mc ms post k n pc' L (.long v :: S) σ) : G Y cc nL rt lv mc ms post k n pc L S σ := by
  intro D cI cM p l e R s m args below meth c A Q ad0 n0 H locs ls ad C X hl hS
  obtain ⟨hd, rfl⟩ := hd
  exact lv_ldc2 C.1 C.2.1 C.2.2.2.1 (C.2.2.2.2.1 _ hw) hd (kk.use C X hl (aSJ hS))
theorem g_iload {i : Nat} {x : Int32} (hd : aIL cc pc i pc') (hi : L[i]? = some (some (.int x))) (kk : G Y cc nL rt lv mc ms post k n pc' L (.int x :: S) σ) : G Y cc nL rt lv mc ms post k n pc L S σ := by
  intro D cI cM p l e R s m args below meth c A Q ad0 n0 H locs ls ad C X hl hS
  have hs := (aLo_at hl hi).1
  rcases hd with ⟨z, h1, h2, rfl⟩ | ⟨h1, rfl⟩
  · exact lv_iload_n C.1 C.2.1 h1 h2 hs (kk.use C X hl (aSI hS))
  · exact lv_iload C.1 C.2.1 h1 hs (kk.use C X hl (aSI hS))
theorem g_lload {i : Nat} {x : Int64} (hd : aLL cc pc i pc') (hi : L[i]? = some (some (.long x))) (kk : G Y cc nL rt lv mc ms post k n pc' L (.long x :: S) σ) : G Y cc nL rt lv mc ms post k n pc L S σ := by
  intro D cI cM p l e R s m args below meth c A Q ad0 n0 H locs ls ad C X hl hS
  have hs := (aLo_at hl hi).1
  rcases hd with ⟨z, h1, h2, rfl⟩ | ⟨h1, rfl⟩
  · exact lv_lload_n C.1 C.2.1 h1 h2 hs (kk.use C X hl (aSJ hS))
  · exact lv_lload C.1 C.2.1 h1 hs (kk.use C X hl (aSJ hS))
theorem g_aload {i a : Nat} (hd : aAL cc pc i pc') (hi : L[i]? = some (some (.ref a))) (kk : G Y cc nL rt lv mc ms post k n pc' L (.ref a :: S) σ) : G Y cc nL rt lv mc ms post k n pc L S σ := by
  intro D cI cM p l e R s m args below meth c A Q ad0 n0 H locs ls ad C X hl hS
  obtain ⟨hs, hv⟩ := aLo_at hl hi
  rcases hd with ⟨z, h1, h2, rfl⟩ | ⟨h1, rfl⟩
  · exact lv_aload_n C.1 C.2.1 h1 h2 hs (kk.use C X hl (aSC hv hS))
  · exact lv_aload C.1 C.2.1 h1 hs (kk.use C X hl (aSC hv hS))
theorem g_aloadN {i : Nat} (hd : aAL cc pc i pc') (hi : L[i]? = some (some .null)) (kk : G Y cc nL rt lv mc ms post k n pc' L (.null :: S) σ) : G Y cc nL rt lv mc ms post k n pc L S σ := by
  intro D cI cM p l e R s m args below meth c A Q ad0 n0 H locs ls ad C X hl hS
  obtain ⟨hs, hv⟩ := aLo_at hl hi
  rcases hd with ⟨z, h1, h2, rfl⟩ | ⟨h1, rfl⟩
  · exact lv_aload_nN C.1 C.2.1 h1 h2 hs (kk.use C X hl (aSC hv hS))
  · exact lv_aloadN C.1 C.2.1 h1 hs (kk.use C X hl (aSC hv hS))
theorem g_istore {i : Nat} {x : Int32} (hd : aIS cc pc i pc') (hi : aSto1 L i (.int x) = some L') (kk : G Y cc nL rt lv mc ms post k n pc' L' S σ) : G Y cc nL rt lv mc ms post k n pc L (.int x :: S) σ := by
  intro D cI cM p l e R s m args below meth c A Q ad0 n0 H locs ls ad C X hl hS
  have hlt := (aSto1_spec hi).1
  have hll := hl.2.1
  have hv : aSc σ.length (.int x) := aSc_int
  rcases hd with ⟨z, h1, h2, rfl⟩ | ⟨h1, rfl⟩
  · exact lv_istore_n C.1 C.2.1 h1 h2 hl.1 (by omega) rfl (fun ls' h' => kk.use C X (aLo_sto1 hi hll hl.2.2 hv h') (aS1 hS))
  · exact lv_istore C.1 C.2.1 h1 hl.1 (by omega) rfl (fun ls' h' => kk.use C X (aLo_sto1 hi hll hl.2.2 hv h') (aS1 hS))
theorem g_lstore {i : Nat} {x : Int64} (hd : aLS cc pc i pc') (hi : aSto2 L i (.long x) = some L') (kk : G Y cc nL rt lv mc ms post k n pc' L' S σ) : G Y cc nL rt lv mc ms post k n pc L (.long x :: S) σ := by
  intro D cI cM p l e R s m args below meth c A Q ad0 n0 H locs ls ad C X hl hS
  have hlt := (aSto2_spec hi).1
  have hll := hl.2.1
  have hv : aSc σ.length (.long x) := aSc_long
  rcases hd with ⟨z, h1, h2, rfl⟩ | ⟨h1, rfl⟩
  · exact lv_lstore_n C.1 C.2.1 h1 h2 hl.1 (by omega) rfl (fun ls' h' => kk.use C X (aLo_sto2 hi hll hl.2.2 hv h') (aS1 hS))
  · exact lv_lstore C.1 C.2.1 h1 hl.1 (by omega) rfl (fun ls' h' => kk.use C X (aLo_sto2 hi hll hl.2.2 hv h') (aS1 hS))
theorem g_astore {i : Nat} {a : Nat} (hd : aAS cc pc i pc') (hi : aSto1 L i (.ref a) = some L') (kk : G Y cc nL rt lv mc ms post k n pc' L' S σ) : G Y cc nL rt lv mc ms post k n pc L (.ref a :: S) σ := by
  intro D cI cM p l e R s m args below meth c A Q ad0 n0 H locs ls ad C X hl hS
  have hlt := (aSto1_spec hi).1
  have hll := hl.2.1
  have hv : aSc σ.length (.ref a) := hS _ List.mem_cons_self
  rcases hd with ⟨z, h1, h2, rfl⟩ | ⟨h1, rfl⟩
  · exact lv_astore_n C.1 C.2.1 h1 h2 hl.1 (by omega) rfl (fun ls' h' => kk.use C X (aLo_sto1 hi hll hl.2.2 hv h') (aS1 hS))
  · exact lv_astore C.1 C.2.1 h1 hl.1 (by omega) rfl (fun ls' h' => kk.use C X (aLo_sto1 hi hll hl.2.2 hv h') (aS1 hS))
theorem g_astoreN {i : Nat} (hd : aAS cc pc i pc') (hi : aSto1 L i (.null) = some L') (kk : G Y cc nL rt lv mc ms post k n pc' L' S σ) : G Y cc nL rt lv mc ms post k n pc L (.null :: S) σ := by
  intro D cI cM p l e R s m args below meth c A Q ad0 n0 H locs ls ad C X hl hS
  have hlt := (aSto1_spec hi).1
  have hll := hl.2.1
  have hv : aSc σ.length (.null) := aSc_null
  rcases hd with ⟨z, h1, h2, rfl⟩ | ⟨h1, rfl⟩
  · exact lv_astore_nN C.1 C.2.1 h1 h2 hl.1 (by omega) rfl (fun ls' h' => kk.use C X (aLo_sto1 hi hll hl.2.2 hv h') (aS1 hS))
  · exact lv_astoreN C.1 C.2.1 h1 hl.1 (by omega) rfl (fun ls' h' => kk.use C X (aLo_sto1 hi hll hl.2.2 hv h') (aS1 hS))
theorem g_iinc {i : Nat} {x v : Int32} (hd : aII cc pc i v pc') (hx : L[i]? = some (some (.int x))) (hi : aSto1 L i (.int (x + v)) = some L') (kk : G Y cc nL rt lv mc ms post k n pc' L' S σ) : G Y cc nL rt lv mc ms post k n pc L S σ := by
  intro D cI cM p l e R s m args below meth c A Q ad0 n0 H locs ls ad C X hl hS
  obtain ⟨z, h1, rfl, rfl⟩ := hd
  have hlt := (aSto1_spec hi).1
  have hll := hl.2.1
  obtain ⟨q, hq⟩ := List.getElem?_of_mem (aL2_mem (ad := ad).mpr ⟨.int x, hx, rfl⟩)
  exact lv_iinc C.1 C.2.1 h1 hl.1 hq rfl (by omega) rfl (fun ls' h' => kk.use C X (aLo_sto1 hi hll hl.2.2 aSc_int h') hS)
theorem g_iadd {x y : Int32} (hd : aI1 cc pc .iadd pc') (kk : G Y cc nL rt lv mc ms post k n pc' L (.int (x + y) :: S) σ) : G Y cc nL rt lv mc ms post k n pc L (.int y :: .int x :: S) σ := by
  intro D cI cM p l e R s m args below meth c A Q ad0 n0 H locs ls ad C X hl hS
  obtain ⟨hd, rfl⟩ := hd
  exact lv_iadd C.1 C.2.1 hd (kk.use C X hl (aSI (aS2 hS)))
theorem g_isub {x y : Int32} (hd : aI1 cc pc .isub pc') (kk : G Y cc nL rt lv mc ms post k n pc' L (.int (x - y) :: S) σ) : G Y cc nL rt lv mc ms post k n pc L (.int y :: .int x :: S) σ := by
  intro D cI cM p l e R s m args below meth c A Q ad0 n0 H locs ls ad C X hl hS
  obtain ⟨hd, rfl⟩ := hd
  exact lv_isub C.1 C.2.1 hd (kk.use C X hl (aSI (aS2 hS)))
theorem g_imul {x y : Int32} (hd : aI1 cc pc .imul pc') (kk : G Y cc nL rt lv mc ms post k n pc' L (.int (x * y) :: S) σ) : G Y cc nL rt lv mc ms post k n pc L (.int y :: .int x :: S) σ := by
  intro D cI cM p l e R s m args below meth c A Q ad0 n0 H locs ls ad C X hl hS
  obtain ⟨hd, rfl⟩ := hd
  exact lv_imul C.1 C.2.1 hd (kk.use C X hl (aSI (aS2 hS)))
theorem g_iand {x y : Int32} (hd : aI1 cc pc .iand pc') (kk : G Y cc nL rt lv mc ms post k n pc' L (.int (x &&& y) :: S) σ) : G Y cc nL rt lv mc ms post k n pc L (.int y :: .int x :: S) σ := by
  intro D cI cM p l e R s m args below meth c A Q ad0 n0 H locs ls ad C X hl hS
  obtain ⟨hd, rfl⟩ := hd
  exact lv_iand C.1 C.2.1 hd (kk.use C X hl (aSI (aS2 hS)))
theorem g_ior {x y : Int32} (hd : aI1 cc pc .ior pc') (kk : G Y cc nL rt lv mc ms post k n pc' L (.int (x ||| y) :: S) σ) : G Y cc nL rt lv mc ms post k n pc L (.int y :: .int x :: S) σ := by
  intro D cI cM p l e R s m args below meth c A Q ad0 n0 H locs ls ad C X hl hS
  obtain ⟨hd, rfl⟩ := hd
  exact lv_ior C.1 C.2.1 hd (kk.use C X hl (aSI (aS2 hS)))
theorem g_ixor {x y : Int32} (hd : aI1 cc pc .ixor pc') (kk : G Y cc nL rt lv mc ms post k n pc' L (.int (x ^^^ y) :: S) σ) : G Y cc nL rt lv mc ms post k n pc L (.int y :: .int x :: S) σ := by
  intro D cI cM p l e R s m args below meth c A Q ad0 n0 H locs ls ad C X hl hS
  obtain ⟨hd, rfl⟩ := hd
  exact lv_ixor C.1 C.2.1 hd (kk.use C X hl (aSI (aS2 hS)))
theorem g_ishl {x y : Int32} (hd : aI1 cc pc .ishl pc') (kk : G Y cc nL rt lv mc ms post k n pc' L (.int (x <<< (y &&& 31)) :: S) σ) : G Y cc nL rt lv mc ms post k n pc L (.int y :: .int x :: S) σ := by
  intro D cI cM p l e R s m args below meth c A Q ad0 n0 H locs ls ad C X hl hS
  obtain ⟨hd, rfl⟩ := hd
  exact lv_ishl C.1 C.2.1 hd (kk.use C X hl (aSI (aS2 hS)))
theorem g_ishr {x y : Int32} (hd : aI1 cc pc .ishr pc') (kk : G Y cc nL rt lv mc ms post k n pc' L (.int (x >>> (y &&& 31)) :: S) σ) : G Y cc nL rt lv mc ms post k n pc L (.int y :: .int x :: S) σ := by
  intro D cI cM p l e R s m args below meth c A Q ad0 n0 H locs ls ad C X hl hS
  obtain ⟨hd, rfl⟩ := hd
  exact lv_ishr C.1 C.2.1 hd (kk.use C X hl (aSI (aS2 hS)))
theorem g_idiv {x y : Int32} (hd : aI1 cc pc .idiv pc') (hy : ¬ y = 0) (kk : G Y cc nL rt lv mc ms post k n pc' L (.int (x / y) :: S) σ) : G Y cc nL rt lv mc ms post k n pc L (.int y :: .int x :: S) σ := by
  intro D cI cM p l e R s m args below meth c A Q ad0 n0 H locs ls ad C X hl hS
  obtain ⟨hd, rfl⟩ := hd
  exact lv_idiv C.1 C.2.1 hd hy (kk.use C X hl (aSI (aS2 hS)))
theorem g_irem {x y : Int32} (hd : aI1 cc pc .irem pc') (hy : ¬ y = 0) (kk : G Y cc nL rt lv mc ms post k n pc' L (.int (x - x / y * y) :: S) σ) : G Y cc nL rt lv mc ms post k n pc L (.int y :: .int x :: S) σ := by
  intro D cI cM p l e R s m args below meth c A Q ad0 n0 H locs ls ad C X hl hS
  obtain ⟨hd, rfl⟩ := hd
  exact lv_irem C.1 C.2.1 hd hy (kk.use C X hl (aSI (aS2 hS)))
theorem g_iushr {x y : Int32} (hd : aI1 cc pc .iushr pc') (kk : G Y cc nL rt lv mc ms post k n pc' L (.int ((x.toUInt32 >>> (y.toUInt32 &&& Int32.toUInt32 31)).toInt32) :: S) σ) : G Y cc nL rt lv mc ms post k n pc L (.int y :: .int x :: S) σ := by
  intro D cI cM p l e R s m args below meth c A Q ad0 n0 H locs ls ad C X hl hS
  obtain ⟨hd, rfl⟩ := hd
  exact lv_iushr C.1 C.2.1 hd rfl (kk.use C X hl (aSI (aS2 hS)))
theorem g_ladd {x y : Int64} (hd : aI1 cc pc .ladd pc') (kk : G Y cc nL rt lv mc ms post k n pc' L (.long (x + y) :: S) σ) : G Y cc nL rt lv mc ms post k n pc L (.long y :: .long x :: S) σ := by
  intro D cI cM p l e R s m args below meth c A Q ad0 n0 H locs ls ad C X hl hS
  obtain ⟨hd, rfl⟩ := hd
  exact lv_ladd C.1 C.2.1 hd (kk.use C X hl (aSJ (aS2 hS)))
theorem g_lmul {x y : Int64} (hd : aI1 cc pc .lmul pc') (kk : G Y cc nL rt lv mc ms post k n pc' L (.long (x * y) :: S) σ) : G Y cc nL rt lv mc ms post k n pc L (.long y :: .long x :: S) σ := by
  intro D cI cM p l e R s m args below meth c A Q ad0 n0 H locs ls ad C X hl hS
  obtain ⟨hd, rfl⟩ := hd
  exact lv_lmul C.1 C.2.1 hd (kk.use C X hl (aSJ (aS2 hS)))
theorem g_land {x y : Int64} (hd : aI1 cc pc .land pc') (kk : G Y cc nL rt lv mc ms post k n pc' L (.long (x &&& y) :: S) σ) : G Y cc nL rt lv mc ms post k n pc L (.long y :: .long x :: S) σ := by
  intro D cI cM p l e R s m args below meth c A Q ad0 n0 H locs ls ad C X hl hS
  obtain ⟨hd, rfl⟩ := hd
  exact lv_land C.1 C.2.1 hd (kk.use C X hl (aSJ (aS2 hS)))
theorem g_lcmp {x y : Int64} (hd : aI1 cc pc .lcmp pc') (kk : G Y cc nL rt lv mc ms post k n pc' L (.int (lg_cmp x y) :: S) σ) : G Y cc nL rt lv mc ms post k n pc L (.long y :: .long x :: S) σ := by
  intro D cI cM p l e R s m args below meth c A Q ad0 n0 H locs ls ad C X hl hS
  obtain ⟨hd, rfl⟩ := hd
  exact W.lcmp C.1 C.2.1 hd (kk.use C X hl (aSI (aS2 hS)))
theorem g_i2l {x : Int32} (hd : aI1 cc pc .i2l pc') (kk : G Y cc nL rt lv mc ms post k n pc' L (.long x.toInt64 :: S) σ) : G Y cc nL rt lv mc ms post k n pc L (.int x :: S) σ := by
  intro D cI cM p l e R s m args below meth c A Q ad0 n0 H locs ls ad C X hl hS
  obtain ⟨hd, rfl⟩ := hd
  exact lv_i2l C.1 C.2.1 hd rfl (kk.use C X hl (aSJ (aS1 hS)))
theorem g_l2i {x : Int64} (hd : aI1 cc pc .l2i pc') (kk : G Y cc nL rt lv mc ms post k n pc' L (.int x.toInt32 :: S) σ) : G Y cc nL rt lv mc ms post k n pc L (.long x :: S) σ := by
  intro D cI cM p l e R s m args below meth c A Q ad0 n0 H locs ls ad C X hl hS
  obtain ⟨hd, rfl⟩ := hd
  exact lv_l2i C.1 C.2.1 hd rfl (kk.use C X hl (aSI (aS1 hS)))
theorem g_dup {v : Value} (hd : aI1 cc pc .dup pc') (hv : v.category = 1) (kk : G Y cc nL rt lv mc ms post k n pc' L (v :: v :: S) σ) : G Y cc nL rt lv mc ms post k n pc L (v :: S) σ := by
  intro D cI cM p l e R s m args below meth c A Q ad0 n0 H locs ls ad C X hl hS
  obtain ⟨hd, rfl⟩ := hd
  exact lv_dup C.1 C.2.1 hd (by rw [aRe_cat]; exact hv) (kk.use C X hl (aSC (hS v List.mem_cons_self) hS))
theorem g_dup2 {v w : Value} (hd : aI1 cc pc .dup2 pc') (hv : v.category = 1) (hw : w.category = 1) (kk : G Y cc nL rt lv mc ms post k n pc' L (v :: w :: v :: w :: S) σ) : G Y cc nL rt lv mc ms post k n pc L (v :: w :: S) σ := by
  intro D cI cM p l e R s m args below meth c A Q ad0 n0 H locs ls ad C X hl hS
  obtain ⟨hd, rfl⟩ := hd
  exact lv_dup2_11 C.1 C.2.1 hd (by rw [aRe_cat]; exact hv) (by rw [aRe_cat]; exact hw) (kk.use C X hl (aSC (hS v List.mem_cons_self) (aSC (hS w (List.mem_cons_of_mem _ List.mem_cons_self)) hS)))
def aIf_eq (cc : ByteArray) (pc pc' tgt : Nat) : Prop := ∃ off : Int, decode cc pc = .ok (.ifCond .eq off, 3) ∧ pc + 3 = pc' ∧ (pc : Int) + off = (tgt : Int)
theorem g_if_eq {x : Int32} (hd : aIf_eq cc pc pc' tgt) (kt : x = 0 → G Y cc nL rt lv mc ms post k n tgt L S σ) (kf : ¬ x = 0 → G Y cc nL rt lv mc ms post k n pc' L S σ) : G Y cc nL rt lv mc ms post k n pc L (.int x :: S) σ := by
  intro D cI cM p l e R s m args below meth c A Q ad0 n0 H locs ls ad C X hl hS
  obtain ⟨off, hd, rfl, ht⟩ := hd
  exact lv_if_eq C.1 C.2.1 hd ht (fun h => (kt h).use C X hl (aS1 hS)) (fun h => (kf h).use C X hl (aS1 hS))
def aIf_ne (cc : ByteArray) (pc pc' tgt : Nat) : Prop := ∃ off : Int, decode cc pc = .ok (.ifCond .ne off, 3) ∧ pc + 3 = pc' ∧ (pc : Int) + off = (tgt : Int)
theorem g_if_ne {x : Int32} (hd : aIf_ne cc pc pc' tgt) (kt : ¬ x = 0 → G Y cc nL rt lv mc ms post k n tgt L S σ) (kf : x = 0 → G Y cc nL rt lv mc ms post k n pc' L S σ) : G Y cc nL rt lv mc ms post k n pc L (.int x :: S) σ := by
  intro D cI cM p l e R s m args below meth c A Q ad0 n0 H locs ls ad C X hl hS
  obtain ⟨off, hd, rfl, ht⟩ := hd
  exact lv_if_ne C.1 C.2.1 hd ht (fun h => (kt h).use C X hl (aS1 hS)) (fun h => (kf h).use C X hl (aS1 hS))
def aIf_lt (cc : ByteArray) (pc pc' tgt : Nat) : Prop := ∃ off : Int, decode cc pc = .ok (.ifCond .lt off, 3) ∧ pc + 3 = pc' ∧ (pc : Int) + off = (tgt : Int)
theorem g_if_lt {x : Int32} (hd : aIf_lt cc pc pc' tgt) (kt : x < 0 → G Y cc nL rt lv mc ms post k n tgt L S σ) (kf : ¬ x < 0 → G Y cc nL rt lv mc ms post k n pc' L S σ) : G Y cc nL rt lv mc ms post k n pc L (.int x :: S) σ := by
  intro D cI cM p l e R s m args below meth c A Q ad0 n0 H locs ls ad C X hl hS
  obtain ⟨off, hd, rfl, ht⟩ := hd
  exact lv_if_lt C.1 C.2.1 hd ht (fun h => (kt h).use C X hl (aS1 hS)) (fun h => (kf h).use C X hl (aS1 hS))
def aIf_ge (cc : ByteArray) (pc pc' tgt : Nat) : Prop := ∃ off : Int, decode cc pc = .ok (.ifCond .ge off, 3) ∧ pc + 3 = pc' ∧ (pc : Int) + off = (tgt : Int)
theorem g_if_ge {x : Int32} (hd : aIf_ge cc pc pc' tgt) (kt : 0 ≤ x → G Y cc nL rt lv mc ms post k n tgt L S σ) (kf : ¬ 0 ≤ x → G Y cc nL rt lv mc ms post k n pc' L S σ) : G Y cc nL rt lv mc ms post k n pc L (.int x :: S) σ := by
  intro D cI cM p l e R s m args below meth c A Q ad0 n0 H locs ls ad C X hl hS
  obtain ⟨off, hd, rfl, ht⟩ := hd
  exact lv_if_ge C.1 C.2.1 hd ht (fun h => (kt h).use C X hl (aS1 hS)) (fun h => (kf h).use C X hl (aS1 hS))
def aIf_gt (cc : ByteArray) (pc pc' tgt : Nat) : Prop := ∃ off : Int, decode cc pc = .ok (.ifCond .gt off, 3) ∧ pc + 3 = pc' ∧ (pc : Int) + off = (tgt : Int)
theorem g_if_gt {x : Int32} (hd : aIf_gt cc pc pc' tgt) (kt : 0 < x → G Y cc nL rt lv mc ms post k n tgt L S σ) (kf : ¬ 0 < x → G Y cc nL rt lv mc ms post k n pc' L S σ) : G Y cc nL rt lv mc ms post k n pc L (.int x :: S) σ := by
  intro D cI cM p l e R s m args below meth c A Q ad0 n0 H locs ls ad C X hl hS
  obtain ⟨off, hd, rfl, ht⟩ := hd
  exact lv_if_gt C.1 C.2.1 hd ht (fun h => (kt h).use C X hl (aS1 hS)) (fun h => (kf h).use C X hl (aS1 hS))
def aIf_le (cc : ByteArray) (pc pc' tgt : Nat) : Prop := ∃ off : Int, decode cc pc = .ok (.ifCond .le off, 3) ∧ pc + 3 = pc' ∧ (pc : Int) + off = (tgt : Int)
theorem g_if_le {x : Int32} (hd : aIf_le cc pc pc' tgt) (kt : x ≤ 0 → G Y cc nL rt lv mc ms post k n tgt L S σ) (kf : ¬ x ≤ 0 → G Y cc nL rt lv mc ms post k n pc' L S σ) : G Y cc nL rt lv mc ms post k n pc L (.int x :: S) σ := by
  intro D cI cM p l e R s m args below meth c A Q ad0 n0 H locs ls ad C X hl hS
  obtain ⟨off, hd, rfl, ht⟩ := hd
  exact lv_if_le C.1 C.2.1 hd ht (fun h => (kt h).use C X hl (aS1 hS)) (fun h => (kf h).use C X hl (aS1 hS))
def aIc_eq (cc : ByteArray) (pc pc' tgt : Nat) : Prop := ∃ off : Int, decode cc pc = .ok (.if_icmp .eq off, 3) ∧ pc + 3 = pc' ∧ (pc : Int) + off = (tgt : Int)
theorem g_icmp_eq {x y : Int32} (hd : aIc_eq cc pc pc' tgt) (kt : x = y → G Y cc nL rt lv mc ms post k n tgt L S σ) (kf : ¬ x = y → G Y cc nL rt lv mc ms post k n pc' L S σ) : G Y cc nL rt lv mc ms post k n pc L (.int y :: .int x :: S) σ := by
  intro D cI cM p l e R s m args below meth c A Q ad0 n0 H locs ls ad C X hl hS
  obtain ⟨off, hd, rfl, ht⟩ := hd
  exact lv_icmp_eq C.1 C.2.1 hd ht (fun h => (kt h).use C X hl (aS2 hS)) (fun h => (kf h).use C X hl (aS2 hS))
def aIc_ne (cc : ByteArray) (pc pc' tgt : Nat) : Prop := ∃ off : Int, decode cc pc = .ok (.if_icmp .ne off, 3) ∧ pc + 3 = pc' ∧ (pc : Int) + off = (tgt : Int)
theorem g_icmp_ne {x y : Int32} (hd : aIc_ne cc pc pc' tgt) (kt : ¬ x = y → G Y cc nL rt lv mc ms post k n tgt L S σ) (kf : x = y → G Y cc nL rt lv mc ms post k n pc' L S σ) : G Y cc nL rt lv mc ms post k n pc L (.int y :: .int x :: S) σ := by
  intro D cI cM p l e R s m args below meth c A Q ad0 n0 H locs ls ad C X hl hS
  obtain ⟨off, hd, rfl, ht⟩ := hd
  exact lv_icmp_ne C.1 C.2.1 hd ht (fun h => (kt h).use C X hl (aS2 hS)) (fun h => (kf h).use C X hl (aS2 hS))
def aIc_lt (cc : ByteArray) (pc pc' tgt : Nat) : Prop := ∃ off : Int, decode cc pc = .ok (.if_icmp .lt off, 3) ∧ pc + 3 = pc' ∧ (pc : Int) + off = (tgt : Int)
theorem g_icmp_lt {x y : Int32} (hd : aIc_lt cc pc pc' tgt) (kt : x < y → G Y cc nL rt lv mc ms post k n tgt L S σ) (kf : ¬ x < y → G Y cc nL rt lv mc ms post k n pc' L S σ) : G Y cc nL rt lv mc ms post k n pc L (.int y :: .int x :: S) σ := by
  intro D cI cM p l e R s m args below meth c A Q ad0 n0 H locs ls ad C X hl hS
  obtain ⟨off, hd, rfl, ht⟩ := hd
  exact lv_icmp_lt C.1 C.2.1 hd ht (fun h => (kt h).use C X hl (aS2 hS)) (fun h => (kf h).use C X hl (aS2 hS))
def aIc_ge (cc : ByteArray) (pc pc' tgt : Nat) : Prop := ∃ off : Int, decode cc pc = .ok (.if_icmp .ge off, 3) ∧ pc + 3 = pc' ∧ (pc : Int) + off = (tgt : Int)
theorem g_icmp_ge {x y : Int32} (hd : aIc_ge cc pc pc' tgt) (kt : y ≤ x → G Y cc nL rt lv mc ms post k n tgt L S σ) (kf : ¬ y ≤ x → G Y cc nL rt lv mc ms post k n pc' L S σ) : G Y cc nL rt lv mc ms post k n pc L (.int y :: .int x :: S) σ := by
  intro D cI cM p l e R s m args below meth c A Q ad0 n0 H locs ls ad C X hl hS
  obtain ⟨off, hd, rfl, ht⟩ := hd
  exact lv_icmp_ge C.1 C.2.1 hd ht (fun h => (kt h).use C X hl (aS2 hS)) (fun h => (kf h).use C X hl (aS2 hS))
def aIc_gt (cc : ByteArray) (pc pc' tgt : Nat) : Prop := ∃ off : Int, decode cc pc = .ok (.if_icmp .gt off, 3) ∧ pc + 3 = pc' ∧ (pc : Int) + off = (tgt : Int)
theorem g_icmp_gt {x y : Int32} (hd : aIc_gt cc pc pc' tgt) (kt : y < x → G Y cc nL rt lv mc ms post k n tgt L S σ) (kf : ¬ y < x → G Y cc nL rt lv mc ms post k n pc' L S σ) : G Y cc nL rt lv mc ms post k n pc L (.int y :: .int x :: S) σ := by
  intro D cI cM p l e R s m args below meth c A Q ad0 n0 H locs ls ad C X hl hS
  obtain ⟨off, hd, rfl, ht⟩ := hd
  exact lv_icmp_gt C.1 C.2.1 hd ht (fun h => (kt h).use C X hl (aS2 hS)) (fun h => (kf h).use C X hl (aS2 hS))
def aIc_le (cc : ByteArray) (pc pc' tgt : Nat) : Prop := ∃ off : Int, decode cc pc = .ok (.if_icmp .le off, 3) ∧ pc + 3 = pc' ∧ (pc : Int) + off = (tgt : Int)
theorem g_icmp_le {x y : Int32} (hd : aIc_le cc pc pc' tgt) (kt : x ≤ y → G Y cc nL rt lv mc ms post k n tgt L S σ) (kf : ¬ x ≤ y → G Y cc nL rt lv mc ms post k n pc' L S σ) : G Y cc nL rt lv mc ms post k n pc L (.int y :: .int x :: S) σ := by
  intro D cI cM p l e R s m args below meth c A Q ad0 n0 H locs ls ad C X hl hS
  obtain ⟨off, hd, rfl, ht⟩ := hd
  exact lv_icmp_le C.1 C.2.1 hd ht (fun h => (kt h).use C X hl (aS2 hS)) (fun h => (kf h).use C X hl (aS2 hS))
theorem g_goto (hd : aGo cc pc tgt) (kk : G Y cc nL rt lv mc ms post k n tgt L S σ) : G Y cc nL rt lv mc ms post k n pc L S σ := by
  intro D cI cM p l e R s m args below meth c A Q ad0 n0 H locs ls ad C X hl hS
  obtain ⟨off, hd, ht⟩ := hd
  exact lv_goto C.1 C.2.1 hd ht (kk.use C X hl hS)
theorem g_tswOut {dflt lo hi : Int} {offs : Array Int} {len : Nat} {x : Int32} (hd : decode cc pc = .ok (.tableswitch dflt lo hi offs, len)) (h : x.toInt < lo ∨ hi < x.toInt) (ht : (pc : Int) + dflt = (tgt : Int)) (kk : G Y cc nL rt lv mc ms post k n tgt L S σ) : G Y cc nL rt lv mc ms post k n pc L (.int x :: S) σ := by
  intro D cI cM p l e R s m args below meth c A Q ad0 n0 H locs ls ad C X hl hS
  exact lv_tableOut C.1 C.2.1 hd h ht (kk.use C X hl (aS1 hS))
theorem g_tswIn {dflt lo hi : Int} {offs : Array Int} {len : Nat} {x : Int32} {off : Int} (hd : decode cc pc = .ok (.tableswitch dflt lo hi offs, len)) (h1 : ¬ x.toInt < lo) (h2 : ¬ hi < x.toInt) (ho : offs[(x.toInt - lo).toNat]? = some off) (ht : (pc : Int) + off = (tgt : Int)) (kk : G Y cc nL rt lv mc ms post k n tgt L S σ) : G Y cc nL rt lv mc ms post k n pc L (.int x :: S) σ := by
  intro D cI cM p l e R s m args below meth c A Q ad0 n0 H locs ls ad C X hl hS
  exact lv_tableIn C.1 C.2.1 hd h1 h2 ho ht (kk.use C X hl (aS1 hS))
theorem g_null (hd : aI1 cc pc .aconst_null pc') (kk : G Y cc nL rt lv mc ms post k n pc' L (.null :: S) σ) : G Y cc nL rt lv mc ms post k n pc L S σ := by
  intro D cI cM p l e R s m args below meth c A Q ad0 n0 H locs ls ad C X hl hS
  obtain ⟨hd, rfl⟩ := hd
  exact lv_null C.1 C.2.1 hd (kk.use C X hl (aSC aSc_null hS))
def aNu (cc : ByteArray) (pc pc' tgt : Nat) : Prop := ∃ off : Int, decode cc pc = .ok (.ifnull off, 3) ∧ pc + 3 = pc' ∧ (pc : Int) + off = (tgt : Int)
def aNn (cc : ByteArray) (pc pc' tgt : Nat) : Prop := ∃ off : Int, decode cc pc = .ok (.ifnonnull off, 3) ∧ pc + 3 = pc' ∧ (pc : Int) + off = (tgt : Int)
theorem g_ifnull {a : Nat} (hd : aNu cc pc pc' tgt) (kk : G Y cc nL rt lv mc ms post k n pc' L S σ) : G Y cc nL rt lv mc ms post k n pc L (.ref a :: S) σ := by
  intro D cI cM p l e R s m args below meth c A Q ad0 n0 H locs ls ad C X hl hS
  obtain ⟨off, hd, rfl, ht⟩ := hd
  exact lv_ifnull C.1 C.2.1 hd (kk.use C X hl (aS1 hS))
theorem g_ifnullN (hd : aNu cc pc pc' tgt) (kk : G Y cc nL rt lv mc ms post k n tgt L S σ) : G Y cc nL rt lv mc ms post k n pc L (.null :: S) σ := by
  intro D cI cM p l e R s m args below meth c A Q ad0 n0 H locs ls ad C X hl hS
  obtain ⟨off, hd, rfl, ht⟩ := hd
  exact lv_ifnullN C.1 C.2.1 hd ht (kk.use C X hl (aS1 hS))
theorem g_ifnonnull {a : Nat} (hd : aNn cc pc pc' tgt) (kk : G Y cc nL rt lv mc ms post k n tgt L S σ) : G Y cc nL rt lv mc ms post k n pc L (.ref a :: S) σ := by
  intro D cI cM p l e R s m args below meth c A Q ad0 n0 H locs ls ad C X hl hS
  obtain ⟨off, hd, rfl, ht⟩ := hd
  exact lv_ifnonnull C.1 C.2.1 hd ht (kk.use C X hl (aS1 hS))
theorem g_ifnonnullN (hd : aNn cc pc pc' tgt) (kk : G Y cc nL rt lv mc ms post k n pc' L S σ) : G Y cc nL rt lv mc ms post k n pc L (.null :: S) σ := by
  intro D cI cM p l e R s m args below meth c A Q ad0 n0 H locs ls ad C X hl hS
  obtain ⟨off, hd, rfl, ht⟩ := hd
  exact lv_ifnonnullN C.1 C.2.1 hd (kk.use C X hl (aS1 hS))
/-- a field as an instruction of a class names it: the class's place, the field's place -/
def aFl (own : String) (index ci fk : Nat) : Prop := ∃ (C : String) (T : u_T) (N : Nat) (ref : String), vwCl[ci]? = some (C, T, N) ∧ fk < N ∧ (∀ w ∈ u_ws C T N, w ∈ aWd) ∧ Cond.fieldLink own index ref (T fk).2.1 (T fk).2.2.1 ∈ aWd ∧ ref = (T fk).1
def aFp (ci fk : Nat) (ty : FieldType) (fin : Bool) : Prop := ∃ (C : String) (T : u_T) (N : Nat) (ty0 : Nat → FieldType), vwCl[ci]? = some (C, T, N) ∧ (∀ k, k < N → parseFieldDescriptor (T k).2.2.1 = some (ty0 k)) ∧ (∀ a, a < N → ∀ b, b < N → a ≠ b → (T a).2.1 ≠ (T b).2.1) ∧ (T fk).2.2.2 = fin ∧ parseFieldDescriptor (T fk).2.2.1 = some ty
theorem g_get {index ci fk a : Nat} {fs : List Value} {v : Value} (hd : aI3 cc pc (.getfield index) pc') (hf : aFl Y.cls index ci fk) (hσ : σ[a]? = some (.inr (.inr (ci, fs)))) (hv : fs[fk]? = some v) (kk : G Y cc nL rt lv mc ms post k n pc' L (v :: S) σ) : G Y cc nL rt lv mc ms post k n pc L (.ref a :: S) σ := by
  intro D cI cM p l e R s m args below meth c A Q ad0 n0 H locs ls ad C X hl hS
  obtain ⟨hd, rfl⟩ := hd
  obtain ⟨C', T, N, ref, h1, h2, h3, h4, h5⟩ := hf
  subst h5
  exact va_get C.1 C.2.1 C.2.2.2.2.1 h3 C.2.2.2.1 C.2.2.2.2.2.2.1.1 X.1 a (aW_at hσ) h1 fk h2 (C.2.2.2.2.1 _ h4) (fun _ h => h) (by rw [List.getElem?_map, hv]; rfl) hd
    (kk.use C X hl (aSC (aScH_at X.2.2.2.1 hσ v (List.mem_of_getElem? hv)) (aS1 hS)))
theorem aSt.put {D : va_G} {cI cM : ClassId} {A : Nat → Prop} {H0 : Heap} {ad0 : Nat → Nat} {n0 : Nat} {H H1 : Heap} {locs locs1 : List Loc} {ad : Nat → Nat} {σ : aH} (X : aSt D cI cM A H0 ad0 n0 H locs ad σ) {a : Nat} {c : aT} (hc : aScC σ.length c) (hP : va_P D vwCl ((aW cI cM ad σ).set a (ad a, aE cI cM ad c)) H1) (hD : va_D A ((aW cI cM ad σ).set a (ad a, aE cI cM ad c))) (hS : va_S A H0 H1 locs1) : aSt D cI cM A H0 ad0 n0 H1 locs1 ad (σ.set a c) := by
  rw [aW_set] at hP hD
  exact ⟨hP, hD, hS, aScH_set X.2.2.2.1 hc, X.2.2.2.2.1, by rw [List.length_set]; exact X.2.2.2.2.2⟩
theorem aPutSc {N : Nat} {fs : List Value} {fk ci : Nat} {v : Value} (h : aScC N (.inr (.inr (ci, fs)))) (hv : aSc N v) : aScC N (.inr (.inr (ci, fs.set fk v))) := fun w hw => by
  rcases List.mem_or_eq_of_mem_set hw with h1 | h1
  · exact h w h1
  · rw [h1]; exact hv
theorem g_put {index ci fk a : Nat} {fs : List Value} {v : Value} {ty : FieldType} (hd : aI3 cc pc (.putfield index) pc') (hf : aFl Y.cls index ci fk) (hp : aFp ci fk ty false) (hσ : σ[a]? = some (.inr (.inr (ci, fs)))) (hlt : fk < fs.length) (hn : ∀ ad, narrow ty (aRe ad v) = aRe ad v ∧ fits ty (aRe ad v) = true) (kk : G Y cc nL rt lv mc ms post k n pc' L S (σ.set a (.inr (.inr (ci, fs.set fk v))))) : G Y cc nL rt lv mc ms post k n pc L (v :: .ref a :: S) σ := by
  intro D cI cM p l e R s m args below meth c A Q ad0 n0 H locs ls ad C X hl hS
  obtain ⟨hd, rfl⟩ := hd
  obtain ⟨C', T, N, ref, h1, h2, h3, h4, h5⟩ := hf
  obtain ⟨C2, T2, N2, ty0, g1, g2, g3, g4, g5⟩ := hp
  cases h1.symm.trans g1
  subst h5
  have hsc := aScH_at X.2.2.2.1 hσ
  refine va_put C.1 C.2.1 C.2.2.2.2.1 h3 ty0 g2 g3 C.2.2.2.1 C.2.2.2.2.2.2.1.1 X.1 X.2.1 X.2.2.1 a (aW_at hσ) h1 fk h2 (C.2.2.2.2.1 _ h4) (fun _ h => h) g4 g5 (hn ad).1 (hn ad).2 (by rw [List.length_map]; exact hlt) hd (fun H1 locs1 hP hD hS1 => ?_)
  refine kk.use C (X.put (aPutSc hsc (hS v List.mem_cons_self)) ?_ ?_ hS1) (by rw [List.length_set]; exact hl) (by rw [List.length_set]; exact aS2 hS)
  · show va_P D vwCl ((aW cI cM ad σ).set a (ad a, .inr (ci, (fs.set fk v).map (aRe ad)))) H1
    rw [List.map_set]; exact hP
  · show va_D A ((aW cI cM ad σ).set a (ad a, .inr (ci, (fs.set fk v).map (aRe ad))))
    rw [List.map_set]; exact hD
theorem g_putF {index ci fk a : Nat} {fs : List Value} {v : Value} {ty : FieldType} (hd : aI3 cc pc (.putfield index) pc') (hf : aFl Y.cls index ci fk) (hp : aFp ci fk ty true) (hin : Y.name = "<init>") (hdc : ∀ q : vw_C, vwCl[ci]? = some q → (q.2.1 fk).1 = Y.cls) (hσ : σ[a]? = some (.inr (.inr (ci, fs)))) (hlt : fk < fs.length) (hn : ∀ ad, narrow ty (aRe ad v) = aRe ad v ∧ fits ty (aRe ad v) = true) (kk : G Y cc nL rt lv mc ms post k n pc' L S (σ.set a (.inr (.inr (ci, fs.set fk v))))) : G Y cc nL rt lv mc ms post k n pc L (v :: .ref a :: S) σ := by
  intro D cI cM p l e R s m args below meth c A Q ad0 n0 H locs ls ad C X hl hS
  obtain ⟨hd, rfl⟩ := hd
  obtain ⟨C', T, N, ref, h1, h2, h3, h4, h5⟩ := hf
  obtain ⟨C2, T2, N2, ty0, g1, g2, g3, g4, g5⟩ := hp
  cases h1.symm.trans g1
  subst h5
  have hsc := aScH_at X.2.2.2.1 hσ
  refine va_putF C.1 C.2.1 C.2.2.2.2.1 h3 ty0 g2 g3 C.2.2.2.1 C.2.2.2.2.2.2.1.1 X.1 X.2.1 X.2.2.1 a (aW_at hσ) h1 fk h2 (C.2.2.2.2.1 _ h4) (fun _ h => h) g4 (by rw [C.2.2.2.2.2.1]; exact hin) (hdc _ h1) g5 (hn ad).1 (hn ad).2 (by rw [List.length_map]; exact hlt) hd (fun H1 locs1 hP hD hS1 => ?_)
  refine kk.use C (X.put (aPutSc hsc (hS v List.mem_cons_self)) ?_ ?_ hS1) (by rw [List.length_set]; exact hl) (by rw [List.length_set]; exact aS2 hS)
  · show va_P D vwCl ((aW cI cM ad σ).set a (ad a, .inr (ci, (fs.set fk v).map (aRe ad)))) H1
    rw [List.map_set]; exact hP
  · show va_D A ((aW cI cM ad σ).set a (ad a, .inr (ci, (fs.set fk v).map (aRe ad))))
    rw [List.map_set]; exact hD
theorem g_iald {a : Nat} {xs : List Int32} {i : Int32} (hd : aI1 cc pc .iaload pc') (hσ : σ[a]? = some (.inl xs)) (hi : vp_in i xs.length) (kk : G Y cc nL rt lv mc ms post k n pc' L (.int (xs.getD i.toNatClampNeg 0) :: S) σ) : G Y cc nL rt lv mc ms post k n pc L (.int i :: .ref a :: S) σ := by
  intro D cI cM p l e R s m args below meth c A Q ad0 n0 H locs ls ad C X hl hS
  obtain ⟨hd, rfl⟩ := hd
  exact va_iald C.1 C.2.1 C.2.2.2.2.2.2.1.1 X.1 a 0 (aW_at hσ) rfl hi hd (kk.use C X hl (aSI (aS2 hS)))
theorem g_iast {a : Nat} {xs : List Int32} {i x : Int32} (hd : aI1 cc pc .iastore pc') (hσ : σ[a]? = some (.inl xs)) (hi : vp_in i xs.length) (kk : G Y cc nL rt lv mc ms post k n pc' L S (σ.set a (.inl (xs.set i.toNatClampNeg x)))) : G Y cc nL rt lv mc ms post k n pc L (.int x :: .int i :: .ref a :: S) σ := by
  intro D cI cM p l e R s m args below meth c A Q ad0 n0 H locs ls ad C X hl hS
  obtain ⟨hd, rfl⟩ := hd
  have hlt : i.toNatClampNeg < xs.length := Nat.not_le.mp fun q => hi (Or.inr q)
  have hf : (fun k => (xs.set i.toNatClampNeg x).getD k 0) = upd (fun k => xs.getD k 0) i.toNatClampNeg x := by
    funext k
    simp only [upd, List.getD_eq_getElem?_getD, List.getElem?_set]
    by_cases h : k = i.toNatClampNeg
    · subst h
      simp [hlt]
    · have h2 : ¬ i.toNatClampNeg = k := fun z => h z.symm
      simp [h, h2]
  have hsc := aScH_at X.2.2.2.1 hσ
  refine va_iast C.1 C.2.1 C.2.2.2.2.2.2.1.1 X.1 X.2.1 X.2.2.1 a 0 (aW_at hσ) rfl hi hd (fun H1 locs1 hP hD hS1 => ?_)
  have hsc : aScC σ.length (.inl (xs.set i.toNatClampNeg x)) := by
    show (xs.set i.toNatClampNeg x).length < 65536
    rw [List.length_set]; exact hsc
  refine kk.use C (X.put hsc ?_ ?_ hS1) (by rw [List.length_set]; exact hl) (by rw [List.length_set]; exact aS3 hS)
  · show va_P D vwCl ((aW cI cM ad σ).set a (ad a, .inl (cI, (xs.set i.toNatClampNeg x).length, .inl (fun k => (xs.set i.toNatClampNeg x).getD k 0)))) H1
    rw [hf, List.length_set]; exact hP
  · show va_D A ((aW cI cM ad σ).set a (ad a, .inl (cI, (xs.set i.toNatClampNeg x).length, .inl (fun k => (xs.set i.toNatClampNeg x).getD k 0))))
    rw [hf, List.length_set]; exact hD
theorem g_ilen {a : Nat} {xs : List Int32} (hd : aI1 cc pc .arraylength pc') (hσ : σ[a]? = some (.inl xs)) (kk : G Y cc nL rt lv mc ms post k n pc' L (.int (nI xs.length) :: S) σ) : G Y cc nL rt lv mc ms post k n pc L (.ref a :: S) σ := by
  intro D cI cM p l e R s m args below meth c A Q ad0 n0 H locs ls ad C X hl hS
  obtain ⟨hd, rfl⟩ := hd
  exact va_alen C.1 C.2.1 C.2.2.2.2.2.2.1.1 X.1 a 0 (aW_at hσ) rfl rfl hd (kk.use C X hl (aSI (aS1 hS)))
theorem g_aald {a b : Nat} {rs : List (Option Nat)} {i : Int32} (hd : aI1 cc pc .aaload pc') (hσ : σ[a]? = some (.inr (.inl rs))) (hi : vp_in i rs.length) (hv : rs[i.toNatClampNeg]? = some (some b)) (kk : G Y cc nL rt lv mc ms post k n pc' L (.ref b :: S) σ) : G Y cc nL rt lv mc ms post k n pc L (.int i :: .ref a :: S) σ := by
  intro D cI cM p l e R s m args below meth c A Q ad0 n0 H locs ls ad C X hl hS
  obtain ⟨hd, rfl⟩ := hd
  have hsc := aScH_at X.2.2.2.1 hσ
  refine va_aldq C.1 C.2.1 C.2.2.2.2.2.2.1.1 X.1 a 1 (aW_at hσ) rfl hi hd ?_
  rw [List.getD_eq_getElem?_getD, hv]
  exact kk.use C X hl (aSC (aSc_ref (hsc.2 b (List.mem_of_getElem? hv))) (aS2 hS))
theorem g_aast {a b ci : Nat} {rs : List (Option Nat)} {fs : List Value} {r : vw_C} {i : Int32} (hd : aI1 cc pc .aastore pc') (hσ : σ[a]? = some (.inr (.inl rs))) (hb : σ[b]? = some (.inr (.inr (ci, fs)))) (hr : vwCl[ci]? = some r) (hy : (r.1 = "ReadAloud$Man") ∨ (r.1, "ReadAloud$Man") ∈ aCy) (hi : vp_in i rs.length) (kk : G Y cc nL rt lv mc ms post k n pc' L S (σ.set a (.inr (.inl (rs.set i.toNatClampNeg (some b)))))) : G Y cc nL rt lv mc ms post k n pc L (.ref b :: .int i :: .ref a :: S) σ := by
  intro D cI cM p l e R s m args below meth c A Q ad0 n0 H locs ls ad C X hl hS
  obtain ⟨hd, rfl⟩ := hd
  have hlt : i.toNatClampNeg < rs.length := Nat.not_le.mp fun q => hi (Or.inr q)
  have hf : (fun k => ((rs.set i.toNatClampNeg (some b)).getD k none).map ad) = va_up (fun k => (rs.getD k none).map ad) i.toNatClampNeg (some (ad b)) := by
    funext k
    simp only [va_up, List.getD_eq_getElem?_getD, List.getElem?_set]
    by_cases h : k = i.toNatClampNeg
    · subst h
      simp [hlt]
    · have h2 : ¬ i.toNatClampNeg = k := fun z => h z.symm
      simp [h, h2]
  have hsc := aScH_at X.2.2.2.1 hσ
  have hany : va_Any "ReadAloud$Man" s H (ad b) := by
    refine va_rAny C.2.2.2.2.2.2.1.1 X.1 (aW_at hb) hr (fun comp c0 h1 h2 => ?_)
    rcases hy with hy | hy
    · have hcls := (C.2.2.2.2.2.2.1.1.1 ci r hr).2
      rw [hy] at h2 hcls
      cases h1.symm.trans h2
      cases h1.symm.trans hcls.1
      exact va_assign hcls
    · obtain ⟨c1, t1, f1, f2, f3⟩ := Cond.castable_spec (va_Nw.use (A := args) rfl (C.2.2.2.2.2.2.1.2.2.2.1 _ hy))
      cases h1.symm.trans f2
      cases h2.symm.trans f1
      exact f3
  refine va_astqM C.1 C.2.1 C.2.2.2.2.2.2.1.1 X.1 X.2.1 X.2.2.1 a 1 (aW_at hσ) rfl hany hi hd (fun H1 locs1 hP hD hS1 => ?_)
  have hsc : aScC σ.length (.inr (.inl (rs.set i.toNatClampNeg (some b)))) := by
    refine ⟨by rw [List.length_set]; exact hsc.1, fun j hj => ?_⟩
    rcases List.mem_or_eq_of_mem_set hj with h1 | h1
    · exact hsc.2 j h1
    · have e1 := Option.some.inj h1
      rw [e1]
      exact hS _ List.mem_cons_self b rfl
  refine kk.use C (X.put hsc ?_ ?_ hS1) (by rw [List.length_set]; exact hl) (by rw [List.length_set]; exact aS3 hS)
  · show va_P D vwCl ((aW cI cM ad σ).set a (ad a, .inl (cM, (rs.set i.toNatClampNeg (some b)).length, .inr (.inr (.inr (.inr (fun k => ((rs.set i.toNatClampNeg (some b)).getD k none).map ad))))))) H1
    rw [hf, List.length_set]; exact hP
  · show va_D A ((aW cI cM ad σ).set a (ad a, .inl (cM, (rs.set i.toNatClampNeg (some b)).length, .inr (.inr (.inr (.inr (fun k => ((rs.set i.toNatClampNeg (some b)).getD k none).map ad)))))))
    rw [hf, List.length_set]; exact hD
theorem g_alen {a : Nat} {rs : List (Option Nat)} (hd : aI1 cc pc .arraylength pc') (hσ : σ[a]? = some (.inr (.inl rs))) (kk : G Y cc nL rt lv mc ms post k n pc' L (.int (nI rs.length) :: S) σ) : G Y cc nL rt lv mc ms post k n pc L (.ref a :: S) σ := by
  intro D cI cM p l e R s m args below meth c A Q ad0 n0 H locs ls ad C X hl hS
  obtain ⟨hd, rfl⟩ := hd
  exact va_alen C.1 C.2.1 C.2.2.2.2.2.2.1.1 X.1 a 1 (aW_at hσ) rfl rfl hd (kk.use C X hl (aSI (aS1 hS)))
theorem aSt.push {D : va_G} {cI cM : ClassId} {A : Nat → Prop} {H0 : Heap} {ad0 : Nat → Nat} {n0 : Nat} {H H1 : Heap} {locs locs1 : List Loc} {ad : Nat → Nat} {σ : aH} (X : aSt D cI cM A H0 ad0 n0 H locs ad σ) {q : Nat} {c : aT} (hc : aScC (σ.length + 1) c) (hP : va_P D vwCl (aW cI cM ad σ ++ [(q, aE cI cM (fun i => if i = σ.length then q else ad i) c)]) H1) (hD : va_D A (aW cI cM ad σ ++ [(q, aE cI cM (fun i => if i = σ.length then q else ad i) c)])) (hS : va_S A H0 H1 locs1) : aSt D cI cM A H0 ad0 n0 H1 locs1 (fun i => if i = σ.length then q else ad i) (σ ++ [c]) := by
  rw [← aW_push X.2.2.2.1] at hP hD
  have hn := X.2.2.2.2.2
  refine ⟨hP, hD, hS, aScH_push X.2.2.2.1 hc, fun i hi => ?_, by rw [List.length_append]; omega⟩
  have h2 : ¬ i = σ.length := by omega
  simp only [if_neg h2]
  exact X.2.2.2.2.1 i hi
theorem g_new {index ci : Nat} {r : vw_C} {fs : List Value} {ty : Nat → FieldType} (hd : aI3 cc pc (.new index) pc') (hr : vwCl[ci]? = some r) (hin : ∀ w ∈ u_ws r.1 r.2.1 r.2.2, w ∈ aWd) (hty : ∀ k, k < r.2.2 → parseFieldDescriptor (r.2.1 k).2.2.1 = some (ty k)) (hw1 : Cond.classLink Y.cls index r.1 ∈ aWd) (hw2 : Cond.instantiable r.1 r.2.2 ∈ aWd) (hw3 : Cond.initialized r.1 ∈ aWd) (hfs : ∀ j, j < r.2.2 → defaultValue (ty j) = vp_V fs j) (hno : ∀ v ∈ fs, (∃ x, v = .int x) ∨ v = .null ∨ (∃ x, v = .long x)) (hmc : k + 1 ≤ mc) (hms : n + r.2.2 ≤ ms) (kk : G Y cc nL rt lv mc ms post (k + 1) (n + r.2.2) pc' L (.ref σ.length :: S) (σ ++ [.inr (.inr (ci, fs))])) : G Y cc nL rt lv mc ms post k n pc L S σ := by
  intro D cI cM p l e R s m args below meth c A Q ad0 n0 H locs ls ad C X hl hS
  obtain ⟨hd, rfl⟩ := hd
  have hre : fs.map (aRe ad) = fs := by
    conv => rhs; rw [← List.map_id fs]
    refine List.map_congr_left (fun v hv => ?_)
    rcases hno v hv with ⟨x, rfl⟩ | rfl | ⟨x, rfl⟩ <;> rfl
  have hRm := C.2.2.2.2.2.2.2.2.1.2.2
  refine va_new (ci := ci) (fs := fs) C.1 C.2.1 C.2.2.2.2.1 hin ty hty C.2.2.2.1 (C.2.2.2.2.1 _ hw1) (C.2.2.2.2.1 _ hw2) (C.2.2.2.2.1 _ hw3) C.2.2.2.2.2.2.1.1 X.1 X.2.1 X.2.2.1 C.2.2.2.2.2.2.2.1 hr hfs (by omega) (by omega) hd (fun q H1 hP hD hS1 => ?_)
  have hre2 : fs.map (aRe (fun i => if i = σ.length then q else ad i)) = fs := by
    conv => rhs; rw [← List.map_id fs]
    refine List.map_congr_left (fun v hv => ?_)
    rcases hno v hv with ⟨x, rfl⟩ | rfl | ⟨x, rfl⟩ <;> rfl
  have hsc : aScC (σ.length + 1) (.inr (.inr (ci, fs))) := fun v hv => by
    rcases hno v hv with ⟨x, rfl⟩ | rfl | ⟨x, rfl⟩
    · exact aSc_int
    · exact aSc_null
    · exact aSc_long
  have X' := X.push (c := .inr (.inr (ci, fs))) hsc (by show va_P D vwCl (aW cI cM ad σ ++ [(q, .inr (ci, fs.map (aRe (fun i => if i = σ.length then q else ad i))))]) H1; rw [hre2]; exact hP) (by show va_D A (aW cI cM ad σ ++ [(q, .inr (ci, fs.map (aRe (fun i => if i = σ.length then q else ad i))))]); rw [hre2]; exact hD) hS1
  have he : ∀ i, i < σ.length → (fun i => if i = σ.length then q else ad i) i = ad i := fun i hi => by simp [Nat.ne_of_lt hi]
  have hlen : (σ ++ [(.inr (.inr (ci, fs)) : aT)]).length = σ.length + 1 := by simp
  have hw := kk.use C X' (by rw [hlen]; exact aLo_ad hl (Nat.le_succ _) he) (by rw [hlen]; exact aSC (aSc_ref (Nat.lt_succ_self _)) (fun v hv => aSc_mono (Nat.le_succ _) (hS v hv)))
  rw [List.map_cons, aRe_map he hS] at hw
  simp only [aRe, if_true] at hw
  exact hw
theorem g_newa {x : Int32} {N : Nat} (hd : aI2 cc pc (.newarray .int) pc') (hx : x = nI N) (hN : N < 65536) (hmc : k + 1 ≤ mc) (hms : n + N ≤ ms) (kk : G Y cc nL rt lv mc ms post (k + 1) (n + N) pc' L (.ref σ.length :: S) (σ ++ [.inl (List.replicate N 0)])) : G Y cc nL rt lv mc ms post k n pc L (.int x :: S) σ := by
  intro D cI cM p l e R s m args below meth c A Q ad0 n0 H locs ls ad C X hl hS
  obtain ⟨hd, rfl⟩ := hd
  subst hx
  have hRm := C.2.2.2.2.2.2.2.2.1.2.2
  have hf : ∀ j : Nat, (List.replicate N (0 : Int32)).getD j 0 = 0 := fun j => by
    rw [List.getD_eq_getElem?_getD, List.getElem?_replicate]
    split <;> rfl
  refine va_newa (atype := .int) (ty := .int) (N' := N) (a0 := (N, .inl (fun _ => 0))) C.1 C.2.1 (C.2.2.2.2.1 (.arrayClass .int) aArr_in) rfl C.2.2.2.2.2.2.1.1 X.1 X.2.1 X.2.2.1 C.2.2.2.2.2.2.2.1 (fun cA => rfl) (nI_pos (by omega)) (nI_clamp (by omega)) (by show N * 4 ≤ _; omega) (by omega) (by omega) hd (fun q cA H1 hK hP hD hS1 => ?_)
  have hcA : cA = cI := by
    have h1 := (hK.2 2 (cA, .int) rfl).2
    have h2 := (C.2.2.2.2.2.2.1.1.2 0 (cI, .int) rfl).2
    exact Option.some.inj (h1.symm.trans h2)
  subst hcA
  have hsc : aScC (σ.length + 1) (.inl (List.replicate N 0)) := by
    show (List.replicate N (0 : Int32)).length < 65536
    rw [List.length_replicate]; exact hN
  have hE : aE cA cM (fun i => if i = σ.length then q else ad i) (.inl (List.replicate N 0)) = .inl (cA, N, .inl (fun _ => 0)) := by
    show Sum.inl (cA, (List.replicate N (0 : Int32)).length, Sum.inl (fun k => (List.replicate N (0 : Int32)).getD k 0)) = _
    rw [List.length_replicate, funext hf]
  have X' := X.push (c := .inl (List.replicate N 0)) hsc (by rw [hE]; exact hP) (by rw [hE]; exact hD) hS1
  have he : ∀ i, i < σ.length → (fun i => if i = σ.length then q else ad i) i = ad i := fun i hi => by simp [Nat.ne_of_lt hi]
  have hlen : (σ ++ [(.inl (List.replicate N 0) : aT)]).length = σ.length + 1 := by simp
  have hw := kk.use C X' (by rw [hlen]; exact aLo_ad hl (Nat.le_succ _) he) (by rw [hlen]; exact aSC (aSc_ref (Nat.lt_succ_self _)) (fun v hv => aSc_mono (Nat.le_succ _) (aS1 hS v hv)))
  rw [List.map_cons, aRe_map he (aS1 hS)] at hw
  simp only [aRe, if_true] at hw
  exact hw
theorem g_newq {x : Int32} {index N : Nat} (hd : aI3 cc pc (.anewarray index) pc') (hw1 : Cond.classLink Y.cls index "ReadAloud$Man" ∈ aWd) (hx : x = nI N) (hN : N < 65536) (hmc : k + 1 ≤ mc) (hms : n + N ≤ ms) (kk : G Y cc nL rt lv mc ms post (k + 1) (n + N) pc' L (.ref σ.length :: S) (σ ++ [.inr (.inl (List.replicate N none))])) : G Y cc nL rt lv mc ms post k n pc L (.int x :: S) σ := by
  intro D cI cM p l e R s m args below meth c A Q ad0 n0 H locs ls ad C X hl hS
  obtain ⟨hd, rfl⟩ := hd
  subst hx
  have hRm := C.2.2.2.2.2.2.2.2.1.2.2
  have hf : ∀ ad' : Nat → Nat, ∀ j : Nat, ((List.replicate N (none : Option Nat)).getD j none).map ad' = none := fun ad' j => by
    rw [List.getD_eq_getElem?_getD, List.getElem?_replicate]
    split <;> rfl
  refine va_newq (N' := N) C.1 C.2.1 C.2.2.2.1 (C.2.2.2.2.1 _ hw1) C.2.2.2.2.2.2.1.2.2.1 C.2.2.2.2.2.2.1.1 X.1 X.2.1 X.2.2.1 C.2.2.2.2.2.2.2.1 (nI_pos (by omega)) (nI_clamp (by omega)) (by omega) (by omega) (by omega) hd (fun q cA H1 hK hP hD hS1 => ?_)
  have hcA : cA = cM := by
    obtain ⟨k1, c1, a1, a2, a3, a4⟩ := (hK.2 2 (cA, .object "ReadAloud$Man") rfl).2
    obtain ⟨k2, c2, b1, b2, b3, b4⟩ := (C.2.2.2.2.2.2.1.1.2 1 (cM, .object "ReadAloud$Man") rfl).2
    exact Option.some.inj (a4.symm.trans b4)
  subst hcA
  have hsc : aScC (σ.length + 1) (.inr (.inl (List.replicate N none))) := by
    refine ⟨by rw [List.length_replicate]; exact hN, fun i hi => ?_⟩
    have := List.eq_of_mem_replicate hi
    cases this
  have hE : aE cI cA (fun i => if i = σ.length then q else ad i) (.inr (.inl (List.replicate N none))) = .inl (cA, N, .inr (.inr (.inr (.inr (fun _ => none))))) := by
    show Sum.inl (cA, (List.replicate N (none : Option Nat)).length, Sum.inr (Sum.inr (Sum.inr (Sum.inr (fun k => ((List.replicate N (none : Option Nat)).getD k none).map _))))) = _
    rw [List.length_replicate, funext (hf _)]
  have X' := X.push (c := .inr (.inl (List.replicate N none))) hsc (by rw [hE]; exact hP) (by rw [hE]; exact hD) hS1
  have he : ∀ i, i < σ.length → (fun i => if i = σ.length then q else ad i) i = ad i := fun i hi => by simp [Nat.ne_of_lt hi]
  have hlen : (σ ++ [(.inr (.inl (List.replicate N none)) : aT)]).length = σ.length + 1 := by simp
  have hw := kk.use C X' (by rw [hlen]; exact aLo_ad hl (Nat.le_succ _) he) (by rw [hlen]; exact aSC (aSc_ref (Nat.lt_succ_self _)) (fun v hv => aSc_mono (Nat.le_succ _) (aS1 hS v hv)))
  rw [List.map_cons, aRe_map he (aS1 hS)] at hw
  simp only [aRe, if_true] at hw
  exact hw
theorem g_instY {index ci a : Nat} {nm : String} {r : vw_C} {fs : List Value} (hd : aI3 cc pc (.instanceof index) pc') (hw : Cond.classLink Y.cls index nm ∈ aWd) (hσ : σ[a]? = some (.inr (.inr (ci, fs)))) (hr : vwCl[ci]? = some r) (hy : (r.1, nm) ∈ aCy) (kk : G Y cc nL rt lv mc ms post k n pc' L (.int 1 :: S) σ) : G Y cc nL rt lv mc ms post k n pc L (.ref a :: S) σ := by
  intro D cI cM p l e R s m args below meth c A Q ad0 n0 H locs ls ad C X hl hS
  obtain ⟨hd, rfl⟩ := hd
  have hrec := va_recv C.2.2.2.2.2.2.1.1 X.1 hr (aW_at (cI := cI) (cM := cM) (ad := ad) hσ)
  exact va_instY C.1 C.2.1 C.2.2.2.1 (C.2.2.2.2.1 _ hw) (C.2.2.2.2.2.2.1.2.2.2.1 _ hy) hrec hd (kk.use C X hl (aSI (aS1 hS)))
theorem g_instN {index ci a : Nat} {nm : String} {r : vw_C} {fs : List Value} (hd : aI3 cc pc (.instanceof index) pc') (hw : Cond.classLink Y.cls index nm ∈ aWd) (hσ : σ[a]? = some (.inr (.inr (ci, fs)))) (hr : vwCl[ci]? = some r) (hy : (r.1, nm) ∈ aCn) (kk : G Y cc nL rt lv mc ms post k n pc' L (.int 0 :: S) σ) : G Y cc nL rt lv mc ms post k n pc L (.ref a :: S) σ := by
  intro D cI cM p l e R s m args below meth c A Q ad0 n0 H locs ls ad C X hl hS
  obtain ⟨hd, rfl⟩ := hd
  have hrec := va_recv C.2.2.2.2.2.2.1.1 X.1 hr (aW_at (cI := cI) (cM := cM) (ad := ad) hσ)
  exact va_instNo C.1 C.2.1 C.2.2.2.1 (C.2.2.2.2.1 _ hw) (C.2.2.2.2.2.2.1.2.2.2.2 _ hy) hrec hd (kk.use C X hl (aSI (aS1 hS)))
theorem g_instS {index ci a : Nat} {nm : String} {r : vw_C} {fs : List Value} (hd : aI3 cc pc (.instanceof index) pc') (hw : Cond.classLink Y.cls index nm ∈ aWd) (hσ : σ[a]? = some (.inr (.inr (ci, fs)))) (hr : vwCl[ci]? = some r) (hy : r.1 = nm) (kk : G Y cc nL rt lv mc ms post k n pc' L (.int 1 :: S) σ) : G Y cc nL rt lv mc ms post k n pc L (.ref a :: S) σ := by
  intro D cI cM p l e R s m args below meth c A Q ad0 n0 H locs ls ad C X hl hS
  obtain ⟨hd, rfl⟩ := hd
  have hrec := va_recv C.2.2.2.2.2.2.1.1 X.1 hr (aW_at (cI := cI) (cM := cM) (ad := ad) hσ)
  exact va_instS C.1 C.2.1 C.2.2.2.1 (C.2.2.2.2.1 _ hw) (hy ▸ (C.2.2.2.2.2.2.1.1.1 ci r hr).2) (hy ▸ hrec) hd (kk.use C X hl (aSI (aS1 hS)))
theorem g_ret {v : Option Value} (hr : aRet cc rt pc v) (hk : k ≤ mc) (hn : n ≤ ms) (hp : post v σ) : G Y cc nL rt lv mc ms post k n pc L v.toList σ := by
  intro D cI cM p l e R s m args below meth c A Q ad0 n0 H locs ls ad C X hl hS
  exact C.2.2.2.2.2.2.2.2.2 hp hk hn X (fun w hw => hS w (by rw [hw]; exact List.mem_cons_self)) hr
end AR

/-! ===== a whole method; calls ===== -/
def aRm (lv mc ms : Nat) : Room := { frames := lv, cells := mc, slots := ms, locals := 60 * lv + 20 }
def aQ (D : va_G) (cI cM : ClassId) (ad0 : Nat → Nat) (n0 : Nat) (A : Nat → Prop) (post : Option Value → aH → Prop) : Array Value → State → Outcome → State → Prop := fun _ st o t =>
  (∃ (v : Option Value) (σ' : aH) (ad' : Nat → Nat), o = .returned (v.map (aRe ad')) ∧ post v σ' ∧ (∀ w, v = some w → aSc σ'.length w) ∧ aScH σ' ∧ (∀ i, i < n0 → ad' i = ad0 i) ∧ n0 ≤ σ'.length ∧ va_P D vwCl (aW cI cM ad' σ') t.heap ∧ va_D A (aW cI cM ad' σ')) ∧ va_F A st t
def aPr (D : va_G) (cI cM : ClassId) (ad : Nat → Nat) (σ : aH) (sz : Nat) (U : State) : Prop := U.heap.size = sz ∧ va_P D vwCl (aW cI cM ad σ) U.heap ∧ aK D cI cM U ∧ va_D (fun _ => True) (aW cI cM ad σ)
/-- a method's contract at these arguments and this heap -/
def AMet (Y : MethodName) (cc : ByteArray) (nL : Nat) (rt : Option FieldType) (lv mc ms : Nat) (args : List Value) (σ : aH) (post : Option Value → aH → Prop) : Prop :=
  aScH σ → (∀ v ∈ args, aSc σ.length v) → ∀ (l : Launch) (D : va_G) (cI cM : ClassId) (ad : Nat → Nat) (sz : Nat),
    Met l Y (.code Y cc nL rt :: aWd) (aRm lv mc ms) (va_Pc (args.map (aRe ad)) (aPr D cI cM ad σ sz)) (aQ D cI cM ad σ.length (va_A (aW cI cM ad σ) sz) post) mc ms (va_A (aW cI cM ad σ) sz)
def aEn : List Value → List (Option Value)
  | [] => []
  | .long x :: vs => some (.long x) :: none :: aEn vs
  | .double x :: vs => some (.double x) :: none :: aEn vs
  | v :: vs => some v :: aEn vs
theorem aEn_cons (v : Value) (vs : List Value) : aEn (v :: vs) = some v :: ((if v.category = 2 then [none] else []) ++ aEn vs) := by cases v <;> rfl
theorem aEn_len (ad : Nat → Nat) : ∀ vs : List Value, (lg_sl (vs.map (aRe ad))).length = (aEn vs).length
  | [] => rfl
  | v :: vs => by
    rw [aEn_cons, List.map_cons]
    have h := aEn_len ad vs
    simp only [lg_sl, List.flatMap_cons, List.length_append, aRe_cat, List.length_cons] at h ⊢
    rw [h]
    split <;> simp <;> omega
theorem aEn_mem (ad : Nat → Nat) : ∀ (vs : List Value) (i j : Nat) (v : Value), (aEn vs)[j]? = some (some v) → (i + j, aRe ad v) ∈ lv_args i (vs.map (aRe ad))
  | [], i, j, v, h => by simp [aEn] at h
  | w :: vs, i, j, v, h => by
    rw [aEn_cons] at h
    rw [List.map_cons]
    unfold lv_args
    rw [aRe_cat]
    cases j with
    | zero =>
      simp only [List.getElem?_cons_zero, Option.some.injEq] at h
      rw [h]
      exact List.mem_cons_self
    | succ j =>
      rw [List.getElem?_cons_succ] at h
      refine List.mem_cons_of_mem _ ?_
      by_cases hc : w.category = 2
      · rw [if_pos hc] at h ⊢
        cases j with
        | zero => cases h
        | succ j =>
          have := aEn_mem ad vs (i + 2) j v h
          rw [show i + (j + 1 + 1) = i + 2 + j by omega]
          exact this
      · rw [if_neg hc] at h ⊢
        have := aEn_mem ad vs (i + 1) j v h
        rw [show i + (j + 1) = i + 1 + j by omega]
        exact this
def aL0 (nL : Nat) (args : List Value) : List (Option Value) := aEn args ++ List.replicate (nL - (aEn args).length) none
theorem aEn_sc {N : Nat} : ∀ (vs : List Value), (∀ v ∈ vs, aSc N v) → ∀ v, some v ∈ aEn vs → aSc N v
  | [], _, v, h => by cases h
  | w :: vs, hs, v, h => by
    rw [aEn_cons] at h
    rcases List.mem_cons.mp h with h | h
    · cases h; exact hs _ List.mem_cons_self
    · rcases List.mem_append.mp h with h | h
      · split at h <;> simp at h
      · exact aEn_sc vs (aS1 hs) v h
theorem AMet_of_G {Y : MethodName} {cc : ByteArray} {nL : Nat} {rt : Option FieldType} {lv mc ms : Nat} {args : List Value} {σ : aH} {post : Option Value → aH → Prop} (hy : plainName Y.cls = true) (hlen : (aEn args).length ≤ nL) (hG : G Y cc nL rt lv mc ms post 0 0 0 (aL0 nL args) [] σ) : AMet Y cc nL rt lv mc ms args σ post := by
  intro hσ hsc l D cI cM ad sz
  refine Met.ofW (cc := cc) (maxL := nL) (ret := rt) hy rfl ?_
  intro p e s m args' below meth c s₁ B hml hv
  obtain ⟨rfl, hsz, hP, hK, hD0⟩ := hv
  have hts : ∀ w ∈ (Cond.code Y cc nL rt :: aWd), w.before ((args.map (aRe ad)).toArray) s = true := atoms_spec (ws := Cond.code Y cc nL rt :: aWd) B.pre
  subst hsz
  have hD := hD0.self (sz := s.heap.size)
  rw [lg_entry_eq]
  have hl := lv_entry (args.map (aRe ad)) (n := nL) (by rw [aEn_len]; exact hlen)
  refine hG.use (A := va_A (aW cI cM ad σ) s.heap.size) (ad0 := ad) (n0 := σ.length) (ad := ad) ⟨B.exec, B.bytes, hml, findClass_of_methodNamed B.named, fun w hw => hts w (List.mem_cons_of_mem _ hw), (name_of_methodNamed B.named B.method).1, hK, fun q h => Or.inr h, ⟨Nat.le_refl _, Nat.le_refl _, Nat.le_refl _, Nat.le_refl _⟩, ?_⟩ ⟨hP, hD, va_S.rf, hσ, fun _ _ => rfl, Nat.le_refl _⟩ ⟨lv_less hl ?_, ?_, ?_⟩ (fun v h => by cases h)
  · intro H locs ls ad' σ' k n pc v hp hk hn X hv hret
    refine W.widen (k := mc) (n := ms) hk hn ?_
    have hq : ∀ (t : State), t.heap = H → aQ D cI cM ad σ.length (va_A (aW cI cM ad σ) s.heap.size) post ((args.map (aRe ad)).toArray) s (.returned (v.map (aRe ad'))) t := fun t ht =>
      ⟨⟨v, σ', ad', rfl, hp, hv, X.2.2.2.1, X.2.2.2.2.1, X.2.2.2.2.2, by rw [ht]; exact X.1, X.2.1⟩, X.2.2.1.F ht⟩
    rcases hret with ⟨rfl, rfl, hd⟩ | ⟨x, ty, rfl, rfl, hn, hd⟩ | ⟨x, rfl, rfl, hd⟩ | ⟨hv2, ⟨z, rfl⟩, hd⟩
    · exact W.vret B.exec B.bytes B.returns (fun t ht hW => hq t ht) X.2.2.1.2.2 hd (hlocks := B.notSynchronized)
    · exact W.zret B.exec B.bytes B.returns hn (fun t ht hW => hq t ht) X.2.2.1.2.2 hd (hlocks := B.notSynchronized)
    · exact W.lret B.exec B.bytes B.returns (fun t ht hW => hq t ht) X.2.2.1.2.2 hd (hlocks := B.notSynchronized)
    · rcases hv2 with rfl | ⟨i, rfl⟩
      · exact W.aret B.exec B.bytes B.returns (Or.inl ⟨z, rfl⟩) (Or.inl rfl) (fun t ht hW => hq t ht) X.2.2.1.2.2 hd (hlocks := B.notSynchronized)
      · exact W.aret B.exec B.bytes B.returns (Or.inl ⟨z, rfl⟩) (Or.inr ⟨_, rfl⟩) (fun t ht hW => hq t ht) X.2.2.1.2.2 hd (hlocks := B.notSynchronized)
  · rintro ⟨j, w⟩ hq
    obtain ⟨v, h1, h2⟩ := aL2_mem.mp hq
    have h3 : (aEn args)[j]? = some (some v) := by
      unfold aL0 at h1
      rw [List.getElem?_append] at h1
      split at h1
      · exact h1
      · rw [List.getElem?_replicate] at h1
        split at h1 <;> cases h1
    have h4 := aEn_mem ad args 0 j v h3
    rw [Nat.zero_add] at h4
    rw [h2]
    exact h4
  · unfold aL0
    rw [List.length_append, List.length_replicate]
    omega
  · intro v hv
    unfold aL0 at hv
    rcases List.mem_append.mp hv with h | h
    · exact aEn_sc args hsc v h
    · have := List.eq_of_mem_replicate h
      cases this
theorem AMet.weaken {Y : MethodName} {cc : ByteArray} {nL : Nat} {rt : Option FieldType} {lv mc ms : Nat} {args : List Value} {σ : aH} {post post' : Option Value → aH → Prop} (h : AMet Y cc nL rt lv mc ms args σ post) (hp : ∀ v σ', post v σ' → post' v σ') : AMet Y cc nL rt lv mc ms args σ post' := by
  intro hσ hsc l D cI cM ad sz
  intro p e a1 a2 a3 s m args' below a4 a5 a6 a7
  obtain ⟨n, o, b1, b2, b3, ⟨⟨v, σ', ad', g1, g2, g3⟩, g4⟩, b5⟩ := h hσ hsc l D cI cM ad sz p e a1 a2 a3 s m args' below a4 a5 a6 a7
  exact ⟨n, o, b1, b2, b3, ⟨⟨v, σ', ad', g1, hp _ _ g2, g3⟩, g4⟩, b5⟩
theorem aPr_blind {D : va_G} {cI cM : ClassId} {ad : Nat → Nat} {σ : aH} {sz : Nat} {av : List Value} : FrameBlind (va_Pc av (aPr D cI cM ad σ sz)) := fun a U g mk q => by
  obtain ⟨q0, q1, qP, qK, qD⟩ := q
  exact ⟨q0, q1, qP, aK.same rfl qK, qD⟩
section AC
variable {p : Program} {l : Launch} {e : Env} {R : Room} {s : State} {m : MethodId} {args : Array Value} {below : List Frame} {meth : Method} {c : Code} {H : Heap} {locs : List Loc} {cells slots : Nat} {Q : State → Prop}
theorem a_call {D : va_G} {cI cM : ClassId} {A A1 : Nat → Prop} {ad0 : Nat → Nat} {n0 : Nat} {ad : Nat → Nat} {σ : aH} {post' : Option Value → aH → Prop} {mc' ms' pc : Nat} {ls : Array Slot} {st0 rest : List Value} {a : Array Value} (hr : va_Run p l e R s m args below meth c H locs cells slots mc' ms' (F0 m pc ls st0) rest (aQ D cI cM ad σ.length A1 post' a) A1) (X : aSt D cI cM A s.heap ad0 n0 H locs ad σ) (hA : ∀ q, A1 q → A q)
    (kk : ∀ (v : Option Value) (σ' : aH) (ad' : Nat → Nat) (H1 : Heap) (locs1 : List Loc), post' v σ' → (∀ w, v = some w → aSc σ'.length w) → σ.length ≤ σ'.length → (∀ i, i < σ.length → ad' i = ad i) → aSt D cI cM A s.heap ad0 n0 H1 locs1 ad' σ' → W p l e R s m args below meth c H1 locs1 (cells + mc') (slots + ms') Q (F0 m (pc + 3) ls ((v.map (aRe ad')).toList ++ rest))) : W p l e R s m args below meth c H locs cells slots Q (F0 m pc ls st0) := by
  intro T hT Xs
  obtain ⟨v0, st₀, t, T', L, h0, X', hL, e1, e2, ⟨⟨v, σ', ad', hv, hp, hw, hsc, had, hlen, hP1, hD1⟩, hz, hk⟩, st⟩ := hr T hT Xs
  cases hv
  rw [h0] at hz hk
  have hS := X.2.2.1
  have hS1 : va_S A s.heap t.heap (locs ++ L) := ⟨Nat.le_trans hS.1 hz, fun q h1 h2 => by rw [hk q (Nat.lt_of_lt_of_le h1 hS.1) (fun z => h2 (hA q z))]; exact hS.2.1 q h1 h2, fun q hq => by
      rcases List.mem_append.mp hq with h | h
      · exact hS.2.2 q h
      · exact hA _ (hL q h)⟩
  obtain ⟨t2, a1, b1⟩ := kk v σ' ad' t.heap (locs ++ L) hp hw hlen had ⟨hP1, hD1.weaken (fun _ _ _ h => hA _ h), hS1, hsc, fun i hi => (had i (Nat.lt_of_lt_of_le hi X.2.2.2.2.2)).trans (X.2.2.2.2.1 i hi), Nat.le_trans X.2.2.2.2.2 hlen⟩ T' e1 X'
  exact ⟨t2, st t2 a1, b1⟩
theorem a_free {D : va_G} {cI cM : ClassId} {A : Nat → Prop} {ad0 : Nat → Nat} {n0 : Nat} {ad : Nat → Nat} {σ : aH} {H0 : Heap} (X : aSt D cI cM A H0 ad0 n0 H locs ad σ) (hA : ∀ q, H0.size ≤ q → A q) : ∀ q, va_A (aW cI cM ad σ) H.size q → A q := by
  intro q h
  rcases h with ⟨k, e, h⟩ | h
  · exact X.2.1.2 k (q, e) h
  · exact hA q (Nat.le_trans X.2.2.1.1 h)
end AC
def aNoMH (y : MethodName) (np : Nat) : Prop := y.cls ≠ "java/lang/invoke/MethodHandle" ∧ y.cls ≠ "java/lang/invoke/VarHandle" ∧ (parseMethodDescriptor y.desc).map (fun d => d.parameters.length) = some np
def aLV (own : String) (index : Nat) (C : String) (y : MethodName) (cc : ByteArray) (nL : Nat) (rt : Option FieldType) (np : Nat) : Prop := Cond.methodLink own index y ∈ aWd ∧ Cond.instanceMethod y ∈ aWd ∧ Cond.selects C y y ∈ aWd ∧ Cond.initialized C ∈ aWd ∧ Cond.code y cc nL rt ∈ aWd ∧ y.cls = C ∧ aNoMH y np
def aLSt (own : String) (index : Nat) (y : MethodName) (cc : ByteArray) (nL : Nat) (rt : Option FieldType) (np : Nat) : Prop := Cond.methodLink own index y ∈ aWd ∧ Cond.static y ∈ aWd ∧ Cond.initialized y.cls ∈ aWd ∧ Cond.code y cc nL rt ∈ aWd ∧ aNoMH y np
def aLSn (own : String) (index : Nat) (y : MethodName) (host : String) (cc : ByteArray) (nL : Nat) (rt : Option FieldType) (np : Nat) : Prop := (own, index, y, host) ∈ aNl ∧ Cond.static y ∈ aWd ∧ Cond.initialized y.cls ∈ aWd ∧ Cond.code y cc nL rt ∈ aWd ∧ aNoMH y np
def aLI (own : String) (index : Nat) (y : MethodName) (cc : ByteArray) (nL : Nat) (np : Nat) : Prop := Cond.methodLink own index y ∈ aWd ∧ Cond.instanceMethod y ∈ aWd ∧ Cond.initialized y.cls ∈ aWd ∧ Cond.code y cc nL none ∈ aWd ∧ y.name = "<init>" ∧ aNoMH y np
def aLIn (own : String) (index : Nat) (y : MethodName) (host : String) (cc : ByteArray) (nL : Nat) (np : Nat) : Prop := (own, index, y, host) ∈ aNl ∧ Cond.instanceMethod y ∈ aWd ∧ Cond.initialized y.cls ∈ aWd ∧ Cond.code y cc nL none ∈ aWd ∧ y.name = "<init>" ∧ aNoMH y np
def aLU (own : String) (index : Nat) (C owner : String) (x y : MethodName) (cc : ByteArray) (nL : Nat) (rt : Option FieldType) (np : Nat) : Prop := Cond.methodLink own index x ∈ aWd ∧ Cond.sameMethod x.cls owner x.name x.desc ∈ aWd ∧ Cond.instanceMethod ⟨owner, x.name, x.desc⟩ ∈ aWd ∧ Cond.selects C x y ∈ aWd ∧ Cond.instanceMethod y ∈ aWd ∧ Cond.initialized y.cls ∈ aWd ∧ Cond.code y cc nL rt ∈ aWd ∧ (∃ (b0 : ByteArray) (m0 : Nat) (r0 : Option FieldType), Cond.code ⟨owner, x.name, x.desc⟩ b0 m0 r0 ∈ aWd) ∧ (owner ≠ "java/lang/invoke/MethodHandle" ∧ owner ≠ "java/lang/invoke/VarHandle" ∧ (parseMethodDescriptor x.desc).map (fun d => d.parameters.length) = some np)
def aLSu (own : String) (index : Nat) (y : MethodName) (cc : ByteArray) (nL : Nat) (rt : Option FieldType) (np : Nat) : Prop := Cond.methodLink own index y ∈ aWd ∧ Cond.sameMethod y.cls y.cls y.name y.desc ∈ aWd ∧ Cond.superclass own y.cls ∈ aWd ∧ Cond.instanceMethod y ∈ aWd ∧ Cond.initialized y.cls ∈ aWd ∧ Cond.code y cc nL rt ∈ aWd ∧ y.name ≠ "<init>" ∧ (parseMethodDescriptor y.desc).map (fun d => d.parameters.length) = some np
theorem aWd_c {y : MethodName} {cc : ByteArray} {nL : Nat} {rt : Option FieldType} (h : Cond.code y cc nL rt ∈ aWd) : ∀ w ∈ (Cond.code y cc nL rt :: aWd), w ∈ aWd := List.forall_mem_cons.mpr ⟨h, fun _ h => h⟩
theorem aGood {ws : List Cond} (h : ∀ w ∈ ws, w ∈ aWd) : GoodIn aWd ws := fun w hw => aWd_good w (h w hw)
theorem aCons3 {w0 : Cond} {w1 : Cond} {w2 : Cond} {ws : List Cond} (h0 : w0 ∈ aWd) (h1 : w1 ∈ aWd) (h2 : w2 ∈ aWd) (h : ∀ w ∈ ws, w ∈ aWd) : ∀ w ∈ ([w0, w1, w2] : List Cond) ++ ws, w ∈ aWd := List.forall_mem_cons.mpr ⟨h0, List.forall_mem_cons.mpr ⟨h1, List.forall_mem_cons.mpr ⟨h2, h⟩⟩⟩
theorem aCons4 {w0 : Cond} {w1 : Cond} {w2 : Cond} {w3 : Cond} {ws : List Cond} (h0 : w0 ∈ aWd) (h1 : w1 ∈ aWd) (h2 : w2 ∈ aWd) (h3 : w3 ∈ aWd) (h : ∀ w ∈ ws, w ∈ aWd) : ∀ w ∈ ([w0, w1, w2, w3] : List Cond) ++ ws, w ∈ aWd := List.forall_mem_cons.mpr ⟨h0, List.forall_mem_cons.mpr ⟨h1, List.forall_mem_cons.mpr ⟨h2, List.forall_mem_cons.mpr ⟨h3, h⟩⟩⟩⟩
theorem aCons5 {w0 : Cond} {w1 : Cond} {w2 : Cond} {w3 : Cond} {w4 : Cond} {ws : List Cond} (h0 : w0 ∈ aWd) (h1 : w1 ∈ aWd) (h2 : w2 ∈ aWd) (h3 : w3 ∈ aWd) (h4 : w4 ∈ aWd) (h : ∀ w ∈ ws, w ∈ aWd) : ∀ w ∈ ([w0, w1, w2, w3, w4] : List Cond) ++ ws, w ∈ aWd := List.forall_mem_cons.mpr ⟨h0, List.forall_mem_cons.mpr ⟨h1, List.forall_mem_cons.mpr ⟨h2, List.forall_mem_cons.mpr ⟨h3, List.forall_mem_cons.mpr ⟨h4, h⟩⟩⟩⟩⟩
theorem aCons6 {w0 : Cond} {w1 : Cond} {w2 : Cond} {w3 : Cond} {w4 : Cond} {w5 : Cond} {ws : List Cond} (h0 : w0 ∈ aWd) (h1 : w1 ∈ aWd) (h2 : w2 ∈ aWd) (h3 : w3 ∈ aWd) (h4 : w4 ∈ aWd) (h5 : w5 ∈ aWd) (h : ∀ w ∈ ws, w ∈ aWd) : ∀ w ∈ ([w0, w1, w2, w3, w4, w5] : List Cond) ++ ws, w ∈ aWd := List.forall_mem_cons.mpr ⟨h0, List.forall_mem_cons.mpr ⟨h1, List.forall_mem_cons.mpr ⟨h2, List.forall_mem_cons.mpr ⟨h3, List.forall_mem_cons.mpr ⟨h4, List.forall_mem_cons.mpr ⟨h5, h⟩⟩⟩⟩⟩⟩
theorem aObj_1 : Cond.instanceMethod Lib.objectInit ∈ aWd := aWd_1 (List.mem_of_getElem? (i := 23) rfl) rfl
theorem aObj_2 : Cond.code Lib.objectInit ⟨#[0xb1]⟩ 1 none ∈ aWd := aWd_1 (List.mem_of_getElem? (i := 24) rfl) rfl
theorem aMax_1 : Cond.static Lib.Math.max.name ∈ aWd := aWd_2 (List.mem_of_getElem? (i := 217) rfl) rfl
theorem aMax_2 : Cond.initialized "java/lang/Math" ∈ aWd := aWd_1 (List.mem_of_getElem? (i := 15) rfl) rfl
theorem aMax_3 : Cond.code Lib.Math.max.name Lib.Math.max.code 2 (some .int) ∈ aWd := aWd_2 (List.mem_of_getElem? (i := 218) rfl) rfl
theorem aCpy_1 : Cond.native arraycopyName ∈ aWd := aWd_3 (List.mem_of_getElem? (i := 79) rfl) rfl
theorem aCpy_2 : Cond.static arraycopyName ∈ aWd := aWd_3 (List.mem_of_getElem? (i := 78) rfl) rfl
theorem aCpy_3 : Cond.initialized "java/lang/System" ∈ aWd := aWd_1 (List.mem_of_getElem? (i := 16) rfl) rfl
section AR2
variable {Y : MethodName} {cc : ByteArray} {nL : Nat} {rt : Option FieldType} {lv mc ms : Nat} {post : Option Value → aH → Prop} {k n pc pc' tgt : Nat} {L L' : List (Option Value)} {S S0 : List Value} {σ : aH}
variable {y : MethodName} {cc' : ByteArray} {nL' : Nat} {rt' : Option FieldType} {lv' mc' ms' : Nat} {post' : Option Value → aH → Prop} {As : List Value} {b index np : Nat}
theorem aRevMap (ad : Nat → Nat) (As S : List Value) : (As.reverse ++ S).map (aRe ad) = (As.map (aRe ad)).reverse ++ S.map (aRe ad) := by rw [List.map_append, List.map_reverse]
theorem aCatSum (ad : Nat → Nat) (S : List Value) : ((S.map (aRe ad)).map fun v => v.category) = S.map fun v => v.category := by
  rw [List.map_map]
  exact List.map_congr_left (fun v _ => aRe_cat ad v)
theorem aTail (ad : Nat → Nat) (v : Option Value) (S : List Value) : (v.map (aRe ad)).toList ++ S.map (aRe ad) = (v.toList ++ S).map (aRe ad) := by cases v <;> rfl
theorem aTailSc {N : Nat} {v : Option Value} (h : ∀ w, v = some w → aSc N w) (hS : ∀ w ∈ S, aSc N w) : ∀ w ∈ v.toList ++ S, aSc N w := by
  intro w hw
  rcases List.mem_append.mp hw with h1 | h1
  · cases v with
    | none => cases h1
    | some z =>
      rw [Option.toList_some, List.mem_singleton] at h1
      exact h w (by rw [h1])
  · exact hS w h1
theorem aMemA {v w : Value} {As S : List Value} (h : v ∈ w :: As) : v ∈ As.reverse ++ w :: S := by
  rcases List.mem_cons.mp h with h | h
  · exact List.mem_append_right _ (h ▸ List.mem_cons_self)
  · exact List.mem_append_left _ (List.mem_reverse.mpr h)
theorem g_callV {ci : Nat} {fs : List Value} {r : vw_C} (hd : aI3 cc pc (.invokevirtual index) pc') (hk : aLV Y.cls index r.1 y cc' nL' rt' np) (hσ : σ[b]? = some (.inr (.inr (ci, fs)))) (hr : vwCl[ci]? = some r) (hM : AMet y cc' nL' rt' lv' mc' ms' (.ref b :: As) σ post') (hst : S0 = As.reverse ++ .ref b :: S) (hnp : As.length = np) (hlv : lv' + 1 ≤ lv) (hnl : nL' ≤ 41) (hsum : (S.map fun v => v.category).sum ≤ 8) (hmc : k + mc' ≤ mc) (hms : n + ms' ≤ ms) (kk : ∀ v σ', post' v σ' → σ.length ≤ σ'.length → G Y cc nL rt lv mc ms post (k + mc') (n + ms') pc' L (v.toList ++ S) σ') : G Y cc nL rt lv mc ms post k n pc L S0 σ := by
  intro D cI cM p l e R s m args below meth c A Q ad0 n0 H locs ls ad C X hl hS
  subst hst
  obtain ⟨hd, rfl⟩ := hd
  have hRm := C.2.2.2.2.2.2.2.2.1
  have hK := C.2.2.2.2.2.2.1
  have hA0 : ∀ v ∈ (.ref b :: As), aSc σ.length v := fun v hv => hS v (aMemA hv)
  have hS2 : ∀ v ∈ S, aSc σ.length v := fun v hv => hS v (List.mem_append_right _ (List.mem_cons_of_mem _ hv))
  have hM' := hM X.2.2.2.1 hA0 l D cI cM ad H.size
  have hpre : ∀ U : State, U.heap = H → s.WarmedH U.vm → aPr D cI cM ad σ H.size U := fun U hU hW => ⟨by rw [hU], by rw [hU]; exact X.1, aK.warm hW hK, X.2.1.weaken (fun _ _ _ _ => trivial)⟩
  have hb2 : (aRm lv' mc' ms').frames + 1 ≤ R.frames ∧ 8 + (nL' + 11) + (aRm lv' mc' ms').locals ≤ R.locals := by
    have h1 := hRm.1
    have h2 := hRm.2.1
    show lv' + 1 ≤ R.frames ∧ 8 + (nL' + 11) + (60 * lv' + 20) ≤ R.locals
    omega
  have hf : k + mc' ≤ R.cells ∧ n + ms' ≤ R.slots := ⟨Nat.le_trans hmc hRm.2.2.1, Nat.le_trans hms hRm.2.2.2⟩
  have hW8 : 2 * (F0 m pc ls ((As.reverse ++ .ref b :: S).map (aRe ad))).monitorRoom + ((S.map (aRe ad)).map fun v => v.category).sum ≤ 8 := by
    rw [aCatSum]
    exact lv_room hsum
  have hAl : (As.map (aRe ad)).length = np := by rw [List.length_map]; exact hnp
  obtain ⟨w1, w2, w3, w4, w5, w6, w7⟩ := hk
  have hrun := va_runV (e := e) (below := below) (meth := meth) (locs := locs) (cells := k) (slots := n) (rest := S.map (aRe ad)) (g := F0 m pc ls ((As.reverse ++ .ref b :: S).map (aRe ad))) (As := As.map (aRe ad)) ⟨C.1, C.2.1, C.2.2.1, C.2.2.2.1, C.2.2.2.2.1⟩ hM' (cwV np C.2.2.2.2.1 (aGood (by unfold wsV; exact aCons4 w1 w2 w3 w4 (aWd_c w5))) rfl rfl rfl ⟨w6, w7⟩ hb2) ⟨aPr_blind, va_recv hK.1 X.1 hr (aW_at (cI := cI) (cM := cM) (ad := ad) hσ), fun U hU hW => ⟨rfl, hpre U hU hW⟩⟩ rfl hAl hl.1.1 (by show List.map _ _ = _; rw [aRevMap]; rfl) hW8 hd hf
  refine a_call hrun X (a_free X C.2.2.2.2.2.2.2.1) (fun v σ' ad' H1 locs1 hp hw hln had X' => ?_)
  rw [← aRe_map had hS2, aTail]
  exact (kk v σ' hp hln).use C X' (aLo_ad hl hln had) (aTailSc hw (fun w h => aSc_mono hln (hS2 w h)))
theorem g_callS (hd : aI3 cc pc (.invokestatic index) pc') (hk : aLSt Y.cls index y cc' nL' rt' np) (hM : AMet y cc' nL' rt' lv' mc' ms' As σ post') (hst : S0 = As.reverse ++ S) (hnp : As.length = np) (hlv : lv' + 1 ≤ lv) (hnl : nL' ≤ 41) (hsum : (S.map fun v => v.category).sum ≤ 8) (hmc : k + mc' ≤ mc) (hms : n + ms' ≤ ms) (kk : ∀ v σ', post' v σ' → σ.length ≤ σ'.length → G Y cc nL rt lv mc ms post (k + mc') (n + ms') pc' L (v.toList ++ S) σ') : G Y cc nL rt lv mc ms post k n pc L S0 σ := by
  intro D cI cM p l e R s m args below meth c A Q ad0 n0 H locs ls ad C X hl hS
  subst hst
  obtain ⟨hd, rfl⟩ := hd
  have hRm := C.2.2.2.2.2.2.2.2.1
  have hK := C.2.2.2.2.2.2.1
  have hA0 : ∀ v ∈ As, aSc σ.length v := fun v hv => hS v (List.mem_append_left _ (List.mem_reverse.mpr hv))
  have hS2 : ∀ v ∈ S, aSc σ.length v := fun v hv => hS v (List.mem_append_right _ hv)
  have hM' := hM X.2.2.2.1 hA0 l D cI cM ad H.size
  have hpre : ∀ U : State, U.heap = H → s.WarmedH U.vm → aPr D cI cM ad σ H.size U := fun U hU hW => ⟨by rw [hU], by rw [hU]; exact X.1, aK.warm hW hK, X.2.1.weaken (fun _ _ _ _ => trivial)⟩
  have hb2 : (aRm lv' mc' ms').frames + 1 ≤ R.frames ∧ 8 + (nL' + 11) + (aRm lv' mc' ms').locals ≤ R.locals := by
    have h1 := hRm.1
    have h2 := hRm.2.1
    show lv' + 1 ≤ R.frames ∧ 8 + (nL' + 11) + (60 * lv' + 20) ≤ R.locals
    omega
  have hf : k + mc' ≤ R.cells ∧ n + ms' ≤ R.slots := ⟨Nat.le_trans hmc hRm.2.2.1, Nat.le_trans hms hRm.2.2.2⟩
  have hW8 : 2 * (F0 m pc ls ((As.reverse ++ S).map (aRe ad))).monitorRoom + ((S.map (aRe ad)).map fun v => v.category).sum ≤ 8 := by
    rw [aCatSum]
    exact lv_room hsum
  have hAl : (As.map (aRe ad)).length = np := by rw [List.length_map]; exact hnp
  obtain ⟨w1, w2, w3, w4, w5⟩ := hk
  have hrun := va_runS (e := e) (below := below) (meth := meth) (locs := locs) (cells := k) (slots := n) (rest := S.map (aRe ad)) (g := F0 m pc ls ((As.reverse ++ S).map (aRe ad))) (As := As.map (aRe ad)) ⟨C.1, C.2.1, C.2.2.1, C.2.2.2.1, C.2.2.2.2.1⟩ hM' (va_cwS np C.2.2.2.2.1 (aGood (by unfold va_wsS; exact aCons3 w1 w2 w3 (aWd_c w4))) rfl rfl rfl w5 hb2) ⟨aPr_blind, fun U hU hW => ⟨rfl, hpre U hU hW⟩⟩ rfl hAl hl.1.1 (by show List.map _ _ = _; rw [aRevMap]) hW8 hd hf
  refine a_call hrun X (a_free X C.2.2.2.2.2.2.2.1) (fun v σ' ad' H1 locs1 hp hw hln had X' => ?_)
  rw [← aRe_map had hS2, aTail]
  exact (kk v σ' hp hln).use C X' (aLo_ad hl hln had) (aTailSc hw (fun w h => aSc_mono hln (hS2 w h)))
theorem g_callSn {host : String} (hd : aI3 cc pc (.invokestatic index) pc') (hk : aLSn Y.cls index y host cc' nL' rt' np) (hM : AMet y cc' nL' rt' lv' mc' ms' As σ post') (hst : S0 = As.reverse ++ S) (hnp : As.length = np) (hlv : lv' + 1 ≤ lv) (hnl : nL' ≤ 41) (hsum : (S.map fun v => v.category).sum ≤ 8) (hmc : k + mc' ≤ mc) (hms : n + ms' ≤ ms) (kk : ∀ v σ', post' v σ' → σ.length ≤ σ'.length → G Y cc nL rt lv mc ms post (k + mc') (n + ms') pc' L (v.toList ++ S) σ') : G Y cc nL rt lv mc ms post k n pc L S0 σ := by
  intro D cI cM p l e R s m args below meth c A Q ad0 n0 H locs ls ad C X hl hS
  subst hst
  obtain ⟨hd, rfl⟩ := hd
  have hRm := C.2.2.2.2.2.2.2.2.1
  have hK := C.2.2.2.2.2.2.1
  have hA0 : ∀ v ∈ As, aSc σ.length v := fun v hv => hS v (List.mem_append_left _ (List.mem_reverse.mpr hv))
  have hS2 : ∀ v ∈ S, aSc σ.length v := fun v hv => hS v (List.mem_append_right _ hv)
  have hM' := hM X.2.2.2.1 hA0 l D cI cM ad H.size
  have hpre : ∀ U : State, U.heap = H → s.WarmedH U.vm → aPr D cI cM ad σ H.size U := fun U hU hW => ⟨by rw [hU], by rw [hU]; exact X.1, aK.warm hW hK, X.2.1.weaken (fun _ _ _ _ => trivial)⟩
  have hb2 : (aRm lv' mc' ms').frames + 1 ≤ R.frames ∧ 8 + (nL' + 11) + (aRm lv' mc' ms').locals ≤ R.locals := by
    have h1 := hRm.1
    have h2 := hRm.2.1
    show lv' + 1 ≤ R.frames ∧ 8 + (nL' + 11) + (60 * lv' + 20) ≤ R.locals
    omega
  have hf : k + mc' ≤ R.cells ∧ n + ms' ≤ R.slots := ⟨Nat.le_trans hmc hRm.2.2.1, Nat.le_trans hms hRm.2.2.2⟩
  have hW8 : 2 * (F0 m pc ls ((As.reverse ++ S).map (aRe ad))).monitorRoom + ((S.map (aRe ad)).map fun v => v.category).sum ≤ 8 := by
    rw [aCatSum]
    exact lv_room hsum
  have hAl : (As.map (aRe ad)).length = np := by rw [List.length_map]; exact hnp
  obtain ⟨w1, w2, w3, w4, w5⟩ := hk
  have hrun := va_runSN (e := e) (below := below) (meth := meth) (locs := locs) (cells := k) (slots := n) (rest := S.map (aRe ad)) (g := F0 m pc ls ((As.reverse ++ S).map (aRe ad))) (As := As.map (aRe ad)) ⟨C.1, C.2.1, C.2.2.1, C.2.2.2.1, C.2.2.2.2.1⟩ hM' ⟨va_cnB np C.2.2.2.2.1 (aGood (aWd_c w4)) rfl rfl rfl (hK.2.1 _ w1) (C.2.2.2.2.1 _ w3) w5 hb2, C.2.2.2.2.1 _ w2, trivial⟩ ⟨aPr_blind, fun U hU hW => ⟨rfl, hpre U hU hW⟩⟩ rfl hAl hl.1.1 (by show List.map _ _ = _; rw [aRevMap]) hW8 hd hf
  refine a_call hrun X (a_free X C.2.2.2.2.2.2.2.1) (fun v σ' ad' H1 locs1 hp hw hln had X' => ?_)
  rw [← aRe_map had hS2, aTail]
  exact (kk v σ' hp hln).use C X' (aLo_ad hl hln had) (aTailSc hw (fun w h => aSc_mono hln (hS2 w h)))
theorem g_init (hd : aI3 cc pc (.invokespecial index) pc') (hk : aLI Y.cls index y cc' nL' np) (hM : AMet y cc' nL' none lv' mc' ms' (.ref b :: As) σ post') (hst : S0 = As.reverse ++ .ref b :: S) (hnp : As.length = np) (hlv : lv' + 1 ≤ lv) (hnl : nL' ≤ 41) (hsum : (S.map fun v => v.category).sum ≤ 8) (hmc : k + mc' ≤ mc) (hms : n + ms' ≤ ms) (kk : ∀ v σ', post' v σ' → σ.length ≤ σ'.length → G Y cc nL rt lv mc ms post (k + mc') (n + ms') pc' L (v.toList ++ S) σ') : G Y cc nL rt lv mc ms post k n pc L S0 σ := by
  intro D cI cM p l e R s m args below meth c A Q ad0 n0 H locs ls ad C X hl hS
  subst hst
  obtain ⟨hd, rfl⟩ := hd
  have hRm := C.2.2.2.2.2.2.2.2.1
  have hK := C.2.2.2.2.2.2.1
  have hA0 : ∀ v ∈ (.ref b :: As), aSc σ.length v := fun v hv => hS v (aMemA hv)
  have hS2 : ∀ v ∈ S, aSc σ.length v := fun v hv => hS v (List.mem_append_right _ (List.mem_cons_of_mem _ hv))
  have hM' := hM X.2.2.2.1 hA0 l D cI cM ad H.size
  have hpre : ∀ U : State, U.heap = H → s.WarmedH U.vm → aPr D cI cM ad σ H.size U := fun U hU hW => ⟨by rw [hU], by rw [hU]; exact X.1, aK.warm hW hK, X.2.1.weaken (fun _ _ _ _ => trivial)⟩
  have hb2 : (aRm lv' mc' ms').frames + 1 ≤ R.frames ∧ 8 + (nL' + 11) + (aRm lv' mc' ms').locals ≤ R.locals := by
    have h1 := hRm.1
    have h2 := hRm.2.1
    show lv' + 1 ≤ R.frames ∧ 8 + (nL' + 11) + (60 * lv' + 20) ≤ R.locals
    omega
  have hf : k + mc' ≤ R.cells ∧ n + ms' ≤ R.slots := ⟨Nat.le_trans hmc hRm.2.2.1, Nat.le_trans hms hRm.2.2.2⟩
  have hW8 : 2 * (F0 m pc ls ((As.reverse ++ .ref b :: S).map (aRe ad))).monitorRoom + ((S.map (aRe ad)).map fun v => v.category).sum ≤ 8 := by
    rw [aCatSum]
    exact lv_room hsum
  have hAl : (As.map (aRe ad)).length = np := by rw [List.length_map]; exact hnp
  obtain ⟨w1, w2, w3, w4, w5, w6⟩ := hk
  have hrun := va_runI (e := e) (below := below) (meth := meth) (locs := locs) (cells := k) (slots := n) (rest := S.map (aRe ad)) (g := F0 m pc ls ((As.reverse ++ .ref b :: S).map (aRe ad))) (As := As.map (aRe ad)) ⟨C.1, C.2.1, C.2.2.1, C.2.2.2.1, C.2.2.2.2.1⟩ hM' (cwI np C.2.2.2.2.1 (aGood (aWd_c w4)) rfl rfl rfl (C.2.2.2.2.1 _ w3) (C.2.2.2.2.1 _ w1) (C.2.2.2.2.1 _ w2) w5 w6 hb2) ⟨aPr_blind, fun U hU hW => ⟨rfl, hpre U hU hW⟩⟩ rfl hAl hl.1.1 (by show List.map _ _ = _; rw [aRevMap]; rfl) hW8 hd hf
  refine a_call hrun X (a_free X C.2.2.2.2.2.2.2.1) (fun v σ' ad' H1 locs1 hp hw hln had X' => ?_)
  rw [← aRe_map had hS2, aTail]
  exact (kk v σ' hp hln).use C X' (aLo_ad hl hln had) (aTailSc hw (fun w h => aSc_mono hln (hS2 w h)))
theorem g_initn {host : String} (hd : aI3 cc pc (.invokespecial index) pc') (hk : aLIn Y.cls index y host cc' nL' np) (hM : AMet y cc' nL' none lv' mc' ms' (.ref b :: As) σ post') (hst : S0 = As.reverse ++ .ref b :: S) (hnp : As.length = np) (hlv : lv' + 1 ≤ lv) (hnl : nL' ≤ 41) (hsum : (S.map fun v => v.category).sum ≤ 8) (hmc : k + mc' ≤ mc) (hms : n + ms' ≤ ms) (kk : ∀ v σ', post' v σ' → σ.length ≤ σ'.length → G Y cc nL rt lv mc ms post (k + mc') (n + ms') pc' L (v.toList ++ S) σ') : G Y cc nL rt lv mc ms post k n pc L S0 σ := by
  intro D cI cM p l e R s m args below meth c A Q ad0 n0 H locs ls ad C X hl hS
  subst hst
  obtain ⟨hd, rfl⟩ := hd
  have hRm := C.2.2.2.2.2.2.2.2.1
  have hK := C.2.2.2.2.2.2.1
  have hA0 : ∀ v ∈ (.ref b :: As), aSc σ.length v := fun v hv => hS v (aMemA hv)
  have hS2 : ∀ v ∈ S, aSc σ.length v := fun v hv => hS v (List.mem_append_right _ (List.mem_cons_of_mem _ hv))
  have hM' := hM X.2.2.2.1 hA0 l D cI cM ad H.size
  have hpre : ∀ U : State, U.heap = H → s.WarmedH U.vm → aPr D cI cM ad σ H.size U := fun U hU hW => ⟨by rw [hU], by rw [hU]; exact X.1, aK.warm hW hK, X.2.1.weaken (fun _ _ _ _ => trivial)⟩
  have hb2 : (aRm lv' mc' ms').frames + 1 ≤ R.frames ∧ 8 + (nL' + 11) + (aRm lv' mc' ms').locals ≤ R.locals := by
    have h1 := hRm.1
    have h2 := hRm.2.1
    show lv' + 1 ≤ R.frames ∧ 8 + (nL' + 11) + (60 * lv' + 20) ≤ R.locals
    omega
  have hf : k + mc' ≤ R.cells ∧ n + ms' ≤ R.slots := ⟨Nat.le_trans hmc hRm.2.2.1, Nat.le_trans hms hRm.2.2.2⟩
  have hW8 : 2 * (F0 m pc ls ((As.reverse ++ .ref b :: S).map (aRe ad))).monitorRoom + ((S.map (aRe ad)).map fun v => v.category).sum ≤ 8 := by
    rw [aCatSum]
    exact lv_room hsum
  have hAl : (As.map (aRe ad)).length = np := by rw [List.length_map]; exact hnp
  obtain ⟨w1, w2, w3, w4, w5, w6⟩ := hk
  have hrun := va_runIN (e := e) (below := below) (meth := meth) (locs := locs) (cells := k) (slots := n) (rest := S.map (aRe ad)) (g := F0 m pc ls ((As.reverse ++ .ref b :: S).map (aRe ad))) (As := As.map (aRe ad)) ⟨C.1, C.2.1, C.2.2.1, C.2.2.2.1, C.2.2.2.2.1⟩ hM' ⟨va_cnB np C.2.2.2.2.1 (aGood (aWd_c w4)) rfl rfl rfl (hK.2.1 _ w1) (C.2.2.2.2.1 _ w3) w6 hb2, w5, C.2.2.2.2.1 _ w2⟩ ⟨aPr_blind, fun U hU hW => ⟨rfl, hpre U hU hW⟩⟩ rfl hAl hl.1.1 (by show List.map _ _ = _; rw [aRevMap]; rfl) hW8 hd hf
  refine a_call hrun X (a_free X C.2.2.2.2.2.2.2.1) (fun v σ' ad' H1 locs1 hp hw hln had X' => ?_)
  rw [← aRe_map had hS2, aTail]
  exact (kk v σ' hp hln).use C X' (aLo_ad hl hln had) (aTailSc hw (fun w h => aSc_mono hln (hS2 w h)))
theorem g_callU {ci : Nat} {fs : List Value} {r : vw_C} {owner : String} {x : MethodName} (hd : aI3 cc pc (.invokevirtual index) pc') (hk : aLU Y.cls index r.1 owner x y cc' nL' rt' np) (hσ : σ[b]? = some (.inr (.inr (ci, fs)))) (hr : vwCl[ci]? = some r) (hM : AMet y cc' nL' rt' lv' mc' ms' (.ref b :: As) σ post') (hst : S0 = As.reverse ++ .ref b :: S) (hnp : As.length = np) (hlv : lv' + 1 ≤ lv) (hnl : nL' ≤ 41) (hsum : (S.map fun v => v.category).sum ≤ 8) (hmc : k + mc' ≤ mc) (hms : n + ms' ≤ ms) (kk : ∀ v σ', post' v σ' → σ.length ≤ σ'.length → G Y cc nL rt lv mc ms post (k + mc') (n + ms') pc' L (v.toList ++ S) σ') : G Y cc nL rt lv mc ms post k n pc L S0 σ := by
  intro D cI cM p l e R s m args below meth c A Q ad0 n0 H locs ls ad C X hl hS
  subst hst
  obtain ⟨hd, rfl⟩ := hd
  have hRm := C.2.2.2.2.2.2.2.2.1
  have hK := C.2.2.2.2.2.2.1
  have hA0 : ∀ v ∈ (.ref b :: As), aSc σ.length v := fun v hv => hS v (aMemA hv)
  have hS2 : ∀ v ∈ S, aSc σ.length v := fun v hv => hS v (List.mem_append_right _ (List.mem_cons_of_mem _ hv))
  have hM' := hM X.2.2.2.1 hA0 l D cI cM ad H.size
  have hpre : ∀ U : State, U.heap = H → s.WarmedH U.vm → aPr D cI cM ad σ H.size U := fun U hU hW => ⟨by rw [hU], by rw [hU]; exact X.1, aK.warm hW hK, X.2.1.weaken (fun _ _ _ _ => trivial)⟩
  have hb2 : (aRm lv' mc' ms').frames + 1 ≤ R.frames ∧ 8 + (nL' + 11) + (aRm lv' mc' ms').locals ≤ R.locals := by
    have h1 := hRm.1
    have h2 := hRm.2.1
    show lv' + 1 ≤ R.frames ∧ 8 + (nL' + 11) + (60 * lv' + 20) ≤ R.locals
    omega
  have hf : k + mc' ≤ R.cells ∧ n + ms' ≤ R.slots := ⟨Nat.le_trans hmc hRm.2.2.1, Nat.le_trans hms hRm.2.2.2⟩
  have hW8 : 2 * (F0 m pc ls ((As.reverse ++ .ref b :: S).map (aRe ad))).monitorRoom + ((S.map (aRe ad)).map fun v => v.category).sum ≤ 8 := by
    rw [aCatSum]
    exact lv_room hsum
  have hAl : (As.map (aRe ad)).length = np := by rw [List.length_map]; exact hnp
  obtain ⟨w1, w2, w3, w4, w5, w6, w7, ⟨b0, m0, r0, w8⟩, w9⟩ := hk
  have hrun := va_runU (e := e) (below := below) (meth := meth) (locs := locs) (cells := k) (slots := n) (rest := S.map (aRe ad)) (g := F0 m pc ls ((As.reverse ++ .ref b :: S).map (aRe ad))) (As := As.map (aRe ad)) ⟨C.1, C.2.1, C.2.2.1, C.2.2.2.1, C.2.2.2.2.1⟩ hM' (va_cwO np C.2.2.2.2.1 (aGood (by unfold va_wsO; exact aCons6 w1 w2 w3 w4 w5 w6 (aWd_c w7))) rfl rfl rfl w8 w9 hb2) ⟨aPr_blind, va_recv hK.1 X.1 hr (aW_at (cI := cI) (cM := cM) (ad := ad) hσ), fun U hU hW => ⟨rfl, hpre U hU hW⟩⟩ rfl hAl hl.1.1 (by show List.map _ _ = _; rw [aRevMap]; rfl) hW8 hd hf
  refine a_call hrun X (a_free X C.2.2.2.2.2.2.2.1) (fun v σ' ad' H1 locs1 hp hw hln had X' => ?_)
  rw [← aRe_map had hS2, aTail]
  exact (kk v σ' hp hln).use C X' (aLo_ad hl hln had) (aTailSc hw (fun w h => aSc_mono hln (hS2 w h)))
theorem g_callSu {ci : Nat} {fs : List Value} {r : vw_C} (hd : aI3 cc pc (.invokespecial index) pc') (hk : aLSu Y.cls index y cc' nL' rt' np) (hσ : σ[b]? = some (.inr (.inr (ci, fs)))) (hr : vwCl[ci]? = some r) (hM : AMet y cc' nL' rt' lv' mc' ms' (.ref b :: As) σ post') (hst : S0 = As.reverse ++ .ref b :: S) (hnp : As.length = np) (hlv : lv' + 1 ≤ lv) (hnl : nL' ≤ 41) (hsum : (S.map fun v => v.category).sum ≤ 8) (hmc : k + mc' ≤ mc) (hms : n + ms' ≤ ms) (kk : ∀ v σ', post' v σ' → σ.length ≤ σ'.length → G Y cc nL rt lv mc ms post (k + mc') (n + ms') pc' L (v.toList ++ S) σ') : G Y cc nL rt lv mc ms post k n pc L S0 σ := by
  intro D cI cM p l e R s m args below meth c A Q ad0 n0 H locs ls ad C X hl hS
  subst hst
  obtain ⟨hd, rfl⟩ := hd
  have hRm := C.2.2.2.2.2.2.2.2.1
  have hK := C.2.2.2.2.2.2.1
  have hA0 : ∀ v ∈ (.ref b :: As), aSc σ.length v := fun v hv => hS v (aMemA hv)
  have hS2 : ∀ v ∈ S, aSc σ.length v := fun v hv => hS v (List.mem_append_right _ (List.mem_cons_of_mem _ hv))
  have hM' := hM X.2.2.2.1 hA0 l D cI cM ad H.size
  have hpre : ∀ U : State, U.heap = H → s.WarmedH U.vm → aPr D cI cM ad σ H.size U := fun U hU hW => ⟨by rw [hU], by rw [hU]; exact X.1, aK.warm hW hK, X.2.1.weaken (fun _ _ _ _ => trivial)⟩
  have hb2 : (aRm lv' mc' ms').frames + 1 ≤ R.frames ∧ 8 + (nL' + 11) + (aRm lv' mc' ms').locals ≤ R.locals := by
    have h1 := hRm.1
    have h2 := hRm.2.1
    show lv' + 1 ≤ R.frames ∧ 8 + (nL' + 11) + (60 * lv' + 20) ≤ R.locals
    omega
  have hf : k + mc' ≤ R.cells ∧ n + ms' ≤ R.slots := ⟨Nat.le_trans hmc hRm.2.2.1, Nat.le_trans hms hRm.2.2.2⟩
  have hW8 : 2 * (F0 m pc ls ((As.reverse ++ .ref b :: S).map (aRe ad))).monitorRoom + ((S.map (aRe ad)).map fun v => v.category).sum ≤ 8 := by
    rw [aCatSum]
    exact lv_room hsum
  have hAl : (As.map (aRe ad)).length = np := by rw [List.length_map]; exact hnp
  obtain ⟨w1, w2, w3, w4, w5, w6, w7, w8⟩ := hk
  have hrun := va_runSU (e := e) (below := below) (meth := meth) (locs := locs) (cells := k) (slots := n) (rest := S.map (aRe ad)) (g := F0 m pc ls ((As.reverse ++ .ref b :: S).map (aRe ad))) (As := As.map (aRe ad)) (hK.1.1 ci r hr).2 ⟨C.1, C.2.1, C.2.2.1, C.2.2.2.1, C.2.2.2.2.1⟩ hM' (va_cwSU np C.2.2.2.2.1 (aGood (by unfold va_wsSU; exact aCons5 w1 w2 w3 w4 w5 (aWd_c w6))) rfl rfl rfl ⟨w7, w8⟩ hb2) ⟨aPr_blind, va_recv hK.1 X.1 hr (aW_at (cI := cI) (cM := cM) (ad := ad) hσ), fun U hU hW => ⟨rfl, hpre U hU hW⟩⟩ rfl hAl hl.1.1 (by show List.map _ _ = _; rw [aRevMap]; rfl) hW8 hd hf
  refine a_call hrun X (a_free X C.2.2.2.2.2.2.2.1) (fun v σ' ad' H1 locs1 hp hw hln had X' => ?_)
  rw [← aRe_map had hS2, aTail]
  exact (kk v σ' hp hln).use C X' (aLo_ad hl hln had) (aTailSc hw (fun w h => aSc_mono hln (hS2 w h)))
theorem g_obj {b : Nat} (hd : aI3 cc pc (.invokespecial index) pc') (hw : Cond.methodLink Y.cls index Lib.objectInit ∈ aWd) (hlv : 1 ≤ lv) (hsum : (S.map fun v => v.category).sum ≤ 8) (kk : G Y cc nL rt lv mc ms post k n pc' L S σ) : G Y cc nL rt lv mc ms post k n pc L (.ref b :: S) σ := by
  intro D cI cM p l e R s m args below meth c A Q ad0 n0 H locs ls ad C X hl hS
  obtain ⟨hd, rfl⟩ := hd
  have hRm := C.2.2.2.2.2.2.2.2.1
  refine W.objInit (rest := S.map (aRe ad)) C.1 C.2.1 C.2.2.2.1 (C.2.2.2.2.1 _ hw) (C.2.2.2.2.1 _ aObj_1) (C.2.2.2.2.1 _ aObj_2) rfl (by rw [C.2.2.1]; exact hl.1.1) rfl hd (Nat.le_trans hlv hRm.1) ?_ (kk.use C X hl (aS1 hS))
  have h2 := hRm.2.1
  rw [aCatSum]
  have h3 := lv_room (m := m) (pc := pc) (ls := ls) (rest := S.map (aRe ad)) hsum
  show 2 * 0 + _ + 12 ≤ _
  omega
theorem g_max {x z : Int32} (hd : aI3 cc pc (.invokestatic index) pc') (hw : Cond.methodLink Y.cls index Lib.Math.max.name ∈ aWd) (hlv : 1 ≤ lv) (hsum : (S.map fun v => v.category).sum ≤ 8) (hmc : k ≤ mc) (hms : n ≤ ms) (kk : G Y cc nL rt lv mc ms post k n pc' L (.int (if x < z then z else x) :: S) σ) : G Y cc nL rt lv mc ms post k n pc L (.int z :: .int x :: S) σ := by
  intro D cI cM p l e R s m args below meth c A Q ad0 n0 H locs ls ad C X hl hS
  obtain ⟨hd, rfl⟩ := hd
  have hRm := C.2.2.2.2.2.2.2.2.1
  refine va_mmax (rest := S.map (aRe ad)) C.1 C.2.1 (C.2.2.1.trans hl.1.1.symm) C.2.2.2.1 (C.2.2.2.2.1 _ hw) (C.2.2.2.2.1 _ aMax_1) (C.2.2.2.2.1 _ aMax_2) (C.2.2.2.2.1 _ aMax_3) (Nat.le_trans hlv hRm.1) ?_ (Nat.le_trans hmc hRm.2.2.1) (Nat.le_trans hms hRm.2.2.2) hd (kk.use C X hl (aSI (aS2 hS)))
  have h2 := hRm.2.1
  rw [aCatSum]
  omega
theorem g_copy {a b : Nat} {xs ys : List Int32} {z : Int32} {N : Nat} (hd : aI3 cc pc (.invokestatic index) pc') (hw : Cond.methodLink Y.cls index arraycopyName ∈ aWd) (hlv : 1 ≤ lv) (hsum : (S.map fun v => v.category).sum ≤ 8) (ha : σ[a]? = some (.inl xs)) (hb : σ[b]? = some (.inl ys)) (hz : z = nI N) (h1 : xs.length = N) (h2 : ys.length = N) (kk : G Y cc nL rt lv mc ms post k n pc' L S (σ.set b (.inl xs))) : G Y cc nL rt lv mc ms post k n pc L (.int z :: .int 0 :: .ref b :: .int 0 :: .ref a :: S) σ := by
  intro D cI cM p l e R s m args below meth c A Q ad0 n0 H locs ls ad C X hl hS
  obtain ⟨hd, rfl⟩ := hd
  subst hz
  have hRm := C.2.2.2.2.2.2.2.2.1
  have hsc := aScH_at X.2.2.2.1 ha
  have hN : N < 65536 := by rw [← h1]; exact hsc
  have hcl : (nI N).toNatClampNeg = N := nI_clamp (by omega)
  have hz0 : (0 : Int32).toNatClampNeg = 0 := rfl
  refine va_copyi (rest := S.map (aRe ad)) (ty := .int) C.1 C.2.1 (C.2.2.1.trans hl.1.1.symm) C.2.2.2.1 (C.2.2.2.2.1 _ hw) (C.2.2.2.2.1 _ aCpy_1) (C.2.2.2.2.1 _ aCpy_2) (C.2.2.2.2.1 _ aCpy_3) C.2.2.2.2.2.2.1.1 X.1 X.2.1 X.2.2.1 a b 0 0 (aW_at ha) (aW_at hb) rfl rfl rfl (by decide) (by decide) (nI_pos (by omega)) (by rw [hcl, hz0]; omega) (by rw [hcl, hz0]; omega) (fun _ _ => rfl) (Nat.le_trans hlv hRm.1) ?_ hd (fun H1 locs1 hP hD hS1 => ?_)
  · have h2 := hRm.2.1
    rw [aCatSum]
    have h3 : nativeFrameWords "java/lang/System" "arraycopy" 5 + 11 ≤ 60 := by decide +kernel
    omega
  · have hf : ∀ j, ys.length ≤ j ∨ True → va_cpy (fun k => xs.getD k 0) (fun k => ys.getD k 0) (0 : Int32).toNatClampNeg (0 : Int32).toNatClampNeg (nI N).toNatClampNeg j = xs.getD j 0 := by
      intro j _
      rw [hcl, hz0]
      unfold va_cpy
      by_cases h : 0 ≤ j ∧ j < 0 + N
      · rw [if_pos h]
        simp
      · rw [if_neg h]
        show ys.getD j 0 = xs.getD j 0
        rw [List.getD_eq_getElem?_getD, List.getD_eq_getElem?_getD, List.getElem?_eq_none (by omega), List.getElem?_eq_none (by omega)]
    have hf2 : va_cpy (fun k => xs.getD k 0) (fun k => ys.getD k 0) (0 : Int32).toNatClampNeg (0 : Int32).toNatClampNeg (nI N).toNatClampNeg = fun k => xs.getD k 0 := funext (fun j => hf j (Or.inr trivial))
    rw [hf2, show ys.length = xs.length by omega] at hP hD
    refine kk.use C (X.put (c := .inl xs) hsc ?_ ?_ hS1) (by rw [List.length_set]; exact hl) (by rw [List.length_set]; exact fun v hv => hS v (List.mem_cons_of_mem _ (List.mem_cons_of_mem _ (List.mem_cons_of_mem _ (List.mem_cons_of_mem _ (List.mem_cons_of_mem _ hv))))))
    · show va_P D vwCl ((aW cI cM ad σ).set b (ad b, .inl (cI, xs.length, .inl (fun k => xs.getD k 0)))) H1
      exact hP
    · show va_D A ((aW cI cM ad σ).set b (ad b, .inl (cI, xs.length, .inl (fun k => xs.getD k 0))))
      exact hD
end AR2
end
section
theorem aWd_p {q : MethodName × Nat} (h : q ∈ lw_privs) : Cond.selects q.1.cls q.1 q.1 ∈ aWd := List.mem_filter.mpr ⟨List.mem_append_left _ (List.mem_map_of_mem h), rfl⟩
theorem wd_1_1 : Jvm.Cond.initialized "ReadAloud" ∈ aWd := aWd_1 (List.mem_of_getElem? (i := 1) rfl) rfl
theorem wd_1_2 : Jvm.Cond.initialized "ReadAloud$Page" ∈ aWd := aWd_1 (List.mem_of_getElem? (i := 2) rfl) rfl
theorem wd_1_3 : Jvm.Cond.initialized "ReadAloud$Walk" ∈ aWd := aWd_1 (List.mem_of_getElem? (i := 3) rfl) rfl
theorem wd_1_4 : Jvm.Cond.initialized "ReadAloud$State" ∈ aWd := aWd_1 (List.mem_of_getElem? (i := 4) rfl) rfl
theorem wd_1_5 : Jvm.Cond.initialized "ReadAloud$Sheet" ∈ aWd := aWd_1 (List.mem_of_getElem? (i := 5) rfl) rfl
theorem wd_1_6 : Jvm.Cond.initialized "ReadAloud$Heard" ∈ aWd := aWd_1 (List.mem_of_getElem? (i := 6) rfl) rfl
theorem wd_1_7 : Jvm.Cond.initialized "ReadAloud$Brief" ∈ aWd := aWd_1 (List.mem_of_getElem? (i := 7) rfl) rfl
theorem wd_1_8 : Jvm.Cond.initialized "ReadAloudModel" ∈ aWd := aWd_1 (List.mem_of_getElem? (i := 8) rfl) rfl
theorem wd_1_9 : Jvm.Cond.initialized "ReadAloud$Man" ∈ aWd := aWd_1 (List.mem_of_getElem? (i := 9) rfl) rfl
theorem wd_1_10 : Jvm.Cond.initialized "ReadAloud$Stammerer" ∈ aWd := aWd_1 (List.mem_of_getElem? (i := 10) rfl) rfl
theorem wd_1_11 : Jvm.Cond.initialized "ReadAloud$Actor" ∈ aWd := aWd_1 (List.mem_of_getElem? (i := 11) rfl) rfl
theorem wd_1_12 : Jvm.Cond.initialized "ReadAloud$Boy" ∈ aWd := aWd_1 (List.mem_of_getElem? (i := 12) rfl) rfl
theorem wd_1_13 : Jvm.Cond.initialized "ReadAloud$Weeper" ∈ aWd := aWd_1 (List.mem_of_getElem? (i := 13) rfl) rfl
theorem wd_1_14 : Jvm.Cond.initialized "java/lang/Integer" ∈ aWd := aWd_1 (List.mem_of_getElem? (i := 14) rfl) rfl
theorem wd_1_17 : Jvm.Cond.classLink "ReadAloudLaw" (7 : Nat) "ReadAloud" ∈ aWd := aWd_1 (List.mem_of_getElem? (i := 17) rfl) rfl
theorem wd_1_18 : Jvm.Cond.instantiable "ReadAloud" (10 : Nat) ∈ aWd := aWd_1 (List.mem_of_getElem? (i := 18) rfl) rfl
theorem wd_1_19 : Jvm.Cond.methodLink "ReadAloudLaw" (9 : Nat) ({ cls := "ReadAloud", name := "<init>", desc := "()V" } : Jvm.MethodName) ∈ aWd := aWd_1 (List.mem_of_getElem? (i := 19) rfl) rfl
theorem wd_1_20 : Jvm.Cond.instanceMethod ({ cls := "ReadAloud", name := "<init>", desc := "()V" } : Jvm.MethodName) ∈ aWd := aWd_1 (List.mem_of_getElem? (i := 20) rfl) rfl
theorem wd_1_21 : Jvm.Cond.code ({ cls := "ReadAloud", name := "<init>", desc := "()V" } : Jvm.MethodName) prog_1_method_1_code (1 : Nat) (Option.none : Option Jvm.ClassFile.FieldType) ∈ aWd := aWd_1 (List.mem_of_getElem? (i := 21) rfl) rfl
theorem wd_1_22 : Jvm.Cond.methodLink "ReadAloud" (1 : Nat) ({ cls := "java/lang/Object", name := "<init>", desc := "()V" } : Jvm.MethodName) ∈ aWd := aWd_1 (List.mem_of_getElem? (i := 22) rfl) rfl
theorem wd_1_25 : Jvm.Cond.classLink "ReadAloud" (7 : Nat) "ReadAloud$Page" ∈ aWd := aWd_1 (List.mem_of_getElem? (i := 25) rfl) rfl
theorem wd_1_26 : Jvm.Cond.instantiable "ReadAloud$Page" (3 : Nat) ∈ aWd := aWd_1 (List.mem_of_getElem? (i := 26) rfl) rfl
theorem wd_1_28 : Jvm.Cond.instanceMethod ({ cls := "ReadAloud$Page", name := "<init>", desc := "()V" } : Jvm.MethodName) ∈ aWd := aWd_1 (List.mem_of_getElem? (i := 28) rfl) rfl
theorem wd_1_29 : Jvm.Cond.code ({ cls := "ReadAloud$Page", name := "<init>", desc := "()V" } : Jvm.MethodName) prog_7_method_1_code (1 : Nat) (Option.none : Option Jvm.ClassFile.FieldType) ∈ aWd := aWd_1 (List.mem_of_getElem? (i := 29) rfl) rfl
theorem wd_1_30 : Jvm.Cond.methodLink "ReadAloud$Page" (3 : Nat) ({ cls := "java/lang/Object", name := "<init>", desc := "()V" } : Jvm.MethodName) ∈ aWd := aWd_1 (List.mem_of_getElem? (i := 30) rfl) rfl
theorem wd_1_31 : Jvm.Cond.classLink "ReadAloud$Page" (15 : Nat) "ReadAloud$Walk" ∈ aWd := aWd_1 (List.mem_of_getElem? (i := 31) rfl) rfl
theorem wd_1_32 : Jvm.Cond.instantiable "ReadAloud$Walk" (3 : Nat) ∈ aWd := aWd_1 (List.mem_of_getElem? (i := 32) rfl) rfl
theorem wd_1_34 : Jvm.Cond.instanceMethod ({ cls := "ReadAloud$Walk", name := "<init>", desc := "()V" } : Jvm.MethodName) ∈ aWd := aWd_1 (List.mem_of_getElem? (i := 34) rfl) rfl
theorem wd_1_35 : Jvm.Cond.code ({ cls := "ReadAloud$Walk", name := "<init>", desc := "()V" } : Jvm.MethodName) prog_11_method_1_code (1 : Nat) (Option.none : Option Jvm.ClassFile.FieldType) ∈ aWd := aWd_1 (List.mem_of_getElem? (i := 35) rfl) rfl
theorem wd_1_36 : Jvm.Cond.methodLink "ReadAloud$Walk" (3 : Nat) ({ cls := "java/lang/Object", name := "<init>", desc := "()V" } : Jvm.MethodName) ∈ aWd := aWd_1 (List.mem_of_getElem? (i := 36) rfl) rfl
theorem wd_1_37 : Jvm.Cond.fieldLink "ReadAloud$Walk" (22 : Nat) "ReadAloud$Walk" "part" "I" ∈ aWd := aWd_1 (List.mem_of_getElem? (i := 37) rfl) rfl
theorem wd_1_38 : Jvm.Cond.fieldLink "ReadAloud$Walk" (26 : Nat) "ReadAloud$Walk" "wordsOfPart" "I" ∈ aWd := aWd_1 (List.mem_of_getElem? (i := 38) rfl) rfl
theorem wd_1_39 : Jvm.Cond.fieldLink "ReadAloud$Walk" (29 : Nat) "ReadAloud$Walk" "lastWord" "I" ∈ aWd := aWd_1 (List.mem_of_getElem? (i := 39) rfl) rfl
theorem wd_1_40 : Jvm.Cond.lays "ReadAloud$Walk" "ReadAloud$Walk" "part" "I" ∈ aWd := aWd_1 (List.mem_of_getElem? (i := 40) rfl) rfl
theorem wd_1_42 : Jvm.Cond.lays "ReadAloud$Walk" "ReadAloud$Walk" "wordsOfPart" "I" ∈ aWd := aWd_1 (List.mem_of_getElem? (i := 42) rfl) rfl
theorem wd_1_44 : Jvm.Cond.lays "ReadAloud$Walk" "ReadAloud$Walk" "lastWord" "I" ∈ aWd := aWd_1 (List.mem_of_getElem? (i := 44) rfl) rfl
theorem wd_1_48 : Jvm.Cond.fieldLink "ReadAloud$Page" (9 : Nat) "ReadAloud$Page" "codes" "[I" ∈ aWd := aWd_1 (List.mem_of_getElem? (i := 48) rfl) rfl
theorem wd_1_49 : Jvm.Cond.fieldLink "ReadAloud$Page" (18 : Nat) "ReadAloud$Page" "walk" "LReadAloud$Walk;" ∈ aWd := aWd_1 (List.mem_of_getElem? (i := 49) rfl) rfl
theorem wd_1_50 : Jvm.Cond.fieldLink "ReadAloud$Page" (22 : Nat) "ReadAloud$Page" "size" "I" ∈ aWd := aWd_1 (List.mem_of_getElem? (i := 50) rfl) rfl
theorem wd_1_51 : Jvm.Cond.laysFinal "ReadAloud$Page" "ReadAloud$Page" "codes" "[I" ∈ aWd := aWd_1 (List.mem_of_getElem? (i := 51) rfl) rfl
theorem wd_1_53 : Jvm.Cond.laysFinal "ReadAloud$Page" "ReadAloud$Page" "walk" "LReadAloud$Walk;" ∈ aWd := aWd_1 (List.mem_of_getElem? (i := 53) rfl) rfl
theorem wd_1_55 : Jvm.Cond.lays "ReadAloud$Page" "ReadAloud$Page" "size" "I" ∈ aWd := aWd_1 (List.mem_of_getElem? (i := 55) rfl) rfl
theorem wd_1_58 : Jvm.Cond.classLink "ReadAloud" (20 : Nat) "ReadAloud$Man" ∈ aWd := aWd_1 (List.mem_of_getElem? (i := 58) rfl) rfl
theorem wd_1_60 : Jvm.Cond.classLink "ReadAloud" (26 : Nat) "ReadAloud$State" ∈ aWd := aWd_1 (List.mem_of_getElem? (i := 60) rfl) rfl
theorem wd_1_61 : Jvm.Cond.instantiable "ReadAloud$State" (6 : Nat) ∈ aWd := aWd_1 (List.mem_of_getElem? (i := 61) rfl) rfl
theorem wd_1_63 : Jvm.Cond.instanceMethod ({ cls := "ReadAloud$State", name := "<init>", desc := "()V" } : Jvm.MethodName) ∈ aWd := aWd_1 (List.mem_of_getElem? (i := 63) rfl) rfl
theorem wd_1_64 : Jvm.Cond.code ({ cls := "ReadAloud$State", name := "<init>", desc := "()V" } : Jvm.MethodName) prog_10_method_1_code (1 : Nat) (Option.none : Option Jvm.ClassFile.FieldType) ∈ aWd := aWd_1 (List.mem_of_getElem? (i := 64) rfl) rfl
theorem wd_1_65 : Jvm.Cond.methodLink "ReadAloud$State" (3 : Nat) ({ cls := "java/lang/Object", name := "<init>", desc := "()V" } : Jvm.MethodName) ∈ aWd := aWd_1 (List.mem_of_getElem? (i := 65) rfl) rfl
theorem wd_1_66 : Jvm.Cond.classLink "ReadAloud$State" (9 : Nat) "ReadAloud$Sheet" ∈ aWd := aWd_1 (List.mem_of_getElem? (i := 66) rfl) rfl
theorem wd_1_67 : Jvm.Cond.instantiable "ReadAloud$Sheet" (2 : Nat) ∈ aWd := aWd_1 (List.mem_of_getElem? (i := 67) rfl) rfl
theorem wd_1_69 : Jvm.Cond.instanceMethod ({ cls := "ReadAloud$Sheet", name := "<init>", desc := "()V" } : Jvm.MethodName) ∈ aWd := aWd_1 (List.mem_of_getElem? (i := 69) rfl) rfl
theorem wd_1_70 : Jvm.Cond.code ({ cls := "ReadAloud$Sheet", name := "<init>", desc := "()V" } : Jvm.MethodName) prog_8_method_1_code (1 : Nat) (Option.none : Option Jvm.ClassFile.FieldType) ∈ aWd := aWd_1 (List.mem_of_getElem? (i := 70) rfl) rfl
theorem wd_1_71 : Jvm.Cond.methodLink "ReadAloud$Sheet" (3 : Nat) ({ cls := "java/lang/Object", name := "<init>", desc := "()V" } : Jvm.MethodName) ∈ aWd := aWd_1 (List.mem_of_getElem? (i := 71) rfl) rfl
theorem wd_1_72 : Jvm.Cond.fieldLink "ReadAloud$Sheet" (9 : Nat) "ReadAloud$Sheet" "words" "[I" ∈ aWd := aWd_1 (List.mem_of_getElem? (i := 72) rfl) rfl
theorem wd_1_73 : Jvm.Cond.fieldLink "ReadAloud$Sheet" (15 : Nat) "ReadAloud$Sheet" "size" "I" ∈ aWd := aWd_1 (List.mem_of_getElem? (i := 73) rfl) rfl
theorem wd_1_74 : Jvm.Cond.laysFinal "ReadAloud$Sheet" "ReadAloud$Sheet" "words" "[I" ∈ aWd := aWd_1 (List.mem_of_getElem? (i := 74) rfl) rfl
theorem wd_1_76 : Jvm.Cond.lays "ReadAloud$Sheet" "ReadAloud$Sheet" "size" "I" ∈ aWd := aWd_1 (List.mem_of_getElem? (i := 76) rfl) rfl
theorem wd_1_79 : Jvm.Cond.classLink "ReadAloud$State" (18 : Nat) "ReadAloud$Heard" ∈ aWd := aWd_1 (List.mem_of_getElem? (i := 79) rfl) rfl
theorem wd_1_80 : Jvm.Cond.instantiable "ReadAloud$Heard" (3 : Nat) ∈ aWd := aWd_1 (List.mem_of_getElem? (i := 80) rfl) rfl
theorem wd_1_82 : Jvm.Cond.instanceMethod ({ cls := "ReadAloud$Heard", name := "<init>", desc := "()V" } : Jvm.MethodName) ∈ aWd := aWd_1 (List.mem_of_getElem? (i := 82) rfl) rfl
theorem wd_1_83 : Jvm.Cond.code ({ cls := "ReadAloud$Heard", name := "<init>", desc := "()V" } : Jvm.MethodName) prog_5_method_1_code (1 : Nat) (Option.none : Option Jvm.ClassFile.FieldType) ∈ aWd := aWd_1 (List.mem_of_getElem? (i := 83) rfl) rfl
theorem wd_1_84 : Jvm.Cond.methodLink "ReadAloud$Heard" (3 : Nat) ({ cls := "java/lang/Object", name := "<init>", desc := "()V" } : Jvm.MethodName) ∈ aWd := aWd_1 (List.mem_of_getElem? (i := 84) rfl) rfl
theorem wd_1_85 : Jvm.Cond.fieldLink "ReadAloud$Heard" (9 : Nat) "ReadAloud$Heard" "whom" "[I" ∈ aWd := aWd_1 (List.mem_of_getElem? (i := 85) rfl) rfl
theorem wd_1_86 : Jvm.Cond.fieldLink "ReadAloud$Heard" (15 : Nat) "ReadAloud$Heard" "deeds" "[I" ∈ aWd := aWd_1 (List.mem_of_getElem? (i := 86) rfl) rfl
theorem wd_1_87 : Jvm.Cond.fieldLink "ReadAloud$Heard" (18 : Nat) "ReadAloud$Heard" "size" "I" ∈ aWd := aWd_1 (List.mem_of_getElem? (i := 87) rfl) rfl
theorem wd_1_88 : Jvm.Cond.laysFinal "ReadAloud$Heard" "ReadAloud$Heard" "whom" "[I" ∈ aWd := aWd_1 (List.mem_of_getElem? (i := 88) rfl) rfl
theorem wd_1_90 : Jvm.Cond.laysFinal "ReadAloud$Heard" "ReadAloud$Heard" "deeds" "[I" ∈ aWd := aWd_1 (List.mem_of_getElem? (i := 90) rfl) rfl
theorem wd_1_92 : Jvm.Cond.lays "ReadAloud$Heard" "ReadAloud$Heard" "size" "I" ∈ aWd := aWd_1 (List.mem_of_getElem? (i := 92) rfl) rfl
theorem wd_1_95 : Jvm.Cond.fieldLink "ReadAloud$State" (12 : Nat) "ReadAloud$State" "sheet" "LReadAloud$Sheet;" ∈ aWd := aWd_1 (List.mem_of_getElem? (i := 95) rfl) rfl
theorem wd_1_96 : Jvm.Cond.fieldLink "ReadAloud" (79 : Nat) "ReadAloud$State" "sheet" "LReadAloud$Sheet;" ∈ aWd := aWd_1 (List.mem_of_getElem? (i := 96) rfl) rfl
theorem wd_1_97 : Jvm.Cond.fieldLink "ReadAloud$State" (21 : Nat) "ReadAloud$State" "heard" "LReadAloud$Heard;" ∈ aWd := aWd_1 (List.mem_of_getElem? (i := 97) rfl) rfl
theorem wd_1_98 : Jvm.Cond.fieldLink "ReadAloud" (140 : Nat) "ReadAloud$State" "heard" "LReadAloud$Heard;" ∈ aWd := aWd_1 (List.mem_of_getElem? (i := 98) rfl) rfl
theorem wd_1_99 : Jvm.Cond.fieldLink "ReadAloud$State" (25 : Nat) "ReadAloud$State" "hidden" "[I" ∈ aWd := aWd_1 (List.mem_of_getElem? (i := 99) rfl) rfl
theorem wd_1_100 : Jvm.Cond.fieldLink "ReadAloud" (115 : Nat) "ReadAloud$State" "hidden" "[I" ∈ aWd := aWd_1 (List.mem_of_getElem? (i := 100) rfl) rfl
theorem wd_1_101 : Jvm.Cond.fieldLink "ReadAloud$State" (33 : Nat) "ReadAloud$State" "limit" "I" ∈ aWd := aWd_1 (List.mem_of_getElem? (i := 101) rfl) rfl
theorem wd_1_102 : Jvm.Cond.fieldLink "ReadAloud" (103 : Nat) "ReadAloud$State" "limit" "I" ∈ aWd := aWd_1 (List.mem_of_getElem? (i := 102) rfl) rfl
theorem wd_1_103 : Jvm.Cond.fieldLink "ReadAloud$State" (37 : Nat) "ReadAloud$State" "men" "I" ∈ aWd := aWd_1 (List.mem_of_getElem? (i := 103) rfl) rfl
theorem wd_1_104 : Jvm.Cond.fieldLink "ReadAloud" (109 : Nat) "ReadAloud$State" "men" "I" ∈ aWd := aWd_1 (List.mem_of_getElem? (i := 104) rfl) rfl
theorem wd_1_105 : Jvm.Cond.fieldLink "ReadAloud$State" (40 : Nat) "ReadAloud$State" "changes" "I" ∈ aWd := aWd_1 (List.mem_of_getElem? (i := 105) rfl) rfl
theorem wd_1_106 : Jvm.Cond.fieldLink "ReadAloud" (100 : Nat) "ReadAloud$State" "changes" "I" ∈ aWd := aWd_1 (List.mem_of_getElem? (i := 106) rfl) rfl
theorem wd_1_107 : Jvm.Cond.laysFinal "ReadAloud$State" "ReadAloud$State" "sheet" "LReadAloud$Sheet;" ∈ aWd := aWd_1 (List.mem_of_getElem? (i := 107) rfl) rfl
theorem wd_1_109 : Jvm.Cond.laysFinal "ReadAloud$State" "ReadAloud$State" "heard" "LReadAloud$Heard;" ∈ aWd := aWd_1 (List.mem_of_getElem? (i := 109) rfl) rfl
theorem wd_1_111 : Jvm.Cond.laysFinal "ReadAloud$State" "ReadAloud$State" "hidden" "[I" ∈ aWd := aWd_1 (List.mem_of_getElem? (i := 111) rfl) rfl
theorem wd_1_113 : Jvm.Cond.lays "ReadAloud$State" "ReadAloud$State" "limit" "I" ∈ aWd := aWd_1 (List.mem_of_getElem? (i := 113) rfl) rfl
theorem wd_1_115 : Jvm.Cond.lays "ReadAloud$State" "ReadAloud$State" "men" "I" ∈ aWd := aWd_1 (List.mem_of_getElem? (i := 115) rfl) rfl
theorem wd_1_117 : Jvm.Cond.lays "ReadAloud$State" "ReadAloud$State" "changes" "I" ∈ aWd := aWd_1 (List.mem_of_getElem? (i := 117) rfl) rfl
theorem wd_1_120 : Jvm.Cond.classLink "ReadAloud" (36 : Nat) "ReadAloud$Sheet" ∈ aWd := aWd_1 (List.mem_of_getElem? (i := 120) rfl) rfl
theorem wd_1_122 : Jvm.Cond.classLink "ReadAloud" (43 : Nat) "ReadAloud$Brief" ∈ aWd := aWd_1 (List.mem_of_getElem? (i := 122) rfl) rfl
theorem wd_1_123 : Jvm.Cond.instantiable "ReadAloud$Brief" (3 : Nat) ∈ aWd := aWd_1 (List.mem_of_getElem? (i := 123) rfl) rfl
theorem wd_1_125 : Jvm.Cond.instanceMethod ({ cls := "ReadAloud$Brief", name := "<init>", desc := "()V" } : Jvm.MethodName) ∈ aWd := aWd_1 (List.mem_of_getElem? (i := 125) rfl) rfl
theorem wd_1_126 : Jvm.Cond.code ({ cls := "ReadAloud$Brief", name := "<init>", desc := "()V" } : Jvm.MethodName) prog_4_method_1_code (1 : Nat) (Option.none : Option Jvm.ClassFile.FieldType) ∈ aWd := aWd_1 (List.mem_of_getElem? (i := 126) rfl) rfl
theorem wd_1_127 : Jvm.Cond.methodLink "ReadAloud$Brief" (3 : Nat) ({ cls := "java/lang/Object", name := "<init>", desc := "()V" } : Jvm.MethodName) ∈ aWd := aWd_1 (List.mem_of_getElem? (i := 127) rfl) rfl
theorem wd_1_128 : Jvm.Cond.fieldLink "ReadAloud$Brief" (9 : Nat) "ReadAloud$Brief" "pairsTold" "[I" ∈ aWd := aWd_1 (List.mem_of_getElem? (i := 128) rfl) rfl
theorem wd_1_129 : Jvm.Cond.fieldLink "ReadAloud$Brief" (15 : Nat) "ReadAloud$Brief" "words" "[I" ∈ aWd := aWd_1 (List.mem_of_getElem? (i := 129) rfl) rfl
theorem wd_1_130 : Jvm.Cond.fieldLink "ReadAloud$Brief" (18 : Nat) "ReadAloud$Brief" "size" "I" ∈ aWd := aWd_1 (List.mem_of_getElem? (i := 130) rfl) rfl
theorem wd_1_131 : Jvm.Cond.laysFinal "ReadAloud$Brief" "ReadAloud$Brief" "pairsTold" "[I" ∈ aWd := aWd_1 (List.mem_of_getElem? (i := 131) rfl) rfl
theorem wd_1_133 : Jvm.Cond.laysFinal "ReadAloud$Brief" "ReadAloud$Brief" "words" "[I" ∈ aWd := aWd_1 (List.mem_of_getElem? (i := 133) rfl) rfl
theorem wd_1_135 : Jvm.Cond.lays "ReadAloud$Brief" "ReadAloud$Brief" "size" "I" ∈ aWd := aWd_1 (List.mem_of_getElem? (i := 135) rfl) rfl
theorem wd_1_138 : Jvm.Cond.fieldLink "ReadAloud" (10 : Nat) "ReadAloud" "page" "LReadAloud$Page;" ∈ aWd := aWd_1 (List.mem_of_getElem? (i := 138) rfl) rfl
theorem wd_1_139 : Jvm.Cond.fieldLink "ReadAloud" (16 : Nat) "ReadAloud" "near" "[I" ∈ aWd := aWd_1 (List.mem_of_getElem? (i := 139) rfl) rfl
theorem wd_1_140 : Jvm.Cond.fieldLink "ReadAloud" (22 : Nat) "ReadAloud" "men" "[LReadAloud$Man;" ∈ aWd := aWd_1 (List.mem_of_getElem? (i := 140) rfl) rfl
theorem wd_1_141 : Jvm.Cond.fieldLink "ReadAloud" (29 : Nat) "ReadAloud" "now" "LReadAloud$State;" ∈ aWd := aWd_1 (List.mem_of_getElem? (i := 141) rfl) rfl
theorem wd_1_142 : Jvm.Cond.fieldLink "ReadAloud" (33 : Nat) "ReadAloud" "kept" "LReadAloud$State;" ∈ aWd := aWd_1 (List.mem_of_getElem? (i := 142) rfl) rfl
theorem wd_1_143 : Jvm.Cond.fieldLink "ReadAloud" (39 : Nat) "ReadAloud" "drawn" "LReadAloud$Sheet;" ∈ aWd := aWd_1 (List.mem_of_getElem? (i := 143) rfl) rfl
theorem wd_1_144 : Jvm.Cond.fieldLink "ReadAloud" (46 : Nat) "ReadAloud" "shortest" "LReadAloud$Brief;" ∈ aWd := aWd_1 (List.mem_of_getElem? (i := 144) rfl) rfl
theorem wd_1_145 : Jvm.Cond.fieldLink "ReadAloud" (71 : Nat) "ReadAloud" "imageKept" "Z" ∈ aWd := aWd_1 (List.mem_of_getElem? (i := 145) rfl) rfl
theorem wd_1_146 : Jvm.Cond.fieldLink "ReadAloud" (75 : Nat) "ReadAloud" "courtsRead" "I" ∈ aWd := aWd_1 (List.mem_of_getElem? (i := 146) rfl) rfl
theorem wd_1_147 : Jvm.Cond.fieldLink "ReadAloud" (159 : Nat) "ReadAloud" "briefsDone" "I" ∈ aWd := aWd_1 (List.mem_of_getElem? (i := 147) rfl) rfl
theorem wd_1_148 : Jvm.Cond.laysFinal "ReadAloud" "ReadAloud" "page" "LReadAloud$Page;" ∈ aWd := aWd_1 (List.mem_of_getElem? (i := 148) rfl) rfl
theorem wd_1_150 : Jvm.Cond.laysFinal "ReadAloud" "ReadAloud" "near" "[I" ∈ aWd := aWd_1 (List.mem_of_getElem? (i := 150) rfl) rfl
theorem wd_1_152 : Jvm.Cond.laysFinal "ReadAloud" "ReadAloud" "men" "[LReadAloud$Man;" ∈ aWd := aWd_1 (List.mem_of_getElem? (i := 152) rfl) rfl
theorem wd_1_154 : Jvm.Cond.laysFinal "ReadAloud" "ReadAloud" "now" "LReadAloud$State;" ∈ aWd := aWd_1 (List.mem_of_getElem? (i := 154) rfl) rfl
theorem wd_1_156 : Jvm.Cond.laysFinal "ReadAloud" "ReadAloud" "kept" "LReadAloud$State;" ∈ aWd := aWd_1 (List.mem_of_getElem? (i := 156) rfl) rfl
theorem wd_1_158 : Jvm.Cond.laysFinal "ReadAloud" "ReadAloud" "drawn" "LReadAloud$Sheet;" ∈ aWd := aWd_1 (List.mem_of_getElem? (i := 158) rfl) rfl
theorem wd_1_160 : Jvm.Cond.laysFinal "ReadAloud" "ReadAloud" "shortest" "LReadAloud$Brief;" ∈ aWd := aWd_1 (List.mem_of_getElem? (i := 160) rfl) rfl
theorem wd_1_162 : Jvm.Cond.lays "ReadAloud" "ReadAloud" "imageKept" "Z" ∈ aWd := aWd_1 (List.mem_of_getElem? (i := 162) rfl) rfl
theorem wd_1_164 : Jvm.Cond.lays "ReadAloud" "ReadAloud" "courtsRead" "I" ∈ aWd := aWd_1 (List.mem_of_getElem? (i := 164) rfl) rfl
theorem wd_1_166 : Jvm.Cond.lays "ReadAloud" "ReadAloud" "briefsDone" "I" ∈ aWd := aWd_1 (List.mem_of_getElem? (i := 166) rfl) rfl
theorem wd_1_169 : Jvm.Cond.methodLink "ReadAloudLaw" (13 : Nat) ({ cls := "ReadAloud", name := "letter", desc := "(I)I" } : Jvm.MethodName) ∈ aWd := aWd_1 (List.mem_of_getElem? (i := 169) rfl) rfl
theorem wd_1_170 : Jvm.Cond.instanceMethod ({ cls := "ReadAloud", name := "letter", desc := "(I)I" } : Jvm.MethodName) ∈ aWd := aWd_1 (List.mem_of_getElem? (i := 170) rfl) rfl
theorem wd_1_171 : Jvm.Cond.selects "ReadAloud" ({ cls := "ReadAloud", name := "letter", desc := "(I)I" } : Jvm.MethodName) ({ cls := "ReadAloud", name := "letter", desc := "(I)I" } : Jvm.MethodName) ∈ aWd := aWd_1 (List.mem_of_getElem? (i := 171) rfl) rfl
theorem wd_1_172 : Jvm.Cond.code ({ cls := "ReadAloud", name := "letter", desc := "(I)I" } : Jvm.MethodName) prog_1_method_2_code (2 : Nat) (Option.some Jvm.ClassFile.FieldType.int) ∈ aWd := aWd_1 (List.mem_of_getElem? (i := 172) rfl) rfl
theorem wd_1_173 : Jvm.Cond.methodLink "ReadAloud" (50 : Nat) ({ cls := "ReadAloud$Page", name := "add", desc := "(I)Z" } : Jvm.MethodName) ∈ aWd := aWd_1 (List.mem_of_getElem? (i := 173) rfl) rfl
theorem wd_1_174 : Jvm.Cond.instanceMethod ({ cls := "ReadAloud$Page", name := "add", desc := "(I)Z" } : Jvm.MethodName) ∈ aWd := aWd_1 (List.mem_of_getElem? (i := 174) rfl) rfl
theorem wd_1_175 : Jvm.Cond.selects "ReadAloud$Page" ({ cls := "ReadAloud$Page", name := "add", desc := "(I)Z" } : Jvm.MethodName) ({ cls := "ReadAloud$Page", name := "add", desc := "(I)Z" } : Jvm.MethodName) ∈ aWd := aWd_1 (List.mem_of_getElem? (i := 175) rfl) rfl
theorem wd_1_176 : Jvm.Cond.code ({ cls := "ReadAloud$Page", name := "add", desc := "(I)Z" } : Jvm.MethodName) prog_7_method_4_code (2 : Nat) (Option.some Jvm.ClassFile.FieldType.boolean) ∈ aWd := aWd_1 (List.mem_of_getElem? (i := 176) rfl) rfl
theorem wd_1_177 : Jvm.Cond.methodLink "ReadAloud" (54 : Nat) ({ cls := "ReadAloud$Page", name := "size", desc := "()I" } : Jvm.MethodName) ∈ aWd := aWd_1 (List.mem_of_getElem? (i := 177) rfl) rfl
theorem wd_1_178 : Jvm.Cond.instanceMethod ({ cls := "ReadAloud$Page", name := "size", desc := "()I" } : Jvm.MethodName) ∈ aWd := aWd_1 (List.mem_of_getElem? (i := 178) rfl) rfl
theorem wd_1_179 : Jvm.Cond.selects "ReadAloud$Page" ({ cls := "ReadAloud$Page", name := "size", desc := "()I" } : Jvm.MethodName) ({ cls := "ReadAloud$Page", name := "size", desc := "()I" } : Jvm.MethodName) ∈ aWd := aWd_1 (List.mem_of_getElem? (i := 179) rfl) rfl
theorem wd_1_180 : Jvm.Cond.code ({ cls := "ReadAloud$Page", name := "size", desc := "()I" } : Jvm.MethodName) prog_7_method_2_code (1 : Nat) (Option.some Jvm.ClassFile.FieldType.int) ∈ aWd := aWd_1 (List.mem_of_getElem? (i := 180) rfl) rfl
theorem wd_1_181 : Jvm.Cond.methodLink "ReadAloudLaw" (18 : Nat) ({ cls := "ReadAloud", name := "blank", desc := "()I" } : Jvm.MethodName) ∈ aWd := aWd_1 (List.mem_of_getElem? (i := 181) rfl) rfl
theorem wd_1_182 : Jvm.Cond.instanceMethod ({ cls := "ReadAloud", name := "blank", desc := "()I" } : Jvm.MethodName) ∈ aWd := aWd_1 (List.mem_of_getElem? (i := 182) rfl) rfl
theorem wd_1_183 : Jvm.Cond.selects "ReadAloud" ({ cls := "ReadAloud", name := "blank", desc := "()I" } : Jvm.MethodName) ({ cls := "ReadAloud", name := "blank", desc := "()I" } : Jvm.MethodName) ∈ aWd := aWd_1 (List.mem_of_getElem? (i := 183) rfl) rfl
theorem wd_1_184 : Jvm.Cond.code ({ cls := "ReadAloud", name := "blank", desc := "()I" } : Jvm.MethodName) prog_1_method_3_code (2 : Nat) (Option.some Jvm.ClassFile.FieldType.int) ∈ aWd := aWd_1 (List.mem_of_getElem? (i := 184) rfl) rfl
theorem wd_1_185 : Jvm.Cond.methodLink "ReadAloud" (58 : Nat) ({ cls := "ReadAloud$Page", name := "clear", desc := "()V" } : Jvm.MethodName) ∈ aWd := aWd_1 (List.mem_of_getElem? (i := 185) rfl) rfl
theorem wd_1_186 : Jvm.Cond.instanceMethod ({ cls := "ReadAloud$Page", name := "clear", desc := "()V" } : Jvm.MethodName) ∈ aWd := aWd_1 (List.mem_of_getElem? (i := 186) rfl) rfl
theorem wd_1_187 : Jvm.Cond.selects "ReadAloud$Page" ({ cls := "ReadAloud$Page", name := "clear", desc := "()V" } : Jvm.MethodName) ({ cls := "ReadAloud$Page", name := "clear", desc := "()V" } : Jvm.MethodName) ∈ aWd := aWd_1 (List.mem_of_getElem? (i := 187) rfl) rfl
theorem wd_1_188 : Jvm.Cond.code ({ cls := "ReadAloud$Page", name := "clear", desc := "()V" } : Jvm.MethodName) prog_7_method_5_code (1 : Nat) (Option.none : Option Jvm.ClassFile.FieldType) ∈ aWd := aWd_1 (List.mem_of_getElem? (i := 188) rfl) rfl
theorem wd_1_189 : Jvm.Cond.methodLink "ReadAloudLaw" (23 : Nat) ({ cls := "ReadAloud", name := "fault", desc := "()I" } : Jvm.MethodName) ∈ aWd := aWd_1 (List.mem_of_getElem? (i := 189) rfl) rfl
theorem wd_1_190 : Jvm.Cond.instanceMethod ({ cls := "ReadAloud", name := "fault", desc := "()I" } : Jvm.MethodName) ∈ aWd := aWd_1 (List.mem_of_getElem? (i := 190) rfl) rfl
theorem wd_1_191 : Jvm.Cond.selects "ReadAloud" ({ cls := "ReadAloud", name := "fault", desc := "()I" } : Jvm.MethodName) ({ cls := "ReadAloud", name := "fault", desc := "()I" } : Jvm.MethodName) ∈ aWd := aWd_1 (List.mem_of_getElem? (i := 191) rfl) rfl
theorem wd_1_192 : Jvm.Cond.code ({ cls := "ReadAloud", name := "fault", desc := "()I" } : Jvm.MethodName) prog_1_method_4_code (1 : Nat) (Option.some Jvm.ClassFile.FieldType.int) ∈ aWd := aWd_1 (List.mem_of_getElem? (i := 192) rfl) rfl
theorem wd_1_193 : Jvm.Cond.methodLink "ReadAloud" (61 : Nat) ({ cls := "ReadAloud$Page", name := "faultPlace", desc := "()I" } : Jvm.MethodName) ∈ aWd := aWd_1 (List.mem_of_getElem? (i := 193) rfl) rfl
theorem wd_1_194 : Jvm.Cond.instanceMethod ({ cls := "ReadAloud$Page", name := "faultPlace", desc := "()I" } : Jvm.MethodName) ∈ aWd := aWd_1 (List.mem_of_getElem? (i := 194) rfl) rfl
theorem wd_1_195 : Jvm.Cond.selects "ReadAloud$Page" ({ cls := "ReadAloud$Page", name := "faultPlace", desc := "()I" } : Jvm.MethodName) ({ cls := "ReadAloud$Page", name := "faultPlace", desc := "()I" } : Jvm.MethodName) ∈ aWd := aWd_1 (List.mem_of_getElem? (i := 195) rfl) rfl
theorem wd_1_196 : Jvm.Cond.code ({ cls := "ReadAloud$Page", name := "faultPlace", desc := "()I" } : Jvm.MethodName) prog_7_method_6_code (2 : Nat) (Option.some Jvm.ClassFile.FieldType.int) ∈ aWd := aWd_1 (List.mem_of_getElem? (i := 196) rfl) rfl
theorem wd_1_197 : Jvm.Cond.methodLink "ReadAloud$Page" (26 : Nat) ({ cls := "ReadAloud$Walk", name := "begin", desc := "()V" } : Jvm.MethodName) ∈ aWd := aWd_1 (List.mem_of_getElem? (i := 197) rfl) rfl
theorem wd_1_198 : Jvm.Cond.instanceMethod ({ cls := "ReadAloud$Walk", name := "begin", desc := "()V" } : Jvm.MethodName) ∈ aWd := aWd_1 (List.mem_of_getElem? (i := 198) rfl) rfl
theorem wd_1_199 : Jvm.Cond.selects "ReadAloud$Walk" ({ cls := "ReadAloud$Walk", name := "begin", desc := "()V" } : Jvm.MethodName) ({ cls := "ReadAloud$Walk", name := "begin", desc := "()V" } : Jvm.MethodName) ∈ aWd := aWd_1 (List.mem_of_getElem? (i := 199) rfl) rfl
theorem wd_1_200 : Jvm.Cond.code ({ cls := "ReadAloud$Walk", name := "begin", desc := "()V" } : Jvm.MethodName) prog_11_method_2_code (1 : Nat) (Option.none : Option Jvm.ClassFile.FieldType) ∈ aWd := aWd_1 (List.mem_of_getElem? (i := 200) rfl) rfl
theorem wd_1_201 : Jvm.Cond.methodLink "ReadAloud$Walk" (9 : Nat) ({ cls := "ReadAloud$Walk", name := "enter", desc := "(I)V" } : Jvm.MethodName) ∈ aWd := aWd_1 (List.mem_of_getElem? (i := 201) rfl) rfl
theorem wd_1_203 : Jvm.Cond.instanceMethod ({ cls := "ReadAloud$Walk", name := "enter", desc := "(I)V" } : Jvm.MethodName) ∈ aWd := aWd_1 (List.mem_of_getElem? (i := 203) rfl) rfl
theorem wd_1_204 : Jvm.Cond.code ({ cls := "ReadAloud$Walk", name := "enter", desc := "(I)V" } : Jvm.MethodName) prog_11_method_5_code (2 : Nat) (Option.none : Option Jvm.ClassFile.FieldType) ∈ aWd := aWd_1 (List.mem_of_getElem? (i := 204) rfl) rfl
theorem wd_1_205 : Jvm.Cond.methodLink "ReadAloud$Page" (29 : Nat) ({ cls := "ReadAloud$Walk", name := "passes", desc := "(I)Z" } : Jvm.MethodName) ∈ aWd := aWd_1 (List.mem_of_getElem? (i := 205) rfl) rfl
theorem wd_1_206 : Jvm.Cond.instanceMethod ({ cls := "ReadAloud$Walk", name := "passes", desc := "(I)Z" } : Jvm.MethodName) ∈ aWd := aWd_1 (List.mem_of_getElem? (i := 206) rfl) rfl
theorem wd_1_207 : Jvm.Cond.selects "ReadAloud$Walk" ({ cls := "ReadAloud$Walk", name := "passes", desc := "(I)Z" } : Jvm.MethodName) ({ cls := "ReadAloud$Walk", name := "passes", desc := "(I)Z" } : Jvm.MethodName) ∈ aWd := aWd_1 (List.mem_of_getElem? (i := 207) rfl) rfl
theorem wd_1_208 : Jvm.Cond.code ({ cls := "ReadAloud$Walk", name := "passes", desc := "(I)Z" } : Jvm.MethodName) prog_11_method_3_code (3 : Nat) (Option.some Jvm.ClassFile.FieldType.boolean) ∈ aWd := aWd_1 (List.mem_of_getElem? (i := 208) rfl) rfl
theorem wd_1_210 : Jvm.Cond.static ({ cls := "ReadAloud", name := "isWord", desc := "(I)Z" } : Jvm.MethodName) ∈ aWd := aWd_1 (List.mem_of_getElem? (i := 210) rfl) rfl
theorem wd_1_211 : Jvm.Cond.code ({ cls := "ReadAloud", name := "isWord", desc := "(I)Z" } : Jvm.MethodName) prog_1_method_26_code (1 : Nat) (Option.some Jvm.ClassFile.FieldType.boolean) ∈ aWd := aWd_1 (List.mem_of_getElem? (i := 211) rfl) rfl
theorem wd_1_212 : Jvm.Cond.methodLink "ReadAloud$Walk" (19 : Nat) ({ cls := "ReadAloud$Walk", name := "passesWord", desc := "(I)Z" } : Jvm.MethodName) ∈ aWd := aWd_1 (List.mem_of_getElem? (i := 212) rfl) rfl
theorem wd_1_214 : Jvm.Cond.instanceMethod ({ cls := "ReadAloud$Walk", name := "passesWord", desc := "(I)Z" } : Jvm.MethodName) ∈ aWd := aWd_1 (List.mem_of_getElem? (i := 214) rfl) rfl
theorem wd_1_215 : Jvm.Cond.code ({ cls := "ReadAloud$Walk", name := "passesWord", desc := "(I)Z" } : Jvm.MethodName) prog_11_method_6_code (3 : Nat) (Option.some Jvm.ClassFile.FieldType.boolean) ∈ aWd := aWd_1 (List.mem_of_getElem? (i := 215) rfl) rfl
theorem wd_1_216 : Jvm.Cond.methodLink "ReadAloudLaw" (27 : Nat) ({ cls := "ReadAloud", name := "court", desc := "()I" } : Jvm.MethodName) ∈ aWd := aWd_1 (List.mem_of_getElem? (i := 216) rfl) rfl
theorem wd_1_217 : Jvm.Cond.instanceMethod ({ cls := "ReadAloud", name := "court", desc := "()I" } : Jvm.MethodName) ∈ aWd := aWd_1 (List.mem_of_getElem? (i := 217) rfl) rfl
theorem wd_1_218 : Jvm.Cond.selects "ReadAloud" ({ cls := "ReadAloud", name := "court", desc := "()I" } : Jvm.MethodName) ({ cls := "ReadAloud", name := "court", desc := "()I" } : Jvm.MethodName) ∈ aWd := aWd_1 (List.mem_of_getElem? (i := 218) rfl) rfl
theorem wd_1_219 : Jvm.Cond.code ({ cls := "ReadAloud", name := "court", desc := "()I" } : Jvm.MethodName) prog_1_method_5_code (1 : Nat) (Option.some Jvm.ClassFile.FieldType.int) ∈ aWd := aWd_1 (List.mem_of_getElem? (i := 219) rfl) rfl
theorem wd_1_220 : Jvm.Cond.methodLink "ReadAloud" (64 : Nat) ({ cls := "ReadAloud$Page", name := "isCourt", desc := "()Z" } : Jvm.MethodName) ∈ aWd := aWd_1 (List.mem_of_getElem? (i := 220) rfl) rfl
theorem wd_1_221 : Jvm.Cond.instanceMethod ({ cls := "ReadAloud$Page", name := "isCourt", desc := "()Z" } : Jvm.MethodName) ∈ aWd := aWd_1 (List.mem_of_getElem? (i := 221) rfl) rfl
theorem wd_1_222 : Jvm.Cond.selects "ReadAloud$Page" ({ cls := "ReadAloud$Page", name := "isCourt", desc := "()Z" } : Jvm.MethodName) ({ cls := "ReadAloud$Page", name := "isCourt", desc := "()Z" } : Jvm.MethodName) ∈ aWd := aWd_1 (List.mem_of_getElem? (i := 222) rfl) rfl
theorem wd_1_223 : Jvm.Cond.code ({ cls := "ReadAloud$Page", name := "isCourt", desc := "()Z" } : Jvm.MethodName) prog_7_method_7_code (1 : Nat) (Option.some Jvm.ClassFile.FieldType.boolean) ∈ aWd := aWd_1 (List.mem_of_getElem? (i := 223) rfl) rfl
theorem wd_1_224 : Jvm.Cond.methodLink "ReadAloud$Page" (33 : Nat) ({ cls := "ReadAloud$Page", name := "faultPlace", desc := "()I" } : Jvm.MethodName) ∈ aWd := aWd_1 (List.mem_of_getElem? (i := 224) rfl) rfl
theorem wd_1_225 : Jvm.Cond.methodLink "ReadAloud$Page" (37 : Nat) ({ cls := "ReadAloud$Walk", name := "isWhole", desc := "()Z" } : Jvm.MethodName) ∈ aWd := aWd_1 (List.mem_of_getElem? (i := 225) rfl) rfl
theorem wd_1_226 : Jvm.Cond.instanceMethod ({ cls := "ReadAloud$Walk", name := "isWhole", desc := "()Z" } : Jvm.MethodName) ∈ aWd := aWd_1 (List.mem_of_getElem? (i := 226) rfl) rfl
theorem wd_1_227 : Jvm.Cond.selects "ReadAloud$Walk" ({ cls := "ReadAloud$Walk", name := "isWhole", desc := "()Z" } : Jvm.MethodName) ({ cls := "ReadAloud$Walk", name := "isWhole", desc := "()Z" } : Jvm.MethodName) ∈ aWd := aWd_1 (List.mem_of_getElem? (i := 227) rfl) rfl
theorem wd_1_228 : Jvm.Cond.code ({ cls := "ReadAloud$Walk", name := "isWhole", desc := "()Z" } : Jvm.MethodName) prog_11_method_4_code (1 : Nat) (Option.some Jvm.ClassFile.FieldType.boolean) ∈ aWd := aWd_1 (List.mem_of_getElem? (i := 228) rfl) rfl
theorem wd_1_229 : Jvm.Cond.methodLink "ReadAloud" (68 : Nat) ({ cls := "ReadAloud", name := "readCourt", desc := "()V" } : Jvm.MethodName) ∈ aWd := aWd_1 (List.mem_of_getElem? (i := 229) rfl) rfl
theorem wd_1_231 : Jvm.Cond.instanceMethod ({ cls := "ReadAloud", name := "readCourt", desc := "()V" } : Jvm.MethodName) ∈ aWd := aWd_1 (List.mem_of_getElem? (i := 231) rfl) rfl
theorem wd_1_232 : Jvm.Cond.code ({ cls := "ReadAloud", name := "readCourt", desc := "()V" } : Jvm.MethodName) prog_1_method_33_code (4 : Nat) (Option.none : Option Jvm.ClassFile.FieldType) ∈ aWd := aWd_1 (List.mem_of_getElem? (i := 232) rfl) rfl
theorem wd_1_233 : Jvm.Cond.methodLink "ReadAloud" (241 : Nat) ({ cls := "ReadAloud$State", name := "begin", desc := "()V" } : Jvm.MethodName) ∈ aWd := aWd_1 (List.mem_of_getElem? (i := 233) rfl) rfl
theorem wd_1_234 : Jvm.Cond.instanceMethod ({ cls := "ReadAloud$State", name := "begin", desc := "()V" } : Jvm.MethodName) ∈ aWd := aWd_1 (List.mem_of_getElem? (i := 234) rfl) rfl
theorem wd_1_235 : Jvm.Cond.selects "ReadAloud$State" ({ cls := "ReadAloud$State", name := "begin", desc := "()V" } : Jvm.MethodName) ({ cls := "ReadAloud$State", name := "begin", desc := "()V" } : Jvm.MethodName) ∈ aWd := aWd_1 (List.mem_of_getElem? (i := 235) rfl) rfl
theorem wd_1_236 : Jvm.Cond.code ({ cls := "ReadAloud$State", name := "begin", desc := "()V" } : Jvm.MethodName) prog_10_method_2_code (1 : Nat) (Option.none : Option Jvm.ClassFile.FieldType) ∈ aWd := aWd_1 (List.mem_of_getElem? (i := 236) rfl) rfl
theorem wd_1_237 : Jvm.Cond.methodLink "ReadAloud$State" (29 : Nat) ({ cls := "ReadAloud$Sheet", name := "clear", desc := "()V" } : Jvm.MethodName) ∈ aWd := aWd_1 (List.mem_of_getElem? (i := 237) rfl) rfl
theorem wd_1_238 : Jvm.Cond.instanceMethod ({ cls := "ReadAloud$Sheet", name := "clear", desc := "()V" } : Jvm.MethodName) ∈ aWd := aWd_1 (List.mem_of_getElem? (i := 238) rfl) rfl
theorem wd_1_239 : Jvm.Cond.selects "ReadAloud$Sheet" ({ cls := "ReadAloud$Sheet", name := "clear", desc := "()V" } : Jvm.MethodName) ({ cls := "ReadAloud$Sheet", name := "clear", desc := "()V" } : Jvm.MethodName) ∈ aWd := aWd_1 (List.mem_of_getElem? (i := 239) rfl) rfl
theorem wd_2_0 : Jvm.Cond.code ({ cls := "ReadAloud$Sheet", name := "clear", desc := "()V" } : Jvm.MethodName) prog_8_method_7_code (1 : Nat) (Option.none : Option Jvm.ClassFile.FieldType) ∈ aWd := aWd_2 (List.mem_of_getElem? (i := 0) rfl) rfl
theorem wd_2_1 : Jvm.Cond.methodLink "ReadAloud$State" (32 : Nat) ({ cls := "ReadAloud$Heard", name := "clear", desc := "()V" } : Jvm.MethodName) ∈ aWd := aWd_2 (List.mem_of_getElem? (i := 1) rfl) rfl
theorem wd_2_2 : Jvm.Cond.instanceMethod ({ cls := "ReadAloud$Heard", name := "clear", desc := "()V" } : Jvm.MethodName) ∈ aWd := aWd_2 (List.mem_of_getElem? (i := 2) rfl) rfl
theorem wd_2_3 : Jvm.Cond.selects "ReadAloud$Heard" ({ cls := "ReadAloud$Heard", name := "clear", desc := "()V" } : Jvm.MethodName) ({ cls := "ReadAloud$Heard", name := "clear", desc := "()V" } : Jvm.MethodName) ∈ aWd := aWd_2 (List.mem_of_getElem? (i := 3) rfl) rfl
theorem wd_2_4 : Jvm.Cond.code ({ cls := "ReadAloud$Heard", name := "clear", desc := "()V" } : Jvm.MethodName) prog_5_method_4_code (1 : Nat) (Option.none : Option Jvm.ClassFile.FieldType) ∈ aWd := aWd_2 (List.mem_of_getElem? (i := 4) rfl) rfl
theorem wd_2_5 : Jvm.Cond.methodLink "ReadAloud" (220 : Nat) ({ cls := "ReadAloud$Page", name := "codeAt", desc := "(I)I" } : Jvm.MethodName) ∈ aWd := aWd_2 (List.mem_of_getElem? (i := 5) rfl) rfl
theorem wd_2_6 : Jvm.Cond.instanceMethod ({ cls := "ReadAloud$Page", name := "codeAt", desc := "(I)I" } : Jvm.MethodName) ∈ aWd := aWd_2 (List.mem_of_getElem? (i := 6) rfl) rfl
theorem wd_2_7 : Jvm.Cond.selects "ReadAloud$Page" ({ cls := "ReadAloud$Page", name := "codeAt", desc := "(I)I" } : Jvm.MethodName) ({ cls := "ReadAloud$Page", name := "codeAt", desc := "(I)I" } : Jvm.MethodName) ∈ aWd := aWd_2 (List.mem_of_getElem? (i := 7) rfl) rfl
theorem wd_2_8 : Jvm.Cond.code ({ cls := "ReadAloud$Page", name := "codeAt", desc := "(I)I" } : Jvm.MethodName) prog_7_method_3_code (2 : Nat) (Option.some Jvm.ClassFile.FieldType.int) ∈ aWd := aWd_2 (List.mem_of_getElem? (i := 8) rfl) rfl
theorem wd_2_9 : Jvm.Cond.methodLink "ReadAloud" (93 : Nat) ({ cls := "ReadAloud", name := "isWord", desc := "(I)Z" } : Jvm.MethodName) ∈ aWd := aWd_2 (List.mem_of_getElem? (i := 9) rfl) rfl
theorem wd_2_10 : Jvm.Cond.methodLink "ReadAloud" (244 : Nat) ({ cls := "ReadAloud$Sheet", name := "add", desc := "(I)V" } : Jvm.MethodName) ∈ aWd := aWd_2 (List.mem_of_getElem? (i := 10) rfl) rfl
theorem wd_2_11 : Jvm.Cond.instanceMethod ({ cls := "ReadAloud$Sheet", name := "add", desc := "(I)V" } : Jvm.MethodName) ∈ aWd := aWd_2 (List.mem_of_getElem? (i := 11) rfl) rfl
theorem wd_2_12 : Jvm.Cond.selects "ReadAloud$Sheet" ({ cls := "ReadAloud$Sheet", name := "add", desc := "(I)V" } : Jvm.MethodName) ({ cls := "ReadAloud$Sheet", name := "add", desc := "(I)V" } : Jvm.MethodName) ∈ aWd := aWd_2 (List.mem_of_getElem? (i := 12) rfl) rfl
theorem wd_2_13 : Jvm.Cond.code ({ cls := "ReadAloud$Sheet", name := "add", desc := "(I)V" } : Jvm.MethodName) prog_8_method_6_code (2 : Nat) (Option.none : Option Jvm.ClassFile.FieldType) ∈ aWd := aWd_2 (List.mem_of_getElem? (i := 13) rfl) rfl
theorem wd_2_14 : Jvm.Cond.methodLink "ReadAloud" (82 : Nat) ({ cls := "ReadAloud$Sheet", name := "size", desc := "()I" } : Jvm.MethodName) ∈ aWd := aWd_2 (List.mem_of_getElem? (i := 14) rfl) rfl
theorem wd_2_15 : Jvm.Cond.instanceMethod ({ cls := "ReadAloud$Sheet", name := "size", desc := "()I" } : Jvm.MethodName) ∈ aWd := aWd_2 (List.mem_of_getElem? (i := 15) rfl) rfl
theorem wd_2_16 : Jvm.Cond.selects "ReadAloud$Sheet" ({ cls := "ReadAloud$Sheet", name := "size", desc := "()I" } : Jvm.MethodName) ({ cls := "ReadAloud$Sheet", name := "size", desc := "()I" } : Jvm.MethodName) ∈ aWd := aWd_2 (List.mem_of_getElem? (i := 16) rfl) rfl
theorem wd_2_17 : Jvm.Cond.code ({ cls := "ReadAloud$Sheet", name := "size", desc := "()I" } : Jvm.MethodName) prog_8_method_2_code (1 : Nat) (Option.some Jvm.ClassFile.FieldType.int) ∈ aWd := aWd_2 (List.mem_of_getElem? (i := 17) rfl) rfl
theorem wd_2_18 : Jvm.Cond.methodLink "ReadAloudLaw" (31 : Nat) ({ cls := "ReadAloud", name := "near", desc := "(I)I" } : Jvm.MethodName) ∈ aWd := aWd_2 (List.mem_of_getElem? (i := 18) rfl) rfl
theorem wd_2_19 : Jvm.Cond.instanceMethod ({ cls := "ReadAloud", name := "near", desc := "(I)I" } : Jvm.MethodName) ∈ aWd := aWd_2 (List.mem_of_getElem? (i := 19) rfl) rfl
theorem wd_2_20 : Jvm.Cond.selects "ReadAloud" ({ cls := "ReadAloud", name := "near", desc := "(I)I" } : Jvm.MethodName) ({ cls := "ReadAloud", name := "near", desc := "(I)I" } : Jvm.MethodName) ∈ aWd := aWd_2 (List.mem_of_getElem? (i := 20) rfl) rfl
theorem wd_2_21 : Jvm.Cond.code ({ cls := "ReadAloud", name := "near", desc := "(I)I" } : Jvm.MethodName) prog_1_method_6_code (2 : Nat) (Option.some Jvm.ClassFile.FieldType.int) ∈ aWd := aWd_2 (List.mem_of_getElem? (i := 21) rfl) rfl
theorem wd_2_22 : Jvm.Cond.methodLink "ReadAloud" (83 : Nat) ({ cls := "ReadAloud", name := "hasCourt", desc := "()Z" } : Jvm.MethodName) ∈ aWd := aWd_2 (List.mem_of_getElem? (i := 22) rfl) rfl
theorem wd_2_24 : Jvm.Cond.instanceMethod ({ cls := "ReadAloud", name := "hasCourt", desc := "()Z" } : Jvm.MethodName) ∈ aWd := aWd_2 (List.mem_of_getElem? (i := 24) rfl) rfl
theorem wd_2_25 : Jvm.Cond.code ({ cls := "ReadAloud", name := "hasCourt", desc := "()Z" } : Jvm.MethodName) prog_1_method_24_code (1 : Nat) (Option.some Jvm.ClassFile.FieldType.boolean) ∈ aWd := aWd_2 (List.mem_of_getElem? (i := 25) rfl) rfl
theorem wd_2_26 : Jvm.Cond.methodLink "ReadAloudLaw" (35 : Nat) ({ cls := "ReadAloud", name := "word", desc := "(I)I" } : Jvm.MethodName) ∈ aWd := aWd_2 (List.mem_of_getElem? (i := 26) rfl) rfl
theorem wd_2_27 : Jvm.Cond.instanceMethod ({ cls := "ReadAloud", name := "word", desc := "(I)I" } : Jvm.MethodName) ∈ aWd := aWd_2 (List.mem_of_getElem? (i := 27) rfl) rfl
theorem wd_2_28 : Jvm.Cond.selects "ReadAloud" ({ cls := "ReadAloud", name := "word", desc := "(I)I" } : Jvm.MethodName) ({ cls := "ReadAloud", name := "word", desc := "(I)I" } : Jvm.MethodName) ∈ aWd := aWd_2 (List.mem_of_getElem? (i := 28) rfl) rfl
theorem wd_2_29 : Jvm.Cond.code ({ cls := "ReadAloud", name := "word", desc := "(I)I" } : Jvm.MethodName) prog_1_method_7_code (2 : Nat) (Option.some Jvm.ClassFile.FieldType.int) ∈ aWd := aWd_2 (List.mem_of_getElem? (i := 29) rfl) rfl
theorem wd_2_30 : Jvm.Cond.methodLink "ReadAloud" (86 : Nat) ({ cls := "ReadAloud$Sheet", name := "has", desc := "(I)Z" } : Jvm.MethodName) ∈ aWd := aWd_2 (List.mem_of_getElem? (i := 30) rfl) rfl
theorem wd_2_31 : Jvm.Cond.instanceMethod ({ cls := "ReadAloud$Sheet", name := "has", desc := "(I)Z" } : Jvm.MethodName) ∈ aWd := aWd_2 (List.mem_of_getElem? (i := 31) rfl) rfl
theorem wd_2_32 : Jvm.Cond.selects "ReadAloud$Sheet" ({ cls := "ReadAloud$Sheet", name := "has", desc := "(I)Z" } : Jvm.MethodName) ({ cls := "ReadAloud$Sheet", name := "has", desc := "(I)Z" } : Jvm.MethodName) ∈ aWd := aWd_2 (List.mem_of_getElem? (i := 32) rfl) rfl
theorem wd_2_33 : Jvm.Cond.code ({ cls := "ReadAloud$Sheet", name := "has", desc := "(I)Z" } : Jvm.MethodName) prog_8_method_3_code (2 : Nat) (Option.some Jvm.ClassFile.FieldType.boolean) ∈ aWd := aWd_2 (List.mem_of_getElem? (i := 33) rfl) rfl
theorem wd_2_34 : Jvm.Cond.methodLink "ReadAloud" (89 : Nat) ({ cls := "ReadAloud$Sheet", name := "at", desc := "(I)I" } : Jvm.MethodName) ∈ aWd := aWd_2 (List.mem_of_getElem? (i := 34) rfl) rfl
theorem wd_2_35 : Jvm.Cond.instanceMethod ({ cls := "ReadAloud$Sheet", name := "at", desc := "(I)I" } : Jvm.MethodName) ∈ aWd := aWd_2 (List.mem_of_getElem? (i := 35) rfl) rfl
theorem wd_2_36 : Jvm.Cond.selects "ReadAloud$Sheet" ({ cls := "ReadAloud$Sheet", name := "at", desc := "(I)I" } : Jvm.MethodName) ({ cls := "ReadAloud$Sheet", name := "at", desc := "(I)I" } : Jvm.MethodName) ∈ aWd := aWd_2 (List.mem_of_getElem? (i := 36) rfl) rfl
theorem wd_2_37 : Jvm.Cond.code ({ cls := "ReadAloud$Sheet", name := "at", desc := "(I)I" } : Jvm.MethodName) prog_8_method_4_code (2 : Nat) (Option.some Jvm.ClassFile.FieldType.int) ∈ aWd := aWd_2 (List.mem_of_getElem? (i := 37) rfl) rfl
theorem wd_2_38 : Jvm.Cond.methodLink "ReadAloud$Sheet" (19 : Nat) ({ cls := "ReadAloud$Sheet", name := "has", desc := "(I)Z" } : Jvm.MethodName) ∈ aWd := aWd_2 (List.mem_of_getElem? (i := 38) rfl) rfl
theorem wd_2_39 : Jvm.Cond.methodLink "ReadAloudLaw" (39 : Nat) ({ cls := "ReadAloud", name := "put", desc := "(II)I" } : Jvm.MethodName) ∈ aWd := aWd_2 (List.mem_of_getElem? (i := 39) rfl) rfl
theorem wd_2_40 : Jvm.Cond.instanceMethod ({ cls := "ReadAloud", name := "put", desc := "(II)I" } : Jvm.MethodName) ∈ aWd := aWd_2 (List.mem_of_getElem? (i := 40) rfl) rfl
theorem wd_2_41 : Jvm.Cond.selects "ReadAloud" ({ cls := "ReadAloud", name := "put", desc := "(II)I" } : Jvm.MethodName) ({ cls := "ReadAloud", name := "put", desc := "(II)I" } : Jvm.MethodName) ∈ aWd := aWd_2 (List.mem_of_getElem? (i := 41) rfl) rfl
theorem wd_2_42 : Jvm.Cond.code ({ cls := "ReadAloud", name := "put", desc := "(II)I" } : Jvm.MethodName) prog_1_method_8_code (4 : Nat) (Option.some Jvm.ClassFile.FieldType.int) ∈ aWd := aWd_2 (List.mem_of_getElem? (i := 42) rfl) rfl
theorem wd_2_43 : Jvm.Cond.methodLink "ReadAloud" (96 : Nat) ({ cls := "ReadAloud$Sheet", name := "set", desc := "(II)V" } : Jvm.MethodName) ∈ aWd := aWd_2 (List.mem_of_getElem? (i := 43) rfl) rfl
theorem wd_2_44 : Jvm.Cond.instanceMethod ({ cls := "ReadAloud$Sheet", name := "set", desc := "(II)V" } : Jvm.MethodName) ∈ aWd := aWd_2 (List.mem_of_getElem? (i := 44) rfl) rfl
theorem wd_2_45 : Jvm.Cond.selects "ReadAloud$Sheet" ({ cls := "ReadAloud$Sheet", name := "set", desc := "(II)V" } : Jvm.MethodName) ({ cls := "ReadAloud$Sheet", name := "set", desc := "(II)V" } : Jvm.MethodName) ∈ aWd := aWd_2 (List.mem_of_getElem? (i := 45) rfl) rfl
theorem wd_2_46 : Jvm.Cond.code ({ cls := "ReadAloud$Sheet", name := "set", desc := "(II)V" } : Jvm.MethodName) prog_8_method_5_code (3 : Nat) (Option.none : Option Jvm.ClassFile.FieldType) ∈ aWd := aWd_2 (List.mem_of_getElem? (i := 46) rfl) rfl
theorem wd_2_47 : Jvm.Cond.methodLink "ReadAloudLaw" (44 : Nat) ({ cls := "ReadAloud", name := "limit", desc := "(I)I" } : Jvm.MethodName) ∈ aWd := aWd_2 (List.mem_of_getElem? (i := 47) rfl) rfl
theorem wd_2_48 : Jvm.Cond.instanceMethod ({ cls := "ReadAloud", name := "limit", desc := "(I)I" } : Jvm.MethodName) ∈ aWd := aWd_2 (List.mem_of_getElem? (i := 48) rfl) rfl
theorem wd_2_49 : Jvm.Cond.selects "ReadAloud" ({ cls := "ReadAloud", name := "limit", desc := "(I)I" } : Jvm.MethodName) ({ cls := "ReadAloud", name := "limit", desc := "(I)I" } : Jvm.MethodName) ∈ aWd := aWd_2 (List.mem_of_getElem? (i := 49) rfl) rfl
theorem wd_2_50 : Jvm.Cond.code ({ cls := "ReadAloud", name := "limit", desc := "(I)I" } : Jvm.MethodName) prog_1_method_9_code (3 : Nat) (Option.some Jvm.ClassFile.FieldType.int) ∈ aWd := aWd_2 (List.mem_of_getElem? (i := 50) rfl) rfl
theorem wd_2_51 : Jvm.Cond.methodLink "ReadAloudLaw" (48 : Nat) ({ cls := "ReadAloud", name := "accuse", desc := "(II)I" } : Jvm.MethodName) ∈ aWd := aWd_2 (List.mem_of_getElem? (i := 51) rfl) rfl
theorem wd_2_52 : Jvm.Cond.instanceMethod ({ cls := "ReadAloud", name := "accuse", desc := "(II)I" } : Jvm.MethodName) ∈ aWd := aWd_2 (List.mem_of_getElem? (i := 52) rfl) rfl
theorem wd_2_53 : Jvm.Cond.selects "ReadAloud" ({ cls := "ReadAloud", name := "accuse", desc := "(II)I" } : Jvm.MethodName) ({ cls := "ReadAloud", name := "accuse", desc := "(II)I" } : Jvm.MethodName) ∈ aWd := aWd_2 (List.mem_of_getElem? (i := 53) rfl) rfl
theorem wd_2_54 : Jvm.Cond.code ({ cls := "ReadAloud", name := "accuse", desc := "(II)I" } : Jvm.MethodName) prog_1_method_10_code (4 : Nat) (Option.some Jvm.ClassFile.FieldType.int) ∈ aWd := aWd_2 (List.mem_of_getElem? (i := 54) rfl) rfl
theorem wd_2_55 : Jvm.Cond.methodLink "ReadAloud" (106 : Nat) ({ cls := "ReadAloud", name := "isKind", desc := "(I)Z" } : Jvm.MethodName) ∈ aWd := aWd_2 (List.mem_of_getElem? (i := 55) rfl) rfl
theorem wd_2_56 : Jvm.Cond.static ({ cls := "ReadAloud", name := "isKind", desc := "(I)Z" } : Jvm.MethodName) ∈ aWd := aWd_2 (List.mem_of_getElem? (i := 56) rfl) rfl
theorem wd_2_57 : Jvm.Cond.code ({ cls := "ReadAloud", name := "isKind", desc := "(I)Z" } : Jvm.MethodName) prog_1_method_27_code (1 : Nat) (Option.some Jvm.ClassFile.FieldType.boolean) ∈ aWd := aWd_2 (List.mem_of_getElem? (i := 57) rfl) rfl
theorem wd_2_58 : Jvm.Cond.methodLink "ReadAloud" (111 : Nat) ({ cls := "ReadAloud", name := "manOfKind", desc := "(II)LReadAloud$Man;" } : Jvm.MethodName) ∈ aWd := aWd_2 (List.mem_of_getElem? (i := 58) rfl) rfl
theorem wd_2_59 : Jvm.Cond.static ({ cls := "ReadAloud", name := "manOfKind", desc := "(II)LReadAloud$Man;" } : Jvm.MethodName) ∈ aWd := aWd_2 (List.mem_of_getElem? (i := 59) rfl) rfl
theorem wd_2_60 : Jvm.Cond.code ({ cls := "ReadAloud", name := "manOfKind", desc := "(II)LReadAloud$Man;" } : Jvm.MethodName) prog_1_method_31_code (2 : Nat) (Option.some (Jvm.ClassFile.FieldType.object "ReadAloud$Man")) ∈ aWd := aWd_2 (List.mem_of_getElem? (i := 60) rfl) rfl
theorem wd_2_61 : Jvm.Cond.classLink "ReadAloud" (226 : Nat) "ReadAloud$Stammerer" ∈ aWd := aWd_2 (List.mem_of_getElem? (i := 61) rfl) rfl
theorem wd_2_62 : Jvm.Cond.instantiable "ReadAloud$Stammerer" (1 : Nat) ∈ aWd := aWd_2 (List.mem_of_getElem? (i := 62) rfl) rfl
theorem wd_2_63 : Jvm.Cond.methodLink "ReadAloud" (228 : Nat) ({ cls := "ReadAloud$Stammerer", name := "<init>", desc := "(I)V" } : Jvm.MethodName) ∈ aWd := aWd_2 (List.mem_of_getElem? (i := 63) rfl) rfl
theorem wd_2_64 : Jvm.Cond.instanceMethod ({ cls := "ReadAloud$Stammerer", name := "<init>", desc := "(I)V" } : Jvm.MethodName) ∈ aWd := aWd_2 (List.mem_of_getElem? (i := 64) rfl) rfl
theorem wd_2_65 : Jvm.Cond.code ({ cls := "ReadAloud$Stammerer", name := "<init>", desc := "(I)V" } : Jvm.MethodName) prog_9_method_1_code (2 : Nat) (Option.none : Option Jvm.ClassFile.FieldType) ∈ aWd := aWd_2 (List.mem_of_getElem? (i := 65) rfl) rfl
theorem wd_2_66 : Jvm.Cond.methodLink "ReadAloud$Stammerer" (1 : Nat) ({ cls := "ReadAloud$Man", name := "<init>", desc := "(I)V" } : Jvm.MethodName) ∈ aWd := aWd_2 (List.mem_of_getElem? (i := 66) rfl) rfl
theorem wd_2_67 : Jvm.Cond.instanceMethod ({ cls := "ReadAloud$Man", name := "<init>", desc := "(I)V" } : Jvm.MethodName) ∈ aWd := aWd_2 (List.mem_of_getElem? (i := 67) rfl) rfl
theorem wd_2_68 : Jvm.Cond.code ({ cls := "ReadAloud$Man", name := "<init>", desc := "(I)V" } : Jvm.MethodName) prog_6_method_1_code (2 : Nat) (Option.none : Option Jvm.ClassFile.FieldType) ∈ aWd := aWd_2 (List.mem_of_getElem? (i := 68) rfl) rfl
theorem wd_2_69 : Jvm.Cond.methodLink "ReadAloud$Man" (1 : Nat) ({ cls := "java/lang/Object", name := "<init>", desc := "()V" } : Jvm.MethodName) ∈ aWd := aWd_2 (List.mem_of_getElem? (i := 69) rfl) rfl
theorem wd_2_70 : Jvm.Cond.fieldLink "ReadAloud$Man" (7 : Nat) "ReadAloud$Man" "deed" "I" ∈ aWd := aWd_2 (List.mem_of_getElem? (i := 70) rfl) rfl
theorem wd_2_71 : Jvm.Cond.laysFinal "ReadAloud$Stammerer" "ReadAloud$Man" "deed" "I" ∈ aWd := aWd_2 (List.mem_of_getElem? (i := 71) rfl) rfl
theorem wd_2_74 : Jvm.Cond.classLink "ReadAloud" (231 : Nat) "ReadAloud$Actor" ∈ aWd := aWd_2 (List.mem_of_getElem? (i := 74) rfl) rfl
theorem wd_2_75 : Jvm.Cond.instantiable "ReadAloud$Actor" (1 : Nat) ∈ aWd := aWd_2 (List.mem_of_getElem? (i := 75) rfl) rfl
theorem wd_2_76 : Jvm.Cond.methodLink "ReadAloud" (233 : Nat) ({ cls := "ReadAloud$Actor", name := "<init>", desc := "(I)V" } : Jvm.MethodName) ∈ aWd := aWd_2 (List.mem_of_getElem? (i := 76) rfl) rfl
theorem wd_2_77 : Jvm.Cond.instanceMethod ({ cls := "ReadAloud$Actor", name := "<init>", desc := "(I)V" } : Jvm.MethodName) ∈ aWd := aWd_2 (List.mem_of_getElem? (i := 77) rfl) rfl
theorem wd_2_78 : Jvm.Cond.code ({ cls := "ReadAloud$Actor", name := "<init>", desc := "(I)V" } : Jvm.MethodName) prog_2_method_1_code (2 : Nat) (Option.none : Option Jvm.ClassFile.FieldType) ∈ aWd := aWd_2 (List.mem_of_getElem? (i := 78) rfl) rfl
theorem wd_2_79 : Jvm.Cond.methodLink "ReadAloud$Actor" (1 : Nat) ({ cls := "ReadAloud$Man", name := "<init>", desc := "(I)V" } : Jvm.MethodName) ∈ aWd := aWd_2 (List.mem_of_getElem? (i := 79) rfl) rfl
theorem wd_2_80 : Jvm.Cond.laysFinal "ReadAloud$Actor" "ReadAloud$Man" "deed" "I" ∈ aWd := aWd_2 (List.mem_of_getElem? (i := 80) rfl) rfl
theorem wd_2_82 : Jvm.Cond.classLink "ReadAloud" (234 : Nat) "ReadAloud$Boy" ∈ aWd := aWd_2 (List.mem_of_getElem? (i := 82) rfl) rfl
theorem wd_2_83 : Jvm.Cond.instantiable "ReadAloud$Boy" (1 : Nat) ∈ aWd := aWd_2 (List.mem_of_getElem? (i := 83) rfl) rfl
theorem wd_2_84 : Jvm.Cond.methodLink "ReadAloud" (236 : Nat) ({ cls := "ReadAloud$Boy", name := "<init>", desc := "(I)V" } : Jvm.MethodName) ∈ aWd := aWd_2 (List.mem_of_getElem? (i := 84) rfl) rfl
theorem wd_2_85 : Jvm.Cond.instanceMethod ({ cls := "ReadAloud$Boy", name := "<init>", desc := "(I)V" } : Jvm.MethodName) ∈ aWd := aWd_2 (List.mem_of_getElem? (i := 85) rfl) rfl
theorem wd_2_86 : Jvm.Cond.code ({ cls := "ReadAloud$Boy", name := "<init>", desc := "(I)V" } : Jvm.MethodName) prog_3_method_1_code (2 : Nat) (Option.none : Option Jvm.ClassFile.FieldType) ∈ aWd := aWd_2 (List.mem_of_getElem? (i := 86) rfl) rfl
theorem wd_2_87 : Jvm.Cond.methodLink "ReadAloud$Boy" (1 : Nat) ({ cls := "ReadAloud$Man", name := "<init>", desc := "(I)V" } : Jvm.MethodName) ∈ aWd := aWd_2 (List.mem_of_getElem? (i := 87) rfl) rfl
theorem wd_2_88 : Jvm.Cond.laysFinal "ReadAloud$Boy" "ReadAloud$Man" "deed" "I" ∈ aWd := aWd_2 (List.mem_of_getElem? (i := 88) rfl) rfl
theorem wd_2_90 : Jvm.Cond.classLink "ReadAloud" (237 : Nat) "ReadAloud$Weeper" ∈ aWd := aWd_2 (List.mem_of_getElem? (i := 90) rfl) rfl
theorem wd_2_91 : Jvm.Cond.instantiable "ReadAloud$Weeper" (1 : Nat) ∈ aWd := aWd_2 (List.mem_of_getElem? (i := 91) rfl) rfl
theorem wd_2_92 : Jvm.Cond.methodLink "ReadAloud" (239 : Nat) ({ cls := "ReadAloud$Weeper", name := "<init>", desc := "(I)V" } : Jvm.MethodName) ∈ aWd := aWd_2 (List.mem_of_getElem? (i := 92) rfl) rfl
theorem wd_2_93 : Jvm.Cond.instanceMethod ({ cls := "ReadAloud$Weeper", name := "<init>", desc := "(I)V" } : Jvm.MethodName) ∈ aWd := aWd_2 (List.mem_of_getElem? (i := 93) rfl) rfl
theorem wd_2_94 : Jvm.Cond.code ({ cls := "ReadAloud$Weeper", name := "<init>", desc := "(I)V" } : Jvm.MethodName) prog_12_method_1_code (2 : Nat) (Option.none : Option Jvm.ClassFile.FieldType) ∈ aWd := aWd_2 (List.mem_of_getElem? (i := 94) rfl) rfl
theorem wd_2_95 : Jvm.Cond.methodLink "ReadAloud$Weeper" (1 : Nat) ({ cls := "ReadAloud$Stammerer", name := "<init>", desc := "(I)V" } : Jvm.MethodName) ∈ aWd := aWd_2 (List.mem_of_getElem? (i := 95) rfl) rfl
theorem wd_2_96 : Jvm.Cond.laysFinal "ReadAloud$Weeper" "ReadAloud$Man" "deed" "I" ∈ aWd := aWd_2 (List.mem_of_getElem? (i := 96) rfl) rfl
theorem wd_2_97 : Jvm.Cond.superclass "ReadAloud$Weeper" "ReadAloud$Stammerer" ∈ aWd := aWd_2 (List.mem_of_getElem? (i := 97) rfl) rfl
theorem wd_2_98 : Jvm.Cond.instantiable "ReadAloud$Man" (1 : Nat) ∈ aWd := aWd_2 (List.mem_of_getElem? (i := 98) rfl) rfl
theorem wd_2_99 : Jvm.Cond.methodLink "ReadAloud" (240 : Nat) ({ cls := "ReadAloud$Man", name := "<init>", desc := "(I)V" } : Jvm.MethodName) ∈ aWd := aWd_2 (List.mem_of_getElem? (i := 99) rfl) rfl
theorem wd_2_100 : Jvm.Cond.laysFinal "ReadAloud$Man" "ReadAloud$Man" "deed" "I" ∈ aWd := aWd_2 (List.mem_of_getElem? (i := 100) rfl) rfl
theorem wd_2_102 : Jvm.Cond.methodLink "ReadAloudLaw" (52 : Nat) ({ cls := "ReadAloud", name := "about", desc := "(II)I" } : Jvm.MethodName) ∈ aWd := aWd_2 (List.mem_of_getElem? (i := 102) rfl) rfl
theorem wd_2_103 : Jvm.Cond.instanceMethod ({ cls := "ReadAloud", name := "about", desc := "(II)I" } : Jvm.MethodName) ∈ aWd := aWd_2 (List.mem_of_getElem? (i := 103) rfl) rfl
theorem wd_2_104 : Jvm.Cond.selects "ReadAloud" ({ cls := "ReadAloud", name := "about", desc := "(II)I" } : Jvm.MethodName) ({ cls := "ReadAloud", name := "about", desc := "(II)I" } : Jvm.MethodName) ∈ aWd := aWd_2 (List.mem_of_getElem? (i := 104) rfl) rfl
theorem wd_2_105 : Jvm.Cond.code ({ cls := "ReadAloud", name := "about", desc := "(II)I" } : Jvm.MethodName) prog_1_method_11_code (4 : Nat) (Option.some Jvm.ClassFile.FieldType.int) ∈ aWd := aWd_2 (List.mem_of_getElem? (i := 105) rfl) rfl
theorem wd_2_106 : Jvm.Cond.methodLink "ReadAloud" (118 : Nat) ({ cls := "ReadAloud", name := "manOf", desc := "(I)LReadAloud$Man;" } : Jvm.MethodName) ∈ aWd := aWd_2 (List.mem_of_getElem? (i := 106) rfl) rfl
theorem wd_2_108 : Jvm.Cond.instanceMethod ({ cls := "ReadAloud", name := "manOf", desc := "(I)LReadAloud$Man;" } : Jvm.MethodName) ∈ aWd := aWd_2 (List.mem_of_getElem? (i := 108) rfl) rfl
theorem wd_2_109 : Jvm.Cond.code ({ cls := "ReadAloud", name := "manOf", desc := "(I)LReadAloud$Man;" } : Jvm.MethodName) prog_1_method_28_code (2 : Nat) (Option.some (Jvm.ClassFile.FieldType.object "ReadAloud$Man")) ∈ aWd := aWd_2 (List.mem_of_getElem? (i := 109) rfl) rfl
theorem wd_2_110 : Jvm.Cond.methodLink "ReadAloud" (156 : Nat) ({ cls := "ReadAloud", name := "isAccused", desc := "(I)Z" } : Jvm.MethodName) ∈ aWd := aWd_2 (List.mem_of_getElem? (i := 110) rfl) rfl
theorem wd_2_112 : Jvm.Cond.instanceMethod ({ cls := "ReadAloud", name := "isAccused", desc := "(I)Z" } : Jvm.MethodName) ∈ aWd := aWd_2 (List.mem_of_getElem? (i := 112) rfl) rfl
theorem wd_2_113 : Jvm.Cond.code ({ cls := "ReadAloud", name := "isAccused", desc := "(I)Z" } : Jvm.MethodName) prog_1_method_25_code (2 : Nat) (Option.some Jvm.ClassFile.FieldType.boolean) ∈ aWd := aWd_2 (List.mem_of_getElem? (i := 113) rfl) rfl
theorem wd_2_114 : Jvm.Cond.methodLink "ReadAloud" (122 : Nat) ({ cls := "ReadAloud$Man", name := "kind", desc := "()I" } : Jvm.MethodName) ∈ aWd := aWd_2 (List.mem_of_getElem? (i := 114) rfl) rfl
theorem wd_2_115 : Jvm.Cond.instanceMethod ({ cls := "ReadAloud$Man", name := "kind", desc := "()I" } : Jvm.MethodName) ∈ aWd := aWd_2 (List.mem_of_getElem? (i := 115) rfl) rfl
theorem wd_2_116 : Jvm.Cond.selects "ReadAloud$Man" ({ cls := "ReadAloud$Man", name := "kind", desc := "()I" } : Jvm.MethodName) ({ cls := "ReadAloud$Man", name := "kind", desc := "()I" } : Jvm.MethodName) ∈ aWd := aWd_2 (List.mem_of_getElem? (i := 116) rfl) rfl
theorem wd_2_117 : Jvm.Cond.sameMethod "ReadAloud$Man" "ReadAloud$Man" "kind" "()I" ∈ aWd := aWd_2 (List.mem_of_getElem? (i := 117) rfl) rfl
theorem wd_2_118 : Jvm.Cond.selects "ReadAloud$Actor" ({ cls := "ReadAloud$Man", name := "kind", desc := "()I" } : Jvm.MethodName) ({ cls := "ReadAloud$Actor", name := "kind", desc := "()I" } : Jvm.MethodName) ∈ aWd := aWd_2 (List.mem_of_getElem? (i := 118) rfl) rfl
theorem wd_2_119 : Jvm.Cond.instanceMethod ({ cls := "ReadAloud$Actor", name := "kind", desc := "()I" } : Jvm.MethodName) ∈ aWd := aWd_2 (List.mem_of_getElem? (i := 119) rfl) rfl
theorem wd_2_120 : Jvm.Cond.code ({ cls := "ReadAloud$Actor", name := "kind", desc := "()I" } : Jvm.MethodName) prog_2_method_2_code (1 : Nat) (Option.some Jvm.ClassFile.FieldType.int) ∈ aWd := aWd_2 (List.mem_of_getElem? (i := 120) rfl) rfl
theorem wd_2_121 : Jvm.Cond.selects "ReadAloud$Boy" ({ cls := "ReadAloud$Man", name := "kind", desc := "()I" } : Jvm.MethodName) ({ cls := "ReadAloud$Boy", name := "kind", desc := "()I" } : Jvm.MethodName) ∈ aWd := aWd_2 (List.mem_of_getElem? (i := 121) rfl) rfl
theorem wd_2_122 : Jvm.Cond.instanceMethod ({ cls := "ReadAloud$Boy", name := "kind", desc := "()I" } : Jvm.MethodName) ∈ aWd := aWd_2 (List.mem_of_getElem? (i := 122) rfl) rfl
theorem wd_2_123 : Jvm.Cond.code ({ cls := "ReadAloud$Boy", name := "kind", desc := "()I" } : Jvm.MethodName) prog_3_method_2_code (1 : Nat) (Option.some Jvm.ClassFile.FieldType.int) ∈ aWd := aWd_2 (List.mem_of_getElem? (i := 123) rfl) rfl
theorem wd_2_124 : Jvm.Cond.selects "ReadAloud$Stammerer" ({ cls := "ReadAloud$Man", name := "kind", desc := "()I" } : Jvm.MethodName) ({ cls := "ReadAloud$Stammerer", name := "kind", desc := "()I" } : Jvm.MethodName) ∈ aWd := aWd_2 (List.mem_of_getElem? (i := 124) rfl) rfl
theorem wd_2_125 : Jvm.Cond.instanceMethod ({ cls := "ReadAloud$Stammerer", name := "kind", desc := "()I" } : Jvm.MethodName) ∈ aWd := aWd_2 (List.mem_of_getElem? (i := 125) rfl) rfl
theorem wd_2_126 : Jvm.Cond.code ({ cls := "ReadAloud$Stammerer", name := "kind", desc := "()I" } : Jvm.MethodName) prog_9_method_2_code (1 : Nat) (Option.some Jvm.ClassFile.FieldType.int) ∈ aWd := aWd_2 (List.mem_of_getElem? (i := 126) rfl) rfl
theorem wd_2_127 : Jvm.Cond.selects "ReadAloud$Weeper" ({ cls := "ReadAloud$Man", name := "kind", desc := "()I" } : Jvm.MethodName) ({ cls := "ReadAloud$Weeper", name := "kind", desc := "()I" } : Jvm.MethodName) ∈ aWd := aWd_2 (List.mem_of_getElem? (i := 127) rfl) rfl
theorem wd_2_128 : Jvm.Cond.instanceMethod ({ cls := "ReadAloud$Weeper", name := "kind", desc := "()I" } : Jvm.MethodName) ∈ aWd := aWd_2 (List.mem_of_getElem? (i := 128) rfl) rfl
theorem wd_2_129 : Jvm.Cond.code ({ cls := "ReadAloud$Weeper", name := "kind", desc := "()I" } : Jvm.MethodName) prog_12_method_2_code (1 : Nat) (Option.some Jvm.ClassFile.FieldType.int) ∈ aWd := aWd_2 (List.mem_of_getElem? (i := 129) rfl) rfl
theorem wd_2_130 : Jvm.Cond.code ({ cls := "ReadAloud$Man", name := "kind", desc := "()I" } : Jvm.MethodName) prog_6_method_3_code (1 : Nat) (Option.some Jvm.ClassFile.FieldType.int) ∈ aWd := aWd_2 (List.mem_of_getElem? (i := 130) rfl) rfl
theorem wd_2_131 : Jvm.Cond.methodLink "ReadAloud" (125 : Nat) ({ cls := "ReadAloud$Man", name := "deed", desc := "()I" } : Jvm.MethodName) ∈ aWd := aWd_2 (List.mem_of_getElem? (i := 131) rfl) rfl
theorem wd_2_132 : Jvm.Cond.instanceMethod ({ cls := "ReadAloud$Man", name := "deed", desc := "()I" } : Jvm.MethodName) ∈ aWd := aWd_2 (List.mem_of_getElem? (i := 132) rfl) rfl
theorem wd_2_133 : Jvm.Cond.selects "ReadAloud$Man" ({ cls := "ReadAloud$Man", name := "deed", desc := "()I" } : Jvm.MethodName) ({ cls := "ReadAloud$Man", name := "deed", desc := "()I" } : Jvm.MethodName) ∈ aWd := aWd_2 (List.mem_of_getElem? (i := 133) rfl) rfl
theorem wd_2_134 : Jvm.Cond.sameMethod "ReadAloud$Man" "ReadAloud$Man" "deed" "()I" ∈ aWd := aWd_2 (List.mem_of_getElem? (i := 134) rfl) rfl
theorem wd_2_135 : Jvm.Cond.selects "ReadAloud$Actor" ({ cls := "ReadAloud$Man", name := "deed", desc := "()I" } : Jvm.MethodName) ({ cls := "ReadAloud$Man", name := "deed", desc := "()I" } : Jvm.MethodName) ∈ aWd := aWd_2 (List.mem_of_getElem? (i := 135) rfl) rfl
theorem wd_2_136 : Jvm.Cond.selects "ReadAloud$Boy" ({ cls := "ReadAloud$Man", name := "deed", desc := "()I" } : Jvm.MethodName) ({ cls := "ReadAloud$Man", name := "deed", desc := "()I" } : Jvm.MethodName) ∈ aWd := aWd_2 (List.mem_of_getElem? (i := 136) rfl) rfl
theorem wd_2_137 : Jvm.Cond.selects "ReadAloud$Stammerer" ({ cls := "ReadAloud$Man", name := "deed", desc := "()I" } : Jvm.MethodName) ({ cls := "ReadAloud$Man", name := "deed", desc := "()I" } : Jvm.MethodName) ∈ aWd := aWd_2 (List.mem_of_getElem? (i := 137) rfl) rfl
theorem wd_2_138 : Jvm.Cond.selects "ReadAloud$Weeper" ({ cls := "ReadAloud$Man", name := "deed", desc := "()I" } : Jvm.MethodName) ({ cls := "ReadAloud$Man", name := "deed", desc := "()I" } : Jvm.MethodName) ∈ aWd := aWd_2 (List.mem_of_getElem? (i := 138) rfl) rfl
theorem wd_2_139 : Jvm.Cond.code ({ cls := "ReadAloud$Man", name := "deed", desc := "()I" } : Jvm.MethodName) prog_6_method_2_code (1 : Nat) (Option.some Jvm.ClassFile.FieldType.int) ∈ aWd := aWd_2 (List.mem_of_getElem? (i := 139) rfl) rfl
theorem wd_2_140 : Jvm.Cond.methodLink "ReadAloud" (128 : Nat) ({ cls := "ReadAloud", name := "alteredBy", desc := "(ILReadAloud$Sheet;)I" } : Jvm.MethodName) ∈ aWd := aWd_2 (List.mem_of_getElem? (i := 140) rfl) rfl
theorem wd_2_142 : Jvm.Cond.instanceMethod ({ cls := "ReadAloud", name := "alteredBy", desc := "(ILReadAloud$Sheet;)I" } : Jvm.MethodName) ∈ aWd := aWd_2 (List.mem_of_getElem? (i := 142) rfl) rfl
theorem wd_2_143 : Jvm.Cond.code ({ cls := "ReadAloud", name := "alteredBy", desc := "(ILReadAloud$Sheet;)I" } : Jvm.MethodName) prog_1_method_35_code (3 : Nat) (Option.some Jvm.ClassFile.FieldType.int) ∈ aWd := aWd_2 (List.mem_of_getElem? (i := 143) rfl) rfl
theorem wd_2_144 : Jvm.Cond.methodLink "ReadAloud" (168 : Nat) ({ cls := "ReadAloud", name := "deedOf", desc := "(I)I" } : Jvm.MethodName) ∈ aWd := aWd_2 (List.mem_of_getElem? (i := 144) rfl) rfl
theorem wd_2_146 : Jvm.Cond.instanceMethod ({ cls := "ReadAloud", name := "deedOf", desc := "(I)I" } : Jvm.MethodName) ∈ aWd := aWd_2 (List.mem_of_getElem? (i := 146) rfl) rfl
theorem wd_2_147 : Jvm.Cond.code ({ cls := "ReadAloud", name := "deedOf", desc := "(I)I" } : Jvm.MethodName) prog_1_method_29_code (3 : Nat) (Option.some Jvm.ClassFile.FieldType.int) ∈ aWd := aWd_2 (List.mem_of_getElem? (i := 147) rfl) rfl
theorem wd_2_148 : Jvm.Cond.methodLink "ReadAloud" (137 : Nat) ({ cls := "ReadAloud", name := "hiddenBy", desc := "(I)I" } : Jvm.MethodName) ∈ aWd := aWd_2 (List.mem_of_getElem? (i := 148) rfl) rfl
theorem wd_2_150 : Jvm.Cond.instanceMethod ({ cls := "ReadAloud", name := "hiddenBy", desc := "(I)I" } : Jvm.MethodName) ∈ aWd := aWd_2 (List.mem_of_getElem? (i := 150) rfl) rfl
theorem wd_2_151 : Jvm.Cond.code ({ cls := "ReadAloud", name := "hiddenBy", desc := "(I)I" } : Jvm.MethodName) prog_1_method_30_code (2 : Nat) (Option.some Jvm.ClassFile.FieldType.int) ∈ aWd := aWd_2 (List.mem_of_getElem? (i := 151) rfl) rfl
theorem wd_2_152 : Jvm.Cond.methodLink "ReadAloud" (171 : Nat) ({ cls := "ReadAloud", name := "wouldAlter", desc := "(ILReadAloud$Sheet;II)I" } : Jvm.MethodName) ∈ aWd := aWd_2 (List.mem_of_getElem? (i := 152) rfl) rfl
theorem wd_2_154 : Jvm.Cond.instanceMethod ({ cls := "ReadAloud", name := "wouldAlter", desc := "(ILReadAloud$Sheet;II)I" } : Jvm.MethodName) ∈ aWd := aWd_2 (List.mem_of_getElem? (i := 154) rfl) rfl
theorem wd_2_155 : Jvm.Cond.code ({ cls := "ReadAloud", name := "wouldAlter", desc := "(ILReadAloud$Sheet;II)I" } : Jvm.MethodName) prog_1_method_34_code (7 : Nat) (Option.some Jvm.ClassFile.FieldType.int) ∈ aWd := aWd_2 (List.mem_of_getElem? (i := 155) rfl) rfl
theorem wd_2_156 : Jvm.Cond.methodLink "ReadAloud" (246 : Nat) ({ cls := "ReadAloud$Man", name := "placesByDeed", desc := "(LReadAloud$Sheet;I)I" } : Jvm.MethodName) ∈ aWd := aWd_2 (List.mem_of_getElem? (i := 156) rfl) rfl
theorem wd_2_157 : Jvm.Cond.instanceMethod ({ cls := "ReadAloud$Man", name := "placesByDeed", desc := "(LReadAloud$Sheet;I)I" } : Jvm.MethodName) ∈ aWd := aWd_2 (List.mem_of_getElem? (i := 157) rfl) rfl
theorem wd_2_158 : Jvm.Cond.selects "ReadAloud$Man" ({ cls := "ReadAloud$Man", name := "placesByDeed", desc := "(LReadAloud$Sheet;I)I" } : Jvm.MethodName) ({ cls := "ReadAloud$Man", name := "placesByDeed", desc := "(LReadAloud$Sheet;I)I" } : Jvm.MethodName) ∈ aWd := aWd_2 (List.mem_of_getElem? (i := 158) rfl) rfl
theorem wd_2_159 : Jvm.Cond.sameMethod "ReadAloud$Man" "ReadAloud$Man" "placesByDeed" "(LReadAloud$Sheet;I)I" ∈ aWd := aWd_2 (List.mem_of_getElem? (i := 159) rfl) rfl
theorem wd_2_160 : Jvm.Cond.selects "ReadAloud$Actor" ({ cls := "ReadAloud$Man", name := "placesByDeed", desc := "(LReadAloud$Sheet;I)I" } : Jvm.MethodName) ({ cls := "ReadAloud$Actor", name := "placesByDeed", desc := "(LReadAloud$Sheet;I)I" } : Jvm.MethodName) ∈ aWd := aWd_2 (List.mem_of_getElem? (i := 160) rfl) rfl
theorem wd_2_161 : Jvm.Cond.instanceMethod ({ cls := "ReadAloud$Actor", name := "placesByDeed", desc := "(LReadAloud$Sheet;I)I" } : Jvm.MethodName) ∈ aWd := aWd_2 (List.mem_of_getElem? (i := 161) rfl) rfl
theorem wd_2_162 : Jvm.Cond.code ({ cls := "ReadAloud$Actor", name := "placesByDeed", desc := "(LReadAloud$Sheet;I)I" } : Jvm.MethodName) prog_2_method_3_code (3 : Nat) (Option.some Jvm.ClassFile.FieldType.int) ∈ aWd := aWd_2 (List.mem_of_getElem? (i := 162) rfl) rfl
theorem wd_2_163 : Jvm.Cond.methodLink "ReadAloud$Actor" (7 : Nat) ({ cls := "ReadAloud$Sheet", name := "firstPlacesOf", desc := "(I)I" } : Jvm.MethodName) ∈ aWd := aWd_2 (List.mem_of_getElem? (i := 163) rfl) rfl
theorem wd_2_164 : Jvm.Cond.instanceMethod ({ cls := "ReadAloud$Sheet", name := "firstPlacesOf", desc := "(I)I" } : Jvm.MethodName) ∈ aWd := aWd_2 (List.mem_of_getElem? (i := 164) rfl) rfl
theorem wd_2_165 : Jvm.Cond.selects "ReadAloud$Sheet" ({ cls := "ReadAloud$Sheet", name := "firstPlacesOf", desc := "(I)I" } : Jvm.MethodName) ({ cls := "ReadAloud$Sheet", name := "firstPlacesOf", desc := "(I)I" } : Jvm.MethodName) ∈ aWd := aWd_2 (List.mem_of_getElem? (i := 165) rfl) rfl
theorem wd_2_166 : Jvm.Cond.code ({ cls := "ReadAloud$Sheet", name := "firstPlacesOf", desc := "(I)I" } : Jvm.MethodName) prog_8_method_10_code (5 : Nat) (Option.some Jvm.ClassFile.FieldType.int) ∈ aWd := aWd_2 (List.mem_of_getElem? (i := 166) rfl) rfl
theorem wd_2_167 : Jvm.Cond.selects "ReadAloud$Boy" ({ cls := "ReadAloud$Man", name := "placesByDeed", desc := "(LReadAloud$Sheet;I)I" } : Jvm.MethodName) ({ cls := "ReadAloud$Boy", name := "placesByDeed", desc := "(LReadAloud$Sheet;I)I" } : Jvm.MethodName) ∈ aWd := aWd_2 (List.mem_of_getElem? (i := 167) rfl) rfl
theorem wd_2_168 : Jvm.Cond.instanceMethod ({ cls := "ReadAloud$Boy", name := "placesByDeed", desc := "(LReadAloud$Sheet;I)I" } : Jvm.MethodName) ∈ aWd := aWd_2 (List.mem_of_getElem? (i := 168) rfl) rfl
theorem wd_2_169 : Jvm.Cond.code ({ cls := "ReadAloud$Boy", name := "placesByDeed", desc := "(LReadAloud$Sheet;I)I" } : Jvm.MethodName) prog_3_method_3_code (3 : Nat) (Option.some Jvm.ClassFile.FieldType.int) ∈ aWd := aWd_2 (List.mem_of_getElem? (i := 169) rfl) rfl
theorem wd_2_170 : Jvm.Cond.methodLink "ReadAloud$Boy" (7 : Nat) ({ cls := "ReadAloud$Sheet", name := "placesOf", desc := "(I)I" } : Jvm.MethodName) ∈ aWd := aWd_2 (List.mem_of_getElem? (i := 170) rfl) rfl
theorem wd_2_171 : Jvm.Cond.instanceMethod ({ cls := "ReadAloud$Sheet", name := "placesOf", desc := "(I)I" } : Jvm.MethodName) ∈ aWd := aWd_2 (List.mem_of_getElem? (i := 171) rfl) rfl
theorem wd_2_172 : Jvm.Cond.selects "ReadAloud$Sheet" ({ cls := "ReadAloud$Sheet", name := "placesOf", desc := "(I)I" } : Jvm.MethodName) ({ cls := "ReadAloud$Sheet", name := "placesOf", desc := "(I)I" } : Jvm.MethodName) ∈ aWd := aWd_2 (List.mem_of_getElem? (i := 172) rfl) rfl
theorem wd_2_173 : Jvm.Cond.code ({ cls := "ReadAloud$Sheet", name := "placesOf", desc := "(I)I" } : Jvm.MethodName) prog_8_method_9_code (4 : Nat) (Option.some Jvm.ClassFile.FieldType.int) ∈ aWd := aWd_2 (List.mem_of_getElem? (i := 173) rfl) rfl
theorem wd_2_174 : Jvm.Cond.methodLink "ReadAloud$Boy" (13 : Nat) ({ cls := "ReadAloud$Sheet", name := "placesBehind", desc := "(I)I" } : Jvm.MethodName) ∈ aWd := aWd_2 (List.mem_of_getElem? (i := 174) rfl) rfl
theorem wd_2_175 : Jvm.Cond.instanceMethod ({ cls := "ReadAloud$Sheet", name := "placesBehind", desc := "(I)I" } : Jvm.MethodName) ∈ aWd := aWd_2 (List.mem_of_getElem? (i := 175) rfl) rfl
theorem wd_2_176 : Jvm.Cond.selects "ReadAloud$Sheet" ({ cls := "ReadAloud$Sheet", name := "placesBehind", desc := "(I)I" } : Jvm.MethodName) ({ cls := "ReadAloud$Sheet", name := "placesBehind", desc := "(I)I" } : Jvm.MethodName) ∈ aWd := aWd_2 (List.mem_of_getElem? (i := 176) rfl) rfl
theorem wd_2_177 : Jvm.Cond.code ({ cls := "ReadAloud$Sheet", name := "placesBehind", desc := "(I)I" } : Jvm.MethodName) prog_8_method_11_code (2 : Nat) (Option.some Jvm.ClassFile.FieldType.int) ∈ aWd := aWd_2 (List.mem_of_getElem? (i := 177) rfl) rfl
theorem wd_2_178 : Jvm.Cond.selects "ReadAloud$Stammerer" ({ cls := "ReadAloud$Man", name := "placesByDeed", desc := "(LReadAloud$Sheet;I)I" } : Jvm.MethodName) ({ cls := "ReadAloud$Man", name := "placesByDeed", desc := "(LReadAloud$Sheet;I)I" } : Jvm.MethodName) ∈ aWd := aWd_2 (List.mem_of_getElem? (i := 178) rfl) rfl
theorem wd_2_179 : Jvm.Cond.selects "ReadAloud$Weeper" ({ cls := "ReadAloud$Man", name := "placesByDeed", desc := "(LReadAloud$Sheet;I)I" } : Jvm.MethodName) ({ cls := "ReadAloud$Man", name := "placesByDeed", desc := "(LReadAloud$Sheet;I)I" } : Jvm.MethodName) ∈ aWd := aWd_2 (List.mem_of_getElem? (i := 179) rfl) rfl
theorem wd_2_180 : Jvm.Cond.code ({ cls := "ReadAloud$Man", name := "placesByDeed", desc := "(LReadAloud$Sheet;I)I" } : Jvm.MethodName) prog_6_method_4_code (3 : Nat) (Option.some Jvm.ClassFile.FieldType.int) ∈ aWd := aWd_2 (List.mem_of_getElem? (i := 180) rfl) rfl
theorem wd_2_181 : Jvm.Cond.methodLink "ReadAloud$Man" (13 : Nat) ({ cls := "ReadAloud$Sheet", name := "placesOf", desc := "(I)I" } : Jvm.MethodName) ∈ aWd := aWd_2 (List.mem_of_getElem? (i := 181) rfl) rfl
theorem wd_2_182 : Jvm.Cond.methodLink "ReadAloud" (250 : Nat) ({ cls := "ReadAloud$Man", name := "placesAnyhow", desc := "(LReadAloud$Sheet;)I" } : Jvm.MethodName) ∈ aWd := aWd_2 (List.mem_of_getElem? (i := 182) rfl) rfl
theorem wd_2_183 : Jvm.Cond.instanceMethod ({ cls := "ReadAloud$Man", name := "placesAnyhow", desc := "(LReadAloud$Sheet;)I" } : Jvm.MethodName) ∈ aWd := aWd_2 (List.mem_of_getElem? (i := 183) rfl) rfl
theorem wd_2_184 : Jvm.Cond.selects "ReadAloud$Man" ({ cls := "ReadAloud$Man", name := "placesAnyhow", desc := "(LReadAloud$Sheet;)I" } : Jvm.MethodName) ({ cls := "ReadAloud$Man", name := "placesAnyhow", desc := "(LReadAloud$Sheet;)I" } : Jvm.MethodName) ∈ aWd := aWd_2 (List.mem_of_getElem? (i := 184) rfl) rfl
theorem wd_2_185 : Jvm.Cond.sameMethod "ReadAloud$Man" "ReadAloud$Man" "placesAnyhow" "(LReadAloud$Sheet;)I" ∈ aWd := aWd_2 (List.mem_of_getElem? (i := 185) rfl) rfl
theorem wd_2_186 : Jvm.Cond.selects "ReadAloud$Actor" ({ cls := "ReadAloud$Man", name := "placesAnyhow", desc := "(LReadAloud$Sheet;)I" } : Jvm.MethodName) ({ cls := "ReadAloud$Man", name := "placesAnyhow", desc := "(LReadAloud$Sheet;)I" } : Jvm.MethodName) ∈ aWd := aWd_2 (List.mem_of_getElem? (i := 186) rfl) rfl
theorem wd_2_187 : Jvm.Cond.selects "ReadAloud$Boy" ({ cls := "ReadAloud$Man", name := "placesAnyhow", desc := "(LReadAloud$Sheet;)I" } : Jvm.MethodName) ({ cls := "ReadAloud$Man", name := "placesAnyhow", desc := "(LReadAloud$Sheet;)I" } : Jvm.MethodName) ∈ aWd := aWd_2 (List.mem_of_getElem? (i := 187) rfl) rfl
theorem wd_2_188 : Jvm.Cond.selects "ReadAloud$Stammerer" ({ cls := "ReadAloud$Man", name := "placesAnyhow", desc := "(LReadAloud$Sheet;)I" } : Jvm.MethodName) ({ cls := "ReadAloud$Stammerer", name := "placesAnyhow", desc := "(LReadAloud$Sheet;)I" } : Jvm.MethodName) ∈ aWd := aWd_2 (List.mem_of_getElem? (i := 188) rfl) rfl
theorem wd_2_189 : Jvm.Cond.instanceMethod ({ cls := "ReadAloud$Stammerer", name := "placesAnyhow", desc := "(LReadAloud$Sheet;)I" } : Jvm.MethodName) ∈ aWd := aWd_2 (List.mem_of_getElem? (i := 189) rfl) rfl
theorem wd_2_190 : Jvm.Cond.code ({ cls := "ReadAloud$Stammerer", name := "placesAnyhow", desc := "(LReadAloud$Sheet;)I" } : Jvm.MethodName) prog_9_method_3_code (2 : Nat) (Option.some Jvm.ClassFile.FieldType.int) ∈ aWd := aWd_2 (List.mem_of_getElem? (i := 190) rfl) rfl
theorem wd_2_191 : Jvm.Cond.selects "ReadAloud$Weeper" ({ cls := "ReadAloud$Man", name := "placesAnyhow", desc := "(LReadAloud$Sheet;)I" } : Jvm.MethodName) ({ cls := "ReadAloud$Weeper", name := "placesAnyhow", desc := "(LReadAloud$Sheet;)I" } : Jvm.MethodName) ∈ aWd := aWd_2 (List.mem_of_getElem? (i := 191) rfl) rfl
theorem wd_2_192 : Jvm.Cond.instanceMethod ({ cls := "ReadAloud$Weeper", name := "placesAnyhow", desc := "(LReadAloud$Sheet;)I" } : Jvm.MethodName) ∈ aWd := aWd_2 (List.mem_of_getElem? (i := 192) rfl) rfl
theorem wd_2_193 : Jvm.Cond.code ({ cls := "ReadAloud$Weeper", name := "placesAnyhow", desc := "(LReadAloud$Sheet;)I" } : Jvm.MethodName) prog_12_method_3_code (2 : Nat) (Option.some Jvm.ClassFile.FieldType.int) ∈ aWd := aWd_2 (List.mem_of_getElem? (i := 193) rfl) rfl
theorem wd_2_194 : Jvm.Cond.methodLink "ReadAloud$Weeper" (7 : Nat) ({ cls := "ReadAloud$Stammerer", name := "placesAnyhow", desc := "(LReadAloud$Sheet;)I" } : Jvm.MethodName) ∈ aWd := aWd_2 (List.mem_of_getElem? (i := 194) rfl) rfl
theorem wd_2_195 : Jvm.Cond.methodLink "ReadAloud$Weeper" (13 : Nat) ({ cls := "ReadAloud$Sheet", name := "placesOf", desc := "(I)I" } : Jvm.MethodName) ∈ aWd := aWd_2 (List.mem_of_getElem? (i := 195) rfl) rfl
theorem wd_2_196 : Jvm.Cond.code ({ cls := "ReadAloud$Man", name := "placesAnyhow", desc := "(LReadAloud$Sheet;)I" } : Jvm.MethodName) prog_6_method_5_code (2 : Nat) (Option.some Jvm.ClassFile.FieldType.int) ∈ aWd := aWd_2 (List.mem_of_getElem? (i := 196) rfl) rfl
theorem wd_2_197 : Jvm.Cond.methodLink "ReadAloud" (179 : Nat) ({ cls := "ReadAloud$Sheet", name := "placesOf", desc := "(I)I" } : Jvm.MethodName) ∈ aWd := aWd_2 (List.mem_of_getElem? (i := 197) rfl) rfl
theorem wd_2_198 : Jvm.Cond.methodLink "ReadAloud" (132 : Nat) ({ cls := "java/lang/Integer", name := "bitCount", desc := "(I)I" } : Jvm.MethodName) ∈ aWd := aWd_2 (List.mem_of_getElem? (i := 198) rfl) rfl
theorem wd_2_199 : Jvm.Cond.static ({ cls := "java/lang/Integer", name := "bitCount", desc := "(I)I" } : Jvm.MethodName) ∈ aWd := aWd_2 (List.mem_of_getElem? (i := 199) rfl) rfl
theorem wd_2_200 : Jvm.Cond.code ({ cls := "java/lang/Integer", name := "bitCount", desc := "(I)I" } : Jvm.MethodName) prog_15_method_49_code (1 : Nat) (Option.some Jvm.ClassFile.FieldType.int) ∈ aWd := aWd_2 (List.mem_of_getElem? (i := 200) rfl) rfl
theorem wd_2_201 : Jvm.Cond.constant "java/lang/Integer" (265 : Nat) (1431655765 : Int32) ∈ aWd := aWd_2 (List.mem_of_getElem? (i := 201) rfl) rfl
theorem wd_2_202 : Jvm.Cond.constant "java/lang/Integer" (266 : Nat) (858993459 : Int32) ∈ aWd := aWd_2 (List.mem_of_getElem? (i := 202) rfl) rfl
theorem wd_2_203 : Jvm.Cond.constant "java/lang/Integer" (267 : Nat) (252645135 : Int32) ∈ aWd := aWd_2 (List.mem_of_getElem? (i := 203) rfl) rfl
theorem wd_2_204 : Jvm.Cond.methodLink "ReadAloud" (144 : Nat) ({ cls := "ReadAloud$Heard", name := "deedsLeft", desc := "(I)I" } : Jvm.MethodName) ∈ aWd := aWd_2 (List.mem_of_getElem? (i := 204) rfl) rfl
theorem wd_2_205 : Jvm.Cond.instanceMethod ({ cls := "ReadAloud$Heard", name := "deedsLeft", desc := "(I)I" } : Jvm.MethodName) ∈ aWd := aWd_2 (List.mem_of_getElem? (i := 205) rfl) rfl
theorem wd_2_206 : Jvm.Cond.selects "ReadAloud$Heard" ({ cls := "ReadAloud$Heard", name := "deedsLeft", desc := "(I)I" } : Jvm.MethodName) ({ cls := "ReadAloud$Heard", name := "deedsLeft", desc := "(I)I" } : Jvm.MethodName) ∈ aWd := aWd_2 (List.mem_of_getElem? (i := 206) rfl) rfl
theorem wd_2_207 : Jvm.Cond.code ({ cls := "ReadAloud$Heard", name := "deedsLeft", desc := "(I)I" } : Jvm.MethodName) prog_5_method_6_code (4 : Nat) (Option.some Jvm.ClassFile.FieldType.int) ∈ aWd := aWd_2 (List.mem_of_getElem? (i := 207) rfl) rfl
theorem wd_2_208 : Jvm.Cond.methodLink "ReadAloud" (149 : Nat) ({ cls := "ReadAloud", name := "placeToListen", desc := "(I)I" } : Jvm.MethodName) ∈ aWd := aWd_2 (List.mem_of_getElem? (i := 208) rfl) rfl
theorem wd_2_210 : Jvm.Cond.instanceMethod ({ cls := "ReadAloud", name := "placeToListen", desc := "(I)I" } : Jvm.MethodName) ∈ aWd := aWd_2 (List.mem_of_getElem? (i := 210) rfl) rfl
theorem wd_2_211 : Jvm.Cond.code ({ cls := "ReadAloud", name := "placeToListen", desc := "(I)I" } : Jvm.MethodName) prog_1_method_39_code (8 : Nat) (Option.some Jvm.ClassFile.FieldType.int) ∈ aWd := aWd_2 (List.mem_of_getElem? (i := 211) rfl) rfl
theorem wd_2_212 : Jvm.Cond.methodLink "ReadAloud" (182 : Nat) ({ cls := "ReadAloud", name := "deedsAltering", desc := "(II)I" } : Jvm.MethodName) ∈ aWd := aWd_2 (List.mem_of_getElem? (i := 212) rfl) rfl
theorem wd_2_214 : Jvm.Cond.instanceMethod ({ cls := "ReadAloud", name := "deedsAltering", desc := "(II)I" } : Jvm.MethodName) ∈ aWd := aWd_2 (List.mem_of_getElem? (i := 214) rfl) rfl
theorem wd_2_215 : Jvm.Cond.code ({ cls := "ReadAloud", name := "deedsAltering", desc := "(II)I" } : Jvm.MethodName) prog_1_method_38_code (6 : Nat) (Option.some Jvm.ClassFile.FieldType.int) ∈ aWd := aWd_2 (List.mem_of_getElem? (i := 215) rfl) rfl
theorem wd_2_216 : Jvm.Cond.methodLink "ReadAloud" (253 : Nat) ({ cls := "java/lang/Math", name := "max", desc := "(II)I" } : Jvm.MethodName) ∈ aWd := aWd_2 (List.mem_of_getElem? (i := 216) rfl) rfl
theorem wd_2_219 : Jvm.Cond.methodLink "ReadAloudLaw" (56 : Nat) ({ cls := "ReadAloud", name := "as", desc := "(II)I" } : Jvm.MethodName) ∈ aWd := aWd_2 (List.mem_of_getElem? (i := 219) rfl) rfl
theorem wd_2_220 : Jvm.Cond.instanceMethod ({ cls := "ReadAloud", name := "as", desc := "(II)I" } : Jvm.MethodName) ∈ aWd := aWd_2 (List.mem_of_getElem? (i := 220) rfl) rfl
theorem wd_2_221 : Jvm.Cond.selects "ReadAloud" ({ cls := "ReadAloud", name := "as", desc := "(II)I" } : Jvm.MethodName) ({ cls := "ReadAloud", name := "as", desc := "(II)I" } : Jvm.MethodName) ∈ aWd := aWd_2 (List.mem_of_getElem? (i := 221) rfl) rfl
theorem wd_2_222 : Jvm.Cond.code ({ cls := "ReadAloud", name := "as", desc := "(II)I" } : Jvm.MethodName) prog_1_method_12_code (4 : Nat) (Option.some Jvm.ClassFile.FieldType.int) ∈ aWd := aWd_2 (List.mem_of_getElem? (i := 222) rfl) rfl
theorem wd_2_223 : Jvm.Cond.methodLink "ReadAloud" (152 : Nat) ({ cls := "ReadAloud", name := "isOfKind", desc := "(LReadAloud$Man;I)Z" } : Jvm.MethodName) ∈ aWd := aWd_2 (List.mem_of_getElem? (i := 223) rfl) rfl
theorem wd_2_224 : Jvm.Cond.static ({ cls := "ReadAloud", name := "isOfKind", desc := "(LReadAloud$Man;I)Z" } : Jvm.MethodName) ∈ aWd := aWd_2 (List.mem_of_getElem? (i := 224) rfl) rfl
theorem wd_2_225 : Jvm.Cond.code ({ cls := "ReadAloud", name := "isOfKind", desc := "(LReadAloud$Man;I)Z" } : Jvm.MethodName) prog_1_method_32_code (2 : Nat) (Option.some Jvm.ClassFile.FieldType.boolean) ∈ aWd := aWd_2 (List.mem_of_getElem? (i := 225) rfl) rfl
theorem wd_2_226 : Jvm.Cond.methodLink "ReadAloudLaw" (60 : Nat) ({ cls := "ReadAloud", name := "lesson", desc := "(II)I" } : Jvm.MethodName) ∈ aWd := aWd_2 (List.mem_of_getElem? (i := 226) rfl) rfl
theorem wd_2_227 : Jvm.Cond.instanceMethod ({ cls := "ReadAloud", name := "lesson", desc := "(II)I" } : Jvm.MethodName) ∈ aWd := aWd_2 (List.mem_of_getElem? (i := 227) rfl) rfl
theorem wd_2_228 : Jvm.Cond.selects "ReadAloud" ({ cls := "ReadAloud", name := "lesson", desc := "(II)I" } : Jvm.MethodName) ({ cls := "ReadAloud", name := "lesson", desc := "(II)I" } : Jvm.MethodName) ∈ aWd := aWd_2 (List.mem_of_getElem? (i := 228) rfl) rfl
theorem wd_2_229 : Jvm.Cond.code ({ cls := "ReadAloud", name := "lesson", desc := "(II)I" } : Jvm.MethodName) prog_1_method_13_code (4 : Nat) (Option.some Jvm.ClassFile.FieldType.int) ∈ aWd := aWd_2 (List.mem_of_getElem? (i := 229) rfl) rfl
theorem wd_2_230 : Jvm.Cond.methodLink "ReadAloudLaw" (64 : Nat) ({ cls := "ReadAloud", name := "unlearn", desc := "(I)I" } : Jvm.MethodName) ∈ aWd := aWd_2 (List.mem_of_getElem? (i := 230) rfl) rfl
theorem wd_2_231 : Jvm.Cond.instanceMethod ({ cls := "ReadAloud", name := "unlearn", desc := "(I)I" } : Jvm.MethodName) ∈ aWd := aWd_2 (List.mem_of_getElem? (i := 231) rfl) rfl
theorem wd_2_232 : Jvm.Cond.selects "ReadAloud" ({ cls := "ReadAloud", name := "unlearn", desc := "(I)I" } : Jvm.MethodName) ({ cls := "ReadAloud", name := "unlearn", desc := "(I)I" } : Jvm.MethodName) ∈ aWd := aWd_2 (List.mem_of_getElem? (i := 232) rfl) rfl
theorem wd_2_233 : Jvm.Cond.code ({ cls := "ReadAloud", name := "unlearn", desc := "(I)I" } : Jvm.MethodName) prog_1_method_14_code (3 : Nat) (Option.some Jvm.ClassFile.FieldType.int) ∈ aWd := aWd_2 (List.mem_of_getElem? (i := 233) rfl) rfl
theorem wd_2_234 : Jvm.Cond.methodLink "ReadAloudLaw" (68 : Nat) ({ cls := "ReadAloud", name := "brief", desc := "(I)I" } : Jvm.MethodName) ∈ aWd := aWd_2 (List.mem_of_getElem? (i := 234) rfl) rfl
theorem wd_2_235 : Jvm.Cond.instanceMethod ({ cls := "ReadAloud", name := "brief", desc := "(I)I" } : Jvm.MethodName) ∈ aWd := aWd_2 (List.mem_of_getElem? (i := 235) rfl) rfl
theorem wd_2_236 : Jvm.Cond.selects "ReadAloud" ({ cls := "ReadAloud", name := "brief", desc := "(I)I" } : Jvm.MethodName) ({ cls := "ReadAloud", name := "brief", desc := "(I)I" } : Jvm.MethodName) ∈ aWd := aWd_2 (List.mem_of_getElem? (i := 236) rfl) rfl
theorem wd_2_237 : Jvm.Cond.code ({ cls := "ReadAloud", name := "brief", desc := "(I)I" } : Jvm.MethodName) prog_1_method_15_code (2 : Nat) (Option.some Jvm.ClassFile.FieldType.int) ∈ aWd := aWd_2 (List.mem_of_getElem? (i := 237) rfl) rfl
theorem wd_2_238 : Jvm.Cond.methodLink "ReadAloud" (162 : Nat) ({ cls := "ReadAloud$Brief", name := "seek", desc := "([I)V" } : Jvm.MethodName) ∈ aWd := aWd_2 (List.mem_of_getElem? (i := 238) rfl) rfl
theorem wd_2_239 : Jvm.Cond.instanceMethod ({ cls := "ReadAloud$Brief", name := "seek", desc := "([I)V" } : Jvm.MethodName) ∈ aWd := aWd_2 (List.mem_of_getElem? (i := 239) rfl) rfl
theorem wd_3_0 : Jvm.Cond.selects "ReadAloud$Brief" ({ cls := "ReadAloud$Brief", name := "seek", desc := "([I)V" } : Jvm.MethodName) ({ cls := "ReadAloud$Brief", name := "seek", desc := "([I)V" } : Jvm.MethodName) ∈ aWd := aWd_3 (List.mem_of_getElem? (i := 0) rfl) rfl
theorem wd_3_1 : Jvm.Cond.code ({ cls := "ReadAloud$Brief", name := "seek", desc := "([I)V" } : Jvm.MethodName) prog_4_method_4_code (4 : Nat) (Option.none : Option Jvm.ClassFile.FieldType) ∈ aWd := aWd_3 (List.mem_of_getElem? (i := 1) rfl) rfl
theorem wd_3_2 : Jvm.Cond.methodLink "ReadAloud$Brief" (22 : Nat) ({ cls := "ReadAloud$Brief", name := "pairsToldBy", desc := "(I[I)I" } : Jvm.MethodName) ∈ aWd := aWd_3 (List.mem_of_getElem? (i := 2) rfl) rfl
theorem wd_3_3 : Jvm.Cond.static ({ cls := "ReadAloud$Brief", name := "pairsToldBy", desc := "(I[I)I" } : Jvm.MethodName) ∈ aWd := aWd_3 (List.mem_of_getElem? (i := 3) rfl) rfl
theorem wd_3_4 : Jvm.Cond.code ({ cls := "ReadAloud$Brief", name := "pairsToldBy", desc := "(I[I)I" } : Jvm.MethodName) prog_4_method_5_code (6 : Nat) (Option.some Jvm.ClassFile.FieldType.int) ∈ aWd := aWd_3 (List.mem_of_getElem? (i := 4) rfl) rfl
theorem wd_3_5 : Jvm.Cond.methodLink "ReadAloud$Brief" (26 : Nat) ({ cls := "ReadAloud$Brief", name := "firstSheet", desc := "([IIIII)I" } : Jvm.MethodName) ∈ aWd := aWd_3 (List.mem_of_getElem? (i := 5) rfl) rfl
theorem wd_3_6 : Jvm.Cond.static ({ cls := "ReadAloud$Brief", name := "firstSheet", desc := "([IIIII)I" } : Jvm.MethodName) ∈ aWd := aWd_3 (List.mem_of_getElem? (i := 6) rfl) rfl
theorem wd_3_7 : Jvm.Cond.code ({ cls := "ReadAloud$Brief", name := "firstSheet", desc := "([IIIII)I" } : Jvm.MethodName) prog_4_method_6_code (7 : Nat) (Option.some Jvm.ClassFile.FieldType.int) ∈ aWd := aWd_3 (List.mem_of_getElem? (i := 7) rfl) rfl
theorem wd_3_8 : Jvm.Cond.methodLink "ReadAloud" (166 : Nat) ({ cls := "ReadAloud$Brief", name := "size", desc := "()I" } : Jvm.MethodName) ∈ aWd := aWd_3 (List.mem_of_getElem? (i := 8) rfl) rfl
theorem wd_3_9 : Jvm.Cond.instanceMethod ({ cls := "ReadAloud$Brief", name := "size", desc := "()I" } : Jvm.MethodName) ∈ aWd := aWd_3 (List.mem_of_getElem? (i := 9) rfl) rfl
theorem wd_3_10 : Jvm.Cond.selects "ReadAloud$Brief" ({ cls := "ReadAloud$Brief", name := "size", desc := "()I" } : Jvm.MethodName) ({ cls := "ReadAloud$Brief", name := "size", desc := "()I" } : Jvm.MethodName) ∈ aWd := aWd_3 (List.mem_of_getElem? (i := 10) rfl) rfl
theorem wd_3_11 : Jvm.Cond.code ({ cls := "ReadAloud$Brief", name := "size", desc := "()I" } : Jvm.MethodName) prog_4_method_2_code (1 : Nat) (Option.some Jvm.ClassFile.FieldType.int) ∈ aWd := aWd_3 (List.mem_of_getElem? (i := 11) rfl) rfl
theorem wd_3_12 : Jvm.Cond.methodLink "ReadAloud" (167 : Nat) ({ cls := "ReadAloud$Brief", name := "at", desc := "(I)I" } : Jvm.MethodName) ∈ aWd := aWd_3 (List.mem_of_getElem? (i := 12) rfl) rfl
theorem wd_3_13 : Jvm.Cond.instanceMethod ({ cls := "ReadAloud$Brief", name := "at", desc := "(I)I" } : Jvm.MethodName) ∈ aWd := aWd_3 (List.mem_of_getElem? (i := 13) rfl) rfl
theorem wd_3_14 : Jvm.Cond.selects "ReadAloud$Brief" ({ cls := "ReadAloud$Brief", name := "at", desc := "(I)I" } : Jvm.MethodName) ({ cls := "ReadAloud$Brief", name := "at", desc := "(I)I" } : Jvm.MethodName) ∈ aWd := aWd_3 (List.mem_of_getElem? (i := 14) rfl) rfl
theorem wd_3_15 : Jvm.Cond.code ({ cls := "ReadAloud$Brief", name := "at", desc := "(I)I" } : Jvm.MethodName) prog_4_method_3_code (2 : Nat) (Option.some Jvm.ClassFile.FieldType.int) ∈ aWd := aWd_3 (List.mem_of_getElem? (i := 15) rfl) rfl
theorem wd_3_16 : Jvm.Cond.methodLink "ReadAloudLaw" (72 : Nat) ({ cls := "ReadAloud", name := "hide", desc := "(III)I" } : Jvm.MethodName) ∈ aWd := aWd_3 (List.mem_of_getElem? (i := 16) rfl) rfl
theorem wd_3_17 : Jvm.Cond.instanceMethod ({ cls := "ReadAloud", name := "hide", desc := "(III)I" } : Jvm.MethodName) ∈ aWd := aWd_3 (List.mem_of_getElem? (i := 17) rfl) rfl
theorem wd_3_18 : Jvm.Cond.selects "ReadAloud" ({ cls := "ReadAloud", name := "hide", desc := "(III)I" } : Jvm.MethodName) ({ cls := "ReadAloud", name := "hide", desc := "(III)I" } : Jvm.MethodName) ∈ aWd := aWd_3 (List.mem_of_getElem? (i := 18) rfl) rfl
theorem wd_3_19 : Jvm.Cond.code ({ cls := "ReadAloud", name := "hide", desc := "(III)I" } : Jvm.MethodName) prog_1_method_16_code (6 : Nat) (Option.some Jvm.ClassFile.FieldType.int) ∈ aWd := aWd_3 (List.mem_of_getElem? (i := 19) rfl) rfl
theorem wd_3_20 : Jvm.Cond.methodLink "ReadAloud" (175 : Nat) ({ cls := "ReadAloud", name := "wordsToHide", desc := "(II)I" } : Jvm.MethodName) ∈ aWd := aWd_3 (List.mem_of_getElem? (i := 20) rfl) rfl
theorem wd_3_22 : Jvm.Cond.instanceMethod ({ cls := "ReadAloud", name := "wordsToHide", desc := "(II)I" } : Jvm.MethodName) ∈ aWd := aWd_3 (List.mem_of_getElem? (i := 22) rfl) rfl
theorem wd_3_23 : Jvm.Cond.code ({ cls := "ReadAloud", name := "wordsToHide", desc := "(II)I" } : Jvm.MethodName) prog_1_method_40_code (6 : Nat) (Option.some Jvm.ClassFile.FieldType.int) ∈ aWd := aWd_3 (List.mem_of_getElem? (i := 23) rfl) rfl
theorem wd_3_24 : Jvm.Cond.methodLink "ReadAloud" (258 : Nat) ({ cls := "ReadAloud", name := "heaviestWord", desc := "(I)I" } : Jvm.MethodName) ∈ aWd := aWd_3 (List.mem_of_getElem? (i := 24) rfl) rfl
theorem wd_3_26 : Jvm.Cond.instanceMethod ({ cls := "ReadAloud", name := "heaviestWord", desc := "(I)I" } : Jvm.MethodName) ∈ aWd := aWd_3 (List.mem_of_getElem? (i := 26) rfl) rfl
theorem wd_3_27 : Jvm.Cond.code ({ cls := "ReadAloud", name := "heaviestWord", desc := "(I)I" } : Jvm.MethodName) prog_1_method_41_code (6 : Nat) (Option.some Jvm.ClassFile.FieldType.int) ∈ aWd := aWd_3 (List.mem_of_getElem? (i := 27) rfl) rfl
theorem wd_3_28 : Jvm.Cond.methodLink "ReadAloudLaw" (77 : Nat) ({ cls := "ReadAloud", name := "hear", desc := "(IIZ)I" } : Jvm.MethodName) ∈ aWd := aWd_3 (List.mem_of_getElem? (i := 28) rfl) rfl
theorem wd_3_29 : Jvm.Cond.instanceMethod ({ cls := "ReadAloud", name := "hear", desc := "(IIZ)I" } : Jvm.MethodName) ∈ aWd := aWd_3 (List.mem_of_getElem? (i := 29) rfl) rfl
theorem wd_3_30 : Jvm.Cond.selects "ReadAloud" ({ cls := "ReadAloud", name := "hear", desc := "(IIZ)I" } : Jvm.MethodName) ({ cls := "ReadAloud", name := "hear", desc := "(IIZ)I" } : Jvm.MethodName) ∈ aWd := aWd_3 (List.mem_of_getElem? (i := 30) rfl) rfl
theorem wd_3_31 : Jvm.Cond.code ({ cls := "ReadAloud", name := "hear", desc := "(IIZ)I" } : Jvm.MethodName) prog_1_method_17_code (6 : Nat) (Option.some Jvm.ClassFile.FieldType.int) ∈ aWd := aWd_3 (List.mem_of_getElem? (i := 31) rfl) rfl
theorem wd_3_32 : Jvm.Cond.methodLink "ReadAloud" (185 : Nat) ({ cls := "ReadAloud$Heard", name := "add", desc := "(II)Z" } : Jvm.MethodName) ∈ aWd := aWd_3 (List.mem_of_getElem? (i := 32) rfl) rfl
theorem wd_3_33 : Jvm.Cond.instanceMethod ({ cls := "ReadAloud$Heard", name := "add", desc := "(II)Z" } : Jvm.MethodName) ∈ aWd := aWd_3 (List.mem_of_getElem? (i := 33) rfl) rfl
theorem wd_3_34 : Jvm.Cond.selects "ReadAloud$Heard" ({ cls := "ReadAloud$Heard", name := "add", desc := "(II)Z" } : Jvm.MethodName) ({ cls := "ReadAloud$Heard", name := "add", desc := "(II)Z" } : Jvm.MethodName) ∈ aWd := aWd_3 (List.mem_of_getElem? (i := 34) rfl) rfl
theorem wd_3_35 : Jvm.Cond.code ({ cls := "ReadAloud$Heard", name := "add", desc := "(II)Z" } : Jvm.MethodName) prog_5_method_3_code (3 : Nat) (Option.some Jvm.ClassFile.FieldType.boolean) ∈ aWd := aWd_3 (List.mem_of_getElem? (i := 35) rfl) rfl
theorem wd_3_36 : Jvm.Cond.methodLink "ReadAloud" (188 : Nat) ({ cls := "ReadAloud$Heard", name := "size", desc := "()I" } : Jvm.MethodName) ∈ aWd := aWd_3 (List.mem_of_getElem? (i := 36) rfl) rfl
theorem wd_3_37 : Jvm.Cond.instanceMethod ({ cls := "ReadAloud$Heard", name := "size", desc := "()I" } : Jvm.MethodName) ∈ aWd := aWd_3 (List.mem_of_getElem? (i := 37) rfl) rfl
theorem wd_3_38 : Jvm.Cond.selects "ReadAloud$Heard" ({ cls := "ReadAloud$Heard", name := "size", desc := "()I" } : Jvm.MethodName) ({ cls := "ReadAloud$Heard", name := "size", desc := "()I" } : Jvm.MethodName) ∈ aWd := aWd_3 (List.mem_of_getElem? (i := 38) rfl) rfl
theorem wd_3_39 : Jvm.Cond.code ({ cls := "ReadAloud$Heard", name := "size", desc := "()I" } : Jvm.MethodName) prog_5_method_2_code (1 : Nat) (Option.some Jvm.ClassFile.FieldType.int) ∈ aWd := aWd_3 (List.mem_of_getElem? (i := 39) rfl) rfl
theorem wd_3_40 : Jvm.Cond.methodLink "ReadAloudLaw" (82 : Nat) ({ cls := "ReadAloud", name := "forget", desc := "()I" } : Jvm.MethodName) ∈ aWd := aWd_3 (List.mem_of_getElem? (i := 40) rfl) rfl
theorem wd_3_41 : Jvm.Cond.instanceMethod ({ cls := "ReadAloud", name := "forget", desc := "()I" } : Jvm.MethodName) ∈ aWd := aWd_3 (List.mem_of_getElem? (i := 41) rfl) rfl
theorem wd_3_42 : Jvm.Cond.selects "ReadAloud" ({ cls := "ReadAloud", name := "forget", desc := "()I" } : Jvm.MethodName) ({ cls := "ReadAloud", name := "forget", desc := "()I" } : Jvm.MethodName) ∈ aWd := aWd_3 (List.mem_of_getElem? (i := 42) rfl) rfl
theorem wd_3_43 : Jvm.Cond.code ({ cls := "ReadAloud", name := "forget", desc := "()I" } : Jvm.MethodName) prog_1_method_18_code (2 : Nat) (Option.some Jvm.ClassFile.FieldType.int) ∈ aWd := aWd_3 (List.mem_of_getElem? (i := 43) rfl) rfl
theorem wd_3_44 : Jvm.Cond.methodLink "ReadAloud" (189 : Nat) ({ cls := "ReadAloud$Heard", name := "clear", desc := "()V" } : Jvm.MethodName) ∈ aWd := aWd_3 (List.mem_of_getElem? (i := 44) rfl) rfl
theorem wd_3_45 : Jvm.Cond.methodLink "ReadAloudLaw" (86 : Nat) ({ cls := "ReadAloud", name := "trials", desc := "(III)I" } : Jvm.MethodName) ∈ aWd := aWd_3 (List.mem_of_getElem? (i := 45) rfl) rfl
theorem wd_3_46 : Jvm.Cond.instanceMethod ({ cls := "ReadAloud", name := "trials", desc := "(III)I" } : Jvm.MethodName) ∈ aWd := aWd_3 (List.mem_of_getElem? (i := 46) rfl) rfl
theorem wd_3_47 : Jvm.Cond.selects "ReadAloud" ({ cls := "ReadAloud", name := "trials", desc := "(III)I" } : Jvm.MethodName) ({ cls := "ReadAloud", name := "trials", desc := "(III)I" } : Jvm.MethodName) ∈ aWd := aWd_3 (List.mem_of_getElem? (i := 47) rfl) rfl
theorem wd_3_48 : Jvm.Cond.code ({ cls := "ReadAloud", name := "trials", desc := "(III)I" } : Jvm.MethodName) prog_1_method_19_code (8 : Nat) (Option.some Jvm.ClassFile.FieldType.int) ∈ aWd := aWd_3 (List.mem_of_getElem? (i := 48) rfl) rfl
theorem wd_3_49 : Jvm.Cond.methodLink "ReadAloud" (190 : Nat) ({ cls := "ReadAloud", name := "drawSheet", desc := "(I)I" } : Jvm.MethodName) ∈ aWd := aWd_3 (List.mem_of_getElem? (i := 49) rfl) rfl
theorem wd_3_51 : Jvm.Cond.instanceMethod ({ cls := "ReadAloud", name := "drawSheet", desc := "(I)I" } : Jvm.MethodName) ∈ aWd := aWd_3 (List.mem_of_getElem? (i := 51) rfl) rfl
theorem wd_3_52 : Jvm.Cond.code ({ cls := "ReadAloud", name := "drawSheet", desc := "(I)I" } : Jvm.MethodName) prog_1_method_42_code (4 : Nat) (Option.some Jvm.ClassFile.FieldType.int) ∈ aWd := aWd_3 (List.mem_of_getElem? (i := 52) rfl) rfl
theorem wd_3_53 : Jvm.Cond.methodLink "ReadAloud" (261 : Nat) ({ cls := "ReadAloud$Sheet", name := "clear", desc := "()V" } : Jvm.MethodName) ∈ aWd := aWd_3 (List.mem_of_getElem? (i := 53) rfl) rfl
theorem wd_3_54 : Jvm.Cond.constant "ReadAloud" (262 : Nat) (1103515245 : Int32) ∈ aWd := aWd_3 (List.mem_of_getElem? (i := 54) rfl) rfl
theorem wd_3_55 : Jvm.Cond.constant "ReadAloud" (263 : Nat) (2147483647 : Int32) ∈ aWd := aWd_3 (List.mem_of_getElem? (i := 55) rfl) rfl
theorem wd_3_56 : Jvm.Cond.constant "ReadAloud" (264 : Nat) (65536 : Int32) ∈ aWd := aWd_3 (List.mem_of_getElem? (i := 56) rfl) rfl
theorem wd_3_57 : Jvm.Cond.methodLink "ReadAloud" (193 : Nat) ({ cls := "ReadAloud", name := "hangingAt", desc := "(LReadAloud$Sheet;)I" } : Jvm.MethodName) ∈ aWd := aWd_3 (List.mem_of_getElem? (i := 57) rfl) rfl
theorem wd_3_59 : Jvm.Cond.instanceMethod ({ cls := "ReadAloud", name := "hangingAt", desc := "(LReadAloud$Sheet;)I" } : Jvm.MethodName) ∈ aWd := aWd_3 (List.mem_of_getElem? (i := 59) rfl) rfl
theorem wd_3_60 : Jvm.Cond.code ({ cls := "ReadAloud", name := "hangingAt", desc := "(LReadAloud$Sheet;)I" } : Jvm.MethodName) prog_1_method_36_code (4 : Nat) (Option.some Jvm.ClassFile.FieldType.int) ∈ aWd := aWd_3 (List.mem_of_getElem? (i := 60) rfl) rfl
theorem wd_3_61 : Jvm.Cond.methodLink "ReadAloud" (197 : Nat) ({ cls := "ReadAloud", name := "allAltering", desc := "(LReadAloud$Sheet;)I" } : Jvm.MethodName) ∈ aWd := aWd_3 (List.mem_of_getElem? (i := 61) rfl) rfl
theorem wd_3_63 : Jvm.Cond.instanceMethod ({ cls := "ReadAloud", name := "allAltering", desc := "(LReadAloud$Sheet;)I" } : Jvm.MethodName) ∈ aWd := aWd_3 (List.mem_of_getElem? (i := 63) rfl) rfl
theorem wd_3_64 : Jvm.Cond.code ({ cls := "ReadAloud", name := "allAltering", desc := "(LReadAloud$Sheet;)I" } : Jvm.MethodName) prog_1_method_37_code (4 : Nat) (Option.some Jvm.ClassFile.FieldType.int) ∈ aWd := aWd_3 (List.mem_of_getElem? (i := 64) rfl) rfl
theorem wd_3_65 : Jvm.Cond.methodLink "ReadAloudLaw" (90 : Nat) ({ cls := "ReadAloud", name := "image", desc := "()I" } : Jvm.MethodName) ∈ aWd := aWd_3 (List.mem_of_getElem? (i := 65) rfl) rfl
theorem wd_3_66 : Jvm.Cond.instanceMethod ({ cls := "ReadAloud", name := "image", desc := "()I" } : Jvm.MethodName) ∈ aWd := aWd_3 (List.mem_of_getElem? (i := 66) rfl) rfl
theorem wd_3_67 : Jvm.Cond.selects "ReadAloud" ({ cls := "ReadAloud", name := "image", desc := "()I" } : Jvm.MethodName) ({ cls := "ReadAloud", name := "image", desc := "()I" } : Jvm.MethodName) ∈ aWd := aWd_3 (List.mem_of_getElem? (i := 67) rfl) rfl
theorem wd_3_68 : Jvm.Cond.code ({ cls := "ReadAloud", name := "image", desc := "()I" } : Jvm.MethodName) prog_1_method_20_code (1 : Nat) (Option.some Jvm.ClassFile.FieldType.int) ∈ aWd := aWd_3 (List.mem_of_getElem? (i := 68) rfl) rfl
theorem wd_3_69 : Jvm.Cond.methodLink "ReadAloud" (200 : Nat) ({ cls := "ReadAloud$State", name := "copyFrom", desc := "(LReadAloud$State;)V" } : Jvm.MethodName) ∈ aWd := aWd_3 (List.mem_of_getElem? (i := 69) rfl) rfl
theorem wd_3_70 : Jvm.Cond.instanceMethod ({ cls := "ReadAloud$State", name := "copyFrom", desc := "(LReadAloud$State;)V" } : Jvm.MethodName) ∈ aWd := aWd_3 (List.mem_of_getElem? (i := 70) rfl) rfl
theorem wd_3_71 : Jvm.Cond.selects "ReadAloud$State" ({ cls := "ReadAloud$State", name := "copyFrom", desc := "(LReadAloud$State;)V" } : Jvm.MethodName) ({ cls := "ReadAloud$State", name := "copyFrom", desc := "(LReadAloud$State;)V" } : Jvm.MethodName) ∈ aWd := aWd_3 (List.mem_of_getElem? (i := 71) rfl) rfl
theorem wd_3_72 : Jvm.Cond.code ({ cls := "ReadAloud$State", name := "copyFrom", desc := "(LReadAloud$State;)V" } : Jvm.MethodName) prog_10_method_3_code (2 : Nat) (Option.none : Option Jvm.ClassFile.FieldType) ∈ aWd := aWd_3 (List.mem_of_getElem? (i := 72) rfl) rfl
theorem wd_3_73 : Jvm.Cond.methodLink "ReadAloud$State" (43 : Nat) ({ cls := "ReadAloud$Sheet", name := "copyFrom", desc := "(LReadAloud$Sheet;)V" } : Jvm.MethodName) ∈ aWd := aWd_3 (List.mem_of_getElem? (i := 73) rfl) rfl
theorem wd_3_74 : Jvm.Cond.instanceMethod ({ cls := "ReadAloud$Sheet", name := "copyFrom", desc := "(LReadAloud$Sheet;)V" } : Jvm.MethodName) ∈ aWd := aWd_3 (List.mem_of_getElem? (i := 74) rfl) rfl
theorem wd_3_75 : Jvm.Cond.selects "ReadAloud$Sheet" ({ cls := "ReadAloud$Sheet", name := "copyFrom", desc := "(LReadAloud$Sheet;)V" } : Jvm.MethodName) ({ cls := "ReadAloud$Sheet", name := "copyFrom", desc := "(LReadAloud$Sheet;)V" } : Jvm.MethodName) ∈ aWd := aWd_3 (List.mem_of_getElem? (i := 75) rfl) rfl
theorem wd_3_76 : Jvm.Cond.code ({ cls := "ReadAloud$Sheet", name := "copyFrom", desc := "(LReadAloud$Sheet;)V" } : Jvm.MethodName) prog_8_method_8_code (2 : Nat) (Option.none : Option Jvm.ClassFile.FieldType) ∈ aWd := aWd_3 (List.mem_of_getElem? (i := 76) rfl) rfl
theorem wd_3_77 : Jvm.Cond.methodLink "ReadAloud$Sheet" (23 : Nat) ({ cls := "java/lang/System", name := "arraycopy", desc := "(Ljava/lang/Object;ILjava/lang/Object;II)V" } : Jvm.MethodName) ∈ aWd := aWd_3 (List.mem_of_getElem? (i := 77) rfl) rfl
theorem wd_3_80 : Jvm.Cond.methodLink "ReadAloud$State" (47 : Nat) ({ cls := "ReadAloud$Heard", name := "copyFrom", desc := "(LReadAloud$Heard;)V" } : Jvm.MethodName) ∈ aWd := aWd_3 (List.mem_of_getElem? (i := 80) rfl) rfl
theorem wd_3_81 : Jvm.Cond.instanceMethod ({ cls := "ReadAloud$Heard", name := "copyFrom", desc := "(LReadAloud$Heard;)V" } : Jvm.MethodName) ∈ aWd := aWd_3 (List.mem_of_getElem? (i := 81) rfl) rfl
theorem wd_3_82 : Jvm.Cond.selects "ReadAloud$Heard" ({ cls := "ReadAloud$Heard", name := "copyFrom", desc := "(LReadAloud$Heard;)V" } : Jvm.MethodName) ({ cls := "ReadAloud$Heard", name := "copyFrom", desc := "(LReadAloud$Heard;)V" } : Jvm.MethodName) ∈ aWd := aWd_3 (List.mem_of_getElem? (i := 82) rfl) rfl
theorem wd_3_83 : Jvm.Cond.code ({ cls := "ReadAloud$Heard", name := "copyFrom", desc := "(LReadAloud$Heard;)V" } : Jvm.MethodName) prog_5_method_5_code (2 : Nat) (Option.none : Option Jvm.ClassFile.FieldType) ∈ aWd := aWd_3 (List.mem_of_getElem? (i := 83) rfl) rfl
theorem wd_3_84 : Jvm.Cond.methodLink "ReadAloud$Heard" (22 : Nat) ({ cls := "java/lang/System", name := "arraycopy", desc := "(Ljava/lang/Object;ILjava/lang/Object;II)V" } : Jvm.MethodName) ∈ aWd := aWd_3 (List.mem_of_getElem? (i := 84) rfl) rfl
theorem wd_3_85 : Jvm.Cond.methodLink "ReadAloud$State" (50 : Nat) ({ cls := "java/lang/System", name := "arraycopy", desc := "(Ljava/lang/Object;ILjava/lang/Object;II)V" } : Jvm.MethodName) ∈ aWd := aWd_3 (List.mem_of_getElem? (i := 85) rfl) rfl
theorem wd_3_86 : Jvm.Cond.methodLink "ReadAloudLaw" (94 : Nat) ({ cls := "ReadAloud", name := "restore", desc := "()I" } : Jvm.MethodName) ∈ aWd := aWd_3 (List.mem_of_getElem? (i := 86) rfl) rfl
theorem wd_3_87 : Jvm.Cond.instanceMethod ({ cls := "ReadAloud", name := "restore", desc := "()I" } : Jvm.MethodName) ∈ aWd := aWd_3 (List.mem_of_getElem? (i := 87) rfl) rfl
theorem wd_3_88 : Jvm.Cond.selects "ReadAloud" ({ cls := "ReadAloud", name := "restore", desc := "()I" } : Jvm.MethodName) ({ cls := "ReadAloud", name := "restore", desc := "()I" } : Jvm.MethodName) ∈ aWd := aWd_3 (List.mem_of_getElem? (i := 88) rfl) rfl
theorem wd_3_89 : Jvm.Cond.code ({ cls := "ReadAloud", name := "restore", desc := "()I" } : Jvm.MethodName) prog_1_method_21_code (1 : Nat) (Option.some Jvm.ClassFile.FieldType.int) ∈ aWd := aWd_3 (List.mem_of_getElem? (i := 89) rfl) rfl
theorem wd_3_90 : Jvm.Cond.methodLink "ReadAloudLaw" (98 : Nat) ({ cls := "ReadAloud", name := "count", desc := "(I)I" } : Jvm.MethodName) ∈ aWd := aWd_3 (List.mem_of_getElem? (i := 90) rfl) rfl
theorem wd_3_91 : Jvm.Cond.instanceMethod ({ cls := "ReadAloud", name := "count", desc := "(I)I" } : Jvm.MethodName) ∈ aWd := aWd_3 (List.mem_of_getElem? (i := 91) rfl) rfl
theorem wd_3_92 : Jvm.Cond.selects "ReadAloud" ({ cls := "ReadAloud", name := "count", desc := "(I)I" } : Jvm.MethodName) ({ cls := "ReadAloud", name := "count", desc := "(I)I" } : Jvm.MethodName) ∈ aWd := aWd_3 (List.mem_of_getElem? (i := 92) rfl) rfl
theorem wd_3_93 : Jvm.Cond.code ({ cls := "ReadAloud", name := "count", desc := "(I)I" } : Jvm.MethodName) prog_1_method_22_code (2 : Nat) (Option.some Jvm.ClassFile.FieldType.int) ∈ aWd := aWd_3 (List.mem_of_getElem? (i := 93) rfl) rfl
theorem wd_3_94 : Jvm.Cond.methodLink "ReadAloud" (204 : Nat) ({ cls := "ReadAloud$Sheet", name := "unlikeWords", desc := "()I" } : Jvm.MethodName) ∈ aWd := aWd_3 (List.mem_of_getElem? (i := 94) rfl) rfl
theorem wd_3_95 : Jvm.Cond.instanceMethod ({ cls := "ReadAloud$Sheet", name := "unlikeWords", desc := "()I" } : Jvm.MethodName) ∈ aWd := aWd_3 (List.mem_of_getElem? (i := 95) rfl) rfl
theorem wd_3_96 : Jvm.Cond.selects "ReadAloud$Sheet" ({ cls := "ReadAloud$Sheet", name := "unlikeWords", desc := "()I" } : Jvm.MethodName) ({ cls := "ReadAloud$Sheet", name := "unlikeWords", desc := "()I" } : Jvm.MethodName) ∈ aWd := aWd_3 (List.mem_of_getElem? (i := 96) rfl) rfl
theorem wd_3_97 : Jvm.Cond.code ({ cls := "ReadAloud$Sheet", name := "unlikeWords", desc := "()I" } : Jvm.MethodName) prog_8_method_12_code (3 : Nat) (Option.some Jvm.ClassFile.FieldType.int) ∈ aWd := aWd_3 (List.mem_of_getElem? (i := 97) rfl) rfl
theorem wd_3_98 : Jvm.Cond.methodLink "ReadAloud$Sheet" (29 : Nat) ({ cls := "java/lang/Integer", name := "bitCount", desc := "(I)I" } : Jvm.MethodName) ∈ aWd := aWd_3 (List.mem_of_getElem? (i := 98) rfl) rfl
theorem wd_3_99 : Jvm.Cond.methodLink "ReadAloudLaw" (102 : Nat) ({ cls := "ReadAloud", name := "digest", desc := "()J" } : Jvm.MethodName) ∈ aWd := aWd_3 (List.mem_of_getElem? (i := 99) rfl) rfl
theorem wd_3_100 : Jvm.Cond.instanceMethod ({ cls := "ReadAloud", name := "digest", desc := "()J" } : Jvm.MethodName) ∈ aWd := aWd_3 (List.mem_of_getElem? (i := 100) rfl) rfl
theorem wd_3_101 : Jvm.Cond.selects "ReadAloud" ({ cls := "ReadAloud", name := "digest", desc := "()J" } : Jvm.MethodName) ({ cls := "ReadAloud", name := "digest", desc := "()J" } : Jvm.MethodName) ∈ aWd := aWd_3 (List.mem_of_getElem? (i := 101) rfl) rfl
theorem wd_3_102 : Jvm.Cond.code ({ cls := "ReadAloud", name := "digest", desc := "()J" } : Jvm.MethodName) prog_1_method_23_code (5 : Nat) (Option.some Jvm.ClassFile.FieldType.long) ∈ aWd := aWd_3 (List.mem_of_getElem? (i := 102) rfl) rfl
theorem wd_3_103 : Jvm.Cond.constantLong "ReadAloud" (207 : Nat) (1019 : Int64) ∈ aWd := aWd_3 (List.mem_of_getElem? (i := 103) rfl) rfl
theorem wd_3_104 : Jvm.Cond.constantLong "ReadAloud" (209 : Nat) (31 : Int64) ∈ aWd := aWd_3 (List.mem_of_getElem? (i := 104) rfl) rfl
theorem wd_3_105 : Jvm.Cond.methodLink "ReadAloud" (211 : Nat) ({ cls := "ReadAloud", name := "near", desc := "(I)I" } : Jvm.MethodName) ∈ aWd := aWd_3 (List.mem_of_getElem? (i := 105) rfl) rfl
theorem wd_3_106 : Jvm.Cond.methodLink "ReadAloud" (213 : Nat) ({ cls := "ReadAloud", name := "about", desc := "(II)I" } : Jvm.MethodName) ∈ aWd := aWd_3 (List.mem_of_getElem? (i := 106) rfl) rfl
theorem wd_3_107 : Jvm.Cond.methodLink "ReadAloud" (216 : Nat) ({ cls := "ReadAloud", name := "hide", desc := "(III)I" } : Jvm.MethodName) ∈ aWd := aWd_3 (List.mem_of_getElem? (i := 107) rfl) rfl
theorem wd_3_108 : Jvm.Cond.methodLink "ReadAloud" (223 : Nat) ({ cls := "ReadAloud", name := "count", desc := "(I)I" } : Jvm.MethodName) ∈ aWd := aWd_3 (List.mem_of_getElem? (i := 108) rfl) rfl
theorem wd_3_109 : Jvm.Cond.classLink "ReadAloudLaw" (10 : Nat) "ReadAloudModel" ∈ aWd := aWd_3 (List.mem_of_getElem? (i := 109) rfl) rfl
theorem wd_3_110 : Jvm.Cond.instantiable "ReadAloudModel" (32 : Nat) ∈ aWd := aWd_3 (List.mem_of_getElem? (i := 110) rfl) rfl
theorem wd_3_111 : Jvm.Cond.methodLink "ReadAloudLaw" (12 : Nat) ({ cls := "ReadAloudModel", name := "<init>", desc := "()V" } : Jvm.MethodName) ∈ aWd := aWd_3 (List.mem_of_getElem? (i := 111) rfl) rfl
theorem wd_3_112 : Jvm.Cond.instanceMethod ({ cls := "ReadAloudModel", name := "<init>", desc := "()V" } : Jvm.MethodName) ∈ aWd := aWd_3 (List.mem_of_getElem? (i := 112) rfl) rfl
theorem wd_3_113 : Jvm.Cond.code ({ cls := "ReadAloudModel", name := "<init>", desc := "()V" } : Jvm.MethodName) prog_14_method_1_code (1 : Nat) (Option.none : Option Jvm.ClassFile.FieldType) ∈ aWd := aWd_3 (List.mem_of_getElem? (i := 113) rfl) rfl
theorem wd_3_114 : Jvm.Cond.methodLink "ReadAloudModel" (1 : Nat) ({ cls := "java/lang/Object", name := "<init>", desc := "()V" } : Jvm.MethodName) ∈ aWd := aWd_3 (List.mem_of_getElem? (i := 114) rfl) rfl
theorem wd_3_115 : Jvm.Cond.fieldLink "ReadAloudModel" (7 : Nat) "ReadAloudModel" "page" "[I" ∈ aWd := aWd_3 (List.mem_of_getElem? (i := 115) rfl) rfl
theorem wd_3_116 : Jvm.Cond.fieldLink "ReadAloudModel" (62 : Nat) "ReadAloudModel" "pageMany" "I" ∈ aWd := aWd_3 (List.mem_of_getElem? (i := 116) rfl) rfl
theorem wd_3_117 : Jvm.Cond.fieldLink "ReadAloudModel" (65 : Nat) "ReadAloudModel" "part" "I" ∈ aWd := aWd_3 (List.mem_of_getElem? (i := 117) rfl) rfl
theorem wd_3_118 : Jvm.Cond.fieldLink "ReadAloudModel" (68 : Nat) "ReadAloudModel" "partMany" "I" ∈ aWd := aWd_3 (List.mem_of_getElem? (i := 118) rfl) rfl
theorem wd_3_119 : Jvm.Cond.fieldLink "ReadAloudModel" (71 : Nat) "ReadAloudModel" "lastWord" "I" ∈ aWd := aWd_3 (List.mem_of_getElem? (i := 119) rfl) rfl
theorem wd_3_120 : Jvm.Cond.fieldLink "ReadAloudModel" (13 : Nat) "ReadAloudModel" "readNear" "[I" ∈ aWd := aWd_3 (List.mem_of_getElem? (i := 120) rfl) rfl
theorem wd_3_121 : Jvm.Cond.fieldLink "ReadAloudModel" (16 : Nat) "ReadAloudModel" "readSheet" "[I" ∈ aWd := aWd_3 (List.mem_of_getElem? (i := 121) rfl) rfl
theorem wd_3_122 : Jvm.Cond.fieldLink "ReadAloudModel" (91 : Nat) "ReadAloudModel" "limitNow" "I" ∈ aWd := aWd_3 (List.mem_of_getElem? (i := 122) rfl) rfl
theorem wd_3_123 : Jvm.Cond.fieldLink "ReadAloudModel" (84 : Nat) "ReadAloudModel" "words" "I" ∈ aWd := aWd_3 (List.mem_of_getElem? (i := 123) rfl) rfl
theorem wd_3_124 : Jvm.Cond.fieldLink "ReadAloudModel" (94 : Nat) "ReadAloudModel" "changes" "I" ∈ aWd := aWd_3 (List.mem_of_getElem? (i := 124) rfl) rfl
theorem wd_3_125 : Jvm.Cond.fieldLink "ReadAloudModel" (103 : Nat) "ReadAloudModel" "courtsRead" "I" ∈ aWd := aWd_3 (List.mem_of_getElem? (i := 125) rfl) rfl
theorem wd_3_126 : Jvm.Cond.fieldLink "ReadAloudModel" (19 : Nat) "ReadAloudModel" "nears" "[I" ∈ aWd := aWd_3 (List.mem_of_getElem? (i := 126) rfl) rfl
theorem wd_3_127 : Jvm.Cond.fieldLink "ReadAloudModel" (22 : Nat) "ReadAloudModel" "sheet" "[I" ∈ aWd := aWd_3 (List.mem_of_getElem? (i := 127) rfl) rfl
theorem wd_3_128 : Jvm.Cond.fieldLink "ReadAloudModel" (97 : Nat) "ReadAloudModel" "accused" "I" ∈ aWd := aWd_3 (List.mem_of_getElem? (i := 128) rfl) rfl
theorem wd_3_129 : Jvm.Cond.fieldLink "ReadAloudModel" (25 : Nat) "ReadAloudModel" "rows" "[I" ∈ aWd := aWd_3 (List.mem_of_getElem? (i := 129) rfl) rfl
theorem wd_3_130 : Jvm.Cond.fieldLink "ReadAloudModel" (161 : Nat) "ReadAloudModel" "briefDone" "I" ∈ aWd := aWd_3 (List.mem_of_getElem? (i := 130) rfl) rfl
theorem wd_3_131 : Jvm.Cond.fieldLink "ReadAloudModel" (28 : Nat) "ReadAloudModel" "row" "[I" ∈ aWd := aWd_3 (List.mem_of_getElem? (i := 131) rfl) rfl
theorem wd_3_132 : Jvm.Cond.fieldLink "ReadAloudModel" (31 : Nat) "ReadAloudModel" "heard" "[I" ∈ aWd := aWd_3 (List.mem_of_getElem? (i := 132) rfl) rfl
theorem wd_3_133 : Jvm.Cond.fieldLink "ReadAloudModel" (100 : Nat) "ReadAloudModel" "heardMany" "I" ∈ aWd := aWd_3 (List.mem_of_getElem? (i := 133) rfl) rfl
theorem wd_3_134 : Jvm.Cond.fieldLink "ReadAloudModel" (34 : Nat) "ReadAloudModel" "heards" "[I" ∈ aWd := aWd_3 (List.mem_of_getElem? (i := 134) rfl) rfl
theorem wd_3_135 : Jvm.Cond.fieldLink "ReadAloudModel" (37 : Nat) "ReadAloudModel" "then" "[I" ∈ aWd := aWd_3 (List.mem_of_getElem? (i := 135) rfl) rfl
theorem wd_3_136 : Jvm.Cond.fieldLink "ReadAloudModel" (179 : Nat) "ReadAloudModel" "seedNow" "I" ∈ aWd := aWd_3 (List.mem_of_getElem? (i := 136) rfl) rfl
theorem wd_3_137 : Jvm.Cond.fieldLink "ReadAloudModel" (40 : Nat) "ReadAloudModel" "drawn" "[I" ∈ aWd := aWd_3 (List.mem_of_getElem? (i := 137) rfl) rfl
theorem wd_3_138 : Jvm.Cond.fieldLink "ReadAloudModel" (52 : Nat) "ReadAloudModel" "keptCourt" "I" ∈ aWd := aWd_3 (List.mem_of_getElem? (i := 138) rfl) rfl
theorem wd_3_139 : Jvm.Cond.fieldLink "ReadAloudModel" (194 : Nat) "ReadAloudModel" "keptLimit" "I" ∈ aWd := aWd_3 (List.mem_of_getElem? (i := 139) rfl) rfl
theorem wd_3_140 : Jvm.Cond.fieldLink "ReadAloudModel" (197 : Nat) "ReadAloudModel" "keptAccused" "I" ∈ aWd := aWd_3 (List.mem_of_getElem? (i := 140) rfl) rfl
theorem wd_3_141 : Jvm.Cond.fieldLink "ReadAloudModel" (200 : Nat) "ReadAloudModel" "keptChanges" "I" ∈ aWd := aWd_3 (List.mem_of_getElem? (i := 141) rfl) rfl
theorem wd_3_142 : Jvm.Cond.fieldLink "ReadAloudModel" (203 : Nat) "ReadAloudModel" "keptHeard" "I" ∈ aWd := aWd_3 (List.mem_of_getElem? (i := 142) rfl) rfl
theorem wd_3_143 : Jvm.Cond.fieldLink "ReadAloudModel" (43 : Nat) "ReadAloudModel" "keptSheet" "[I" ∈ aWd := aWd_3 (List.mem_of_getElem? (i := 143) rfl) rfl
theorem wd_3_144 : Jvm.Cond.fieldLink "ReadAloudModel" (46 : Nat) "ReadAloudModel" "keptRows" "[I" ∈ aWd := aWd_3 (List.mem_of_getElem? (i := 144) rfl) rfl
theorem wd_3_145 : Jvm.Cond.fieldLink "ReadAloudModel" (49 : Nat) "ReadAloudModel" "keptHeards" "[I" ∈ aWd := aWd_3 (List.mem_of_getElem? (i := 145) rfl) rfl
theorem wd_3_146 : Jvm.Cond.fieldLink "ReadAloudModel" (217 : Nat) "ReadAloudModel" "hash" "J" ∈ aWd := aWd_3 (List.mem_of_getElem? (i := 146) rfl) rfl
theorem wd_3_147 : Jvm.Cond.laysFinal "ReadAloudModel" "ReadAloudModel" "page" "[I" ∈ aWd := aWd_3 (List.mem_of_getElem? (i := 147) rfl) rfl
theorem wd_3_149 : Jvm.Cond.lays "ReadAloudModel" "ReadAloudModel" "pageMany" "I" ∈ aWd := aWd_3 (List.mem_of_getElem? (i := 149) rfl) rfl
theorem wd_3_151 : Jvm.Cond.lays "ReadAloudModel" "ReadAloudModel" "part" "I" ∈ aWd := aWd_3 (List.mem_of_getElem? (i := 151) rfl) rfl
theorem wd_3_153 : Jvm.Cond.lays "ReadAloudModel" "ReadAloudModel" "partMany" "I" ∈ aWd := aWd_3 (List.mem_of_getElem? (i := 153) rfl) rfl
theorem wd_3_155 : Jvm.Cond.lays "ReadAloudModel" "ReadAloudModel" "lastWord" "I" ∈ aWd := aWd_3 (List.mem_of_getElem? (i := 155) rfl) rfl
theorem wd_3_157 : Jvm.Cond.laysFinal "ReadAloudModel" "ReadAloudModel" "readNear" "[I" ∈ aWd := aWd_3 (List.mem_of_getElem? (i := 157) rfl) rfl
theorem wd_3_159 : Jvm.Cond.laysFinal "ReadAloudModel" "ReadAloudModel" "readSheet" "[I" ∈ aWd := aWd_3 (List.mem_of_getElem? (i := 159) rfl) rfl
theorem wd_3_161 : Jvm.Cond.lays "ReadAloudModel" "ReadAloudModel" "limitNow" "I" ∈ aWd := aWd_3 (List.mem_of_getElem? (i := 161) rfl) rfl
theorem wd_3_163 : Jvm.Cond.lays "ReadAloudModel" "ReadAloudModel" "words" "I" ∈ aWd := aWd_3 (List.mem_of_getElem? (i := 163) rfl) rfl
theorem wd_3_165 : Jvm.Cond.lays "ReadAloudModel" "ReadAloudModel" "changes" "I" ∈ aWd := aWd_3 (List.mem_of_getElem? (i := 165) rfl) rfl
theorem wd_3_167 : Jvm.Cond.lays "ReadAloudModel" "ReadAloudModel" "courtsRead" "I" ∈ aWd := aWd_3 (List.mem_of_getElem? (i := 167) rfl) rfl
theorem wd_3_169 : Jvm.Cond.laysFinal "ReadAloudModel" "ReadAloudModel" "nears" "[I" ∈ aWd := aWd_3 (List.mem_of_getElem? (i := 169) rfl) rfl
theorem wd_3_171 : Jvm.Cond.laysFinal "ReadAloudModel" "ReadAloudModel" "sheet" "[I" ∈ aWd := aWd_3 (List.mem_of_getElem? (i := 171) rfl) rfl
theorem wd_3_173 : Jvm.Cond.lays "ReadAloudModel" "ReadAloudModel" "accused" "I" ∈ aWd := aWd_3 (List.mem_of_getElem? (i := 173) rfl) rfl
theorem wd_3_175 : Jvm.Cond.laysFinal "ReadAloudModel" "ReadAloudModel" "rows" "[I" ∈ aWd := aWd_3 (List.mem_of_getElem? (i := 175) rfl) rfl
theorem wd_3_177 : Jvm.Cond.lays "ReadAloudModel" "ReadAloudModel" "briefDone" "I" ∈ aWd := aWd_3 (List.mem_of_getElem? (i := 177) rfl) rfl
theorem wd_3_179 : Jvm.Cond.laysFinal "ReadAloudModel" "ReadAloudModel" "row" "[I" ∈ aWd := aWd_3 (List.mem_of_getElem? (i := 179) rfl) rfl
theorem wd_3_181 : Jvm.Cond.laysFinal "ReadAloudModel" "ReadAloudModel" "heard" "[I" ∈ aWd := aWd_3 (List.mem_of_getElem? (i := 181) rfl) rfl
theorem wd_3_183 : Jvm.Cond.lays "ReadAloudModel" "ReadAloudModel" "heardMany" "I" ∈ aWd := aWd_3 (List.mem_of_getElem? (i := 183) rfl) rfl
theorem wd_3_185 : Jvm.Cond.laysFinal "ReadAloudModel" "ReadAloudModel" "heards" "[I" ∈ aWd := aWd_3 (List.mem_of_getElem? (i := 185) rfl) rfl
theorem wd_3_187 : Jvm.Cond.laysFinal "ReadAloudModel" "ReadAloudModel" "then" "[I" ∈ aWd := aWd_3 (List.mem_of_getElem? (i := 187) rfl) rfl
theorem wd_3_189 : Jvm.Cond.lays "ReadAloudModel" "ReadAloudModel" "seedNow" "I" ∈ aWd := aWd_3 (List.mem_of_getElem? (i := 189) rfl) rfl
theorem wd_3_191 : Jvm.Cond.laysFinal "ReadAloudModel" "ReadAloudModel" "drawn" "[I" ∈ aWd := aWd_3 (List.mem_of_getElem? (i := 191) rfl) rfl
theorem wd_3_193 : Jvm.Cond.lays "ReadAloudModel" "ReadAloudModel" "keptCourt" "I" ∈ aWd := aWd_3 (List.mem_of_getElem? (i := 193) rfl) rfl
theorem wd_3_195 : Jvm.Cond.lays "ReadAloudModel" "ReadAloudModel" "keptLimit" "I" ∈ aWd := aWd_3 (List.mem_of_getElem? (i := 195) rfl) rfl
theorem wd_3_197 : Jvm.Cond.lays "ReadAloudModel" "ReadAloudModel" "keptAccused" "I" ∈ aWd := aWd_3 (List.mem_of_getElem? (i := 197) rfl) rfl
theorem wd_3_199 : Jvm.Cond.lays "ReadAloudModel" "ReadAloudModel" "keptChanges" "I" ∈ aWd := aWd_3 (List.mem_of_getElem? (i := 199) rfl) rfl
theorem wd_3_201 : Jvm.Cond.lays "ReadAloudModel" "ReadAloudModel" "keptHeard" "I" ∈ aWd := aWd_3 (List.mem_of_getElem? (i := 201) rfl) rfl
theorem wd_3_203 : Jvm.Cond.laysFinal "ReadAloudModel" "ReadAloudModel" "keptSheet" "[I" ∈ aWd := aWd_3 (List.mem_of_getElem? (i := 203) rfl) rfl
theorem wd_3_205 : Jvm.Cond.laysFinal "ReadAloudModel" "ReadAloudModel" "keptRows" "[I" ∈ aWd := aWd_3 (List.mem_of_getElem? (i := 205) rfl) rfl
theorem wd_3_207 : Jvm.Cond.laysFinal "ReadAloudModel" "ReadAloudModel" "keptHeards" "[I" ∈ aWd := aWd_3 (List.mem_of_getElem? (i := 207) rfl) rfl
theorem wd_3_209 : Jvm.Cond.lays "ReadAloudModel" "ReadAloudModel" "hash" "J" ∈ aWd := aWd_3 (List.mem_of_getElem? (i := 209) rfl) rfl
theorem wd_3_212 : Jvm.Cond.methodLink "ReadAloudLaw" (17 : Nat) ({ cls := "ReadAloudModel", name := "letter", desc := "(I)I" } : Jvm.MethodName) ∈ aWd := aWd_3 (List.mem_of_getElem? (i := 212) rfl) rfl
theorem wd_3_213 : Jvm.Cond.instanceMethod ({ cls := "ReadAloudModel", name := "letter", desc := "(I)I" } : Jvm.MethodName) ∈ aWd := aWd_3 (List.mem_of_getElem? (i := 213) rfl) rfl
theorem wd_3_214 : Jvm.Cond.selects "ReadAloudModel" ({ cls := "ReadAloudModel", name := "letter", desc := "(I)I" } : Jvm.MethodName) ({ cls := "ReadAloudModel", name := "letter", desc := "(I)I" } : Jvm.MethodName) ∈ aWd := aWd_3 (List.mem_of_getElem? (i := 214) rfl) rfl
theorem wd_3_215 : Jvm.Cond.code ({ cls := "ReadAloudModel", name := "letter", desc := "(I)I" } : Jvm.MethodName) prog_14_method_5_code (2 : Nat) (Option.some Jvm.ClassFile.FieldType.int) ∈ aWd := aWd_3 (List.mem_of_getElem? (i := 215) rfl) rfl
theorem wd_3_216 : Jvm.Cond.constantLong "ReadAloudModel" (56 : Nat) (126 : Int64) ∈ aWd := aWd_3 (List.mem_of_getElem? (i := 216) rfl) rfl
theorem wd_3_217 : Jvm.Cond.methodLink "ReadAloudModel" (58 : Nat) ({ cls := "ReadAloudModel", name := "in", desc := "(JJJ)Z" } : Jvm.MethodName) ∈ aWd := aWd_3 (List.mem_of_getElem? (i := 217) rfl) rfl
theorem wd_3_218 : Jvm.Cond.static ({ cls := "ReadAloudModel", name := "in", desc := "(JJJ)Z" } : Jvm.MethodName) ∈ aWd := aWd_3 (List.mem_of_getElem? (i := 218) rfl) rfl
theorem wd_3_219 : Jvm.Cond.code ({ cls := "ReadAloudModel", name := "in", desc := "(JJJ)Z" } : Jvm.MethodName) prog_14_method_2_code (6 : Nat) (Option.some Jvm.ClassFile.FieldType.boolean) ∈ aWd := aWd_3 (List.mem_of_getElem? (i := 219) rfl) rfl
theorem wd_3_220 : Jvm.Cond.methodLink "ReadAloudLaw" (22 : Nat) ({ cls := "ReadAloudModel", name := "blank", desc := "()I" } : Jvm.MethodName) ∈ aWd := aWd_3 (List.mem_of_getElem? (i := 220) rfl) rfl
theorem wd_3_221 : Jvm.Cond.instanceMethod ({ cls := "ReadAloudModel", name := "blank", desc := "()I" } : Jvm.MethodName) ∈ aWd := aWd_3 (List.mem_of_getElem? (i := 221) rfl) rfl
theorem wd_3_222 : Jvm.Cond.selects "ReadAloudModel" ({ cls := "ReadAloudModel", name := "blank", desc := "()I" } : Jvm.MethodName) ({ cls := "ReadAloudModel", name := "blank", desc := "()I" } : Jvm.MethodName) ∈ aWd := aWd_3 (List.mem_of_getElem? (i := 222) rfl) rfl
theorem wd_3_223 : Jvm.Cond.code ({ cls := "ReadAloudModel", name := "blank", desc := "()I" } : Jvm.MethodName) prog_14_method_6_code (2 : Nat) (Option.some Jvm.ClassFile.FieldType.int) ∈ aWd := aWd_3 (List.mem_of_getElem? (i := 223) rfl) rfl
theorem wd_3_224 : Jvm.Cond.methodLink "ReadAloudLaw" (26 : Nat) ({ cls := "ReadAloudModel", name := "fault", desc := "()I" } : Jvm.MethodName) ∈ aWd := aWd_3 (List.mem_of_getElem? (i := 224) rfl) rfl
theorem wd_3_225 : Jvm.Cond.instanceMethod ({ cls := "ReadAloudModel", name := "fault", desc := "()I" } : Jvm.MethodName) ∈ aWd := aWd_3 (List.mem_of_getElem? (i := 225) rfl) rfl
theorem wd_3_226 : Jvm.Cond.selects "ReadAloudModel" ({ cls := "ReadAloudModel", name := "fault", desc := "()I" } : Jvm.MethodName) ({ cls := "ReadAloudModel", name := "fault", desc := "()I" } : Jvm.MethodName) ∈ aWd := aWd_3 (List.mem_of_getElem? (i := 226) rfl) rfl
theorem wd_3_227 : Jvm.Cond.code ({ cls := "ReadAloudModel", name := "fault", desc := "()I" } : Jvm.MethodName) prog_14_method_9_code (1 : Nat) (Option.some Jvm.ClassFile.FieldType.int) ∈ aWd := aWd_3 (List.mem_of_getElem? (i := 227) rfl) rfl
theorem wd_3_228 : Jvm.Cond.methodLink "ReadAloudModel" (80 : Nat) ({ cls := "ReadAloudModel", name := "faultOf", desc := "()I" } : Jvm.MethodName) ∈ aWd := aWd_3 (List.mem_of_getElem? (i := 228) rfl) rfl
theorem wd_3_230 : Jvm.Cond.instanceMethod ({ cls := "ReadAloudModel", name := "faultOf", desc := "()I" } : Jvm.MethodName) ∈ aWd := aWd_3 (List.mem_of_getElem? (i := 230) rfl) rfl
theorem wd_3_231 : Jvm.Cond.code ({ cls := "ReadAloudModel", name := "faultOf", desc := "()I" } : Jvm.MethodName) prog_14_method_8_code (2 : Nat) (Option.some Jvm.ClassFile.FieldType.int) ∈ aWd := aWd_3 (List.mem_of_getElem? (i := 231) rfl) rfl
theorem wd_3_232 : Jvm.Cond.methodLink "ReadAloudModel" (76 : Nat) ({ cls := "ReadAloudModel", name := "go", desc := "(I)Z" } : Jvm.MethodName) ∈ aWd := aWd_3 (List.mem_of_getElem? (i := 232) rfl) rfl
theorem wd_3_234 : Jvm.Cond.instanceMethod ({ cls := "ReadAloudModel", name := "go", desc := "(I)Z" } : Jvm.MethodName) ∈ aWd := aWd_3 (List.mem_of_getElem? (i := 234) rfl) rfl
theorem wd_3_235 : Jvm.Cond.code ({ cls := "ReadAloudModel", name := "go", desc := "(I)Z" } : Jvm.MethodName) prog_14_method_7_code (4 : Nat) (Option.some Jvm.ClassFile.FieldType.boolean) ∈ aWd := aWd_3 (List.mem_of_getElem? (i := 235) rfl) rfl
theorem wd_3_236 : Jvm.Cond.constantLong "ReadAloudModel" (74 : Nat) (7 : Int64) ∈ aWd := aWd_3 (List.mem_of_getElem? (i := 236) rfl) rfl
theorem wd_3_237 : Jvm.Cond.methodLink "ReadAloudLaw" (30 : Nat) ({ cls := "ReadAloudModel", name := "court", desc := "()I" } : Jvm.MethodName) ∈ aWd := aWd_3 (List.mem_of_getElem? (i := 237) rfl) rfl
theorem wd_3_238 : Jvm.Cond.instanceMethod ({ cls := "ReadAloudModel", name := "court", desc := "()I" } : Jvm.MethodName) ∈ aWd := aWd_3 (List.mem_of_getElem? (i := 238) rfl) rfl
theorem wd_3_239 : Jvm.Cond.selects "ReadAloudModel" ({ cls := "ReadAloudModel", name := "court", desc := "()I" } : Jvm.MethodName) ({ cls := "ReadAloudModel", name := "court", desc := "()I" } : Jvm.MethodName) ∈ aWd := aWd_3 (List.mem_of_getElem? (i := 239) rfl) rfl
theorem wd_4_0 : Jvm.Cond.code ({ cls := "ReadAloudModel", name := "court", desc := "()I" } : Jvm.MethodName) prog_14_method_10_code (1 : Nat) (Option.some Jvm.ClassFile.FieldType.int) ∈ aWd := aWd_4 (List.mem_of_getElem? (i := 0) rfl) rfl
theorem wd_4_1 : Jvm.Cond.methodLink "ReadAloudModel" (87 : Nat) ({ cls := "ReadAloudModel", name := "copy", desc := "([I[I)V" } : Jvm.MethodName) ∈ aWd := aWd_4 (List.mem_of_getElem? (i := 1) rfl) rfl
theorem wd_4_2 : Jvm.Cond.static ({ cls := "ReadAloudModel", name := "copy", desc := "([I[I)V" } : Jvm.MethodName) ∈ aWd := aWd_4 (List.mem_of_getElem? (i := 2) rfl) rfl
theorem wd_4_3 : Jvm.Cond.code ({ cls := "ReadAloudModel", name := "copy", desc := "([I[I)V" } : Jvm.MethodName) prog_14_method_3_code (3 : Nat) (Option.none : Option Jvm.ClassFile.FieldType) ∈ aWd := aWd_4 (List.mem_of_getElem? (i := 3) rfl) rfl
theorem wd_4_4 : Jvm.Cond.methodLink "ReadAloudLaw" (34 : Nat) ({ cls := "ReadAloudModel", name := "near", desc := "(I)I" } : Jvm.MethodName) ∈ aWd := aWd_4 (List.mem_of_getElem? (i := 4) rfl) rfl
theorem wd_4_5 : Jvm.Cond.instanceMethod ({ cls := "ReadAloudModel", name := "near", desc := "(I)I" } : Jvm.MethodName) ∈ aWd := aWd_4 (List.mem_of_getElem? (i := 5) rfl) rfl
theorem wd_4_6 : Jvm.Cond.selects "ReadAloudModel" ({ cls := "ReadAloudModel", name := "near", desc := "(I)I" } : Jvm.MethodName) ({ cls := "ReadAloudModel", name := "near", desc := "(I)I" } : Jvm.MethodName) ∈ aWd := aWd_4 (List.mem_of_getElem? (i := 6) rfl) rfl
theorem wd_4_7 : Jvm.Cond.code ({ cls := "ReadAloudModel", name := "near", desc := "(I)I" } : Jvm.MethodName) prog_14_method_13_code (2 : Nat) (Option.some Jvm.ClassFile.FieldType.int) ∈ aWd := aWd_4 (List.mem_of_getElem? (i := 7) rfl) rfl
theorem wd_4_8 : Jvm.Cond.methodLink "ReadAloudModel" (106 : Nat) ({ cls := "ReadAloudModel", name := "lacks", desc := "()Z" } : Jvm.MethodName) ∈ aWd := aWd_4 (List.mem_of_getElem? (i := 8) rfl) rfl
theorem wd_4_10 : Jvm.Cond.instanceMethod ({ cls := "ReadAloudModel", name := "lacks", desc := "()Z" } : Jvm.MethodName) ∈ aWd := aWd_4 (List.mem_of_getElem? (i := 10) rfl) rfl
theorem wd_4_11 : Jvm.Cond.code ({ cls := "ReadAloudModel", name := "lacks", desc := "()Z" } : Jvm.MethodName) prog_14_method_11_code (1 : Nat) (Option.some Jvm.ClassFile.FieldType.boolean) ∈ aWd := aWd_4 (List.mem_of_getElem? (i := 11) rfl) rfl
theorem wd_4_12 : Jvm.Cond.constantLong "ReadAloudModel" (110 : Nat) (4 : Int64) ∈ aWd := aWd_4 (List.mem_of_getElem? (i := 12) rfl) rfl
theorem wd_4_13 : Jvm.Cond.methodLink "ReadAloudLaw" (38 : Nat) ({ cls := "ReadAloudModel", name := "word", desc := "(I)I" } : Jvm.MethodName) ∈ aWd := aWd_4 (List.mem_of_getElem? (i := 13) rfl) rfl
theorem wd_4_14 : Jvm.Cond.instanceMethod ({ cls := "ReadAloudModel", name := "word", desc := "(I)I" } : Jvm.MethodName) ∈ aWd := aWd_4 (List.mem_of_getElem? (i := 14) rfl) rfl
theorem wd_4_15 : Jvm.Cond.selects "ReadAloudModel" ({ cls := "ReadAloudModel", name := "word", desc := "(I)I" } : Jvm.MethodName) ({ cls := "ReadAloudModel", name := "word", desc := "(I)I" } : Jvm.MethodName) ∈ aWd := aWd_4 (List.mem_of_getElem? (i := 15) rfl) rfl
theorem wd_4_16 : Jvm.Cond.code ({ cls := "ReadAloudModel", name := "word", desc := "(I)I" } : Jvm.MethodName) prog_14_method_14_code (2 : Nat) (Option.some Jvm.ClassFile.FieldType.int) ∈ aWd := aWd_4 (List.mem_of_getElem? (i := 16) rfl) rfl
theorem wd_4_17 : Jvm.Cond.methodLink "ReadAloudModel" (112 : Nat) ({ cls := "ReadAloudModel", name := "isPlace", desc := "(I)Z" } : Jvm.MethodName) ∈ aWd := aWd_4 (List.mem_of_getElem? (i := 17) rfl) rfl
theorem wd_4_19 : Jvm.Cond.instanceMethod ({ cls := "ReadAloudModel", name := "isPlace", desc := "(I)Z" } : Jvm.MethodName) ∈ aWd := aWd_4 (List.mem_of_getElem? (i := 19) rfl) rfl
theorem wd_4_20 : Jvm.Cond.code ({ cls := "ReadAloudModel", name := "isPlace", desc := "(I)Z" } : Jvm.MethodName) prog_14_method_12_code (2 : Nat) (Option.some Jvm.ClassFile.FieldType.boolean) ∈ aWd := aWd_4 (List.mem_of_getElem? (i := 20) rfl) rfl
theorem wd_4_21 : Jvm.Cond.methodLink "ReadAloudLaw" (43 : Nat) ({ cls := "ReadAloudModel", name := "put", desc := "(II)I" } : Jvm.MethodName) ∈ aWd := aWd_4 (List.mem_of_getElem? (i := 21) rfl) rfl
theorem wd_4_22 : Jvm.Cond.instanceMethod ({ cls := "ReadAloudModel", name := "put", desc := "(II)I" } : Jvm.MethodName) ∈ aWd := aWd_4 (List.mem_of_getElem? (i := 22) rfl) rfl
theorem wd_4_23 : Jvm.Cond.selects "ReadAloudModel" ({ cls := "ReadAloudModel", name := "put", desc := "(II)I" } : Jvm.MethodName) ({ cls := "ReadAloudModel", name := "put", desc := "(II)I" } : Jvm.MethodName) ∈ aWd := aWd_4 (List.mem_of_getElem? (i := 23) rfl) rfl
theorem wd_4_24 : Jvm.Cond.code ({ cls := "ReadAloudModel", name := "put", desc := "(II)I" } : Jvm.MethodName) prog_14_method_15_code (4 : Nat) (Option.some Jvm.ClassFile.FieldType.int) ∈ aWd := aWd_4 (List.mem_of_getElem? (i := 24) rfl) rfl
theorem wd_4_25 : Jvm.Cond.methodLink "ReadAloudLaw" (47 : Nat) ({ cls := "ReadAloudModel", name := "limit", desc := "(I)I" } : Jvm.MethodName) ∈ aWd := aWd_4 (List.mem_of_getElem? (i := 25) rfl) rfl
theorem wd_4_26 : Jvm.Cond.instanceMethod ({ cls := "ReadAloudModel", name := "limit", desc := "(I)I" } : Jvm.MethodName) ∈ aWd := aWd_4 (List.mem_of_getElem? (i := 26) rfl) rfl
theorem wd_4_27 : Jvm.Cond.selects "ReadAloudModel" ({ cls := "ReadAloudModel", name := "limit", desc := "(I)I" } : Jvm.MethodName) ({ cls := "ReadAloudModel", name := "limit", desc := "(I)I" } : Jvm.MethodName) ∈ aWd := aWd_4 (List.mem_of_getElem? (i := 27) rfl) rfl
theorem wd_4_28 : Jvm.Cond.code ({ cls := "ReadAloudModel", name := "limit", desc := "(I)I" } : Jvm.MethodName) prog_14_method_16_code (3 : Nat) (Option.some Jvm.ClassFile.FieldType.int) ∈ aWd := aWd_4 (List.mem_of_getElem? (i := 28) rfl) rfl
theorem wd_4_29 : Jvm.Cond.constantLong "ReadAloudModel" (115 : Nat) (10 : Int64) ∈ aWd := aWd_4 (List.mem_of_getElem? (i := 29) rfl) rfl
theorem wd_4_30 : Jvm.Cond.methodLink "ReadAloudLaw" (51 : Nat) ({ cls := "ReadAloudModel", name := "accuse", desc := "(II)I" } : Jvm.MethodName) ∈ aWd := aWd_4 (List.mem_of_getElem? (i := 30) rfl) rfl
theorem wd_4_31 : Jvm.Cond.instanceMethod ({ cls := "ReadAloudModel", name := "accuse", desc := "(II)I" } : Jvm.MethodName) ∈ aWd := aWd_4 (List.mem_of_getElem? (i := 31) rfl) rfl
theorem wd_4_32 : Jvm.Cond.selects "ReadAloudModel" ({ cls := "ReadAloudModel", name := "accuse", desc := "(II)I" } : Jvm.MethodName) ({ cls := "ReadAloudModel", name := "accuse", desc := "(II)I" } : Jvm.MethodName) ∈ aWd := aWd_4 (List.mem_of_getElem? (i := 32) rfl) rfl
theorem wd_4_33 : Jvm.Cond.code ({ cls := "ReadAloudModel", name := "accuse", desc := "(II)I" } : Jvm.MethodName) prog_14_method_22_code (3 : Nat) (Option.some Jvm.ClassFile.FieldType.int) ∈ aWd := aWd_4 (List.mem_of_getElem? (i := 33) rfl) rfl
theorem wd_4_34 : Jvm.Cond.methodLink "ReadAloudLaw" (55 : Nat) ({ cls := "ReadAloudModel", name := "about", desc := "(II)I" } : Jvm.MethodName) ∈ aWd := aWd_4 (List.mem_of_getElem? (i := 34) rfl) rfl
theorem wd_4_35 : Jvm.Cond.instanceMethod ({ cls := "ReadAloudModel", name := "about", desc := "(II)I" } : Jvm.MethodName) ∈ aWd := aWd_4 (List.mem_of_getElem? (i := 35) rfl) rfl
theorem wd_4_36 : Jvm.Cond.selects "ReadAloudModel" ({ cls := "ReadAloudModel", name := "about", desc := "(II)I" } : Jvm.MethodName) ({ cls := "ReadAloudModel", name := "about", desc := "(II)I" } : Jvm.MethodName) ∈ aWd := aWd_4 (List.mem_of_getElem? (i := 36) rfl) rfl
theorem wd_4_37 : Jvm.Cond.code ({ cls := "ReadAloudModel", name := "about", desc := "(II)I" } : Jvm.MethodName) prog_14_method_26_code (3 : Nat) (Option.some Jvm.ClassFile.FieldType.int) ∈ aWd := aWd_4 (List.mem_of_getElem? (i := 37) rfl) rfl
theorem wd_4_38 : Jvm.Cond.methodLink "ReadAloudModel" (149 : Nat) ({ cls := "ReadAloudModel", name := "isAccused", desc := "(I)Z" } : Jvm.MethodName) ∈ aWd := aWd_4 (List.mem_of_getElem? (i := 38) rfl) rfl
theorem wd_4_40 : Jvm.Cond.instanceMethod ({ cls := "ReadAloudModel", name := "isAccused", desc := "(I)Z" } : Jvm.MethodName) ∈ aWd := aWd_4 (List.mem_of_getElem? (i := 40) rfl) rfl
theorem wd_4_41 : Jvm.Cond.code ({ cls := "ReadAloudModel", name := "isAccused", desc := "(I)Z" } : Jvm.MethodName) prog_14_method_21_code (2 : Nat) (Option.some Jvm.ClassFile.FieldType.boolean) ∈ aWd := aWd_4 (List.mem_of_getElem? (i := 41) rfl) rfl
theorem wd_4_42 : Jvm.Cond.methodLink "ReadAloudModel" (152 : Nat) ({ cls := "ReadAloudModel", name := "tell", desc := "(II)I" } : Jvm.MethodName) ∈ aWd := aWd_4 (List.mem_of_getElem? (i := 42) rfl) rfl
theorem wd_4_44 : Jvm.Cond.instanceMethod ({ cls := "ReadAloudModel", name := "tell", desc := "(II)I" } : Jvm.MethodName) ∈ aWd := aWd_4 (List.mem_of_getElem? (i := 44) rfl) rfl
theorem wd_4_45 : Jvm.Cond.code ({ cls := "ReadAloudModel", name := "tell", desc := "(II)I" } : Jvm.MethodName) prog_14_method_25_code (3 : Nat) (Option.some Jvm.ClassFile.FieldType.int) ∈ aWd := aWd_4 (List.mem_of_getElem? (i := 45) rfl) rfl
theorem wd_4_46 : Jvm.Cond.methodLink "ReadAloudModel" (133 : Nat) ({ cls := "ReadAloudModel", name := "altersOf", desc := "(I)I" } : Jvm.MethodName) ∈ aWd := aWd_4 (List.mem_of_getElem? (i := 46) rfl) rfl
theorem wd_4_48 : Jvm.Cond.instanceMethod ({ cls := "ReadAloudModel", name := "altersOf", desc := "(I)I" } : Jvm.MethodName) ∈ aWd := aWd_4 (List.mem_of_getElem? (i := 48) rfl) rfl
theorem wd_4_49 : Jvm.Cond.code ({ cls := "ReadAloudModel", name := "altersOf", desc := "(I)I" } : Jvm.MethodName) prog_14_method_23_code (2 : Nat) (Option.some Jvm.ClassFile.FieldType.int) ∈ aWd := aWd_4 (List.mem_of_getElem? (i := 49) rfl) rfl
theorem wd_4_50 : Jvm.Cond.methodLink "ReadAloudModel" (129 : Nat) ({ cls := "ReadAloudModel", name := "altersOn", desc := "(III[II)I" } : Jvm.MethodName) ∈ aWd := aWd_4 (List.mem_of_getElem? (i := 50) rfl) rfl
theorem wd_4_52 : Jvm.Cond.instanceMethod ({ cls := "ReadAloudModel", name := "altersOn", desc := "(III[II)I" } : Jvm.MethodName) ∈ aWd := aWd_4 (List.mem_of_getElem? (i := 52) rfl) rfl
theorem wd_4_53 : Jvm.Cond.code ({ cls := "ReadAloudModel", name := "altersOn", desc := "(III[II)I" } : Jvm.MethodName) prog_14_method_20_code (8 : Nat) (Option.some Jvm.ClassFile.FieldType.int) ∈ aWd := aWd_4 (List.mem_of_getElem? (i := 53) rfl) rfl
theorem wd_4_54 : Jvm.Cond.methodLink "ReadAloudModel" (125 : Nat) ({ cls := "ReadAloudModel", name := "alters", desc := "(III[II)Z" } : Jvm.MethodName) ∈ aWd := aWd_4 (List.mem_of_getElem? (i := 54) rfl) rfl
theorem wd_4_56 : Jvm.Cond.instanceMethod ({ cls := "ReadAloudModel", name := "alters", desc := "(III[II)Z" } : Jvm.MethodName) ∈ aWd := aWd_4 (List.mem_of_getElem? (i := 56) rfl) rfl
theorem wd_4_57 : Jvm.Cond.code ({ cls := "ReadAloudModel", name := "alters", desc := "(III[II)Z" } : Jvm.MethodName) prog_14_method_19_code (7 : Nat) (Option.some Jvm.ClassFile.FieldType.boolean) ∈ aWd := aWd_4 (List.mem_of_getElem? (i := 57) rfl) rfl
theorem wd_4_58 : Jvm.Cond.methodLink "ReadAloudModel" (117 : Nat) ({ cls := "ReadAloudModel", name := "isNear", desc := "(II)Z" } : Jvm.MethodName) ∈ aWd := aWd_4 (List.mem_of_getElem? (i := 58) rfl) rfl
theorem wd_4_60 : Jvm.Cond.instanceMethod ({ cls := "ReadAloudModel", name := "isNear", desc := "(II)Z" } : Jvm.MethodName) ∈ aWd := aWd_4 (List.mem_of_getElem? (i := 60) rfl) rfl
theorem wd_4_61 : Jvm.Cond.code ({ cls := "ReadAloudModel", name := "isNear", desc := "(II)Z" } : Jvm.MethodName) prog_14_method_17_code (3 : Nat) (Option.some Jvm.ClassFile.FieldType.boolean) ∈ aWd := aWd_4 (List.mem_of_getElem? (i := 61) rfl) rfl
theorem wd_4_62 : Jvm.Cond.methodLink "ReadAloudModel" (121 : Nat) ({ cls := "ReadAloudModel", name := "stands", desc := "([II)Z" } : Jvm.MethodName) ∈ aWd := aWd_4 (List.mem_of_getElem? (i := 62) rfl) rfl
theorem wd_4_63 : Jvm.Cond.static ({ cls := "ReadAloudModel", name := "stands", desc := "([II)Z" } : Jvm.MethodName) ∈ aWd := aWd_4 (List.mem_of_getElem? (i := 63) rfl) rfl
theorem wd_4_64 : Jvm.Cond.code ({ cls := "ReadAloudModel", name := "stands", desc := "([II)Z" } : Jvm.MethodName) prog_14_method_18_code (4 : Nat) (Option.some Jvm.ClassFile.FieldType.boolean) ∈ aWd := aWd_4 (List.mem_of_getElem? (i := 64) rfl) rfl
theorem wd_4_65 : Jvm.Cond.methodLink "ReadAloudModel" (137 : Nat) ({ cls := "ReadAloudModel", name := "ones", desc := "(I)I" } : Jvm.MethodName) ∈ aWd := aWd_4 (List.mem_of_getElem? (i := 65) rfl) rfl
theorem wd_4_66 : Jvm.Cond.static ({ cls := "ReadAloudModel", name := "ones", desc := "(I)I" } : Jvm.MethodName) ∈ aWd := aWd_4 (List.mem_of_getElem? (i := 66) rfl) rfl
theorem wd_4_67 : Jvm.Cond.code ({ cls := "ReadAloudModel", name := "ones", desc := "(I)I" } : Jvm.MethodName) prog_14_method_4_code (3 : Nat) (Option.some Jvm.ClassFile.FieldType.int) ∈ aWd := aWd_4 (List.mem_of_getElem? (i := 67) rfl) rfl
theorem wd_4_68 : Jvm.Cond.methodLink "ReadAloudModel" (140 : Nat) ({ cls := "ReadAloudModel", name := "hangs", desc := "(I)Z" } : Jvm.MethodName) ∈ aWd := aWd_4 (List.mem_of_getElem? (i := 68) rfl) rfl
theorem wd_4_70 : Jvm.Cond.instanceMethod ({ cls := "ReadAloudModel", name := "hangs", desc := "(I)Z" } : Jvm.MethodName) ∈ aWd := aWd_4 (List.mem_of_getElem? (i := 70) rfl) rfl
theorem wd_4_71 : Jvm.Cond.code ({ cls := "ReadAloudModel", name := "hangs", desc := "(I)Z" } : Jvm.MethodName) prog_14_method_24_code (2 : Nat) (Option.some Jvm.ClassFile.FieldType.boolean) ∈ aWd := aWd_4 (List.mem_of_getElem? (i := 71) rfl) rfl
theorem wd_4_72 : Jvm.Cond.methodLink "ReadAloudModel" (143 : Nat) ({ cls := "ReadAloudModel", name := "whichOf", desc := "(I)I" } : Jvm.MethodName) ∈ aWd := aWd_4 (List.mem_of_getElem? (i := 72) rfl) rfl
theorem wd_4_74 : Jvm.Cond.instanceMethod ({ cls := "ReadAloudModel", name := "whichOf", desc := "(I)I" } : Jvm.MethodName) ∈ aWd := aWd_4 (List.mem_of_getElem? (i := 74) rfl) rfl
theorem wd_4_75 : Jvm.Cond.code ({ cls := "ReadAloudModel", name := "whichOf", desc := "(I)I" } : Jvm.MethodName) prog_14_method_38_code (6 : Nat) (Option.some Jvm.ClassFile.FieldType.int) ∈ aWd := aWd_4 (List.mem_of_getElem? (i := 75) rfl) rfl
theorem wd_4_76 : Jvm.Cond.methodLink "ReadAloudModel" (173 : Nat) ({ cls := "ReadAloudModel", name := "isHeard", desc := "(III)Z" } : Jvm.MethodName) ∈ aWd := aWd_4 (List.mem_of_getElem? (i := 76) rfl) rfl
theorem wd_4_78 : Jvm.Cond.instanceMethod ({ cls := "ReadAloudModel", name := "isHeard", desc := "(III)Z" } : Jvm.MethodName) ∈ aWd := aWd_4 (List.mem_of_getElem? (i := 78) rfl) rfl
theorem wd_4_79 : Jvm.Cond.code ({ cls := "ReadAloudModel", name := "isHeard", desc := "(III)Z" } : Jvm.MethodName) prog_14_method_37_code (6 : Nat) (Option.some Jvm.ClassFile.FieldType.boolean) ∈ aWd := aWd_4 (List.mem_of_getElem? (i := 79) rfl) rfl
theorem wd_4_80 : Jvm.Cond.methodLink "ReadAloudModel" (146 : Nat) ({ cls := "ReadAloudModel", name := "listenOf", desc := "(I)I" } : Jvm.MethodName) ∈ aWd := aWd_4 (List.mem_of_getElem? (i := 80) rfl) rfl
theorem wd_4_82 : Jvm.Cond.instanceMethod ({ cls := "ReadAloudModel", name := "listenOf", desc := "(I)I" } : Jvm.MethodName) ∈ aWd := aWd_4 (List.mem_of_getElem? (i := 82) rfl) rfl
theorem wd_4_83 : Jvm.Cond.code ({ cls := "ReadAloudModel", name := "listenOf", desc := "(I)I" } : Jvm.MethodName) prog_14_method_39_code (8 : Nat) (Option.some Jvm.ClassFile.FieldType.int) ∈ aWd := aWd_4 (List.mem_of_getElem? (i := 83) rfl) rfl
theorem wd_4_84 : Jvm.Cond.methodLink "ReadAloudLaw" (59 : Nat) ({ cls := "ReadAloudModel", name := "as", desc := "(II)I" } : Jvm.MethodName) ∈ aWd := aWd_4 (List.mem_of_getElem? (i := 84) rfl) rfl
theorem wd_4_85 : Jvm.Cond.instanceMethod ({ cls := "ReadAloudModel", name := "as", desc := "(II)I" } : Jvm.MethodName) ∈ aWd := aWd_4 (List.mem_of_getElem? (i := 85) rfl) rfl
theorem wd_4_86 : Jvm.Cond.selects "ReadAloudModel" ({ cls := "ReadAloudModel", name := "as", desc := "(II)I" } : Jvm.MethodName) ({ cls := "ReadAloudModel", name := "as", desc := "(II)I" } : Jvm.MethodName) ∈ aWd := aWd_4 (List.mem_of_getElem? (i := 86) rfl) rfl
theorem wd_4_87 : Jvm.Cond.code ({ cls := "ReadAloudModel", name := "as", desc := "(II)I" } : Jvm.MethodName) prog_14_method_27_code (5 : Nat) (Option.some Jvm.ClassFile.FieldType.int) ∈ aWd := aWd_4 (List.mem_of_getElem? (i := 87) rfl) rfl
theorem wd_4_88 : Jvm.Cond.methodLink "ReadAloudLaw" (63 : Nat) ({ cls := "ReadAloudModel", name := "lesson", desc := "(II)I" } : Jvm.MethodName) ∈ aWd := aWd_4 (List.mem_of_getElem? (i := 88) rfl) rfl
theorem wd_4_89 : Jvm.Cond.instanceMethod ({ cls := "ReadAloudModel", name := "lesson", desc := "(II)I" } : Jvm.MethodName) ∈ aWd := aWd_4 (List.mem_of_getElem? (i := 89) rfl) rfl
theorem wd_4_90 : Jvm.Cond.selects "ReadAloudModel" ({ cls := "ReadAloudModel", name := "lesson", desc := "(II)I" } : Jvm.MethodName) ({ cls := "ReadAloudModel", name := "lesson", desc := "(II)I" } : Jvm.MethodName) ∈ aWd := aWd_4 (List.mem_of_getElem? (i := 90) rfl) rfl
theorem wd_4_91 : Jvm.Cond.code ({ cls := "ReadAloudModel", name := "lesson", desc := "(II)I" } : Jvm.MethodName) prog_14_method_28_code (3 : Nat) (Option.some Jvm.ClassFile.FieldType.int) ∈ aWd := aWd_4 (List.mem_of_getElem? (i := 91) rfl) rfl
theorem wd_4_92 : Jvm.Cond.methodLink "ReadAloudLaw" (67 : Nat) ({ cls := "ReadAloudModel", name := "unlearn", desc := "(I)I" } : Jvm.MethodName) ∈ aWd := aWd_4 (List.mem_of_getElem? (i := 92) rfl) rfl
theorem wd_4_93 : Jvm.Cond.instanceMethod ({ cls := "ReadAloudModel", name := "unlearn", desc := "(I)I" } : Jvm.MethodName) ∈ aWd := aWd_4 (List.mem_of_getElem? (i := 93) rfl) rfl
theorem wd_4_94 : Jvm.Cond.selects "ReadAloudModel" ({ cls := "ReadAloudModel", name := "unlearn", desc := "(I)I" } : Jvm.MethodName) ({ cls := "ReadAloudModel", name := "unlearn", desc := "(I)I" } : Jvm.MethodName) ∈ aWd := aWd_4 (List.mem_of_getElem? (i := 94) rfl) rfl
theorem wd_4_95 : Jvm.Cond.code ({ cls := "ReadAloudModel", name := "unlearn", desc := "(I)I" } : Jvm.MethodName) prog_14_method_29_code (3 : Nat) (Option.some Jvm.ClassFile.FieldType.int) ∈ aWd := aWd_4 (List.mem_of_getElem? (i := 95) rfl) rfl
theorem wd_4_96 : Jvm.Cond.methodLink "ReadAloudLaw" (71 : Nat) ({ cls := "ReadAloudModel", name := "brief", desc := "(I)I" } : Jvm.MethodName) ∈ aWd := aWd_4 (List.mem_of_getElem? (i := 96) rfl) rfl
theorem wd_4_97 : Jvm.Cond.instanceMethod ({ cls := "ReadAloudModel", name := "brief", desc := "(I)I" } : Jvm.MethodName) ∈ aWd := aWd_4 (List.mem_of_getElem? (i := 97) rfl) rfl
theorem wd_4_98 : Jvm.Cond.selects "ReadAloudModel" ({ cls := "ReadAloudModel", name := "brief", desc := "(I)I" } : Jvm.MethodName) ({ cls := "ReadAloudModel", name := "brief", desc := "(I)I" } : Jvm.MethodName) ∈ aWd := aWd_4 (List.mem_of_getElem? (i := 98) rfl) rfl
theorem wd_4_99 : Jvm.Cond.code ({ cls := "ReadAloudModel", name := "brief", desc := "(I)I" } : Jvm.MethodName) prog_14_method_32_code (2 : Nat) (Option.some Jvm.ClassFile.FieldType.int) ∈ aWd := aWd_4 (List.mem_of_getElem? (i := 99) rfl) rfl
theorem wd_4_100 : Jvm.Cond.constantLong "ReadAloudModel" (159 : Nat) (13 : Int64) ∈ aWd := aWd_4 (List.mem_of_getElem? (i := 100) rfl) rfl
theorem wd_4_101 : Jvm.Cond.methodLink "ReadAloudModel" (164 : Nat) ({ cls := "ReadAloudModel", name := "briefOf", desc := "(I)I" } : Jvm.MethodName) ∈ aWd := aWd_4 (List.mem_of_getElem? (i := 101) rfl) rfl
theorem wd_4_103 : Jvm.Cond.instanceMethod ({ cls := "ReadAloudModel", name := "briefOf", desc := "(I)I" } : Jvm.MethodName) ∈ aWd := aWd_4 (List.mem_of_getElem? (i := 103) rfl) rfl
theorem wd_4_104 : Jvm.Cond.code ({ cls := "ReadAloudModel", name := "briefOf", desc := "(I)I" } : Jvm.MethodName) prog_14_method_31_code (6 : Nat) (Option.some Jvm.ClassFile.FieldType.int) ∈ aWd := aWd_4 (List.mem_of_getElem? (i := 104) rfl) rfl
theorem wd_4_105 : Jvm.Cond.methodLink "ReadAloudModel" (156 : Nat) ({ cls := "ReadAloudModel", name := "isApart", desc := "(I)Z" } : Jvm.MethodName) ∈ aWd := aWd_4 (List.mem_of_getElem? (i := 105) rfl) rfl
theorem wd_4_107 : Jvm.Cond.instanceMethod ({ cls := "ReadAloudModel", name := "isApart", desc := "(I)Z" } : Jvm.MethodName) ∈ aWd := aWd_4 (List.mem_of_getElem? (i := 107) rfl) rfl
theorem wd_4_108 : Jvm.Cond.code ({ cls := "ReadAloudModel", name := "isApart", desc := "(I)Z" } : Jvm.MethodName) prog_14_method_30_code (5 : Nat) (Option.some Jvm.ClassFile.FieldType.boolean) ∈ aWd := aWd_4 (List.mem_of_getElem? (i := 108) rfl) rfl
theorem wd_4_109 : Jvm.Cond.methodLink "ReadAloudLaw" (76 : Nat) ({ cls := "ReadAloudModel", name := "hide", desc := "(III)I" } : Jvm.MethodName) ∈ aWd := aWd_4 (List.mem_of_getElem? (i := 109) rfl) rfl
theorem wd_4_110 : Jvm.Cond.instanceMethod ({ cls := "ReadAloudModel", name := "hide", desc := "(III)I" } : Jvm.MethodName) ∈ aWd := aWd_4 (List.mem_of_getElem? (i := 110) rfl) rfl
theorem wd_4_111 : Jvm.Cond.selects "ReadAloudModel" ({ cls := "ReadAloudModel", name := "hide", desc := "(III)I" } : Jvm.MethodName) ({ cls := "ReadAloudModel", name := "hide", desc := "(III)I" } : Jvm.MethodName) ∈ aWd := aWd_4 (List.mem_of_getElem? (i := 111) rfl) rfl
theorem wd_4_112 : Jvm.Cond.code ({ cls := "ReadAloudModel", name := "hide", desc := "(III)I" } : Jvm.MethodName) prog_14_method_34_code (4 : Nat) (Option.some Jvm.ClassFile.FieldType.int) ∈ aWd := aWd_4 (List.mem_of_getElem? (i := 112) rfl) rfl
theorem wd_4_113 : Jvm.Cond.constantLong "ReadAloudModel" (167 : Nat) (8 : Int64) ∈ aWd := aWd_4 (List.mem_of_getElem? (i := 113) rfl) rfl
theorem wd_4_114 : Jvm.Cond.methodLink "ReadAloudModel" (169 : Nat) ({ cls := "ReadAloudModel", name := "hideOf", desc := "(III)I" } : Jvm.MethodName) ∈ aWd := aWd_4 (List.mem_of_getElem? (i := 114) rfl) rfl
theorem wd_4_116 : Jvm.Cond.instanceMethod ({ cls := "ReadAloudModel", name := "hideOf", desc := "(III)I" } : Jvm.MethodName) ∈ aWd := aWd_4 (List.mem_of_getElem? (i := 116) rfl) rfl
theorem wd_4_117 : Jvm.Cond.code ({ cls := "ReadAloudModel", name := "hideOf", desc := "(III)I" } : Jvm.MethodName) prog_14_method_33_code (9 : Nat) (Option.some Jvm.ClassFile.FieldType.int) ∈ aWd := aWd_4 (List.mem_of_getElem? (i := 117) rfl) rfl
theorem wd_4_118 : Jvm.Cond.methodLink "ReadAloudLaw" (81 : Nat) ({ cls := "ReadAloudModel", name := "hear", desc := "(IIZ)I" } : Jvm.MethodName) ∈ aWd := aWd_4 (List.mem_of_getElem? (i := 118) rfl) rfl
theorem wd_4_119 : Jvm.Cond.instanceMethod ({ cls := "ReadAloudModel", name := "hear", desc := "(IIZ)I" } : Jvm.MethodName) ∈ aWd := aWd_4 (List.mem_of_getElem? (i := 119) rfl) rfl
theorem wd_4_120 : Jvm.Cond.selects "ReadAloudModel" ({ cls := "ReadAloudModel", name := "hear", desc := "(IIZ)I" } : Jvm.MethodName) ({ cls := "ReadAloudModel", name := "hear", desc := "(IIZ)I" } : Jvm.MethodName) ∈ aWd := aWd_4 (List.mem_of_getElem? (i := 120) rfl) rfl
theorem wd_4_121 : Jvm.Cond.code ({ cls := "ReadAloudModel", name := "hear", desc := "(IIZ)I" } : Jvm.MethodName) prog_14_method_35_code (6 : Nat) (Option.some Jvm.ClassFile.FieldType.int) ∈ aWd := aWd_4 (List.mem_of_getElem? (i := 121) rfl) rfl
theorem wd_4_122 : Jvm.Cond.methodLink "ReadAloudLaw" (85 : Nat) ({ cls := "ReadAloudModel", name := "forget", desc := "()I" } : Jvm.MethodName) ∈ aWd := aWd_4 (List.mem_of_getElem? (i := 122) rfl) rfl
theorem wd_4_123 : Jvm.Cond.instanceMethod ({ cls := "ReadAloudModel", name := "forget", desc := "()I" } : Jvm.MethodName) ∈ aWd := aWd_4 (List.mem_of_getElem? (i := 123) rfl) rfl
theorem wd_4_124 : Jvm.Cond.selects "ReadAloudModel" ({ cls := "ReadAloudModel", name := "forget", desc := "()I" } : Jvm.MethodName) ({ cls := "ReadAloudModel", name := "forget", desc := "()I" } : Jvm.MethodName) ∈ aWd := aWd_4 (List.mem_of_getElem? (i := 124) rfl) rfl
theorem wd_4_125 : Jvm.Cond.code ({ cls := "ReadAloudModel", name := "forget", desc := "()I" } : Jvm.MethodName) prog_14_method_36_code (2 : Nat) (Option.some Jvm.ClassFile.FieldType.int) ∈ aWd := aWd_4 (List.mem_of_getElem? (i := 125) rfl) rfl
theorem wd_4_126 : Jvm.Cond.methodLink "ReadAloudLaw" (89 : Nat) ({ cls := "ReadAloudModel", name := "trials", desc := "(III)I" } : Jvm.MethodName) ∈ aWd := aWd_4 (List.mem_of_getElem? (i := 126) rfl) rfl
theorem wd_4_127 : Jvm.Cond.instanceMethod ({ cls := "ReadAloudModel", name := "trials", desc := "(III)I" } : Jvm.MethodName) ∈ aWd := aWd_4 (List.mem_of_getElem? (i := 127) rfl) rfl
theorem wd_4_128 : Jvm.Cond.selects "ReadAloudModel" ({ cls := "ReadAloudModel", name := "trials", desc := "(III)I" } : Jvm.MethodName) ({ cls := "ReadAloudModel", name := "trials", desc := "(III)I" } : Jvm.MethodName) ∈ aWd := aWd_4 (List.mem_of_getElem? (i := 128) rfl) rfl
theorem wd_4_129 : Jvm.Cond.code ({ cls := "ReadAloudModel", name := "trials", desc := "(III)I" } : Jvm.MethodName) prog_14_method_41_code (9 : Nat) (Option.some Jvm.ClassFile.FieldType.int) ∈ aWd := aWd_4 (List.mem_of_getElem? (i := 129) rfl) rfl
theorem wd_4_130 : Jvm.Cond.constantLong "ReadAloudModel" (187 : Nat) (40 : Int64) ∈ aWd := aWd_4 (List.mem_of_getElem? (i := 130) rfl) rfl
theorem wd_4_131 : Jvm.Cond.constantLong "ReadAloudModel" (189 : Nat) (2 : Int64) ∈ aWd := aWd_4 (List.mem_of_getElem? (i := 131) rfl) rfl
theorem wd_4_132 : Jvm.Cond.methodLink "ReadAloudModel" (191 : Nat) ({ cls := "ReadAloudModel", name := "draw", desc := "(I)I" } : Jvm.MethodName) ∈ aWd := aWd_4 (List.mem_of_getElem? (i := 132) rfl) rfl
theorem wd_4_134 : Jvm.Cond.instanceMethod ({ cls := "ReadAloudModel", name := "draw", desc := "(I)I" } : Jvm.MethodName) ∈ aWd := aWd_4 (List.mem_of_getElem? (i := 134) rfl) rfl
theorem wd_4_135 : Jvm.Cond.code ({ cls := "ReadAloudModel", name := "draw", desc := "(I)I" } : Jvm.MethodName) prog_14_method_40_code (2 : Nat) (Option.some Jvm.ClassFile.FieldType.int) ∈ aWd := aWd_4 (List.mem_of_getElem? (i := 135) rfl) rfl
theorem wd_4_136 : Jvm.Cond.constantLong "ReadAloudModel" (177 : Nat) (1103515245 : Int64) ∈ aWd := aWd_4 (List.mem_of_getElem? (i := 136) rfl) rfl
theorem wd_4_137 : Jvm.Cond.constantLong "ReadAloudModel" (182 : Nat) (12345 : Int64) ∈ aWd := aWd_4 (List.mem_of_getElem? (i := 137) rfl) rfl
theorem wd_4_138 : Jvm.Cond.constantLong "ReadAloudModel" (184 : Nat) (2147483647 : Int64) ∈ aWd := aWd_4 (List.mem_of_getElem? (i := 138) rfl) rfl
theorem wd_4_139 : Jvm.Cond.constant "ReadAloudModel" (186 : Nat) (65536 : Int32) ∈ aWd := aWd_4 (List.mem_of_getElem? (i := 139) rfl) rfl
theorem wd_4_140 : Jvm.Cond.methodLink "ReadAloudLaw" (93 : Nat) ({ cls := "ReadAloudModel", name := "image", desc := "()I" } : Jvm.MethodName) ∈ aWd := aWd_4 (List.mem_of_getElem? (i := 140) rfl) rfl
theorem wd_4_141 : Jvm.Cond.instanceMethod ({ cls := "ReadAloudModel", name := "image", desc := "()I" } : Jvm.MethodName) ∈ aWd := aWd_4 (List.mem_of_getElem? (i := 141) rfl) rfl
theorem wd_4_142 : Jvm.Cond.selects "ReadAloudModel" ({ cls := "ReadAloudModel", name := "image", desc := "()I" } : Jvm.MethodName) ({ cls := "ReadAloudModel", name := "image", desc := "()I" } : Jvm.MethodName) ∈ aWd := aWd_4 (List.mem_of_getElem? (i := 142) rfl) rfl
theorem wd_4_143 : Jvm.Cond.code ({ cls := "ReadAloudModel", name := "image", desc := "()I" } : Jvm.MethodName) prog_14_method_42_code (1 : Nat) (Option.some Jvm.ClassFile.FieldType.int) ∈ aWd := aWd_4 (List.mem_of_getElem? (i := 143) rfl) rfl
theorem wd_4_144 : Jvm.Cond.methodLink "ReadAloudLaw" (97 : Nat) ({ cls := "ReadAloudModel", name := "restore", desc := "()I" } : Jvm.MethodName) ∈ aWd := aWd_4 (List.mem_of_getElem? (i := 144) rfl) rfl
theorem wd_4_145 : Jvm.Cond.instanceMethod ({ cls := "ReadAloudModel", name := "restore", desc := "()I" } : Jvm.MethodName) ∈ aWd := aWd_4 (List.mem_of_getElem? (i := 145) rfl) rfl
theorem wd_4_146 : Jvm.Cond.selects "ReadAloudModel" ({ cls := "ReadAloudModel", name := "restore", desc := "()I" } : Jvm.MethodName) ({ cls := "ReadAloudModel", name := "restore", desc := "()I" } : Jvm.MethodName) ∈ aWd := aWd_4 (List.mem_of_getElem? (i := 146) rfl) rfl
theorem wd_4_147 : Jvm.Cond.code ({ cls := "ReadAloudModel", name := "restore", desc := "()I" } : Jvm.MethodName) prog_14_method_43_code (1 : Nat) (Option.some Jvm.ClassFile.FieldType.int) ∈ aWd := aWd_4 (List.mem_of_getElem? (i := 147) rfl) rfl
theorem wd_4_148 : Jvm.Cond.methodLink "ReadAloudLaw" (101 : Nat) ({ cls := "ReadAloudModel", name := "count", desc := "(I)I" } : Jvm.MethodName) ∈ aWd := aWd_4 (List.mem_of_getElem? (i := 148) rfl) rfl
theorem wd_4_149 : Jvm.Cond.instanceMethod ({ cls := "ReadAloudModel", name := "count", desc := "(I)I" } : Jvm.MethodName) ∈ aWd := aWd_4 (List.mem_of_getElem? (i := 149) rfl) rfl
theorem wd_4_150 : Jvm.Cond.selects "ReadAloudModel" ({ cls := "ReadAloudModel", name := "count", desc := "(I)I" } : Jvm.MethodName) ({ cls := "ReadAloudModel", name := "count", desc := "(I)I" } : Jvm.MethodName) ∈ aWd := aWd_4 (List.mem_of_getElem? (i := 150) rfl) rfl
theorem wd_4_151 : Jvm.Cond.code ({ cls := "ReadAloudModel", name := "count", desc := "(I)I" } : Jvm.MethodName) prog_14_method_47_code (2 : Nat) (Option.some Jvm.ClassFile.FieldType.int) ∈ aWd := aWd_4 (List.mem_of_getElem? (i := 151) rfl) rfl
theorem wd_4_152 : Jvm.Cond.methodLink "ReadAloudModel" (212 : Nat) ({ cls := "ReadAloudModel", name := "countOf", desc := "(I)I" } : Jvm.MethodName) ∈ aWd := aWd_4 (List.mem_of_getElem? (i := 152) rfl) rfl
theorem wd_4_154 : Jvm.Cond.instanceMethod ({ cls := "ReadAloudModel", name := "countOf", desc := "(I)I" } : Jvm.MethodName) ∈ aWd := aWd_4 (List.mem_of_getElem? (i := 154) rfl) rfl
theorem wd_4_155 : Jvm.Cond.code ({ cls := "ReadAloudModel", name := "countOf", desc := "(I)I" } : Jvm.MethodName) prog_14_method_46_code (2 : Nat) (Option.some Jvm.ClassFile.FieldType.int) ∈ aWd := aWd_4 (List.mem_of_getElem? (i := 155) rfl) rfl
theorem wd_4_156 : Jvm.Cond.methodLink "ReadAloudModel" (206 : Nat) ({ cls := "ReadAloudModel", name := "hangMany", desc := "()I" } : Jvm.MethodName) ∈ aWd := aWd_4 (List.mem_of_getElem? (i := 156) rfl) rfl
theorem wd_4_158 : Jvm.Cond.instanceMethod ({ cls := "ReadAloudModel", name := "hangMany", desc := "()I" } : Jvm.MethodName) ∈ aWd := aWd_4 (List.mem_of_getElem? (i := 158) rfl) rfl
theorem wd_4_159 : Jvm.Cond.code ({ cls := "ReadAloudModel", name := "hangMany", desc := "()I" } : Jvm.MethodName) prog_14_method_44_code (3 : Nat) (Option.some Jvm.ClassFile.FieldType.int) ∈ aWd := aWd_4 (List.mem_of_getElem? (i := 159) rfl) rfl
theorem wd_4_160 : Jvm.Cond.methodLink "ReadAloudModel" (209 : Nat) ({ cls := "ReadAloudModel", name := "unlike", desc := "()I" } : Jvm.MethodName) ∈ aWd := aWd_4 (List.mem_of_getElem? (i := 160) rfl) rfl
theorem wd_4_162 : Jvm.Cond.instanceMethod ({ cls := "ReadAloudModel", name := "unlike", desc := "()I" } : Jvm.MethodName) ∈ aWd := aWd_4 (List.mem_of_getElem? (i := 162) rfl) rfl
theorem wd_4_163 : Jvm.Cond.code ({ cls := "ReadAloudModel", name := "unlike", desc := "()I" } : Jvm.MethodName) prog_14_method_45_code (3 : Nat) (Option.some Jvm.ClassFile.FieldType.int) ∈ aWd := aWd_4 (List.mem_of_getElem? (i := 163) rfl) rfl
theorem wd_4_164 : Jvm.Cond.methodLink "ReadAloudLaw" (106 : Nat) ({ cls := "ReadAloudModel", name := "digest", desc := "()J" } : Jvm.MethodName) ∈ aWd := aWd_4 (List.mem_of_getElem? (i := 164) rfl) rfl
theorem wd_4_165 : Jvm.Cond.instanceMethod ({ cls := "ReadAloudModel", name := "digest", desc := "()J" } : Jvm.MethodName) ∈ aWd := aWd_4 (List.mem_of_getElem? (i := 165) rfl) rfl
theorem wd_4_166 : Jvm.Cond.selects "ReadAloudModel" ({ cls := "ReadAloudModel", name := "digest", desc := "()J" } : Jvm.MethodName) ({ cls := "ReadAloudModel", name := "digest", desc := "()J" } : Jvm.MethodName) ∈ aWd := aWd_4 (List.mem_of_getElem? (i := 166) rfl) rfl
theorem wd_4_167 : Jvm.Cond.code ({ cls := "ReadAloudModel", name := "digest", desc := "()J" } : Jvm.MethodName) prog_14_method_49_code (3 : Nat) (Option.some Jvm.ClassFile.FieldType.long) ∈ aWd := aWd_4 (List.mem_of_getElem? (i := 167) rfl) rfl
theorem wd_4_168 : Jvm.Cond.constantLong "ReadAloudModel" (221 : Nat) (1019 : Int64) ∈ aWd := aWd_4 (List.mem_of_getElem? (i := 168) rfl) rfl
theorem wd_4_169 : Jvm.Cond.methodLink "ReadAloudModel" (223 : Nat) ({ cls := "ReadAloudModel", name := "say", desc := "(J)V" } : Jvm.MethodName) ∈ aWd := aWd_4 (List.mem_of_getElem? (i := 169) rfl) rfl
theorem wd_4_171 : Jvm.Cond.instanceMethod ({ cls := "ReadAloudModel", name := "say", desc := "(J)V" } : Jvm.MethodName) ∈ aWd := aWd_4 (List.mem_of_getElem? (i := 171) rfl) rfl
theorem wd_4_172 : Jvm.Cond.code ({ cls := "ReadAloudModel", name := "say", desc := "(J)V" } : Jvm.MethodName) prog_14_method_48_code (3 : Nat) (Option.none : Option Jvm.ClassFile.FieldType) ∈ aWd := aWd_4 (List.mem_of_getElem? (i := 172) rfl) rfl
theorem wd_4_173 : Jvm.Cond.constantLong "ReadAloudModel" (215 : Nat) (31 : Int64) ∈ aWd := aWd_4 (List.mem_of_getElem? (i := 173) rfl) rfl
theorem wd_4_174 : Jvm.Cond.sameMethod "ReadAloud$Stammerer" "ReadAloud$Stammerer" "placesAnyhow" "(LReadAloud$Sheet;)I" ∈ aWd := aWd_4 (List.mem_of_getElem? (i := 174) rfl) rfl
theorem uX0 : ∀ w ∈ u_ws RX0 TX0 1, w ∈ aWd := List.forall_mem_cons.mpr ⟨wd_2_80, fun _ h => absurd h List.not_mem_nil⟩
theorem uX1 : ∀ w ∈ u_ws RX1 TX1 1, w ∈ aWd := List.forall_mem_cons.mpr ⟨wd_2_88, fun _ h => absurd h List.not_mem_nil⟩
theorem uX2 : ∀ w ∈ u_ws RX2 TX2 3, w ∈ aWd := List.forall_mem_cons.mpr ⟨wd_1_131, List.forall_mem_cons.mpr ⟨wd_1_133, List.forall_mem_cons.mpr ⟨wd_1_135, fun _ h => absurd h List.not_mem_nil⟩⟩⟩
theorem uX3 : ∀ w ∈ u_ws RX3 TX3 3, w ∈ aWd := List.forall_mem_cons.mpr ⟨wd_1_88, List.forall_mem_cons.mpr ⟨wd_1_90, List.forall_mem_cons.mpr ⟨wd_1_92, fun _ h => absurd h List.not_mem_nil⟩⟩⟩
theorem uX4 : ∀ w ∈ u_ws RX4 TX4 1, w ∈ aWd := List.forall_mem_cons.mpr ⟨wd_2_100, fun _ h => absurd h List.not_mem_nil⟩
theorem uX5 : ∀ w ∈ u_ws RX5 TX5 3, w ∈ aWd := List.forall_mem_cons.mpr ⟨wd_1_51, List.forall_mem_cons.mpr ⟨wd_1_53, List.forall_mem_cons.mpr ⟨wd_1_55, fun _ h => absurd h List.not_mem_nil⟩⟩⟩
theorem uX6 : ∀ w ∈ u_ws RX6 TX6 2, w ∈ aWd := List.forall_mem_cons.mpr ⟨wd_1_74, List.forall_mem_cons.mpr ⟨wd_1_76, fun _ h => absurd h List.not_mem_nil⟩⟩
theorem uX7 : ∀ w ∈ u_ws RX7 TX7 1, w ∈ aWd := List.forall_mem_cons.mpr ⟨wd_2_71, fun _ h => absurd h List.not_mem_nil⟩
theorem uX8 : ∀ w ∈ u_ws RX8 TX8 6, w ∈ aWd := List.forall_mem_cons.mpr ⟨wd_1_107, List.forall_mem_cons.mpr ⟨wd_1_109, List.forall_mem_cons.mpr ⟨wd_1_111, List.forall_mem_cons.mpr ⟨wd_1_113, List.forall_mem_cons.mpr ⟨wd_1_115, List.forall_mem_cons.mpr ⟨wd_1_117, fun _ h => absurd h List.not_mem_nil⟩⟩⟩⟩⟩⟩
theorem uX9 : ∀ w ∈ u_ws RX9 TX9 3, w ∈ aWd := List.forall_mem_cons.mpr ⟨wd_1_40, List.forall_mem_cons.mpr ⟨wd_1_42, List.forall_mem_cons.mpr ⟨wd_1_44, fun _ h => absurd h List.not_mem_nil⟩⟩⟩
theorem uX10 : ∀ w ∈ u_ws RX10 TX10 1, w ∈ aWd := List.forall_mem_cons.mpr ⟨wd_2_96, fun _ h => absurd h List.not_mem_nil⟩
theorem uX11 : ∀ w ∈ u_ws RX11 TX11 10, w ∈ aWd := List.forall_mem_cons.mpr ⟨wd_1_148, List.forall_mem_cons.mpr ⟨wd_1_150, List.forall_mem_cons.mpr ⟨wd_1_152, List.forall_mem_cons.mpr ⟨wd_1_154, List.forall_mem_cons.mpr ⟨wd_1_156, List.forall_mem_cons.mpr ⟨wd_1_158, List.forall_mem_cons.mpr ⟨wd_1_160, List.forall_mem_cons.mpr ⟨wd_1_162, List.forall_mem_cons.mpr ⟨wd_1_164, List.forall_mem_cons.mpr ⟨wd_1_166, fun _ h => absurd h List.not_mem_nil⟩⟩⟩⟩⟩⟩⟩⟩⟩⟩
theorem uX12 : ∀ w ∈ u_ws RX12 TX12 32, w ∈ aWd := List.forall_mem_cons.mpr ⟨wd_3_147, List.forall_mem_cons.mpr ⟨wd_3_149, List.forall_mem_cons.mpr ⟨wd_3_151, List.forall_mem_cons.mpr ⟨wd_3_153, List.forall_mem_cons.mpr ⟨wd_3_155, List.forall_mem_cons.mpr ⟨wd_3_157, List.forall_mem_cons.mpr ⟨wd_3_159, List.forall_mem_cons.mpr ⟨wd_3_161, List.forall_mem_cons.mpr ⟨wd_3_163, List.forall_mem_cons.mpr ⟨wd_3_165, List.forall_mem_cons.mpr ⟨wd_3_167, List.forall_mem_cons.mpr ⟨wd_3_169, List.forall_mem_cons.mpr ⟨wd_3_171, List.forall_mem_cons.mpr ⟨wd_3_173, List.forall_mem_cons.mpr ⟨wd_3_175, List.forall_mem_cons.mpr ⟨wd_3_177, List.forall_mem_cons.mpr ⟨wd_3_179, List.forall_mem_cons.mpr ⟨wd_3_181, List.forall_mem_cons.mpr ⟨wd_3_183, List.forall_mem_cons.mpr ⟨wd_3_185, List.forall_mem_cons.mpr ⟨wd_3_187, List.forall_mem_cons.mpr ⟨wd_3_189, List.forall_mem_cons.mpr ⟨wd_3_191, List.forall_mem_cons.mpr ⟨wd_3_193, List.forall_mem_cons.mpr ⟨wd_3_195, List.forall_mem_cons.mpr ⟨wd_3_197, List.forall_mem_cons.mpr ⟨wd_3_199, List.forall_mem_cons.mpr ⟨wd_3_201, List.forall_mem_cons.mpr ⟨wd_3_203, List.forall_mem_cons.mpr ⟨wd_3_205, List.forall_mem_cons.mpr ⟨wd_3_207, List.forall_mem_cons.mpr ⟨wd_3_209, fun _ h => absurd h List.not_mem_nil⟩⟩⟩⟩⟩⟩⟩⟩⟩⟩⟩⟩⟩⟩⟩⟩⟩⟩⟩⟩⟩⟩⟩⟩⟩⟩⟩⟩⟩⟩⟩⟩
theorem fX11_10_X11 : aFl RX11 10 11 0 := ⟨RX11, TX11, 10, "ReadAloud", rfl, by decide, uX11, wd_1_138, rfl⟩
theorem fX11_16_X11 : aFl RX11 16 11 1 := ⟨RX11, TX11, 10, "ReadAloud", rfl, by decide, uX11, wd_1_139, rfl⟩
theorem fX11_22_X11 : aFl RX11 22 11 2 := ⟨RX11, TX11, 10, "ReadAloud", rfl, by decide, uX11, wd_1_140, rfl⟩
theorem fX11_29_X11 : aFl RX11 29 11 3 := ⟨RX11, TX11, 10, "ReadAloud", rfl, by decide, uX11, wd_1_141, rfl⟩
theorem fX11_33_X11 : aFl RX11 33 11 4 := ⟨RX11, TX11, 10, "ReadAloud", rfl, by decide, uX11, wd_1_142, rfl⟩
theorem fX11_39_X11 : aFl RX11 39 11 5 := ⟨RX11, TX11, 10, "ReadAloud", rfl, by decide, uX11, wd_1_143, rfl⟩
theorem fX11_46_X11 : aFl RX11 46 11 6 := ⟨RX11, TX11, 10, "ReadAloud", rfl, by decide, uX11, wd_1_144, rfl⟩
theorem fX11_71_X11 : aFl RX11 71 11 7 := ⟨RX11, TX11, 10, "ReadAloud", rfl, by decide, uX11, wd_1_145, rfl⟩
theorem fX11_75_X11 : aFl RX11 75 11 8 := ⟨RX11, TX11, 10, "ReadAloud", rfl, by decide, uX11, wd_1_146, rfl⟩
theorem fX11_79_X8 : aFl RX11 79 8 0 := ⟨RX8, TX8, 6, "ReadAloud$State", rfl, by decide, uX8, wd_1_96, rfl⟩
theorem fX11_100_X8 : aFl RX11 100 8 5 := ⟨RX8, TX8, 6, "ReadAloud$State", rfl, by decide, uX8, wd_1_106, rfl⟩
theorem fX11_103_X8 : aFl RX11 103 8 3 := ⟨RX8, TX8, 6, "ReadAloud$State", rfl, by decide, uX8, wd_1_102, rfl⟩
theorem fX11_109_X8 : aFl RX11 109 8 4 := ⟨RX8, TX8, 6, "ReadAloud$State", rfl, by decide, uX8, wd_1_104, rfl⟩
theorem fX11_115_X8 : aFl RX11 115 8 2 := ⟨RX8, TX8, 6, "ReadAloud$State", rfl, by decide, uX8, wd_1_100, rfl⟩
theorem fX11_140_X8 : aFl RX11 140 8 1 := ⟨RX8, TX8, 6, "ReadAloud$State", rfl, by decide, uX8, wd_1_98, rfl⟩
theorem fX11_159_X11 : aFl RX11 159 11 9 := ⟨RX11, TX11, 10, "ReadAloud", rfl, by decide, uX11, wd_1_147, rfl⟩
theorem fX12_7_X12 : aFl RX12 7 12 0 := ⟨RX12, TX12, 32, "ReadAloudModel", rfl, by decide, uX12, wd_3_115, rfl⟩
theorem fX12_13_X12 : aFl RX12 13 12 5 := ⟨RX12, TX12, 32, "ReadAloudModel", rfl, by decide, uX12, wd_3_120, rfl⟩
theorem fX12_16_X12 : aFl RX12 16 12 6 := ⟨RX12, TX12, 32, "ReadAloudModel", rfl, by decide, uX12, wd_3_121, rfl⟩
theorem fX12_19_X12 : aFl RX12 19 12 11 := ⟨RX12, TX12, 32, "ReadAloudModel", rfl, by decide, uX12, wd_3_126, rfl⟩
theorem fX12_22_X12 : aFl RX12 22 12 12 := ⟨RX12, TX12, 32, "ReadAloudModel", rfl, by decide, uX12, wd_3_127, rfl⟩
theorem fX12_25_X12 : aFl RX12 25 12 14 := ⟨RX12, TX12, 32, "ReadAloudModel", rfl, by decide, uX12, wd_3_129, rfl⟩
theorem fX12_28_X12 : aFl RX12 28 12 16 := ⟨RX12, TX12, 32, "ReadAloudModel", rfl, by decide, uX12, wd_3_131, rfl⟩
theorem fX12_31_X12 : aFl RX12 31 12 17 := ⟨RX12, TX12, 32, "ReadAloudModel", rfl, by decide, uX12, wd_3_132, rfl⟩
theorem fX12_34_X12 : aFl RX12 34 12 19 := ⟨RX12, TX12, 32, "ReadAloudModel", rfl, by decide, uX12, wd_3_134, rfl⟩
theorem fX12_37_X12 : aFl RX12 37 12 20 := ⟨RX12, TX12, 32, "ReadAloudModel", rfl, by decide, uX12, wd_3_135, rfl⟩
theorem fX12_40_X12 : aFl RX12 40 12 22 := ⟨RX12, TX12, 32, "ReadAloudModel", rfl, by decide, uX12, wd_3_137, rfl⟩
theorem fX12_43_X12 : aFl RX12 43 12 28 := ⟨RX12, TX12, 32, "ReadAloudModel", rfl, by decide, uX12, wd_3_143, rfl⟩
theorem fX12_46_X12 : aFl RX12 46 12 29 := ⟨RX12, TX12, 32, "ReadAloudModel", rfl, by decide, uX12, wd_3_144, rfl⟩
theorem fX12_49_X12 : aFl RX12 49 12 30 := ⟨RX12, TX12, 32, "ReadAloudModel", rfl, by decide, uX12, wd_3_145, rfl⟩
theorem fX12_52_X12 : aFl RX12 52 12 23 := ⟨RX12, TX12, 32, "ReadAloudModel", rfl, by decide, uX12, wd_3_138, rfl⟩
theorem fX12_62_X12 : aFl RX12 62 12 1 := ⟨RX12, TX12, 32, "ReadAloudModel", rfl, by decide, uX12, wd_3_116, rfl⟩
theorem fX12_65_X12 : aFl RX12 65 12 2 := ⟨RX12, TX12, 32, "ReadAloudModel", rfl, by decide, uX12, wd_3_117, rfl⟩
theorem fX12_68_X12 : aFl RX12 68 12 3 := ⟨RX12, TX12, 32, "ReadAloudModel", rfl, by decide, uX12, wd_3_118, rfl⟩
theorem fX12_71_X12 : aFl RX12 71 12 4 := ⟨RX12, TX12, 32, "ReadAloudModel", rfl, by decide, uX12, wd_3_119, rfl⟩
theorem fX12_84_X12 : aFl RX12 84 12 8 := ⟨RX12, TX12, 32, "ReadAloudModel", rfl, by decide, uX12, wd_3_123, rfl⟩
theorem fX12_91_X12 : aFl RX12 91 12 7 := ⟨RX12, TX12, 32, "ReadAloudModel", rfl, by decide, uX12, wd_3_122, rfl⟩
theorem fX12_94_X12 : aFl RX12 94 12 9 := ⟨RX12, TX12, 32, "ReadAloudModel", rfl, by decide, uX12, wd_3_124, rfl⟩
theorem fX12_97_X12 : aFl RX12 97 12 13 := ⟨RX12, TX12, 32, "ReadAloudModel", rfl, by decide, uX12, wd_3_128, rfl⟩
theorem fX12_100_X12 : aFl RX12 100 12 18 := ⟨RX12, TX12, 32, "ReadAloudModel", rfl, by decide, uX12, wd_3_133, rfl⟩
theorem fX12_103_X12 : aFl RX12 103 12 10 := ⟨RX12, TX12, 32, "ReadAloudModel", rfl, by decide, uX12, wd_3_125, rfl⟩
theorem fX12_161_X12 : aFl RX12 161 12 15 := ⟨RX12, TX12, 32, "ReadAloudModel", rfl, by decide, uX12, wd_3_130, rfl⟩
theorem fX12_179_X12 : aFl RX12 179 12 21 := ⟨RX12, TX12, 32, "ReadAloudModel", rfl, by decide, uX12, wd_3_136, rfl⟩
theorem fX12_194_X12 : aFl RX12 194 12 24 := ⟨RX12, TX12, 32, "ReadAloudModel", rfl, by decide, uX12, wd_3_139, rfl⟩
theorem fX12_197_X12 : aFl RX12 197 12 25 := ⟨RX12, TX12, 32, "ReadAloudModel", rfl, by decide, uX12, wd_3_140, rfl⟩
theorem fX12_200_X12 : aFl RX12 200 12 26 := ⟨RX12, TX12, 32, "ReadAloudModel", rfl, by decide, uX12, wd_3_141, rfl⟩
theorem fX12_203_X12 : aFl RX12 203 12 27 := ⟨RX12, TX12, 32, "ReadAloudModel", rfl, by decide, uX12, wd_3_142, rfl⟩
theorem fX12_217_X12 : aFl RX12 217 12 31 := ⟨RX12, TX12, 32, "ReadAloudModel", rfl, by decide, uX12, wd_3_146, rfl⟩
theorem fX2_9_X2 : aFl RX2 9 2 0 := ⟨RX2, TX2, 3, "ReadAloud$Brief", rfl, by decide, uX2, wd_1_128, rfl⟩
theorem fX2_15_X2 : aFl RX2 15 2 1 := ⟨RX2, TX2, 3, "ReadAloud$Brief", rfl, by decide, uX2, wd_1_129, rfl⟩
theorem fX2_18_X2 : aFl RX2 18 2 2 := ⟨RX2, TX2, 3, "ReadAloud$Brief", rfl, by decide, uX2, wd_1_130, rfl⟩
theorem fX3_9_X3 : aFl RX3 9 3 0 := ⟨RX3, TX3, 3, "ReadAloud$Heard", rfl, by decide, uX3, wd_1_85, rfl⟩
theorem fX3_15_X3 : aFl RX3 15 3 1 := ⟨RX3, TX3, 3, "ReadAloud$Heard", rfl, by decide, uX3, wd_1_86, rfl⟩
theorem fX3_18_X3 : aFl RX3 18 3 2 := ⟨RX3, TX3, 3, "ReadAloud$Heard", rfl, by decide, uX3, wd_1_87, rfl⟩
theorem fX4_7_X0 : aFl RX4 7 0 0 := ⟨RX0, TX0, 1, "ReadAloud$Man", rfl, by decide, uX0, wd_2_70, rfl⟩
theorem fX4_7_X1 : aFl RX4 7 1 0 := ⟨RX1, TX1, 1, "ReadAloud$Man", rfl, by decide, uX1, wd_2_70, rfl⟩
theorem fX4_7_X4 : aFl RX4 7 4 0 := ⟨RX4, TX4, 1, "ReadAloud$Man", rfl, by decide, uX4, wd_2_70, rfl⟩
theorem fX4_7_X7 : aFl RX4 7 7 0 := ⟨RX7, TX7, 1, "ReadAloud$Man", rfl, by decide, uX7, wd_2_70, rfl⟩
theorem fX4_7_X10 : aFl RX4 7 10 0 := ⟨RX10, TX10, 1, "ReadAloud$Man", rfl, by decide, uX10, wd_2_70, rfl⟩
theorem fX5_9_X5 : aFl RX5 9 5 0 := ⟨RX5, TX5, 3, "ReadAloud$Page", rfl, by decide, uX5, wd_1_48, rfl⟩
theorem fX5_18_X5 : aFl RX5 18 5 1 := ⟨RX5, TX5, 3, "ReadAloud$Page", rfl, by decide, uX5, wd_1_49, rfl⟩
theorem fX5_22_X5 : aFl RX5 22 5 2 := ⟨RX5, TX5, 3, "ReadAloud$Page", rfl, by decide, uX5, wd_1_50, rfl⟩
theorem fX6_9_X6 : aFl RX6 9 6 0 := ⟨RX6, TX6, 2, "ReadAloud$Sheet", rfl, by decide, uX6, wd_1_72, rfl⟩
theorem fX6_15_X6 : aFl RX6 15 6 1 := ⟨RX6, TX6, 2, "ReadAloud$Sheet", rfl, by decide, uX6, wd_1_73, rfl⟩
theorem fX8_12_X8 : aFl RX8 12 8 0 := ⟨RX8, TX8, 6, "ReadAloud$State", rfl, by decide, uX8, wd_1_95, rfl⟩
theorem fX8_21_X8 : aFl RX8 21 8 1 := ⟨RX8, TX8, 6, "ReadAloud$State", rfl, by decide, uX8, wd_1_97, rfl⟩
theorem fX8_25_X8 : aFl RX8 25 8 2 := ⟨RX8, TX8, 6, "ReadAloud$State", rfl, by decide, uX8, wd_1_99, rfl⟩
theorem fX8_33_X8 : aFl RX8 33 8 3 := ⟨RX8, TX8, 6, "ReadAloud$State", rfl, by decide, uX8, wd_1_101, rfl⟩
theorem fX8_37_X8 : aFl RX8 37 8 4 := ⟨RX8, TX8, 6, "ReadAloud$State", rfl, by decide, uX8, wd_1_103, rfl⟩
theorem fX8_40_X8 : aFl RX8 40 8 5 := ⟨RX8, TX8, 6, "ReadAloud$State", rfl, by decide, uX8, wd_1_105, rfl⟩
theorem fX9_22_X9 : aFl RX9 22 9 0 := ⟨RX9, TX9, 3, "ReadAloud$Walk", rfl, by decide, uX9, wd_1_37, rfl⟩
theorem fX9_26_X9 : aFl RX9 26 9 1 := ⟨RX9, TX9, 3, "ReadAloud$Walk", rfl, by decide, uX9, wd_1_38, rfl⟩
theorem fX9_29_X9 : aFl RX9 29 9 2 := ⟨RX9, TX9, 3, "ReadAloud$Walk", rfl, by decide, uX9, wd_1_39, rfl⟩
theorem pX0_0 : aFp 0 0 .int true := ⟨RX0, TX0, 1, tyX0, rfl, tyX0_ok, nmX0, rfl, by decide +kernel⟩
theorem pX1_0 : aFp 1 0 .int true := ⟨RX1, TX1, 1, tyX1, rfl, tyX1_ok, nmX1, rfl, by decide +kernel⟩
theorem pX2_0 : aFp 2 0 (.array .int) true := ⟨RX2, TX2, 3, tyX2, rfl, tyX2_ok, nmX2, rfl, by decide +kernel⟩
theorem pX2_1 : aFp 2 1 (.array .int) true := ⟨RX2, TX2, 3, tyX2, rfl, tyX2_ok, nmX2, rfl, by decide +kernel⟩
theorem pX2_2 : aFp 2 2 .int false := ⟨RX2, TX2, 3, tyX2, rfl, tyX2_ok, nmX2, rfl, by decide +kernel⟩
theorem pX3_0 : aFp 3 0 (.array .int) true := ⟨RX3, TX3, 3, tyX3, rfl, tyX3_ok, nmX3, rfl, by decide +kernel⟩
theorem pX3_1 : aFp 3 1 (.array .int) true := ⟨RX3, TX3, 3, tyX3, rfl, tyX3_ok, nmX3, rfl, by decide +kernel⟩
theorem pX3_2 : aFp 3 2 .int false := ⟨RX3, TX3, 3, tyX3, rfl, tyX3_ok, nmX3, rfl, by decide +kernel⟩
theorem pX4_0 : aFp 4 0 .int true := ⟨RX4, TX4, 1, tyX4, rfl, tyX4_ok, nmX4, rfl, by decide +kernel⟩
theorem pX5_0 : aFp 5 0 (.array .int) true := ⟨RX5, TX5, 3, tyX5, rfl, tyX5_ok, nmX5, rfl, by decide +kernel⟩
theorem pX5_1 : aFp 5 1 (.object "ReadAloud$Walk") true := ⟨RX5, TX5, 3, tyX5, rfl, tyX5_ok, nmX5, rfl, by decide +kernel⟩
theorem pX5_2 : aFp 5 2 .int false := ⟨RX5, TX5, 3, tyX5, rfl, tyX5_ok, nmX5, rfl, by decide +kernel⟩
theorem pX6_0 : aFp 6 0 (.array .int) true := ⟨RX6, TX6, 2, tyX6, rfl, tyX6_ok, nmX6, rfl, by decide +kernel⟩
theorem pX6_1 : aFp 6 1 .int false := ⟨RX6, TX6, 2, tyX6, rfl, tyX6_ok, nmX6, rfl, by decide +kernel⟩
theorem pX7_0 : aFp 7 0 .int true := ⟨RX7, TX7, 1, tyX7, rfl, tyX7_ok, nmX7, rfl, by decide +kernel⟩
theorem pX8_0 : aFp 8 0 (.object "ReadAloud$Sheet") true := ⟨RX8, TX8, 6, tyX8, rfl, tyX8_ok, nmX8, rfl, by decide +kernel⟩
theorem pX8_1 : aFp 8 1 (.object "ReadAloud$Heard") true := ⟨RX8, TX8, 6, tyX8, rfl, tyX8_ok, nmX8, rfl, by decide +kernel⟩
theorem pX8_2 : aFp 8 2 (.array .int) true := ⟨RX8, TX8, 6, tyX8, rfl, tyX8_ok, nmX8, rfl, by decide +kernel⟩
theorem pX8_3 : aFp 8 3 .int false := ⟨RX8, TX8, 6, tyX8, rfl, tyX8_ok, nmX8, rfl, by decide +kernel⟩
theorem pX8_4 : aFp 8 4 .int false := ⟨RX8, TX8, 6, tyX8, rfl, tyX8_ok, nmX8, rfl, by decide +kernel⟩
theorem pX8_5 : aFp 8 5 .int false := ⟨RX8, TX8, 6, tyX8, rfl, tyX8_ok, nmX8, rfl, by decide +kernel⟩
theorem pX9_0 : aFp 9 0 .int false := ⟨RX9, TX9, 3, tyX9, rfl, tyX9_ok, nmX9, rfl, by decide +kernel⟩
theorem pX9_1 : aFp 9 1 .int false := ⟨RX9, TX9, 3, tyX9, rfl, tyX9_ok, nmX9, rfl, by decide +kernel⟩
theorem pX9_2 : aFp 9 2 .int false := ⟨RX9, TX9, 3, tyX9, rfl, tyX9_ok, nmX9, rfl, by decide +kernel⟩
theorem pX10_0 : aFp 10 0 .int true := ⟨RX10, TX10, 1, tyX10, rfl, tyX10_ok, nmX10, rfl, by decide +kernel⟩
theorem pX11_0 : aFp 11 0 (.object "ReadAloud$Page") true := ⟨RX11, TX11, 10, tyX11, rfl, tyX11_ok, nmX11, rfl, by decide +kernel⟩
theorem pX11_1 : aFp 11 1 (.array .int) true := ⟨RX11, TX11, 10, tyX11, rfl, tyX11_ok, nmX11, rfl, by decide +kernel⟩
theorem pX11_2 : aFp 11 2 (.array (.object "ReadAloud$Man")) true := ⟨RX11, TX11, 10, tyX11, rfl, tyX11_ok, nmX11, rfl, by decide +kernel⟩
theorem pX11_3 : aFp 11 3 (.object "ReadAloud$State") true := ⟨RX11, TX11, 10, tyX11, rfl, tyX11_ok, nmX11, rfl, by decide +kernel⟩
theorem pX11_4 : aFp 11 4 (.object "ReadAloud$State") true := ⟨RX11, TX11, 10, tyX11, rfl, tyX11_ok, nmX11, rfl, by decide +kernel⟩
theorem pX11_5 : aFp 11 5 (.object "ReadAloud$Sheet") true := ⟨RX11, TX11, 10, tyX11, rfl, tyX11_ok, nmX11, rfl, by decide +kernel⟩
theorem pX11_6 : aFp 11 6 (.object "ReadAloud$Brief") true := ⟨RX11, TX11, 10, tyX11, rfl, tyX11_ok, nmX11, rfl, by decide +kernel⟩
theorem pX11_7 : aFp 11 7 .boolean false := ⟨RX11, TX11, 10, tyX11, rfl, tyX11_ok, nmX11, rfl, by decide +kernel⟩
theorem pX11_8 : aFp 11 8 .int false := ⟨RX11, TX11, 10, tyX11, rfl, tyX11_ok, nmX11, rfl, by decide +kernel⟩
theorem pX11_9 : aFp 11 9 .int false := ⟨RX11, TX11, 10, tyX11, rfl, tyX11_ok, nmX11, rfl, by decide +kernel⟩
theorem pX12_0 : aFp 12 0 (.array .int) true := ⟨RX12, TX12, 32, tyX12, rfl, tyX12_ok, nmX12, rfl, by decide +kernel⟩
theorem pX12_1 : aFp 12 1 .int false := ⟨RX12, TX12, 32, tyX12, rfl, tyX12_ok, nmX12, rfl, by decide +kernel⟩
theorem pX12_2 : aFp 12 2 .int false := ⟨RX12, TX12, 32, tyX12, rfl, tyX12_ok, nmX12, rfl, by decide +kernel⟩
theorem pX12_3 : aFp 12 3 .int false := ⟨RX12, TX12, 32, tyX12, rfl, tyX12_ok, nmX12, rfl, by decide +kernel⟩
theorem pX12_4 : aFp 12 4 .int false := ⟨RX12, TX12, 32, tyX12, rfl, tyX12_ok, nmX12, rfl, by decide +kernel⟩
theorem pX12_5 : aFp 12 5 (.array .int) true := ⟨RX12, TX12, 32, tyX12, rfl, tyX12_ok, nmX12, rfl, by decide +kernel⟩
theorem pX12_6 : aFp 12 6 (.array .int) true := ⟨RX12, TX12, 32, tyX12, rfl, tyX12_ok, nmX12, rfl, by decide +kernel⟩
theorem pX12_7 : aFp 12 7 .int false := ⟨RX12, TX12, 32, tyX12, rfl, tyX12_ok, nmX12, rfl, by decide +kernel⟩
theorem pX12_8 : aFp 12 8 .int false := ⟨RX12, TX12, 32, tyX12, rfl, tyX12_ok, nmX12, rfl, by decide +kernel⟩
theorem pX12_9 : aFp 12 9 .int false := ⟨RX12, TX12, 32, tyX12, rfl, tyX12_ok, nmX12, rfl, by decide +kernel⟩
theorem pX12_10 : aFp 12 10 .int false := ⟨RX12, TX12, 32, tyX12, rfl, tyX12_ok, nmX12, rfl, by decide +kernel⟩
theorem pX12_11 : aFp 12 11 (.array .int) true := ⟨RX12, TX12, 32, tyX12, rfl, tyX12_ok, nmX12, rfl, by decide +kernel⟩
theorem pX12_12 : aFp 12 12 (.array .int) true := ⟨RX12, TX12, 32, tyX12, rfl, tyX12_ok, nmX12, rfl, by decide +kernel⟩
theorem pX12_13 : aFp 12 13 .int false := ⟨RX12, TX12, 32, tyX12, rfl, tyX12_ok, nmX12, rfl, by decide +kernel⟩
theorem pX12_14 : aFp 12 14 (.array .int) true := ⟨RX12, TX12, 32, tyX12, rfl, tyX12_ok, nmX12, rfl, by decide +kernel⟩
theorem pX12_15 : aFp 12 15 .int false := ⟨RX12, TX12, 32, tyX12, rfl, tyX12_ok, nmX12, rfl, by decide +kernel⟩
theorem pX12_16 : aFp 12 16 (.array .int) true := ⟨RX12, TX12, 32, tyX12, rfl, tyX12_ok, nmX12, rfl, by decide +kernel⟩
theorem pX12_17 : aFp 12 17 (.array .int) true := ⟨RX12, TX12, 32, tyX12, rfl, tyX12_ok, nmX12, rfl, by decide +kernel⟩
theorem pX12_18 : aFp 12 18 .int false := ⟨RX12, TX12, 32, tyX12, rfl, tyX12_ok, nmX12, rfl, by decide +kernel⟩
theorem pX12_19 : aFp 12 19 (.array .int) true := ⟨RX12, TX12, 32, tyX12, rfl, tyX12_ok, nmX12, rfl, by decide +kernel⟩
theorem pX12_20 : aFp 12 20 (.array .int) true := ⟨RX12, TX12, 32, tyX12, rfl, tyX12_ok, nmX12, rfl, by decide +kernel⟩
theorem pX12_21 : aFp 12 21 .int false := ⟨RX12, TX12, 32, tyX12, rfl, tyX12_ok, nmX12, rfl, by decide +kernel⟩
theorem pX12_22 : aFp 12 22 (.array .int) true := ⟨RX12, TX12, 32, tyX12, rfl, tyX12_ok, nmX12, rfl, by decide +kernel⟩
theorem pX12_23 : aFp 12 23 .int false := ⟨RX12, TX12, 32, tyX12, rfl, tyX12_ok, nmX12, rfl, by decide +kernel⟩
theorem pX12_24 : aFp 12 24 .int false := ⟨RX12, TX12, 32, tyX12, rfl, tyX12_ok, nmX12, rfl, by decide +kernel⟩
theorem pX12_25 : aFp 12 25 .int false := ⟨RX12, TX12, 32, tyX12, rfl, tyX12_ok, nmX12, rfl, by decide +kernel⟩
theorem pX12_26 : aFp 12 26 .int false := ⟨RX12, TX12, 32, tyX12, rfl, tyX12_ok, nmX12, rfl, by decide +kernel⟩
theorem pX12_27 : aFp 12 27 .int false := ⟨RX12, TX12, 32, tyX12, rfl, tyX12_ok, nmX12, rfl, by decide +kernel⟩
theorem pX12_28 : aFp 12 28 (.array .int) true := ⟨RX12, TX12, 32, tyX12, rfl, tyX12_ok, nmX12, rfl, by decide +kernel⟩
theorem pX12_29 : aFp 12 29 (.array .int) true := ⟨RX12, TX12, 32, tyX12, rfl, tyX12_ok, nmX12, rfl, by decide +kernel⟩
theorem pX12_30 : aFp 12 30 (.array .int) true := ⟨RX12, TX12, 32, tyX12, rfl, tyX12_ok, nmX12, rfl, by decide +kernel⟩
theorem pX12_31 : aFp 12 31 .long false := ⟨RX12, TX12, 32, tyX12, rfl, tyX12_ok, nmX12, rfl, by decide +kernel⟩
theorem kL_9 : aLI RL 9 yX11_init cX11_init 1 0 := ⟨wd_1_19, wd_1_20, wd_1_1, wd_1_21, rfl, ⟨by decide +kernel, by decide +kernel, by decide +kernel⟩⟩
theorem kL_12 : aLI RL 12 yX12_init cX12_init 1 0 := ⟨wd_3_111, wd_3_112, wd_1_8, wd_3_113, rfl, ⟨by decide +kernel, by decide +kernel, by decide +kernel⟩⟩
theorem kL_13 : aLV RL 13 RX11 yX11_letter cX11_letter 2 (some .int) 1 := ⟨wd_1_169, wd_1_170, wd_1_171, wd_1_1, wd_1_172, rfl, ⟨by decide +kernel, by decide +kernel, by decide +kernel⟩⟩
theorem kL_17 : aLV RL 17 RX12 yX12_letter cX12_letter 2 (some .int) 1 := ⟨wd_3_212, wd_3_213, wd_3_214, wd_1_8, wd_3_215, rfl, ⟨by decide +kernel, by decide +kernel, by decide +kernel⟩⟩
theorem kL_18 : aLV RL 18 RX11 yX11_blank cX11_blank 2 (some .int) 0 := ⟨wd_1_181, wd_1_182, wd_1_183, wd_1_1, wd_1_184, rfl, ⟨by decide +kernel, by decide +kernel, by decide +kernel⟩⟩
theorem kL_22 : aLV RL 22 RX12 yX12_blank cX12_blank 2 (some .int) 0 := ⟨wd_3_220, wd_3_221, wd_3_222, wd_1_8, wd_3_223, rfl, ⟨by decide +kernel, by decide +kernel, by decide +kernel⟩⟩
theorem kL_23 : aLV RL 23 RX11 yX11_fault cX11_fault 1 (some .int) 0 := ⟨wd_1_189, wd_1_190, wd_1_191, wd_1_1, wd_1_192, rfl, ⟨by decide +kernel, by decide +kernel, by decide +kernel⟩⟩
theorem kL_26 : aLV RL 26 RX12 yX12_fault cX12_fault 1 (some .int) 0 := ⟨wd_3_224, wd_3_225, wd_3_226, wd_1_8, wd_3_227, rfl, ⟨by decide +kernel, by decide +kernel, by decide +kernel⟩⟩
theorem kL_27 : aLV RL 27 RX11 yX11_court cX11_court 1 (some .int) 0 := ⟨wd_1_216, wd_1_217, wd_1_218, wd_1_1, wd_1_219, rfl, ⟨by decide +kernel, by decide +kernel, by decide +kernel⟩⟩
theorem kL_30 : aLV RL 30 RX12 yX12_court cX12_court 1 (some .int) 0 := ⟨wd_3_237, wd_3_238, wd_3_239, wd_1_8, wd_4_0, rfl, ⟨by decide +kernel, by decide +kernel, by decide +kernel⟩⟩
theorem kL_31 : aLV RL 31 RX11 yX11_near cX11_near 2 (some .int) 1 := ⟨wd_2_18, wd_2_19, wd_2_20, wd_1_1, wd_2_21, rfl, ⟨by decide +kernel, by decide +kernel, by decide +kernel⟩⟩
theorem kL_34 : aLV RL 34 RX12 yX12_near cX12_near 2 (some .int) 1 := ⟨wd_4_4, wd_4_5, wd_4_6, wd_1_8, wd_4_7, rfl, ⟨by decide +kernel, by decide +kernel, by decide +kernel⟩⟩
theorem kL_35 : aLV RL 35 RX11 yX11_word cX11_word 2 (some .int) 1 := ⟨wd_2_26, wd_2_27, wd_2_28, wd_1_1, wd_2_29, rfl, ⟨by decide +kernel, by decide +kernel, by decide +kernel⟩⟩
theorem kL_38 : aLV RL 38 RX12 yX12_word cX12_word 2 (some .int) 1 := ⟨wd_4_13, wd_4_14, wd_4_15, wd_1_8, wd_4_16, rfl, ⟨by decide +kernel, by decide +kernel, by decide +kernel⟩⟩
theorem kL_39 : aLV RL 39 RX11 yX11_put cX11_put 4 (some .int) 2 := ⟨wd_2_39, wd_2_40, wd_2_41, wd_1_1, wd_2_42, rfl, ⟨by decide +kernel, by decide +kernel, by decide +kernel⟩⟩
theorem kL_43 : aLV RL 43 RX12 yX12_put cX12_put 4 (some .int) 2 := ⟨wd_4_21, wd_4_22, wd_4_23, wd_1_8, wd_4_24, rfl, ⟨by decide +kernel, by decide +kernel, by decide +kernel⟩⟩
theorem kL_44 : aLV RL 44 RX11 yX11_limit cX11_limit 3 (some .int) 1 := ⟨wd_2_47, wd_2_48, wd_2_49, wd_1_1, wd_2_50, rfl, ⟨by decide +kernel, by decide +kernel, by decide +kernel⟩⟩
theorem kL_47 : aLV RL 47 RX12 yX12_limit cX12_limit 3 (some .int) 1 := ⟨wd_4_25, wd_4_26, wd_4_27, wd_1_8, wd_4_28, rfl, ⟨by decide +kernel, by decide +kernel, by decide +kernel⟩⟩
theorem kL_48 : aLV RL 48 RX11 yX11_accuse cX11_accuse 4 (some .int) 2 := ⟨wd_2_51, wd_2_52, wd_2_53, wd_1_1, wd_2_54, rfl, ⟨by decide +kernel, by decide +kernel, by decide +kernel⟩⟩
theorem kL_51 : aLV RL 51 RX12 yX12_accuse cX12_accuse 3 (some .int) 2 := ⟨wd_4_30, wd_4_31, wd_4_32, wd_1_8, wd_4_33, rfl, ⟨by decide +kernel, by decide +kernel, by decide +kernel⟩⟩
theorem kL_52 : aLV RL 52 RX11 yX11_about cX11_about 4 (some .int) 2 := ⟨wd_2_102, wd_2_103, wd_2_104, wd_1_1, wd_2_105, rfl, ⟨by decide +kernel, by decide +kernel, by decide +kernel⟩⟩
theorem kL_55 : aLV RL 55 RX12 yX12_about cX12_about 3 (some .int) 2 := ⟨wd_4_34, wd_4_35, wd_4_36, wd_1_8, wd_4_37, rfl, ⟨by decide +kernel, by decide +kernel, by decide +kernel⟩⟩
theorem kL_56 : aLV RL 56 RX11 yX11_as cX11_as 4 (some .int) 2 := ⟨wd_2_219, wd_2_220, wd_2_221, wd_1_1, wd_2_222, rfl, ⟨by decide +kernel, by decide +kernel, by decide +kernel⟩⟩
theorem kL_59 : aLV RL 59 RX12 yX12_as cX12_as 5 (some .int) 2 := ⟨wd_4_84, wd_4_85, wd_4_86, wd_1_8, wd_4_87, rfl, ⟨by decide +kernel, by decide +kernel, by decide +kernel⟩⟩
theorem kL_60 : aLV RL 60 RX11 yX11_lesson cX11_lesson 4 (some .int) 2 := ⟨wd_2_226, wd_2_227, wd_2_228, wd_1_1, wd_2_229, rfl, ⟨by decide +kernel, by decide +kernel, by decide +kernel⟩⟩
theorem kL_63 : aLV RL 63 RX12 yX12_lesson cX12_lesson 3 (some .int) 2 := ⟨wd_4_88, wd_4_89, wd_4_90, wd_1_8, wd_4_91, rfl, ⟨by decide +kernel, by decide +kernel, by decide +kernel⟩⟩
theorem kL_64 : aLV RL 64 RX11 yX11_unlearn cX11_unlearn 3 (some .int) 1 := ⟨wd_2_230, wd_2_231, wd_2_232, wd_1_1, wd_2_233, rfl, ⟨by decide +kernel, by decide +kernel, by decide +kernel⟩⟩
theorem kL_67 : aLV RL 67 RX12 yX12_unlearn cX12_unlearn 3 (some .int) 1 := ⟨wd_4_92, wd_4_93, wd_4_94, wd_1_8, wd_4_95, rfl, ⟨by decide +kernel, by decide +kernel, by decide +kernel⟩⟩
theorem kL_68 : aLV RL 68 RX11 yX11_brief cX11_brief 2 (some .int) 1 := ⟨wd_2_234, wd_2_235, wd_2_236, wd_1_1, wd_2_237, rfl, ⟨by decide +kernel, by decide +kernel, by decide +kernel⟩⟩
theorem kL_71 : aLV RL 71 RX12 yX12_brief cX12_brief 2 (some .int) 1 := ⟨wd_4_96, wd_4_97, wd_4_98, wd_1_8, wd_4_99, rfl, ⟨by decide +kernel, by decide +kernel, by decide +kernel⟩⟩
theorem kL_72 : aLV RL 72 RX11 yX11_hide cX11_hide 6 (some .int) 3 := ⟨wd_3_16, wd_3_17, wd_3_18, wd_1_1, wd_3_19, rfl, ⟨by decide +kernel, by decide +kernel, by decide +kernel⟩⟩
theorem kL_76 : aLV RL 76 RX12 yX12_hide cX12_hide 4 (some .int) 3 := ⟨wd_4_109, wd_4_110, wd_4_111, wd_1_8, wd_4_112, rfl, ⟨by decide +kernel, by decide +kernel, by decide +kernel⟩⟩
theorem kL_77 : aLV RL 77 RX11 yX11_hear cX11_hear 6 (some .int) 3 := ⟨wd_3_28, wd_3_29, wd_3_30, wd_1_1, wd_3_31, rfl, ⟨by decide +kernel, by decide +kernel, by decide +kernel⟩⟩
theorem kL_81 : aLV RL 81 RX12 yX12_hear cX12_hear 6 (some .int) 3 := ⟨wd_4_118, wd_4_119, wd_4_120, wd_1_8, wd_4_121, rfl, ⟨by decide +kernel, by decide +kernel, by decide +kernel⟩⟩
theorem kL_82 : aLV RL 82 RX11 yX11_forget cX11_forget 2 (some .int) 0 := ⟨wd_3_40, wd_3_41, wd_3_42, wd_1_1, wd_3_43, rfl, ⟨by decide +kernel, by decide +kernel, by decide +kernel⟩⟩
theorem kL_85 : aLV RL 85 RX12 yX12_forget cX12_forget 2 (some .int) 0 := ⟨wd_4_122, wd_4_123, wd_4_124, wd_1_8, wd_4_125, rfl, ⟨by decide +kernel, by decide +kernel, by decide +kernel⟩⟩
theorem kL_86 : aLV RL 86 RX11 yX11_trials cX11_trials 8 (some .int) 3 := ⟨wd_3_45, wd_3_46, wd_3_47, wd_1_1, wd_3_48, rfl, ⟨by decide +kernel, by decide +kernel, by decide +kernel⟩⟩
theorem kL_89 : aLV RL 89 RX12 yX12_trials cX12_trials 9 (some .int) 3 := ⟨wd_4_126, wd_4_127, wd_4_128, wd_1_8, wd_4_129, rfl, ⟨by decide +kernel, by decide +kernel, by decide +kernel⟩⟩
theorem kL_90 : aLV RL 90 RX11 yX11_image cX11_image 1 (some .int) 0 := ⟨wd_3_65, wd_3_66, wd_3_67, wd_1_1, wd_3_68, rfl, ⟨by decide +kernel, by decide +kernel, by decide +kernel⟩⟩
theorem kL_93 : aLV RL 93 RX12 yX12_image cX12_image 1 (some .int) 0 := ⟨wd_4_140, wd_4_141, wd_4_142, wd_1_8, wd_4_143, rfl, ⟨by decide +kernel, by decide +kernel, by decide +kernel⟩⟩
theorem kL_94 : aLV RL 94 RX11 yX11_restore cX11_restore 1 (some .int) 0 := ⟨wd_3_86, wd_3_87, wd_3_88, wd_1_1, wd_3_89, rfl, ⟨by decide +kernel, by decide +kernel, by decide +kernel⟩⟩
theorem kL_97 : aLV RL 97 RX12 yX12_restore cX12_restore 1 (some .int) 0 := ⟨wd_4_144, wd_4_145, wd_4_146, wd_1_8, wd_4_147, rfl, ⟨by decide +kernel, by decide +kernel, by decide +kernel⟩⟩
theorem kL_98 : aLV RL 98 RX11 yX11_count cX11_count 2 (some .int) 1 := ⟨wd_3_90, wd_3_91, wd_3_92, wd_1_1, wd_3_93, rfl, ⟨by decide +kernel, by decide +kernel, by decide +kernel⟩⟩
theorem kL_101 : aLV RL 101 RX12 yX12_count cX12_count 2 (some .int) 1 := ⟨wd_4_148, wd_4_149, wd_4_150, wd_1_8, wd_4_151, rfl, ⟨by decide +kernel, by decide +kernel, by decide +kernel⟩⟩
theorem kL_102 : aLV RL 102 RX11 yX11_digest cX11_digest 5 (some .long) 0 := ⟨wd_3_99, wd_3_100, wd_3_101, wd_1_1, wd_3_102, rfl, ⟨by decide +kernel, by decide +kernel, by decide +kernel⟩⟩
theorem kL_106 : aLV RL 106 RX12 yX12_digest cX12_digest 3 (some .long) 0 := ⟨wd_4_164, wd_4_165, wd_4_166, wd_1_8, wd_4_167, rfl, ⟨by decide +kernel, by decide +kernel, by decide +kernel⟩⟩
theorem kX0_1 : aLI RX0 1 yX4_init cX4_init 2 1 := ⟨wd_2_79, wd_2_67, wd_1_9, wd_2_68, rfl, ⟨by decide +kernel, by decide +kernel, by decide +kernel⟩⟩
theorem kX0_7 : aLV RX0 7 RX6 yX6_firstPlacesOf cX6_firstPlacesOf 5 (some .int) 1 := ⟨wd_2_163, wd_2_164, wd_2_165, wd_1_5, wd_2_166, rfl, ⟨by decide +kernel, by decide +kernel, by decide +kernel⟩⟩
theorem kX1_1 : aLI RX1 1 yX4_init cX4_init 2 1 := ⟨wd_2_87, wd_2_67, wd_1_9, wd_2_68, rfl, ⟨by decide +kernel, by decide +kernel, by decide +kernel⟩⟩
theorem kX1_7 : aLV RX1 7 RX6 yX6_placesOf cX6_placesOf 4 (some .int) 1 := ⟨wd_2_170, wd_2_171, wd_2_172, wd_1_5, wd_2_173, rfl, ⟨by decide +kernel, by decide +kernel, by decide +kernel⟩⟩
theorem kX1_13 : aLV RX1 13 RX6 yX6_placesBehind cX6_placesBehind 2 (some .int) 1 := ⟨wd_2_174, wd_2_175, wd_2_176, wd_1_5, wd_2_177, rfl, ⟨by decide +kernel, by decide +kernel, by decide +kernel⟩⟩
theorem kX10_1 : aLI RX10 1 yX7_init cX7_init 2 1 := ⟨wd_2_95, wd_2_64, wd_1_10, wd_2_65, rfl, ⟨by decide +kernel, by decide +kernel, by decide +kernel⟩⟩
theorem kX10_7 : aLSu RX10 7 yX7_placesAnyhow cX7_placesAnyhow 2 (some .int) 1 := ⟨wd_2_194, wd_4_174, wd_2_97, wd_2_189, wd_1_10, wd_2_190, by decide +kernel, by decide +kernel⟩
theorem kX10_13 : aLV RX10 13 RX6 yX6_placesOf cX6_placesOf 4 (some .int) 1 := ⟨wd_2_195, wd_2_171, wd_2_172, wd_1_5, wd_2_173, rfl, ⟨by decide +kernel, by decide +kernel, by decide +kernel⟩⟩
theorem kX11_1 : Cond.methodLink RX11 1 Lib.objectInit ∈ aWd := wd_1_22
theorem kX11_9 : aLIn RX11 9 yX5_init "ReadAloud" cX5_init 1 0 := ⟨List.mem_of_getElem? (i := 0) rfl, wd_1_28, wd_1_2, wd_1_29, rfl, ⟨by decide +kernel, by decide +kernel, by decide +kernel⟩⟩
theorem kX11_28 : aLIn RX11 28 yX8_init "ReadAloud" cX8_init 1 0 := ⟨List.mem_of_getElem? (i := 2) rfl, wd_1_63, wd_1_4, wd_1_64, rfl, ⟨by decide +kernel, by decide +kernel, by decide +kernel⟩⟩
theorem kX11_38 : aLIn RX11 38 yX6_init "ReadAloud" cX6_init 1 0 := ⟨List.mem_of_getElem? (i := 5) rfl, wd_1_69, wd_1_5, wd_1_70, rfl, ⟨by decide +kernel, by decide +kernel, by decide +kernel⟩⟩
theorem kX11_45 : aLIn RX11 45 yX2_init "ReadAloud" cX2_init 1 0 := ⟨List.mem_of_getElem? (i := 6) rfl, wd_1_125, wd_1_7, wd_1_126, rfl, ⟨by decide +kernel, by decide +kernel, by decide +kernel⟩⟩
theorem kX11_228 : aLI RX11 228 yX7_init cX7_init 2 1 := ⟨wd_2_63, wd_2_64, wd_1_10, wd_2_65, rfl, ⟨by decide +kernel, by decide +kernel, by decide +kernel⟩⟩
theorem kX11_233 : aLI RX11 233 yX0_init cX0_init 2 1 := ⟨wd_2_76, wd_2_77, wd_1_11, wd_2_78, rfl, ⟨by decide +kernel, by decide +kernel, by decide +kernel⟩⟩
theorem kX11_236 : aLI RX11 236 yX1_init cX1_init 2 1 := ⟨wd_2_84, wd_2_85, wd_1_12, wd_2_86, rfl, ⟨by decide +kernel, by decide +kernel, by decide +kernel⟩⟩
theorem kX11_239 : aLI RX11 239 yX10_init cX10_init 2 1 := ⟨wd_2_92, wd_2_93, wd_1_13, wd_2_94, rfl, ⟨by decide +kernel, by decide +kernel, by decide +kernel⟩⟩
theorem kX11_240 : aLI RX11 240 yX4_init cX4_init 2 1 := ⟨wd_2_99, wd_2_67, wd_1_9, wd_2_68, rfl, ⟨by decide +kernel, by decide +kernel, by decide +kernel⟩⟩
theorem kX11_93 : aLSt RX11 93 yX11_isWord cX11_isWord 1 (some .boolean) 1 := ⟨wd_2_9, wd_1_210, wd_1_1, wd_1_211, ⟨by decide +kernel, by decide +kernel, by decide +kernel⟩⟩
theorem kX11_106 : aLSt RX11 106 yX11_isKind cX11_isKind 1 (some .boolean) 1 := ⟨wd_2_55, wd_2_56, wd_1_1, wd_2_57, ⟨by decide +kernel, by decide +kernel, by decide +kernel⟩⟩
theorem kX11_111 : aLSt RX11 111 yX11_manOfKind cX11_manOfKind 2 (some (.object "ReadAloud$Man")) 2 := ⟨wd_2_58, wd_2_59, wd_1_1, wd_2_60, ⟨by decide +kernel, by decide +kernel, by decide +kernel⟩⟩
theorem kX11_132 : aLSt RX11 132 yJ6_bitCount_0f7a4 cJ6_bitCount_0f7a4 1 (some .int) 1 := ⟨wd_2_198, wd_2_199, wd_1_14, wd_2_200, ⟨by decide +kernel, by decide +kernel, by decide +kernel⟩⟩
theorem kX11_152 : aLSt RX11 152 yX11_isOfKind cX11_isOfKind 2 (some .boolean) 2 := ⟨wd_2_223, wd_2_224, wd_1_1, wd_2_225, ⟨by decide +kernel, by decide +kernel, by decide +kernel⟩⟩
theorem kX11_253 : Cond.methodLink RX11 253 Lib.Math.max.name ∈ aWd := wd_2_216
theorem kX11_50 : aLV RX11 50 RX5 yX5_add cX5_add 2 (some .boolean) 1 := ⟨wd_1_173, wd_1_174, wd_1_175, wd_1_2, wd_1_176, rfl, ⟨by decide +kernel, by decide +kernel, by decide +kernel⟩⟩
theorem kX11_54 : aLV RX11 54 RX5 yX5_size cX5_size 1 (some .int) 0 := ⟨wd_1_177, wd_1_178, wd_1_179, wd_1_2, wd_1_180, rfl, ⟨by decide +kernel, by decide +kernel, by decide +kernel⟩⟩
theorem kX11_58 : aLV RX11 58 RX5 yX5_clear cX5_clear 1 none 0 := ⟨wd_1_185, wd_1_186, wd_1_187, wd_1_2, wd_1_188, rfl, ⟨by decide +kernel, by decide +kernel, by decide +kernel⟩⟩
theorem kX11_61 : aLV RX11 61 RX5 yX5_faultPlace cX5_faultPlace 2 (some .int) 0 := ⟨wd_1_193, wd_1_194, wd_1_195, wd_1_2, wd_1_196, rfl, ⟨by decide +kernel, by decide +kernel, by decide +kernel⟩⟩
theorem kX11_64 : aLV RX11 64 RX5 yX5_isCourt cX5_isCourt 1 (some .boolean) 0 := ⟨wd_1_220, wd_1_221, wd_1_222, wd_1_2, wd_1_223, rfl, ⟨by decide +kernel, by decide +kernel, by decide +kernel⟩⟩
theorem kX11_68 : aLV RX11 68 RX11 yX11_readCourt cX11_readCourt 4 none 0 := ⟨wd_1_229, wd_1_231, (aWd_p (List.mem_append_left _ (List.mem_of_getElem? (i := 2) rfl))), wd_1_1, wd_1_232, rfl, ⟨by decide +kernel, by decide +kernel, by decide +kernel⟩⟩
theorem kX11_82 : aLV RX11 82 RX6 yX6_size cX6_size 1 (some .int) 0 := ⟨wd_2_14, wd_2_15, wd_2_16, wd_1_5, wd_2_17, rfl, ⟨by decide +kernel, by decide +kernel, by decide +kernel⟩⟩
theorem kX11_83 : aLV RX11 83 RX11 yX11_hasCourt cX11_hasCourt 1 (some .boolean) 0 := ⟨wd_2_22, wd_2_24, (aWd_p (List.mem_append_left _ (List.mem_of_getElem? (i := 3) rfl))), wd_1_1, wd_2_25, rfl, ⟨by decide +kernel, by decide +kernel, by decide +kernel⟩⟩
theorem kX11_86 : aLV RX11 86 RX6 yX6_has cX6_has 2 (some .boolean) 1 := ⟨wd_2_30, wd_2_31, wd_2_32, wd_1_5, wd_2_33, rfl, ⟨by decide +kernel, by decide +kernel, by decide +kernel⟩⟩
theorem kX11_89 : aLV RX11 89 RX6 yX6_at cX6_at 2 (some .int) 1 := ⟨wd_2_34, wd_2_35, wd_2_36, wd_1_5, wd_2_37, rfl, ⟨by decide +kernel, by decide +kernel, by decide +kernel⟩⟩
theorem kX11_96 : aLV RX11 96 RX6 yX6_set cX6_set 3 none 2 := ⟨wd_2_43, wd_2_44, wd_2_45, wd_1_5, wd_2_46, rfl, ⟨by decide +kernel, by decide +kernel, by decide +kernel⟩⟩
theorem kX11_118 : aLV RX11 118 RX11 yX11_manOf cX11_manOf 2 (some (.object "ReadAloud$Man")) 1 := ⟨wd_2_106, wd_2_108, (aWd_p (List.mem_append_left _ (List.mem_of_getElem? (i := 4) rfl))), wd_1_1, wd_2_109, rfl, ⟨by decide +kernel, by decide +kernel, by decide +kernel⟩⟩
theorem kX11_122_X0 : aLU RX11 122 RX0 RX4 yX4_kind yX0_kind cX0_kind 1 (some .int) 0 := ⟨wd_2_114, wd_2_117, wd_2_115, wd_2_118, wd_2_119, wd_1_11, wd_2_120, ⟨_, _, _, wd_2_130⟩, ⟨by decide +kernel, by decide +kernel, by decide +kernel⟩⟩
theorem kX11_122_X1 : aLU RX11 122 RX1 RX4 yX4_kind yX1_kind cX1_kind 1 (some .int) 0 := ⟨wd_2_114, wd_2_117, wd_2_115, wd_2_121, wd_2_122, wd_1_12, wd_2_123, ⟨_, _, _, wd_2_130⟩, ⟨by decide +kernel, by decide +kernel, by decide +kernel⟩⟩
theorem kX11_122_X4 : aLV RX11 122 RX4 yX4_kind cX4_kind 1 (some .int) 0 := ⟨wd_2_114, wd_2_115, wd_2_116, wd_1_9, wd_2_130, rfl, ⟨by decide +kernel, by decide +kernel, by decide +kernel⟩⟩
theorem kX11_122_X7 : aLU RX11 122 RX7 RX4 yX4_kind yX7_kind cX7_kind 1 (some .int) 0 := ⟨wd_2_114, wd_2_117, wd_2_115, wd_2_124, wd_2_125, wd_1_10, wd_2_126, ⟨_, _, _, wd_2_130⟩, ⟨by decide +kernel, by decide +kernel, by decide +kernel⟩⟩
theorem kX11_122_X10 : aLU RX11 122 RX10 RX4 yX4_kind yX10_kind cX10_kind 1 (some .int) 0 := ⟨wd_2_114, wd_2_117, wd_2_115, wd_2_127, wd_2_128, wd_1_13, wd_2_129, ⟨_, _, _, wd_2_130⟩, ⟨by decide +kernel, by decide +kernel, by decide +kernel⟩⟩
theorem kX11_125_X0 : aLU RX11 125 RX0 RX4 yX4_deed yX4_deed cX4_deed 1 (some .int) 0 := ⟨wd_2_131, wd_2_134, wd_2_132, wd_2_135, wd_2_132, wd_1_9, wd_2_139, ⟨_, _, _, wd_2_139⟩, ⟨by decide +kernel, by decide +kernel, by decide +kernel⟩⟩
theorem kX11_125_X1 : aLU RX11 125 RX1 RX4 yX4_deed yX4_deed cX4_deed 1 (some .int) 0 := ⟨wd_2_131, wd_2_134, wd_2_132, wd_2_136, wd_2_132, wd_1_9, wd_2_139, ⟨_, _, _, wd_2_139⟩, ⟨by decide +kernel, by decide +kernel, by decide +kernel⟩⟩
theorem kX11_125_X4 : aLV RX11 125 RX4 yX4_deed cX4_deed 1 (some .int) 0 := ⟨wd_2_131, wd_2_132, wd_2_133, wd_1_9, wd_2_139, rfl, ⟨by decide +kernel, by decide +kernel, by decide +kernel⟩⟩
theorem kX11_125_X7 : aLU RX11 125 RX7 RX4 yX4_deed yX4_deed cX4_deed 1 (some .int) 0 := ⟨wd_2_131, wd_2_134, wd_2_132, wd_2_137, wd_2_132, wd_1_9, wd_2_139, ⟨_, _, _, wd_2_139⟩, ⟨by decide +kernel, by decide +kernel, by decide +kernel⟩⟩
theorem kX11_125_X10 : aLU RX11 125 RX10 RX4 yX4_deed yX4_deed cX4_deed 1 (some .int) 0 := ⟨wd_2_131, wd_2_134, wd_2_132, wd_2_138, wd_2_132, wd_1_9, wd_2_139, ⟨_, _, _, wd_2_139⟩, ⟨by decide +kernel, by decide +kernel, by decide +kernel⟩⟩
theorem kX11_128 : aLV RX11 128 RX11 yX11_alteredBy cX11_alteredBy 3 (some .int) 2 := ⟨wd_2_140, wd_2_142, (aWd_p (List.mem_append_left _ (List.mem_of_getElem? (i := 6) rfl))), wd_1_1, wd_2_143, rfl, ⟨by decide +kernel, by decide +kernel, by decide +kernel⟩⟩
theorem kX11_137 : aLV RX11 137 RX11 yX11_hiddenBy cX11_hiddenBy 2 (some .int) 1 := ⟨wd_2_148, wd_2_150, (aWd_p (List.mem_append_left _ (List.mem_of_getElem? (i := 8) rfl))), wd_1_1, wd_2_151, rfl, ⟨by decide +kernel, by decide +kernel, by decide +kernel⟩⟩
theorem kX11_144 : aLV RX11 144 RX3 yX3_deedsLeft cX3_deedsLeft 4 (some .int) 1 := ⟨wd_2_204, wd_2_205, wd_2_206, wd_1_6, wd_2_207, rfl, ⟨by decide +kernel, by decide +kernel, by decide +kernel⟩⟩
theorem kX11_149 : aLV RX11 149 RX11 yX11_placeToListen cX11_placeToListen 8 (some .int) 1 := ⟨wd_2_208, wd_2_210, (aWd_p (List.mem_append_left _ (List.mem_of_getElem? (i := 10) rfl))), wd_1_1, wd_2_211, rfl, ⟨by decide +kernel, by decide +kernel, by decide +kernel⟩⟩
theorem kX11_156 : aLV RX11 156 RX11 yX11_isAccused cX11_isAccused 2 (some .boolean) 1 := ⟨wd_2_110, wd_2_112, (aWd_p (List.mem_append_left _ (List.mem_of_getElem? (i := 5) rfl))), wd_1_1, wd_2_113, rfl, ⟨by decide +kernel, by decide +kernel, by decide +kernel⟩⟩
theorem kX11_162 : aLV RX11 162 RX2 yX2_seek cX2_seek 4 none 1 := ⟨wd_2_238, wd_2_239, wd_3_0, wd_1_7, wd_3_1, rfl, ⟨by decide +kernel, by decide +kernel, by decide +kernel⟩⟩
theorem kX11_166 : aLV RX11 166 RX2 yX2_size cX2_size 1 (some .int) 0 := ⟨wd_3_8, wd_3_9, wd_3_10, wd_1_7, wd_3_11, rfl, ⟨by decide +kernel, by decide +kernel, by decide +kernel⟩⟩
theorem kX11_167 : aLV RX11 167 RX2 yX2_at cX2_at 2 (some .int) 1 := ⟨wd_3_12, wd_3_13, wd_3_14, wd_1_7, wd_3_15, rfl, ⟨by decide +kernel, by decide +kernel, by decide +kernel⟩⟩
theorem kX11_168 : aLV RX11 168 RX11 yX11_deedOf cX11_deedOf 3 (some .int) 1 := ⟨wd_2_144, wd_2_146, (aWd_p (List.mem_append_left _ (List.mem_of_getElem? (i := 7) rfl))), wd_1_1, wd_2_147, rfl, ⟨by decide +kernel, by decide +kernel, by decide +kernel⟩⟩
theorem kX11_171 : aLV RX11 171 RX11 yX11_wouldAlter cX11_wouldAlter 7 (some .int) 4 := ⟨wd_2_152, wd_2_154, (aWd_p (List.mem_append_left _ (List.mem_of_getElem? (i := 9) rfl))), wd_1_1, wd_2_155, rfl, ⟨by decide +kernel, by decide +kernel, by decide +kernel⟩⟩
theorem kX11_175 : aLV RX11 175 RX11 yX11_wordsToHide cX11_wordsToHide 6 (some .int) 2 := ⟨wd_3_20, wd_3_22, (aWd_p (List.mem_append_left _ (List.mem_of_getElem? (i := 12) rfl))), wd_1_1, wd_3_23, rfl, ⟨by decide +kernel, by decide +kernel, by decide +kernel⟩⟩
theorem kX11_179 : aLV RX11 179 RX6 yX6_placesOf cX6_placesOf 4 (some .int) 1 := ⟨wd_2_197, wd_2_171, wd_2_172, wd_1_5, wd_2_173, rfl, ⟨by decide +kernel, by decide +kernel, by decide +kernel⟩⟩
theorem kX11_182 : aLV RX11 182 RX11 yX11_deedsAltering cX11_deedsAltering 6 (some .int) 2 := ⟨wd_2_212, wd_2_214, (aWd_p (List.mem_append_left _ (List.mem_of_getElem? (i := 11) rfl))), wd_1_1, wd_2_215, rfl, ⟨by decide +kernel, by decide +kernel, by decide +kernel⟩⟩
theorem kX11_185 : aLV RX11 185 RX3 yX3_add cX3_add 3 (some .boolean) 2 := ⟨wd_3_32, wd_3_33, wd_3_34, wd_1_6, wd_3_35, rfl, ⟨by decide +kernel, by decide +kernel, by decide +kernel⟩⟩
theorem kX11_188 : aLV RX11 188 RX3 yX3_size cX3_size 1 (some .int) 0 := ⟨wd_3_36, wd_3_37, wd_3_38, wd_1_6, wd_3_39, rfl, ⟨by decide +kernel, by decide +kernel, by decide +kernel⟩⟩
theorem kX11_189 : aLV RX11 189 RX3 yX3_clear cX3_clear 1 none 0 := ⟨wd_3_44, wd_2_2, wd_2_3, wd_1_6, wd_2_4, rfl, ⟨by decide +kernel, by decide +kernel, by decide +kernel⟩⟩
theorem kX11_190 : aLV RX11 190 RX11 yX11_drawSheet cX11_drawSheet 4 (some .int) 1 := ⟨wd_3_49, wd_3_51, (aWd_p (List.mem_append_left _ (List.mem_of_getElem? (i := 14) rfl))), wd_1_1, wd_3_52, rfl, ⟨by decide +kernel, by decide +kernel, by decide +kernel⟩⟩
theorem kX11_193 : aLV RX11 193 RX11 yX11_hangingAt cX11_hangingAt 4 (some .int) 1 := ⟨wd_3_57, wd_3_59, (aWd_p (List.mem_append_left _ (List.mem_of_getElem? (i := 15) rfl))), wd_1_1, wd_3_60, rfl, ⟨by decide +kernel, by decide +kernel, by decide +kernel⟩⟩
theorem kX11_197 : aLV RX11 197 RX11 yX11_allAltering cX11_allAltering 4 (some .int) 1 := ⟨wd_3_61, wd_3_63, (aWd_p (List.mem_append_right _ (List.mem_append_left _ (List.mem_of_getElem? (i := 0) rfl)))), wd_1_1, wd_3_64, rfl, ⟨by decide +kernel, by decide +kernel, by decide +kernel⟩⟩
theorem kX11_200 : aLV RX11 200 RX8 yX8_copyFrom cX8_copyFrom 2 none 1 := ⟨wd_3_69, wd_3_70, wd_3_71, wd_1_4, wd_3_72, rfl, ⟨by decide +kernel, by decide +kernel, by decide +kernel⟩⟩
theorem kX11_204 : aLV RX11 204 RX6 yX6_unlikeWords cX6_unlikeWords 3 (some .int) 0 := ⟨wd_3_94, wd_3_95, wd_3_96, wd_1_5, wd_3_97, rfl, ⟨by decide +kernel, by decide +kernel, by decide +kernel⟩⟩
theorem kX11_211 : aLV RX11 211 RX11 yX11_near cX11_near 2 (some .int) 1 := ⟨wd_3_105, wd_2_19, wd_2_20, wd_1_1, wd_2_21, rfl, ⟨by decide +kernel, by decide +kernel, by decide +kernel⟩⟩
theorem kX11_213 : aLV RX11 213 RX11 yX11_about cX11_about 4 (some .int) 2 := ⟨wd_3_106, wd_2_103, wd_2_104, wd_1_1, wd_2_105, rfl, ⟨by decide +kernel, by decide +kernel, by decide +kernel⟩⟩
theorem kX11_216 : aLV RX11 216 RX11 yX11_hide cX11_hide 6 (some .int) 3 := ⟨wd_3_107, wd_3_17, wd_3_18, wd_1_1, wd_3_19, rfl, ⟨by decide +kernel, by decide +kernel, by decide +kernel⟩⟩
theorem kX11_220 : aLV RX11 220 RX5 yX5_codeAt cX5_codeAt 2 (some .int) 1 := ⟨wd_2_5, wd_2_6, wd_2_7, wd_1_2, wd_2_8, rfl, ⟨by decide +kernel, by decide +kernel, by decide +kernel⟩⟩
theorem kX11_223 : aLV RX11 223 RX11 yX11_count cX11_count 2 (some .int) 1 := ⟨wd_3_108, wd_3_91, wd_3_92, wd_1_1, wd_3_93, rfl, ⟨by decide +kernel, by decide +kernel, by decide +kernel⟩⟩
theorem kX11_241 : aLV RX11 241 RX8 yX8_begin cX8_begin 1 none 0 := ⟨wd_1_233, wd_1_234, wd_1_235, wd_1_4, wd_1_236, rfl, ⟨by decide +kernel, by decide +kernel, by decide +kernel⟩⟩
theorem kX11_244 : aLV RX11 244 RX6 yX6_add cX6_add 2 none 1 := ⟨wd_2_10, wd_2_11, wd_2_12, wd_1_5, wd_2_13, rfl, ⟨by decide +kernel, by decide +kernel, by decide +kernel⟩⟩
theorem kX11_246_X0 : aLU RX11 246 RX0 RX4 yX4_placesByDeed yX0_placesByDeed cX0_placesByDeed 3 (some .int) 2 := ⟨wd_2_156, wd_2_159, wd_2_157, wd_2_160, wd_2_161, wd_1_11, wd_2_162, ⟨_, _, _, wd_2_180⟩, ⟨by decide +kernel, by decide +kernel, by decide +kernel⟩⟩
theorem kX11_246_X1 : aLU RX11 246 RX1 RX4 yX4_placesByDeed yX1_placesByDeed cX1_placesByDeed 3 (some .int) 2 := ⟨wd_2_156, wd_2_159, wd_2_157, wd_2_167, wd_2_168, wd_1_12, wd_2_169, ⟨_, _, _, wd_2_180⟩, ⟨by decide +kernel, by decide +kernel, by decide +kernel⟩⟩
theorem kX11_246_X4 : aLV RX11 246 RX4 yX4_placesByDeed cX4_placesByDeed 3 (some .int) 2 := ⟨wd_2_156, wd_2_157, wd_2_158, wd_1_9, wd_2_180, rfl, ⟨by decide +kernel, by decide +kernel, by decide +kernel⟩⟩
theorem kX11_246_X7 : aLU RX11 246 RX7 RX4 yX4_placesByDeed yX4_placesByDeed cX4_placesByDeed 3 (some .int) 2 := ⟨wd_2_156, wd_2_159, wd_2_157, wd_2_178, wd_2_157, wd_1_9, wd_2_180, ⟨_, _, _, wd_2_180⟩, ⟨by decide +kernel, by decide +kernel, by decide +kernel⟩⟩
theorem kX11_246_X10 : aLU RX11 246 RX10 RX4 yX4_placesByDeed yX4_placesByDeed cX4_placesByDeed 3 (some .int) 2 := ⟨wd_2_156, wd_2_159, wd_2_157, wd_2_179, wd_2_157, wd_1_9, wd_2_180, ⟨_, _, _, wd_2_180⟩, ⟨by decide +kernel, by decide +kernel, by decide +kernel⟩⟩
theorem kX11_250_X0 : aLU RX11 250 RX0 RX4 yX4_placesAnyhow yX4_placesAnyhow cX4_placesAnyhow 2 (some .int) 1 := ⟨wd_2_182, wd_2_185, wd_2_183, wd_2_186, wd_2_183, wd_1_9, wd_2_196, ⟨_, _, _, wd_2_196⟩, ⟨by decide +kernel, by decide +kernel, by decide +kernel⟩⟩
theorem kX11_250_X1 : aLU RX11 250 RX1 RX4 yX4_placesAnyhow yX4_placesAnyhow cX4_placesAnyhow 2 (some .int) 1 := ⟨wd_2_182, wd_2_185, wd_2_183, wd_2_187, wd_2_183, wd_1_9, wd_2_196, ⟨_, _, _, wd_2_196⟩, ⟨by decide +kernel, by decide +kernel, by decide +kernel⟩⟩
theorem kX11_250_X4 : aLV RX11 250 RX4 yX4_placesAnyhow cX4_placesAnyhow 2 (some .int) 1 := ⟨wd_2_182, wd_2_183, wd_2_184, wd_1_9, wd_2_196, rfl, ⟨by decide +kernel, by decide +kernel, by decide +kernel⟩⟩
theorem kX11_250_X7 : aLU RX11 250 RX7 RX4 yX4_placesAnyhow yX7_placesAnyhow cX7_placesAnyhow 2 (some .int) 1 := ⟨wd_2_182, wd_2_185, wd_2_183, wd_2_188, wd_2_189, wd_1_10, wd_2_190, ⟨_, _, _, wd_2_196⟩, ⟨by decide +kernel, by decide +kernel, by decide +kernel⟩⟩
theorem kX11_250_X10 : aLU RX11 250 RX10 RX4 yX4_placesAnyhow yX10_placesAnyhow cX10_placesAnyhow 2 (some .int) 1 := ⟨wd_2_182, wd_2_185, wd_2_183, wd_2_191, wd_2_192, wd_1_13, wd_2_193, ⟨_, _, _, wd_2_196⟩, ⟨by decide +kernel, by decide +kernel, by decide +kernel⟩⟩
theorem kX11_258 : aLV RX11 258 RX11 yX11_heaviestWord cX11_heaviestWord 6 (some .int) 1 := ⟨wd_3_24, wd_3_26, (aWd_p (List.mem_append_left _ (List.mem_of_getElem? (i := 13) rfl))), wd_1_1, wd_3_27, rfl, ⟨by decide +kernel, by decide +kernel, by decide +kernel⟩⟩
theorem kX11_261 : aLV RX11 261 RX6 yX6_clear cX6_clear 1 none 0 := ⟨wd_3_53, wd_1_238, wd_1_239, wd_1_5, wd_2_0, rfl, ⟨by decide +kernel, by decide +kernel, by decide +kernel⟩⟩
theorem kX12_1 : Cond.methodLink RX12 1 Lib.objectInit ∈ aWd := wd_3_114
theorem kX12_58 : aLSt RX12 58 yX12_in cX12_in 6 (some .boolean) 3 := ⟨wd_3_217, wd_3_218, wd_1_8, wd_3_219, ⟨by decide +kernel, by decide +kernel, by decide +kernel⟩⟩
theorem kX12_87 : aLSt RX12 87 yX12_copy cX12_copy 3 none 2 := ⟨wd_4_1, wd_4_2, wd_1_8, wd_4_3, ⟨by decide +kernel, by decide +kernel, by decide +kernel⟩⟩
theorem kX12_121 : aLSt RX12 121 yX12_stands cX12_stands 4 (some .boolean) 2 := ⟨wd_4_62, wd_4_63, wd_1_8, wd_4_64, ⟨by decide +kernel, by decide +kernel, by decide +kernel⟩⟩
theorem kX12_137 : aLSt RX12 137 yX12_ones cX12_ones 3 (some .int) 1 := ⟨wd_4_65, wd_4_66, wd_1_8, wd_4_67, ⟨by decide +kernel, by decide +kernel, by decide +kernel⟩⟩
theorem kX12_76 : aLV RX12 76 RX12 yX12_go cX12_go 4 (some .boolean) 1 := ⟨wd_3_232, wd_3_234, (aWd_p (List.mem_append_right _ (List.mem_append_left _ (List.mem_of_getElem? (i := 2) rfl)))), wd_1_8, wd_3_235, rfl, ⟨by decide +kernel, by decide +kernel, by decide +kernel⟩⟩
theorem kX12_80 : aLV RX12 80 RX12 yX12_faultOf cX12_faultOf 2 (some .int) 0 := ⟨wd_3_228, wd_3_230, (aWd_p (List.mem_append_right _ (List.mem_append_left _ (List.mem_of_getElem? (i := 1) rfl)))), wd_1_8, wd_3_231, rfl, ⟨by decide +kernel, by decide +kernel, by decide +kernel⟩⟩
theorem kX12_106 : aLV RX12 106 RX12 yX12_lacks cX12_lacks 1 (some .boolean) 0 := ⟨wd_4_8, wd_4_10, (aWd_p (List.mem_append_right _ (List.mem_append_left _ (List.mem_of_getElem? (i := 3) rfl)))), wd_1_8, wd_4_11, rfl, ⟨by decide +kernel, by decide +kernel, by decide +kernel⟩⟩
theorem kX12_112 : aLV RX12 112 RX12 yX12_isPlace cX12_isPlace 2 (some .boolean) 1 := ⟨wd_4_17, wd_4_19, (aWd_p (List.mem_append_right _ (List.mem_append_left _ (List.mem_of_getElem? (i := 4) rfl)))), wd_1_8, wd_4_20, rfl, ⟨by decide +kernel, by decide +kernel, by decide +kernel⟩⟩
theorem kX12_117 : aLV RX12 117 RX12 yX12_isNear cX12_isNear 3 (some .boolean) 2 := ⟨wd_4_58, wd_4_60, (aWd_p (List.mem_append_right _ (List.mem_append_left _ (List.mem_of_getElem? (i := 10) rfl)))), wd_1_8, wd_4_61, rfl, ⟨by decide +kernel, by decide +kernel, by decide +kernel⟩⟩
theorem kX12_125 : aLV RX12 125 RX12 yX12_alters cX12_alters 7 (some .boolean) 5 := ⟨wd_4_54, wd_4_56, (aWd_p (List.mem_append_right _ (List.mem_append_left _ (List.mem_of_getElem? (i := 9) rfl)))), wd_1_8, wd_4_57, rfl, ⟨by decide +kernel, by decide +kernel, by decide +kernel⟩⟩
theorem kX12_129 : aLV RX12 129 RX12 yX12_altersOn cX12_altersOn 8 (some .int) 5 := ⟨wd_4_50, wd_4_52, (aWd_p (List.mem_append_right _ (List.mem_append_left _ (List.mem_of_getElem? (i := 8) rfl)))), wd_1_8, wd_4_53, rfl, ⟨by decide +kernel, by decide +kernel, by decide +kernel⟩⟩
theorem kX12_133 : aLV RX12 133 RX12 yX12_altersOf cX12_altersOf 2 (some .int) 1 := ⟨wd_4_46, wd_4_48, (aWd_p (List.mem_append_right _ (List.mem_append_left _ (List.mem_of_getElem? (i := 7) rfl)))), wd_1_8, wd_4_49, rfl, ⟨by decide +kernel, by decide +kernel, by decide +kernel⟩⟩
theorem kX12_140 : aLV RX12 140 RX12 yX12_hangs cX12_hangs 2 (some .boolean) 1 := ⟨wd_4_68, wd_4_70, (aWd_p (List.mem_append_right _ (List.mem_append_left _ (List.mem_of_getElem? (i := 11) rfl)))), wd_1_8, wd_4_71, rfl, ⟨by decide +kernel, by decide +kernel, by decide +kernel⟩⟩
theorem kX12_143 : aLV RX12 143 RX12 yX12_whichOf cX12_whichOf 6 (some .int) 1 := ⟨wd_4_72, wd_4_74, (aWd_p (List.mem_append_right _ (List.mem_append_left _ (List.mem_of_getElem? (i := 12) rfl)))), wd_1_8, wd_4_75, rfl, ⟨by decide +kernel, by decide +kernel, by decide +kernel⟩⟩
theorem kX12_146 : aLV RX12 146 RX12 yX12_listenOf cX12_listenOf 8 (some .int) 1 := ⟨wd_4_80, wd_4_82, (aWd_p (List.mem_append_right _ (List.mem_append_left _ (List.mem_of_getElem? (i := 14) rfl)))), wd_1_8, wd_4_83, rfl, ⟨by decide +kernel, by decide +kernel, by decide +kernel⟩⟩
theorem kX12_149 : aLV RX12 149 RX12 yX12_isAccused cX12_isAccused 2 (some .boolean) 1 := ⟨wd_4_38, wd_4_40, (aWd_p (List.mem_append_right _ (List.mem_append_left _ (List.mem_of_getElem? (i := 5) rfl)))), wd_1_8, wd_4_41, rfl, ⟨by decide +kernel, by decide +kernel, by decide +kernel⟩⟩
theorem kX12_152 : aLV RX12 152 RX12 yX12_tell cX12_tell 3 (some .int) 2 := ⟨wd_4_42, wd_4_44, (aWd_p (List.mem_append_right _ (List.mem_append_left _ (List.mem_of_getElem? (i := 6) rfl)))), wd_1_8, wd_4_45, rfl, ⟨by decide +kernel, by decide +kernel, by decide +kernel⟩⟩
theorem kX12_156 : aLV RX12 156 RX12 yX12_isApart cX12_isApart 5 (some .boolean) 1 := ⟨wd_4_105, wd_4_107, (aWd_p (List.mem_append_right _ (List.mem_append_right _ (List.mem_of_getElem? (i := 0) rfl)))), wd_1_8, wd_4_108, rfl, ⟨by decide +kernel, by decide +kernel, by decide +kernel⟩⟩
theorem kX12_164 : aLV RX12 164 RX12 yX12_briefOf cX12_briefOf 6 (some .int) 1 := ⟨wd_4_101, wd_4_103, (aWd_p (List.mem_append_right _ (List.mem_append_left _ (List.mem_of_getElem? (i := 15) rfl)))), wd_1_8, wd_4_104, rfl, ⟨by decide +kernel, by decide +kernel, by decide +kernel⟩⟩
theorem kX12_169 : aLV RX12 169 RX12 yX12_hideOf cX12_hideOf 9 (some .int) 3 := ⟨wd_4_114, wd_4_116, (aWd_p (List.mem_append_right _ (List.mem_append_right _ (List.mem_of_getElem? (i := 1) rfl)))), wd_1_8, wd_4_117, rfl, ⟨by decide +kernel, by decide +kernel, by decide +kernel⟩⟩
theorem kX12_173 : aLV RX12 173 RX12 yX12_isHeard cX12_isHeard 6 (some .boolean) 3 := ⟨wd_4_76, wd_4_78, (aWd_p (List.mem_append_right _ (List.mem_append_left _ (List.mem_of_getElem? (i := 13) rfl)))), wd_1_8, wd_4_79, rfl, ⟨by decide +kernel, by decide +kernel, by decide +kernel⟩⟩
theorem kX12_191 : aLV RX12 191 RX12 yX12_draw cX12_draw 2 (some .int) 1 := ⟨wd_4_132, wd_4_134, (aWd_p (List.mem_append_right _ (List.mem_append_right _ (List.mem_of_getElem? (i := 2) rfl)))), wd_1_8, wd_4_135, rfl, ⟨by decide +kernel, by decide +kernel, by decide +kernel⟩⟩
theorem kX12_206 : aLV RX12 206 RX12 yX12_hangMany cX12_hangMany 3 (some .int) 0 := ⟨wd_4_156, wd_4_158, (aWd_p (List.mem_append_right _ (List.mem_append_right _ (List.mem_of_getElem? (i := 4) rfl)))), wd_1_8, wd_4_159, rfl, ⟨by decide +kernel, by decide +kernel, by decide +kernel⟩⟩
theorem kX12_209 : aLV RX12 209 RX12 yX12_unlike cX12_unlike 3 (some .int) 0 := ⟨wd_4_160, wd_4_162, (aWd_p (List.mem_append_right _ (List.mem_append_right _ (List.mem_of_getElem? (i := 5) rfl)))), wd_1_8, wd_4_163, rfl, ⟨by decide +kernel, by decide +kernel, by decide +kernel⟩⟩
theorem kX12_212 : aLV RX12 212 RX12 yX12_countOf cX12_countOf 2 (some .int) 1 := ⟨wd_4_152, wd_4_154, (aWd_p (List.mem_append_right _ (List.mem_append_right _ (List.mem_of_getElem? (i := 3) rfl)))), wd_1_8, wd_4_155, rfl, ⟨by decide +kernel, by decide +kernel, by decide +kernel⟩⟩
theorem kX12_223 : aLV RX12 223 RX12 yX12_say cX12_say 3 none 1 := ⟨wd_4_169, wd_4_171, (aWd_p (List.mem_append_right _ (List.mem_append_right _ (List.mem_of_getElem? (i := 6) rfl)))), wd_1_8, wd_4_172, rfl, ⟨by decide +kernel, by decide +kernel, by decide +kernel⟩⟩
theorem kX2_3 : Cond.methodLink RX2 3 Lib.objectInit ∈ aWd := wd_1_127
theorem kX2_22 : aLSt RX2 22 yX2_pairsToldBy cX2_pairsToldBy 6 (some .int) 2 := ⟨wd_3_2, wd_3_3, wd_1_7, wd_3_4, ⟨by decide +kernel, by decide +kernel, by decide +kernel⟩⟩
theorem kX2_26 : aLSt RX2 26 yX2_firstSheet cX2_firstSheet 7 (some .int) 5 := ⟨wd_3_5, wd_3_6, wd_1_7, wd_3_7, ⟨by decide +kernel, by decide +kernel, by decide +kernel⟩⟩
theorem kX3_3 : Cond.methodLink RX3 3 Lib.objectInit ∈ aWd := wd_1_84
theorem kX3_22 : Cond.methodLink RX3 22 arraycopyName ∈ aWd := wd_3_84
theorem kX4_1 : Cond.methodLink RX4 1 Lib.objectInit ∈ aWd := wd_2_69
theorem kX4_13 : aLV RX4 13 RX6 yX6_placesOf cX6_placesOf 4 (some .int) 1 := ⟨wd_2_181, wd_2_171, wd_2_172, wd_1_5, wd_2_173, rfl, ⟨by decide +kernel, by decide +kernel, by decide +kernel⟩⟩
theorem kX5_3 : Cond.methodLink RX5 3 Lib.objectInit ∈ aWd := wd_1_30
theorem kX5_17 : aLIn RX5 17 yX9_init "ReadAloud" cX9_init 1 0 := ⟨List.mem_of_getElem? (i := 1) rfl, wd_1_34, wd_1_3, wd_1_35, rfl, ⟨by decide +kernel, by decide +kernel, by decide +kernel⟩⟩
theorem kX5_26 : aLV RX5 26 RX9 yX9_begin cX9_begin 1 none 0 := ⟨wd_1_197, wd_1_198, wd_1_199, wd_1_3, wd_1_200, rfl, ⟨by decide +kernel, by decide +kernel, by decide +kernel⟩⟩
theorem kX5_29 : aLV RX5 29 RX9 yX9_passes cX9_passes 3 (some .boolean) 1 := ⟨wd_1_205, wd_1_206, wd_1_207, wd_1_3, wd_1_208, rfl, ⟨by decide +kernel, by decide +kernel, by decide +kernel⟩⟩
theorem kX5_33 : aLV RX5 33 RX5 yX5_faultPlace cX5_faultPlace 2 (some .int) 0 := ⟨wd_1_224, wd_1_194, wd_1_195, wd_1_2, wd_1_196, rfl, ⟨by decide +kernel, by decide +kernel, by decide +kernel⟩⟩
theorem kX5_37 : aLV RX5 37 RX9 yX9_isWhole cX9_isWhole 1 (some .boolean) 0 := ⟨wd_1_225, wd_1_226, wd_1_227, wd_1_3, wd_1_228, rfl, ⟨by decide +kernel, by decide +kernel, by decide +kernel⟩⟩
theorem kX6_3 : Cond.methodLink RX6 3 Lib.objectInit ∈ aWd := wd_1_71
theorem kX6_23 : Cond.methodLink RX6 23 arraycopyName ∈ aWd := wd_3_77
theorem kX6_29 : aLSt RX6 29 yJ6_bitCount_0f7a4 cJ6_bitCount_0f7a4 1 (some .int) 1 := ⟨wd_3_98, wd_2_199, wd_1_14, wd_2_200, ⟨by decide +kernel, by decide +kernel, by decide +kernel⟩⟩
theorem kX6_19 : aLV RX6 19 RX6 yX6_has cX6_has 2 (some .boolean) 1 := ⟨wd_2_38, wd_2_31, wd_2_32, wd_1_5, wd_2_33, rfl, ⟨by decide +kernel, by decide +kernel, by decide +kernel⟩⟩
theorem kX7_1 : aLI RX7 1 yX4_init cX4_init 2 1 := ⟨wd_2_66, wd_2_67, wd_1_9, wd_2_68, rfl, ⟨by decide +kernel, by decide +kernel, by decide +kernel⟩⟩
theorem kX8_3 : Cond.methodLink RX8 3 Lib.objectInit ∈ aWd := wd_1_65
theorem kX8_11 : aLIn RX8 11 yX6_init "ReadAloud" cX6_init 1 0 := ⟨List.mem_of_getElem? (i := 3) rfl, wd_1_69, wd_1_5, wd_1_70, rfl, ⟨by decide +kernel, by decide +kernel, by decide +kernel⟩⟩
theorem kX8_20 : aLIn RX8 20 yX3_init "ReadAloud" cX3_init 1 0 := ⟨List.mem_of_getElem? (i := 4) rfl, wd_1_82, wd_1_6, wd_1_83, rfl, ⟨by decide +kernel, by decide +kernel, by decide +kernel⟩⟩
theorem kX8_50 : Cond.methodLink RX8 50 arraycopyName ∈ aWd := wd_3_85
theorem kX8_29 : aLV RX8 29 RX6 yX6_clear cX6_clear 1 none 0 := ⟨wd_1_237, wd_1_238, wd_1_239, wd_1_5, wd_2_0, rfl, ⟨by decide +kernel, by decide +kernel, by decide +kernel⟩⟩
theorem kX8_32 : aLV RX8 32 RX3 yX3_clear cX3_clear 1 none 0 := ⟨wd_2_1, wd_2_2, wd_2_3, wd_1_6, wd_2_4, rfl, ⟨by decide +kernel, by decide +kernel, by decide +kernel⟩⟩
theorem kX8_43 : aLV RX8 43 RX6 yX6_copyFrom cX6_copyFrom 2 none 1 := ⟨wd_3_73, wd_3_74, wd_3_75, wd_1_5, wd_3_76, rfl, ⟨by decide +kernel, by decide +kernel, by decide +kernel⟩⟩
theorem kX8_47 : aLV RX8 47 RX3 yX3_copyFrom cX3_copyFrom 2 none 1 := ⟨wd_3_80, wd_3_81, wd_3_82, wd_1_6, wd_3_83, rfl, ⟨by decide +kernel, by decide +kernel, by decide +kernel⟩⟩
theorem kX9_3 : Cond.methodLink RX9 3 Lib.objectInit ∈ aWd := wd_1_36
theorem kX9_15 : aLSn RX9 15 yX11_isWord "ReadAloud" cX11_isWord 1 (some .boolean) 1 := ⟨List.mem_of_getElem? (i := 7) rfl, wd_1_210, wd_1_1, wd_1_211, ⟨by decide +kernel, by decide +kernel, by decide +kernel⟩⟩
theorem kX9_9 : aLV RX9 9 RX9 yX9_enter cX9_enter 2 none 1 := ⟨wd_1_201, wd_1_203, (aWd_p (List.mem_append_left _ (List.mem_of_getElem? (i := 0) rfl))), wd_1_3, wd_1_204, rfl, ⟨by decide +kernel, by decide +kernel, by decide +kernel⟩⟩
theorem kX9_19 : aLV RX9 19 RX9 yX9_passesWord cX9_passesWord 3 (some .boolean) 1 := ⟨wd_1_212, wd_1_214, (aWd_p (List.mem_append_left _ (List.mem_of_getElem? (i := 1) rfl))), wd_1_3, wd_1_215, rfl, ⟨by decide +kernel, by decide +kernel, by decide +kernel⟩⟩
theorem lJ6_265 : Cond.constant RJ6 265 (1431655765) ∈ aWd := wd_2_201
theorem lJ6_266 : Cond.constant RJ6 266 (858993459) ∈ aWd := wd_2_202
theorem lJ6_267 : Cond.constant RJ6 267 (252645135) ∈ aWd := wd_2_203
theorem lL_7 : Cond.classLink RL 7 RX11 ∈ aWd := wd_1_17
theorem lL_10 : Cond.classLink RL 10 RX12 ∈ aWd := wd_3_109
theorem lX11_7 : Cond.classLink RX11 7 RX5 ∈ aWd := wd_1_25
theorem lX11_20 : Cond.classLink RX11 20 RX4 ∈ aWd := wd_1_58
theorem lX11_26 : Cond.classLink RX11 26 RX8 ∈ aWd := wd_1_60
theorem lX11_36 : Cond.classLink RX11 36 RX6 ∈ aWd := wd_1_120
theorem lX11_43 : Cond.classLink RX11 43 RX2 ∈ aWd := wd_1_122
theorem lX11_207 : Cond.constantLong RX11 207 (1019) ∈ aWd := wd_3_103
theorem lX11_209 : Cond.constantLong RX11 209 (31) ∈ aWd := wd_3_104
theorem lX11_226 : Cond.classLink RX11 226 RX7 ∈ aWd := wd_2_61
theorem lX11_231 : Cond.classLink RX11 231 RX0 ∈ aWd := wd_2_74
theorem lX11_234 : Cond.classLink RX11 234 RX1 ∈ aWd := wd_2_82
theorem lX11_237 : Cond.classLink RX11 237 RX10 ∈ aWd := wd_2_90
theorem lX11_262 : Cond.constant RX11 262 (1103515245) ∈ aWd := wd_3_54
theorem lX11_263 : Cond.constant RX11 263 (2147483647) ∈ aWd := wd_3_55
theorem lX11_264 : Cond.constant RX11 264 (65536) ∈ aWd := wd_3_56
theorem lX12_56 : Cond.constantLong RX12 56 (126) ∈ aWd := wd_3_216
theorem lX12_74 : Cond.constantLong RX12 74 (7) ∈ aWd := wd_3_236
theorem lX12_110 : Cond.constantLong RX12 110 (4) ∈ aWd := wd_4_12
theorem lX12_115 : Cond.constantLong RX12 115 (10) ∈ aWd := wd_4_29
theorem lX12_159 : Cond.constantLong RX12 159 (13) ∈ aWd := wd_4_100
theorem lX12_167 : Cond.constantLong RX12 167 (8) ∈ aWd := wd_4_113
theorem lX12_177 : Cond.constantLong RX12 177 (1103515245) ∈ aWd := wd_4_136
theorem lX12_182 : Cond.constantLong RX12 182 (12345) ∈ aWd := wd_4_137
theorem lX12_184 : Cond.constantLong RX12 184 (2147483647) ∈ aWd := wd_4_138
theorem lX12_186 : Cond.constant RX12 186 (65536) ∈ aWd := wd_4_139
theorem lX12_187 : Cond.constantLong RX12 187 (40) ∈ aWd := wd_4_130
theorem lX12_189 : Cond.constantLong RX12 189 (2) ∈ aWd := wd_4_131
theorem lX12_215 : Cond.constantLong RX12 215 (31) ∈ aWd := wd_4_173
theorem lX12_221 : Cond.constantLong RX12 221 (1019) ∈ aWd := wd_4_168
theorem lX5_15 : Cond.classLink RX5 15 RX9 ∈ aWd := wd_1_31
theorem lX8_9 : Cond.classLink RX8 9 RX6 ∈ aWd := wd_1_66
theorem lX8_18 : Cond.classLink RX8 18 RX3 ∈ aWd := wd_1_79
theorem nX0 : Cond.instantiable RX0 1 ∈ aWd := wd_2_75
theorem iX0 : Cond.initialized RX0 ∈ aWd := wd_1_11
theorem nX1 : Cond.instantiable RX1 1 ∈ aWd := wd_2_83
theorem iX1 : Cond.initialized RX1 ∈ aWd := wd_1_12
theorem nX2 : Cond.instantiable RX2 3 ∈ aWd := wd_1_123
theorem iX2 : Cond.initialized RX2 ∈ aWd := wd_1_7
theorem nX3 : Cond.instantiable RX3 3 ∈ aWd := wd_1_80
theorem iX3 : Cond.initialized RX3 ∈ aWd := wd_1_6
theorem nX4 : Cond.instantiable RX4 1 ∈ aWd := wd_2_98
theorem iX4 : Cond.initialized RX4 ∈ aWd := wd_1_9
theorem nX5 : Cond.instantiable RX5 3 ∈ aWd := wd_1_26
theorem iX5 : Cond.initialized RX5 ∈ aWd := wd_1_2
theorem nX6 : Cond.instantiable RX6 2 ∈ aWd := wd_1_67
theorem iX6 : Cond.initialized RX6 ∈ aWd := wd_1_5
theorem nX7 : Cond.instantiable RX7 1 ∈ aWd := wd_2_62
theorem iX7 : Cond.initialized RX7 ∈ aWd := wd_1_10
theorem nX8 : Cond.instantiable RX8 6 ∈ aWd := wd_1_61
theorem iX8 : Cond.initialized RX8 ∈ aWd := wd_1_4
theorem nX9 : Cond.instantiable RX9 3 ∈ aWd := wd_1_32
theorem iX9 : Cond.initialized RX9 ∈ aWd := wd_1_3
theorem nX10 : Cond.instantiable RX10 1 ∈ aWd := wd_2_91
theorem iX10 : Cond.initialized RX10 ∈ aWd := wd_1_13
theorem nX11 : Cond.instantiable RX11 10 ∈ aWd := wd_1_18
theorem iX11 : Cond.initialized RX11 ∈ aWd := wd_1_1
theorem nX12 : Cond.instantiable RX12 32 ∈ aWd := wd_3_110
theorem iX12 : Cond.initialized RX12 ∈ aWd := wd_1_8
end
section
theorem eX0_init_0 : aAL cX0_init 0 0 1 := Or.inl ⟨0, by decide +kernel, rfl, rfl⟩
theorem eX0_init_1 : aIL cX0_init 1 1 2 := Or.inl ⟨1, by decide +kernel, rfl, rfl⟩
theorem eX0_init_2 : aI3 cX0_init 2 (.invokespecial 1) 5 := ⟨by decide +kernel, rfl⟩
theorem eX0_init_5 : aRet cX0_init none 5 none := Or.inl ⟨rfl, rfl, by decide +kernel⟩
theorem eX0_kind_0 : aPI cX0_kind 0 (nI 2) 1 := Or.inl ⟨2, by decide +kernel, by decide +kernel, rfl⟩
theorem eX0_kind_1 : ∀ x : Int32, aRet cX0_kind (some .int) 1 (some (.int x)) := fun x => Or.inr (Or.inl ⟨x, _, rfl, rfl, rfl, by decide +kernel⟩)
theorem eX0_placesByDeed_0 : aAL cX0_placesByDeed 0 1 1 := Or.inl ⟨1, by decide +kernel, rfl, rfl⟩
theorem eX0_placesByDeed_1 : aIL cX0_placesByDeed 1 2 2 := Or.inl ⟨2, by decide +kernel, rfl, rfl⟩
theorem eX0_placesByDeed_2 : aI3 cX0_placesByDeed 2 (.invokevirtual 7) 5 := ⟨by decide +kernel, rfl⟩
theorem eX0_placesByDeed_5 : ∀ x : Int32, aRet cX0_placesByDeed (some .int) 5 (some (.int x)) := fun x => Or.inr (Or.inl ⟨x, _, rfl, rfl, rfl, by decide +kernel⟩)
theorem eX1_init_0 : aAL cX1_init 0 0 1 := Or.inl ⟨0, by decide +kernel, rfl, rfl⟩
theorem eX1_init_1 : aIL cX1_init 1 1 2 := Or.inl ⟨1, by decide +kernel, rfl, rfl⟩
theorem eX1_init_2 : aI3 cX1_init 2 (.invokespecial 1) 5 := ⟨by decide +kernel, rfl⟩
theorem eX1_init_5 : aRet cX1_init none 5 none := Or.inl ⟨rfl, rfl, by decide +kernel⟩
theorem eX1_kind_0 : aPI cX1_kind 0 (nI 3) 1 := Or.inl ⟨3, by decide +kernel, by decide +kernel, rfl⟩
theorem eX1_kind_1 : ∀ x : Int32, aRet cX1_kind (some .int) 1 (some (.int x)) := fun x => Or.inr (Or.inl ⟨x, _, rfl, rfl, rfl, by decide +kernel⟩)
theorem eX1_placesByDeed_0 : aAL cX1_placesByDeed 0 1 1 := Or.inl ⟨1, by decide +kernel, rfl, rfl⟩
theorem eX1_placesByDeed_1 : aAL cX1_placesByDeed 1 1 2 := Or.inl ⟨1, by decide +kernel, rfl, rfl⟩
theorem eX1_placesByDeed_2 : aIL cX1_placesByDeed 2 2 3 := Or.inl ⟨2, by decide +kernel, rfl, rfl⟩
theorem eX1_placesByDeed_3 : aI3 cX1_placesByDeed 3 (.invokevirtual 7) 6 := ⟨by decide +kernel, rfl⟩
theorem eX1_placesByDeed_6 : aI3 cX1_placesByDeed 6 (.invokevirtual 13) 9 := ⟨by decide +kernel, rfl⟩
theorem eX1_placesByDeed_9 : ∀ x : Int32, aRet cX1_placesByDeed (some .int) 9 (some (.int x)) := fun x => Or.inr (Or.inl ⟨x, _, rfl, rfl, rfl, by decide +kernel⟩)
theorem eX2_init_0 : aAL cX2_init 0 0 1 := Or.inl ⟨0, by decide +kernel, rfl, rfl⟩
theorem eX2_init_1 : aI3 cX2_init 1 (.invokespecial 3) 4 := ⟨by decide +kernel, rfl⟩
theorem eX2_init_4 : aAL cX2_init 4 0 5 := Or.inl ⟨0, by decide +kernel, rfl, rfl⟩
theorem eX2_init_5 : aPI cX2_init 5 (nI 8) 7 := Or.inr (Or.inl ⟨8, by decide +kernel, by decide +kernel, rfl⟩)
theorem eX2_init_7 : aI2 cX2_init 7 (.newarray .int) 9 := ⟨by decide +kernel, rfl⟩
theorem eX2_init_9 : aI3 cX2_init 9 (.putfield 9) 12 := ⟨by decide +kernel, rfl⟩
theorem eX2_init_12 : aAL cX2_init 12 0 13 := Or.inl ⟨0, by decide +kernel, rfl, rfl⟩
theorem eX2_init_13 : aPI cX2_init 13 (nI 4) 14 := Or.inl ⟨4, by decide +kernel, by decide +kernel, rfl⟩
theorem eX2_init_14 : aI2 cX2_init 14 (.newarray .int) 16 := ⟨by decide +kernel, rfl⟩
theorem eX2_init_16 : aI3 cX2_init 16 (.putfield 15) 19 := ⟨by decide +kernel, rfl⟩
theorem eX2_init_19 : aRet cX2_init none 19 none := Or.inl ⟨rfl, rfl, by decide +kernel⟩
theorem eX2_size_0 : aAL cX2_size 0 0 1 := Or.inl ⟨0, by decide +kernel, rfl, rfl⟩
theorem eX2_size_1 : aI3 cX2_size 1 (.getfield 18) 4 := ⟨by decide +kernel, rfl⟩
theorem eX2_size_4 : ∀ x : Int32, aRet cX2_size (some .int) 4 (some (.int x)) := fun x => Or.inr (Or.inl ⟨x, _, rfl, rfl, rfl, by decide +kernel⟩)
theorem eX2_at_0 : aIL cX2_at 0 1 1 := Or.inl ⟨1, by decide +kernel, rfl, rfl⟩
theorem eX2_at_1 : aIf_lt cX2_at 1 4 21 := ⟨20, by decide +kernel, rfl, by decide⟩
theorem eX2_at_4 : aIL cX2_at 4 1 5 := Or.inl ⟨1, by decide +kernel, rfl, rfl⟩
theorem eX2_at_5 : aAL cX2_at 5 0 6 := Or.inl ⟨0, by decide +kernel, rfl, rfl⟩
theorem eX2_at_6 : aI3 cX2_at 6 (.getfield 18) 9 := ⟨by decide +kernel, rfl⟩
theorem eX2_at_9 : aIc_ge cX2_at 9 12 21 := ⟨12, by decide +kernel, rfl, by decide⟩
theorem eX2_at_12 : aAL cX2_at 12 0 13 := Or.inl ⟨0, by decide +kernel, rfl, rfl⟩
theorem eX2_at_13 : aI3 cX2_at 13 (.getfield 15) 16 := ⟨by decide +kernel, rfl⟩
theorem eX2_at_16 : aIL cX2_at 16 1 17 := Or.inl ⟨1, by decide +kernel, rfl, rfl⟩
theorem eX2_at_17 : aI1 cX2_at 17 (.iaload) 18 := ⟨by decide +kernel, rfl⟩
theorem eX2_at_18 : aGo cX2_at 18 22 := ⟨4, by decide +kernel, by decide⟩
theorem eX2_at_21 : aPI cX2_at 21 (-1) 22 := Or.inl ⟨(-1), by decide +kernel, by decide +kernel, rfl⟩
theorem eX2_at_22 : ∀ x : Int32, aRet cX2_at (some .int) 22 (some (.int x)) := fun x => Or.inr (Or.inl ⟨x, _, rfl, rfl, rfl, by decide +kernel⟩)
theorem eX2_seek_0 : aPI cX2_seek 0 (nI 0) 1 := Or.inl ⟨0, by decide +kernel, by decide +kernel, rfl⟩
theorem eX2_seek_1 : aIS cX2_seek 1 2 2 := Or.inl ⟨2, by decide +kernel, rfl, rfl⟩
theorem eX2_seek_2 : aIL cX2_seek 2 2 3 := Or.inl ⟨2, by decide +kernel, rfl, rfl⟩
theorem eX2_seek_3 : aPI cX2_seek 3 (nI 8) 5 := Or.inr (Or.inl ⟨8, by decide +kernel, by decide +kernel, rfl⟩)
theorem eX2_seek_5 : aIc_ge cX2_seek 5 8 25 := ⟨20, by decide +kernel, rfl, by decide⟩
theorem eX2_seek_8 : aAL cX2_seek 8 0 9 := Or.inl ⟨0, by decide +kernel, rfl, rfl⟩
theorem eX2_seek_9 : aI3 cX2_seek 9 (.getfield 9) 12 := ⟨by decide +kernel, rfl⟩
theorem eX2_seek_12 : aIL cX2_seek 12 2 13 := Or.inl ⟨2, by decide +kernel, rfl, rfl⟩
theorem eX2_seek_13 : aIL cX2_seek 13 2 14 := Or.inl ⟨2, by decide +kernel, rfl, rfl⟩
theorem eX2_seek_14 : aAL cX2_seek 14 1 15 := Or.inl ⟨1, by decide +kernel, rfl, rfl⟩
theorem eX2_seek_15 : aI3 cX2_seek 15 (.invokestatic 22) 18 := ⟨by decide +kernel, rfl⟩
theorem eX2_seek_18 : aI1 cX2_seek 18 (.iastore) 19 := ⟨by decide +kernel, rfl⟩
theorem eX2_seek_19 : aII cX2_seek 19 2 (nI 1) 22 := ⟨1, by decide +kernel, by decide +kernel, rfl⟩
theorem eX2_seek_22 : aGo cX2_seek 22 2 := ⟨(-20), by decide +kernel, by decide⟩
theorem eX2_seek_25 : aAL cX2_seek 25 0 26 := Or.inl ⟨0, by decide +kernel, rfl, rfl⟩
theorem eX2_seek_26 : aPI cX2_seek 26 (nI 0) 27 := Or.inl ⟨0, by decide +kernel, by decide +kernel, rfl⟩
theorem eX2_seek_27 : aI3 cX2_seek 27 (.putfield 18) 30 := ⟨by decide +kernel, rfl⟩
theorem eX2_seek_30 : aPI cX2_seek 30 (-1) 31 := Or.inl ⟨(-1), by decide +kernel, by decide +kernel, rfl⟩
theorem eX2_seek_31 : aIS cX2_seek 31 2 32 := Or.inl ⟨2, by decide +kernel, rfl, rfl⟩
theorem eX2_seek_32 : aPI cX2_seek 32 (nI 1) 33 := Or.inl ⟨1, by decide +kernel, by decide +kernel, rfl⟩
theorem eX2_seek_33 : aIS cX2_seek 33 3 34 := Or.inl ⟨3, by decide +kernel, rfl, rfl⟩
theorem eX2_seek_34 : aIL cX2_seek 34 3 35 := Or.inl ⟨3, by decide +kernel, rfl, rfl⟩
theorem eX2_seek_35 : aPI cX2_seek 35 (nI 4) 36 := Or.inl ⟨4, by decide +kernel, by decide +kernel, rfl⟩
theorem eX2_seek_36 : aIc_gt cX2_seek 36 39 76 := ⟨40, by decide +kernel, rfl, by decide⟩
theorem eX2_seek_39 : aIL cX2_seek 39 2 40 := Or.inl ⟨2, by decide +kernel, rfl, rfl⟩
theorem eX2_seek_40 : aPI cX2_seek 40 (-1) 41 := Or.inl ⟨(-1), by decide +kernel, by decide +kernel, rfl⟩
theorem eX2_seek_41 : aIc_ne cX2_seek 41 44 76 := ⟨35, by decide +kernel, rfl, by decide⟩
theorem eX2_seek_44 : aAL cX2_seek 44 0 45 := Or.inl ⟨0, by decide +kernel, rfl, rfl⟩
theorem eX2_seek_45 : aI3 cX2_seek 45 (.getfield 9) 48 := ⟨by decide +kernel, rfl⟩
theorem eX2_seek_48 : aIL cX2_seek 48 3 49 := Or.inl ⟨3, by decide +kernel, rfl, rfl⟩
theorem eX2_seek_49 : aPI cX2_seek 49 (nI 0) 50 := Or.inl ⟨0, by decide +kernel, by decide +kernel, rfl⟩
theorem eX2_seek_50 : aPI cX2_seek 50 (nI 0) 51 := Or.inl ⟨0, by decide +kernel, by decide +kernel, rfl⟩
theorem eX2_seek_51 : aPI cX2_seek 51 (nI 0) 52 := Or.inl ⟨0, by decide +kernel, by decide +kernel, rfl⟩
theorem eX2_seek_52 : aI3 cX2_seek 52 (.invokestatic 26) 55 := ⟨by decide +kernel, rfl⟩
theorem eX2_seek_55 : aIS cX2_seek 55 2 56 := Or.inl ⟨2, by decide +kernel, rfl, rfl⟩
theorem eX2_seek_56 : aAL cX2_seek 56 0 57 := Or.inl ⟨0, by decide +kernel, rfl, rfl⟩
theorem eX2_seek_57 : aIL cX2_seek 57 2 58 := Or.inl ⟨2, by decide +kernel, rfl, rfl⟩
theorem eX2_seek_58 : aPI cX2_seek 58 (-1) 59 := Or.inl ⟨(-1), by decide +kernel, by decide +kernel, rfl⟩
theorem eX2_seek_59 : aIc_ne cX2_seek 59 62 66 := ⟨7, by decide +kernel, rfl, by decide⟩
theorem eX2_seek_62 : aPI cX2_seek 62 (nI 0) 63 := Or.inl ⟨0, by decide +kernel, by decide +kernel, rfl⟩
theorem eX2_seek_63 : aGo cX2_seek 63 67 := ⟨4, by decide +kernel, by decide⟩
theorem eX2_seek_66 : aIL cX2_seek 66 3 67 := Or.inl ⟨3, by decide +kernel, rfl, rfl⟩
theorem eX2_seek_67 : aI3 cX2_seek 67 (.putfield 18) 70 := ⟨by decide +kernel, rfl⟩
theorem eX2_seek_70 : aII cX2_seek 70 3 (nI 1) 73 := ⟨1, by decide +kernel, by decide +kernel, rfl⟩
theorem eX2_seek_73 : aGo cX2_seek 73 34 := ⟨(-39), by decide +kernel, by decide⟩
theorem eX2_seek_76 : aPI cX2_seek 76 (nI 0) 77 := Or.inl ⟨0, by decide +kernel, by decide +kernel, rfl⟩
theorem eX2_seek_77 : aIS cX2_seek 77 3 78 := Or.inl ⟨3, by decide +kernel, rfl, rfl⟩
theorem eX2_seek_78 : aIL cX2_seek 78 3 79 := Or.inl ⟨3, by decide +kernel, rfl, rfl⟩
theorem eX2_seek_79 : aAL cX2_seek 79 0 80 := Or.inl ⟨0, by decide +kernel, rfl, rfl⟩
theorem eX2_seek_80 : aI3 cX2_seek 80 (.getfield 18) 83 := ⟨by decide +kernel, rfl⟩
theorem eX2_seek_83 : aIc_ge cX2_seek 83 86 113 := ⟨30, by decide +kernel, rfl, by decide⟩
theorem eX2_seek_86 : aAL cX2_seek 86 0 87 := Or.inl ⟨0, by decide +kernel, rfl, rfl⟩
theorem eX2_seek_87 : aI3 cX2_seek 87 (.getfield 15) 90 := ⟨by decide +kernel, rfl⟩
theorem eX2_seek_90 : aIL cX2_seek 90 3 91 := Or.inl ⟨3, by decide +kernel, rfl, rfl⟩
theorem eX2_seek_91 : aIL cX2_seek 91 2 92 := Or.inl ⟨2, by decide +kernel, rfl, rfl⟩
theorem eX2_seek_92 : aPI cX2_seek 92 (nI 3) 93 := Or.inl ⟨3, by decide +kernel, by decide +kernel, rfl⟩
theorem eX2_seek_93 : aAL cX2_seek 93 0 94 := Or.inl ⟨0, by decide +kernel, rfl, rfl⟩
theorem eX2_seek_94 : aI3 cX2_seek 94 (.getfield 18) 97 := ⟨by decide +kernel, rfl⟩
theorem eX2_seek_97 : aPI cX2_seek 97 (nI 1) 98 := Or.inl ⟨1, by decide +kernel, by decide +kernel, rfl⟩
theorem eX2_seek_98 : aI1 cX2_seek 98 (.isub) 99 := ⟨by decide +kernel, rfl⟩
theorem eX2_seek_99 : aIL cX2_seek 99 3 100 := Or.inl ⟨3, by decide +kernel, rfl, rfl⟩
theorem eX2_seek_100 : aI1 cX2_seek 100 (.isub) 101 := ⟨by decide +kernel, rfl⟩
theorem eX2_seek_101 : aI1 cX2_seek 101 (.imul) 102 := ⟨by decide +kernel, rfl⟩
theorem eX2_seek_102 : aI1 cX2_seek 102 (.ishr) 103 := ⟨by decide +kernel, rfl⟩
theorem eX2_seek_103 : aPI cX2_seek 103 (nI 7) 105 := Or.inr (Or.inl ⟨7, by decide +kernel, by decide +kernel, rfl⟩)
theorem eX2_seek_105 : aI1 cX2_seek 105 (.iand) 106 := ⟨by decide +kernel, rfl⟩
theorem eX2_seek_106 : aI1 cX2_seek 106 (.iastore) 107 := ⟨by decide +kernel, rfl⟩
theorem eX2_seek_107 : aII cX2_seek 107 3 (nI 1) 110 := ⟨1, by decide +kernel, by decide +kernel, rfl⟩
theorem eX2_seek_110 : aGo cX2_seek 110 78 := ⟨(-32), by decide +kernel, by decide⟩
theorem eX2_seek_113 : aRet cX2_seek none 113 none := Or.inl ⟨rfl, rfl, by decide +kernel⟩
theorem eX2_pairsToldBy_0 : aPI cX2_pairsToldBy 0 (nI 0) 1 := Or.inl ⟨0, by decide +kernel, by decide +kernel, rfl⟩
theorem eX2_pairsToldBy_1 : aIS cX2_pairsToldBy 1 2 2 := Or.inl ⟨2, by decide +kernel, rfl, rfl⟩
theorem eX2_pairsToldBy_2 : aPI cX2_pairsToldBy 2 (nI 0) 3 := Or.inl ⟨0, by decide +kernel, by decide +kernel, rfl⟩
theorem eX2_pairsToldBy_3 : aIS cX2_pairsToldBy 3 3 4 := Or.inl ⟨3, by decide +kernel, rfl, rfl⟩
theorem eX2_pairsToldBy_4 : aPI cX2_pairsToldBy 4 (nI 0) 5 := Or.inl ⟨0, by decide +kernel, by decide +kernel, rfl⟩
theorem eX2_pairsToldBy_5 : aIS cX2_pairsToldBy 5 4 7 := Or.inr ⟨by decide +kernel, rfl⟩
theorem eX2_pairsToldBy_7 : aIL cX2_pairsToldBy 7 4 9 := Or.inr ⟨by decide +kernel, rfl⟩
theorem eX2_pairsToldBy_9 : aAL cX2_pairsToldBy 9 1 10 := Or.inl ⟨1, by decide +kernel, rfl, rfl⟩
theorem eX2_pairsToldBy_10 : aI1 cX2_pairsToldBy 10 (.arraylength) 11 := ⟨by decide +kernel, rfl⟩
theorem eX2_pairsToldBy_11 : aIc_ge cX2_pairsToldBy 11 14 60 := ⟨49, by decide +kernel, rfl, by decide⟩
theorem eX2_pairsToldBy_14 : aIL cX2_pairsToldBy 14 4 16 := Or.inr ⟨by decide +kernel, rfl⟩
theorem eX2_pairsToldBy_16 : aPI cX2_pairsToldBy 16 (nI 1) 17 := Or.inl ⟨1, by decide +kernel, by decide +kernel, rfl⟩
theorem eX2_pairsToldBy_17 : aI1 cX2_pairsToldBy 17 (.iadd) 18 := ⟨by decide +kernel, rfl⟩
theorem eX2_pairsToldBy_18 : aIS cX2_pairsToldBy 18 5 20 := Or.inr ⟨by decide +kernel, rfl⟩
theorem eX2_pairsToldBy_20 : aIL cX2_pairsToldBy 20 5 22 := Or.inr ⟨by decide +kernel, rfl⟩
theorem eX2_pairsToldBy_22 : aAL cX2_pairsToldBy 22 1 23 := Or.inl ⟨1, by decide +kernel, rfl, rfl⟩
theorem eX2_pairsToldBy_23 : aI1 cX2_pairsToldBy 23 (.arraylength) 24 := ⟨by decide +kernel, rfl⟩
theorem eX2_pairsToldBy_24 : aIc_ge cX2_pairsToldBy 24 27 54 := ⟨30, by decide +kernel, rfl, by decide⟩
theorem eX2_pairsToldBy_27 : aIL cX2_pairsToldBy 27 2 28 := Or.inl ⟨2, by decide +kernel, rfl, rfl⟩
theorem eX2_pairsToldBy_28 : aAL cX2_pairsToldBy 28 1 29 := Or.inl ⟨1, by decide +kernel, rfl, rfl⟩
theorem eX2_pairsToldBy_29 : aIL cX2_pairsToldBy 29 4 31 := Or.inr ⟨by decide +kernel, rfl⟩
theorem eX2_pairsToldBy_31 : aI1 cX2_pairsToldBy 31 (.iaload) 32 := ⟨by decide +kernel, rfl⟩
theorem eX2_pairsToldBy_32 : aAL cX2_pairsToldBy 32 1 33 := Or.inl ⟨1, by decide +kernel, rfl, rfl⟩
theorem eX2_pairsToldBy_33 : aIL cX2_pairsToldBy 33 5 35 := Or.inr ⟨by decide +kernel, rfl⟩
theorem eX2_pairsToldBy_35 : aI1 cX2_pairsToldBy 35 (.iaload) 36 := ⟨by decide +kernel, rfl⟩
theorem eX2_pairsToldBy_36 : aI1 cX2_pairsToldBy 36 (.ixor) 37 := ⟨by decide +kernel, rfl⟩
theorem eX2_pairsToldBy_37 : aIL cX2_pairsToldBy 37 0 38 := Or.inl ⟨0, by decide +kernel, rfl, rfl⟩
theorem eX2_pairsToldBy_38 : aI1 cX2_pairsToldBy 38 (.ishr) 39 := ⟨by decide +kernel, rfl⟩
theorem eX2_pairsToldBy_39 : aPI cX2_pairsToldBy 39 (nI 1) 40 := Or.inl ⟨1, by decide +kernel, by decide +kernel, rfl⟩
theorem eX2_pairsToldBy_40 : aI1 cX2_pairsToldBy 40 (.iand) 41 := ⟨by decide +kernel, rfl⟩
theorem eX2_pairsToldBy_41 : aIL cX2_pairsToldBy 41 3 42 := Or.inl ⟨3, by decide +kernel, rfl, rfl⟩
theorem eX2_pairsToldBy_42 : aI1 cX2_pairsToldBy 42 (.ishl) 43 := ⟨by decide +kernel, rfl⟩
theorem eX2_pairsToldBy_43 : aI1 cX2_pairsToldBy 43 (.ior) 44 := ⟨by decide +kernel, rfl⟩
theorem eX2_pairsToldBy_44 : aIS cX2_pairsToldBy 44 2 45 := Or.inl ⟨2, by decide +kernel, rfl, rfl⟩
theorem eX2_pairsToldBy_45 : aII cX2_pairsToldBy 45 3 (nI 1) 48 := ⟨1, by decide +kernel, by decide +kernel, rfl⟩
theorem eX2_pairsToldBy_48 : aII cX2_pairsToldBy 48 5 (nI 1) 51 := ⟨1, by decide +kernel, by decide +kernel, rfl⟩
theorem eX2_pairsToldBy_51 : aGo cX2_pairsToldBy 51 20 := ⟨(-31), by decide +kernel, by decide⟩
theorem eX2_pairsToldBy_54 : aII cX2_pairsToldBy 54 4 (nI 1) 57 := ⟨1, by decide +kernel, by decide +kernel, rfl⟩
theorem eX2_pairsToldBy_57 : aGo cX2_pairsToldBy 57 7 := ⟨(-50), by decide +kernel, by decide⟩
theorem eX2_pairsToldBy_60 : aIL cX2_pairsToldBy 60 2 61 := Or.inl ⟨2, by decide +kernel, rfl, rfl⟩
theorem eX2_pairsToldBy_61 : ∀ x : Int32, aRet cX2_pairsToldBy (some .int) 61 (some (.int x)) := fun x => Or.inr (Or.inl ⟨x, _, rfl, rfl, rfl, by decide +kernel⟩)
theorem eX2_firstSheet_0 : aIL cX2_firstSheet 0 1 1 := Or.inl ⟨1, by decide +kernel, rfl, rfl⟩
theorem eX2_firstSheet_1 : aIf_gt cX2_firstSheet 1 4 18 := ⟨17, by decide +kernel, rfl, by decide⟩
theorem eX2_firstSheet_4 : aIL cX2_firstSheet 4 3 5 := Or.inl ⟨3, by decide +kernel, rfl, rfl⟩
theorem eX2_firstSheet_5 : aPI cX2_firstSheet 5 (nI 1023) 8 := Or.inr (Or.inr ⟨1023, by decide +kernel, by decide +kernel, rfl⟩)
theorem eX2_firstSheet_8 : aIc_ne cX2_firstSheet 8 11 16 := ⟨8, by decide +kernel, rfl, by decide⟩
theorem eX2_firstSheet_11 : aIL cX2_firstSheet 11 4 13 := Or.inr ⟨by decide +kernel, rfl⟩
theorem eX2_firstSheet_13 : aGo cX2_firstSheet 13 17 := ⟨4, by decide +kernel, by decide⟩
theorem eX2_firstSheet_16 : aPI cX2_firstSheet 16 (-1) 17 := Or.inl ⟨(-1), by decide +kernel, by decide +kernel, rfl⟩
theorem eX2_firstSheet_17 : ∀ x : Int32, aRet cX2_firstSheet (some .int) 17 (some (.int x)) := fun x => Or.inr (Or.inl ⟨x, _, rfl, rfl, rfl, by decide +kernel⟩)
theorem eX2_firstSheet_18 : aIL cX2_firstSheet 18 2 19 := Or.inl ⟨2, by decide +kernel, rfl, rfl⟩
theorem eX2_firstSheet_19 : aIS cX2_firstSheet 19 5 21 := Or.inr ⟨by decide +kernel, rfl⟩
theorem eX2_firstSheet_21 : aIL cX2_firstSheet 21 5 23 := Or.inr ⟨by decide +kernel, rfl⟩
theorem eX2_firstSheet_23 : aAL cX2_firstSheet 23 0 24 := Or.inl ⟨0, by decide +kernel, rfl, rfl⟩
theorem eX2_firstSheet_24 : aI1 cX2_firstSheet 24 (.arraylength) 25 := ⟨by decide +kernel, rfl⟩
theorem eX2_firstSheet_25 : aIc_ge cX2_firstSheet 25 28 69 := ⟨44, by decide +kernel, rfl, by decide⟩
theorem eX2_firstSheet_28 : aAL cX2_firstSheet 28 0 29 := Or.inl ⟨0, by decide +kernel, rfl, rfl⟩
theorem eX2_firstSheet_29 : aIL cX2_firstSheet 29 1 30 := Or.inl ⟨1, by decide +kernel, rfl, rfl⟩
theorem eX2_firstSheet_30 : aPI cX2_firstSheet 30 (nI 1) 31 := Or.inl ⟨1, by decide +kernel, by decide +kernel, rfl⟩
theorem eX2_firstSheet_31 : aI1 cX2_firstSheet 31 (.isub) 32 := ⟨by decide +kernel, rfl⟩
theorem eX2_firstSheet_32 : aIL cX2_firstSheet 32 5 34 := Or.inr ⟨by decide +kernel, rfl⟩
theorem eX2_firstSheet_34 : aPI cX2_firstSheet 34 (nI 1) 35 := Or.inl ⟨1, by decide +kernel, by decide +kernel, rfl⟩
theorem eX2_firstSheet_35 : aI1 cX2_firstSheet 35 (.iadd) 36 := ⟨by decide +kernel, rfl⟩
theorem eX2_firstSheet_36 : aIL cX2_firstSheet 36 3 37 := Or.inl ⟨3, by decide +kernel, rfl, rfl⟩
theorem eX2_firstSheet_37 : aAL cX2_firstSheet 37 0 38 := Or.inl ⟨0, by decide +kernel, rfl, rfl⟩
theorem eX2_firstSheet_38 : aIL cX2_firstSheet 38 5 40 := Or.inr ⟨by decide +kernel, rfl⟩
theorem eX2_firstSheet_40 : aI1 cX2_firstSheet 40 (.iaload) 41 := ⟨by decide +kernel, rfl⟩
theorem eX2_firstSheet_41 : aI1 cX2_firstSheet 41 (.ior) 42 := ⟨by decide +kernel, rfl⟩
theorem eX2_firstSheet_42 : aIL cX2_firstSheet 42 4 44 := Or.inr ⟨by decide +kernel, rfl⟩
theorem eX2_firstSheet_44 : aPI cX2_firstSheet 44 (nI 3) 45 := Or.inl ⟨3, by decide +kernel, by decide +kernel, rfl⟩
theorem eX2_firstSheet_45 : aI1 cX2_firstSheet 45 (.ishl) 46 := ⟨by decide +kernel, rfl⟩
theorem eX2_firstSheet_46 : aIL cX2_firstSheet 46 5 48 := Or.inr ⟨by decide +kernel, rfl⟩
theorem eX2_firstSheet_48 : aI1 cX2_firstSheet 48 (.ior) 49 := ⟨by decide +kernel, rfl⟩
theorem eX2_firstSheet_49 : aI3 cX2_firstSheet 49 (.invokestatic 26) 52 := ⟨by decide +kernel, rfl⟩
theorem eX2_firstSheet_52 : aIS cX2_firstSheet 52 6 54 := Or.inr ⟨by decide +kernel, rfl⟩
theorem eX2_firstSheet_54 : aIL cX2_firstSheet 54 6 56 := Or.inr ⟨by decide +kernel, rfl⟩
theorem eX2_firstSheet_56 : aPI cX2_firstSheet 56 (-1) 57 := Or.inl ⟨(-1), by decide +kernel, by decide +kernel, rfl⟩
theorem eX2_firstSheet_57 : aIc_eq cX2_firstSheet 57 60 63 := ⟨6, by decide +kernel, rfl, by decide⟩
theorem eX2_firstSheet_60 : aIL cX2_firstSheet 60 6 62 := Or.inr ⟨by decide +kernel, rfl⟩
theorem eX2_firstSheet_62 : ∀ x : Int32, aRet cX2_firstSheet (some .int) 62 (some (.int x)) := fun x => Or.inr (Or.inl ⟨x, _, rfl, rfl, rfl, by decide +kernel⟩)
theorem eX2_firstSheet_63 : aII cX2_firstSheet 63 5 (nI 1) 66 := ⟨1, by decide +kernel, by decide +kernel, rfl⟩
theorem eX2_firstSheet_66 : aGo cX2_firstSheet 66 21 := ⟨(-45), by decide +kernel, by decide⟩
theorem eX2_firstSheet_69 : aPI cX2_firstSheet 69 (-1) 70 := Or.inl ⟨(-1), by decide +kernel, by decide +kernel, rfl⟩
theorem eX2_firstSheet_70 : ∀ x : Int32, aRet cX2_firstSheet (some .int) 70 (some (.int x)) := fun x => Or.inr (Or.inl ⟨x, _, rfl, rfl, rfl, by decide +kernel⟩)
theorem eX3_init_0 : aAL cX3_init 0 0 1 := Or.inl ⟨0, by decide +kernel, rfl, rfl⟩
theorem eX3_init_1 : aI3 cX3_init 1 (.invokespecial 3) 4 := ⟨by decide +kernel, rfl⟩
theorem eX3_init_4 : aAL cX3_init 4 0 5 := Or.inl ⟨0, by decide +kernel, rfl, rfl⟩
theorem eX3_init_5 : aPI cX3_init 5 (nI 8) 7 := Or.inr (Or.inl ⟨8, by decide +kernel, by decide +kernel, rfl⟩)
theorem eX3_init_7 : aI2 cX3_init 7 (.newarray .int) 9 := ⟨by decide +kernel, rfl⟩
theorem eX3_init_9 : aI3 cX3_init 9 (.putfield 9) 12 := ⟨by decide +kernel, rfl⟩
theorem eX3_init_12 : aAL cX3_init 12 0 13 := Or.inl ⟨0, by decide +kernel, rfl, rfl⟩
theorem eX3_init_13 : aPI cX3_init 13 (nI 8) 15 := Or.inr (Or.inl ⟨8, by decide +kernel, by decide +kernel, rfl⟩)
theorem eX3_init_15 : aI2 cX3_init 15 (.newarray .int) 17 := ⟨by decide +kernel, rfl⟩
theorem eX3_init_17 : aI3 cX3_init 17 (.putfield 15) 20 := ⟨by decide +kernel, rfl⟩
theorem eX3_init_20 : aRet cX3_init none 20 none := Or.inl ⟨rfl, rfl, by decide +kernel⟩
theorem eX3_size_0 : aAL cX3_size 0 0 1 := Or.inl ⟨0, by decide +kernel, rfl, rfl⟩
theorem eX3_size_1 : aI3 cX3_size 1 (.getfield 18) 4 := ⟨by decide +kernel, rfl⟩
theorem eX3_size_4 : ∀ x : Int32, aRet cX3_size (some .int) 4 (some (.int x)) := fun x => Or.inr (Or.inl ⟨x, _, rfl, rfl, rfl, by decide +kernel⟩)
theorem eX3_add_0 : aAL cX3_add 0 0 1 := Or.inl ⟨0, by decide +kernel, rfl, rfl⟩
theorem eX3_add_1 : aI3 cX3_add 1 (.getfield 18) 4 := ⟨by decide +kernel, rfl⟩
theorem eX3_add_4 : aAL cX3_add 4 0 5 := Or.inl ⟨0, by decide +kernel, rfl, rfl⟩
theorem eX3_add_5 : aI3 cX3_add 5 (.getfield 9) 8 := ⟨by decide +kernel, rfl⟩
theorem eX3_add_8 : aI1 cX3_add 8 (.arraylength) 9 := ⟨by decide +kernel, rfl⟩
theorem eX3_add_9 : aIc_ge cX3_add 9 12 24 := ⟨15, by decide +kernel, rfl, by decide⟩
theorem eX3_add_12 : aAL cX3_add 12 0 13 := Or.inl ⟨0, by decide +kernel, rfl, rfl⟩
theorem eX3_add_13 : aI3 cX3_add 13 (.getfield 18) 16 := ⟨by decide +kernel, rfl⟩
theorem eX3_add_16 : aAL cX3_add 16 0 17 := Or.inl ⟨0, by decide +kernel, rfl, rfl⟩
theorem eX3_add_17 : aI3 cX3_add 17 (.getfield 15) 20 := ⟨by decide +kernel, rfl⟩
theorem eX3_add_20 : aI1 cX3_add 20 (.arraylength) 21 := ⟨by decide +kernel, rfl⟩
theorem eX3_add_21 : aIc_lt cX3_add 21 24 26 := ⟨5, by decide +kernel, rfl, by decide⟩
theorem eX3_add_24 : aPI cX3_add 24 (nI 0) 25 := Or.inl ⟨0, by decide +kernel, by decide +kernel, rfl⟩
theorem eX3_add_25 : ∀ x : Int32, (x = 0 ∨ x = 1) → aRet cX3_add (some .boolean) 25 (some (.int x)) := fun x h => Or.inr (Or.inl ⟨x, _, rfl, rfl, by rcases h with rfl | rfl <;> decide +kernel, by decide +kernel⟩)
theorem eX3_add_26 : aAL cX3_add 26 0 27 := Or.inl ⟨0, by decide +kernel, rfl, rfl⟩
theorem eX3_add_27 : aI3 cX3_add 27 (.getfield 9) 30 := ⟨by decide +kernel, rfl⟩
theorem eX3_add_30 : aAL cX3_add 30 0 31 := Or.inl ⟨0, by decide +kernel, rfl, rfl⟩
theorem eX3_add_31 : aI3 cX3_add 31 (.getfield 18) 34 := ⟨by decide +kernel, rfl⟩
theorem eX3_add_34 : aIL cX3_add 34 1 35 := Or.inl ⟨1, by decide +kernel, rfl, rfl⟩
theorem eX3_add_35 : aI1 cX3_add 35 (.iastore) 36 := ⟨by decide +kernel, rfl⟩
theorem eX3_add_36 : aAL cX3_add 36 0 37 := Or.inl ⟨0, by decide +kernel, rfl, rfl⟩
theorem eX3_add_37 : aI3 cX3_add 37 (.getfield 15) 40 := ⟨by decide +kernel, rfl⟩
theorem eX3_add_40 : aAL cX3_add 40 0 41 := Or.inl ⟨0, by decide +kernel, rfl, rfl⟩
theorem eX3_add_41 : aI3 cX3_add 41 (.getfield 18) 44 := ⟨by decide +kernel, rfl⟩
theorem eX3_add_44 : aIL cX3_add 44 2 45 := Or.inl ⟨2, by decide +kernel, rfl, rfl⟩
theorem eX3_add_45 : aI1 cX3_add 45 (.iastore) 46 := ⟨by decide +kernel, rfl⟩
theorem eX3_add_46 : aAL cX3_add 46 0 47 := Or.inl ⟨0, by decide +kernel, rfl, rfl⟩
theorem eX3_add_47 : aI1 cX3_add 47 (.dup) 48 := ⟨by decide +kernel, rfl⟩
theorem eX3_add_48 : aI3 cX3_add 48 (.getfield 18) 51 := ⟨by decide +kernel, rfl⟩
theorem eX3_add_51 : aPI cX3_add 51 (nI 1) 52 := Or.inl ⟨1, by decide +kernel, by decide +kernel, rfl⟩
theorem eX3_add_52 : aI1 cX3_add 52 (.iadd) 53 := ⟨by decide +kernel, rfl⟩
theorem eX3_add_53 : aI3 cX3_add 53 (.putfield 18) 56 := ⟨by decide +kernel, rfl⟩
theorem eX3_add_56 : aPI cX3_add 56 (nI 1) 57 := Or.inl ⟨1, by decide +kernel, by decide +kernel, rfl⟩
theorem eX3_add_57 : ∀ x : Int32, (x = 0 ∨ x = 1) → aRet cX3_add (some .boolean) 57 (some (.int x)) := fun x h => Or.inr (Or.inl ⟨x, _, rfl, rfl, by rcases h with rfl | rfl <;> decide +kernel, by decide +kernel⟩)
theorem eX3_clear_0 : aAL cX3_clear 0 0 1 := Or.inl ⟨0, by decide +kernel, rfl, rfl⟩
theorem eX3_clear_1 : aPI cX3_clear 1 (nI 0) 2 := Or.inl ⟨0, by decide +kernel, by decide +kernel, rfl⟩
theorem eX3_clear_2 : aI3 cX3_clear 2 (.putfield 18) 5 := ⟨by decide +kernel, rfl⟩
theorem eX3_clear_5 : aRet cX3_clear none 5 none := Or.inl ⟨rfl, rfl, by decide +kernel⟩
theorem eX3_copyFrom_0 : aAL cX3_copyFrom 0 1 1 := Or.inl ⟨1, by decide +kernel, rfl, rfl⟩
theorem eX3_copyFrom_1 : aI3 cX3_copyFrom 1 (.getfield 9) 4 := ⟨by decide +kernel, rfl⟩
theorem eX3_copyFrom_4 : aPI cX3_copyFrom 4 (nI 0) 5 := Or.inl ⟨0, by decide +kernel, by decide +kernel, rfl⟩
theorem eX3_copyFrom_5 : aAL cX3_copyFrom 5 0 6 := Or.inl ⟨0, by decide +kernel, rfl, rfl⟩
theorem eX3_copyFrom_6 : aI3 cX3_copyFrom 6 (.getfield 9) 9 := ⟨by decide +kernel, rfl⟩
theorem eX3_copyFrom_9 : aPI cX3_copyFrom 9 (nI 0) 10 := Or.inl ⟨0, by decide +kernel, by decide +kernel, rfl⟩
theorem eX3_copyFrom_10 : aAL cX3_copyFrom 10 0 11 := Or.inl ⟨0, by decide +kernel, rfl, rfl⟩
theorem eX3_copyFrom_11 : aI3 cX3_copyFrom 11 (.getfield 9) 14 := ⟨by decide +kernel, rfl⟩
theorem eX3_copyFrom_14 : aI1 cX3_copyFrom 14 (.arraylength) 15 := ⟨by decide +kernel, rfl⟩
theorem eX3_copyFrom_15 : aI3 cX3_copyFrom 15 (.invokestatic 22) 18 := ⟨by decide +kernel, rfl⟩
theorem eX3_copyFrom_18 : aAL cX3_copyFrom 18 1 19 := Or.inl ⟨1, by decide +kernel, rfl, rfl⟩
theorem eX3_copyFrom_19 : aI3 cX3_copyFrom 19 (.getfield 15) 22 := ⟨by decide +kernel, rfl⟩
theorem eX3_copyFrom_22 : aPI cX3_copyFrom 22 (nI 0) 23 := Or.inl ⟨0, by decide +kernel, by decide +kernel, rfl⟩
theorem eX3_copyFrom_23 : aAL cX3_copyFrom 23 0 24 := Or.inl ⟨0, by decide +kernel, rfl, rfl⟩
theorem eX3_copyFrom_24 : aI3 cX3_copyFrom 24 (.getfield 15) 27 := ⟨by decide +kernel, rfl⟩
theorem eX3_copyFrom_27 : aPI cX3_copyFrom 27 (nI 0) 28 := Or.inl ⟨0, by decide +kernel, by decide +kernel, rfl⟩
theorem eX3_copyFrom_28 : aAL cX3_copyFrom 28 0 29 := Or.inl ⟨0, by decide +kernel, rfl, rfl⟩
theorem eX3_copyFrom_29 : aI3 cX3_copyFrom 29 (.getfield 15) 32 := ⟨by decide +kernel, rfl⟩
theorem eX3_copyFrom_32 : aI1 cX3_copyFrom 32 (.arraylength) 33 := ⟨by decide +kernel, rfl⟩
theorem eX3_copyFrom_33 : aI3 cX3_copyFrom 33 (.invokestatic 22) 36 := ⟨by decide +kernel, rfl⟩
theorem eX3_copyFrom_36 : aAL cX3_copyFrom 36 0 37 := Or.inl ⟨0, by decide +kernel, rfl, rfl⟩
theorem eX3_copyFrom_37 : aAL cX3_copyFrom 37 1 38 := Or.inl ⟨1, by decide +kernel, rfl, rfl⟩
theorem eX3_copyFrom_38 : aI3 cX3_copyFrom 38 (.getfield 18) 41 := ⟨by decide +kernel, rfl⟩
theorem eX3_copyFrom_41 : aI3 cX3_copyFrom 41 (.putfield 18) 44 := ⟨by decide +kernel, rfl⟩
theorem eX3_copyFrom_44 : aRet cX3_copyFrom none 44 none := Or.inl ⟨rfl, rfl, by decide +kernel⟩
theorem eX3_deedsLeft_0 : aPI cX3_deedsLeft 0 (nI 31) 2 := Or.inr (Or.inl ⟨31, by decide +kernel, by decide +kernel, rfl⟩)
theorem eX3_deedsLeft_2 : aIS cX3_deedsLeft 2 2 3 := Or.inl ⟨2, by decide +kernel, rfl, rfl⟩
theorem eX3_deedsLeft_3 : aPI cX3_deedsLeft 3 (nI 0) 4 := Or.inl ⟨0, by decide +kernel, by decide +kernel, rfl⟩
theorem eX3_deedsLeft_4 : aIS cX3_deedsLeft 4 3 5 := Or.inl ⟨3, by decide +kernel, rfl, rfl⟩
theorem eX3_deedsLeft_5 : aIL cX3_deedsLeft 5 3 6 := Or.inl ⟨3, by decide +kernel, rfl, rfl⟩
theorem eX3_deedsLeft_6 : aAL cX3_deedsLeft 6 0 7 := Or.inl ⟨0, by decide +kernel, rfl, rfl⟩
theorem eX3_deedsLeft_7 : aI3 cX3_deedsLeft 7 (.getfield 18) 10 := ⟨by decide +kernel, rfl⟩
theorem eX3_deedsLeft_10 : aIc_ge cX3_deedsLeft 10 13 38 := ⟨28, by decide +kernel, rfl, by decide⟩
theorem eX3_deedsLeft_13 : aAL cX3_deedsLeft 13 0 14 := Or.inl ⟨0, by decide +kernel, rfl, rfl⟩
theorem eX3_deedsLeft_14 : aI3 cX3_deedsLeft 14 (.getfield 9) 17 := ⟨by decide +kernel, rfl⟩
theorem eX3_deedsLeft_17 : aIL cX3_deedsLeft 17 3 18 := Or.inl ⟨3, by decide +kernel, rfl, rfl⟩
theorem eX3_deedsLeft_18 : aI1 cX3_deedsLeft 18 (.iaload) 19 := ⟨by decide +kernel, rfl⟩
theorem eX3_deedsLeft_19 : aIL cX3_deedsLeft 19 1 20 := Or.inl ⟨1, by decide +kernel, rfl, rfl⟩
theorem eX3_deedsLeft_20 : aIc_ne cX3_deedsLeft 20 23 32 := ⟨12, by decide +kernel, rfl, by decide⟩
theorem eX3_deedsLeft_23 : aIL cX3_deedsLeft 23 2 24 := Or.inl ⟨2, by decide +kernel, rfl, rfl⟩
theorem eX3_deedsLeft_24 : aAL cX3_deedsLeft 24 0 25 := Or.inl ⟨0, by decide +kernel, rfl, rfl⟩
theorem eX3_deedsLeft_25 : aI3 cX3_deedsLeft 25 (.getfield 15) 28 := ⟨by decide +kernel, rfl⟩
theorem eX3_deedsLeft_28 : aIL cX3_deedsLeft 28 3 29 := Or.inl ⟨3, by decide +kernel, rfl, rfl⟩
theorem eX3_deedsLeft_29 : aI1 cX3_deedsLeft 29 (.iaload) 30 := ⟨by decide +kernel, rfl⟩
theorem eX3_deedsLeft_30 : aI1 cX3_deedsLeft 30 (.iand) 31 := ⟨by decide +kernel, rfl⟩
theorem eX3_deedsLeft_31 : aIS cX3_deedsLeft 31 2 32 := Or.inl ⟨2, by decide +kernel, rfl, rfl⟩
theorem eX3_deedsLeft_32 : aII cX3_deedsLeft 32 3 (nI 1) 35 := ⟨1, by decide +kernel, by decide +kernel, rfl⟩
theorem eX3_deedsLeft_35 : aGo cX3_deedsLeft 35 5 := ⟨(-30), by decide +kernel, by decide⟩
theorem eX3_deedsLeft_38 : aIL cX3_deedsLeft 38 2 39 := Or.inl ⟨2, by decide +kernel, rfl, rfl⟩
theorem eX3_deedsLeft_39 : ∀ x : Int32, aRet cX3_deedsLeft (some .int) 39 (some (.int x)) := fun x => Or.inr (Or.inl ⟨x, _, rfl, rfl, rfl, by decide +kernel⟩)
theorem eX4_init_0 : aAL cX4_init 0 0 1 := Or.inl ⟨0, by decide +kernel, rfl, rfl⟩
theorem eX4_init_1 : aI3 cX4_init 1 (.invokespecial 1) 4 := ⟨by decide +kernel, rfl⟩
theorem eX4_init_4 : aAL cX4_init 4 0 5 := Or.inl ⟨0, by decide +kernel, rfl, rfl⟩
theorem eX4_init_5 : aIL cX4_init 5 1 6 := Or.inl ⟨1, by decide +kernel, rfl, rfl⟩
theorem eX4_init_6 : aI3 cX4_init 6 (.putfield 7) 9 := ⟨by decide +kernel, rfl⟩
theorem eX4_init_9 : aRet cX4_init none 9 none := Or.inl ⟨rfl, rfl, by decide +kernel⟩
theorem eX4_deed_0 : aAL cX4_deed 0 0 1 := Or.inl ⟨0, by decide +kernel, rfl, rfl⟩
theorem eX4_deed_1 : aI3 cX4_deed 1 (.getfield 7) 4 := ⟨by decide +kernel, rfl⟩
theorem eX4_deed_4 : ∀ x : Int32, aRet cX4_deed (some .int) 4 (some (.int x)) := fun x => Or.inr (Or.inl ⟨x, _, rfl, rfl, rfl, by decide +kernel⟩)
theorem eX4_kind_0 : aPI cX4_kind 0 (nI 0) 1 := Or.inl ⟨0, by decide +kernel, by decide +kernel, rfl⟩
theorem eX4_kind_1 : ∀ x : Int32, aRet cX4_kind (some .int) 1 (some (.int x)) := fun x => Or.inr (Or.inl ⟨x, _, rfl, rfl, rfl, by decide +kernel⟩)
theorem eX4_placesByDeed_0 : aAL cX4_placesByDeed 0 1 1 := Or.inl ⟨1, by decide +kernel, rfl, rfl⟩
theorem eX4_placesByDeed_1 : aIL cX4_placesByDeed 1 2 2 := Or.inl ⟨2, by decide +kernel, rfl, rfl⟩
theorem eX4_placesByDeed_2 : aI3 cX4_placesByDeed 2 (.invokevirtual 13) 5 := ⟨by decide +kernel, rfl⟩
theorem eX4_placesByDeed_5 : ∀ x : Int32, aRet cX4_placesByDeed (some .int) 5 (some (.int x)) := fun x => Or.inr (Or.inl ⟨x, _, rfl, rfl, rfl, by decide +kernel⟩)
theorem eX4_placesAnyhow_0 : aPI cX4_placesAnyhow 0 (nI 0) 1 := Or.inl ⟨0, by decide +kernel, by decide +kernel, rfl⟩
theorem eX4_placesAnyhow_1 : ∀ x : Int32, aRet cX4_placesAnyhow (some .int) 1 (some (.int x)) := fun x => Or.inr (Or.inl ⟨x, _, rfl, rfl, rfl, by decide +kernel⟩)
theorem eX5_init_0 : aAL cX5_init 0 0 1 := Or.inl ⟨0, by decide +kernel, rfl, rfl⟩
theorem eX5_init_1 : aI3 cX5_init 1 (.invokespecial 3) 4 := ⟨by decide +kernel, rfl⟩
theorem eX5_init_4 : aAL cX5_init 4 0 5 := Or.inl ⟨0, by decide +kernel, rfl, rfl⟩
theorem eX5_init_5 : aPI cX5_init 5 (nI 28) 7 := Or.inr (Or.inl ⟨28, by decide +kernel, by decide +kernel, rfl⟩)
theorem eX5_init_7 : aI2 cX5_init 7 (.newarray .int) 9 := ⟨by decide +kernel, rfl⟩
theorem eX5_init_9 : aI3 cX5_init 9 (.putfield 9) 12 := ⟨by decide +kernel, rfl⟩
theorem eX5_init_12 : aAL cX5_init 12 0 13 := Or.inl ⟨0, by decide +kernel, rfl, rfl⟩
theorem eX5_init_13 : aI3 cX5_init 13 (.new 15) 16 := ⟨by decide +kernel, rfl⟩
theorem eX5_init_16 : aI1 cX5_init 16 (.dup) 17 := ⟨by decide +kernel, rfl⟩
theorem eX5_init_17 : aI3 cX5_init 17 (.invokespecial 17) 20 := ⟨by decide +kernel, rfl⟩
theorem eX5_init_20 : aI3 cX5_init 20 (.putfield 18) 23 := ⟨by decide +kernel, rfl⟩
theorem eX5_init_23 : aRet cX5_init none 23 none := Or.inl ⟨rfl, rfl, by decide +kernel⟩
theorem eX5_size_0 : aAL cX5_size 0 0 1 := Or.inl ⟨0, by decide +kernel, rfl, rfl⟩
theorem eX5_size_1 : aI3 cX5_size 1 (.getfield 22) 4 := ⟨by decide +kernel, rfl⟩
theorem eX5_size_4 : ∀ x : Int32, aRet cX5_size (some .int) 4 (some (.int x)) := fun x => Or.inr (Or.inl ⟨x, _, rfl, rfl, rfl, by decide +kernel⟩)
theorem eX5_codeAt_0 : aIL cX5_codeAt 0 1 1 := Or.inl ⟨1, by decide +kernel, rfl, rfl⟩
theorem eX5_codeAt_1 : aIf_lt cX5_codeAt 1 4 21 := ⟨20, by decide +kernel, rfl, by decide⟩
theorem eX5_codeAt_4 : aIL cX5_codeAt 4 1 5 := Or.inl ⟨1, by decide +kernel, rfl, rfl⟩
theorem eX5_codeAt_5 : aAL cX5_codeAt 5 0 6 := Or.inl ⟨0, by decide +kernel, rfl, rfl⟩
theorem eX5_codeAt_6 : aI3 cX5_codeAt 6 (.getfield 22) 9 := ⟨by decide +kernel, rfl⟩
theorem eX5_codeAt_9 : aIc_ge cX5_codeAt 9 12 21 := ⟨12, by decide +kernel, rfl, by decide⟩
theorem eX5_codeAt_12 : aAL cX5_codeAt 12 0 13 := Or.inl ⟨0, by decide +kernel, rfl, rfl⟩
theorem eX5_codeAt_13 : aI3 cX5_codeAt 13 (.getfield 9) 16 := ⟨by decide +kernel, rfl⟩
theorem eX5_codeAt_16 : aIL cX5_codeAt 16 1 17 := Or.inl ⟨1, by decide +kernel, rfl, rfl⟩
theorem eX5_codeAt_17 : aI1 cX5_codeAt 17 (.iaload) 18 := ⟨by decide +kernel, rfl⟩
theorem eX5_codeAt_18 : aGo cX5_codeAt 18 22 := ⟨4, by decide +kernel, by decide⟩
theorem eX5_codeAt_21 : aPI cX5_codeAt 21 (-1) 22 := Or.inl ⟨(-1), by decide +kernel, by decide +kernel, rfl⟩
theorem eX5_codeAt_22 : ∀ x : Int32, aRet cX5_codeAt (some .int) 22 (some (.int x)) := fun x => Or.inr (Or.inl ⟨x, _, rfl, rfl, rfl, by decide +kernel⟩)
theorem eX5_add_0 : aAL cX5_add 0 0 1 := Or.inl ⟨0, by decide +kernel, rfl, rfl⟩
theorem eX5_add_1 : aI3 cX5_add 1 (.getfield 22) 4 := ⟨by decide +kernel, rfl⟩
theorem eX5_add_4 : aAL cX5_add 4 0 5 := Or.inl ⟨0, by decide +kernel, rfl, rfl⟩
theorem eX5_add_5 : aI3 cX5_add 5 (.getfield 9) 8 := ⟨by decide +kernel, rfl⟩
theorem eX5_add_8 : aI1 cX5_add 8 (.arraylength) 9 := ⟨by decide +kernel, rfl⟩
theorem eX5_add_9 : aIc_lt cX5_add 9 12 14 := ⟨5, by decide +kernel, rfl, by decide⟩
theorem eX5_add_12 : aPI cX5_add 12 (nI 0) 13 := Or.inl ⟨0, by decide +kernel, by decide +kernel, rfl⟩
theorem eX5_add_13 : ∀ x : Int32, (x = 0 ∨ x = 1) → aRet cX5_add (some .boolean) 13 (some (.int x)) := fun x h => Or.inr (Or.inl ⟨x, _, rfl, rfl, by rcases h with rfl | rfl <;> decide +kernel, by decide +kernel⟩)
theorem eX5_add_14 : aAL cX5_add 14 0 15 := Or.inl ⟨0, by decide +kernel, rfl, rfl⟩
theorem eX5_add_15 : aI3 cX5_add 15 (.getfield 9) 18 := ⟨by decide +kernel, rfl⟩
theorem eX5_add_18 : aAL cX5_add 18 0 19 := Or.inl ⟨0, by decide +kernel, rfl, rfl⟩
theorem eX5_add_19 : aI3 cX5_add 19 (.getfield 22) 22 := ⟨by decide +kernel, rfl⟩
theorem eX5_add_22 : aIL cX5_add 22 1 23 := Or.inl ⟨1, by decide +kernel, rfl, rfl⟩
theorem eX5_add_23 : aI1 cX5_add 23 (.iastore) 24 := ⟨by decide +kernel, rfl⟩
theorem eX5_add_24 : aAL cX5_add 24 0 25 := Or.inl ⟨0, by decide +kernel, rfl, rfl⟩
theorem eX5_add_25 : aI1 cX5_add 25 (.dup) 26 := ⟨by decide +kernel, rfl⟩
theorem eX5_add_26 : aI3 cX5_add 26 (.getfield 22) 29 := ⟨by decide +kernel, rfl⟩
theorem eX5_add_29 : aPI cX5_add 29 (nI 1) 30 := Or.inl ⟨1, by decide +kernel, by decide +kernel, rfl⟩
theorem eX5_add_30 : aI1 cX5_add 30 (.iadd) 31 := ⟨by decide +kernel, rfl⟩
theorem eX5_add_31 : aI3 cX5_add 31 (.putfield 22) 34 := ⟨by decide +kernel, rfl⟩
theorem eX5_add_34 : aPI cX5_add 34 (nI 1) 35 := Or.inl ⟨1, by decide +kernel, by decide +kernel, rfl⟩
theorem eX5_add_35 : ∀ x : Int32, (x = 0 ∨ x = 1) → aRet cX5_add (some .boolean) 35 (some (.int x)) := fun x h => Or.inr (Or.inl ⟨x, _, rfl, rfl, by rcases h with rfl | rfl <;> decide +kernel, by decide +kernel⟩)
theorem eX5_clear_0 : aAL cX5_clear 0 0 1 := Or.inl ⟨0, by decide +kernel, rfl, rfl⟩
theorem eX5_clear_1 : aPI cX5_clear 1 (nI 0) 2 := Or.inl ⟨0, by decide +kernel, by decide +kernel, rfl⟩
theorem eX5_clear_2 : aI3 cX5_clear 2 (.putfield 22) 5 := ⟨by decide +kernel, rfl⟩
theorem eX5_clear_5 : aRet cX5_clear none 5 none := Or.inl ⟨rfl, rfl, by decide +kernel⟩
theorem eX5_faultPlace_0 : aAL cX5_faultPlace 0 0 1 := Or.inl ⟨0, by decide +kernel, rfl, rfl⟩
theorem eX5_faultPlace_1 : aI3 cX5_faultPlace 1 (.getfield 18) 4 := ⟨by decide +kernel, rfl⟩
theorem eX5_faultPlace_4 : aI3 cX5_faultPlace 4 (.invokevirtual 26) 7 := ⟨by decide +kernel, rfl⟩
theorem eX5_faultPlace_7 : aPI cX5_faultPlace 7 (nI 0) 8 := Or.inl ⟨0, by decide +kernel, by decide +kernel, rfl⟩
theorem eX5_faultPlace_8 : aIS cX5_faultPlace 8 1 9 := Or.inl ⟨1, by decide +kernel, rfl, rfl⟩
theorem eX5_faultPlace_9 : aIL cX5_faultPlace 9 1 10 := Or.inl ⟨1, by decide +kernel, rfl, rfl⟩
theorem eX5_faultPlace_10 : aAL cX5_faultPlace 10 0 11 := Or.inl ⟨0, by decide +kernel, rfl, rfl⟩
theorem eX5_faultPlace_11 : aI3 cX5_faultPlace 11 (.getfield 22) 14 := ⟨by decide +kernel, rfl⟩
theorem eX5_faultPlace_14 : aIc_ge cX5_faultPlace 14 17 39 := ⟨25, by decide +kernel, rfl, by decide⟩
theorem eX5_faultPlace_17 : aAL cX5_faultPlace 17 0 18 := Or.inl ⟨0, by decide +kernel, rfl, rfl⟩
theorem eX5_faultPlace_18 : aI3 cX5_faultPlace 18 (.getfield 18) 21 := ⟨by decide +kernel, rfl⟩
theorem eX5_faultPlace_21 : aAL cX5_faultPlace 21 0 22 := Or.inl ⟨0, by decide +kernel, rfl, rfl⟩
theorem eX5_faultPlace_22 : aI3 cX5_faultPlace 22 (.getfield 9) 25 := ⟨by decide +kernel, rfl⟩
theorem eX5_faultPlace_25 : aIL cX5_faultPlace 25 1 26 := Or.inl ⟨1, by decide +kernel, rfl, rfl⟩
theorem eX5_faultPlace_26 : aI1 cX5_faultPlace 26 (.iaload) 27 := ⟨by decide +kernel, rfl⟩
theorem eX5_faultPlace_27 : aI3 cX5_faultPlace 27 (.invokevirtual 29) 30 := ⟨by decide +kernel, rfl⟩
theorem eX5_faultPlace_30 : aIf_eq cX5_faultPlace 30 33 39 := ⟨9, by decide +kernel, rfl, by decide⟩
theorem eX5_faultPlace_33 : aII cX5_faultPlace 33 1 (nI 1) 36 := ⟨1, by decide +kernel, by decide +kernel, rfl⟩
theorem eX5_faultPlace_36 : aGo cX5_faultPlace 36 9 := ⟨(-27), by decide +kernel, by decide⟩
theorem eX5_faultPlace_39 : aIL cX5_faultPlace 39 1 40 := Or.inl ⟨1, by decide +kernel, rfl, rfl⟩
theorem eX5_faultPlace_40 : ∀ x : Int32, aRet cX5_faultPlace (some .int) 40 (some (.int x)) := fun x => Or.inr (Or.inl ⟨x, _, rfl, rfl, rfl, by decide +kernel⟩)
theorem eX5_isCourt_0 : aAL cX5_isCourt 0 0 1 := Or.inl ⟨0, by decide +kernel, rfl, rfl⟩
theorem eX5_isCourt_1 : aI3 cX5_isCourt 1 (.invokevirtual 33) 4 := ⟨by decide +kernel, rfl⟩
theorem eX5_isCourt_4 : aAL cX5_isCourt 4 0 5 := Or.inl ⟨0, by decide +kernel, rfl, rfl⟩
theorem eX5_isCourt_5 : aI3 cX5_isCourt 5 (.getfield 22) 8 := ⟨by decide +kernel, rfl⟩
theorem eX5_isCourt_8 : aIc_ne cX5_isCourt 8 11 25 := ⟨17, by decide +kernel, rfl, by decide⟩
theorem eX5_isCourt_11 : aAL cX5_isCourt 11 0 12 := Or.inl ⟨0, by decide +kernel, rfl, rfl⟩
theorem eX5_isCourt_12 : aI3 cX5_isCourt 12 (.getfield 18) 15 := ⟨by decide +kernel, rfl⟩
theorem eX5_isCourt_15 : aI3 cX5_isCourt 15 (.invokevirtual 37) 18 := ⟨by decide +kernel, rfl⟩
theorem eX5_isCourt_18 : aIf_eq cX5_isCourt 18 21 25 := ⟨7, by decide +kernel, rfl, by decide⟩
theorem eX5_isCourt_21 : aPI cX5_isCourt 21 (nI 1) 22 := Or.inl ⟨1, by decide +kernel, by decide +kernel, rfl⟩
theorem eX5_isCourt_22 : aGo cX5_isCourt 22 26 := ⟨4, by decide +kernel, by decide⟩
theorem eX5_isCourt_25 : aPI cX5_isCourt 25 (nI 0) 26 := Or.inl ⟨0, by decide +kernel, by decide +kernel, rfl⟩
theorem eX5_isCourt_26 : ∀ x : Int32, (x = 0 ∨ x = 1) → aRet cX5_isCourt (some .boolean) 26 (some (.int x)) := fun x h => Or.inr (Or.inl ⟨x, _, rfl, rfl, by rcases h with rfl | rfl <;> decide +kernel, by decide +kernel⟩)
theorem eX6_init_0 : aAL cX6_init 0 0 1 := Or.inl ⟨0, by decide +kernel, rfl, rfl⟩
theorem eX6_init_1 : aI3 cX6_init 1 (.invokespecial 3) 4 := ⟨by decide +kernel, rfl⟩
theorem eX6_init_4 : aAL cX6_init 4 0 5 := Or.inl ⟨0, by decide +kernel, rfl, rfl⟩
theorem eX6_init_5 : aPI cX6_init 5 (nI 10) 7 := Or.inr (Or.inl ⟨10, by decide +kernel, by decide +kernel, rfl⟩)
theorem eX6_init_7 : aI2 cX6_init 7 (.newarray .int) 9 := ⟨by decide +kernel, rfl⟩
theorem eX6_init_9 : aI3 cX6_init 9 (.putfield 9) 12 := ⟨by decide +kernel, rfl⟩
theorem eX6_init_12 : aRet cX6_init none 12 none := Or.inl ⟨rfl, rfl, by decide +kernel⟩
theorem eX6_size_0 : aAL cX6_size 0 0 1 := Or.inl ⟨0, by decide +kernel, rfl, rfl⟩
theorem eX6_size_1 : aI3 cX6_size 1 (.getfield 15) 4 := ⟨by decide +kernel, rfl⟩
theorem eX6_size_4 : ∀ x : Int32, aRet cX6_size (some .int) 4 (some (.int x)) := fun x => Or.inr (Or.inl ⟨x, _, rfl, rfl, rfl, by decide +kernel⟩)
theorem eX6_has_0 : aIL cX6_has 0 1 1 := Or.inl ⟨1, by decide +kernel, rfl, rfl⟩
theorem eX6_has_1 : aIf_lt cX6_has 1 4 16 := ⟨15, by decide +kernel, rfl, by decide⟩
theorem eX6_has_4 : aIL cX6_has 4 1 5 := Or.inl ⟨1, by decide +kernel, rfl, rfl⟩
theorem eX6_has_5 : aAL cX6_has 5 0 6 := Or.inl ⟨0, by decide +kernel, rfl, rfl⟩
theorem eX6_has_6 : aI3 cX6_has 6 (.getfield 15) 9 := ⟨by decide +kernel, rfl⟩
theorem eX6_has_9 : aIc_ge cX6_has 9 12 16 := ⟨7, by decide +kernel, rfl, by decide⟩
theorem eX6_has_12 : aPI cX6_has 12 (nI 1) 13 := Or.inl ⟨1, by decide +kernel, by decide +kernel, rfl⟩
theorem eX6_has_13 : aGo cX6_has 13 17 := ⟨4, by decide +kernel, by decide⟩
theorem eX6_has_16 : aPI cX6_has 16 (nI 0) 17 := Or.inl ⟨0, by decide +kernel, by decide +kernel, rfl⟩
theorem eX6_has_17 : ∀ x : Int32, (x = 0 ∨ x = 1) → aRet cX6_has (some .boolean) 17 (some (.int x)) := fun x h => Or.inr (Or.inl ⟨x, _, rfl, rfl, by rcases h with rfl | rfl <;> decide +kernel, by decide +kernel⟩)
theorem eX6_at_0 : aAL cX6_at 0 0 1 := Or.inl ⟨0, by decide +kernel, rfl, rfl⟩
theorem eX6_at_1 : aIL cX6_at 1 1 2 := Or.inl ⟨1, by decide +kernel, rfl, rfl⟩
theorem eX6_at_2 : aI3 cX6_at 2 (.invokevirtual 19) 5 := ⟨by decide +kernel, rfl⟩
theorem eX6_at_5 : aIf_eq cX6_at 5 8 17 := ⟨12, by decide +kernel, rfl, by decide⟩
theorem eX6_at_8 : aAL cX6_at 8 0 9 := Or.inl ⟨0, by decide +kernel, rfl, rfl⟩
theorem eX6_at_9 : aI3 cX6_at 9 (.getfield 9) 12 := ⟨by decide +kernel, rfl⟩
theorem eX6_at_12 : aIL cX6_at 12 1 13 := Or.inl ⟨1, by decide +kernel, rfl, rfl⟩
theorem eX6_at_13 : aI1 cX6_at 13 (.iaload) 14 := ⟨by decide +kernel, rfl⟩
theorem eX6_at_14 : aGo cX6_at 14 18 := ⟨4, by decide +kernel, by decide⟩
theorem eX6_at_17 : aPI cX6_at 17 (-1) 18 := Or.inl ⟨(-1), by decide +kernel, by decide +kernel, rfl⟩
theorem eX6_at_18 : ∀ x : Int32, aRet cX6_at (some .int) 18 (some (.int x)) := fun x => Or.inr (Or.inl ⟨x, _, rfl, rfl, rfl, by decide +kernel⟩)
theorem eX6_set_0 : aAL cX6_set 0 0 1 := Or.inl ⟨0, by decide +kernel, rfl, rfl⟩
theorem eX6_set_1 : aIL cX6_set 1 1 2 := Or.inl ⟨1, by decide +kernel, rfl, rfl⟩
theorem eX6_set_2 : aI3 cX6_set 2 (.invokevirtual 19) 5 := ⟨by decide +kernel, rfl⟩
theorem eX6_set_5 : aIf_eq cX6_set 5 8 15 := ⟨10, by decide +kernel, rfl, by decide⟩
theorem eX6_set_8 : aAL cX6_set 8 0 9 := Or.inl ⟨0, by decide +kernel, rfl, rfl⟩
theorem eX6_set_9 : aI3 cX6_set 9 (.getfield 9) 12 := ⟨by decide +kernel, rfl⟩
theorem eX6_set_12 : aIL cX6_set 12 1 13 := Or.inl ⟨1, by decide +kernel, rfl, rfl⟩
theorem eX6_set_13 : aIL cX6_set 13 2 14 := Or.inl ⟨2, by decide +kernel, rfl, rfl⟩
theorem eX6_set_14 : aI1 cX6_set 14 (.iastore) 15 := ⟨by decide +kernel, rfl⟩
theorem eX6_set_15 : aRet cX6_set none 15 none := Or.inl ⟨rfl, rfl, by decide +kernel⟩
theorem eX6_add_0 : aAL cX6_add 0 0 1 := Or.inl ⟨0, by decide +kernel, rfl, rfl⟩
theorem eX6_add_1 : aI3 cX6_add 1 (.getfield 15) 4 := ⟨by decide +kernel, rfl⟩
theorem eX6_add_4 : aAL cX6_add 4 0 5 := Or.inl ⟨0, by decide +kernel, rfl, rfl⟩
theorem eX6_add_5 : aI3 cX6_add 5 (.getfield 9) 8 := ⟨by decide +kernel, rfl⟩
theorem eX6_add_8 : aI1 cX6_add 8 (.arraylength) 9 := ⟨by decide +kernel, rfl⟩
theorem eX6_add_9 : aIc_ge cX6_add 9 12 32 := ⟨23, by decide +kernel, rfl, by decide⟩
theorem eX6_add_12 : aAL cX6_add 12 0 13 := Or.inl ⟨0, by decide +kernel, rfl, rfl⟩
theorem eX6_add_13 : aI3 cX6_add 13 (.getfield 9) 16 := ⟨by decide +kernel, rfl⟩
theorem eX6_add_16 : aAL cX6_add 16 0 17 := Or.inl ⟨0, by decide +kernel, rfl, rfl⟩
theorem eX6_add_17 : aI3 cX6_add 17 (.getfield 15) 20 := ⟨by decide +kernel, rfl⟩
theorem eX6_add_20 : aIL cX6_add 20 1 21 := Or.inl ⟨1, by decide +kernel, rfl, rfl⟩
theorem eX6_add_21 : aI1 cX6_add 21 (.iastore) 22 := ⟨by decide +kernel, rfl⟩
theorem eX6_add_22 : aAL cX6_add 22 0 23 := Or.inl ⟨0, by decide +kernel, rfl, rfl⟩
theorem eX6_add_23 : aI1 cX6_add 23 (.dup) 24 := ⟨by decide +kernel, rfl⟩
theorem eX6_add_24 : aI3 cX6_add 24 (.getfield 15) 27 := ⟨by decide +kernel, rfl⟩
theorem eX6_add_27 : aPI cX6_add 27 (nI 1) 28 := Or.inl ⟨1, by decide +kernel, by decide +kernel, rfl⟩
theorem eX6_add_28 : aI1 cX6_add 28 (.iadd) 29 := ⟨by decide +kernel, rfl⟩
theorem eX6_add_29 : aI3 cX6_add 29 (.putfield 15) 32 := ⟨by decide +kernel, rfl⟩
theorem eX6_add_32 : aRet cX6_add none 32 none := Or.inl ⟨rfl, rfl, by decide +kernel⟩
theorem eX6_clear_0 : aAL cX6_clear 0 0 1 := Or.inl ⟨0, by decide +kernel, rfl, rfl⟩
theorem eX6_clear_1 : aPI cX6_clear 1 (nI 0) 2 := Or.inl ⟨0, by decide +kernel, by decide +kernel, rfl⟩
theorem eX6_clear_2 : aI3 cX6_clear 2 (.putfield 15) 5 := ⟨by decide +kernel, rfl⟩
theorem eX6_clear_5 : aRet cX6_clear none 5 none := Or.inl ⟨rfl, rfl, by decide +kernel⟩
theorem eX6_copyFrom_0 : aAL cX6_copyFrom 0 1 1 := Or.inl ⟨1, by decide +kernel, rfl, rfl⟩
theorem eX6_copyFrom_1 : aI3 cX6_copyFrom 1 (.getfield 9) 4 := ⟨by decide +kernel, rfl⟩
theorem eX6_copyFrom_4 : aPI cX6_copyFrom 4 (nI 0) 5 := Or.inl ⟨0, by decide +kernel, by decide +kernel, rfl⟩
theorem eX6_copyFrom_5 : aAL cX6_copyFrom 5 0 6 := Or.inl ⟨0, by decide +kernel, rfl, rfl⟩
theorem eX6_copyFrom_6 : aI3 cX6_copyFrom 6 (.getfield 9) 9 := ⟨by decide +kernel, rfl⟩
theorem eX6_copyFrom_9 : aPI cX6_copyFrom 9 (nI 0) 10 := Or.inl ⟨0, by decide +kernel, by decide +kernel, rfl⟩
theorem eX6_copyFrom_10 : aAL cX6_copyFrom 10 0 11 := Or.inl ⟨0, by decide +kernel, rfl, rfl⟩
theorem eX6_copyFrom_11 : aI3 cX6_copyFrom 11 (.getfield 9) 14 := ⟨by decide +kernel, rfl⟩
theorem eX6_copyFrom_14 : aI1 cX6_copyFrom 14 (.arraylength) 15 := ⟨by decide +kernel, rfl⟩
theorem eX6_copyFrom_15 : aI3 cX6_copyFrom 15 (.invokestatic 23) 18 := ⟨by decide +kernel, rfl⟩
theorem eX6_copyFrom_18 : aAL cX6_copyFrom 18 0 19 := Or.inl ⟨0, by decide +kernel, rfl, rfl⟩
theorem eX6_copyFrom_19 : aAL cX6_copyFrom 19 1 20 := Or.inl ⟨1, by decide +kernel, rfl, rfl⟩
theorem eX6_copyFrom_20 : aI3 cX6_copyFrom 20 (.getfield 15) 23 := ⟨by decide +kernel, rfl⟩
theorem eX6_copyFrom_23 : aI3 cX6_copyFrom 23 (.putfield 15) 26 := ⟨by decide +kernel, rfl⟩
theorem eX6_copyFrom_26 : aRet cX6_copyFrom none 26 none := Or.inl ⟨rfl, rfl, by decide +kernel⟩
theorem eX6_placesOf_0 : aPI cX6_placesOf 0 (nI 0) 1 := Or.inl ⟨0, by decide +kernel, by decide +kernel, rfl⟩
theorem eX6_placesOf_1 : aIS cX6_placesOf 1 2 2 := Or.inl ⟨2, by decide +kernel, rfl, rfl⟩
theorem eX6_placesOf_2 : aPI cX6_placesOf 2 (nI 0) 3 := Or.inl ⟨0, by decide +kernel, by decide +kernel, rfl⟩
theorem eX6_placesOf_3 : aIS cX6_placesOf 3 3 4 := Or.inl ⟨3, by decide +kernel, rfl, rfl⟩
theorem eX6_placesOf_4 : aIL cX6_placesOf 4 3 5 := Or.inl ⟨3, by decide +kernel, rfl, rfl⟩
theorem eX6_placesOf_5 : aAL cX6_placesOf 5 0 6 := Or.inl ⟨0, by decide +kernel, rfl, rfl⟩
theorem eX6_placesOf_6 : aI3 cX6_placesOf 6 (.getfield 15) 9 := ⟨by decide +kernel, rfl⟩
theorem eX6_placesOf_9 : aIc_ge cX6_placesOf 9 12 33 := ⟨24, by decide +kernel, rfl, by decide⟩
theorem eX6_placesOf_12 : aIL cX6_placesOf 12 2 13 := Or.inl ⟨2, by decide +kernel, rfl, rfl⟩
theorem eX6_placesOf_13 : aIL cX6_placesOf 13 1 14 := Or.inl ⟨1, by decide +kernel, rfl, rfl⟩
theorem eX6_placesOf_14 : aAL cX6_placesOf 14 0 15 := Or.inl ⟨0, by decide +kernel, rfl, rfl⟩
theorem eX6_placesOf_15 : aI3 cX6_placesOf 15 (.getfield 9) 18 := ⟨by decide +kernel, rfl⟩
theorem eX6_placesOf_18 : aIL cX6_placesOf 18 3 19 := Or.inl ⟨3, by decide +kernel, rfl, rfl⟩
theorem eX6_placesOf_19 : aI1 cX6_placesOf 19 (.iaload) 20 := ⟨by decide +kernel, rfl⟩
theorem eX6_placesOf_20 : aI1 cX6_placesOf 20 (.ishr) 21 := ⟨by decide +kernel, rfl⟩
theorem eX6_placesOf_21 : aPI cX6_placesOf 21 (nI 1) 22 := Or.inl ⟨1, by decide +kernel, by decide +kernel, rfl⟩
theorem eX6_placesOf_22 : aI1 cX6_placesOf 22 (.iand) 23 := ⟨by decide +kernel, rfl⟩
theorem eX6_placesOf_23 : aIL cX6_placesOf 23 3 24 := Or.inl ⟨3, by decide +kernel, rfl, rfl⟩
theorem eX6_placesOf_24 : aI1 cX6_placesOf 24 (.ishl) 25 := ⟨by decide +kernel, rfl⟩
theorem eX6_placesOf_25 : aI1 cX6_placesOf 25 (.ior) 26 := ⟨by decide +kernel, rfl⟩
theorem eX6_placesOf_26 : aIS cX6_placesOf 26 2 27 := Or.inl ⟨2, by decide +kernel, rfl, rfl⟩
theorem eX6_placesOf_27 : aII cX6_placesOf 27 3 (nI 1) 30 := ⟨1, by decide +kernel, by decide +kernel, rfl⟩
theorem eX6_placesOf_30 : aGo cX6_placesOf 30 4 := ⟨(-26), by decide +kernel, by decide⟩
theorem eX6_placesOf_33 : aIL cX6_placesOf 33 2 34 := Or.inl ⟨2, by decide +kernel, rfl, rfl⟩
theorem eX6_placesOf_34 : ∀ x : Int32, aRet cX6_placesOf (some .int) 34 (some (.int x)) := fun x => Or.inr (Or.inl ⟨x, _, rfl, rfl, rfl, by decide +kernel⟩)
theorem eX6_firstPlacesOf_0 : aPI cX6_firstPlacesOf 0 (nI 0) 1 := Or.inl ⟨0, by decide +kernel, by decide +kernel, rfl⟩
theorem eX6_firstPlacesOf_1 : aIS cX6_firstPlacesOf 1 2 2 := Or.inl ⟨2, by decide +kernel, rfl, rfl⟩
theorem eX6_firstPlacesOf_2 : aIL cX6_firstPlacesOf 2 1 3 := Or.inl ⟨1, by decide +kernel, rfl, rfl⟩
theorem eX6_firstPlacesOf_3 : aIS cX6_firstPlacesOf 3 3 4 := Or.inl ⟨3, by decide +kernel, rfl, rfl⟩
theorem eX6_firstPlacesOf_4 : aPI cX6_firstPlacesOf 4 (nI 0) 5 := Or.inl ⟨0, by decide +kernel, by decide +kernel, rfl⟩
theorem eX6_firstPlacesOf_5 : aIS cX6_firstPlacesOf 5 4 7 := Or.inr ⟨by decide +kernel, rfl⟩
theorem eX6_firstPlacesOf_7 : aIL cX6_firstPlacesOf 7 4 9 := Or.inr ⟨by decide +kernel, rfl⟩
theorem eX6_firstPlacesOf_9 : aAL cX6_firstPlacesOf 9 0 10 := Or.inl ⟨0, by decide +kernel, rfl, rfl⟩
theorem eX6_firstPlacesOf_10 : aI3 cX6_firstPlacesOf 10 (.getfield 15) 13 := ⟨by decide +kernel, rfl⟩
theorem eX6_firstPlacesOf_13 : aIc_ge cX6_firstPlacesOf 13 16 53 := ⟨40, by decide +kernel, rfl, by decide⟩
theorem eX6_firstPlacesOf_16 : aIL cX6_firstPlacesOf 16 2 17 := Or.inl ⟨2, by decide +kernel, rfl, rfl⟩
theorem eX6_firstPlacesOf_17 : aIL cX6_firstPlacesOf 17 3 18 := Or.inl ⟨3, by decide +kernel, rfl, rfl⟩
theorem eX6_firstPlacesOf_18 : aAL cX6_firstPlacesOf 18 0 19 := Or.inl ⟨0, by decide +kernel, rfl, rfl⟩
theorem eX6_firstPlacesOf_19 : aI3 cX6_firstPlacesOf 19 (.getfield 9) 22 := ⟨by decide +kernel, rfl⟩
theorem eX6_firstPlacesOf_22 : aIL cX6_firstPlacesOf 22 4 24 := Or.inr ⟨by decide +kernel, rfl⟩
theorem eX6_firstPlacesOf_24 : aI1 cX6_firstPlacesOf 24 (.iaload) 25 := ⟨by decide +kernel, rfl⟩
theorem eX6_firstPlacesOf_25 : aI1 cX6_firstPlacesOf 25 (.ishr) 26 := ⟨by decide +kernel, rfl⟩
theorem eX6_firstPlacesOf_26 : aPI cX6_firstPlacesOf 26 (nI 1) 27 := Or.inl ⟨1, by decide +kernel, by decide +kernel, rfl⟩
theorem eX6_firstPlacesOf_27 : aI1 cX6_firstPlacesOf 27 (.iand) 28 := ⟨by decide +kernel, rfl⟩
theorem eX6_firstPlacesOf_28 : aIL cX6_firstPlacesOf 28 4 30 := Or.inr ⟨by decide +kernel, rfl⟩
theorem eX6_firstPlacesOf_30 : aI1 cX6_firstPlacesOf 30 (.ishl) 31 := ⟨by decide +kernel, rfl⟩
theorem eX6_firstPlacesOf_31 : aI1 cX6_firstPlacesOf 31 (.ior) 32 := ⟨by decide +kernel, rfl⟩
theorem eX6_firstPlacesOf_32 : aIS cX6_firstPlacesOf 32 2 33 := Or.inl ⟨2, by decide +kernel, rfl, rfl⟩
theorem eX6_firstPlacesOf_33 : aIL cX6_firstPlacesOf 33 3 34 := Or.inl ⟨3, by decide +kernel, rfl, rfl⟩
theorem eX6_firstPlacesOf_34 : aPI cX6_firstPlacesOf 34 (nI 1) 35 := Or.inl ⟨1, by decide +kernel, by decide +kernel, rfl⟩
theorem eX6_firstPlacesOf_35 : aAL cX6_firstPlacesOf 35 0 36 := Or.inl ⟨0, by decide +kernel, rfl, rfl⟩
theorem eX6_firstPlacesOf_36 : aI3 cX6_firstPlacesOf 36 (.getfield 9) 39 := ⟨by decide +kernel, rfl⟩
theorem eX6_firstPlacesOf_39 : aIL cX6_firstPlacesOf 39 4 41 := Or.inr ⟨by decide +kernel, rfl⟩
theorem eX6_firstPlacesOf_41 : aI1 cX6_firstPlacesOf 41 (.iaload) 42 := ⟨by decide +kernel, rfl⟩
theorem eX6_firstPlacesOf_42 : aI1 cX6_firstPlacesOf 42 (.ishl) 43 := ⟨by decide +kernel, rfl⟩
theorem eX6_firstPlacesOf_43 : aPI cX6_firstPlacesOf 43 (-1) 44 := Or.inl ⟨(-1), by decide +kernel, by decide +kernel, rfl⟩
theorem eX6_firstPlacesOf_44 : aI1 cX6_firstPlacesOf 44 (.ixor) 45 := ⟨by decide +kernel, rfl⟩
theorem eX6_firstPlacesOf_45 : aI1 cX6_firstPlacesOf 45 (.iand) 46 := ⟨by decide +kernel, rfl⟩
theorem eX6_firstPlacesOf_46 : aIS cX6_firstPlacesOf 46 3 47 := Or.inl ⟨3, by decide +kernel, rfl, rfl⟩
theorem eX6_firstPlacesOf_47 : aII cX6_firstPlacesOf 47 4 (nI 1) 50 := ⟨1, by decide +kernel, by decide +kernel, rfl⟩
theorem eX6_firstPlacesOf_50 : aGo cX6_firstPlacesOf 50 7 := ⟨(-43), by decide +kernel, by decide⟩
theorem eX6_firstPlacesOf_53 : aIL cX6_firstPlacesOf 53 2 54 := Or.inl ⟨2, by decide +kernel, rfl, rfl⟩
theorem eX6_firstPlacesOf_54 : ∀ x : Int32, aRet cX6_firstPlacesOf (some .int) 54 (some (.int x)) := fun x => Or.inr (Or.inl ⟨x, _, rfl, rfl, rfl, by decide +kernel⟩)
theorem eX6_placesBehind_0 : aIL cX6_placesBehind 0 1 1 := Or.inl ⟨1, by decide +kernel, rfl, rfl⟩
theorem eX6_placesBehind_1 : aPI cX6_placesBehind 1 (nI 1) 2 := Or.inl ⟨1, by decide +kernel, by decide +kernel, rfl⟩
theorem eX6_placesBehind_2 : aI1 cX6_placesBehind 2 (.ishl) 3 := ⟨by decide +kernel, rfl⟩
theorem eX6_placesBehind_3 : aPI cX6_placesBehind 3 (nI 1) 4 := Or.inl ⟨1, by decide +kernel, by decide +kernel, rfl⟩
theorem eX6_placesBehind_4 : aAL cX6_placesBehind 4 0 5 := Or.inl ⟨0, by decide +kernel, rfl, rfl⟩
theorem eX6_placesBehind_5 : aI3 cX6_placesBehind 5 (.getfield 15) 8 := ⟨by decide +kernel, rfl⟩
theorem eX6_placesBehind_8 : aI1 cX6_placesBehind 8 (.ishl) 9 := ⟨by decide +kernel, rfl⟩
theorem eX6_placesBehind_9 : aPI cX6_placesBehind 9 (nI 1) 10 := Or.inl ⟨1, by decide +kernel, by decide +kernel, rfl⟩
theorem eX6_placesBehind_10 : aI1 cX6_placesBehind 10 (.isub) 11 := ⟨by decide +kernel, rfl⟩
theorem eX6_placesBehind_11 : aI1 cX6_placesBehind 11 (.iand) 12 := ⟨by decide +kernel, rfl⟩
theorem eX6_placesBehind_12 : ∀ x : Int32, aRet cX6_placesBehind (some .int) 12 (some (.int x)) := fun x => Or.inr (Or.inl ⟨x, _, rfl, rfl, rfl, by decide +kernel⟩)
theorem eX6_unlikeWords_0 : aPI cX6_unlikeWords 0 (nI 0) 1 := Or.inl ⟨0, by decide +kernel, by decide +kernel, rfl⟩
theorem eX6_unlikeWords_1 : aIS cX6_unlikeWords 1 1 2 := Or.inl ⟨1, by decide +kernel, rfl, rfl⟩
theorem eX6_unlikeWords_2 : aPI cX6_unlikeWords 2 (nI 0) 3 := Or.inl ⟨0, by decide +kernel, by decide +kernel, rfl⟩
theorem eX6_unlikeWords_3 : aIS cX6_unlikeWords 3 2 4 := Or.inl ⟨2, by decide +kernel, rfl, rfl⟩
theorem eX6_unlikeWords_4 : aIL cX6_unlikeWords 4 2 5 := Or.inl ⟨2, by decide +kernel, rfl, rfl⟩
theorem eX6_unlikeWords_5 : aAL cX6_unlikeWords 5 0 6 := Or.inl ⟨0, by decide +kernel, rfl, rfl⟩
theorem eX6_unlikeWords_6 : aI3 cX6_unlikeWords 6 (.getfield 15) 9 := ⟨by decide +kernel, rfl⟩
theorem eX6_unlikeWords_9 : aIc_ge cX6_unlikeWords 9 12 29 := ⟨20, by decide +kernel, rfl, by decide⟩
theorem eX6_unlikeWords_12 : aIL cX6_unlikeWords 12 1 13 := Or.inl ⟨1, by decide +kernel, rfl, rfl⟩
theorem eX6_unlikeWords_13 : aPI cX6_unlikeWords 13 (nI 1) 14 := Or.inl ⟨1, by decide +kernel, by decide +kernel, rfl⟩
theorem eX6_unlikeWords_14 : aAL cX6_unlikeWords 14 0 15 := Or.inl ⟨0, by decide +kernel, rfl, rfl⟩
theorem eX6_unlikeWords_15 : aI3 cX6_unlikeWords 15 (.getfield 9) 18 := ⟨by decide +kernel, rfl⟩
theorem eX6_unlikeWords_18 : aIL cX6_unlikeWords 18 2 19 := Or.inl ⟨2, by decide +kernel, rfl, rfl⟩
theorem eX6_unlikeWords_19 : aI1 cX6_unlikeWords 19 (.iaload) 20 := ⟨by decide +kernel, rfl⟩
theorem eX6_unlikeWords_20 : aI1 cX6_unlikeWords 20 (.ishl) 21 := ⟨by decide +kernel, rfl⟩
theorem eX6_unlikeWords_21 : aI1 cX6_unlikeWords 21 (.ior) 22 := ⟨by decide +kernel, rfl⟩
theorem eX6_unlikeWords_22 : aIS cX6_unlikeWords 22 1 23 := Or.inl ⟨1, by decide +kernel, rfl, rfl⟩
theorem eX6_unlikeWords_23 : aII cX6_unlikeWords 23 2 (nI 1) 26 := ⟨1, by decide +kernel, by decide +kernel, rfl⟩
theorem eX6_unlikeWords_26 : aGo cX6_unlikeWords 26 4 := ⟨(-22), by decide +kernel, by decide⟩
theorem eX6_unlikeWords_29 : aIL cX6_unlikeWords 29 1 30 := Or.inl ⟨1, by decide +kernel, rfl, rfl⟩
theorem eX6_unlikeWords_30 : aI3 cX6_unlikeWords 30 (.invokestatic 29) 33 := ⟨by decide +kernel, rfl⟩
theorem eX6_unlikeWords_33 : ∀ x : Int32, aRet cX6_unlikeWords (some .int) 33 (some (.int x)) := fun x => Or.inr (Or.inl ⟨x, _, rfl, rfl, rfl, by decide +kernel⟩)
theorem eX7_init_0 : aAL cX7_init 0 0 1 := Or.inl ⟨0, by decide +kernel, rfl, rfl⟩
theorem eX7_init_1 : aIL cX7_init 1 1 2 := Or.inl ⟨1, by decide +kernel, rfl, rfl⟩
theorem eX7_init_2 : aI3 cX7_init 2 (.invokespecial 1) 5 := ⟨by decide +kernel, rfl⟩
theorem eX7_init_5 : aRet cX7_init none 5 none := Or.inl ⟨rfl, rfl, by decide +kernel⟩
theorem eX7_kind_0 : aPI cX7_kind 0 (nI 1) 1 := Or.inl ⟨1, by decide +kernel, by decide +kernel, rfl⟩
theorem eX7_kind_1 : ∀ x : Int32, aRet cX7_kind (some .int) 1 (some (.int x)) := fun x => Or.inr (Or.inl ⟨x, _, rfl, rfl, rfl, by decide +kernel⟩)
theorem eX7_placesAnyhow_0 : aPI cX7_placesAnyhow 0 (nI 1) 1 := Or.inl ⟨1, by decide +kernel, by decide +kernel, rfl⟩
theorem eX7_placesAnyhow_1 : ∀ x : Int32, aRet cX7_placesAnyhow (some .int) 1 (some (.int x)) := fun x => Or.inr (Or.inl ⟨x, _, rfl, rfl, rfl, by decide +kernel⟩)
theorem eX8_init_0 : aAL cX8_init 0 0 1 := Or.inl ⟨0, by decide +kernel, rfl, rfl⟩
theorem eX8_init_1 : aI3 cX8_init 1 (.invokespecial 3) 4 := ⟨by decide +kernel, rfl⟩
theorem eX8_init_4 : aAL cX8_init 4 0 5 := Or.inl ⟨0, by decide +kernel, rfl, rfl⟩
theorem eX8_init_5 : aI3 cX8_init 5 (.new 9) 8 := ⟨by decide +kernel, rfl⟩
theorem eX8_init_8 : aI1 cX8_init 8 (.dup) 9 := ⟨by decide +kernel, rfl⟩
theorem eX8_init_9 : aI3 cX8_init 9 (.invokespecial 11) 12 := ⟨by decide +kernel, rfl⟩
theorem eX8_init_12 : aI3 cX8_init 12 (.putfield 12) 15 := ⟨by decide +kernel, rfl⟩
theorem eX8_init_15 : aAL cX8_init 15 0 16 := Or.inl ⟨0, by decide +kernel, rfl, rfl⟩
theorem eX8_init_16 : aI3 cX8_init 16 (.new 18) 19 := ⟨by decide +kernel, rfl⟩
theorem eX8_init_19 : aI1 cX8_init 19 (.dup) 20 := ⟨by decide +kernel, rfl⟩
theorem eX8_init_20 : aI3 cX8_init 20 (.invokespecial 20) 23 := ⟨by decide +kernel, rfl⟩
theorem eX8_init_23 : aI3 cX8_init 23 (.putfield 21) 26 := ⟨by decide +kernel, rfl⟩
theorem eX8_init_26 : aAL cX8_init 26 0 27 := Or.inl ⟨0, by decide +kernel, rfl, rfl⟩
theorem eX8_init_27 : aPI cX8_init 27 (nI 4) 28 := Or.inl ⟨4, by decide +kernel, by decide +kernel, rfl⟩
theorem eX8_init_28 : aI2 cX8_init 28 (.newarray .int) 30 := ⟨by decide +kernel, rfl⟩
theorem eX8_init_30 : aI3 cX8_init 30 (.putfield 25) 33 := ⟨by decide +kernel, rfl⟩
theorem eX8_init_33 : aRet cX8_init none 33 none := Or.inl ⟨rfl, rfl, by decide +kernel⟩
theorem eX8_begin_0 : aAL cX8_begin 0 0 1 := Or.inl ⟨0, by decide +kernel, rfl, rfl⟩
theorem eX8_begin_1 : aI3 cX8_begin 1 (.getfield 12) 4 := ⟨by decide +kernel, rfl⟩
theorem eX8_begin_4 : aI3 cX8_begin 4 (.invokevirtual 29) 7 := ⟨by decide +kernel, rfl⟩
theorem eX8_begin_7 : aAL cX8_begin 7 0 8 := Or.inl ⟨0, by decide +kernel, rfl, rfl⟩
theorem eX8_begin_8 : aI3 cX8_begin 8 (.getfield 21) 11 := ⟨by decide +kernel, rfl⟩
theorem eX8_begin_11 : aI3 cX8_begin 11 (.invokevirtual 32) 14 := ⟨by decide +kernel, rfl⟩
theorem eX8_begin_14 : aAL cX8_begin 14 0 15 := Or.inl ⟨0, by decide +kernel, rfl, rfl⟩
theorem eX8_begin_15 : aPI cX8_begin 15 (nI 2) 16 := Or.inl ⟨2, by decide +kernel, by decide +kernel, rfl⟩
theorem eX8_begin_16 : aI3 cX8_begin 16 (.putfield 33) 19 := ⟨by decide +kernel, rfl⟩
theorem eX8_begin_19 : aAL cX8_begin 19 0 20 := Or.inl ⟨0, by decide +kernel, rfl, rfl⟩
theorem eX8_begin_20 : aPI cX8_begin 20 (nI 0) 21 := Or.inl ⟨0, by decide +kernel, by decide +kernel, rfl⟩
theorem eX8_begin_21 : aI3 cX8_begin 21 (.putfield 37) 24 := ⟨by decide +kernel, rfl⟩
theorem eX8_begin_24 : aAL cX8_begin 24 0 25 := Or.inl ⟨0, by decide +kernel, rfl, rfl⟩
theorem eX8_begin_25 : aPI cX8_begin 25 (nI 0) 26 := Or.inl ⟨0, by decide +kernel, by decide +kernel, rfl⟩
theorem eX8_begin_26 : aI3 cX8_begin 26 (.putfield 40) 29 := ⟨by decide +kernel, rfl⟩
theorem eX8_begin_29 : aRet cX8_begin none 29 none := Or.inl ⟨rfl, rfl, by decide +kernel⟩
theorem eX8_copyFrom_0 : aAL cX8_copyFrom 0 0 1 := Or.inl ⟨0, by decide +kernel, rfl, rfl⟩
theorem eX8_copyFrom_1 : aI3 cX8_copyFrom 1 (.getfield 12) 4 := ⟨by decide +kernel, rfl⟩
theorem eX8_copyFrom_4 : aAL cX8_copyFrom 4 1 5 := Or.inl ⟨1, by decide +kernel, rfl, rfl⟩
theorem eX8_copyFrom_5 : aI3 cX8_copyFrom 5 (.getfield 12) 8 := ⟨by decide +kernel, rfl⟩
theorem eX8_copyFrom_8 : aI3 cX8_copyFrom 8 (.invokevirtual 43) 11 := ⟨by decide +kernel, rfl⟩
theorem eX8_copyFrom_11 : aAL cX8_copyFrom 11 0 12 := Or.inl ⟨0, by decide +kernel, rfl, rfl⟩
theorem eX8_copyFrom_12 : aI3 cX8_copyFrom 12 (.getfield 21) 15 := ⟨by decide +kernel, rfl⟩
theorem eX8_copyFrom_15 : aAL cX8_copyFrom 15 1 16 := Or.inl ⟨1, by decide +kernel, rfl, rfl⟩
theorem eX8_copyFrom_16 : aI3 cX8_copyFrom 16 (.getfield 21) 19 := ⟨by decide +kernel, rfl⟩
theorem eX8_copyFrom_19 : aI3 cX8_copyFrom 19 (.invokevirtual 47) 22 := ⟨by decide +kernel, rfl⟩
theorem eX8_copyFrom_22 : aAL cX8_copyFrom 22 1 23 := Or.inl ⟨1, by decide +kernel, rfl, rfl⟩
theorem eX8_copyFrom_23 : aI3 cX8_copyFrom 23 (.getfield 25) 26 := ⟨by decide +kernel, rfl⟩
theorem eX8_copyFrom_26 : aPI cX8_copyFrom 26 (nI 0) 27 := Or.inl ⟨0, by decide +kernel, by decide +kernel, rfl⟩
theorem eX8_copyFrom_27 : aAL cX8_copyFrom 27 0 28 := Or.inl ⟨0, by decide +kernel, rfl, rfl⟩
theorem eX8_copyFrom_28 : aI3 cX8_copyFrom 28 (.getfield 25) 31 := ⟨by decide +kernel, rfl⟩
theorem eX8_copyFrom_31 : aPI cX8_copyFrom 31 (nI 0) 32 := Or.inl ⟨0, by decide +kernel, by decide +kernel, rfl⟩
theorem eX8_copyFrom_32 : aAL cX8_copyFrom 32 0 33 := Or.inl ⟨0, by decide +kernel, rfl, rfl⟩
theorem eX8_copyFrom_33 : aI3 cX8_copyFrom 33 (.getfield 25) 36 := ⟨by decide +kernel, rfl⟩
theorem eX8_copyFrom_36 : aI1 cX8_copyFrom 36 (.arraylength) 37 := ⟨by decide +kernel, rfl⟩
theorem eX8_copyFrom_37 : aI3 cX8_copyFrom 37 (.invokestatic 50) 40 := ⟨by decide +kernel, rfl⟩
theorem eX8_copyFrom_40 : aAL cX8_copyFrom 40 0 41 := Or.inl ⟨0, by decide +kernel, rfl, rfl⟩
theorem eX8_copyFrom_41 : aAL cX8_copyFrom 41 1 42 := Or.inl ⟨1, by decide +kernel, rfl, rfl⟩
theorem eX8_copyFrom_42 : aI3 cX8_copyFrom 42 (.getfield 33) 45 := ⟨by decide +kernel, rfl⟩
theorem eX8_copyFrom_45 : aI3 cX8_copyFrom 45 (.putfield 33) 48 := ⟨by decide +kernel, rfl⟩
theorem eX8_copyFrom_48 : aAL cX8_copyFrom 48 0 49 := Or.inl ⟨0, by decide +kernel, rfl, rfl⟩
theorem eX8_copyFrom_49 : aAL cX8_copyFrom 49 1 50 := Or.inl ⟨1, by decide +kernel, rfl, rfl⟩
theorem eX8_copyFrom_50 : aI3 cX8_copyFrom 50 (.getfield 37) 53 := ⟨by decide +kernel, rfl⟩
theorem eX8_copyFrom_53 : aI3 cX8_copyFrom 53 (.putfield 37) 56 := ⟨by decide +kernel, rfl⟩
theorem eX8_copyFrom_56 : aAL cX8_copyFrom 56 0 57 := Or.inl ⟨0, by decide +kernel, rfl, rfl⟩
theorem eX8_copyFrom_57 : aAL cX8_copyFrom 57 1 58 := Or.inl ⟨1, by decide +kernel, rfl, rfl⟩
theorem eX8_copyFrom_58 : aI3 cX8_copyFrom 58 (.getfield 40) 61 := ⟨by decide +kernel, rfl⟩
theorem eX8_copyFrom_61 : aI3 cX8_copyFrom 61 (.putfield 40) 64 := ⟨by decide +kernel, rfl⟩
theorem eX8_copyFrom_64 : aRet cX8_copyFrom none 64 none := Or.inl ⟨rfl, rfl, by decide +kernel⟩
theorem eX9_init_0 : aAL cX9_init 0 0 1 := Or.inl ⟨0, by decide +kernel, rfl, rfl⟩
theorem eX9_init_1 : aI3 cX9_init 1 (.invokespecial 3) 4 := ⟨by decide +kernel, rfl⟩
theorem eX9_init_4 : aRet cX9_init none 4 none := Or.inl ⟨rfl, rfl, by decide +kernel⟩
theorem eX9_begin_0 : aAL cX9_begin 0 0 1 := Or.inl ⟨0, by decide +kernel, rfl, rfl⟩
theorem eX9_begin_1 : aPI cX9_begin 1 (nI 0) 2 := Or.inl ⟨0, by decide +kernel, by decide +kernel, rfl⟩
theorem eX9_begin_2 : aI3 cX9_begin 2 (.invokevirtual 9) 5 := ⟨by decide +kernel, rfl⟩
theorem eX9_begin_5 : aRet cX9_begin none 5 none := Or.inl ⟨rfl, rfl, by decide +kernel⟩
theorem eX9_passes_0 : aIL cX9_passes 0 1 1 := Or.inl ⟨1, by decide +kernel, rfl, rfl⟩
theorem eX9_passes_1 : aPI cX9_passes 1 (nI 97) 3 := Or.inr (Or.inl ⟨97, by decide +kernel, by decide +kernel, rfl⟩)
theorem eX9_passes_3 : aI1 cX9_passes 3 (.isub) 4 := ⟨by decide +kernel, rfl⟩
theorem eX9_passes_4 : aIS cX9_passes 4 2 5 := Or.inl ⟨2, by decide +kernel, rfl, rfl⟩
theorem eX9_passes_5 : aIL cX9_passes 5 2 6 := Or.inl ⟨2, by decide +kernel, rfl, rfl⟩
theorem eX9_passes_6 : aI3 cX9_passes 6 (.invokestatic 15) 9 := ⟨by decide +kernel, rfl⟩
theorem eX9_passes_9 : aIf_eq cX9_passes 9 12 18 := ⟨9, by decide +kernel, rfl, by decide⟩
theorem eX9_passes_12 : aAL cX9_passes 12 0 13 := Or.inl ⟨0, by decide +kernel, rfl, rfl⟩
theorem eX9_passes_13 : aIL cX9_passes 13 2 14 := Or.inl ⟨2, by decide +kernel, rfl, rfl⟩
theorem eX9_passes_14 : aI3 cX9_passes 14 (.invokevirtual 19) 17 := ⟨by decide +kernel, rfl⟩
theorem eX9_passes_17 : ∀ x : Int32, (x = 0 ∨ x = 1) → aRet cX9_passes (some .boolean) 17 (some (.int x)) := fun x h => Or.inr (Or.inl ⟨x, _, rfl, rfl, by rcases h with rfl | rfl <;> decide +kernel, by decide +kernel⟩)
theorem eX9_passes_18 : aAL cX9_passes 18 0 19 := Or.inl ⟨0, by decide +kernel, rfl, rfl⟩
theorem eX9_passes_19 : aI3 cX9_passes 19 (.getfield 22) 22 := ⟨by decide +kernel, rfl⟩
theorem eX9_passes_22 : aPI cX9_passes 22 (nI 4) 23 := Or.inl ⟨4, by decide +kernel, by decide +kernel, rfl⟩
theorem eX9_passes_23 : aIc_ge cX9_passes 23 26 33 := ⟨10, by decide +kernel, rfl, by decide⟩
theorem eX9_passes_26 : aAL cX9_passes 26 0 27 := Or.inl ⟨0, by decide +kernel, rfl, rfl⟩
theorem eX9_passes_27 : aI3 cX9_passes 27 (.getfield 26) 30 := ⟨by decide +kernel, rfl⟩
theorem eX9_passes_30 : aIf_ne cX9_passes 30 33 35 := ⟨5, by decide +kernel, rfl, by decide⟩
theorem eX9_passes_33 : aPI cX9_passes 33 (nI 0) 34 := Or.inl ⟨0, by decide +kernel, by decide +kernel, rfl⟩
theorem eX9_passes_34 : ∀ x : Int32, (x = 0 ∨ x = 1) → aRet cX9_passes (some .boolean) 34 (some (.int x)) := fun x h => Or.inr (Or.inl ⟨x, _, rfl, rfl, by rcases h with rfl | rfl <;> decide +kernel, by decide +kernel⟩)
theorem eX9_passes_35 : aIL cX9_passes 35 1 36 := Or.inl ⟨1, by decide +kernel, rfl, rfl⟩
theorem eX9_passes_36 : aAL cX9_passes 36 0 37 := Or.inl ⟨0, by decide +kernel, rfl, rfl⟩
theorem eX9_passes_37 : aI3 cX9_passes 37 (.getfield 22) 40 := ⟨by decide +kernel, rfl⟩
theorem eX9_passes_40 : aPI cX9_passes 40 (nI 3) 41 := Or.inl ⟨3, by decide +kernel, by decide +kernel, rfl⟩
theorem eX9_passes_41 : aIc_ne cX9_passes 41 44 49 := ⟨8, by decide +kernel, rfl, by decide⟩
theorem eX9_passes_44 : aPI cX9_passes 44 (nI 59) 46 := Or.inr (Or.inl ⟨59, by decide +kernel, by decide +kernel, rfl⟩)
theorem eX9_passes_46 : aGo cX9_passes 46 51 := ⟨5, by decide +kernel, by decide⟩
theorem eX9_passes_49 : aPI cX9_passes 49 (nI 44) 51 := Or.inr (Or.inl ⟨44, by decide +kernel, by decide +kernel, rfl⟩)
theorem eX9_passes_51 : aIc_eq cX9_passes 51 54 56 := ⟨5, by decide +kernel, rfl, by decide⟩
theorem eX9_passes_54 : aPI cX9_passes 54 (nI 0) 55 := Or.inl ⟨0, by decide +kernel, by decide +kernel, rfl⟩
theorem eX9_passes_55 : ∀ x : Int32, (x = 0 ∨ x = 1) → aRet cX9_passes (some .boolean) 55 (some (.int x)) := fun x h => Or.inr (Or.inl ⟨x, _, rfl, rfl, by rcases h with rfl | rfl <;> decide +kernel, by decide +kernel⟩)
theorem eX9_passes_56 : aAL cX9_passes 56 0 57 := Or.inl ⟨0, by decide +kernel, rfl, rfl⟩
theorem eX9_passes_57 : aAL cX9_passes 57 0 58 := Or.inl ⟨0, by decide +kernel, rfl, rfl⟩
theorem eX9_passes_58 : aI3 cX9_passes 58 (.getfield 22) 61 := ⟨by decide +kernel, rfl⟩
theorem eX9_passes_61 : aPI cX9_passes 61 (nI 1) 62 := Or.inl ⟨1, by decide +kernel, by decide +kernel, rfl⟩
theorem eX9_passes_62 : aI1 cX9_passes 62 (.iadd) 63 := ⟨by decide +kernel, rfl⟩
theorem eX9_passes_63 : aI3 cX9_passes 63 (.invokevirtual 9) 66 := ⟨by decide +kernel, rfl⟩
theorem eX9_passes_66 : aPI cX9_passes 66 (nI 1) 67 := Or.inl ⟨1, by decide +kernel, by decide +kernel, rfl⟩
theorem eX9_passes_67 : ∀ x : Int32, (x = 0 ∨ x = 1) → aRet cX9_passes (some .boolean) 67 (some (.int x)) := fun x h => Or.inr (Or.inl ⟨x, _, rfl, rfl, by rcases h with rfl | rfl <;> decide +kernel, by decide +kernel⟩)
theorem eX9_isWhole_0 : aAL cX9_isWhole 0 0 1 := Or.inl ⟨0, by decide +kernel, rfl, rfl⟩
theorem eX9_isWhole_1 : aI3 cX9_isWhole 1 (.getfield 22) 4 := ⟨by decide +kernel, rfl⟩
theorem eX9_isWhole_4 : aPI cX9_isWhole 4 (nI 4) 5 := Or.inl ⟨4, by decide +kernel, by decide +kernel, rfl⟩
theorem eX9_isWhole_5 : aIc_ne cX9_isWhole 5 8 19 := ⟨14, by decide +kernel, rfl, by decide⟩
theorem eX9_isWhole_8 : aAL cX9_isWhole 8 0 9 := Or.inl ⟨0, by decide +kernel, rfl, rfl⟩
theorem eX9_isWhole_9 : aI3 cX9_isWhole 9 (.getfield 26) 12 := ⟨by decide +kernel, rfl⟩
theorem eX9_isWhole_12 : aIf_le cX9_isWhole 12 15 19 := ⟨7, by decide +kernel, rfl, by decide⟩
theorem eX9_isWhole_15 : aPI cX9_isWhole 15 (nI 1) 16 := Or.inl ⟨1, by decide +kernel, by decide +kernel, rfl⟩
theorem eX9_isWhole_16 : aGo cX9_isWhole 16 20 := ⟨4, by decide +kernel, by decide⟩
theorem eX9_isWhole_19 : aPI cX9_isWhole 19 (nI 0) 20 := Or.inl ⟨0, by decide +kernel, by decide +kernel, rfl⟩
theorem eX9_isWhole_20 : ∀ x : Int32, (x = 0 ∨ x = 1) → aRet cX9_isWhole (some .boolean) 20 (some (.int x)) := fun x h => Or.inr (Or.inl ⟨x, _, rfl, rfl, by rcases h with rfl | rfl <;> decide +kernel, by decide +kernel⟩)
theorem eX9_enter_0 : aAL cX9_enter 0 0 1 := Or.inl ⟨0, by decide +kernel, rfl, rfl⟩
theorem eX9_enter_1 : aIL cX9_enter 1 1 2 := Or.inl ⟨1, by decide +kernel, rfl, rfl⟩
theorem eX9_enter_2 : aI3 cX9_enter 2 (.putfield 22) 5 := ⟨by decide +kernel, rfl⟩
theorem eX9_enter_5 : aAL cX9_enter 5 0 6 := Or.inl ⟨0, by decide +kernel, rfl, rfl⟩
theorem eX9_enter_6 : aPI cX9_enter 6 (nI 0) 7 := Or.inl ⟨0, by decide +kernel, by decide +kernel, rfl⟩
theorem eX9_enter_7 : aI3 cX9_enter 7 (.putfield 26) 10 := ⟨by decide +kernel, rfl⟩
theorem eX9_enter_10 : aAL cX9_enter 10 0 11 := Or.inl ⟨0, by decide +kernel, rfl, rfl⟩
theorem eX9_enter_11 : aPI cX9_enter 11 (-1) 12 := Or.inl ⟨(-1), by decide +kernel, by decide +kernel, rfl⟩
theorem eX9_enter_12 : aI3 cX9_enter 12 (.putfield 29) 15 := ⟨by decide +kernel, rfl⟩
theorem eX9_enter_15 : aRet cX9_enter none 15 none := Or.inl ⟨rfl, rfl, by decide +kernel⟩
theorem eX9_passesWord_0 : aAL cX9_passesWord 0 0 1 := Or.inl ⟨0, by decide +kernel, rfl, rfl⟩
theorem eX9_passesWord_1 : aI3 cX9_passesWord 1 (.getfield 22) 4 := ⟨by decide +kernel, rfl⟩
theorem eX9_passesWord_4 : aPI cX9_passesWord 4 (nI 4) 5 := Or.inl ⟨4, by decide +kernel, by decide +kernel, rfl⟩
theorem eX9_passesWord_5 : aIc_ge cX9_passesWord 5 8 33 := ⟨28, by decide +kernel, rfl, by decide⟩
theorem eX9_passesWord_8 : aAL cX9_passesWord 8 0 9 := Or.inl ⟨0, by decide +kernel, rfl, rfl⟩
theorem eX9_passesWord_9 : aI3 cX9_passesWord 9 (.getfield 26) 12 := ⟨by decide +kernel, rfl⟩
theorem eX9_passesWord_12 : aPI cX9_passesWord 12 (nI 3) 13 := Or.inl ⟨3, by decide +kernel, by decide +kernel, rfl⟩
theorem eX9_passesWord_13 : aIc_ge cX9_passesWord 13 16 28 := ⟨15, by decide +kernel, rfl, by decide⟩
theorem eX9_passesWord_16 : aIL cX9_passesWord 16 1 17 := Or.inl ⟨1, by decide +kernel, rfl, rfl⟩
theorem eX9_passesWord_17 : aAL cX9_passesWord 17 0 18 := Or.inl ⟨0, by decide +kernel, rfl, rfl⟩
theorem eX9_passesWord_18 : aI3 cX9_passesWord 18 (.getfield 29) 21 := ⟨by decide +kernel, rfl⟩
theorem eX9_passesWord_21 : aIc_le cX9_passesWord 21 24 28 := ⟨7, by decide +kernel, rfl, by decide⟩
theorem eX9_passesWord_24 : aPI cX9_passesWord 24 (nI 1) 25 := Or.inl ⟨1, by decide +kernel, by decide +kernel, rfl⟩
theorem eX9_passesWord_25 : aGo cX9_passesWord 25 29 := ⟨4, by decide +kernel, by decide⟩
theorem eX9_passesWord_28 : aPI cX9_passesWord 28 (nI 0) 29 := Or.inl ⟨0, by decide +kernel, by decide +kernel, rfl⟩
theorem eX9_passesWord_29 : aIS cX9_passesWord 29 2 30 := Or.inl ⟨2, by decide +kernel, rfl, rfl⟩
theorem eX9_passesWord_30 : aGo cX9_passesWord 30 48 := ⟨18, by decide +kernel, by decide⟩
theorem eX9_passesWord_33 : aAL cX9_passesWord 33 0 34 := Or.inl ⟨0, by decide +kernel, rfl, rfl⟩
theorem eX9_passesWord_34 : aI3 cX9_passesWord 34 (.getfield 26) 37 := ⟨by decide +kernel, rfl⟩
theorem eX9_passesWord_37 : aPI cX9_passesWord 37 (nI 10) 39 := Or.inr (Or.inl ⟨10, by decide +kernel, by decide +kernel, rfl⟩)
theorem eX9_passesWord_39 : aIc_ge cX9_passesWord 39 42 46 := ⟨7, by decide +kernel, rfl, by decide⟩
theorem eX9_passesWord_42 : aPI cX9_passesWord 42 (nI 1) 43 := Or.inl ⟨1, by decide +kernel, by decide +kernel, rfl⟩
theorem eX9_passesWord_43 : aGo cX9_passesWord 43 47 := ⟨4, by decide +kernel, by decide⟩
theorem eX9_passesWord_46 : aPI cX9_passesWord 46 (nI 0) 47 := Or.inl ⟨0, by decide +kernel, by decide +kernel, rfl⟩
theorem eX9_passesWord_47 : aIS cX9_passesWord 47 2 48 := Or.inl ⟨2, by decide +kernel, rfl, rfl⟩
theorem eX9_passesWord_48 : aIL cX9_passesWord 48 2 49 := Or.inl ⟨2, by decide +kernel, rfl, rfl⟩
theorem eX9_passesWord_49 : aIf_eq cX9_passesWord 49 52 67 := ⟨18, by decide +kernel, rfl, by decide⟩
theorem eX9_passesWord_52 : aAL cX9_passesWord 52 0 53 := Or.inl ⟨0, by decide +kernel, rfl, rfl⟩
theorem eX9_passesWord_53 : aI1 cX9_passesWord 53 (.dup) 54 := ⟨by decide +kernel, rfl⟩
theorem eX9_passesWord_54 : aI3 cX9_passesWord 54 (.getfield 26) 57 := ⟨by decide +kernel, rfl⟩
theorem eX9_passesWord_57 : aPI cX9_passesWord 57 (nI 1) 58 := Or.inl ⟨1, by decide +kernel, by decide +kernel, rfl⟩
theorem eX9_passesWord_58 : aI1 cX9_passesWord 58 (.iadd) 59 := ⟨by decide +kernel, rfl⟩
theorem eX9_passesWord_59 : aI3 cX9_passesWord 59 (.putfield 26) 62 := ⟨by decide +kernel, rfl⟩
theorem eX9_passesWord_62 : aAL cX9_passesWord 62 0 63 := Or.inl ⟨0, by decide +kernel, rfl, rfl⟩
theorem eX9_passesWord_63 : aIL cX9_passesWord 63 1 64 := Or.inl ⟨1, by decide +kernel, rfl, rfl⟩
theorem eX9_passesWord_64 : aI3 cX9_passesWord 64 (.putfield 29) 67 := ⟨by decide +kernel, rfl⟩
theorem eX9_passesWord_67 : aIL cX9_passesWord 67 2 68 := Or.inl ⟨2, by decide +kernel, rfl, rfl⟩
theorem eX9_passesWord_68 : ∀ x : Int32, (x = 0 ∨ x = 1) → aRet cX9_passesWord (some .boolean) 68 (some (.int x)) := fun x h => Or.inr (Or.inl ⟨x, _, rfl, rfl, by rcases h with rfl | rfl <;> decide +kernel, by decide +kernel⟩)
theorem eX10_init_0 : aAL cX10_init 0 0 1 := Or.inl ⟨0, by decide +kernel, rfl, rfl⟩
theorem eX10_init_1 : aIL cX10_init 1 1 2 := Or.inl ⟨1, by decide +kernel, rfl, rfl⟩
theorem eX10_init_2 : aI3 cX10_init 2 (.invokespecial 1) 5 := ⟨by decide +kernel, rfl⟩
theorem eX10_init_5 : aRet cX10_init none 5 none := Or.inl ⟨rfl, rfl, by decide +kernel⟩
theorem eX10_kind_0 : aPI cX10_kind 0 (nI 4) 1 := Or.inl ⟨4, by decide +kernel, by decide +kernel, rfl⟩
theorem eX10_kind_1 : ∀ x : Int32, aRet cX10_kind (some .int) 1 (some (.int x)) := fun x => Or.inr (Or.inl ⟨x, _, rfl, rfl, rfl, by decide +kernel⟩)
theorem eX10_placesAnyhow_0 : aAL cX10_placesAnyhow 0 0 1 := Or.inl ⟨0, by decide +kernel, rfl, rfl⟩
theorem eX10_placesAnyhow_1 : aAL cX10_placesAnyhow 1 1 2 := Or.inl ⟨1, by decide +kernel, rfl, rfl⟩
theorem eX10_placesAnyhow_2 : aI3 cX10_placesAnyhow 2 (.invokespecial 7) 5 := ⟨by decide +kernel, rfl⟩
theorem eX10_placesAnyhow_5 : aAL cX10_placesAnyhow 5 1 6 := Or.inl ⟨1, by decide +kernel, rfl, rfl⟩
theorem eX10_placesAnyhow_6 : aPI cX10_placesAnyhow 6 (nI 128) 9 := Or.inr (Or.inr ⟨128, by decide +kernel, by decide +kernel, rfl⟩)
theorem eX10_placesAnyhow_9 : aI3 cX10_placesAnyhow 9 (.invokevirtual 13) 12 := ⟨by decide +kernel, rfl⟩
theorem eX10_placesAnyhow_12 : aI1 cX10_placesAnyhow 12 (.ior) 13 := ⟨by decide +kernel, rfl⟩
theorem eX10_placesAnyhow_13 : ∀ x : Int32, aRet cX10_placesAnyhow (some .int) 13 (some (.int x)) := fun x => Or.inr (Or.inl ⟨x, _, rfl, rfl, rfl, by decide +kernel⟩)
theorem eX11_init_0 : aAL cX11_init 0 0 1 := Or.inl ⟨0, by decide +kernel, rfl, rfl⟩
theorem eX11_init_1 : aI3 cX11_init 1 (.invokespecial 1) 4 := ⟨by decide +kernel, rfl⟩
theorem eX11_init_4 : aAL cX11_init 4 0 5 := Or.inl ⟨0, by decide +kernel, rfl, rfl⟩
theorem eX11_init_5 : aI3 cX11_init 5 (.new 7) 8 := ⟨by decide +kernel, rfl⟩
theorem eX11_init_8 : aI1 cX11_init 8 (.dup) 9 := ⟨by decide +kernel, rfl⟩
theorem eX11_init_9 : aI3 cX11_init 9 (.invokespecial 9) 12 := ⟨by decide +kernel, rfl⟩
theorem eX11_init_12 : aI3 cX11_init 12 (.putfield 10) 15 := ⟨by decide +kernel, rfl⟩
theorem eX11_init_15 : aAL cX11_init 15 0 16 := Or.inl ⟨0, by decide +kernel, rfl, rfl⟩
theorem eX11_init_16 : aPI cX11_init 16 (nI 5) 17 := Or.inl ⟨5, by decide +kernel, by decide +kernel, rfl⟩
theorem eX11_init_17 : aI2 cX11_init 17 (.newarray .int) 19 := ⟨by decide +kernel, rfl⟩
theorem eX11_init_19 : aI3 cX11_init 19 (.putfield 16) 22 := ⟨by decide +kernel, rfl⟩
theorem eX11_init_22 : aAL cX11_init 22 0 23 := Or.inl ⟨0, by decide +kernel, rfl, rfl⟩
theorem eX11_init_23 : aPI cX11_init 23 (nI 4) 24 := Or.inl ⟨4, by decide +kernel, by decide +kernel, rfl⟩
theorem eX11_init_24 : aI3 cX11_init 24 (.anewarray 20) 27 := ⟨by decide +kernel, rfl⟩
theorem eX11_init_27 : aI3 cX11_init 27 (.putfield 22) 30 := ⟨by decide +kernel, rfl⟩
theorem eX11_init_30 : aAL cX11_init 30 0 31 := Or.inl ⟨0, by decide +kernel, rfl, rfl⟩
theorem eX11_init_31 : aI3 cX11_init 31 (.new 26) 34 := ⟨by decide +kernel, rfl⟩
theorem eX11_init_34 : aI1 cX11_init 34 (.dup) 35 := ⟨by decide +kernel, rfl⟩
theorem eX11_init_35 : aI3 cX11_init 35 (.invokespecial 28) 38 := ⟨by decide +kernel, rfl⟩
theorem eX11_init_38 : aI3 cX11_init 38 (.putfield 29) 41 := ⟨by decide +kernel, rfl⟩
theorem eX11_init_41 : aAL cX11_init 41 0 42 := Or.inl ⟨0, by decide +kernel, rfl, rfl⟩
theorem eX11_init_42 : aI3 cX11_init 42 (.new 26) 45 := ⟨by decide +kernel, rfl⟩
theorem eX11_init_45 : aI1 cX11_init 45 (.dup) 46 := ⟨by decide +kernel, rfl⟩
theorem eX11_init_46 : aI3 cX11_init 46 (.invokespecial 28) 49 := ⟨by decide +kernel, rfl⟩
theorem eX11_init_49 : aI3 cX11_init 49 (.putfield 33) 52 := ⟨by decide +kernel, rfl⟩
theorem eX11_init_52 : aAL cX11_init 52 0 53 := Or.inl ⟨0, by decide +kernel, rfl, rfl⟩
theorem eX11_init_53 : aI3 cX11_init 53 (.new 36) 56 := ⟨by decide +kernel, rfl⟩
theorem eX11_init_56 : aI1 cX11_init 56 (.dup) 57 := ⟨by decide +kernel, rfl⟩
theorem eX11_init_57 : aI3 cX11_init 57 (.invokespecial 38) 60 := ⟨by decide +kernel, rfl⟩
theorem eX11_init_60 : aI3 cX11_init 60 (.putfield 39) 63 := ⟨by decide +kernel, rfl⟩
theorem eX11_init_63 : aAL cX11_init 63 0 64 := Or.inl ⟨0, by decide +kernel, rfl, rfl⟩
theorem eX11_init_64 : aI3 cX11_init 64 (.new 43) 67 := ⟨by decide +kernel, rfl⟩
theorem eX11_init_67 : aI1 cX11_init 67 (.dup) 68 := ⟨by decide +kernel, rfl⟩
theorem eX11_init_68 : aI3 cX11_init 68 (.invokespecial 45) 71 := ⟨by decide +kernel, rfl⟩
theorem eX11_init_71 : aI3 cX11_init 71 (.putfield 46) 74 := ⟨by decide +kernel, rfl⟩
theorem eX11_init_74 : aRet cX11_init none 74 none := Or.inl ⟨rfl, rfl, by decide +kernel⟩
theorem eX11_letter_0 : aIL cX11_letter 0 1 1 := Or.inl ⟨1, by decide +kernel, rfl, rfl⟩
theorem eX11_letter_1 : aPI cX11_letter 1 (nI 1) 2 := Or.inl ⟨1, by decide +kernel, by decide +kernel, rfl⟩
theorem eX11_letter_2 : aIc_lt cX11_letter 2 5 11 := ⟨9, by decide +kernel, rfl, by decide⟩
theorem eX11_letter_5 : aIL cX11_letter 5 1 6 := Or.inl ⟨1, by decide +kernel, rfl, rfl⟩
theorem eX11_letter_6 : aPI cX11_letter 6 (nI 126) 8 := Or.inr (Or.inl ⟨126, by decide +kernel, by decide +kernel, rfl⟩)
theorem eX11_letter_8 : aIc_le cX11_letter 8 11 14 := ⟨6, by decide +kernel, rfl, by decide⟩
theorem eX11_letter_11 : aPI cX11_letter 11 (-102) 13 := Or.inr (Or.inl ⟨(-102), by decide +kernel, by decide +kernel, rfl⟩)
theorem eX11_letter_13 : ∀ x : Int32, aRet cX11_letter (some .int) 13 (some (.int x)) := fun x => Or.inr (Or.inl ⟨x, _, rfl, rfl, rfl, by decide +kernel⟩)
theorem eX11_letter_14 : aAL cX11_letter 14 0 15 := Or.inl ⟨0, by decide +kernel, rfl, rfl⟩
theorem eX11_letter_15 : aI3 cX11_letter 15 (.getfield 10) 18 := ⟨by decide +kernel, rfl⟩
theorem eX11_letter_18 : aIL cX11_letter 18 1 19 := Or.inl ⟨1, by decide +kernel, rfl, rfl⟩
theorem eX11_letter_19 : aI3 cX11_letter 19 (.invokevirtual 50) 22 := ⟨by decide +kernel, rfl⟩
theorem eX11_letter_22 : aIf_eq cX11_letter 22 25 35 := ⟨13, by decide +kernel, rfl, by decide⟩
theorem eX11_letter_25 : aAL cX11_letter 25 0 26 := Or.inl ⟨0, by decide +kernel, rfl, rfl⟩
theorem eX11_letter_26 : aI3 cX11_letter 26 (.getfield 10) 29 := ⟨by decide +kernel, rfl⟩
theorem eX11_letter_29 : aI3 cX11_letter 29 (.invokevirtual 54) 32 := ⟨by decide +kernel, rfl⟩
theorem eX11_letter_32 : aGo cX11_letter 32 37 := ⟨5, by decide +kernel, by decide⟩
theorem eX11_letter_35 : aPI cX11_letter 35 (-104) 37 := Or.inr (Or.inl ⟨(-104), by decide +kernel, by decide +kernel, rfl⟩)
theorem eX11_letter_37 : ∀ x : Int32, aRet cX11_letter (some .int) 37 (some (.int x)) := fun x => Or.inr (Or.inl ⟨x, _, rfl, rfl, rfl, by decide +kernel⟩)
theorem eX11_blank_0 : aAL cX11_blank 0 0 1 := Or.inl ⟨0, by decide +kernel, rfl, rfl⟩
theorem eX11_blank_1 : aI3 cX11_blank 1 (.getfield 10) 4 := ⟨by decide +kernel, rfl⟩
theorem eX11_blank_4 : aI3 cX11_blank 4 (.invokevirtual 54) 7 := ⟨by decide +kernel, rfl⟩
theorem eX11_blank_7 : aIS cX11_blank 7 1 8 := Or.inl ⟨1, by decide +kernel, rfl, rfl⟩
theorem eX11_blank_8 : aAL cX11_blank 8 0 9 := Or.inl ⟨0, by decide +kernel, rfl, rfl⟩
theorem eX11_blank_9 : aI3 cX11_blank 9 (.getfield 10) 12 := ⟨by decide +kernel, rfl⟩
theorem eX11_blank_12 : aI3 cX11_blank 12 (.invokevirtual 58) 15 := ⟨by decide +kernel, rfl⟩
theorem eX11_blank_15 : aIL cX11_blank 15 1 16 := Or.inl ⟨1, by decide +kernel, rfl, rfl⟩
theorem eX11_blank_16 : ∀ x : Int32, aRet cX11_blank (some .int) 16 (some (.int x)) := fun x => Or.inr (Or.inl ⟨x, _, rfl, rfl, rfl, by decide +kernel⟩)
theorem eX11_fault_0 : aAL cX11_fault 0 0 1 := Or.inl ⟨0, by decide +kernel, rfl, rfl⟩
theorem eX11_fault_1 : aI3 cX11_fault 1 (.getfield 10) 4 := ⟨by decide +kernel, rfl⟩
theorem eX11_fault_4 : aI3 cX11_fault 4 (.invokevirtual 61) 7 := ⟨by decide +kernel, rfl⟩
theorem eX11_fault_7 : ∀ x : Int32, aRet cX11_fault (some .int) 7 (some (.int x)) := fun x => Or.inr (Or.inl ⟨x, _, rfl, rfl, rfl, by decide +kernel⟩)
theorem eX11_court_0 : aAL cX11_court 0 0 1 := Or.inl ⟨0, by decide +kernel, rfl, rfl⟩
theorem eX11_court_1 : aI3 cX11_court 1 (.getfield 10) 4 := ⟨by decide +kernel, rfl⟩
theorem eX11_court_4 : aI3 cX11_court 4 (.invokevirtual 64) 7 := ⟨by decide +kernel, rfl⟩
theorem eX11_court_7 : aIf_ne cX11_court 7 10 13 := ⟨6, by decide +kernel, rfl, by decide⟩
theorem eX11_court_10 : aPI cX11_court 10 (-103) 12 := Or.inr (Or.inl ⟨(-103), by decide +kernel, by decide +kernel, rfl⟩)
theorem eX11_court_12 : ∀ x : Int32, aRet cX11_court (some .int) 12 (some (.int x)) := fun x => Or.inr (Or.inl ⟨x, _, rfl, rfl, rfl, by decide +kernel⟩)
theorem eX11_court_13 : aAL cX11_court 13 0 14 := Or.inl ⟨0, by decide +kernel, rfl, rfl⟩
theorem eX11_court_14 : aI3 cX11_court 14 (.invokevirtual 68) 17 := ⟨by decide +kernel, rfl⟩
theorem eX11_court_17 : aAL cX11_court 17 0 18 := Or.inl ⟨0, by decide +kernel, rfl, rfl⟩
theorem eX11_court_18 : aI3 cX11_court 18 (.getfield 10) 21 := ⟨by decide +kernel, rfl⟩
theorem eX11_court_21 : aI3 cX11_court 21 (.invokevirtual 58) 24 := ⟨by decide +kernel, rfl⟩
theorem eX11_court_24 : aAL cX11_court 24 0 25 := Or.inl ⟨0, by decide +kernel, rfl, rfl⟩
theorem eX11_court_25 : aPI cX11_court 25 (nI 0) 26 := Or.inl ⟨0, by decide +kernel, by decide +kernel, rfl⟩
theorem eX11_court_26 : aI3 cX11_court 26 (.putfield 71) 29 := ⟨by decide +kernel, rfl⟩
theorem eX11_court_29 : aAL cX11_court 29 0 30 := Or.inl ⟨0, by decide +kernel, rfl, rfl⟩
theorem eX11_court_30 : aI1 cX11_court 30 (.dup) 31 := ⟨by decide +kernel, rfl⟩
theorem eX11_court_31 : aI3 cX11_court 31 (.getfield 75) 34 := ⟨by decide +kernel, rfl⟩
theorem eX11_court_34 : aPI cX11_court 34 (nI 1) 35 := Or.inl ⟨1, by decide +kernel, by decide +kernel, rfl⟩
theorem eX11_court_35 : aI1 cX11_court 35 (.iadd) 36 := ⟨by decide +kernel, rfl⟩
theorem eX11_court_36 : aI3 cX11_court 36 (.putfield 75) 39 := ⟨by decide +kernel, rfl⟩
theorem eX11_court_39 : aAL cX11_court 39 0 40 := Or.inl ⟨0, by decide +kernel, rfl, rfl⟩
theorem eX11_court_40 : aI3 cX11_court 40 (.getfield 29) 43 := ⟨by decide +kernel, rfl⟩
theorem eX11_court_43 : aI3 cX11_court 43 (.getfield 79) 46 := ⟨by decide +kernel, rfl⟩
theorem eX11_court_46 : aI3 cX11_court 46 (.invokevirtual 82) 49 := ⟨by decide +kernel, rfl⟩
theorem eX11_court_49 : ∀ x : Int32, aRet cX11_court (some .int) 49 (some (.int x)) := fun x => Or.inr (Or.inl ⟨x, _, rfl, rfl, rfl, by decide +kernel⟩)
theorem eX11_near_0 : aAL cX11_near 0 0 1 := Or.inl ⟨0, by decide +kernel, rfl, rfl⟩
theorem eX11_near_1 : aI3 cX11_near 1 (.invokevirtual 83) 4 := ⟨by decide +kernel, rfl⟩
theorem eX11_near_4 : aIf_eq cX11_near 4 7 16 := ⟨12, by decide +kernel, rfl, by decide⟩
theorem eX11_near_7 : aIL cX11_near 7 1 8 := Or.inl ⟨1, by decide +kernel, rfl, rfl⟩
theorem eX11_near_8 : aIf_lt cX11_near 8 11 16 := ⟨8, by decide +kernel, rfl, by decide⟩
theorem eX11_near_11 : aIL cX11_near 11 1 12 := Or.inl ⟨1, by decide +kernel, rfl, rfl⟩
theorem eX11_near_12 : aPI cX11_near 12 (nI 5) 13 := Or.inl ⟨5, by decide +kernel, by decide +kernel, rfl⟩
theorem eX11_near_13 : aIc_lt cX11_near 13 16 19 := ⟨6, by decide +kernel, rfl, by decide⟩
theorem eX11_near_16 : aPI cX11_near 16 (-101) 18 := Or.inr (Or.inl ⟨(-101), by decide +kernel, by decide +kernel, rfl⟩)
theorem eX11_near_18 : ∀ x : Int32, aRet cX11_near (some .int) 18 (some (.int x)) := fun x => Or.inr (Or.inl ⟨x, _, rfl, rfl, rfl, by decide +kernel⟩)
theorem eX11_near_19 : aAL cX11_near 19 0 20 := Or.inl ⟨0, by decide +kernel, rfl, rfl⟩
theorem eX11_near_20 : aI3 cX11_near 20 (.getfield 16) 23 := ⟨by decide +kernel, rfl⟩
theorem eX11_near_23 : aIL cX11_near 23 1 24 := Or.inl ⟨1, by decide +kernel, rfl, rfl⟩
theorem eX11_near_24 : aI1 cX11_near 24 (.iaload) 25 := ⟨by decide +kernel, rfl⟩
theorem eX11_near_25 : ∀ x : Int32, aRet cX11_near (some .int) 25 (some (.int x)) := fun x => Or.inr (Or.inl ⟨x, _, rfl, rfl, rfl, by decide +kernel⟩)
theorem eX11_word_0 : aAL cX11_word 0 0 1 := Or.inl ⟨0, by decide +kernel, rfl, rfl⟩
theorem eX11_word_1 : aI3 cX11_word 1 (.getfield 29) 4 := ⟨by decide +kernel, rfl⟩
theorem eX11_word_4 : aI3 cX11_word 4 (.getfield 79) 7 := ⟨by decide +kernel, rfl⟩
theorem eX11_word_7 : aIL cX11_word 7 1 8 := Or.inl ⟨1, by decide +kernel, rfl, rfl⟩
theorem eX11_word_8 : aI3 cX11_word 8 (.invokevirtual 86) 11 := ⟨by decide +kernel, rfl⟩
theorem eX11_word_11 : aIf_eq cX11_word 11 14 28 := ⟨17, by decide +kernel, rfl, by decide⟩
theorem eX11_word_14 : aAL cX11_word 14 0 15 := Or.inl ⟨0, by decide +kernel, rfl, rfl⟩
theorem eX11_word_15 : aI3 cX11_word 15 (.getfield 29) 18 := ⟨by decide +kernel, rfl⟩
theorem eX11_word_18 : aI3 cX11_word 18 (.getfield 79) 21 := ⟨by decide +kernel, rfl⟩
theorem eX11_word_21 : aIL cX11_word 21 1 22 := Or.inl ⟨1, by decide +kernel, rfl, rfl⟩
theorem eX11_word_22 : aI3 cX11_word 22 (.invokevirtual 89) 25 := ⟨by decide +kernel, rfl⟩
theorem eX11_word_25 : aGo cX11_word 25 30 := ⟨5, by decide +kernel, by decide⟩
theorem eX11_word_28 : aPI cX11_word 28 (-101) 30 := Or.inr (Or.inl ⟨(-101), by decide +kernel, by decide +kernel, rfl⟩)
theorem eX11_word_30 : ∀ x : Int32, aRet cX11_word (some .int) 30 (some (.int x)) := fun x => Or.inr (Or.inl ⟨x, _, rfl, rfl, rfl, by decide +kernel⟩)
theorem eX11_put_0 : aAL cX11_put 0 0 1 := Or.inl ⟨0, by decide +kernel, rfl, rfl⟩
theorem eX11_put_1 : aI3 cX11_put 1 (.getfield 29) 4 := ⟨by decide +kernel, rfl⟩
theorem eX11_put_4 : aI3 cX11_put 4 (.getfield 79) 7 := ⟨by decide +kernel, rfl⟩
theorem eX11_put_7 : aIL cX11_put 7 1 8 := Or.inl ⟨1, by decide +kernel, rfl, rfl⟩
theorem eX11_put_8 : aI3 cX11_put 8 (.invokevirtual 86) 11 := ⟨by decide +kernel, rfl⟩
theorem eX11_put_11 : aIf_ne cX11_put 11 14 17 := ⟨6, by decide +kernel, rfl, by decide⟩
theorem eX11_put_14 : aPI cX11_put 14 (-101) 16 := Or.inr (Or.inl ⟨(-101), by decide +kernel, by decide +kernel, rfl⟩)
theorem eX11_put_16 : ∀ x : Int32, aRet cX11_put (some .int) 16 (some (.int x)) := fun x => Or.inr (Or.inl ⟨x, _, rfl, rfl, rfl, by decide +kernel⟩)
theorem eX11_put_17 : aIL cX11_put 17 2 18 := Or.inl ⟨2, by decide +kernel, rfl, rfl⟩
theorem eX11_put_18 : aI3 cX11_put 18 (.invokestatic 93) 21 := ⟨by decide +kernel, rfl⟩
theorem eX11_put_21 : aIf_ne cX11_put 21 24 27 := ⟨6, by decide +kernel, rfl, by decide⟩
theorem eX11_put_24 : aPI cX11_put 24 (-102) 26 := Or.inr (Or.inl ⟨(-102), by decide +kernel, by decide +kernel, rfl⟩)
theorem eX11_put_26 : ∀ x : Int32, aRet cX11_put (some .int) 26 (some (.int x)) := fun x => Or.inr (Or.inl ⟨x, _, rfl, rfl, rfl, by decide +kernel⟩)
theorem eX11_put_27 : aAL cX11_put 27 0 28 := Or.inl ⟨0, by decide +kernel, rfl, rfl⟩
theorem eX11_put_28 : aI3 cX11_put 28 (.getfield 29) 31 := ⟨by decide +kernel, rfl⟩
theorem eX11_put_31 : aI3 cX11_put 31 (.getfield 79) 34 := ⟨by decide +kernel, rfl⟩
theorem eX11_put_34 : aIL cX11_put 34 1 35 := Or.inl ⟨1, by decide +kernel, rfl, rfl⟩
theorem eX11_put_35 : aI3 cX11_put 35 (.invokevirtual 89) 38 := ⟨by decide +kernel, rfl⟩
theorem eX11_put_38 : aIS cX11_put 38 3 39 := Or.inl ⟨3, by decide +kernel, rfl, rfl⟩
theorem eX11_put_39 : aAL cX11_put 39 0 40 := Or.inl ⟨0, by decide +kernel, rfl, rfl⟩
theorem eX11_put_40 : aI3 cX11_put 40 (.getfield 29) 43 := ⟨by decide +kernel, rfl⟩
theorem eX11_put_43 : aI3 cX11_put 43 (.getfield 79) 46 := ⟨by decide +kernel, rfl⟩
theorem eX11_put_46 : aIL cX11_put 46 1 47 := Or.inl ⟨1, by decide +kernel, rfl, rfl⟩
theorem eX11_put_47 : aIL cX11_put 47 2 48 := Or.inl ⟨2, by decide +kernel, rfl, rfl⟩
theorem eX11_put_48 : aI3 cX11_put 48 (.invokevirtual 96) 51 := ⟨by decide +kernel, rfl⟩
theorem eX11_put_51 : aAL cX11_put 51 0 52 := Or.inl ⟨0, by decide +kernel, rfl, rfl⟩
theorem eX11_put_52 : aI3 cX11_put 52 (.getfield 29) 55 := ⟨by decide +kernel, rfl⟩
theorem eX11_put_55 : aI1 cX11_put 55 (.dup) 56 := ⟨by decide +kernel, rfl⟩
theorem eX11_put_56 : aI3 cX11_put 56 (.getfield 100) 59 := ⟨by decide +kernel, rfl⟩
theorem eX11_put_59 : aPI cX11_put 59 (nI 1) 60 := Or.inl ⟨1, by decide +kernel, by decide +kernel, rfl⟩
theorem eX11_put_60 : aI1 cX11_put 60 (.iadd) 61 := ⟨by decide +kernel, rfl⟩
theorem eX11_put_61 : aI3 cX11_put 61 (.putfield 100) 64 := ⟨by decide +kernel, rfl⟩
theorem eX11_put_64 : aIL cX11_put 64 3 65 := Or.inl ⟨3, by decide +kernel, rfl, rfl⟩
theorem eX11_put_65 : ∀ x : Int32, aRet cX11_put (some .int) 65 (some (.int x)) := fun x => Or.inr (Or.inl ⟨x, _, rfl, rfl, rfl, by decide +kernel⟩)
theorem eX11_limit_0 : aIL cX11_limit 0 1 1 := Or.inl ⟨1, by decide +kernel, rfl, rfl⟩
theorem eX11_limit_1 : aPI cX11_limit 1 (nI 1) 2 := Or.inl ⟨1, by decide +kernel, by decide +kernel, rfl⟩
theorem eX11_limit_2 : aIc_lt cX11_limit 2 5 11 := ⟨9, by decide +kernel, rfl, by decide⟩
theorem eX11_limit_5 : aIL cX11_limit 5 1 6 := Or.inl ⟨1, by decide +kernel, rfl, rfl⟩
theorem eX11_limit_6 : aPI cX11_limit 6 (nI 10) 8 := Or.inr (Or.inl ⟨10, by decide +kernel, by decide +kernel, rfl⟩)
theorem eX11_limit_8 : aIc_le cX11_limit 8 11 14 := ⟨6, by decide +kernel, rfl, by decide⟩
theorem eX11_limit_11 : aPI cX11_limit 11 (-102) 13 := Or.inr (Or.inl ⟨(-102), by decide +kernel, by decide +kernel, rfl⟩)
theorem eX11_limit_13 : ∀ x : Int32, aRet cX11_limit (some .int) 13 (some (.int x)) := fun x => Or.inr (Or.inl ⟨x, _, rfl, rfl, rfl, by decide +kernel⟩)
theorem eX11_limit_14 : aAL cX11_limit 14 0 15 := Or.inl ⟨0, by decide +kernel, rfl, rfl⟩
theorem eX11_limit_15 : aI3 cX11_limit 15 (.invokevirtual 83) 18 := ⟨by decide +kernel, rfl⟩
theorem eX11_limit_18 : aIf_ne cX11_limit 18 21 24 := ⟨6, by decide +kernel, rfl, by decide⟩
theorem eX11_limit_21 : aPI cX11_limit 21 (-103) 23 := Or.inr (Or.inl ⟨(-103), by decide +kernel, by decide +kernel, rfl⟩)
theorem eX11_limit_23 : ∀ x : Int32, aRet cX11_limit (some .int) 23 (some (.int x)) := fun x => Or.inr (Or.inl ⟨x, _, rfl, rfl, rfl, by decide +kernel⟩)
theorem eX11_limit_24 : aAL cX11_limit 24 0 25 := Or.inl ⟨0, by decide +kernel, rfl, rfl⟩
theorem eX11_limit_25 : aI3 cX11_limit 25 (.getfield 29) 28 := ⟨by decide +kernel, rfl⟩
theorem eX11_limit_28 : aI3 cX11_limit 28 (.getfield 103) 31 := ⟨by decide +kernel, rfl⟩
theorem eX11_limit_31 : aIS cX11_limit 31 2 32 := Or.inl ⟨2, by decide +kernel, rfl, rfl⟩
theorem eX11_limit_32 : aAL cX11_limit 32 0 33 := Or.inl ⟨0, by decide +kernel, rfl, rfl⟩
theorem eX11_limit_33 : aI3 cX11_limit 33 (.getfield 29) 36 := ⟨by decide +kernel, rfl⟩
theorem eX11_limit_36 : aIL cX11_limit 36 1 37 := Or.inl ⟨1, by decide +kernel, rfl, rfl⟩
theorem eX11_limit_37 : aI3 cX11_limit 37 (.putfield 103) 40 := ⟨by decide +kernel, rfl⟩
theorem eX11_limit_40 : aAL cX11_limit 40 0 41 := Or.inl ⟨0, by decide +kernel, rfl, rfl⟩
theorem eX11_limit_41 : aI3 cX11_limit 41 (.getfield 29) 44 := ⟨by decide +kernel, rfl⟩
theorem eX11_limit_44 : aI1 cX11_limit 44 (.dup) 45 := ⟨by decide +kernel, rfl⟩
theorem eX11_limit_45 : aI3 cX11_limit 45 (.getfield 100) 48 := ⟨by decide +kernel, rfl⟩
theorem eX11_limit_48 : aPI cX11_limit 48 (nI 1) 49 := Or.inl ⟨1, by decide +kernel, by decide +kernel, rfl⟩
theorem eX11_limit_49 : aI1 cX11_limit 49 (.iadd) 50 := ⟨by decide +kernel, rfl⟩
theorem eX11_limit_50 : aI3 cX11_limit 50 (.putfield 100) 53 := ⟨by decide +kernel, rfl⟩
theorem eX11_limit_53 : aIL cX11_limit 53 2 54 := Or.inl ⟨2, by decide +kernel, rfl, rfl⟩
theorem eX11_limit_54 : ∀ x : Int32, aRet cX11_limit (some .int) 54 (some (.int x)) := fun x => Or.inr (Or.inl ⟨x, _, rfl, rfl, rfl, by decide +kernel⟩)
theorem eX11_accuse_0 : aIL cX11_accuse 0 1 1 := Or.inl ⟨1, by decide +kernel, rfl, rfl⟩
theorem eX11_accuse_1 : aI3 cX11_accuse 1 (.invokestatic 106) 4 := ⟨by decide +kernel, rfl⟩
theorem eX11_accuse_4 : aIf_eq cX11_accuse 4 7 16 := ⟨12, by decide +kernel, rfl, by decide⟩
theorem eX11_accuse_7 : aIL cX11_accuse 7 2 8 := Or.inl ⟨2, by decide +kernel, rfl, rfl⟩
theorem eX11_accuse_8 : aIf_lt cX11_accuse 8 11 16 := ⟨8, by decide +kernel, rfl, by decide⟩
theorem eX11_accuse_11 : aIL cX11_accuse 11 2 12 := Or.inl ⟨2, by decide +kernel, rfl, rfl⟩
theorem eX11_accuse_12 : aPI cX11_accuse 12 (nI 5) 13 := Or.inl ⟨5, by decide +kernel, by decide +kernel, rfl⟩
theorem eX11_accuse_13 : aIc_lt cX11_accuse 13 16 19 := ⟨6, by decide +kernel, rfl, by decide⟩
theorem eX11_accuse_16 : aPI cX11_accuse 16 (-102) 18 := Or.inr (Or.inl ⟨(-102), by decide +kernel, by decide +kernel, rfl⟩)
theorem eX11_accuse_18 : ∀ x : Int32, aRet cX11_accuse (some .int) 18 (some (.int x)) := fun x => Or.inr (Or.inl ⟨x, _, rfl, rfl, rfl, by decide +kernel⟩)
theorem eX11_accuse_19 : aAL cX11_accuse 19 0 20 := Or.inl ⟨0, by decide +kernel, rfl, rfl⟩
theorem eX11_accuse_20 : aI3 cX11_accuse 20 (.invokevirtual 83) 23 := ⟨by decide +kernel, rfl⟩
theorem eX11_accuse_23 : aIf_ne cX11_accuse 23 26 29 := ⟨6, by decide +kernel, rfl, by decide⟩
theorem eX11_accuse_26 : aPI cX11_accuse 26 (-103) 28 := Or.inr (Or.inl ⟨(-103), by decide +kernel, by decide +kernel, rfl⟩)
theorem eX11_accuse_28 : ∀ x : Int32, aRet cX11_accuse (some .int) 28 (some (.int x)) := fun x => Or.inr (Or.inl ⟨x, _, rfl, rfl, rfl, by decide +kernel⟩)
theorem eX11_accuse_29 : aAL cX11_accuse 29 0 30 := Or.inl ⟨0, by decide +kernel, rfl, rfl⟩
theorem eX11_accuse_30 : aI3 cX11_accuse 30 (.getfield 29) 33 := ⟨by decide +kernel, rfl⟩
theorem eX11_accuse_33 : aI3 cX11_accuse 33 (.getfield 109) 36 := ⟨by decide +kernel, rfl⟩
theorem eX11_accuse_36 : aIS cX11_accuse 36 3 37 := Or.inl ⟨3, by decide +kernel, rfl, rfl⟩
theorem eX11_accuse_37 : aIL cX11_accuse 37 3 38 := Or.inl ⟨3, by decide +kernel, rfl, rfl⟩
theorem eX11_accuse_38 : aIf_lt cX11_accuse 38 41 46 := ⟨8, by decide +kernel, rfl, by decide⟩
theorem eX11_accuse_41 : aIL cX11_accuse 41 3 42 := Or.inl ⟨3, by decide +kernel, rfl, rfl⟩
theorem eX11_accuse_42 : aPI cX11_accuse 42 (nI 4) 43 := Or.inl ⟨4, by decide +kernel, by decide +kernel, rfl⟩
theorem eX11_accuse_43 : aIc_lt cX11_accuse 43 46 49 := ⟨6, by decide +kernel, rfl, by decide⟩
theorem eX11_accuse_46 : aPI cX11_accuse 46 (-104) 48 := Or.inr (Or.inl ⟨(-104), by decide +kernel, by decide +kernel, rfl⟩)
theorem eX11_accuse_48 : ∀ x : Int32, aRet cX11_accuse (some .int) 48 (some (.int x)) := fun x => Or.inr (Or.inl ⟨x, _, rfl, rfl, rfl, by decide +kernel⟩)
theorem eX11_accuse_49 : aAL cX11_accuse 49 0 50 := Or.inl ⟨0, by decide +kernel, rfl, rfl⟩
theorem eX11_accuse_50 : aI3 cX11_accuse 50 (.getfield 22) 53 := ⟨by decide +kernel, rfl⟩
theorem eX11_accuse_53 : aIL cX11_accuse 53 3 54 := Or.inl ⟨3, by decide +kernel, rfl, rfl⟩
theorem eX11_accuse_54 : aIL cX11_accuse 54 1 55 := Or.inl ⟨1, by decide +kernel, rfl, rfl⟩
theorem eX11_accuse_55 : aIL cX11_accuse 55 2 56 := Or.inl ⟨2, by decide +kernel, rfl, rfl⟩
theorem eX11_accuse_56 : aI3 cX11_accuse 56 (.invokestatic 111) 59 := ⟨by decide +kernel, rfl⟩
theorem eX11_accuse_59 : aI1 cX11_accuse 59 (.aastore) 60 := ⟨by decide +kernel, rfl⟩
theorem eX11_accuse_60 : aAL cX11_accuse 60 0 61 := Or.inl ⟨0, by decide +kernel, rfl, rfl⟩
theorem eX11_accuse_61 : aI3 cX11_accuse 61 (.getfield 29) 64 := ⟨by decide +kernel, rfl⟩
theorem eX11_accuse_64 : aI3 cX11_accuse 64 (.getfield 115) 67 := ⟨by decide +kernel, rfl⟩
theorem eX11_accuse_67 : aIL cX11_accuse 67 3 68 := Or.inl ⟨3, by decide +kernel, rfl, rfl⟩
theorem eX11_accuse_68 : aPI cX11_accuse 68 (nI 0) 69 := Or.inl ⟨0, by decide +kernel, by decide +kernel, rfl⟩
theorem eX11_accuse_69 : aI1 cX11_accuse 69 (.iastore) 70 := ⟨by decide +kernel, rfl⟩
theorem eX11_accuse_70 : aAL cX11_accuse 70 0 71 := Or.inl ⟨0, by decide +kernel, rfl, rfl⟩
theorem eX11_accuse_71 : aI3 cX11_accuse 71 (.getfield 29) 74 := ⟨by decide +kernel, rfl⟩
theorem eX11_accuse_74 : aI1 cX11_accuse 74 (.dup) 75 := ⟨by decide +kernel, rfl⟩
theorem eX11_accuse_75 : aI3 cX11_accuse 75 (.getfield 109) 78 := ⟨by decide +kernel, rfl⟩
theorem eX11_accuse_78 : aPI cX11_accuse 78 (nI 1) 79 := Or.inl ⟨1, by decide +kernel, by decide +kernel, rfl⟩
theorem eX11_accuse_79 : aI1 cX11_accuse 79 (.iadd) 80 := ⟨by decide +kernel, rfl⟩
theorem eX11_accuse_80 : aI3 cX11_accuse 80 (.putfield 109) 83 := ⟨by decide +kernel, rfl⟩
theorem eX11_accuse_83 : aIL cX11_accuse 83 3 84 := Or.inl ⟨3, by decide +kernel, rfl, rfl⟩
theorem eX11_accuse_84 : ∀ x : Int32, aRet cX11_accuse (some .int) 84 (some (.int x)) := fun x => Or.inr (Or.inl ⟨x, _, rfl, rfl, rfl, by decide +kernel⟩)
theorem eX11_about_0 : aAL cX11_about 0 0 1 := Or.inl ⟨0, by decide +kernel, rfl, rfl⟩
theorem eX11_about_1 : aIL cX11_about 1 1 2 := Or.inl ⟨1, by decide +kernel, rfl, rfl⟩
theorem eX11_about_2 : aI3 cX11_about 2 (.invokevirtual 118) 5 := ⟨by decide +kernel, rfl⟩
theorem eX11_about_5 : aAS cX11_about 5 3 6 := Or.inl ⟨3, by decide +kernel, rfl, rfl⟩
theorem eX11_about_6 : aAL cX11_about 6 3 7 := Or.inl ⟨3, by decide +kernel, rfl, rfl⟩
theorem eX11_about_7 : aNn cX11_about 7 10 13 := ⟨6, by decide +kernel, rfl, by decide⟩
theorem eX11_about_10 : aPI cX11_about 10 (-101) 12 := Or.inr (Or.inl ⟨(-101), by decide +kernel, by decide +kernel, rfl⟩)
theorem eX11_about_12 : ∀ x : Int32, aRet cX11_about (some .int) 12 (some (.int x)) := fun x => Or.inr (Or.inl ⟨x, _, rfl, rfl, rfl, by decide +kernel⟩)
theorem eX11_about_13 : aIL cX11_about 13 2 14 := Or.inl ⟨2, by decide +kernel, rfl, rfl⟩
theorem eX11_about_14 : decode cX11_about 14 = .ok (.tableswitch 140 0 7 #[46, 51, 56, 69, 85, 116, 122, 134], 46) := by decide +kernel
theorem eX11_about_60 : aAL cX11_about 60 3 61 := Or.inl ⟨3, by decide +kernel, rfl, rfl⟩
theorem eX11_about_61 : aI3 cX11_about 61 (.invokevirtual 122) 64 := ⟨by decide +kernel, rfl⟩
theorem eX11_about_64 : ∀ x : Int32, aRet cX11_about (some .int) 64 (some (.int x)) := fun x => Or.inr (Or.inl ⟨x, _, rfl, rfl, rfl, by decide +kernel⟩)
theorem eX11_about_65 : aAL cX11_about 65 3 66 := Or.inl ⟨3, by decide +kernel, rfl, rfl⟩
theorem eX11_about_66 : aI3 cX11_about 66 (.invokevirtual 125) 69 := ⟨by decide +kernel, rfl⟩
theorem eX11_about_69 : ∀ x : Int32, aRet cX11_about (some .int) 69 (some (.int x)) := fun x => Or.inr (Or.inl ⟨x, _, rfl, rfl, rfl, by decide +kernel⟩)
theorem eX11_about_70 : aAL cX11_about 70 0 71 := Or.inl ⟨0, by decide +kernel, rfl, rfl⟩
theorem eX11_about_71 : aIL cX11_about 71 1 72 := Or.inl ⟨1, by decide +kernel, rfl, rfl⟩
theorem eX11_about_72 : aAL cX11_about 72 0 73 := Or.inl ⟨0, by decide +kernel, rfl, rfl⟩
theorem eX11_about_73 : aI3 cX11_about 73 (.getfield 29) 76 := ⟨by decide +kernel, rfl⟩
theorem eX11_about_76 : aI3 cX11_about 76 (.getfield 79) 79 := ⟨by decide +kernel, rfl⟩
theorem eX11_about_79 : aI3 cX11_about 79 (.invokevirtual 128) 82 := ⟨by decide +kernel, rfl⟩
theorem eX11_about_82 : ∀ x : Int32, aRet cX11_about (some .int) 82 (some (.int x)) := fun x => Or.inr (Or.inl ⟨x, _, rfl, rfl, rfl, by decide +kernel⟩)
theorem eX11_about_83 : aAL cX11_about 83 0 84 := Or.inl ⟨0, by decide +kernel, rfl, rfl⟩
theorem eX11_about_84 : aIL cX11_about 84 1 85 := Or.inl ⟨1, by decide +kernel, rfl, rfl⟩
theorem eX11_about_85 : aAL cX11_about 85 0 86 := Or.inl ⟨0, by decide +kernel, rfl, rfl⟩
theorem eX11_about_86 : aI3 cX11_about 86 (.getfield 29) 89 := ⟨by decide +kernel, rfl⟩
theorem eX11_about_89 : aI3 cX11_about 89 (.getfield 79) 92 := ⟨by decide +kernel, rfl⟩
theorem eX11_about_92 : aI3 cX11_about 92 (.invokevirtual 128) 95 := ⟨by decide +kernel, rfl⟩
theorem eX11_about_95 : aI3 cX11_about 95 (.invokestatic 132) 98 := ⟨by decide +kernel, rfl⟩
theorem eX11_about_98 : ∀ x : Int32, aRet cX11_about (some .int) 98 (some (.int x)) := fun x => Or.inr (Or.inl ⟨x, _, rfl, rfl, rfl, by decide +kernel⟩)
theorem eX11_about_99 : aAL cX11_about 99 0 100 := Or.inl ⟨0, by decide +kernel, rfl, rfl⟩
theorem eX11_about_100 : aIL cX11_about 100 1 101 := Or.inl ⟨1, by decide +kernel, rfl, rfl⟩
theorem eX11_about_101 : aAL cX11_about 101 0 102 := Or.inl ⟨0, by decide +kernel, rfl, rfl⟩
theorem eX11_about_102 : aI3 cX11_about 102 (.getfield 29) 105 := ⟨by decide +kernel, rfl⟩
theorem eX11_about_105 : aI3 cX11_about 105 (.getfield 79) 108 := ⟨by decide +kernel, rfl⟩
theorem eX11_about_108 : aI3 cX11_about 108 (.invokevirtual 128) 111 := ⟨by decide +kernel, rfl⟩
theorem eX11_about_111 : aI3 cX11_about 111 (.invokestatic 132) 114 := ⟨by decide +kernel, rfl⟩
theorem eX11_about_114 : aAL cX11_about 114 0 115 := Or.inl ⟨0, by decide +kernel, rfl, rfl⟩
theorem eX11_about_115 : aI3 cX11_about 115 (.getfield 29) 118 := ⟨by decide +kernel, rfl⟩
theorem eX11_about_118 : aI3 cX11_about 118 (.getfield 103) 121 := ⟨by decide +kernel, rfl⟩
theorem eX11_about_121 : aIc_lt cX11_about 121 124 128 := ⟨7, by decide +kernel, rfl, by decide⟩
theorem eX11_about_124 : aPI cX11_about 124 (nI 1) 125 := Or.inl ⟨1, by decide +kernel, by decide +kernel, rfl⟩
theorem eX11_about_125 : aGo cX11_about 125 129 := ⟨4, by decide +kernel, by decide⟩
theorem eX11_about_128 : aPI cX11_about 128 (nI 0) 129 := Or.inl ⟨0, by decide +kernel, by decide +kernel, rfl⟩
theorem eX11_about_129 : ∀ x : Int32, aRet cX11_about (some .int) 129 (some (.int x)) := fun x => Or.inr (Or.inl ⟨x, _, rfl, rfl, rfl, by decide +kernel⟩)
theorem eX11_about_130 : aAL cX11_about 130 0 131 := Or.inl ⟨0, by decide +kernel, rfl, rfl⟩
theorem eX11_about_131 : aIL cX11_about 131 1 132 := Or.inl ⟨1, by decide +kernel, rfl, rfl⟩
theorem eX11_about_132 : aI3 cX11_about 132 (.invokevirtual 137) 135 := ⟨by decide +kernel, rfl⟩
theorem eX11_about_135 : ∀ x : Int32, aRet cX11_about (some .int) 135 (some (.int x)) := fun x => Or.inr (Or.inl ⟨x, _, rfl, rfl, rfl, by decide +kernel⟩)
theorem eX11_about_136 : aAL cX11_about 136 0 137 := Or.inl ⟨0, by decide +kernel, rfl, rfl⟩
theorem eX11_about_137 : aI3 cX11_about 137 (.getfield 29) 140 := ⟨by decide +kernel, rfl⟩
theorem eX11_about_140 : aI3 cX11_about 140 (.getfield 140) 143 := ⟨by decide +kernel, rfl⟩
theorem eX11_about_143 : aIL cX11_about 143 1 144 := Or.inl ⟨1, by decide +kernel, rfl, rfl⟩
theorem eX11_about_144 : aI3 cX11_about 144 (.invokevirtual 144) 147 := ⟨by decide +kernel, rfl⟩
theorem eX11_about_147 : ∀ x : Int32, aRet cX11_about (some .int) 147 (some (.int x)) := fun x => Or.inr (Or.inl ⟨x, _, rfl, rfl, rfl, by decide +kernel⟩)
theorem eX11_about_148 : aAL cX11_about 148 0 149 := Or.inl ⟨0, by decide +kernel, rfl, rfl⟩
theorem eX11_about_149 : aIL cX11_about 149 1 150 := Or.inl ⟨1, by decide +kernel, rfl, rfl⟩
theorem eX11_about_150 : aI3 cX11_about 150 (.invokevirtual 149) 153 := ⟨by decide +kernel, rfl⟩
theorem eX11_about_153 : ∀ x : Int32, aRet cX11_about (some .int) 153 (some (.int x)) := fun x => Or.inr (Or.inl ⟨x, _, rfl, rfl, rfl, by decide +kernel⟩)
theorem eX11_about_154 : aPI cX11_about 154 (-102) 156 := Or.inr (Or.inl ⟨(-102), by decide +kernel, by decide +kernel, rfl⟩)
theorem eX11_about_156 : ∀ x : Int32, aRet cX11_about (some .int) 156 (some (.int x)) := fun x => Or.inr (Or.inl ⟨x, _, rfl, rfl, rfl, by decide +kernel⟩)
theorem eX11_as_0 : aAL cX11_as 0 0 1 := Or.inl ⟨0, by decide +kernel, rfl, rfl⟩
theorem eX11_as_1 : aIL cX11_as 1 1 2 := Or.inl ⟨1, by decide +kernel, rfl, rfl⟩
theorem eX11_as_2 : aI3 cX11_as 2 (.invokevirtual 118) 5 := ⟨by decide +kernel, rfl⟩
theorem eX11_as_5 : aAS cX11_as 5 3 6 := Or.inl ⟨3, by decide +kernel, rfl, rfl⟩
theorem eX11_as_6 : aAL cX11_as 6 3 7 := Or.inl ⟨3, by decide +kernel, rfl, rfl⟩
theorem eX11_as_7 : aNn cX11_as 7 10 13 := ⟨6, by decide +kernel, rfl, by decide⟩
theorem eX11_as_10 : aPI cX11_as 10 (-101) 12 := Or.inr (Or.inl ⟨(-101), by decide +kernel, by decide +kernel, rfl⟩)
theorem eX11_as_12 : ∀ x : Int32, aRet cX11_as (some .int) 12 (some (.int x)) := fun x => Or.inr (Or.inl ⟨x, _, rfl, rfl, rfl, by decide +kernel⟩)
theorem eX11_as_13 : aIL cX11_as 13 2 14 := Or.inl ⟨2, by decide +kernel, rfl, rfl⟩
theorem eX11_as_14 : aI3 cX11_as 14 (.invokestatic 106) 17 := ⟨by decide +kernel, rfl⟩
theorem eX11_as_17 : aIf_ne cX11_as 17 20 23 := ⟨6, by decide +kernel, rfl, by decide⟩
theorem eX11_as_20 : aPI cX11_as 20 (-102) 22 := Or.inr (Or.inl ⟨(-102), by decide +kernel, by decide +kernel, rfl⟩)
theorem eX11_as_22 : ∀ x : Int32, aRet cX11_as (some .int) 22 (some (.int x)) := fun x => Or.inr (Or.inl ⟨x, _, rfl, rfl, rfl, by decide +kernel⟩)
theorem eX11_as_23 : aAL cX11_as 23 3 24 := Or.inl ⟨3, by decide +kernel, rfl, rfl⟩
theorem eX11_as_24 : aIL cX11_as 24 2 25 := Or.inl ⟨2, by decide +kernel, rfl, rfl⟩
theorem eX11_as_25 : aI3 cX11_as 25 (.invokestatic 152) 28 := ⟨by decide +kernel, rfl⟩
theorem eX11_as_28 : aIf_eq cX11_as 28 31 35 := ⟨7, by decide +kernel, rfl, by decide⟩
theorem eX11_as_31 : aIL cX11_as 31 1 32 := Or.inl ⟨1, by decide +kernel, rfl, rfl⟩
theorem eX11_as_32 : aGo cX11_as 32 36 := ⟨4, by decide +kernel, by decide⟩
theorem eX11_as_35 : aPI cX11_as 35 (-1) 36 := Or.inl ⟨(-1), by decide +kernel, by decide +kernel, rfl⟩
theorem eX11_as_36 : ∀ x : Int32, aRet cX11_as (some .int) 36 (some (.int x)) := fun x => Or.inr (Or.inl ⟨x, _, rfl, rfl, rfl, by decide +kernel⟩)
theorem eX11_lesson_0 : aAL cX11_lesson 0 0 1 := Or.inl ⟨0, by decide +kernel, rfl, rfl⟩
theorem eX11_lesson_1 : aIL cX11_lesson 1 1 2 := Or.inl ⟨1, by decide +kernel, rfl, rfl⟩
theorem eX11_lesson_2 : aI3 cX11_lesson 2 (.invokevirtual 156) 5 := ⟨by decide +kernel, rfl⟩
theorem eX11_lesson_5 : aIf_ne cX11_lesson 5 8 11 := ⟨6, by decide +kernel, rfl, by decide⟩
theorem eX11_lesson_8 : aPI cX11_lesson 8 (-101) 10 := Or.inr (Or.inl ⟨(-101), by decide +kernel, by decide +kernel, rfl⟩)
theorem eX11_lesson_10 : ∀ x : Int32, aRet cX11_lesson (some .int) 10 (some (.int x)) := fun x => Or.inr (Or.inl ⟨x, _, rfl, rfl, rfl, by decide +kernel⟩)
theorem eX11_lesson_11 : aIL cX11_lesson 11 2 12 := Or.inl ⟨2, by decide +kernel, rfl, rfl⟩
theorem eX11_lesson_12 : aI3 cX11_lesson 12 (.invokestatic 93) 15 := ⟨by decide +kernel, rfl⟩
theorem eX11_lesson_15 : aIf_ne cX11_lesson 15 18 21 := ⟨6, by decide +kernel, rfl, by decide⟩
theorem eX11_lesson_18 : aPI cX11_lesson 18 (-102) 20 := Or.inr (Or.inl ⟨(-102), by decide +kernel, by decide +kernel, rfl⟩)
theorem eX11_lesson_20 : ∀ x : Int32, aRet cX11_lesson (some .int) 20 (some (.int x)) := fun x => Or.inr (Or.inl ⟨x, _, rfl, rfl, rfl, by decide +kernel⟩)
theorem eX11_lesson_21 : aAL cX11_lesson 21 0 22 := Or.inl ⟨0, by decide +kernel, rfl, rfl⟩
theorem eX11_lesson_22 : aI3 cX11_lesson 22 (.getfield 29) 25 := ⟨by decide +kernel, rfl⟩
theorem eX11_lesson_25 : aI3 cX11_lesson 25 (.getfield 115) 28 := ⟨by decide +kernel, rfl⟩
theorem eX11_lesson_28 : aIL cX11_lesson 28 1 29 := Or.inl ⟨1, by decide +kernel, rfl, rfl⟩
theorem eX11_lesson_29 : aI1 cX11_lesson 29 (.iaload) 30 := ⟨by decide +kernel, rfl⟩
theorem eX11_lesson_30 : aPI cX11_lesson 30 (nI 1) 31 := Or.inl ⟨1, by decide +kernel, by decide +kernel, rfl⟩
theorem eX11_lesson_31 : aIL cX11_lesson 31 2 32 := Or.inl ⟨2, by decide +kernel, rfl, rfl⟩
theorem eX11_lesson_32 : aI1 cX11_lesson 32 (.ishl) 33 := ⟨by decide +kernel, rfl⟩
theorem eX11_lesson_33 : aI1 cX11_lesson 33 (.ior) 34 := ⟨by decide +kernel, rfl⟩
theorem eX11_lesson_34 : aIS cX11_lesson 34 3 35 := Or.inl ⟨3, by decide +kernel, rfl, rfl⟩
theorem eX11_lesson_35 : aIL cX11_lesson 35 3 36 := Or.inl ⟨3, by decide +kernel, rfl, rfl⟩
theorem eX11_lesson_36 : aAL cX11_lesson 36 0 37 := Or.inl ⟨0, by decide +kernel, rfl, rfl⟩
theorem eX11_lesson_37 : aI3 cX11_lesson 37 (.getfield 29) 40 := ⟨by decide +kernel, rfl⟩
theorem eX11_lesson_40 : aI3 cX11_lesson 40 (.getfield 115) 43 := ⟨by decide +kernel, rfl⟩
theorem eX11_lesson_43 : aIL cX11_lesson 43 1 44 := Or.inl ⟨1, by decide +kernel, rfl, rfl⟩
theorem eX11_lesson_44 : aI1 cX11_lesson 44 (.iaload) 45 := ⟨by decide +kernel, rfl⟩
theorem eX11_lesson_45 : aIc_ne cX11_lesson 45 48 51 := ⟨6, by decide +kernel, rfl, by decide⟩
theorem eX11_lesson_48 : aPI cX11_lesson 48 (-103) 50 := Or.inr (Or.inl ⟨(-103), by decide +kernel, by decide +kernel, rfl⟩)
theorem eX11_lesson_50 : ∀ x : Int32, aRet cX11_lesson (some .int) 50 (some (.int x)) := fun x => Or.inr (Or.inl ⟨x, _, rfl, rfl, rfl, by decide +kernel⟩)
theorem eX11_lesson_51 : aAL cX11_lesson 51 0 52 := Or.inl ⟨0, by decide +kernel, rfl, rfl⟩
theorem eX11_lesson_52 : aI3 cX11_lesson 52 (.getfield 29) 55 := ⟨by decide +kernel, rfl⟩
theorem eX11_lesson_55 : aI3 cX11_lesson 55 (.getfield 115) 58 := ⟨by decide +kernel, rfl⟩
theorem eX11_lesson_58 : aIL cX11_lesson 58 1 59 := Or.inl ⟨1, by decide +kernel, rfl, rfl⟩
theorem eX11_lesson_59 : aIL cX11_lesson 59 3 60 := Or.inl ⟨3, by decide +kernel, rfl, rfl⟩
theorem eX11_lesson_60 : aI1 cX11_lesson 60 (.iastore) 61 := ⟨by decide +kernel, rfl⟩
theorem eX11_lesson_61 : aAL cX11_lesson 61 0 62 := Or.inl ⟨0, by decide +kernel, rfl, rfl⟩
theorem eX11_lesson_62 : aI3 cX11_lesson 62 (.getfield 29) 65 := ⟨by decide +kernel, rfl⟩
theorem eX11_lesson_65 : aI1 cX11_lesson 65 (.dup) 66 := ⟨by decide +kernel, rfl⟩
theorem eX11_lesson_66 : aI3 cX11_lesson 66 (.getfield 100) 69 := ⟨by decide +kernel, rfl⟩
theorem eX11_lesson_69 : aPI cX11_lesson 69 (nI 1) 70 := Or.inl ⟨1, by decide +kernel, by decide +kernel, rfl⟩
theorem eX11_lesson_70 : aI1 cX11_lesson 70 (.iadd) 71 := ⟨by decide +kernel, rfl⟩
theorem eX11_lesson_71 : aI3 cX11_lesson 71 (.putfield 100) 74 := ⟨by decide +kernel, rfl⟩
theorem eX11_lesson_74 : aIL cX11_lesson 74 3 75 := Or.inl ⟨3, by decide +kernel, rfl, rfl⟩
theorem eX11_lesson_75 : aI3 cX11_lesson 75 (.invokestatic 132) 78 := ⟨by decide +kernel, rfl⟩
theorem eX11_lesson_78 : ∀ x : Int32, aRet cX11_lesson (some .int) 78 (some (.int x)) := fun x => Or.inr (Or.inl ⟨x, _, rfl, rfl, rfl, by decide +kernel⟩)
theorem eX11_unlearn_0 : aAL cX11_unlearn 0 0 1 := Or.inl ⟨0, by decide +kernel, rfl, rfl⟩
theorem eX11_unlearn_1 : aIL cX11_unlearn 1 1 2 := Or.inl ⟨1, by decide +kernel, rfl, rfl⟩
theorem eX11_unlearn_2 : aI3 cX11_unlearn 2 (.invokevirtual 156) 5 := ⟨by decide +kernel, rfl⟩
theorem eX11_unlearn_5 : aIf_ne cX11_unlearn 5 8 11 := ⟨6, by decide +kernel, rfl, by decide⟩
theorem eX11_unlearn_8 : aPI cX11_unlearn 8 (-101) 10 := Or.inr (Or.inl ⟨(-101), by decide +kernel, by decide +kernel, rfl⟩)
theorem eX11_unlearn_10 : ∀ x : Int32, aRet cX11_unlearn (some .int) 10 (some (.int x)) := fun x => Or.inr (Or.inl ⟨x, _, rfl, rfl, rfl, by decide +kernel⟩)
theorem eX11_unlearn_11 : aAL cX11_unlearn 11 0 12 := Or.inl ⟨0, by decide +kernel, rfl, rfl⟩
theorem eX11_unlearn_12 : aI3 cX11_unlearn 12 (.getfield 29) 15 := ⟨by decide +kernel, rfl⟩
theorem eX11_unlearn_15 : aI3 cX11_unlearn 15 (.getfield 115) 18 := ⟨by decide +kernel, rfl⟩
theorem eX11_unlearn_18 : aIL cX11_unlearn 18 1 19 := Or.inl ⟨1, by decide +kernel, rfl, rfl⟩
theorem eX11_unlearn_19 : aI1 cX11_unlearn 19 (.iaload) 20 := ⟨by decide +kernel, rfl⟩
theorem eX11_unlearn_20 : aI3 cX11_unlearn 20 (.invokestatic 132) 23 := ⟨by decide +kernel, rfl⟩
theorem eX11_unlearn_23 : aIS cX11_unlearn 23 2 24 := Or.inl ⟨2, by decide +kernel, rfl, rfl⟩
theorem eX11_unlearn_24 : aAL cX11_unlearn 24 0 25 := Or.inl ⟨0, by decide +kernel, rfl, rfl⟩
theorem eX11_unlearn_25 : aI3 cX11_unlearn 25 (.getfield 29) 28 := ⟨by decide +kernel, rfl⟩
theorem eX11_unlearn_28 : aI3 cX11_unlearn 28 (.getfield 115) 31 := ⟨by decide +kernel, rfl⟩
theorem eX11_unlearn_31 : aIL cX11_unlearn 31 1 32 := Or.inl ⟨1, by decide +kernel, rfl, rfl⟩
theorem eX11_unlearn_32 : aPI cX11_unlearn 32 (nI 0) 33 := Or.inl ⟨0, by decide +kernel, by decide +kernel, rfl⟩
theorem eX11_unlearn_33 : aI1 cX11_unlearn 33 (.iastore) 34 := ⟨by decide +kernel, rfl⟩
theorem eX11_unlearn_34 : aAL cX11_unlearn 34 0 35 := Or.inl ⟨0, by decide +kernel, rfl, rfl⟩
theorem eX11_unlearn_35 : aI3 cX11_unlearn 35 (.getfield 29) 38 := ⟨by decide +kernel, rfl⟩
theorem eX11_unlearn_38 : aI1 cX11_unlearn 38 (.dup) 39 := ⟨by decide +kernel, rfl⟩
theorem eX11_unlearn_39 : aI3 cX11_unlearn 39 (.getfield 100) 42 := ⟨by decide +kernel, rfl⟩
theorem eX11_unlearn_42 : aPI cX11_unlearn 42 (nI 1) 43 := Or.inl ⟨1, by decide +kernel, by decide +kernel, rfl⟩
theorem eX11_unlearn_43 : aI1 cX11_unlearn 43 (.iadd) 44 := ⟨by decide +kernel, rfl⟩
theorem eX11_unlearn_44 : aI3 cX11_unlearn 44 (.putfield 100) 47 := ⟨by decide +kernel, rfl⟩
theorem eX11_unlearn_47 : aIL cX11_unlearn 47 2 48 := Or.inl ⟨2, by decide +kernel, rfl, rfl⟩
theorem eX11_unlearn_48 : ∀ x : Int32, aRet cX11_unlearn (some .int) 48 (some (.int x)) := fun x => Or.inr (Or.inl ⟨x, _, rfl, rfl, rfl, by decide +kernel⟩)
theorem eX11_brief_0 : aIL cX11_brief 0 1 1 := Or.inl ⟨1, by decide +kernel, rfl, rfl⟩
theorem eX11_brief_1 : aIf_eq cX11_brief 1 4 19 := ⟨18, by decide +kernel, rfl, by decide⟩
theorem eX11_brief_4 : aIL cX11_brief 4 1 5 := Or.inl ⟨1, by decide +kernel, rfl, rfl⟩
theorem eX11_brief_5 : aPI cX11_brief 5 (nI 10) 7 := Or.inr (Or.inl ⟨10, by decide +kernel, by decide +kernel, rfl⟩)
theorem eX11_brief_7 : aIc_lt cX11_brief 7 10 16 := ⟨9, by decide +kernel, rfl, by decide⟩
theorem eX11_brief_10 : aIL cX11_brief 10 1 11 := Or.inl ⟨1, by decide +kernel, rfl, rfl⟩
theorem eX11_brief_11 : aPI cX11_brief 11 (nI 14) 13 := Or.inr (Or.inl ⟨14, by decide +kernel, by decide +kernel, rfl⟩)
theorem eX11_brief_13 : aIc_lt cX11_brief 13 16 19 := ⟨6, by decide +kernel, rfl, by decide⟩
theorem eX11_brief_16 : aPI cX11_brief 16 (-102) 18 := Or.inr (Or.inl ⟨(-102), by decide +kernel, by decide +kernel, rfl⟩)
theorem eX11_brief_18 : ∀ x : Int32, aRet cX11_brief (some .int) 18 (some (.int x)) := fun x => Or.inr (Or.inl ⟨x, _, rfl, rfl, rfl, by decide +kernel⟩)
theorem eX11_brief_19 : aAL cX11_brief 19 0 20 := Or.inl ⟨0, by decide +kernel, rfl, rfl⟩
theorem eX11_brief_20 : aI3 cX11_brief 20 (.invokevirtual 83) 23 := ⟨by decide +kernel, rfl⟩
theorem eX11_brief_23 : aIf_eq cX11_brief 23 26 35 := ⟨12, by decide +kernel, rfl, by decide⟩
theorem eX11_brief_26 : aAL cX11_brief 26 0 27 := Or.inl ⟨0, by decide +kernel, rfl, rfl⟩
theorem eX11_brief_27 : aI3 cX11_brief 27 (.getfield 159) 30 := ⟨by decide +kernel, rfl⟩
theorem eX11_brief_30 : aPI cX11_brief 30 (nI 30) 32 := Or.inr (Or.inl ⟨30, by decide +kernel, by decide +kernel, rfl⟩)
theorem eX11_brief_32 : aIc_lt cX11_brief 32 35 38 := ⟨6, by decide +kernel, rfl, by decide⟩
theorem eX11_brief_35 : aPI cX11_brief 35 (-103) 37 := Or.inr (Or.inl ⟨(-103), by decide +kernel, by decide +kernel, rfl⟩)
theorem eX11_brief_37 : ∀ x : Int32, aRet cX11_brief (some .int) 37 (some (.int x)) := fun x => Or.inr (Or.inl ⟨x, _, rfl, rfl, rfl, by decide +kernel⟩)
theorem eX11_brief_38 : aAL cX11_brief 38 0 39 := Or.inl ⟨0, by decide +kernel, rfl, rfl⟩
theorem eX11_brief_39 : aI1 cX11_brief 39 (.dup) 40 := ⟨by decide +kernel, rfl⟩
theorem eX11_brief_40 : aI3 cX11_brief 40 (.getfield 159) 43 := ⟨by decide +kernel, rfl⟩
theorem eX11_brief_43 : aPI cX11_brief 43 (nI 1) 44 := Or.inl ⟨1, by decide +kernel, by decide +kernel, rfl⟩
theorem eX11_brief_44 : aI1 cX11_brief 44 (.iadd) 45 := ⟨by decide +kernel, rfl⟩
theorem eX11_brief_45 : aI3 cX11_brief 45 (.putfield 159) 48 := ⟨by decide +kernel, rfl⟩
theorem eX11_brief_48 : aAL cX11_brief 48 0 49 := Or.inl ⟨0, by decide +kernel, rfl, rfl⟩
theorem eX11_brief_49 : aI3 cX11_brief 49 (.getfield 46) 52 := ⟨by decide +kernel, rfl⟩
theorem eX11_brief_52 : aAL cX11_brief 52 0 53 := Or.inl ⟨0, by decide +kernel, rfl, rfl⟩
theorem eX11_brief_53 : aI3 cX11_brief 53 (.getfield 16) 56 := ⟨by decide +kernel, rfl⟩
theorem eX11_brief_56 : aI3 cX11_brief 56 (.invokevirtual 162) 59 := ⟨by decide +kernel, rfl⟩
theorem eX11_brief_59 : aIL cX11_brief 59 1 60 := Or.inl ⟨1, by decide +kernel, rfl, rfl⟩
theorem eX11_brief_60 : aIf_ne cX11_brief 60 63 85 := ⟨25, by decide +kernel, rfl, by decide⟩
theorem eX11_brief_63 : aAL cX11_brief 63 0 64 := Or.inl ⟨0, by decide +kernel, rfl, rfl⟩
theorem eX11_brief_64 : aI3 cX11_brief 64 (.getfield 46) 67 := ⟨by decide +kernel, rfl⟩
theorem eX11_brief_67 : aI3 cX11_brief 67 (.invokevirtual 166) 70 := ⟨by decide +kernel, rfl⟩
theorem eX11_brief_70 : aIf_ne cX11_brief 70 73 77 := ⟨7, by decide +kernel, rfl, by decide⟩
theorem eX11_brief_73 : aPI cX11_brief 73 (-1) 74 := Or.inl ⟨(-1), by decide +kernel, by decide +kernel, rfl⟩
theorem eX11_brief_74 : aGo cX11_brief 74 84 := ⟨10, by decide +kernel, by decide⟩
theorem eX11_brief_77 : aAL cX11_brief 77 0 78 := Or.inl ⟨0, by decide +kernel, rfl, rfl⟩
theorem eX11_brief_78 : aI3 cX11_brief 78 (.getfield 46) 81 := ⟨by decide +kernel, rfl⟩
theorem eX11_brief_81 : aI3 cX11_brief 81 (.invokevirtual 166) 84 := ⟨by decide +kernel, rfl⟩
theorem eX11_brief_84 : ∀ x : Int32, aRet cX11_brief (some .int) 84 (some (.int x)) := fun x => Or.inr (Or.inl ⟨x, _, rfl, rfl, rfl, by decide +kernel⟩)
theorem eX11_brief_85 : aAL cX11_brief 85 0 86 := Or.inl ⟨0, by decide +kernel, rfl, rfl⟩
theorem eX11_brief_86 : aI3 cX11_brief 86 (.getfield 46) 89 := ⟨by decide +kernel, rfl⟩
theorem eX11_brief_89 : aIL cX11_brief 89 1 90 := Or.inl ⟨1, by decide +kernel, rfl, rfl⟩
theorem eX11_brief_90 : aPI cX11_brief 90 (nI 10) 92 := Or.inr (Or.inl ⟨10, by decide +kernel, by decide +kernel, rfl⟩)
theorem eX11_brief_92 : aI1 cX11_brief 92 (.isub) 93 := ⟨by decide +kernel, rfl⟩
theorem eX11_brief_93 : aI3 cX11_brief 93 (.invokevirtual 167) 96 := ⟨by decide +kernel, rfl⟩
theorem eX11_brief_96 : ∀ x : Int32, aRet cX11_brief (some .int) 96 (some (.int x)) := fun x => Or.inr (Or.inl ⟨x, _, rfl, rfl, rfl, by decide +kernel⟩)
theorem eX11_hide_0 : aAL cX11_hide 0 0 1 := Or.inl ⟨0, by decide +kernel, rfl, rfl⟩
theorem eX11_hide_1 : aIL cX11_hide 1 1 2 := Or.inl ⟨1, by decide +kernel, rfl, rfl⟩
theorem eX11_hide_2 : aI3 cX11_hide 2 (.invokevirtual 156) 5 := ⟨by decide +kernel, rfl⟩
theorem eX11_hide_5 : aIf_ne cX11_hide 5 8 11 := ⟨6, by decide +kernel, rfl, by decide⟩
theorem eX11_hide_8 : aPI cX11_hide 8 (-101) 10 := Or.inr (Or.inl ⟨(-101), by decide +kernel, by decide +kernel, rfl⟩)
theorem eX11_hide_10 : ∀ x : Int32, aRet cX11_hide (some .int) 10 (some (.int x)) := fun x => Or.inr (Or.inl ⟨x, _, rfl, rfl, rfl, by decide +kernel⟩)
theorem eX11_hide_11 : aIL cX11_hide 11 2 12 := Or.inl ⟨2, by decide +kernel, rfl, rfl⟩
theorem eX11_hide_12 : aIf_lt cX11_hide 12 15 30 := ⟨18, by decide +kernel, rfl, by decide⟩
theorem eX11_hide_15 : aIL cX11_hide 15 2 16 := Or.inl ⟨2, by decide +kernel, rfl, rfl⟩
theorem eX11_hide_16 : aPI cX11_hide 16 (nI 8) 18 := Or.inr (Or.inl ⟨8, by decide +kernel, by decide +kernel, rfl⟩)
theorem eX11_hide_18 : aIc_gt cX11_hide 18 21 30 := ⟨12, by decide +kernel, rfl, by decide⟩
theorem eX11_hide_21 : aIL cX11_hide 21 3 22 := Or.inl ⟨3, by decide +kernel, rfl, rfl⟩
theorem eX11_hide_22 : aIf_lt cX11_hide 22 25 30 := ⟨8, by decide +kernel, rfl, by decide⟩
theorem eX11_hide_25 : aIL cX11_hide 25 3 26 := Or.inl ⟨3, by decide +kernel, rfl, rfl⟩
theorem eX11_hide_26 : aPI cX11_hide 26 (nI 1) 27 := Or.inl ⟨1, by decide +kernel, by decide +kernel, rfl⟩
theorem eX11_hide_27 : aIc_le cX11_hide 27 30 33 := ⟨6, by decide +kernel, rfl, by decide⟩
theorem eX11_hide_30 : aPI cX11_hide 30 (-102) 32 := Or.inr (Or.inl ⟨(-102), by decide +kernel, by decide +kernel, rfl⟩)
theorem eX11_hide_32 : ∀ x : Int32, aRet cX11_hide (some .int) 32 (some (.int x)) := fun x => Or.inr (Or.inl ⟨x, _, rfl, rfl, rfl, by decide +kernel⟩)
theorem eX11_hide_33 : aAL cX11_hide 33 0 34 := Or.inl ⟨0, by decide +kernel, rfl, rfl⟩
theorem eX11_hide_34 : aIL cX11_hide 34 1 35 := Or.inl ⟨1, by decide +kernel, rfl, rfl⟩
theorem eX11_hide_35 : aAL cX11_hide 35 0 36 := Or.inl ⟨0, by decide +kernel, rfl, rfl⟩
theorem eX11_hide_36 : aI3 cX11_hide 36 (.getfield 29) 39 := ⟨by decide +kernel, rfl⟩
theorem eX11_hide_39 : aI3 cX11_hide 39 (.getfield 79) 42 := ⟨by decide +kernel, rfl⟩
theorem eX11_hide_42 : aAL cX11_hide 42 0 43 := Or.inl ⟨0, by decide +kernel, rfl, rfl⟩
theorem eX11_hide_43 : aIL cX11_hide 43 1 44 := Or.inl ⟨1, by decide +kernel, rfl, rfl⟩
theorem eX11_hide_44 : aI3 cX11_hide 44 (.invokevirtual 168) 47 := ⟨by decide +kernel, rfl⟩
theorem eX11_hide_47 : aPI cX11_hide 47 (nI 0) 48 := Or.inl ⟨0, by decide +kernel, by decide +kernel, rfl⟩
theorem eX11_hide_48 : aI3 cX11_hide 48 (.invokevirtual 171) 51 := ⟨by decide +kernel, rfl⟩
theorem eX11_hide_51 : aIS cX11_hide 51 4 53 := Or.inr ⟨by decide +kernel, rfl⟩
theorem eX11_hide_53 : aAL cX11_hide 53 0 54 := Or.inl ⟨0, by decide +kernel, rfl, rfl⟩
theorem eX11_hide_54 : aIL cX11_hide 54 4 56 := Or.inr ⟨by decide +kernel, rfl⟩
theorem eX11_hide_56 : aIL cX11_hide 56 2 57 := Or.inl ⟨2, by decide +kernel, rfl, rfl⟩
theorem eX11_hide_57 : aI3 cX11_hide 57 (.invokevirtual 175) 60 := ⟨by decide +kernel, rfl⟩
theorem eX11_hide_60 : aIS cX11_hide 60 5 62 := Or.inr ⟨by decide +kernel, rfl⟩
theorem eX11_hide_62 : aIL cX11_hide 62 3 63 := Or.inl ⟨3, by decide +kernel, rfl, rfl⟩
theorem eX11_hide_63 : aIf_ne cX11_hide 63 66 71 := ⟨8, by decide +kernel, rfl, by decide⟩
theorem eX11_hide_66 : aIL cX11_hide 66 5 68 := Or.inr ⟨by decide +kernel, rfl⟩
theorem eX11_hide_68 : aGo cX11_hide 68 91 := ⟨23, by decide +kernel, by decide⟩
theorem eX11_hide_71 : aIL cX11_hide 71 4 73 := Or.inr ⟨by decide +kernel, rfl⟩
theorem eX11_hide_73 : aAL cX11_hide 73 0 74 := Or.inl ⟨0, by decide +kernel, rfl, rfl⟩
theorem eX11_hide_74 : aI3 cX11_hide 74 (.getfield 29) 77 := ⟨by decide +kernel, rfl⟩
theorem eX11_hide_77 : aI3 cX11_hide 77 (.getfield 79) 80 := ⟨by decide +kernel, rfl⟩
theorem eX11_hide_80 : aIL cX11_hide 80 5 82 := Or.inr ⟨by decide +kernel, rfl⟩
theorem eX11_hide_82 : aI3 cX11_hide 82 (.invokevirtual 179) 85 := ⟨by decide +kernel, rfl⟩
theorem eX11_hide_85 : aPI cX11_hide 85 (-1) 86 := Or.inl ⟨(-1), by decide +kernel, by decide +kernel, rfl⟩
theorem eX11_hide_86 : aI1 cX11_hide 86 (.ixor) 87 := ⟨by decide +kernel, rfl⟩
theorem eX11_hide_87 : aI1 cX11_hide 87 (.iand) 88 := ⟨by decide +kernel, rfl⟩
theorem eX11_hide_88 : aI3 cX11_hide 88 (.invokestatic 132) 91 := ⟨by decide +kernel, rfl⟩
theorem eX11_hide_91 : ∀ x : Int32, aRet cX11_hide (some .int) 91 (some (.int x)) := fun x => Or.inr (Or.inl ⟨x, _, rfl, rfl, rfl, by decide +kernel⟩)
theorem eX11_hear_0 : aAL cX11_hear 0 0 1 := Or.inl ⟨0, by decide +kernel, rfl, rfl⟩
theorem eX11_hear_1 : aIL cX11_hear 1 1 2 := Or.inl ⟨1, by decide +kernel, rfl, rfl⟩
theorem eX11_hear_2 : aI3 cX11_hear 2 (.invokevirtual 156) 5 := ⟨by decide +kernel, rfl⟩
theorem eX11_hear_5 : aIf_eq cX11_hear 5 8 22 := ⟨17, by decide +kernel, rfl, by decide⟩
theorem eX11_hear_8 : aAL cX11_hear 8 0 9 := Or.inl ⟨0, by decide +kernel, rfl, rfl⟩
theorem eX11_hear_9 : aI3 cX11_hear 9 (.getfield 29) 12 := ⟨by decide +kernel, rfl⟩
theorem eX11_hear_12 : aI3 cX11_hear 12 (.getfield 79) 15 := ⟨by decide +kernel, rfl⟩
theorem eX11_hear_15 : aIL cX11_hear 15 2 16 := Or.inl ⟨2, by decide +kernel, rfl, rfl⟩
theorem eX11_hear_16 : aI3 cX11_hear 16 (.invokevirtual 86) 19 := ⟨by decide +kernel, rfl⟩
theorem eX11_hear_19 : aIf_ne cX11_hear 19 22 25 := ⟨6, by decide +kernel, rfl, by decide⟩
theorem eX11_hear_22 : aPI cX11_hear 22 (-101) 24 := Or.inr (Or.inl ⟨(-101), by decide +kernel, by decide +kernel, rfl⟩)
theorem eX11_hear_24 : ∀ x : Int32, aRet cX11_hear (some .int) 24 (some (.int x)) := fun x => Or.inr (Or.inl ⟨x, _, rfl, rfl, rfl, by decide +kernel⟩)
theorem eX11_hear_25 : aAL cX11_hear 25 0 26 := Or.inl ⟨0, by decide +kernel, rfl, rfl⟩
theorem eX11_hear_26 : aIL cX11_hear 26 1 27 := Or.inl ⟨1, by decide +kernel, rfl, rfl⟩
theorem eX11_hear_27 : aIL cX11_hear 27 2 28 := Or.inl ⟨2, by decide +kernel, rfl, rfl⟩
theorem eX11_hear_28 : aI3 cX11_hear 28 (.invokevirtual 182) 31 := ⟨by decide +kernel, rfl⟩
theorem eX11_hear_31 : aIS cX11_hear 31 4 33 := Or.inr ⟨by decide +kernel, rfl⟩
theorem eX11_hear_33 : aIL cX11_hear 33 3 34 := Or.inl ⟨3, by decide +kernel, rfl, rfl⟩
theorem eX11_hear_34 : aIf_eq cX11_hear 34 37 42 := ⟨8, by decide +kernel, rfl, by decide⟩
theorem eX11_hear_37 : aIL cX11_hear 37 4 39 := Or.inr ⟨by decide +kernel, rfl⟩
theorem eX11_hear_39 : aGo cX11_hear 39 49 := ⟨10, by decide +kernel, by decide⟩
theorem eX11_hear_42 : aPI cX11_hear 42 (nI 31) 44 := Or.inr (Or.inl ⟨31, by decide +kernel, by decide +kernel, rfl⟩)
theorem eX11_hear_44 : aIL cX11_hear 44 4 46 := Or.inr ⟨by decide +kernel, rfl⟩
theorem eX11_hear_46 : aPI cX11_hear 46 (-1) 47 := Or.inl ⟨(-1), by decide +kernel, by decide +kernel, rfl⟩
theorem eX11_hear_47 : aI1 cX11_hear 47 (.ixor) 48 := ⟨by decide +kernel, rfl⟩
theorem eX11_hear_48 : aI1 cX11_hear 48 (.iand) 49 := ⟨by decide +kernel, rfl⟩
theorem eX11_hear_49 : aIS cX11_hear 49 5 51 := Or.inr ⟨by decide +kernel, rfl⟩
theorem eX11_hear_51 : aAL cX11_hear 51 0 52 := Or.inl ⟨0, by decide +kernel, rfl, rfl⟩
theorem eX11_hear_52 : aI3 cX11_hear 52 (.getfield 29) 55 := ⟨by decide +kernel, rfl⟩
theorem eX11_hear_55 : aI3 cX11_hear 55 (.getfield 140) 58 := ⟨by decide +kernel, rfl⟩
theorem eX11_hear_58 : aIL cX11_hear 58 1 59 := Or.inl ⟨1, by decide +kernel, rfl, rfl⟩
theorem eX11_hear_59 : aIL cX11_hear 59 5 61 := Or.inr ⟨by decide +kernel, rfl⟩
theorem eX11_hear_61 : aI3 cX11_hear 61 (.invokevirtual 185) 64 := ⟨by decide +kernel, rfl⟩
theorem eX11_hear_64 : aIf_eq cX11_hear 64 67 80 := ⟨16, by decide +kernel, rfl, by decide⟩
theorem eX11_hear_67 : aAL cX11_hear 67 0 68 := Or.inl ⟨0, by decide +kernel, rfl, rfl⟩
theorem eX11_hear_68 : aI3 cX11_hear 68 (.getfield 29) 71 := ⟨by decide +kernel, rfl⟩
theorem eX11_hear_71 : aI3 cX11_hear 71 (.getfield 140) 74 := ⟨by decide +kernel, rfl⟩
theorem eX11_hear_74 : aI3 cX11_hear 74 (.invokevirtual 188) 77 := ⟨by decide +kernel, rfl⟩
theorem eX11_hear_77 : aGo cX11_hear 77 82 := ⟨5, by decide +kernel, by decide⟩
theorem eX11_hear_80 : aPI cX11_hear 80 (-104) 82 := Or.inr (Or.inl ⟨(-104), by decide +kernel, by decide +kernel, rfl⟩)
theorem eX11_hear_82 : ∀ x : Int32, aRet cX11_hear (some .int) 82 (some (.int x)) := fun x => Or.inr (Or.inl ⟨x, _, rfl, rfl, rfl, by decide +kernel⟩)
theorem eX11_forget_0 : aAL cX11_forget 0 0 1 := Or.inl ⟨0, by decide +kernel, rfl, rfl⟩
theorem eX11_forget_1 : aI3 cX11_forget 1 (.getfield 29) 4 := ⟨by decide +kernel, rfl⟩
theorem eX11_forget_4 : aI3 cX11_forget 4 (.getfield 140) 7 := ⟨by decide +kernel, rfl⟩
theorem eX11_forget_7 : aI3 cX11_forget 7 (.invokevirtual 188) 10 := ⟨by decide +kernel, rfl⟩
theorem eX11_forget_10 : aIS cX11_forget 10 1 11 := Or.inl ⟨1, by decide +kernel, rfl, rfl⟩
theorem eX11_forget_11 : aAL cX11_forget 11 0 12 := Or.inl ⟨0, by decide +kernel, rfl, rfl⟩
theorem eX11_forget_12 : aI3 cX11_forget 12 (.getfield 29) 15 := ⟨by decide +kernel, rfl⟩
theorem eX11_forget_15 : aI3 cX11_forget 15 (.getfield 140) 18 := ⟨by decide +kernel, rfl⟩
theorem eX11_forget_18 : aI3 cX11_forget 18 (.invokevirtual 189) 21 := ⟨by decide +kernel, rfl⟩
theorem eX11_forget_21 : aIL cX11_forget 21 1 22 := Or.inl ⟨1, by decide +kernel, rfl, rfl⟩
theorem eX11_forget_22 : ∀ x : Int32, aRet cX11_forget (some .int) 22 (some (.int x)) := fun x => Or.inr (Or.inl ⟨x, _, rfl, rfl, rfl, by decide +kernel⟩)
theorem eX11_trials_0 : aIL cX11_trials 0 1 1 := Or.inl ⟨1, by decide +kernel, rfl, rfl⟩
theorem eX11_trials_1 : aPI cX11_trials 1 (nI 1) 2 := Or.inl ⟨1, by decide +kernel, by decide +kernel, rfl⟩
theorem eX11_trials_2 : aIc_lt cX11_trials 2 5 24 := ⟨22, by decide +kernel, rfl, by decide⟩
theorem eX11_trials_5 : aIL cX11_trials 5 1 6 := Or.inl ⟨1, by decide +kernel, rfl, rfl⟩
theorem eX11_trials_6 : aPI cX11_trials 6 (nI 40) 8 := Or.inr (Or.inl ⟨40, by decide +kernel, by decide +kernel, rfl⟩)
theorem eX11_trials_8 : aIc_gt cX11_trials 8 11 24 := ⟨16, by decide +kernel, rfl, by decide⟩
theorem eX11_trials_11 : aIL cX11_trials 11 2 12 := Or.inl ⟨2, by decide +kernel, rfl, rfl⟩
theorem eX11_trials_12 : aIf_lt cX11_trials 12 15 24 := ⟨12, by decide +kernel, rfl, by decide⟩
theorem eX11_trials_15 : aIL cX11_trials 15 3 16 := Or.inl ⟨3, by decide +kernel, rfl, rfl⟩
theorem eX11_trials_16 : aIf_lt cX11_trials 16 19 24 := ⟨8, by decide +kernel, rfl, by decide⟩
theorem eX11_trials_19 : aIL cX11_trials 19 3 20 := Or.inl ⟨3, by decide +kernel, rfl, rfl⟩
theorem eX11_trials_20 : aPI cX11_trials 20 (nI 2) 21 := Or.inl ⟨2, by decide +kernel, by decide +kernel, rfl⟩
theorem eX11_trials_21 : aIc_le cX11_trials 21 24 27 := ⟨6, by decide +kernel, rfl, by decide⟩
theorem eX11_trials_24 : aPI cX11_trials 24 (-102) 26 := Or.inr (Or.inl ⟨(-102), by decide +kernel, by decide +kernel, rfl⟩)
theorem eX11_trials_26 : ∀ x : Int32, aRet cX11_trials (some .int) 26 (some (.int x)) := fun x => Or.inr (Or.inl ⟨x, _, rfl, rfl, rfl, by decide +kernel⟩)
theorem eX11_trials_27 : aAL cX11_trials 27 0 28 := Or.inl ⟨0, by decide +kernel, rfl, rfl⟩
theorem eX11_trials_28 : aI3 cX11_trials 28 (.invokevirtual 83) 31 := ⟨by decide +kernel, rfl⟩
theorem eX11_trials_31 : aIf_ne cX11_trials 31 34 37 := ⟨6, by decide +kernel, rfl, by decide⟩
theorem eX11_trials_34 : aPI cX11_trials 34 (-103) 36 := Or.inr (Or.inl ⟨(-103), by decide +kernel, by decide +kernel, rfl⟩)
theorem eX11_trials_36 : ∀ x : Int32, aRet cX11_trials (some .int) 36 (some (.int x)) := fun x => Or.inr (Or.inl ⟨x, _, rfl, rfl, rfl, by decide +kernel⟩)
theorem eX11_trials_37 : aPI cX11_trials 37 (nI 0) 38 := Or.inl ⟨0, by decide +kernel, by decide +kernel, rfl⟩
theorem eX11_trials_38 : aIS cX11_trials 38 4 40 := Or.inr ⟨by decide +kernel, rfl⟩
theorem eX11_trials_40 : aPI cX11_trials 40 (nI 0) 41 := Or.inl ⟨0, by decide +kernel, by decide +kernel, rfl⟩
theorem eX11_trials_41 : aIS cX11_trials 41 5 43 := Or.inr ⟨by decide +kernel, rfl⟩
theorem eX11_trials_43 : aIL cX11_trials 43 2 44 := Or.inl ⟨2, by decide +kernel, rfl, rfl⟩
theorem eX11_trials_44 : aIS cX11_trials 44 6 46 := Or.inr ⟨by decide +kernel, rfl⟩
theorem eX11_trials_46 : aPI cX11_trials 46 (nI 0) 47 := Or.inl ⟨0, by decide +kernel, by decide +kernel, rfl⟩
theorem eX11_trials_47 : aIS cX11_trials 47 7 49 := Or.inr ⟨by decide +kernel, rfl⟩
theorem eX11_trials_49 : aIL cX11_trials 49 7 51 := Or.inr ⟨by decide +kernel, rfl⟩
theorem eX11_trials_51 : aIL cX11_trials 51 1 52 := Or.inl ⟨1, by decide +kernel, rfl, rfl⟩
theorem eX11_trials_52 : aIc_ge cX11_trials 52 55 95 := ⟨43, by decide +kernel, rfl, by decide⟩
theorem eX11_trials_55 : aAL cX11_trials 55 0 56 := Or.inl ⟨0, by decide +kernel, rfl, rfl⟩
theorem eX11_trials_56 : aIL cX11_trials 56 6 58 := Or.inr ⟨by decide +kernel, rfl⟩
theorem eX11_trials_58 : aI3 cX11_trials 58 (.invokevirtual 190) 61 := ⟨by decide +kernel, rfl⟩
theorem eX11_trials_61 : aIS cX11_trials 61 6 63 := Or.inr ⟨by decide +kernel, rfl⟩
theorem eX11_trials_63 : aIL cX11_trials 63 4 65 := Or.inr ⟨by decide +kernel, rfl⟩
theorem eX11_trials_65 : aAL cX11_trials 65 0 66 := Or.inl ⟨0, by decide +kernel, rfl, rfl⟩
theorem eX11_trials_66 : aAL cX11_trials 66 0 67 := Or.inl ⟨0, by decide +kernel, rfl, rfl⟩
theorem eX11_trials_67 : aI3 cX11_trials 67 (.getfield 39) 70 := ⟨by decide +kernel, rfl⟩
theorem eX11_trials_70 : aI3 cX11_trials 70 (.invokevirtual 193) 73 := ⟨by decide +kernel, rfl⟩
theorem eX11_trials_73 : aI1 cX11_trials 73 (.iadd) 74 := ⟨by decide +kernel, rfl⟩
theorem eX11_trials_74 : aIS cX11_trials 74 4 76 := Or.inr ⟨by decide +kernel, rfl⟩
theorem eX11_trials_76 : aIL cX11_trials 76 5 78 := Or.inr ⟨by decide +kernel, rfl⟩
theorem eX11_trials_78 : aAL cX11_trials 78 0 79 := Or.inl ⟨0, by decide +kernel, rfl, rfl⟩
theorem eX11_trials_79 : aAL cX11_trials 79 0 80 := Or.inl ⟨0, by decide +kernel, rfl, rfl⟩
theorem eX11_trials_80 : aI3 cX11_trials 80 (.getfield 39) 83 := ⟨by decide +kernel, rfl⟩
theorem eX11_trials_83 : aI3 cX11_trials 83 (.invokevirtual 197) 86 := ⟨by decide +kernel, rfl⟩
theorem eX11_trials_86 : aI1 cX11_trials 86 (.iadd) 87 := ⟨by decide +kernel, rfl⟩
theorem eX11_trials_87 : aIS cX11_trials 87 5 89 := Or.inr ⟨by decide +kernel, rfl⟩
theorem eX11_trials_89 : aII cX11_trials 89 7 (nI 1) 92 := ⟨1, by decide +kernel, by decide +kernel, rfl⟩
theorem eX11_trials_92 : aGo cX11_trials 92 49 := ⟨(-43), by decide +kernel, by decide⟩
theorem eX11_trials_95 : aIL cX11_trials 95 3 96 := Or.inl ⟨3, by decide +kernel, rfl, rfl⟩
theorem eX11_trials_96 : aIf_ne cX11_trials 96 99 102 := ⟨6, by decide +kernel, rfl, by decide⟩
theorem eX11_trials_99 : aIL cX11_trials 99 4 101 := Or.inr ⟨by decide +kernel, rfl⟩
theorem eX11_trials_101 : ∀ x : Int32, aRet cX11_trials (some .int) 101 (some (.int x)) := fun x => Or.inr (Or.inl ⟨x, _, rfl, rfl, rfl, by decide +kernel⟩)
theorem eX11_trials_102 : aIL cX11_trials 102 3 103 := Or.inl ⟨3, by decide +kernel, rfl, rfl⟩
theorem eX11_trials_103 : aPI cX11_trials 103 (nI 1) 104 := Or.inl ⟨1, by decide +kernel, by decide +kernel, rfl⟩
theorem eX11_trials_104 : aIc_ne cX11_trials 104 107 112 := ⟨8, by decide +kernel, rfl, by decide⟩
theorem eX11_trials_107 : aIL cX11_trials 107 5 109 := Or.inr ⟨by decide +kernel, rfl⟩
theorem eX11_trials_109 : aGo cX11_trials 109 114 := ⟨5, by decide +kernel, by decide⟩
theorem eX11_trials_112 : aIL cX11_trials 112 6 114 := Or.inr ⟨by decide +kernel, rfl⟩
theorem eX11_trials_114 : ∀ x : Int32, aRet cX11_trials (some .int) 114 (some (.int x)) := fun x => Or.inr (Or.inl ⟨x, _, rfl, rfl, rfl, by decide +kernel⟩)
theorem eX11_image_0 : aAL cX11_image 0 0 1 := Or.inl ⟨0, by decide +kernel, rfl, rfl⟩
theorem eX11_image_1 : aI3 cX11_image 1 (.invokevirtual 83) 4 := ⟨by decide +kernel, rfl⟩
theorem eX11_image_4 : aIf_ne cX11_image 4 7 10 := ⟨6, by decide +kernel, rfl, by decide⟩
theorem eX11_image_7 : aPI cX11_image 7 (-103) 9 := Or.inr (Or.inl ⟨(-103), by decide +kernel, by decide +kernel, rfl⟩)
theorem eX11_image_9 : ∀ x : Int32, aRet cX11_image (some .int) 9 (some (.int x)) := fun x => Or.inr (Or.inl ⟨x, _, rfl, rfl, rfl, by decide +kernel⟩)
theorem eX11_image_10 : aAL cX11_image 10 0 11 := Or.inl ⟨0, by decide +kernel, rfl, rfl⟩
theorem eX11_image_11 : aI3 cX11_image 11 (.getfield 33) 14 := ⟨by decide +kernel, rfl⟩
theorem eX11_image_14 : aAL cX11_image 14 0 15 := Or.inl ⟨0, by decide +kernel, rfl, rfl⟩
theorem eX11_image_15 : aI3 cX11_image 15 (.getfield 29) 18 := ⟨by decide +kernel, rfl⟩
theorem eX11_image_18 : aI3 cX11_image 18 (.invokevirtual 200) 21 := ⟨by decide +kernel, rfl⟩
theorem eX11_image_21 : aAL cX11_image 21 0 22 := Or.inl ⟨0, by decide +kernel, rfl, rfl⟩
theorem eX11_image_22 : aPI cX11_image 22 (nI 1) 23 := Or.inl ⟨1, by decide +kernel, by decide +kernel, rfl⟩
theorem eX11_image_23 : aI3 cX11_image 23 (.putfield 71) 26 := ⟨by decide +kernel, rfl⟩
theorem eX11_image_26 : aAL cX11_image 26 0 27 := Or.inl ⟨0, by decide +kernel, rfl, rfl⟩
theorem eX11_image_27 : aI3 cX11_image 27 (.getfield 29) 30 := ⟨by decide +kernel, rfl⟩
theorem eX11_image_30 : aI3 cX11_image 30 (.getfield 100) 33 := ⟨by decide +kernel, rfl⟩
theorem eX11_image_33 : ∀ x : Int32, aRet cX11_image (some .int) 33 (some (.int x)) := fun x => Or.inr (Or.inl ⟨x, _, rfl, rfl, rfl, by decide +kernel⟩)
theorem eX11_restore_0 : aAL cX11_restore 0 0 1 := Or.inl ⟨0, by decide +kernel, rfl, rfl⟩
theorem eX11_restore_1 : aI3 cX11_restore 1 (.getfield 71) 4 := ⟨by decide +kernel, rfl⟩
theorem eX11_restore_4 : aIf_ne cX11_restore 4 7 10 := ⟨6, by decide +kernel, rfl, by decide⟩
theorem eX11_restore_7 : aPI cX11_restore 7 (-103) 9 := Or.inr (Or.inl ⟨(-103), by decide +kernel, by decide +kernel, rfl⟩)
theorem eX11_restore_9 : ∀ x : Int32, aRet cX11_restore (some .int) 9 (some (.int x)) := fun x => Or.inr (Or.inl ⟨x, _, rfl, rfl, rfl, by decide +kernel⟩)
theorem eX11_restore_10 : aAL cX11_restore 10 0 11 := Or.inl ⟨0, by decide +kernel, rfl, rfl⟩
theorem eX11_restore_11 : aI3 cX11_restore 11 (.getfield 29) 14 := ⟨by decide +kernel, rfl⟩
theorem eX11_restore_14 : aAL cX11_restore 14 0 15 := Or.inl ⟨0, by decide +kernel, rfl, rfl⟩
theorem eX11_restore_15 : aI3 cX11_restore 15 (.getfield 33) 18 := ⟨by decide +kernel, rfl⟩
theorem eX11_restore_18 : aI3 cX11_restore 18 (.invokevirtual 200) 21 := ⟨by decide +kernel, rfl⟩
theorem eX11_restore_21 : aAL cX11_restore 21 0 22 := Or.inl ⟨0, by decide +kernel, rfl, rfl⟩
theorem eX11_restore_22 : aI3 cX11_restore 22 (.getfield 29) 25 := ⟨by decide +kernel, rfl⟩
theorem eX11_restore_25 : aI3 cX11_restore 25 (.getfield 100) 28 := ⟨by decide +kernel, rfl⟩
theorem eX11_restore_28 : ∀ x : Int32, aRet cX11_restore (some .int) 28 (some (.int x)) := fun x => Or.inr (Or.inl ⟨x, _, rfl, rfl, rfl, by decide +kernel⟩)
theorem eX11_count_0 : aIL cX11_count 0 1 1 := Or.inl ⟨1, by decide +kernel, rfl, rfl⟩
theorem eX11_count_1 : decode cX11_count 1 = .ok (.tableswitch 142 0 9 #[55, 66, 74, 82, 94, 105, 113, 124, 132, 137], 55) := by decide +kernel
theorem eX11_count_56 : aAL cX11_count 56 0 57 := Or.inl ⟨0, by decide +kernel, rfl, rfl⟩
theorem eX11_count_57 : aI3 cX11_count 57 (.getfield 29) 60 := ⟨by decide +kernel, rfl⟩
theorem eX11_count_60 : aI3 cX11_count 60 (.getfield 79) 63 := ⟨by decide +kernel, rfl⟩
theorem eX11_count_63 : aI3 cX11_count 63 (.invokevirtual 82) 66 := ⟨by decide +kernel, rfl⟩
theorem eX11_count_66 : ∀ x : Int32, aRet cX11_count (some .int) 66 (some (.int x)) := fun x => Or.inr (Or.inl ⟨x, _, rfl, rfl, rfl, by decide +kernel⟩)
theorem eX11_count_67 : aAL cX11_count 67 0 68 := Or.inl ⟨0, by decide +kernel, rfl, rfl⟩
theorem eX11_count_68 : aI3 cX11_count 68 (.getfield 29) 71 := ⟨by decide +kernel, rfl⟩
theorem eX11_count_71 : aI3 cX11_count 71 (.getfield 103) 74 := ⟨by decide +kernel, rfl⟩
theorem eX11_count_74 : ∀ x : Int32, aRet cX11_count (some .int) 74 (some (.int x)) := fun x => Or.inr (Or.inl ⟨x, _, rfl, rfl, rfl, by decide +kernel⟩)
theorem eX11_count_75 : aAL cX11_count 75 0 76 := Or.inl ⟨0, by decide +kernel, rfl, rfl⟩
theorem eX11_count_76 : aI3 cX11_count 76 (.getfield 29) 79 := ⟨by decide +kernel, rfl⟩
theorem eX11_count_79 : aI3 cX11_count 79 (.getfield 109) 82 := ⟨by decide +kernel, rfl⟩
theorem eX11_count_82 : ∀ x : Int32, aRet cX11_count (some .int) 82 (some (.int x)) := fun x => Or.inr (Or.inl ⟨x, _, rfl, rfl, rfl, by decide +kernel⟩)
theorem eX11_count_83 : aAL cX11_count 83 0 84 := Or.inl ⟨0, by decide +kernel, rfl, rfl⟩
theorem eX11_count_84 : aAL cX11_count 84 0 85 := Or.inl ⟨0, by decide +kernel, rfl, rfl⟩
theorem eX11_count_85 : aI3 cX11_count 85 (.getfield 29) 88 := ⟨by decide +kernel, rfl⟩
theorem eX11_count_88 : aI3 cX11_count 88 (.getfield 79) 91 := ⟨by decide +kernel, rfl⟩
theorem eX11_count_91 : aI3 cX11_count 91 (.invokevirtual 193) 94 := ⟨by decide +kernel, rfl⟩
theorem eX11_count_94 : ∀ x : Int32, aRet cX11_count (some .int) 94 (some (.int x)) := fun x => Or.inr (Or.inl ⟨x, _, rfl, rfl, rfl, by decide +kernel⟩)
theorem eX11_count_95 : aAL cX11_count 95 0 96 := Or.inl ⟨0, by decide +kernel, rfl, rfl⟩
theorem eX11_count_96 : aI3 cX11_count 96 (.getfield 29) 99 := ⟨by decide +kernel, rfl⟩
theorem eX11_count_99 : aI3 cX11_count 99 (.getfield 79) 102 := ⟨by decide +kernel, rfl⟩
theorem eX11_count_102 : aI3 cX11_count 102 (.invokevirtual 204) 105 := ⟨by decide +kernel, rfl⟩
theorem eX11_count_105 : ∀ x : Int32, aRet cX11_count (some .int) 105 (some (.int x)) := fun x => Or.inr (Or.inl ⟨x, _, rfl, rfl, rfl, by decide +kernel⟩)
theorem eX11_count_106 : aAL cX11_count 106 0 107 := Or.inl ⟨0, by decide +kernel, rfl, rfl⟩
theorem eX11_count_107 : aI3 cX11_count 107 (.getfield 29) 110 := ⟨by decide +kernel, rfl⟩
theorem eX11_count_110 : aI3 cX11_count 110 (.getfield 100) 113 := ⟨by decide +kernel, rfl⟩
theorem eX11_count_113 : ∀ x : Int32, aRet cX11_count (some .int) 113 (some (.int x)) := fun x => Or.inr (Or.inl ⟨x, _, rfl, rfl, rfl, by decide +kernel⟩)
theorem eX11_count_114 : aAL cX11_count 114 0 115 := Or.inl ⟨0, by decide +kernel, rfl, rfl⟩
theorem eX11_count_115 : aI3 cX11_count 115 (.getfield 29) 118 := ⟨by decide +kernel, rfl⟩
theorem eX11_count_118 : aI3 cX11_count 118 (.getfield 140) 121 := ⟨by decide +kernel, rfl⟩
theorem eX11_count_121 : aI3 cX11_count 121 (.invokevirtual 188) 124 := ⟨by decide +kernel, rfl⟩
theorem eX11_count_124 : ∀ x : Int32, aRet cX11_count (some .int) 124 (some (.int x)) := fun x => Or.inr (Or.inl ⟨x, _, rfl, rfl, rfl, by decide +kernel⟩)
theorem eX11_count_125 : aAL cX11_count 125 0 126 := Or.inl ⟨0, by decide +kernel, rfl, rfl⟩
theorem eX11_count_126 : aI3 cX11_count 126 (.getfield 10) 129 := ⟨by decide +kernel, rfl⟩
theorem eX11_count_129 : aI3 cX11_count 129 (.invokevirtual 54) 132 := ⟨by decide +kernel, rfl⟩
theorem eX11_count_132 : ∀ x : Int32, aRet cX11_count (some .int) 132 (some (.int x)) := fun x => Or.inr (Or.inl ⟨x, _, rfl, rfl, rfl, by decide +kernel⟩)
theorem eX11_count_133 : aAL cX11_count 133 0 134 := Or.inl ⟨0, by decide +kernel, rfl, rfl⟩
theorem eX11_count_134 : aI3 cX11_count 134 (.getfield 75) 137 := ⟨by decide +kernel, rfl⟩
theorem eX11_count_137 : ∀ x : Int32, aRet cX11_count (some .int) 137 (some (.int x)) := fun x => Or.inr (Or.inl ⟨x, _, rfl, rfl, rfl, by decide +kernel⟩)
theorem eX11_count_138 : aAL cX11_count 138 0 139 := Or.inl ⟨0, by decide +kernel, rfl, rfl⟩
theorem eX11_count_139 : aI3 cX11_count 139 (.getfield 159) 142 := ⟨by decide +kernel, rfl⟩
theorem eX11_count_142 : ∀ x : Int32, aRet cX11_count (some .int) 142 (some (.int x)) := fun x => Or.inr (Or.inl ⟨x, _, rfl, rfl, rfl, by decide +kernel⟩)
theorem eX11_count_143 : aPI cX11_count 143 (-102) 145 := Or.inr (Or.inl ⟨(-102), by decide +kernel, by decide +kernel, rfl⟩)
theorem eX11_count_145 : ∀ x : Int32, aRet cX11_count (some .int) 145 (some (.int x)) := fun x => Or.inr (Or.inl ⟨x, _, rfl, rfl, rfl, by decide +kernel⟩)
theorem eX11_digest_0 : aI3 cX11_digest 0 (.ldc2_w 207) 3 := ⟨by decide +kernel, rfl⟩
theorem eX11_digest_3 : aLS cX11_digest 3 1 4 := Or.inl ⟨1, by decide +kernel, rfl, rfl⟩
theorem eX11_digest_4 : aPI cX11_digest 4 (nI 0) 5 := Or.inl ⟨0, by decide +kernel, by decide +kernel, rfl⟩
theorem eX11_digest_5 : aIS cX11_digest 5 3 6 := Or.inl ⟨3, by decide +kernel, rfl, rfl⟩
theorem eX11_digest_6 : aIL cX11_digest 6 3 7 := Or.inl ⟨3, by decide +kernel, rfl, rfl⟩
theorem eX11_digest_7 : aPI cX11_digest 7 (nI 5) 8 := Or.inl ⟨5, by decide +kernel, by decide +kernel, rfl⟩
theorem eX11_digest_8 : aIc_ge cX11_digest 8 11 37 := ⟨29, by decide +kernel, rfl, by decide⟩
theorem eX11_digest_11 : aAL cX11_digest 11 0 12 := Or.inl ⟨0, by decide +kernel, rfl, rfl⟩
theorem eX11_digest_12 : aI3 cX11_digest 12 (.invokevirtual 83) 15 := ⟨by decide +kernel, rfl⟩
theorem eX11_digest_15 : aIf_eq cX11_digest 15 18 37 := ⟨22, by decide +kernel, rfl, by decide⟩
theorem eX11_digest_18 : aI3 cX11_digest 18 (.ldc2_w 209) 21 := ⟨by decide +kernel, rfl⟩
theorem eX11_digest_21 : aLL cX11_digest 21 1 22 := Or.inl ⟨1, by decide +kernel, rfl, rfl⟩
theorem eX11_digest_22 : aI1 cX11_digest 22 (.lmul) 23 := ⟨by decide +kernel, rfl⟩
theorem eX11_digest_23 : aAL cX11_digest 23 0 24 := Or.inl ⟨0, by decide +kernel, rfl, rfl⟩
theorem eX11_digest_24 : aIL cX11_digest 24 3 25 := Or.inl ⟨3, by decide +kernel, rfl, rfl⟩
theorem eX11_digest_25 : aI3 cX11_digest 25 (.invokevirtual 211) 28 := ⟨by decide +kernel, rfl⟩
theorem eX11_digest_28 : aI1 cX11_digest 28 (.i2l) 29 := ⟨by decide +kernel, rfl⟩
theorem eX11_digest_29 : aI1 cX11_digest 29 (.ladd) 30 := ⟨by decide +kernel, rfl⟩
theorem eX11_digest_30 : aLS cX11_digest 30 1 31 := Or.inl ⟨1, by decide +kernel, rfl, rfl⟩
theorem eX11_digest_31 : aII cX11_digest 31 3 (nI 1) 34 := ⟨1, by decide +kernel, by decide +kernel, rfl⟩
theorem eX11_digest_34 : aGo cX11_digest 34 6 := ⟨(-28), by decide +kernel, by decide⟩
theorem eX11_digest_37 : aPI cX11_digest 37 (nI 0) 38 := Or.inl ⟨0, by decide +kernel, by decide +kernel, rfl⟩
theorem eX11_digest_38 : aIS cX11_digest 38 3 39 := Or.inl ⟨3, by decide +kernel, rfl, rfl⟩
theorem eX11_digest_39 : aIL cX11_digest 39 3 40 := Or.inl ⟨3, by decide +kernel, rfl, rfl⟩
theorem eX11_digest_40 : aAL cX11_digest 40 0 41 := Or.inl ⟨0, by decide +kernel, rfl, rfl⟩
theorem eX11_digest_41 : aI3 cX11_digest 41 (.getfield 29) 44 := ⟨by decide +kernel, rfl⟩
theorem eX11_digest_44 : aI3 cX11_digest 44 (.getfield 79) 47 := ⟨by decide +kernel, rfl⟩
theorem eX11_digest_47 : aI3 cX11_digest 47 (.invokevirtual 82) 50 := ⟨by decide +kernel, rfl⟩
theorem eX11_digest_50 : aIc_ge cX11_digest 50 53 78 := ⟨28, by decide +kernel, rfl, by decide⟩
theorem eX11_digest_53 : aI3 cX11_digest 53 (.ldc2_w 209) 56 := ⟨by decide +kernel, rfl⟩
theorem eX11_digest_56 : aLL cX11_digest 56 1 57 := Or.inl ⟨1, by decide +kernel, rfl, rfl⟩
theorem eX11_digest_57 : aI1 cX11_digest 57 (.lmul) 58 := ⟨by decide +kernel, rfl⟩
theorem eX11_digest_58 : aAL cX11_digest 58 0 59 := Or.inl ⟨0, by decide +kernel, rfl, rfl⟩
theorem eX11_digest_59 : aI3 cX11_digest 59 (.getfield 29) 62 := ⟨by decide +kernel, rfl⟩
theorem eX11_digest_62 : aI3 cX11_digest 62 (.getfield 79) 65 := ⟨by decide +kernel, rfl⟩
theorem eX11_digest_65 : aIL cX11_digest 65 3 66 := Or.inl ⟨3, by decide +kernel, rfl, rfl⟩
theorem eX11_digest_66 : aI3 cX11_digest 66 (.invokevirtual 89) 69 := ⟨by decide +kernel, rfl⟩
theorem eX11_digest_69 : aI1 cX11_digest 69 (.i2l) 70 := ⟨by decide +kernel, rfl⟩
theorem eX11_digest_70 : aI1 cX11_digest 70 (.ladd) 71 := ⟨by decide +kernel, rfl⟩
theorem eX11_digest_71 : aLS cX11_digest 71 1 72 := Or.inl ⟨1, by decide +kernel, rfl, rfl⟩
theorem eX11_digest_72 : aII cX11_digest 72 3 (nI 1) 75 := ⟨1, by decide +kernel, by decide +kernel, rfl⟩
theorem eX11_digest_75 : aGo cX11_digest 75 39 := ⟨(-36), by decide +kernel, by decide⟩
theorem eX11_digest_78 : aPI cX11_digest 78 (nI 0) 79 := Or.inl ⟨0, by decide +kernel, by decide +kernel, rfl⟩
theorem eX11_digest_79 : aIS cX11_digest 79 3 80 := Or.inl ⟨3, by decide +kernel, rfl, rfl⟩
theorem eX11_digest_80 : aIL cX11_digest 80 3 81 := Or.inl ⟨3, by decide +kernel, rfl, rfl⟩
theorem eX11_digest_81 : aAL cX11_digest 81 0 82 := Or.inl ⟨0, by decide +kernel, rfl, rfl⟩
theorem eX11_digest_82 : aI3 cX11_digest 82 (.getfield 29) 85 := ⟨by decide +kernel, rfl⟩
theorem eX11_digest_85 : aI3 cX11_digest 85 (.getfield 109) 88 := ⟨by decide +kernel, rfl⟩
theorem eX11_digest_88 : aIc_ge cX11_digest 88 91 158 := ⟨70, by decide +kernel, rfl, by decide⟩
theorem eX11_digest_91 : aPI cX11_digest 91 (nI 0) 92 := Or.inl ⟨0, by decide +kernel, by decide +kernel, rfl⟩
theorem eX11_digest_92 : aIS cX11_digest 92 4 94 := Or.inr ⟨by decide +kernel, rfl⟩
theorem eX11_digest_94 : aIL cX11_digest 94 4 96 := Or.inr ⟨by decide +kernel, rfl⟩
theorem eX11_digest_96 : aPI cX11_digest 96 (nI 7) 98 := Or.inr (Or.inl ⟨7, by decide +kernel, by decide +kernel, rfl⟩)
theorem eX11_digest_98 : aIc_gt cX11_digest 98 101 122 := ⟨24, by decide +kernel, rfl, by decide⟩
theorem eX11_digest_101 : aI3 cX11_digest 101 (.ldc2_w 209) 104 := ⟨by decide +kernel, rfl⟩
theorem eX11_digest_104 : aLL cX11_digest 104 1 105 := Or.inl ⟨1, by decide +kernel, rfl, rfl⟩
theorem eX11_digest_105 : aI1 cX11_digest 105 (.lmul) 106 := ⟨by decide +kernel, rfl⟩
theorem eX11_digest_106 : aAL cX11_digest 106 0 107 := Or.inl ⟨0, by decide +kernel, rfl, rfl⟩
theorem eX11_digest_107 : aIL cX11_digest 107 3 108 := Or.inl ⟨3, by decide +kernel, rfl, rfl⟩
theorem eX11_digest_108 : aIL cX11_digest 108 4 110 := Or.inr ⟨by decide +kernel, rfl⟩
theorem eX11_digest_110 : aI3 cX11_digest 110 (.invokevirtual 213) 113 := ⟨by decide +kernel, rfl⟩
theorem eX11_digest_113 : aI1 cX11_digest 113 (.i2l) 114 := ⟨by decide +kernel, rfl⟩
theorem eX11_digest_114 : aI1 cX11_digest 114 (.ladd) 115 := ⟨by decide +kernel, rfl⟩
theorem eX11_digest_115 : aLS cX11_digest 115 1 116 := Or.inl ⟨1, by decide +kernel, rfl, rfl⟩
theorem eX11_digest_116 : aII cX11_digest 116 4 (nI 1) 119 := ⟨1, by decide +kernel, by decide +kernel, rfl⟩
theorem eX11_digest_119 : aGo cX11_digest 119 94 := ⟨(-25), by decide +kernel, by decide⟩
theorem eX11_digest_122 : aI3 cX11_digest 122 (.ldc2_w 209) 125 := ⟨by decide +kernel, rfl⟩
theorem eX11_digest_125 : aLL cX11_digest 125 1 126 := Or.inl ⟨1, by decide +kernel, rfl, rfl⟩
theorem eX11_digest_126 : aI1 cX11_digest 126 (.lmul) 127 := ⟨by decide +kernel, rfl⟩
theorem eX11_digest_127 : aAL cX11_digest 127 0 128 := Or.inl ⟨0, by decide +kernel, rfl, rfl⟩
theorem eX11_digest_128 : aIL cX11_digest 128 3 129 := Or.inl ⟨3, by decide +kernel, rfl, rfl⟩
theorem eX11_digest_129 : aPI cX11_digest 129 (nI 2) 130 := Or.inl ⟨2, by decide +kernel, by decide +kernel, rfl⟩
theorem eX11_digest_130 : aPI cX11_digest 130 (nI 0) 131 := Or.inl ⟨0, by decide +kernel, by decide +kernel, rfl⟩
theorem eX11_digest_131 : aI3 cX11_digest 131 (.invokevirtual 216) 134 := ⟨by decide +kernel, rfl⟩
theorem eX11_digest_134 : aI1 cX11_digest 134 (.i2l) 135 := ⟨by decide +kernel, rfl⟩
theorem eX11_digest_135 : aI1 cX11_digest 135 (.ladd) 136 := ⟨by decide +kernel, rfl⟩
theorem eX11_digest_136 : aLS cX11_digest 136 1 137 := Or.inl ⟨1, by decide +kernel, rfl, rfl⟩
theorem eX11_digest_137 : aI3 cX11_digest 137 (.ldc2_w 209) 140 := ⟨by decide +kernel, rfl⟩
theorem eX11_digest_140 : aLL cX11_digest 140 1 141 := Or.inl ⟨1, by decide +kernel, rfl, rfl⟩
theorem eX11_digest_141 : aI1 cX11_digest 141 (.lmul) 142 := ⟨by decide +kernel, rfl⟩
theorem eX11_digest_142 : aAL cX11_digest 142 0 143 := Or.inl ⟨0, by decide +kernel, rfl, rfl⟩
theorem eX11_digest_143 : aIL cX11_digest 143 3 144 := Or.inl ⟨3, by decide +kernel, rfl, rfl⟩
theorem eX11_digest_144 : aPI cX11_digest 144 (nI 2) 145 := Or.inl ⟨2, by decide +kernel, by decide +kernel, rfl⟩
theorem eX11_digest_145 : aPI cX11_digest 145 (nI 1) 146 := Or.inl ⟨1, by decide +kernel, by decide +kernel, rfl⟩
theorem eX11_digest_146 : aI3 cX11_digest 146 (.invokevirtual 216) 149 := ⟨by decide +kernel, rfl⟩
theorem eX11_digest_149 : aI1 cX11_digest 149 (.i2l) 150 := ⟨by decide +kernel, rfl⟩
theorem eX11_digest_150 : aI1 cX11_digest 150 (.ladd) 151 := ⟨by decide +kernel, rfl⟩
theorem eX11_digest_151 : aLS cX11_digest 151 1 152 := Or.inl ⟨1, by decide +kernel, rfl, rfl⟩
theorem eX11_digest_152 : aII cX11_digest 152 3 (nI 1) 155 := ⟨1, by decide +kernel, by decide +kernel, rfl⟩
theorem eX11_digest_155 : aGo cX11_digest 155 80 := ⟨(-75), by decide +kernel, by decide⟩
theorem eX11_digest_158 : aPI cX11_digest 158 (nI 0) 159 := Or.inl ⟨0, by decide +kernel, by decide +kernel, rfl⟩
theorem eX11_digest_159 : aIS cX11_digest 159 3 160 := Or.inl ⟨3, by decide +kernel, rfl, rfl⟩
theorem eX11_digest_160 : aIL cX11_digest 160 3 161 := Or.inl ⟨3, by decide +kernel, rfl, rfl⟩
theorem eX11_digest_161 : aAL cX11_digest 161 0 162 := Or.inl ⟨0, by decide +kernel, rfl, rfl⟩
theorem eX11_digest_162 : aI3 cX11_digest 162 (.getfield 10) 165 := ⟨by decide +kernel, rfl⟩
theorem eX11_digest_165 : aI3 cX11_digest 165 (.invokevirtual 54) 168 := ⟨by decide +kernel, rfl⟩
theorem eX11_digest_168 : aIc_ge cX11_digest 168 171 193 := ⟨25, by decide +kernel, rfl, by decide⟩
theorem eX11_digest_171 : aI3 cX11_digest 171 (.ldc2_w 209) 174 := ⟨by decide +kernel, rfl⟩
theorem eX11_digest_174 : aLL cX11_digest 174 1 175 := Or.inl ⟨1, by decide +kernel, rfl, rfl⟩
theorem eX11_digest_175 : aI1 cX11_digest 175 (.lmul) 176 := ⟨by decide +kernel, rfl⟩
theorem eX11_digest_176 : aAL cX11_digest 176 0 177 := Or.inl ⟨0, by decide +kernel, rfl, rfl⟩
theorem eX11_digest_177 : aI3 cX11_digest 177 (.getfield 10) 180 := ⟨by decide +kernel, rfl⟩
theorem eX11_digest_180 : aIL cX11_digest 180 3 181 := Or.inl ⟨3, by decide +kernel, rfl, rfl⟩
theorem eX11_digest_181 : aI3 cX11_digest 181 (.invokevirtual 220) 184 := ⟨by decide +kernel, rfl⟩
theorem eX11_digest_184 : aI1 cX11_digest 184 (.i2l) 185 := ⟨by decide +kernel, rfl⟩
theorem eX11_digest_185 : aI1 cX11_digest 185 (.ladd) 186 := ⟨by decide +kernel, rfl⟩
theorem eX11_digest_186 : aLS cX11_digest 186 1 187 := Or.inl ⟨1, by decide +kernel, rfl, rfl⟩
theorem eX11_digest_187 : aII cX11_digest 187 3 (nI 1) 190 := ⟨1, by decide +kernel, by decide +kernel, rfl⟩
theorem eX11_digest_190 : aGo cX11_digest 190 160 := ⟨(-30), by decide +kernel, by decide⟩
theorem eX11_digest_193 : aPI cX11_digest 193 (nI 0) 194 := Or.inl ⟨0, by decide +kernel, by decide +kernel, rfl⟩
theorem eX11_digest_194 : aIS cX11_digest 194 3 195 := Or.inl ⟨3, by decide +kernel, rfl, rfl⟩
theorem eX11_digest_195 : aIL cX11_digest 195 3 196 := Or.inl ⟨3, by decide +kernel, rfl, rfl⟩
theorem eX11_digest_196 : aPI cX11_digest 196 (nI 9) 198 := Or.inr (Or.inl ⟨9, by decide +kernel, by decide +kernel, rfl⟩)
theorem eX11_digest_198 : aIc_gt cX11_digest 198 201 220 := ⟨22, by decide +kernel, rfl, by decide⟩
theorem eX11_digest_201 : aI3 cX11_digest 201 (.ldc2_w 209) 204 := ⟨by decide +kernel, rfl⟩
theorem eX11_digest_204 : aLL cX11_digest 204 1 205 := Or.inl ⟨1, by decide +kernel, rfl, rfl⟩
theorem eX11_digest_205 : aI1 cX11_digest 205 (.lmul) 206 := ⟨by decide +kernel, rfl⟩
theorem eX11_digest_206 : aAL cX11_digest 206 0 207 := Or.inl ⟨0, by decide +kernel, rfl, rfl⟩
theorem eX11_digest_207 : aIL cX11_digest 207 3 208 := Or.inl ⟨3, by decide +kernel, rfl, rfl⟩
theorem eX11_digest_208 : aI3 cX11_digest 208 (.invokevirtual 223) 211 := ⟨by decide +kernel, rfl⟩
theorem eX11_digest_211 : aI1 cX11_digest 211 (.i2l) 212 := ⟨by decide +kernel, rfl⟩
theorem eX11_digest_212 : aI1 cX11_digest 212 (.ladd) 213 := ⟨by decide +kernel, rfl⟩
theorem eX11_digest_213 : aLS cX11_digest 213 1 214 := Or.inl ⟨1, by decide +kernel, rfl, rfl⟩
theorem eX11_digest_214 : aII cX11_digest 214 3 (nI 1) 217 := ⟨1, by decide +kernel, by decide +kernel, rfl⟩
theorem eX11_digest_217 : aGo cX11_digest 217 195 := ⟨(-22), by decide +kernel, by decide⟩
theorem eX11_digest_220 : aLL cX11_digest 220 1 221 := Or.inl ⟨1, by decide +kernel, rfl, rfl⟩
theorem eX11_digest_221 : ∀ x : Int64, aRet cX11_digest (some .long) 221 (some (.long x)) := fun x => Or.inr (Or.inr (Or.inl ⟨x, rfl, rfl, by decide +kernel⟩))
theorem eX11_hasCourt_0 : aAL cX11_hasCourt 0 0 1 := Or.inl ⟨0, by decide +kernel, rfl, rfl⟩
theorem eX11_hasCourt_1 : aI3 cX11_hasCourt 1 (.getfield 75) 4 := ⟨by decide +kernel, rfl⟩
theorem eX11_hasCourt_4 : aIf_le cX11_hasCourt 4 7 11 := ⟨7, by decide +kernel, rfl, by decide⟩
theorem eX11_hasCourt_7 : aPI cX11_hasCourt 7 (nI 1) 8 := Or.inl ⟨1, by decide +kernel, by decide +kernel, rfl⟩
theorem eX11_hasCourt_8 : aGo cX11_hasCourt 8 12 := ⟨4, by decide +kernel, by decide⟩
theorem eX11_hasCourt_11 : aPI cX11_hasCourt 11 (nI 0) 12 := Or.inl ⟨0, by decide +kernel, by decide +kernel, rfl⟩
theorem eX11_hasCourt_12 : ∀ x : Int32, (x = 0 ∨ x = 1) → aRet cX11_hasCourt (some .boolean) 12 (some (.int x)) := fun x h => Or.inr (Or.inl ⟨x, _, rfl, rfl, by rcases h with rfl | rfl <;> decide +kernel, by decide +kernel⟩)
theorem eX11_isAccused_0 : aIL cX11_isAccused 0 1 1 := Or.inl ⟨1, by decide +kernel, rfl, rfl⟩
theorem eX11_isAccused_1 : aIf_lt cX11_isAccused 1 4 24 := ⟨23, by decide +kernel, rfl, by decide⟩
theorem eX11_isAccused_4 : aIL cX11_isAccused 4 1 5 := Or.inl ⟨1, by decide +kernel, rfl, rfl⟩
theorem eX11_isAccused_5 : aAL cX11_isAccused 5 0 6 := Or.inl ⟨0, by decide +kernel, rfl, rfl⟩
theorem eX11_isAccused_6 : aI3 cX11_isAccused 6 (.getfield 29) 9 := ⟨by decide +kernel, rfl⟩
theorem eX11_isAccused_9 : aI3 cX11_isAccused 9 (.getfield 109) 12 := ⟨by decide +kernel, rfl⟩
theorem eX11_isAccused_12 : aIc_ge cX11_isAccused 12 15 24 := ⟨12, by decide +kernel, rfl, by decide⟩
theorem eX11_isAccused_15 : aIL cX11_isAccused 15 1 16 := Or.inl ⟨1, by decide +kernel, rfl, rfl⟩
theorem eX11_isAccused_16 : aPI cX11_isAccused 16 (nI 4) 17 := Or.inl ⟨4, by decide +kernel, by decide +kernel, rfl⟩
theorem eX11_isAccused_17 : aIc_ge cX11_isAccused 17 20 24 := ⟨7, by decide +kernel, rfl, by decide⟩
theorem eX11_isAccused_20 : aPI cX11_isAccused 20 (nI 1) 21 := Or.inl ⟨1, by decide +kernel, by decide +kernel, rfl⟩
theorem eX11_isAccused_21 : aGo cX11_isAccused 21 25 := ⟨4, by decide +kernel, by decide⟩
theorem eX11_isAccused_24 : aPI cX11_isAccused 24 (nI 0) 25 := Or.inl ⟨0, by decide +kernel, by decide +kernel, rfl⟩
theorem eX11_isAccused_25 : ∀ x : Int32, (x = 0 ∨ x = 1) → aRet cX11_isAccused (some .boolean) 25 (some (.int x)) := fun x h => Or.inr (Or.inl ⟨x, _, rfl, rfl, by rcases h with rfl | rfl <;> decide +kernel, by decide +kernel⟩)
theorem eX11_isWord_0 : aIL cX11_isWord 0 0 1 := Or.inl ⟨0, by decide +kernel, rfl, rfl⟩
theorem eX11_isWord_1 : aIf_lt cX11_isWord 1 4 14 := ⟨13, by decide +kernel, rfl, by decide⟩
theorem eX11_isWord_4 : aIL cX11_isWord 4 0 5 := Or.inl ⟨0, by decide +kernel, rfl, rfl⟩
theorem eX11_isWord_5 : aPI cX11_isWord 5 (nI 8) 7 := Or.inr (Or.inl ⟨8, by decide +kernel, by decide +kernel, rfl⟩)
theorem eX11_isWord_7 : aIc_ge cX11_isWord 7 10 14 := ⟨7, by decide +kernel, rfl, by decide⟩
theorem eX11_isWord_10 : aPI cX11_isWord 10 (nI 1) 11 := Or.inl ⟨1, by decide +kernel, by decide +kernel, rfl⟩
theorem eX11_isWord_11 : aGo cX11_isWord 11 15 := ⟨4, by decide +kernel, by decide⟩
theorem eX11_isWord_14 : aPI cX11_isWord 14 (nI 0) 15 := Or.inl ⟨0, by decide +kernel, by decide +kernel, rfl⟩
theorem eX11_isWord_15 : ∀ x : Int32, (x = 0 ∨ x = 1) → aRet cX11_isWord (some .boolean) 15 (some (.int x)) := fun x h => Or.inr (Or.inl ⟨x, _, rfl, rfl, by rcases h with rfl | rfl <;> decide +kernel, by decide +kernel⟩)
theorem eX11_isKind_0 : aIL cX11_isKind 0 0 1 := Or.inl ⟨0, by decide +kernel, rfl, rfl⟩
theorem eX11_isKind_1 : aIf_lt cX11_isKind 1 4 13 := ⟨12, by decide +kernel, rfl, by decide⟩
theorem eX11_isKind_4 : aIL cX11_isKind 4 0 5 := Or.inl ⟨0, by decide +kernel, rfl, rfl⟩
theorem eX11_isKind_5 : aPI cX11_isKind 5 (nI 5) 6 := Or.inl ⟨5, by decide +kernel, by decide +kernel, rfl⟩
theorem eX11_isKind_6 : aIc_ge cX11_isKind 6 9 13 := ⟨7, by decide +kernel, rfl, by decide⟩
theorem eX11_isKind_9 : aPI cX11_isKind 9 (nI 1) 10 := Or.inl ⟨1, by decide +kernel, by decide +kernel, rfl⟩
theorem eX11_isKind_10 : aGo cX11_isKind 10 14 := ⟨4, by decide +kernel, by decide⟩
theorem eX11_isKind_13 : aPI cX11_isKind 13 (nI 0) 14 := Or.inl ⟨0, by decide +kernel, by decide +kernel, rfl⟩
theorem eX11_isKind_14 : ∀ x : Int32, (x = 0 ∨ x = 1) → aRet cX11_isKind (some .boolean) 14 (some (.int x)) := fun x h => Or.inr (Or.inl ⟨x, _, rfl, rfl, by rcases h with rfl | rfl <;> decide +kernel, by decide +kernel⟩)
theorem eX11_manOf_0 : aAL cX11_manOf 0 0 1 := Or.inl ⟨0, by decide +kernel, rfl, rfl⟩
theorem eX11_manOf_1 : aIL cX11_manOf 1 1 2 := Or.inl ⟨1, by decide +kernel, rfl, rfl⟩
theorem eX11_manOf_2 : aI3 cX11_manOf 2 (.invokevirtual 156) 5 := ⟨by decide +kernel, rfl⟩
theorem eX11_manOf_5 : aIf_eq cX11_manOf 5 8 17 := ⟨12, by decide +kernel, rfl, by decide⟩
theorem eX11_manOf_8 : aAL cX11_manOf 8 0 9 := Or.inl ⟨0, by decide +kernel, rfl, rfl⟩
theorem eX11_manOf_9 : aI3 cX11_manOf 9 (.getfield 22) 12 := ⟨by decide +kernel, rfl⟩
theorem eX11_manOf_12 : aIL cX11_manOf 12 1 13 := Or.inl ⟨1, by decide +kernel, rfl, rfl⟩
theorem eX11_manOf_13 : aI1 cX11_manOf 13 (.aaload) 14 := ⟨by decide +kernel, rfl⟩
theorem eX11_manOf_14 : aGo cX11_manOf 14 18 := ⟨4, by decide +kernel, by decide⟩
theorem eX11_manOf_17 : aI1 cX11_manOf 17 (.aconst_null) 18 := ⟨by decide +kernel, rfl⟩
theorem eX11_manOf_18 : ∀ i : Nat, aRet cX11_manOf (some (.object "ReadAloud$Man")) 18 (some (.ref i)) := fun i => Or.inr (Or.inr (Or.inr ⟨Or.inr ⟨i, rfl⟩, ⟨_, rfl⟩, by decide +kernel⟩))
theorem eX11_manOf_18N : aRet cX11_manOf (some (.object "ReadAloud$Man")) 18 (some .null) := Or.inr (Or.inr (Or.inr ⟨Or.inl rfl, ⟨_, rfl⟩, by decide +kernel⟩))
theorem eX11_deedOf_0 : aAL cX11_deedOf 0 0 1 := Or.inl ⟨0, by decide +kernel, rfl, rfl⟩
theorem eX11_deedOf_1 : aIL cX11_deedOf 1 1 2 := Or.inl ⟨1, by decide +kernel, rfl, rfl⟩
theorem eX11_deedOf_2 : aI3 cX11_deedOf 2 (.invokevirtual 118) 5 := ⟨by decide +kernel, rfl⟩
theorem eX11_deedOf_5 : aAS cX11_deedOf 5 2 6 := Or.inl ⟨2, by decide +kernel, rfl, rfl⟩
theorem eX11_deedOf_6 : aAL cX11_deedOf 6 2 7 := Or.inl ⟨2, by decide +kernel, rfl, rfl⟩
theorem eX11_deedOf_7 : aNn cX11_deedOf 7 10 14 := ⟨7, by decide +kernel, rfl, by decide⟩
theorem eX11_deedOf_10 : aPI cX11_deedOf 10 (nI 4) 11 := Or.inl ⟨4, by decide +kernel, by decide +kernel, rfl⟩
theorem eX11_deedOf_11 : aGo cX11_deedOf 11 18 := ⟨7, by decide +kernel, by decide⟩
theorem eX11_deedOf_14 : aAL cX11_deedOf 14 2 15 := Or.inl ⟨2, by decide +kernel, rfl, rfl⟩
theorem eX11_deedOf_15 : aI3 cX11_deedOf 15 (.invokevirtual 125) 18 := ⟨by decide +kernel, rfl⟩
theorem eX11_deedOf_18 : ∀ x : Int32, aRet cX11_deedOf (some .int) 18 (some (.int x)) := fun x => Or.inr (Or.inl ⟨x, _, rfl, rfl, rfl, by decide +kernel⟩)
theorem eX11_hiddenBy_0 : aAL cX11_hiddenBy 0 0 1 := Or.inl ⟨0, by decide +kernel, rfl, rfl⟩
theorem eX11_hiddenBy_1 : aIL cX11_hiddenBy 1 1 2 := Or.inl ⟨1, by decide +kernel, rfl, rfl⟩
theorem eX11_hiddenBy_2 : aI3 cX11_hiddenBy 2 (.invokevirtual 156) 5 := ⟨by decide +kernel, rfl⟩
theorem eX11_hiddenBy_5 : aIf_eq cX11_hiddenBy 5 8 20 := ⟨15, by decide +kernel, rfl, by decide⟩
theorem eX11_hiddenBy_8 : aAL cX11_hiddenBy 8 0 9 := Or.inl ⟨0, by decide +kernel, rfl, rfl⟩
theorem eX11_hiddenBy_9 : aI3 cX11_hiddenBy 9 (.getfield 29) 12 := ⟨by decide +kernel, rfl⟩
theorem eX11_hiddenBy_12 : aI3 cX11_hiddenBy 12 (.getfield 115) 15 := ⟨by decide +kernel, rfl⟩
theorem eX11_hiddenBy_15 : aIL cX11_hiddenBy 15 1 16 := Or.inl ⟨1, by decide +kernel, rfl, rfl⟩
theorem eX11_hiddenBy_16 : aI1 cX11_hiddenBy 16 (.iaload) 17 := ⟨by decide +kernel, rfl⟩
theorem eX11_hiddenBy_17 : aGo cX11_hiddenBy 17 21 := ⟨4, by decide +kernel, by decide⟩
theorem eX11_hiddenBy_20 : aPI cX11_hiddenBy 20 (nI 0) 21 := Or.inl ⟨0, by decide +kernel, by decide +kernel, rfl⟩
theorem eX11_hiddenBy_21 : ∀ x : Int32, aRet cX11_hiddenBy (some .int) 21 (some (.int x)) := fun x => Or.inr (Or.inl ⟨x, _, rfl, rfl, rfl, by decide +kernel⟩)
theorem eX11_manOfKind_0 : aIL cX11_manOfKind 0 0 1 := Or.inl ⟨0, by decide +kernel, rfl, rfl⟩
theorem eX11_manOfKind_1 : decode cX11_manOfKind 1 = .ok (.tableswitch 67 1 4 #[31, 40, 49, 58], 31) := by decide +kernel
theorem eX11_manOfKind_32 : aI3 cX11_manOfKind 32 (.new 226) 35 := ⟨by decide +kernel, rfl⟩
theorem eX11_manOfKind_35 : aI1 cX11_manOfKind 35 (.dup) 36 := ⟨by decide +kernel, rfl⟩
theorem eX11_manOfKind_36 : aIL cX11_manOfKind 36 1 37 := Or.inl ⟨1, by decide +kernel, rfl, rfl⟩
theorem eX11_manOfKind_37 : aI3 cX11_manOfKind 37 (.invokespecial 228) 40 := ⟨by decide +kernel, rfl⟩
theorem eX11_manOfKind_40 : ∀ i : Nat, aRet cX11_manOfKind (some (.object "ReadAloud$Man")) 40 (some (.ref i)) := fun i => Or.inr (Or.inr (Or.inr ⟨Or.inr ⟨i, rfl⟩, ⟨_, rfl⟩, by decide +kernel⟩))
theorem eX11_manOfKind_40N : aRet cX11_manOfKind (some (.object "ReadAloud$Man")) 40 (some .null) := Or.inr (Or.inr (Or.inr ⟨Or.inl rfl, ⟨_, rfl⟩, by decide +kernel⟩))
theorem eX11_manOfKind_41 : aI3 cX11_manOfKind 41 (.new 231) 44 := ⟨by decide +kernel, rfl⟩
theorem eX11_manOfKind_44 : aI1 cX11_manOfKind 44 (.dup) 45 := ⟨by decide +kernel, rfl⟩
theorem eX11_manOfKind_45 : aIL cX11_manOfKind 45 1 46 := Or.inl ⟨1, by decide +kernel, rfl, rfl⟩
theorem eX11_manOfKind_46 : aI3 cX11_manOfKind 46 (.invokespecial 233) 49 := ⟨by decide +kernel, rfl⟩
theorem eX11_manOfKind_49 : ∀ i : Nat, aRet cX11_manOfKind (some (.object "ReadAloud$Man")) 49 (some (.ref i)) := fun i => Or.inr (Or.inr (Or.inr ⟨Or.inr ⟨i, rfl⟩, ⟨_, rfl⟩, by decide +kernel⟩))
theorem eX11_manOfKind_49N : aRet cX11_manOfKind (some (.object "ReadAloud$Man")) 49 (some .null) := Or.inr (Or.inr (Or.inr ⟨Or.inl rfl, ⟨_, rfl⟩, by decide +kernel⟩))
theorem eX11_manOfKind_50 : aI3 cX11_manOfKind 50 (.new 234) 53 := ⟨by decide +kernel, rfl⟩
theorem eX11_manOfKind_53 : aI1 cX11_manOfKind 53 (.dup) 54 := ⟨by decide +kernel, rfl⟩
theorem eX11_manOfKind_54 : aIL cX11_manOfKind 54 1 55 := Or.inl ⟨1, by decide +kernel, rfl, rfl⟩
theorem eX11_manOfKind_55 : aI3 cX11_manOfKind 55 (.invokespecial 236) 58 := ⟨by decide +kernel, rfl⟩
theorem eX11_manOfKind_58 : ∀ i : Nat, aRet cX11_manOfKind (some (.object "ReadAloud$Man")) 58 (some (.ref i)) := fun i => Or.inr (Or.inr (Or.inr ⟨Or.inr ⟨i, rfl⟩, ⟨_, rfl⟩, by decide +kernel⟩))
theorem eX11_manOfKind_58N : aRet cX11_manOfKind (some (.object "ReadAloud$Man")) 58 (some .null) := Or.inr (Or.inr (Or.inr ⟨Or.inl rfl, ⟨_, rfl⟩, by decide +kernel⟩))
theorem eX11_manOfKind_59 : aI3 cX11_manOfKind 59 (.new 237) 62 := ⟨by decide +kernel, rfl⟩
theorem eX11_manOfKind_62 : aI1 cX11_manOfKind 62 (.dup) 63 := ⟨by decide +kernel, rfl⟩
theorem eX11_manOfKind_63 : aIL cX11_manOfKind 63 1 64 := Or.inl ⟨1, by decide +kernel, rfl, rfl⟩
theorem eX11_manOfKind_64 : aI3 cX11_manOfKind 64 (.invokespecial 239) 67 := ⟨by decide +kernel, rfl⟩
theorem eX11_manOfKind_67 : ∀ i : Nat, aRet cX11_manOfKind (some (.object "ReadAloud$Man")) 67 (some (.ref i)) := fun i => Or.inr (Or.inr (Or.inr ⟨Or.inr ⟨i, rfl⟩, ⟨_, rfl⟩, by decide +kernel⟩))
theorem eX11_manOfKind_67N : aRet cX11_manOfKind (some (.object "ReadAloud$Man")) 67 (some .null) := Or.inr (Or.inr (Or.inr ⟨Or.inl rfl, ⟨_, rfl⟩, by decide +kernel⟩))
theorem eX11_manOfKind_68 : aI3 cX11_manOfKind 68 (.new 20) 71 := ⟨by decide +kernel, rfl⟩
theorem eX11_manOfKind_71 : aI1 cX11_manOfKind 71 (.dup) 72 := ⟨by decide +kernel, rfl⟩
theorem eX11_manOfKind_72 : aIL cX11_manOfKind 72 1 73 := Or.inl ⟨1, by decide +kernel, rfl, rfl⟩
theorem eX11_manOfKind_73 : aI3 cX11_manOfKind 73 (.invokespecial 240) 76 := ⟨by decide +kernel, rfl⟩
theorem eX11_manOfKind_76 : ∀ i : Nat, aRet cX11_manOfKind (some (.object "ReadAloud$Man")) 76 (some (.ref i)) := fun i => Or.inr (Or.inr (Or.inr ⟨Or.inr ⟨i, rfl⟩, ⟨_, rfl⟩, by decide +kernel⟩))
theorem eX11_manOfKind_76N : aRet cX11_manOfKind (some (.object "ReadAloud$Man")) 76 (some .null) := Or.inr (Or.inr (Or.inr ⟨Or.inl rfl, ⟨_, rfl⟩, by decide +kernel⟩))
theorem eX11_isOfKind_0 : aIL cX11_isOfKind 0 1 1 := Or.inl ⟨1, by decide +kernel, rfl, rfl⟩
theorem eX11_isOfKind_1 : decode cX11_isOfKind 1 = .ok (.tableswitch 51 1 4 #[31, 36, 41, 46], 31) := by decide +kernel
theorem eX11_isOfKind_32 : aAL cX11_isOfKind 32 0 33 := Or.inl ⟨0, by decide +kernel, rfl, rfl⟩
theorem eX11_isOfKind_33 : aI3 cX11_isOfKind 33 (.instanceof 226) 36 := ⟨by decide +kernel, rfl⟩
theorem eX11_isOfKind_36 : ∀ x : Int32, (x = 0 ∨ x = 1) → aRet cX11_isOfKind (some .boolean) 36 (some (.int x)) := fun x h => Or.inr (Or.inl ⟨x, _, rfl, rfl, by rcases h with rfl | rfl <;> decide +kernel, by decide +kernel⟩)
theorem eX11_isOfKind_37 : aAL cX11_isOfKind 37 0 38 := Or.inl ⟨0, by decide +kernel, rfl, rfl⟩
theorem eX11_isOfKind_38 : aI3 cX11_isOfKind 38 (.instanceof 231) 41 := ⟨by decide +kernel, rfl⟩
theorem eX11_isOfKind_41 : ∀ x : Int32, (x = 0 ∨ x = 1) → aRet cX11_isOfKind (some .boolean) 41 (some (.int x)) := fun x h => Or.inr (Or.inl ⟨x, _, rfl, rfl, by rcases h with rfl | rfl <;> decide +kernel, by decide +kernel⟩)
theorem eX11_isOfKind_42 : aAL cX11_isOfKind 42 0 43 := Or.inl ⟨0, by decide +kernel, rfl, rfl⟩
theorem eX11_isOfKind_43 : aI3 cX11_isOfKind 43 (.instanceof 234) 46 := ⟨by decide +kernel, rfl⟩
theorem eX11_isOfKind_46 : ∀ x : Int32, (x = 0 ∨ x = 1) → aRet cX11_isOfKind (some .boolean) 46 (some (.int x)) := fun x h => Or.inr (Or.inl ⟨x, _, rfl, rfl, by rcases h with rfl | rfl <;> decide +kernel, by decide +kernel⟩)
theorem eX11_isOfKind_47 : aAL cX11_isOfKind 47 0 48 := Or.inl ⟨0, by decide +kernel, rfl, rfl⟩
theorem eX11_isOfKind_48 : aI3 cX11_isOfKind 48 (.instanceof 237) 51 := ⟨by decide +kernel, rfl⟩
theorem eX11_isOfKind_51 : ∀ x : Int32, (x = 0 ∨ x = 1) → aRet cX11_isOfKind (some .boolean) 51 (some (.int x)) := fun x h => Or.inr (Or.inl ⟨x, _, rfl, rfl, by rcases h with rfl | rfl <;> decide +kernel, by decide +kernel⟩)
theorem eX11_isOfKind_52 : aAL cX11_isOfKind 52 0 53 := Or.inl ⟨0, by decide +kernel, rfl, rfl⟩
theorem eX11_isOfKind_53 : aNu cX11_isOfKind 53 56 60 := ⟨7, by decide +kernel, rfl, by decide⟩
theorem eX11_isOfKind_56 : aPI cX11_isOfKind 56 (nI 1) 57 := Or.inl ⟨1, by decide +kernel, by decide +kernel, rfl⟩
theorem eX11_isOfKind_57 : aGo cX11_isOfKind 57 61 := ⟨4, by decide +kernel, by decide⟩
theorem eX11_isOfKind_60 : aPI cX11_isOfKind 60 (nI 0) 61 := Or.inl ⟨0, by decide +kernel, by decide +kernel, rfl⟩
theorem eX11_isOfKind_61 : ∀ x : Int32, (x = 0 ∨ x = 1) → aRet cX11_isOfKind (some .boolean) 61 (some (.int x)) := fun x h => Or.inr (Or.inl ⟨x, _, rfl, rfl, by rcases h with rfl | rfl <;> decide +kernel, by decide +kernel⟩)
theorem eX11_readCourt_0 : aAL cX11_readCourt 0 0 1 := Or.inl ⟨0, by decide +kernel, rfl, rfl⟩
theorem eX11_readCourt_1 : aI3 cX11_readCourt 1 (.getfield 29) 4 := ⟨by decide +kernel, rfl⟩
theorem eX11_readCourt_4 : aI3 cX11_readCourt 4 (.invokevirtual 241) 7 := ⟨by decide +kernel, rfl⟩
theorem eX11_readCourt_7 : aPI cX11_readCourt 7 (nI 0) 8 := Or.inl ⟨0, by decide +kernel, by decide +kernel, rfl⟩
theorem eX11_readCourt_8 : aIS cX11_readCourt 8 1 9 := Or.inl ⟨1, by decide +kernel, rfl, rfl⟩
theorem eX11_readCourt_9 : aIL cX11_readCourt 9 1 10 := Or.inl ⟨1, by decide +kernel, rfl, rfl⟩
theorem eX11_readCourt_10 : aPI cX11_readCourt 10 (nI 5) 11 := Or.inl ⟨5, by decide +kernel, by decide +kernel, rfl⟩
theorem eX11_readCourt_11 : aIc_ge cX11_readCourt 11 14 27 := ⟨16, by decide +kernel, rfl, by decide⟩
theorem eX11_readCourt_14 : aAL cX11_readCourt 14 0 15 := Or.inl ⟨0, by decide +kernel, rfl, rfl⟩
theorem eX11_readCourt_15 : aI3 cX11_readCourt 15 (.getfield 16) 18 := ⟨by decide +kernel, rfl⟩
theorem eX11_readCourt_18 : aIL cX11_readCourt 18 1 19 := Or.inl ⟨1, by decide +kernel, rfl, rfl⟩
theorem eX11_readCourt_19 : aPI cX11_readCourt 19 (nI 0) 20 := Or.inl ⟨0, by decide +kernel, by decide +kernel, rfl⟩
theorem eX11_readCourt_20 : aI1 cX11_readCourt 20 (.iastore) 21 := ⟨by decide +kernel, rfl⟩
theorem eX11_readCourt_21 : aII cX11_readCourt 21 1 (nI 1) 24 := ⟨1, by decide +kernel, by decide +kernel, rfl⟩
theorem eX11_readCourt_24 : aGo cX11_readCourt 24 9 := ⟨(-15), by decide +kernel, by decide⟩
theorem eX11_readCourt_27 : aPI cX11_readCourt 27 (nI 0) 28 := Or.inl ⟨0, by decide +kernel, by decide +kernel, rfl⟩
theorem eX11_readCourt_28 : aIS cX11_readCourt 28 1 29 := Or.inl ⟨1, by decide +kernel, rfl, rfl⟩
theorem eX11_readCourt_29 : aPI cX11_readCourt 29 (nI 0) 30 := Or.inl ⟨0, by decide +kernel, by decide +kernel, rfl⟩
theorem eX11_readCourt_30 : aIS cX11_readCourt 30 2 31 := Or.inl ⟨2, by decide +kernel, rfl, rfl⟩
theorem eX11_readCourt_31 : aIL cX11_readCourt 31 2 32 := Or.inl ⟨2, by decide +kernel, rfl, rfl⟩
theorem eX11_readCourt_32 : aAL cX11_readCourt 32 0 33 := Or.inl ⟨0, by decide +kernel, rfl, rfl⟩
theorem eX11_readCourt_33 : aI3 cX11_readCourt 33 (.getfield 10) 36 := ⟨by decide +kernel, rfl⟩
theorem eX11_readCourt_36 : aI3 cX11_readCourt 36 (.invokevirtual 54) 39 := ⟨by decide +kernel, rfl⟩
theorem eX11_readCourt_39 : aIc_ge cX11_readCourt 39 42 104 := ⟨65, by decide +kernel, rfl, by decide⟩
theorem eX11_readCourt_42 : aAL cX11_readCourt 42 0 43 := Or.inl ⟨0, by decide +kernel, rfl, rfl⟩
theorem eX11_readCourt_43 : aI3 cX11_readCourt 43 (.getfield 10) 46 := ⟨by decide +kernel, rfl⟩
theorem eX11_readCourt_46 : aIL cX11_readCourt 46 2 47 := Or.inl ⟨2, by decide +kernel, rfl, rfl⟩
theorem eX11_readCourt_47 : aI3 cX11_readCourt 47 (.invokevirtual 220) 50 := ⟨by decide +kernel, rfl⟩
theorem eX11_readCourt_50 : aPI cX11_readCourt 50 (nI 97) 52 := Or.inr (Or.inl ⟨97, by decide +kernel, by decide +kernel, rfl⟩)
theorem eX11_readCourt_52 : aI1 cX11_readCourt 52 (.isub) 53 := ⟨by decide +kernel, rfl⟩
theorem eX11_readCourt_53 : aIS cX11_readCourt 53 3 54 := Or.inl ⟨3, by decide +kernel, rfl, rfl⟩
theorem eX11_readCourt_54 : aIL cX11_readCourt 54 3 55 := Or.inl ⟨3, by decide +kernel, rfl, rfl⟩
theorem eX11_readCourt_55 : aI3 cX11_readCourt 55 (.invokestatic 93) 58 := ⟨by decide +kernel, rfl⟩
theorem eX11_readCourt_58 : aIf_ne cX11_readCourt 58 61 67 := ⟨9, by decide +kernel, rfl, by decide⟩
theorem eX11_readCourt_61 : aII cX11_readCourt 61 1 (nI 1) 64 := ⟨1, by decide +kernel, by decide +kernel, rfl⟩
theorem eX11_readCourt_64 : aGo cX11_readCourt 64 98 := ⟨34, by decide +kernel, by decide⟩
theorem eX11_readCourt_67 : aIL cX11_readCourt 67 1 68 := Or.inl ⟨1, by decide +kernel, rfl, rfl⟩
theorem eX11_readCourt_68 : aPI cX11_readCourt 68 (nI 4) 69 := Or.inl ⟨4, by decide +kernel, by decide +kernel, rfl⟩
theorem eX11_readCourt_69 : aIc_ge cX11_readCourt 69 72 87 := ⟨18, by decide +kernel, rfl, by decide⟩
theorem eX11_readCourt_72 : aAL cX11_readCourt 72 0 73 := Or.inl ⟨0, by decide +kernel, rfl, rfl⟩
theorem eX11_readCourt_73 : aI3 cX11_readCourt 73 (.getfield 16) 76 := ⟨by decide +kernel, rfl⟩
theorem eX11_readCourt_76 : aIL cX11_readCourt 76 1 77 := Or.inl ⟨1, by decide +kernel, rfl, rfl⟩
theorem eX11_readCourt_77 : aI1 cX11_readCourt 77 (.dup2) 78 := ⟨by decide +kernel, rfl⟩
theorem eX11_readCourt_78 : aI1 cX11_readCourt 78 (.iaload) 79 := ⟨by decide +kernel, rfl⟩
theorem eX11_readCourt_79 : aPI cX11_readCourt 79 (nI 1) 80 := Or.inl ⟨1, by decide +kernel, by decide +kernel, rfl⟩
theorem eX11_readCourt_80 : aIL cX11_readCourt 80 3 81 := Or.inl ⟨3, by decide +kernel, rfl, rfl⟩
theorem eX11_readCourt_81 : aI1 cX11_readCourt 81 (.ishl) 82 := ⟨by decide +kernel, rfl⟩
theorem eX11_readCourt_82 : aI1 cX11_readCourt 82 (.ior) 83 := ⟨by decide +kernel, rfl⟩
theorem eX11_readCourt_83 : aI1 cX11_readCourt 83 (.iastore) 84 := ⟨by decide +kernel, rfl⟩
theorem eX11_readCourt_84 : aGo cX11_readCourt 84 98 := ⟨14, by decide +kernel, by decide⟩
theorem eX11_readCourt_87 : aAL cX11_readCourt 87 0 88 := Or.inl ⟨0, by decide +kernel, rfl, rfl⟩
theorem eX11_readCourt_88 : aI3 cX11_readCourt 88 (.getfield 29) 91 := ⟨by decide +kernel, rfl⟩
theorem eX11_readCourt_91 : aI3 cX11_readCourt 91 (.getfield 79) 94 := ⟨by decide +kernel, rfl⟩
theorem eX11_readCourt_94 : aIL cX11_readCourt 94 3 95 := Or.inl ⟨3, by decide +kernel, rfl, rfl⟩
theorem eX11_readCourt_95 : aI3 cX11_readCourt 95 (.invokevirtual 244) 98 := ⟨by decide +kernel, rfl⟩
theorem eX11_readCourt_98 : aII cX11_readCourt 98 2 (nI 1) 101 := ⟨1, by decide +kernel, by decide +kernel, rfl⟩
theorem eX11_readCourt_101 : aGo cX11_readCourt 101 31 := ⟨(-70), by decide +kernel, by decide⟩
theorem eX11_readCourt_104 : aRet cX11_readCourt none 104 none := Or.inl ⟨rfl, rfl, by decide +kernel⟩
theorem eX11_wouldAlter_0 : aAL cX11_wouldAlter 0 0 1 := Or.inl ⟨0, by decide +kernel, rfl, rfl⟩
theorem eX11_wouldAlter_1 : aIL cX11_wouldAlter 1 1 2 := Or.inl ⟨1, by decide +kernel, rfl, rfl⟩
theorem eX11_wouldAlter_2 : aI3 cX11_wouldAlter 2 (.invokevirtual 118) 5 := ⟨by decide +kernel, rfl⟩
theorem eX11_wouldAlter_5 : aAS cX11_wouldAlter 5 5 7 := Or.inr ⟨by decide +kernel, rfl⟩
theorem eX11_wouldAlter_7 : aAL cX11_wouldAlter 7 5 9 := Or.inr ⟨by decide +kernel, rfl⟩
theorem eX11_wouldAlter_9 : aNu cX11_wouldAlter 9 12 25 := ⟨16, by decide +kernel, rfl, by decide⟩
theorem eX11_wouldAlter_12 : aAL cX11_wouldAlter 12 2 13 := Or.inl ⟨2, by decide +kernel, rfl, rfl⟩
theorem eX11_wouldAlter_13 : aNu cX11_wouldAlter 13 16 25 := ⟨12, by decide +kernel, rfl, by decide⟩
theorem eX11_wouldAlter_16 : aIL cX11_wouldAlter 16 3 17 := Or.inl ⟨3, by decide +kernel, rfl, rfl⟩
theorem eX11_wouldAlter_17 : aIf_lt cX11_wouldAlter 17 20 25 := ⟨8, by decide +kernel, rfl, by decide⟩
theorem eX11_wouldAlter_20 : aIL cX11_wouldAlter 20 3 21 := Or.inl ⟨3, by decide +kernel, rfl, rfl⟩
theorem eX11_wouldAlter_21 : aPI cX11_wouldAlter 21 (nI 5) 22 := Or.inl ⟨5, by decide +kernel, by decide +kernel, rfl⟩
theorem eX11_wouldAlter_22 : aIc_lt cX11_wouldAlter 22 25 27 := ⟨5, by decide +kernel, rfl, by decide⟩
theorem eX11_wouldAlter_25 : aPI cX11_wouldAlter 25 (nI 0) 26 := Or.inl ⟨0, by decide +kernel, by decide +kernel, rfl⟩
theorem eX11_wouldAlter_26 : ∀ x : Int32, aRet cX11_wouldAlter (some .int) 26 (some (.int x)) := fun x => Or.inr (Or.inl ⟨x, _, rfl, rfl, rfl, by decide +kernel⟩)
theorem eX11_wouldAlter_27 : aAL cX11_wouldAlter 27 5 29 := Or.inr ⟨by decide +kernel, rfl⟩
theorem eX11_wouldAlter_29 : aAL cX11_wouldAlter 29 2 30 := Or.inl ⟨2, by decide +kernel, rfl, rfl⟩
theorem eX11_wouldAlter_30 : aAL cX11_wouldAlter 30 0 31 := Or.inl ⟨0, by decide +kernel, rfl, rfl⟩
theorem eX11_wouldAlter_31 : aI3 cX11_wouldAlter 31 (.getfield 16) 34 := ⟨by decide +kernel, rfl⟩
theorem eX11_wouldAlter_34 : aIL cX11_wouldAlter 34 3 35 := Or.inl ⟨3, by decide +kernel, rfl, rfl⟩
theorem eX11_wouldAlter_35 : aI1 cX11_wouldAlter 35 (.iaload) 36 := ⟨by decide +kernel, rfl⟩
theorem eX11_wouldAlter_36 : aI3 cX11_wouldAlter 36 (.invokevirtual 246) 39 := ⟨by decide +kernel, rfl⟩
theorem eX11_wouldAlter_39 : aAL cX11_wouldAlter 39 5 41 := Or.inr ⟨by decide +kernel, rfl⟩
theorem eX11_wouldAlter_41 : aAL cX11_wouldAlter 41 2 42 := Or.inl ⟨2, by decide +kernel, rfl, rfl⟩
theorem eX11_wouldAlter_42 : aI3 cX11_wouldAlter 42 (.invokevirtual 250) 45 := ⟨by decide +kernel, rfl⟩
theorem eX11_wouldAlter_45 : aI1 cX11_wouldAlter 45 (.ior) 46 := ⟨by decide +kernel, rfl⟩
theorem eX11_wouldAlter_46 : aIS cX11_wouldAlter 46 6 48 := Or.inr ⟨by decide +kernel, rfl⟩
theorem eX11_wouldAlter_48 : aIL cX11_wouldAlter 48 6 50 := Or.inr ⟨by decide +kernel, rfl⟩
theorem eX11_wouldAlter_50 : aAL cX11_wouldAlter 50 2 51 := Or.inl ⟨2, by decide +kernel, rfl, rfl⟩
theorem eX11_wouldAlter_51 : aIL cX11_wouldAlter 51 4 53 := Or.inr ⟨by decide +kernel, rfl⟩
theorem eX11_wouldAlter_53 : aI3 cX11_wouldAlter 53 (.invokevirtual 179) 56 := ⟨by decide +kernel, rfl⟩
theorem eX11_wouldAlter_56 : aPI cX11_wouldAlter 56 (-1) 57 := Or.inl ⟨(-1), by decide +kernel, by decide +kernel, rfl⟩
theorem eX11_wouldAlter_57 : aI1 cX11_wouldAlter 57 (.ixor) 58 := ⟨by decide +kernel, rfl⟩
theorem eX11_wouldAlter_58 : aI1 cX11_wouldAlter 58 (.iand) 59 := ⟨by decide +kernel, rfl⟩
theorem eX11_wouldAlter_59 : ∀ x : Int32, aRet cX11_wouldAlter (some .int) 59 (some (.int x)) := fun x => Or.inr (Or.inl ⟨x, _, rfl, rfl, rfl, by decide +kernel⟩)
theorem eX11_alteredBy_0 : aAL cX11_alteredBy 0 0 1 := Or.inl ⟨0, by decide +kernel, rfl, rfl⟩
theorem eX11_alteredBy_1 : aIL cX11_alteredBy 1 1 2 := Or.inl ⟨1, by decide +kernel, rfl, rfl⟩
theorem eX11_alteredBy_2 : aAL cX11_alteredBy 2 2 3 := Or.inl ⟨2, by decide +kernel, rfl, rfl⟩
theorem eX11_alteredBy_3 : aAL cX11_alteredBy 3 0 4 := Or.inl ⟨0, by decide +kernel, rfl, rfl⟩
theorem eX11_alteredBy_4 : aIL cX11_alteredBy 4 1 5 := Or.inl ⟨1, by decide +kernel, rfl, rfl⟩
theorem eX11_alteredBy_5 : aI3 cX11_alteredBy 5 (.invokevirtual 168) 8 := ⟨by decide +kernel, rfl⟩
theorem eX11_alteredBy_8 : aAL cX11_alteredBy 8 0 9 := Or.inl ⟨0, by decide +kernel, rfl, rfl⟩
theorem eX11_alteredBy_9 : aIL cX11_alteredBy 9 1 10 := Or.inl ⟨1, by decide +kernel, rfl, rfl⟩
theorem eX11_alteredBy_10 : aI3 cX11_alteredBy 10 (.invokevirtual 137) 13 := ⟨by decide +kernel, rfl⟩
theorem eX11_alteredBy_13 : aI3 cX11_alteredBy 13 (.invokevirtual 171) 16 := ⟨by decide +kernel, rfl⟩
theorem eX11_alteredBy_16 : ∀ x : Int32, aRet cX11_alteredBy (some .int) 16 (some (.int x)) := fun x => Or.inr (Or.inl ⟨x, _, rfl, rfl, rfl, by decide +kernel⟩)
theorem eX11_hangingAt_0 : aPI cX11_hangingAt 0 (nI 0) 1 := Or.inl ⟨0, by decide +kernel, by decide +kernel, rfl⟩
theorem eX11_hangingAt_1 : aIS cX11_hangingAt 1 2 2 := Or.inl ⟨2, by decide +kernel, rfl, rfl⟩
theorem eX11_hangingAt_2 : aPI cX11_hangingAt 2 (nI 0) 3 := Or.inl ⟨0, by decide +kernel, by decide +kernel, rfl⟩
theorem eX11_hangingAt_3 : aIS cX11_hangingAt 3 3 4 := Or.inl ⟨3, by decide +kernel, rfl, rfl⟩
theorem eX11_hangingAt_4 : aIL cX11_hangingAt 4 3 5 := Or.inl ⟨3, by decide +kernel, rfl, rfl⟩
theorem eX11_hangingAt_5 : aAL cX11_hangingAt 5 0 6 := Or.inl ⟨0, by decide +kernel, rfl, rfl⟩
theorem eX11_hangingAt_6 : aI3 cX11_hangingAt 6 (.getfield 29) 9 := ⟨by decide +kernel, rfl⟩
theorem eX11_hangingAt_9 : aI3 cX11_hangingAt 9 (.getfield 109) 12 := ⟨by decide +kernel, rfl⟩
theorem eX11_hangingAt_12 : aIc_ge cX11_hangingAt 12 15 43 := ⟨31, by decide +kernel, rfl, by decide⟩
theorem eX11_hangingAt_15 : aAL cX11_hangingAt 15 0 16 := Or.inl ⟨0, by decide +kernel, rfl, rfl⟩
theorem eX11_hangingAt_16 : aIL cX11_hangingAt 16 3 17 := Or.inl ⟨3, by decide +kernel, rfl, rfl⟩
theorem eX11_hangingAt_17 : aAL cX11_hangingAt 17 1 18 := Or.inl ⟨1, by decide +kernel, rfl, rfl⟩
theorem eX11_hangingAt_18 : aI3 cX11_hangingAt 18 (.invokevirtual 128) 21 := ⟨by decide +kernel, rfl⟩
theorem eX11_hangingAt_21 : aI3 cX11_hangingAt 21 (.invokestatic 132) 24 := ⟨by decide +kernel, rfl⟩
theorem eX11_hangingAt_24 : aAL cX11_hangingAt 24 0 25 := Or.inl ⟨0, by decide +kernel, rfl, rfl⟩
theorem eX11_hangingAt_25 : aI3 cX11_hangingAt 25 (.getfield 29) 28 := ⟨by decide +kernel, rfl⟩
theorem eX11_hangingAt_28 : aI3 cX11_hangingAt 28 (.getfield 103) 31 := ⟨by decide +kernel, rfl⟩
theorem eX11_hangingAt_31 : aIc_lt cX11_hangingAt 31 34 37 := ⟨6, by decide +kernel, rfl, by decide⟩
theorem eX11_hangingAt_34 : aII cX11_hangingAt 34 2 (nI 1) 37 := ⟨1, by decide +kernel, by decide +kernel, rfl⟩
theorem eX11_hangingAt_37 : aII cX11_hangingAt 37 3 (nI 1) 40 := ⟨1, by decide +kernel, by decide +kernel, rfl⟩
theorem eX11_hangingAt_40 : aGo cX11_hangingAt 40 4 := ⟨(-36), by decide +kernel, by decide⟩
theorem eX11_hangingAt_43 : aIL cX11_hangingAt 43 2 44 := Or.inl ⟨2, by decide +kernel, rfl, rfl⟩
theorem eX11_hangingAt_44 : ∀ x : Int32, aRet cX11_hangingAt (some .int) 44 (some (.int x)) := fun x => Or.inr (Or.inl ⟨x, _, rfl, rfl, rfl, by decide +kernel⟩)
theorem eX11_allAltering_0 : aPI cX11_allAltering 0 (nI 0) 1 := Or.inl ⟨0, by decide +kernel, by decide +kernel, rfl⟩
theorem eX11_allAltering_1 : aIS cX11_allAltering 1 2 2 := Or.inl ⟨2, by decide +kernel, rfl, rfl⟩
theorem eX11_allAltering_2 : aPI cX11_allAltering 2 (nI 0) 3 := Or.inl ⟨0, by decide +kernel, by decide +kernel, rfl⟩
theorem eX11_allAltering_3 : aIS cX11_allAltering 3 3 4 := Or.inl ⟨3, by decide +kernel, rfl, rfl⟩
theorem eX11_allAltering_4 : aIL cX11_allAltering 4 3 5 := Or.inl ⟨3, by decide +kernel, rfl, rfl⟩
theorem eX11_allAltering_5 : aAL cX11_allAltering 5 0 6 := Or.inl ⟨0, by decide +kernel, rfl, rfl⟩
theorem eX11_allAltering_6 : aI3 cX11_allAltering 6 (.getfield 29) 9 := ⟨by decide +kernel, rfl⟩
theorem eX11_allAltering_9 : aI3 cX11_allAltering 9 (.getfield 109) 12 := ⟨by decide +kernel, rfl⟩
theorem eX11_allAltering_12 : aIc_ge cX11_allAltering 12 15 33 := ⟨21, by decide +kernel, rfl, by decide⟩
theorem eX11_allAltering_15 : aIL cX11_allAltering 15 2 16 := Or.inl ⟨2, by decide +kernel, rfl, rfl⟩
theorem eX11_allAltering_16 : aAL cX11_allAltering 16 0 17 := Or.inl ⟨0, by decide +kernel, rfl, rfl⟩
theorem eX11_allAltering_17 : aIL cX11_allAltering 17 3 18 := Or.inl ⟨3, by decide +kernel, rfl, rfl⟩
theorem eX11_allAltering_18 : aAL cX11_allAltering 18 1 19 := Or.inl ⟨1, by decide +kernel, rfl, rfl⟩
theorem eX11_allAltering_19 : aI3 cX11_allAltering 19 (.invokevirtual 128) 22 := ⟨by decide +kernel, rfl⟩
theorem eX11_allAltering_22 : aI3 cX11_allAltering 22 (.invokestatic 132) 25 := ⟨by decide +kernel, rfl⟩
theorem eX11_allAltering_25 : aI1 cX11_allAltering 25 (.iadd) 26 := ⟨by decide +kernel, rfl⟩
theorem eX11_allAltering_26 : aIS cX11_allAltering 26 2 27 := Or.inl ⟨2, by decide +kernel, rfl, rfl⟩
theorem eX11_allAltering_27 : aII cX11_allAltering 27 3 (nI 1) 30 := ⟨1, by decide +kernel, by decide +kernel, rfl⟩
theorem eX11_allAltering_30 : aGo cX11_allAltering 30 4 := ⟨(-26), by decide +kernel, by decide⟩
theorem eX11_allAltering_33 : aIL cX11_allAltering 33 2 34 := Or.inl ⟨2, by decide +kernel, rfl, rfl⟩
theorem eX11_allAltering_34 : ∀ x : Int32, aRet cX11_allAltering (some .int) 34 (some (.int x)) := fun x => Or.inr (Or.inl ⟨x, _, rfl, rfl, rfl, by decide +kernel⟩)
theorem eX11_deedsAltering_0 : aPI cX11_deedsAltering 0 (nI 0) 1 := Or.inl ⟨0, by decide +kernel, by decide +kernel, rfl⟩
theorem eX11_deedsAltering_1 : aIS cX11_deedsAltering 1 3 2 := Or.inl ⟨3, by decide +kernel, rfl, rfl⟩
theorem eX11_deedsAltering_2 : aPI cX11_deedsAltering 2 (nI 0) 3 := Or.inl ⟨0, by decide +kernel, by decide +kernel, rfl⟩
theorem eX11_deedsAltering_3 : aIS cX11_deedsAltering 3 4 5 := Or.inr ⟨by decide +kernel, rfl⟩
theorem eX11_deedsAltering_5 : aIL cX11_deedsAltering 5 4 7 := Or.inr ⟨by decide +kernel, rfl⟩
theorem eX11_deedsAltering_7 : aPI cX11_deedsAltering 7 (nI 5) 8 := Or.inl ⟨5, by decide +kernel, by decide +kernel, rfl⟩
theorem eX11_deedsAltering_8 : aIc_ge cX11_deedsAltering 8 11 50 := ⟨42, by decide +kernel, rfl, by decide⟩
theorem eX11_deedsAltering_11 : aAL cX11_deedsAltering 11 0 12 := Or.inl ⟨0, by decide +kernel, rfl, rfl⟩
theorem eX11_deedsAltering_12 : aIL cX11_deedsAltering 12 1 13 := Or.inl ⟨1, by decide +kernel, rfl, rfl⟩
theorem eX11_deedsAltering_13 : aAL cX11_deedsAltering 13 0 14 := Or.inl ⟨0, by decide +kernel, rfl, rfl⟩
theorem eX11_deedsAltering_14 : aI3 cX11_deedsAltering 14 (.getfield 29) 17 := ⟨by decide +kernel, rfl⟩
theorem eX11_deedsAltering_17 : aI3 cX11_deedsAltering 17 (.getfield 79) 20 := ⟨by decide +kernel, rfl⟩
theorem eX11_deedsAltering_20 : aIL cX11_deedsAltering 20 4 22 := Or.inr ⟨by decide +kernel, rfl⟩
theorem eX11_deedsAltering_22 : aAL cX11_deedsAltering 22 0 23 := Or.inl ⟨0, by decide +kernel, rfl, rfl⟩
theorem eX11_deedsAltering_23 : aIL cX11_deedsAltering 23 1 24 := Or.inl ⟨1, by decide +kernel, rfl, rfl⟩
theorem eX11_deedsAltering_24 : aI3 cX11_deedsAltering 24 (.invokevirtual 137) 27 := ⟨by decide +kernel, rfl⟩
theorem eX11_deedsAltering_27 : aI3 cX11_deedsAltering 27 (.invokevirtual 171) 30 := ⟨by decide +kernel, rfl⟩
theorem eX11_deedsAltering_30 : aIS cX11_deedsAltering 30 5 32 := Or.inr ⟨by decide +kernel, rfl⟩
theorem eX11_deedsAltering_32 : aIL cX11_deedsAltering 32 3 33 := Or.inl ⟨3, by decide +kernel, rfl, rfl⟩
theorem eX11_deedsAltering_33 : aIL cX11_deedsAltering 33 5 35 := Or.inr ⟨by decide +kernel, rfl⟩
theorem eX11_deedsAltering_35 : aIL cX11_deedsAltering 35 2 36 := Or.inl ⟨2, by decide +kernel, rfl, rfl⟩
theorem eX11_deedsAltering_36 : aI1 cX11_deedsAltering 36 (.ishr) 37 := ⟨by decide +kernel, rfl⟩
theorem eX11_deedsAltering_37 : aPI cX11_deedsAltering 37 (nI 1) 38 := Or.inl ⟨1, by decide +kernel, by decide +kernel, rfl⟩
theorem eX11_deedsAltering_38 : aI1 cX11_deedsAltering 38 (.iand) 39 := ⟨by decide +kernel, rfl⟩
theorem eX11_deedsAltering_39 : aIL cX11_deedsAltering 39 4 41 := Or.inr ⟨by decide +kernel, rfl⟩
theorem eX11_deedsAltering_41 : aI1 cX11_deedsAltering 41 (.ishl) 42 := ⟨by decide +kernel, rfl⟩
theorem eX11_deedsAltering_42 : aI1 cX11_deedsAltering 42 (.ior) 43 := ⟨by decide +kernel, rfl⟩
theorem eX11_deedsAltering_43 : aIS cX11_deedsAltering 43 3 44 := Or.inl ⟨3, by decide +kernel, rfl, rfl⟩
theorem eX11_deedsAltering_44 : aII cX11_deedsAltering 44 4 (nI 1) 47 := ⟨1, by decide +kernel, by decide +kernel, rfl⟩
theorem eX11_deedsAltering_47 : aGo cX11_deedsAltering 47 5 := ⟨(-42), by decide +kernel, by decide⟩
theorem eX11_deedsAltering_50 : aIL cX11_deedsAltering 50 3 51 := Or.inl ⟨3, by decide +kernel, rfl, rfl⟩
theorem eX11_deedsAltering_51 : ∀ x : Int32, aRet cX11_deedsAltering (some .int) 51 (some (.int x)) := fun x => Or.inr (Or.inl ⟨x, _, rfl, rfl, rfl, by decide +kernel⟩)
theorem eX11_placeToListen_0 : aAL cX11_placeToListen 0 0 1 := Or.inl ⟨0, by decide +kernel, rfl, rfl⟩
theorem eX11_placeToListen_1 : aI3 cX11_placeToListen 1 (.getfield 29) 4 := ⟨by decide +kernel, rfl⟩
theorem eX11_placeToListen_4 : aI3 cX11_placeToListen 4 (.getfield 140) 7 := ⟨by decide +kernel, rfl⟩
theorem eX11_placeToListen_7 : aIL cX11_placeToListen 7 1 8 := Or.inl ⟨1, by decide +kernel, rfl, rfl⟩
theorem eX11_placeToListen_8 : aI3 cX11_placeToListen 8 (.invokevirtual 144) 11 := ⟨by decide +kernel, rfl⟩
theorem eX11_placeToListen_11 : aIS cX11_placeToListen 11 2 12 := Or.inl ⟨2, by decide +kernel, rfl, rfl⟩
theorem eX11_placeToListen_12 : aIL cX11_placeToListen 12 2 13 := Or.inl ⟨2, by decide +kernel, rfl, rfl⟩
theorem eX11_placeToListen_13 : aIf_ne cX11_placeToListen 13 16 18 := ⟨5, by decide +kernel, rfl, by decide⟩
theorem eX11_placeToListen_16 : aPI cX11_placeToListen 16 (-1) 17 := Or.inl ⟨(-1), by decide +kernel, by decide +kernel, rfl⟩
theorem eX11_placeToListen_17 : ∀ x : Int32, aRet cX11_placeToListen (some .int) 17 (some (.int x)) := fun x => Or.inr (Or.inl ⟨x, _, rfl, rfl, rfl, by decide +kernel⟩)
theorem eX11_placeToListen_18 : aPI cX11_placeToListen 18 (-1) 19 := Or.inl ⟨(-1), by decide +kernel, by decide +kernel, rfl⟩
theorem eX11_placeToListen_19 : aIS cX11_placeToListen 19 3 20 := Or.inl ⟨3, by decide +kernel, rfl, rfl⟩
theorem eX11_placeToListen_20 : aPI cX11_placeToListen 20 (nI 6) 22 := Or.inr (Or.inl ⟨6, by decide +kernel, by decide +kernel, rfl⟩)
theorem eX11_placeToListen_22 : aIS cX11_placeToListen 22 4 24 := Or.inr ⟨by decide +kernel, rfl⟩
theorem eX11_placeToListen_24 : aPI cX11_placeToListen 24 (nI 0) 25 := Or.inl ⟨0, by decide +kernel, by decide +kernel, rfl⟩
theorem eX11_placeToListen_25 : aIS cX11_placeToListen 25 5 27 := Or.inr ⟨by decide +kernel, rfl⟩
theorem eX11_placeToListen_27 : aIL cX11_placeToListen 27 5 29 := Or.inr ⟨by decide +kernel, rfl⟩
theorem eX11_placeToListen_29 : aAL cX11_placeToListen 29 0 30 := Or.inl ⟨0, by decide +kernel, rfl, rfl⟩
theorem eX11_placeToListen_30 : aI3 cX11_placeToListen 30 (.getfield 29) 33 := ⟨by decide +kernel, rfl⟩
theorem eX11_placeToListen_33 : aI3 cX11_placeToListen 33 (.getfield 79) 36 := ⟨by decide +kernel, rfl⟩
theorem eX11_placeToListen_36 : aI3 cX11_placeToListen 36 (.invokevirtual 82) 39 := ⟨by decide +kernel, rfl⟩
theorem eX11_placeToListen_39 : aIc_ge cX11_placeToListen 39 42 92 := ⟨53, by decide +kernel, rfl, by decide⟩
theorem eX11_placeToListen_42 : aAL cX11_placeToListen 42 0 43 := Or.inl ⟨0, by decide +kernel, rfl, rfl⟩
theorem eX11_placeToListen_43 : aIL cX11_placeToListen 43 1 44 := Or.inl ⟨1, by decide +kernel, rfl, rfl⟩
theorem eX11_placeToListen_44 : aIL cX11_placeToListen 44 5 46 := Or.inr ⟨by decide +kernel, rfl⟩
theorem eX11_placeToListen_46 : aI3 cX11_placeToListen 46 (.invokevirtual 182) 49 := ⟨by decide +kernel, rfl⟩
theorem eX11_placeToListen_49 : aIS cX11_placeToListen 49 6 51 := Or.inr ⟨by decide +kernel, rfl⟩
theorem eX11_placeToListen_51 : aIL cX11_placeToListen 51 2 52 := Or.inl ⟨2, by decide +kernel, rfl, rfl⟩
theorem eX11_placeToListen_52 : aIL cX11_placeToListen 52 6 54 := Or.inr ⟨by decide +kernel, rfl⟩
theorem eX11_placeToListen_54 : aI1 cX11_placeToListen 54 (.iand) 55 := ⟨by decide +kernel, rfl⟩
theorem eX11_placeToListen_55 : aI3 cX11_placeToListen 55 (.invokestatic 132) 58 := ⟨by decide +kernel, rfl⟩
theorem eX11_placeToListen_58 : aIL cX11_placeToListen 58 2 59 := Or.inl ⟨2, by decide +kernel, rfl, rfl⟩
theorem eX11_placeToListen_59 : aIL cX11_placeToListen 59 6 61 := Or.inr ⟨by decide +kernel, rfl⟩
theorem eX11_placeToListen_61 : aPI cX11_placeToListen 61 (-1) 62 := Or.inl ⟨(-1), by decide +kernel, by decide +kernel, rfl⟩
theorem eX11_placeToListen_62 : aI1 cX11_placeToListen 62 (.ixor) 63 := ⟨by decide +kernel, rfl⟩
theorem eX11_placeToListen_63 : aI1 cX11_placeToListen 63 (.iand) 64 := ⟨by decide +kernel, rfl⟩
theorem eX11_placeToListen_64 : aI3 cX11_placeToListen 64 (.invokestatic 132) 67 := ⟨by decide +kernel, rfl⟩
theorem eX11_placeToListen_67 : aI3 cX11_placeToListen 67 (.invokestatic 253) 70 := ⟨by decide +kernel, rfl⟩
theorem eX11_placeToListen_70 : aIS cX11_placeToListen 70 7 72 := Or.inr ⟨by decide +kernel, rfl⟩
theorem eX11_placeToListen_72 : aIL cX11_placeToListen 72 7 74 := Or.inr ⟨by decide +kernel, rfl⟩
theorem eX11_placeToListen_74 : aIL cX11_placeToListen 74 4 76 := Or.inr ⟨by decide +kernel, rfl⟩
theorem eX11_placeToListen_76 : aIc_ge cX11_placeToListen 76 79 86 := ⟨10, by decide +kernel, rfl, by decide⟩
theorem eX11_placeToListen_79 : aIL cX11_placeToListen 79 7 81 := Or.inr ⟨by decide +kernel, rfl⟩
theorem eX11_placeToListen_81 : aIS cX11_placeToListen 81 4 83 := Or.inr ⟨by decide +kernel, rfl⟩
theorem eX11_placeToListen_83 : aIL cX11_placeToListen 83 5 85 := Or.inr ⟨by decide +kernel, rfl⟩
theorem eX11_placeToListen_85 : aIS cX11_placeToListen 85 3 86 := Or.inl ⟨3, by decide +kernel, rfl, rfl⟩
theorem eX11_placeToListen_86 : aII cX11_placeToListen 86 5 (nI 1) 89 := ⟨1, by decide +kernel, by decide +kernel, rfl⟩
theorem eX11_placeToListen_89 : aGo cX11_placeToListen 89 27 := ⟨(-62), by decide +kernel, by decide⟩
theorem eX11_placeToListen_92 : aIL cX11_placeToListen 92 3 93 := Or.inl ⟨3, by decide +kernel, rfl, rfl⟩
theorem eX11_placeToListen_93 : ∀ x : Int32, aRet cX11_placeToListen (some .int) 93 (some (.int x)) := fun x => Or.inr (Or.inl ⟨x, _, rfl, rfl, rfl, by decide +kernel⟩)
theorem eX11_wordsToHide_0 : aPI cX11_wordsToHide 0 (nI 0) 1 := Or.inl ⟨0, by decide +kernel, by decide +kernel, rfl⟩
theorem eX11_wordsToHide_1 : aIS cX11_wordsToHide 1 3 2 := Or.inl ⟨3, by decide +kernel, rfl, rfl⟩
theorem eX11_wordsToHide_2 : aPI cX11_wordsToHide 2 (nI 0) 3 := Or.inl ⟨0, by decide +kernel, by decide +kernel, rfl⟩
theorem eX11_wordsToHide_3 : aIS cX11_wordsToHide 3 4 5 := Or.inr ⟨by decide +kernel, rfl⟩
theorem eX11_wordsToHide_5 : aIL cX11_wordsToHide 5 4 7 := Or.inr ⟨by decide +kernel, rfl⟩
theorem eX11_wordsToHide_7 : aIL cX11_wordsToHide 7 2 8 := Or.inl ⟨2, by decide +kernel, rfl, rfl⟩
theorem eX11_wordsToHide_8 : aIc_ge cX11_wordsToHide 8 11 53 := ⟨45, by decide +kernel, rfl, by decide⟩
theorem eX11_wordsToHide_11 : aAL cX11_wordsToHide 11 0 12 := Or.inl ⟨0, by decide +kernel, rfl, rfl⟩
theorem eX11_wordsToHide_12 : aIL cX11_wordsToHide 12 1 13 := Or.inl ⟨1, by decide +kernel, rfl, rfl⟩
theorem eX11_wordsToHide_13 : aAL cX11_wordsToHide 13 0 14 := Or.inl ⟨0, by decide +kernel, rfl, rfl⟩
theorem eX11_wordsToHide_14 : aI3 cX11_wordsToHide 14 (.getfield 29) 17 := ⟨by decide +kernel, rfl⟩
theorem eX11_wordsToHide_17 : aI3 cX11_wordsToHide 17 (.getfield 79) 20 := ⟨by decide +kernel, rfl⟩
theorem eX11_wordsToHide_20 : aIL cX11_wordsToHide 20 3 21 := Or.inl ⟨3, by decide +kernel, rfl, rfl⟩
theorem eX11_wordsToHide_21 : aI3 cX11_wordsToHide 21 (.invokevirtual 179) 24 := ⟨by decide +kernel, rfl⟩
theorem eX11_wordsToHide_24 : aPI cX11_wordsToHide 24 (-1) 25 := Or.inl ⟨(-1), by decide +kernel, by decide +kernel, rfl⟩
theorem eX11_wordsToHide_25 : aI1 cX11_wordsToHide 25 (.ixor) 26 := ⟨by decide +kernel, rfl⟩
theorem eX11_wordsToHide_26 : aI1 cX11_wordsToHide 26 (.iand) 27 := ⟨by decide +kernel, rfl⟩
theorem eX11_wordsToHide_27 : aI3 cX11_wordsToHide 27 (.invokevirtual 258) 30 := ⟨by decide +kernel, rfl⟩
theorem eX11_wordsToHide_30 : aIS cX11_wordsToHide 30 5 32 := Or.inr ⟨by decide +kernel, rfl⟩
theorem eX11_wordsToHide_32 : aIL cX11_wordsToHide 32 5 34 := Or.inr ⟨by decide +kernel, rfl⟩
theorem eX11_wordsToHide_34 : aPI cX11_wordsToHide 34 (-1) 35 := Or.inl ⟨(-1), by decide +kernel, by decide +kernel, rfl⟩
theorem eX11_wordsToHide_35 : aIc_ne cX11_wordsToHide 35 38 40 := ⟨5, by decide +kernel, rfl, by decide⟩
theorem eX11_wordsToHide_38 : aIL cX11_wordsToHide 38 3 39 := Or.inl ⟨3, by decide +kernel, rfl, rfl⟩
theorem eX11_wordsToHide_39 : ∀ x : Int32, aRet cX11_wordsToHide (some .int) 39 (some (.int x)) := fun x => Or.inr (Or.inl ⟨x, _, rfl, rfl, rfl, by decide +kernel⟩)
theorem eX11_wordsToHide_40 : aIL cX11_wordsToHide 40 3 41 := Or.inl ⟨3, by decide +kernel, rfl, rfl⟩
theorem eX11_wordsToHide_41 : aPI cX11_wordsToHide 41 (nI 1) 42 := Or.inl ⟨1, by decide +kernel, by decide +kernel, rfl⟩
theorem eX11_wordsToHide_42 : aIL cX11_wordsToHide 42 5 44 := Or.inr ⟨by decide +kernel, rfl⟩
theorem eX11_wordsToHide_44 : aI1 cX11_wordsToHide 44 (.ishl) 45 := ⟨by decide +kernel, rfl⟩
theorem eX11_wordsToHide_45 : aI1 cX11_wordsToHide 45 (.ior) 46 := ⟨by decide +kernel, rfl⟩
theorem eX11_wordsToHide_46 : aIS cX11_wordsToHide 46 3 47 := Or.inl ⟨3, by decide +kernel, rfl, rfl⟩
theorem eX11_wordsToHide_47 : aII cX11_wordsToHide 47 4 (nI 1) 50 := ⟨1, by decide +kernel, by decide +kernel, rfl⟩
theorem eX11_wordsToHide_50 : aGo cX11_wordsToHide 50 5 := ⟨(-45), by decide +kernel, by decide⟩
theorem eX11_wordsToHide_53 : aIL cX11_wordsToHide 53 3 54 := Or.inl ⟨3, by decide +kernel, rfl, rfl⟩
theorem eX11_wordsToHide_54 : ∀ x : Int32, aRet cX11_wordsToHide (some .int) 54 (some (.int x)) := fun x => Or.inr (Or.inl ⟨x, _, rfl, rfl, rfl, by decide +kernel⟩)
theorem eX11_heaviestWord_0 : aPI cX11_heaviestWord 0 (-1) 1 := Or.inl ⟨(-1), by decide +kernel, by decide +kernel, rfl⟩
theorem eX11_heaviestWord_1 : aIS cX11_heaviestWord 1 2 2 := Or.inl ⟨2, by decide +kernel, rfl, rfl⟩
theorem eX11_heaviestWord_2 : aPI cX11_heaviestWord 2 (nI 0) 3 := Or.inl ⟨0, by decide +kernel, by decide +kernel, rfl⟩
theorem eX11_heaviestWord_3 : aIS cX11_heaviestWord 3 3 4 := Or.inl ⟨3, by decide +kernel, rfl, rfl⟩
theorem eX11_heaviestWord_4 : aPI cX11_heaviestWord 4 (nI 0) 5 := Or.inl ⟨0, by decide +kernel, by decide +kernel, rfl⟩
theorem eX11_heaviestWord_5 : aIS cX11_heaviestWord 5 4 7 := Or.inr ⟨by decide +kernel, rfl⟩
theorem eX11_heaviestWord_7 : aIL cX11_heaviestWord 7 4 9 := Or.inr ⟨by decide +kernel, rfl⟩
theorem eX11_heaviestWord_9 : aPI cX11_heaviestWord 9 (nI 8) 11 := Or.inr (Or.inl ⟨8, by decide +kernel, by decide +kernel, rfl⟩)
theorem eX11_heaviestWord_11 : aIc_ge cX11_heaviestWord 11 14 53 := ⟨42, by decide +kernel, rfl, by decide⟩
theorem eX11_heaviestWord_14 : aIL cX11_heaviestWord 14 1 15 := Or.inl ⟨1, by decide +kernel, rfl, rfl⟩
theorem eX11_heaviestWord_15 : aAL cX11_heaviestWord 15 0 16 := Or.inl ⟨0, by decide +kernel, rfl, rfl⟩
theorem eX11_heaviestWord_16 : aI3 cX11_heaviestWord 16 (.getfield 29) 19 := ⟨by decide +kernel, rfl⟩
theorem eX11_heaviestWord_19 : aI3 cX11_heaviestWord 19 (.getfield 79) 22 := ⟨by decide +kernel, rfl⟩
theorem eX11_heaviestWord_22 : aPI cX11_heaviestWord 22 (nI 1) 23 := Or.inl ⟨1, by decide +kernel, by decide +kernel, rfl⟩
theorem eX11_heaviestWord_23 : aIL cX11_heaviestWord 23 4 25 := Or.inr ⟨by decide +kernel, rfl⟩
theorem eX11_heaviestWord_25 : aI1 cX11_heaviestWord 25 (.ishl) 26 := ⟨by decide +kernel, rfl⟩
theorem eX11_heaviestWord_26 : aI3 cX11_heaviestWord 26 (.invokevirtual 179) 29 := ⟨by decide +kernel, rfl⟩
theorem eX11_heaviestWord_29 : aI1 cX11_heaviestWord 29 (.iand) 30 := ⟨by decide +kernel, rfl⟩
theorem eX11_heaviestWord_30 : aI3 cX11_heaviestWord 30 (.invokestatic 132) 33 := ⟨by decide +kernel, rfl⟩
theorem eX11_heaviestWord_33 : aIS cX11_heaviestWord 33 5 35 := Or.inr ⟨by decide +kernel, rfl⟩
theorem eX11_heaviestWord_35 : aIL cX11_heaviestWord 35 5 37 := Or.inr ⟨by decide +kernel, rfl⟩
theorem eX11_heaviestWord_37 : aIL cX11_heaviestWord 37 3 38 := Or.inl ⟨3, by decide +kernel, rfl, rfl⟩
theorem eX11_heaviestWord_38 : aIc_le cX11_heaviestWord 38 41 47 := ⟨9, by decide +kernel, rfl, by decide⟩
theorem eX11_heaviestWord_41 : aIL cX11_heaviestWord 41 5 43 := Or.inr ⟨by decide +kernel, rfl⟩
theorem eX11_heaviestWord_43 : aIS cX11_heaviestWord 43 3 44 := Or.inl ⟨3, by decide +kernel, rfl, rfl⟩
theorem eX11_heaviestWord_44 : aIL cX11_heaviestWord 44 4 46 := Or.inr ⟨by decide +kernel, rfl⟩
theorem eX11_heaviestWord_46 : aIS cX11_heaviestWord 46 2 47 := Or.inl ⟨2, by decide +kernel, rfl, rfl⟩
theorem eX11_heaviestWord_47 : aII cX11_heaviestWord 47 4 (nI 1) 50 := ⟨1, by decide +kernel, by decide +kernel, rfl⟩
theorem eX11_heaviestWord_50 : aGo cX11_heaviestWord 50 7 := ⟨(-43), by decide +kernel, by decide⟩
theorem eX11_heaviestWord_53 : aIL cX11_heaviestWord 53 2 54 := Or.inl ⟨2, by decide +kernel, rfl, rfl⟩
theorem eX11_heaviestWord_54 : ∀ x : Int32, aRet cX11_heaviestWord (some .int) 54 (some (.int x)) := fun x => Or.inr (Or.inl ⟨x, _, rfl, rfl, rfl, by decide +kernel⟩)
theorem eX11_drawSheet_0 : aIL cX11_drawSheet 0 1 1 := Or.inl ⟨1, by decide +kernel, rfl, rfl⟩
theorem eX11_drawSheet_1 : aIS cX11_drawSheet 1 2 2 := Or.inl ⟨2, by decide +kernel, rfl, rfl⟩
theorem eX11_drawSheet_2 : aAL cX11_drawSheet 2 0 3 := Or.inl ⟨0, by decide +kernel, rfl, rfl⟩
theorem eX11_drawSheet_3 : aI3 cX11_drawSheet 3 (.getfield 39) 6 := ⟨by decide +kernel, rfl⟩
theorem eX11_drawSheet_6 : aI3 cX11_drawSheet 6 (.invokevirtual 261) 9 := ⟨by decide +kernel, rfl⟩
theorem eX11_drawSheet_9 : aPI cX11_drawSheet 9 (nI 0) 10 := Or.inl ⟨0, by decide +kernel, by decide +kernel, rfl⟩
theorem eX11_drawSheet_10 : aIS cX11_drawSheet 10 3 11 := Or.inl ⟨3, by decide +kernel, rfl, rfl⟩
theorem eX11_drawSheet_11 : aIL cX11_drawSheet 11 3 12 := Or.inl ⟨3, by decide +kernel, rfl, rfl⟩
theorem eX11_drawSheet_12 : aAL cX11_drawSheet 12 0 13 := Or.inl ⟨0, by decide +kernel, rfl, rfl⟩
theorem eX11_drawSheet_13 : aI3 cX11_drawSheet 13 (.getfield 29) 16 := ⟨by decide +kernel, rfl⟩
theorem eX11_drawSheet_16 : aI3 cX11_drawSheet 16 (.getfield 79) 19 := ⟨by decide +kernel, rfl⟩
theorem eX11_drawSheet_19 : aI3 cX11_drawSheet 19 (.invokevirtual 82) 22 := ⟨by decide +kernel, rfl⟩
theorem eX11_drawSheet_22 : aIc_ge cX11_drawSheet 22 25 60 := ⟨38, by decide +kernel, rfl, by decide⟩
theorem eX11_drawSheet_25 : aLd cX11_drawSheet 25 262 28 := Or.inr ⟨by decide +kernel, rfl⟩
theorem eX11_drawSheet_28 : aIL cX11_drawSheet 28 2 29 := Or.inl ⟨2, by decide +kernel, rfl, rfl⟩
theorem eX11_drawSheet_29 : aI1 cX11_drawSheet 29 (.imul) 30 := ⟨by decide +kernel, rfl⟩
theorem eX11_drawSheet_30 : aPI cX11_drawSheet 30 (nI 12345) 33 := Or.inr (Or.inr ⟨12345, by decide +kernel, by decide +kernel, rfl⟩)
theorem eX11_drawSheet_33 : aI1 cX11_drawSheet 33 (.iadd) 34 := ⟨by decide +kernel, rfl⟩
theorem eX11_drawSheet_34 : aLd cX11_drawSheet 34 263 37 := Or.inr ⟨by decide +kernel, rfl⟩
theorem eX11_drawSheet_37 : aI1 cX11_drawSheet 37 (.iand) 38 := ⟨by decide +kernel, rfl⟩
theorem eX11_drawSheet_38 : aIS cX11_drawSheet 38 2 39 := Or.inl ⟨2, by decide +kernel, rfl, rfl⟩
theorem eX11_drawSheet_39 : aAL cX11_drawSheet 39 0 40 := Or.inl ⟨0, by decide +kernel, rfl, rfl⟩
theorem eX11_drawSheet_40 : aI3 cX11_drawSheet 40 (.getfield 39) 43 := ⟨by decide +kernel, rfl⟩
theorem eX11_drawSheet_43 : aIL cX11_drawSheet 43 2 44 := Or.inl ⟨2, by decide +kernel, rfl, rfl⟩
theorem eX11_drawSheet_44 : aLd cX11_drawSheet 44 264 47 := Or.inr ⟨by decide +kernel, rfl⟩
theorem eX11_drawSheet_47 : aI1 cX11_drawSheet 47 (.idiv) 48 := ⟨by decide +kernel, rfl⟩
theorem eX11_drawSheet_48 : aPI cX11_drawSheet 48 (nI 8) 50 := Or.inr (Or.inl ⟨8, by decide +kernel, by decide +kernel, rfl⟩)
theorem eX11_drawSheet_50 : aI1 cX11_drawSheet 50 (.irem) 51 := ⟨by decide +kernel, rfl⟩
theorem eX11_drawSheet_51 : aI3 cX11_drawSheet 51 (.invokevirtual 244) 54 := ⟨by decide +kernel, rfl⟩
theorem eX11_drawSheet_54 : aII cX11_drawSheet 54 3 (nI 1) 57 := ⟨1, by decide +kernel, by decide +kernel, rfl⟩
theorem eX11_drawSheet_57 : aGo cX11_drawSheet 57 11 := ⟨(-46), by decide +kernel, by decide⟩
theorem eX11_drawSheet_60 : aIL cX11_drawSheet 60 2 61 := Or.inl ⟨2, by decide +kernel, rfl, rfl⟩
theorem eX11_drawSheet_61 : ∀ x : Int32, aRet cX11_drawSheet (some .int) 61 (some (.int x)) := fun x => Or.inr (Or.inl ⟨x, _, rfl, rfl, rfl, by decide +kernel⟩)
theorem eX12_init_0 : aAL cX12_init 0 0 1 := Or.inl ⟨0, by decide +kernel, rfl, rfl⟩
theorem eX12_init_1 : aI3 cX12_init 1 (.invokespecial 1) 4 := ⟨by decide +kernel, rfl⟩
theorem eX12_init_4 : aAL cX12_init 4 0 5 := Or.inl ⟨0, by decide +kernel, rfl, rfl⟩
theorem eX12_init_5 : aPI cX12_init 5 (nI 28) 7 := Or.inr (Or.inl ⟨28, by decide +kernel, by decide +kernel, rfl⟩)
theorem eX12_init_7 : aI2 cX12_init 7 (.newarray .int) 9 := ⟨by decide +kernel, rfl⟩
theorem eX12_init_9 : aI3 cX12_init 9 (.putfield 7) 12 := ⟨by decide +kernel, rfl⟩
theorem eX12_init_12 : aAL cX12_init 12 0 13 := Or.inl ⟨0, by decide +kernel, rfl, rfl⟩
theorem eX12_init_13 : aPI cX12_init 13 (nI 5) 14 := Or.inl ⟨5, by decide +kernel, by decide +kernel, rfl⟩
theorem eX12_init_14 : aI2 cX12_init 14 (.newarray .int) 16 := ⟨by decide +kernel, rfl⟩
theorem eX12_init_16 : aI3 cX12_init 16 (.putfield 13) 19 := ⟨by decide +kernel, rfl⟩
theorem eX12_init_19 : aAL cX12_init 19 0 20 := Or.inl ⟨0, by decide +kernel, rfl, rfl⟩
theorem eX12_init_20 : aPI cX12_init 20 (nI 10) 22 := Or.inr (Or.inl ⟨10, by decide +kernel, by decide +kernel, rfl⟩)
theorem eX12_init_22 : aI2 cX12_init 22 (.newarray .int) 24 := ⟨by decide +kernel, rfl⟩
theorem eX12_init_24 : aI3 cX12_init 24 (.putfield 16) 27 := ⟨by decide +kernel, rfl⟩
theorem eX12_init_27 : aAL cX12_init 27 0 28 := Or.inl ⟨0, by decide +kernel, rfl, rfl⟩
theorem eX12_init_28 : aPI cX12_init 28 (nI 5) 29 := Or.inl ⟨5, by decide +kernel, by decide +kernel, rfl⟩
theorem eX12_init_29 : aI2 cX12_init 29 (.newarray .int) 31 := ⟨by decide +kernel, rfl⟩
theorem eX12_init_31 : aI3 cX12_init 31 (.putfield 19) 34 := ⟨by decide +kernel, rfl⟩
theorem eX12_init_34 : aAL cX12_init 34 0 35 := Or.inl ⟨0, by decide +kernel, rfl, rfl⟩
theorem eX12_init_35 : aPI cX12_init 35 (nI 10) 37 := Or.inr (Or.inl ⟨10, by decide +kernel, by decide +kernel, rfl⟩)
theorem eX12_init_37 : aI2 cX12_init 37 (.newarray .int) 39 := ⟨by decide +kernel, rfl⟩
theorem eX12_init_39 : aI3 cX12_init 39 (.putfield 22) 42 := ⟨by decide +kernel, rfl⟩
theorem eX12_init_42 : aAL cX12_init 42 0 43 := Or.inl ⟨0, by decide +kernel, rfl, rfl⟩
theorem eX12_init_43 : aPI cX12_init 43 (nI 12) 45 := Or.inr (Or.inl ⟨12, by decide +kernel, by decide +kernel, rfl⟩)
theorem eX12_init_45 : aI2 cX12_init 45 (.newarray .int) 47 := ⟨by decide +kernel, rfl⟩
theorem eX12_init_47 : aI3 cX12_init 47 (.putfield 25) 50 := ⟨by decide +kernel, rfl⟩
theorem eX12_init_50 : aAL cX12_init 50 0 51 := Or.inl ⟨0, by decide +kernel, rfl, rfl⟩
theorem eX12_init_51 : aPI cX12_init 51 (nI 4) 52 := Or.inl ⟨4, by decide +kernel, by decide +kernel, rfl⟩
theorem eX12_init_52 : aI2 cX12_init 52 (.newarray .int) 54 := ⟨by decide +kernel, rfl⟩
theorem eX12_init_54 : aI3 cX12_init 54 (.putfield 28) 57 := ⟨by decide +kernel, rfl⟩
theorem eX12_init_57 : aAL cX12_init 57 0 58 := Or.inl ⟨0, by decide +kernel, rfl, rfl⟩
theorem eX12_init_58 : aPI cX12_init 58 (nI 5) 59 := Or.inl ⟨5, by decide +kernel, by decide +kernel, rfl⟩
theorem eX12_init_59 : aI2 cX12_init 59 (.newarray .int) 61 := ⟨by decide +kernel, rfl⟩
theorem eX12_init_61 : aI3 cX12_init 61 (.putfield 31) 64 := ⟨by decide +kernel, rfl⟩
theorem eX12_init_64 : aAL cX12_init 64 0 65 := Or.inl ⟨0, by decide +kernel, rfl, rfl⟩
theorem eX12_init_65 : aPI cX12_init 65 (nI 40) 67 := Or.inr (Or.inl ⟨40, by decide +kernel, by decide +kernel, rfl⟩)
theorem eX12_init_67 : aI2 cX12_init 67 (.newarray .int) 69 := ⟨by decide +kernel, rfl⟩
theorem eX12_init_69 : aI3 cX12_init 69 (.putfield 34) 72 := ⟨by decide +kernel, rfl⟩
theorem eX12_init_72 : aAL cX12_init 72 0 73 := Or.inl ⟨0, by decide +kernel, rfl, rfl⟩
theorem eX12_init_73 : aPI cX12_init 73 (nI 10) 75 := Or.inr (Or.inl ⟨10, by decide +kernel, by decide +kernel, rfl⟩)
theorem eX12_init_75 : aI2 cX12_init 75 (.newarray .int) 77 := ⟨by decide +kernel, rfl⟩
theorem eX12_init_77 : aI3 cX12_init 77 (.putfield 37) 80 := ⟨by decide +kernel, rfl⟩
theorem eX12_init_80 : aAL cX12_init 80 0 81 := Or.inl ⟨0, by decide +kernel, rfl, rfl⟩
theorem eX12_init_81 : aPI cX12_init 81 (nI 10) 83 := Or.inr (Or.inl ⟨10, by decide +kernel, by decide +kernel, rfl⟩)
theorem eX12_init_83 : aI2 cX12_init 83 (.newarray .int) 85 := ⟨by decide +kernel, rfl⟩
theorem eX12_init_85 : aI3 cX12_init 85 (.putfield 40) 88 := ⟨by decide +kernel, rfl⟩
theorem eX12_init_88 : aAL cX12_init 88 0 89 := Or.inl ⟨0, by decide +kernel, rfl, rfl⟩
theorem eX12_init_89 : aPI cX12_init 89 (nI 10) 91 := Or.inr (Or.inl ⟨10, by decide +kernel, by decide +kernel, rfl⟩)
theorem eX12_init_91 : aI2 cX12_init 91 (.newarray .int) 93 := ⟨by decide +kernel, rfl⟩
theorem eX12_init_93 : aI3 cX12_init 93 (.putfield 43) 96 := ⟨by decide +kernel, rfl⟩
theorem eX12_init_96 : aAL cX12_init 96 0 97 := Or.inl ⟨0, by decide +kernel, rfl, rfl⟩
theorem eX12_init_97 : aPI cX12_init 97 (nI 12) 99 := Or.inr (Or.inl ⟨12, by decide +kernel, by decide +kernel, rfl⟩)
theorem eX12_init_99 : aI2 cX12_init 99 (.newarray .int) 101 := ⟨by decide +kernel, rfl⟩
theorem eX12_init_101 : aI3 cX12_init 101 (.putfield 46) 104 := ⟨by decide +kernel, rfl⟩
theorem eX12_init_104 : aAL cX12_init 104 0 105 := Or.inl ⟨0, by decide +kernel, rfl, rfl⟩
theorem eX12_init_105 : aPI cX12_init 105 (nI 40) 107 := Or.inr (Or.inl ⟨40, by decide +kernel, by decide +kernel, rfl⟩)
theorem eX12_init_107 : aI2 cX12_init 107 (.newarray .int) 109 := ⟨by decide +kernel, rfl⟩
theorem eX12_init_109 : aI3 cX12_init 109 (.putfield 49) 112 := ⟨by decide +kernel, rfl⟩
theorem eX12_init_112 : aAL cX12_init 112 0 113 := Or.inl ⟨0, by decide +kernel, rfl, rfl⟩
theorem eX12_init_113 : aPI cX12_init 113 (-1) 114 := Or.inl ⟨(-1), by decide +kernel, by decide +kernel, rfl⟩
theorem eX12_init_114 : aI3 cX12_init 114 (.putfield 52) 117 := ⟨by decide +kernel, rfl⟩
theorem eX12_init_117 : aRet cX12_init none 117 none := Or.inl ⟨rfl, rfl, by decide +kernel⟩
theorem eX12_in_0 : aLL cX12_in 0 0 1 := Or.inl ⟨0, by decide +kernel, rfl, rfl⟩
theorem eX12_in_1 : aLL cX12_in 1 2 2 := Or.inl ⟨2, by decide +kernel, rfl, rfl⟩
theorem eX12_in_2 : aI1 cX12_in 2 (.lcmp) 3 := ⟨by decide +kernel, rfl⟩
theorem eX12_in_3 : aIf_lt cX12_in 3 6 17 := ⟨14, by decide +kernel, rfl, by decide⟩
theorem eX12_in_6 : aLL cX12_in 6 0 7 := Or.inl ⟨0, by decide +kernel, rfl, rfl⟩
theorem eX12_in_7 : aLL cX12_in 7 4 9 := Or.inr ⟨by decide +kernel, rfl⟩
theorem eX12_in_9 : aI1 cX12_in 9 (.lcmp) 10 := ⟨by decide +kernel, rfl⟩
theorem eX12_in_10 : aIf_gt cX12_in 10 13 17 := ⟨7, by decide +kernel, rfl, by decide⟩
theorem eX12_in_13 : aPI cX12_in 13 (nI 1) 14 := Or.inl ⟨1, by decide +kernel, by decide +kernel, rfl⟩
theorem eX12_in_14 : aGo cX12_in 14 18 := ⟨4, by decide +kernel, by decide⟩
theorem eX12_in_17 : aPI cX12_in 17 (nI 0) 18 := Or.inl ⟨0, by decide +kernel, by decide +kernel, rfl⟩
theorem eX12_in_18 : ∀ x : Int32, (x = 0 ∨ x = 1) → aRet cX12_in (some .boolean) 18 (some (.int x)) := fun x h => Or.inr (Or.inl ⟨x, _, rfl, rfl, by rcases h with rfl | rfl <;> decide +kernel, by decide +kernel⟩)
theorem eX12_copy_0 : aPI cX12_copy 0 (nI 0) 1 := Or.inl ⟨0, by decide +kernel, by decide +kernel, rfl⟩
theorem eX12_copy_1 : aIS cX12_copy 1 2 2 := Or.inl ⟨2, by decide +kernel, rfl, rfl⟩
theorem eX12_copy_2 : aIL cX12_copy 2 2 3 := Or.inl ⟨2, by decide +kernel, rfl, rfl⟩
theorem eX12_copy_3 : aAL cX12_copy 3 0 4 := Or.inl ⟨0, by decide +kernel, rfl, rfl⟩
theorem eX12_copy_4 : aI1 cX12_copy 4 (.arraylength) 5 := ⟨by decide +kernel, rfl⟩
theorem eX12_copy_5 : aIc_ge cX12_copy 5 8 20 := ⟨15, by decide +kernel, rfl, by decide⟩
theorem eX12_copy_8 : aAL cX12_copy 8 1 9 := Or.inl ⟨1, by decide +kernel, rfl, rfl⟩
theorem eX12_copy_9 : aIL cX12_copy 9 2 10 := Or.inl ⟨2, by decide +kernel, rfl, rfl⟩
theorem eX12_copy_10 : aAL cX12_copy 10 0 11 := Or.inl ⟨0, by decide +kernel, rfl, rfl⟩
theorem eX12_copy_11 : aIL cX12_copy 11 2 12 := Or.inl ⟨2, by decide +kernel, rfl, rfl⟩
theorem eX12_copy_12 : aI1 cX12_copy 12 (.iaload) 13 := ⟨by decide +kernel, rfl⟩
theorem eX12_copy_13 : aI1 cX12_copy 13 (.iastore) 14 := ⟨by decide +kernel, rfl⟩
theorem eX12_copy_14 : aII cX12_copy 14 2 (nI 1) 17 := ⟨1, by decide +kernel, by decide +kernel, rfl⟩
theorem eX12_copy_17 : aGo cX12_copy 17 2 := ⟨(-15), by decide +kernel, by decide⟩
theorem eX12_copy_20 : aRet cX12_copy none 20 none := Or.inl ⟨rfl, rfl, by decide +kernel⟩
theorem eX12_ones_0 : aPI cX12_ones 0 (nI 0) 1 := Or.inl ⟨0, by decide +kernel, by decide +kernel, rfl⟩
theorem eX12_ones_1 : aIS cX12_ones 1 1 2 := Or.inl ⟨1, by decide +kernel, rfl, rfl⟩
theorem eX12_ones_2 : aPI cX12_ones 2 (nI 0) 3 := Or.inl ⟨0, by decide +kernel, by decide +kernel, rfl⟩
theorem eX12_ones_3 : aIS cX12_ones 3 2 4 := Or.inl ⟨2, by decide +kernel, rfl, rfl⟩
theorem eX12_ones_4 : aIL cX12_ones 4 2 5 := Or.inl ⟨2, by decide +kernel, rfl, rfl⟩
theorem eX12_ones_5 : aPI cX12_ones 5 (nI 10) 7 := Or.inr (Or.inl ⟨10, by decide +kernel, by decide +kernel, rfl⟩)
theorem eX12_ones_7 : aIc_ge cX12_ones 7 10 24 := ⟨17, by decide +kernel, rfl, by decide⟩
theorem eX12_ones_10 : aIL cX12_ones 10 1 11 := Or.inl ⟨1, by decide +kernel, rfl, rfl⟩
theorem eX12_ones_11 : aIL cX12_ones 11 0 12 := Or.inl ⟨0, by decide +kernel, rfl, rfl⟩
theorem eX12_ones_12 : aIL cX12_ones 12 2 13 := Or.inl ⟨2, by decide +kernel, rfl, rfl⟩
theorem eX12_ones_13 : aI1 cX12_ones 13 (.ishr) 14 := ⟨by decide +kernel, rfl⟩
theorem eX12_ones_14 : aPI cX12_ones 14 (nI 1) 15 := Or.inl ⟨1, by decide +kernel, by decide +kernel, rfl⟩
theorem eX12_ones_15 : aI1 cX12_ones 15 (.iand) 16 := ⟨by decide +kernel, rfl⟩
theorem eX12_ones_16 : aI1 cX12_ones 16 (.iadd) 17 := ⟨by decide +kernel, rfl⟩
theorem eX12_ones_17 : aIS cX12_ones 17 1 18 := Or.inl ⟨1, by decide +kernel, rfl, rfl⟩
theorem eX12_ones_18 : aII cX12_ones 18 2 (nI 1) 21 := ⟨1, by decide +kernel, by decide +kernel, rfl⟩
theorem eX12_ones_21 : aGo cX12_ones 21 4 := ⟨(-17), by decide +kernel, by decide⟩
theorem eX12_ones_24 : aIL cX12_ones 24 1 25 := Or.inl ⟨1, by decide +kernel, rfl, rfl⟩
theorem eX12_ones_25 : ∀ x : Int32, aRet cX12_ones (some .int) 25 (some (.int x)) := fun x => Or.inr (Or.inl ⟨x, _, rfl, rfl, rfl, by decide +kernel⟩)
theorem eX12_letter_0 : aIL cX12_letter 0 1 1 := Or.inl ⟨1, by decide +kernel, rfl, rfl⟩
theorem eX12_letter_1 : aI1 cX12_letter 1 (.i2l) 2 := ⟨by decide +kernel, rfl⟩
theorem eX12_letter_2 : aI1 cX12_letter 2 (.lconst 1) 3 := ⟨by decide +kernel, rfl⟩
theorem eX12_letter_3 : aI3 cX12_letter 3 (.ldc2_w 56) 6 := ⟨by decide +kernel, rfl⟩
theorem eX12_letter_6 : aI3 cX12_letter 6 (.invokestatic 58) 9 := ⟨by decide +kernel, rfl⟩
theorem eX12_letter_9 : aIf_ne cX12_letter 9 12 15 := ⟨6, by decide +kernel, rfl, by decide⟩
theorem eX12_letter_12 : aPI cX12_letter 12 (-102) 14 := Or.inr (Or.inl ⟨(-102), by decide +kernel, by decide +kernel, rfl⟩)
theorem eX12_letter_14 : ∀ x : Int32, aRet cX12_letter (some .int) 14 (some (.int x)) := fun x => Or.inr (Or.inl ⟨x, _, rfl, rfl, rfl, by decide +kernel⟩)
theorem eX12_letter_15 : aAL cX12_letter 15 0 16 := Or.inl ⟨0, by decide +kernel, rfl, rfl⟩
theorem eX12_letter_16 : aI3 cX12_letter 16 (.getfield 62) 19 := ⟨by decide +kernel, rfl⟩
theorem eX12_letter_19 : aPI cX12_letter 19 (nI 28) 21 := Or.inr (Or.inl ⟨28, by decide +kernel, by decide +kernel, rfl⟩)
theorem eX12_letter_21 : aIc_ne cX12_letter 21 24 27 := ⟨6, by decide +kernel, rfl, by decide⟩
theorem eX12_letter_24 : aPI cX12_letter 24 (-104) 26 := Or.inr (Or.inl ⟨(-104), by decide +kernel, by decide +kernel, rfl⟩)
theorem eX12_letter_26 : ∀ x : Int32, aRet cX12_letter (some .int) 26 (some (.int x)) := fun x => Or.inr (Or.inl ⟨x, _, rfl, rfl, rfl, by decide +kernel⟩)
theorem eX12_letter_27 : aAL cX12_letter 27 0 28 := Or.inl ⟨0, by decide +kernel, rfl, rfl⟩
theorem eX12_letter_28 : aI3 cX12_letter 28 (.getfield 7) 31 := ⟨by decide +kernel, rfl⟩
theorem eX12_letter_31 : aAL cX12_letter 31 0 32 := Or.inl ⟨0, by decide +kernel, rfl, rfl⟩
theorem eX12_letter_32 : aI3 cX12_letter 32 (.getfield 62) 35 := ⟨by decide +kernel, rfl⟩
theorem eX12_letter_35 : aIL cX12_letter 35 1 36 := Or.inl ⟨1, by decide +kernel, rfl, rfl⟩
theorem eX12_letter_36 : aI1 cX12_letter 36 (.iastore) 37 := ⟨by decide +kernel, rfl⟩
theorem eX12_letter_37 : aAL cX12_letter 37 0 38 := Or.inl ⟨0, by decide +kernel, rfl, rfl⟩
theorem eX12_letter_38 : aI1 cX12_letter 38 (.dup) 39 := ⟨by decide +kernel, rfl⟩
theorem eX12_letter_39 : aI3 cX12_letter 39 (.getfield 62) 42 := ⟨by decide +kernel, rfl⟩
theorem eX12_letter_42 : aPI cX12_letter 42 (nI 1) 43 := Or.inl ⟨1, by decide +kernel, by decide +kernel, rfl⟩
theorem eX12_letter_43 : aI1 cX12_letter 43 (.iadd) 44 := ⟨by decide +kernel, rfl⟩
theorem eX12_letter_44 : aI3 cX12_letter 44 (.putfield 62) 47 := ⟨by decide +kernel, rfl⟩
theorem eX12_letter_47 : aAL cX12_letter 47 0 48 := Or.inl ⟨0, by decide +kernel, rfl, rfl⟩
theorem eX12_letter_48 : aI3 cX12_letter 48 (.getfield 62) 51 := ⟨by decide +kernel, rfl⟩
theorem eX12_letter_51 : ∀ x : Int32, aRet cX12_letter (some .int) 51 (some (.int x)) := fun x => Or.inr (Or.inl ⟨x, _, rfl, rfl, rfl, by decide +kernel⟩)
theorem eX12_blank_0 : aAL cX12_blank 0 0 1 := Or.inl ⟨0, by decide +kernel, rfl, rfl⟩
theorem eX12_blank_1 : aI3 cX12_blank 1 (.getfield 62) 4 := ⟨by decide +kernel, rfl⟩
theorem eX12_blank_4 : aIS cX12_blank 4 1 5 := Or.inl ⟨1, by decide +kernel, rfl, rfl⟩
theorem eX12_blank_5 : aAL cX12_blank 5 0 6 := Or.inl ⟨0, by decide +kernel, rfl, rfl⟩
theorem eX12_blank_6 : aPI cX12_blank 6 (nI 0) 7 := Or.inl ⟨0, by decide +kernel, by decide +kernel, rfl⟩
theorem eX12_blank_7 : aI3 cX12_blank 7 (.putfield 62) 10 := ⟨by decide +kernel, rfl⟩
theorem eX12_blank_10 : aIL cX12_blank 10 1 11 := Or.inl ⟨1, by decide +kernel, rfl, rfl⟩
theorem eX12_blank_11 : ∀ x : Int32, aRet cX12_blank (some .int) 11 (some (.int x)) := fun x => Or.inr (Or.inl ⟨x, _, rfl, rfl, rfl, by decide +kernel⟩)
theorem eX12_go_0 : aIL cX12_go 0 1 1 := Or.inl ⟨1, by decide +kernel, rfl, rfl⟩
theorem eX12_go_1 : aPI cX12_go 1 (nI 97) 3 := Or.inr (Or.inl ⟨97, by decide +kernel, by decide +kernel, rfl⟩)
theorem eX12_go_3 : aI1 cX12_go 3 (.isub) 4 := ⟨by decide +kernel, rfl⟩
theorem eX12_go_4 : aIS cX12_go 4 2 5 := Or.inl ⟨2, by decide +kernel, rfl, rfl⟩
theorem eX12_go_5 : aIL cX12_go 5 1 6 := Or.inl ⟨1, by decide +kernel, rfl, rfl⟩
theorem eX12_go_6 : aPI cX12_go 6 (nI 44) 8 := Or.inr (Or.inl ⟨44, by decide +kernel, by decide +kernel, rfl⟩)
theorem eX12_go_8 : aIc_eq cX12_go 8 11 17 := ⟨9, by decide +kernel, rfl, by decide⟩
theorem eX12_go_11 : aIL cX12_go 11 1 12 := Or.inl ⟨1, by decide +kernel, rfl, rfl⟩
theorem eX12_go_12 : aPI cX12_go 12 (nI 59) 14 := Or.inr (Or.inl ⟨59, by decide +kernel, by decide +kernel, rfl⟩)
theorem eX12_go_14 : aIc_ne cX12_go 14 17 87 := ⟨73, by decide +kernel, rfl, by decide⟩
theorem eX12_go_17 : aAL cX12_go 17 0 18 := Or.inl ⟨0, by decide +kernel, rfl, rfl⟩
theorem eX12_go_18 : aI3 cX12_go 18 (.getfield 65) 21 := ⟨by decide +kernel, rfl⟩
theorem eX12_go_21 : aPI cX12_go 21 (nI 4) 22 := Or.inl ⟨4, by decide +kernel, by decide +kernel, rfl⟩
theorem eX12_go_22 : aIc_ge cX12_go 22 25 63 := ⟨41, by decide +kernel, rfl, by decide⟩
theorem eX12_go_25 : aAL cX12_go 25 0 26 := Or.inl ⟨0, by decide +kernel, rfl, rfl⟩
theorem eX12_go_26 : aI3 cX12_go 26 (.getfield 68) 29 := ⟨by decide +kernel, rfl⟩
theorem eX12_go_29 : aIf_le cX12_go 29 32 63 := ⟨34, by decide +kernel, rfl, by decide⟩
theorem eX12_go_32 : aIL cX12_go 32 1 33 := Or.inl ⟨1, by decide +kernel, rfl, rfl⟩
theorem eX12_go_33 : aPI cX12_go 33 (nI 59) 35 := Or.inr (Or.inl ⟨59, by decide +kernel, by decide +kernel, rfl⟩)
theorem eX12_go_35 : aIc_ne cX12_go 35 38 42 := ⟨7, by decide +kernel, rfl, by decide⟩
theorem eX12_go_38 : aPI cX12_go 38 (nI 1) 39 := Or.inl ⟨1, by decide +kernel, by decide +kernel, rfl⟩
theorem eX12_go_39 : aGo cX12_go 39 43 := ⟨4, by decide +kernel, by decide⟩
theorem eX12_go_42 : aPI cX12_go 42 (nI 0) 43 := Or.inl ⟨0, by decide +kernel, by decide +kernel, rfl⟩
theorem eX12_go_43 : aAL cX12_go 43 0 44 := Or.inl ⟨0, by decide +kernel, rfl, rfl⟩
theorem eX12_go_44 : aI3 cX12_go 44 (.getfield 65) 47 := ⟨by decide +kernel, rfl⟩
theorem eX12_go_47 : aPI cX12_go 47 (nI 3) 48 := Or.inl ⟨3, by decide +kernel, by decide +kernel, rfl⟩
theorem eX12_go_48 : aIc_ne cX12_go 48 51 55 := ⟨7, by decide +kernel, rfl, by decide⟩
theorem eX12_go_51 : aPI cX12_go 51 (nI 1) 52 := Or.inl ⟨1, by decide +kernel, by decide +kernel, rfl⟩
theorem eX12_go_52 : aGo cX12_go 52 56 := ⟨4, by decide +kernel, by decide⟩
theorem eX12_go_55 : aPI cX12_go 55 (nI 0) 56 := Or.inl ⟨0, by decide +kernel, by decide +kernel, rfl⟩
theorem eX12_go_56 : aIc_ne cX12_go 56 59 63 := ⟨7, by decide +kernel, rfl, by decide⟩
theorem eX12_go_59 : aPI cX12_go 59 (nI 1) 60 := Or.inl ⟨1, by decide +kernel, by decide +kernel, rfl⟩
theorem eX12_go_60 : aGo cX12_go 60 64 := ⟨4, by decide +kernel, by decide⟩
theorem eX12_go_63 : aPI cX12_go 63 (nI 0) 64 := Or.inl ⟨0, by decide +kernel, by decide +kernel, rfl⟩
theorem eX12_go_64 : aIS cX12_go 64 3 65 := Or.inl ⟨3, by decide +kernel, rfl, rfl⟩
theorem eX12_go_65 : aAL cX12_go 65 0 66 := Or.inl ⟨0, by decide +kernel, rfl, rfl⟩
theorem eX12_go_66 : aI1 cX12_go 66 (.dup) 67 := ⟨by decide +kernel, rfl⟩
theorem eX12_go_67 : aI3 cX12_go 67 (.getfield 65) 70 := ⟨by decide +kernel, rfl⟩
theorem eX12_go_70 : aPI cX12_go 70 (nI 1) 71 := Or.inl ⟨1, by decide +kernel, by decide +kernel, rfl⟩
theorem eX12_go_71 : aI1 cX12_go 71 (.iadd) 72 := ⟨by decide +kernel, rfl⟩
theorem eX12_go_72 : aI3 cX12_go 72 (.putfield 65) 75 := ⟨by decide +kernel, rfl⟩
theorem eX12_go_75 : aAL cX12_go 75 0 76 := Or.inl ⟨0, by decide +kernel, rfl, rfl⟩
theorem eX12_go_76 : aPI cX12_go 76 (nI 0) 77 := Or.inl ⟨0, by decide +kernel, by decide +kernel, rfl⟩
theorem eX12_go_77 : aI3 cX12_go 77 (.putfield 68) 80 := ⟨by decide +kernel, rfl⟩
theorem eX12_go_80 : aAL cX12_go 80 0 81 := Or.inl ⟨0, by decide +kernel, rfl, rfl⟩
theorem eX12_go_81 : aPI cX12_go 81 (-1) 82 := Or.inl ⟨(-1), by decide +kernel, by decide +kernel, rfl⟩
theorem eX12_go_82 : aI3 cX12_go 82 (.putfield 71) 85 := ⟨by decide +kernel, rfl⟩
theorem eX12_go_85 : aIL cX12_go 85 3 86 := Or.inl ⟨3, by decide +kernel, rfl, rfl⟩
theorem eX12_go_86 : ∀ x : Int32, (x = 0 ∨ x = 1) → aRet cX12_go (some .boolean) 86 (some (.int x)) := fun x h => Or.inr (Or.inl ⟨x, _, rfl, rfl, by rcases h with rfl | rfl <;> decide +kernel, by decide +kernel⟩)
theorem eX12_go_87 : aIL cX12_go 87 2 88 := Or.inl ⟨2, by decide +kernel, rfl, rfl⟩
theorem eX12_go_88 : aI1 cX12_go 88 (.i2l) 89 := ⟨by decide +kernel, rfl⟩
theorem eX12_go_89 : aI1 cX12_go 89 (.lconst 0) 90 := ⟨by decide +kernel, rfl⟩
theorem eX12_go_90 : aI3 cX12_go 90 (.ldc2_w 74) 93 := ⟨by decide +kernel, rfl⟩
theorem eX12_go_93 : aI3 cX12_go 93 (.invokestatic 58) 96 := ⟨by decide +kernel, rfl⟩
theorem eX12_go_96 : aIf_eq cX12_go 96 99 136 := ⟨40, by decide +kernel, rfl, by decide⟩
theorem eX12_go_99 : aAL cX12_go 99 0 100 := Or.inl ⟨0, by decide +kernel, rfl, rfl⟩
theorem eX12_go_100 : aI3 cX12_go 100 (.getfield 68) 103 := ⟨by decide +kernel, rfl⟩
theorem eX12_go_103 : aAL cX12_go 103 0 104 := Or.inl ⟨0, by decide +kernel, rfl, rfl⟩
theorem eX12_go_104 : aI3 cX12_go 104 (.getfield 65) 107 := ⟨by decide +kernel, rfl⟩
theorem eX12_go_107 : aPI cX12_go 107 (nI 4) 108 := Or.inl ⟨4, by decide +kernel, by decide +kernel, rfl⟩
theorem eX12_go_108 : aIc_ge cX12_go 108 111 115 := ⟨7, by decide +kernel, rfl, by decide⟩
theorem eX12_go_111 : aPI cX12_go 111 (nI 3) 112 := Or.inl ⟨3, by decide +kernel, by decide +kernel, rfl⟩
theorem eX12_go_112 : aGo cX12_go 112 117 := ⟨5, by decide +kernel, by decide⟩
theorem eX12_go_115 : aPI cX12_go 115 (nI 10) 117 := Or.inr (Or.inl ⟨10, by decide +kernel, by decide +kernel, rfl⟩)
theorem eX12_go_117 : aIc_eq cX12_go 117 120 136 := ⟨19, by decide +kernel, rfl, by decide⟩
theorem eX12_go_120 : aAL cX12_go 120 0 121 := Or.inl ⟨0, by decide +kernel, rfl, rfl⟩
theorem eX12_go_121 : aI3 cX12_go 121 (.getfield 65) 124 := ⟨by decide +kernel, rfl⟩
theorem eX12_go_124 : aPI cX12_go 124 (nI 4) 125 := Or.inl ⟨4, by decide +kernel, by decide +kernel, rfl⟩
theorem eX12_go_125 : aIc_ge cX12_go 125 128 138 := ⟨13, by decide +kernel, rfl, by decide⟩
theorem eX12_go_128 : aIL cX12_go 128 2 129 := Or.inl ⟨2, by decide +kernel, rfl, rfl⟩
theorem eX12_go_129 : aAL cX12_go 129 0 130 := Or.inl ⟨0, by decide +kernel, rfl, rfl⟩
theorem eX12_go_130 : aI3 cX12_go 130 (.getfield 71) 133 := ⟨by decide +kernel, rfl⟩
theorem eX12_go_133 : aIc_gt cX12_go 133 136 138 := ⟨5, by decide +kernel, rfl, by decide⟩
theorem eX12_go_136 : aPI cX12_go 136 (nI 0) 137 := Or.inl ⟨0, by decide +kernel, by decide +kernel, rfl⟩
theorem eX12_go_137 : ∀ x : Int32, (x = 0 ∨ x = 1) → aRet cX12_go (some .boolean) 137 (some (.int x)) := fun x h => Or.inr (Or.inl ⟨x, _, rfl, rfl, by rcases h with rfl | rfl <;> decide +kernel, by decide +kernel⟩)
theorem eX12_go_138 : aAL cX12_go 138 0 139 := Or.inl ⟨0, by decide +kernel, rfl, rfl⟩
theorem eX12_go_139 : aI3 cX12_go 139 (.getfield 65) 142 := ⟨by decide +kernel, rfl⟩
theorem eX12_go_142 : aPI cX12_go 142 (nI 4) 143 := Or.inl ⟨4, by decide +kernel, by decide +kernel, rfl⟩
theorem eX12_go_143 : aIc_ge cX12_go 143 146 184 := ⟨41, by decide +kernel, rfl, by decide⟩
theorem eX12_go_146 : aAL cX12_go 146 0 147 := Or.inl ⟨0, by decide +kernel, rfl, rfl⟩
theorem eX12_go_147 : aI3 cX12_go 147 (.getfield 13) 150 := ⟨by decide +kernel, rfl⟩
theorem eX12_go_150 : aAL cX12_go 150 0 151 := Or.inl ⟨0, by decide +kernel, rfl, rfl⟩
theorem eX12_go_151 : aI3 cX12_go 151 (.getfield 65) 154 := ⟨by decide +kernel, rfl⟩
theorem eX12_go_154 : aAL cX12_go 154 0 155 := Or.inl ⟨0, by decide +kernel, rfl, rfl⟩
theorem eX12_go_155 : aI3 cX12_go 155 (.getfield 68) 158 := ⟨by decide +kernel, rfl⟩
theorem eX12_go_158 : aIf_ne cX12_go 158 161 167 := ⟨9, by decide +kernel, rfl, by decide⟩
theorem eX12_go_161 : aPI cX12_go 161 (nI 1) 162 := Or.inl ⟨1, by decide +kernel, by decide +kernel, rfl⟩
theorem eX12_go_162 : aIL cX12_go 162 2 163 := Or.inl ⟨2, by decide +kernel, rfl, rfl⟩
theorem eX12_go_163 : aI1 cX12_go 163 (.ishl) 164 := ⟨by decide +kernel, rfl⟩
theorem eX12_go_164 : aGo cX12_go 164 180 := ⟨16, by decide +kernel, by decide⟩
theorem eX12_go_167 : aAL cX12_go 167 0 168 := Or.inl ⟨0, by decide +kernel, rfl, rfl⟩
theorem eX12_go_168 : aI3 cX12_go 168 (.getfield 13) 171 := ⟨by decide +kernel, rfl⟩
theorem eX12_go_171 : aAL cX12_go 171 0 172 := Or.inl ⟨0, by decide +kernel, rfl, rfl⟩
theorem eX12_go_172 : aI3 cX12_go 172 (.getfield 65) 175 := ⟨by decide +kernel, rfl⟩
theorem eX12_go_175 : aI1 cX12_go 175 (.iaload) 176 := ⟨by decide +kernel, rfl⟩
theorem eX12_go_176 : aPI cX12_go 176 (nI 1) 177 := Or.inl ⟨1, by decide +kernel, by decide +kernel, rfl⟩
theorem eX12_go_177 : aIL cX12_go 177 2 178 := Or.inl ⟨2, by decide +kernel, rfl, rfl⟩
theorem eX12_go_178 : aI1 cX12_go 178 (.ishl) 179 := ⟨by decide +kernel, rfl⟩
theorem eX12_go_179 : aI1 cX12_go 179 (.ior) 180 := ⟨by decide +kernel, rfl⟩
theorem eX12_go_180 : aI1 cX12_go 180 (.iastore) 181 := ⟨by decide +kernel, rfl⟩
theorem eX12_go_181 : aGo cX12_go 181 194 := ⟨13, by decide +kernel, by decide⟩
theorem eX12_go_184 : aAL cX12_go 184 0 185 := Or.inl ⟨0, by decide +kernel, rfl, rfl⟩
theorem eX12_go_185 : aI3 cX12_go 185 (.getfield 16) 188 := ⟨by decide +kernel, rfl⟩
theorem eX12_go_188 : aAL cX12_go 188 0 189 := Or.inl ⟨0, by decide +kernel, rfl, rfl⟩
theorem eX12_go_189 : aI3 cX12_go 189 (.getfield 68) 192 := ⟨by decide +kernel, rfl⟩
theorem eX12_go_192 : aIL cX12_go 192 2 193 := Or.inl ⟨2, by decide +kernel, rfl, rfl⟩
theorem eX12_go_193 : aI1 cX12_go 193 (.iastore) 194 := ⟨by decide +kernel, rfl⟩
theorem eX12_go_194 : aAL cX12_go 194 0 195 := Or.inl ⟨0, by decide +kernel, rfl, rfl⟩
theorem eX12_go_195 : aI1 cX12_go 195 (.dup) 196 := ⟨by decide +kernel, rfl⟩
theorem eX12_go_196 : aI3 cX12_go 196 (.getfield 68) 199 := ⟨by decide +kernel, rfl⟩
theorem eX12_go_199 : aPI cX12_go 199 (nI 1) 200 := Or.inl ⟨1, by decide +kernel, by decide +kernel, rfl⟩
theorem eX12_go_200 : aI1 cX12_go 200 (.iadd) 201 := ⟨by decide +kernel, rfl⟩
theorem eX12_go_201 : aI3 cX12_go 201 (.putfield 68) 204 := ⟨by decide +kernel, rfl⟩
theorem eX12_go_204 : aAL cX12_go 204 0 205 := Or.inl ⟨0, by decide +kernel, rfl, rfl⟩
theorem eX12_go_205 : aIL cX12_go 205 2 206 := Or.inl ⟨2, by decide +kernel, rfl, rfl⟩
theorem eX12_go_206 : aI3 cX12_go 206 (.putfield 71) 209 := ⟨by decide +kernel, rfl⟩
theorem eX12_go_209 : aPI cX12_go 209 (nI 1) 210 := Or.inl ⟨1, by decide +kernel, by decide +kernel, rfl⟩
theorem eX12_go_210 : ∀ x : Int32, (x = 0 ∨ x = 1) → aRet cX12_go (some .boolean) 210 (some (.int x)) := fun x h => Or.inr (Or.inl ⟨x, _, rfl, rfl, by rcases h with rfl | rfl <;> decide +kernel, by decide +kernel⟩)
theorem eX12_faultOf_0 : aAL cX12_faultOf 0 0 1 := Or.inl ⟨0, by decide +kernel, rfl, rfl⟩
theorem eX12_faultOf_1 : aPI cX12_faultOf 1 (nI 0) 2 := Or.inl ⟨0, by decide +kernel, by decide +kernel, rfl⟩
theorem eX12_faultOf_2 : aI3 cX12_faultOf 2 (.putfield 65) 5 := ⟨by decide +kernel, rfl⟩
theorem eX12_faultOf_5 : aAL cX12_faultOf 5 0 6 := Or.inl ⟨0, by decide +kernel, rfl, rfl⟩
theorem eX12_faultOf_6 : aPI cX12_faultOf 6 (nI 0) 7 := Or.inl ⟨0, by decide +kernel, by decide +kernel, rfl⟩
theorem eX12_faultOf_7 : aI3 cX12_faultOf 7 (.putfield 68) 10 := ⟨by decide +kernel, rfl⟩
theorem eX12_faultOf_10 : aAL cX12_faultOf 10 0 11 := Or.inl ⟨0, by decide +kernel, rfl, rfl⟩
theorem eX12_faultOf_11 : aPI cX12_faultOf 11 (-1) 12 := Or.inl ⟨(-1), by decide +kernel, by decide +kernel, rfl⟩
theorem eX12_faultOf_12 : aI3 cX12_faultOf 12 (.putfield 71) 15 := ⟨by decide +kernel, rfl⟩
theorem eX12_faultOf_15 : aPI cX12_faultOf 15 (nI 0) 16 := Or.inl ⟨0, by decide +kernel, by decide +kernel, rfl⟩
theorem eX12_faultOf_16 : aIS cX12_faultOf 16 1 17 := Or.inl ⟨1, by decide +kernel, rfl, rfl⟩
theorem eX12_faultOf_17 : aIL cX12_faultOf 17 1 18 := Or.inl ⟨1, by decide +kernel, rfl, rfl⟩
theorem eX12_faultOf_18 : aAL cX12_faultOf 18 0 19 := Or.inl ⟨0, by decide +kernel, rfl, rfl⟩
theorem eX12_faultOf_19 : aI3 cX12_faultOf 19 (.getfield 62) 22 := ⟨by decide +kernel, rfl⟩
theorem eX12_faultOf_22 : aIc_ge cX12_faultOf 22 25 44 := ⟨22, by decide +kernel, rfl, by decide⟩
theorem eX12_faultOf_25 : aAL cX12_faultOf 25 0 26 := Or.inl ⟨0, by decide +kernel, rfl, rfl⟩
theorem eX12_faultOf_26 : aAL cX12_faultOf 26 0 27 := Or.inl ⟨0, by decide +kernel, rfl, rfl⟩
theorem eX12_faultOf_27 : aI3 cX12_faultOf 27 (.getfield 7) 30 := ⟨by decide +kernel, rfl⟩
theorem eX12_faultOf_30 : aIL cX12_faultOf 30 1 31 := Or.inl ⟨1, by decide +kernel, rfl, rfl⟩
theorem eX12_faultOf_31 : aI1 cX12_faultOf 31 (.iaload) 32 := ⟨by decide +kernel, rfl⟩
theorem eX12_faultOf_32 : aI3 cX12_faultOf 32 (.invokevirtual 76) 35 := ⟨by decide +kernel, rfl⟩
theorem eX12_faultOf_35 : aIf_eq cX12_faultOf 35 38 44 := ⟨9, by decide +kernel, rfl, by decide⟩
theorem eX12_faultOf_38 : aII cX12_faultOf 38 1 (nI 1) 41 := ⟨1, by decide +kernel, by decide +kernel, rfl⟩
theorem eX12_faultOf_41 : aGo cX12_faultOf 41 17 := ⟨(-24), by decide +kernel, by decide⟩
theorem eX12_faultOf_44 : aIL cX12_faultOf 44 1 45 := Or.inl ⟨1, by decide +kernel, rfl, rfl⟩
theorem eX12_faultOf_45 : ∀ x : Int32, aRet cX12_faultOf (some .int) 45 (some (.int x)) := fun x => Or.inr (Or.inl ⟨x, _, rfl, rfl, rfl, by decide +kernel⟩)
theorem eX12_fault_0 : aAL cX12_fault 0 0 1 := Or.inl ⟨0, by decide +kernel, rfl, rfl⟩
theorem eX12_fault_1 : aI3 cX12_fault 1 (.invokevirtual 80) 4 := ⟨by decide +kernel, rfl⟩
theorem eX12_fault_4 : ∀ x : Int32, aRet cX12_fault (some .int) 4 (some (.int x)) := fun x => Or.inr (Or.inl ⟨x, _, rfl, rfl, rfl, by decide +kernel⟩)
theorem eX12_court_0 : aAL cX12_court 0 0 1 := Or.inl ⟨0, by decide +kernel, rfl, rfl⟩
theorem eX12_court_1 : aI3 cX12_court 1 (.invokevirtual 80) 4 := ⟨by decide +kernel, rfl⟩
theorem eX12_court_4 : aAL cX12_court 4 0 5 := Or.inl ⟨0, by decide +kernel, rfl, rfl⟩
theorem eX12_court_5 : aI3 cX12_court 5 (.getfield 62) 8 := ⟨by decide +kernel, rfl⟩
theorem eX12_court_8 : aIc_lt cX12_court 8 11 26 := ⟨18, by decide +kernel, rfl, by decide⟩
theorem eX12_court_11 : aAL cX12_court 11 0 12 := Or.inl ⟨0, by decide +kernel, rfl, rfl⟩
theorem eX12_court_12 : aI3 cX12_court 12 (.getfield 65) 15 := ⟨by decide +kernel, rfl⟩
theorem eX12_court_15 : aPI cX12_court 15 (nI 4) 16 := Or.inl ⟨4, by decide +kernel, by decide +kernel, rfl⟩
theorem eX12_court_16 : aIc_lt cX12_court 16 19 26 := ⟨10, by decide +kernel, rfl, by decide⟩
theorem eX12_court_19 : aAL cX12_court 19 0 20 := Or.inl ⟨0, by decide +kernel, rfl, rfl⟩
theorem eX12_court_20 : aI3 cX12_court 20 (.getfield 68) 23 := ⟨by decide +kernel, rfl⟩
theorem eX12_court_23 : aIf_ne cX12_court 23 26 29 := ⟨6, by decide +kernel, rfl, by decide⟩
theorem eX12_court_26 : aPI cX12_court 26 (-103) 28 := Or.inr (Or.inl ⟨(-103), by decide +kernel, by decide +kernel, rfl⟩)
theorem eX12_court_28 : ∀ x : Int32, aRet cX12_court (some .int) 28 (some (.int x)) := fun x => Or.inr (Or.inl ⟨x, _, rfl, rfl, rfl, by decide +kernel⟩)
theorem eX12_court_29 : aAL cX12_court 29 0 30 := Or.inl ⟨0, by decide +kernel, rfl, rfl⟩
theorem eX12_court_30 : aAL cX12_court 30 0 31 := Or.inl ⟨0, by decide +kernel, rfl, rfl⟩
theorem eX12_court_31 : aI3 cX12_court 31 (.getfield 68) 34 := ⟨by decide +kernel, rfl⟩
theorem eX12_court_34 : aI3 cX12_court 34 (.putfield 84) 37 := ⟨by decide +kernel, rfl⟩
theorem eX12_court_37 : aAL cX12_court 37 0 38 := Or.inl ⟨0, by decide +kernel, rfl, rfl⟩
theorem eX12_court_38 : aI3 cX12_court 38 (.getfield 13) 41 := ⟨by decide +kernel, rfl⟩
theorem eX12_court_41 : aAL cX12_court 41 0 42 := Or.inl ⟨0, by decide +kernel, rfl, rfl⟩
theorem eX12_court_42 : aI3 cX12_court 42 (.getfield 19) 45 := ⟨by decide +kernel, rfl⟩
theorem eX12_court_45 : aI3 cX12_court 45 (.invokestatic 87) 48 := ⟨by decide +kernel, rfl⟩
theorem eX12_court_48 : aAL cX12_court 48 0 49 := Or.inl ⟨0, by decide +kernel, rfl, rfl⟩
theorem eX12_court_49 : aI3 cX12_court 49 (.getfield 16) 52 := ⟨by decide +kernel, rfl⟩
theorem eX12_court_52 : aAL cX12_court 52 0 53 := Or.inl ⟨0, by decide +kernel, rfl, rfl⟩
theorem eX12_court_53 : aI3 cX12_court 53 (.getfield 22) 56 := ⟨by decide +kernel, rfl⟩
theorem eX12_court_56 : aI3 cX12_court 56 (.invokestatic 87) 59 := ⟨by decide +kernel, rfl⟩
theorem eX12_court_59 : aAL cX12_court 59 0 60 := Or.inl ⟨0, by decide +kernel, rfl, rfl⟩
theorem eX12_court_60 : aI3 cX12_court 60 (.getfield 19) 63 := ⟨by decide +kernel, rfl⟩
theorem eX12_court_63 : aPI cX12_court 63 (nI 4) 64 := Or.inl ⟨4, by decide +kernel, by decide +kernel, rfl⟩
theorem eX12_court_64 : aPI cX12_court 64 (nI 0) 65 := Or.inl ⟨0, by decide +kernel, by decide +kernel, rfl⟩
theorem eX12_court_65 : aI1 cX12_court 65 (.iastore) 66 := ⟨by decide +kernel, rfl⟩
theorem eX12_court_66 : aAL cX12_court 66 0 67 := Or.inl ⟨0, by decide +kernel, rfl, rfl⟩
theorem eX12_court_67 : aPI cX12_court 67 (nI 2) 68 := Or.inl ⟨2, by decide +kernel, by decide +kernel, rfl⟩
theorem eX12_court_68 : aI3 cX12_court 68 (.putfield 91) 71 := ⟨by decide +kernel, rfl⟩
theorem eX12_court_71 : aAL cX12_court 71 0 72 := Or.inl ⟨0, by decide +kernel, rfl, rfl⟩
theorem eX12_court_72 : aPI cX12_court 72 (nI 0) 73 := Or.inl ⟨0, by decide +kernel, by decide +kernel, rfl⟩
theorem eX12_court_73 : aI3 cX12_court 73 (.putfield 94) 76 := ⟨by decide +kernel, rfl⟩
theorem eX12_court_76 : aAL cX12_court 76 0 77 := Or.inl ⟨0, by decide +kernel, rfl, rfl⟩
theorem eX12_court_77 : aPI cX12_court 77 (nI 0) 78 := Or.inl ⟨0, by decide +kernel, by decide +kernel, rfl⟩
theorem eX12_court_78 : aI3 cX12_court 78 (.putfield 97) 81 := ⟨by decide +kernel, rfl⟩
theorem eX12_court_81 : aAL cX12_court 81 0 82 := Or.inl ⟨0, by decide +kernel, rfl, rfl⟩
theorem eX12_court_82 : aPI cX12_court 82 (nI 0) 83 := Or.inl ⟨0, by decide +kernel, by decide +kernel, rfl⟩
theorem eX12_court_83 : aI3 cX12_court 83 (.putfield 100) 86 := ⟨by decide +kernel, rfl⟩
theorem eX12_court_86 : aAL cX12_court 86 0 87 := Or.inl ⟨0, by decide +kernel, rfl, rfl⟩
theorem eX12_court_87 : aI1 cX12_court 87 (.dup) 88 := ⟨by decide +kernel, rfl⟩
theorem eX12_court_88 : aI3 cX12_court 88 (.getfield 103) 91 := ⟨by decide +kernel, rfl⟩
theorem eX12_court_91 : aPI cX12_court 91 (nI 1) 92 := Or.inl ⟨1, by decide +kernel, by decide +kernel, rfl⟩
theorem eX12_court_92 : aI1 cX12_court 92 (.iadd) 93 := ⟨by decide +kernel, rfl⟩
theorem eX12_court_93 : aI3 cX12_court 93 (.putfield 103) 96 := ⟨by decide +kernel, rfl⟩
theorem eX12_court_96 : aAL cX12_court 96 0 97 := Or.inl ⟨0, by decide +kernel, rfl, rfl⟩
theorem eX12_court_97 : aPI cX12_court 97 (nI 0) 98 := Or.inl ⟨0, by decide +kernel, by decide +kernel, rfl⟩
theorem eX12_court_98 : aI3 cX12_court 98 (.putfield 62) 101 := ⟨by decide +kernel, rfl⟩
theorem eX12_court_101 : aAL cX12_court 101 0 102 := Or.inl ⟨0, by decide +kernel, rfl, rfl⟩
theorem eX12_court_102 : aI3 cX12_court 102 (.getfield 84) 105 := ⟨by decide +kernel, rfl⟩
theorem eX12_court_105 : ∀ x : Int32, aRet cX12_court (some .int) 105 (some (.int x)) := fun x => Or.inr (Or.inl ⟨x, _, rfl, rfl, rfl, by decide +kernel⟩)
theorem eX12_lacks_0 : aAL cX12_lacks 0 0 1 := Or.inl ⟨0, by decide +kernel, rfl, rfl⟩
theorem eX12_lacks_1 : aI3 cX12_lacks 1 (.getfield 84) 4 := ⟨by decide +kernel, rfl⟩
theorem eX12_lacks_4 : aIf_ne cX12_lacks 4 7 11 := ⟨7, by decide +kernel, rfl, by decide⟩
theorem eX12_lacks_7 : aPI cX12_lacks 7 (nI 1) 8 := Or.inl ⟨1, by decide +kernel, by decide +kernel, rfl⟩
theorem eX12_lacks_8 : aGo cX12_lacks 8 12 := ⟨4, by decide +kernel, by decide⟩
theorem eX12_lacks_11 : aPI cX12_lacks 11 (nI 0) 12 := Or.inl ⟨0, by decide +kernel, by decide +kernel, rfl⟩
theorem eX12_lacks_12 : ∀ x : Int32, (x = 0 ∨ x = 1) → aRet cX12_lacks (some .boolean) 12 (some (.int x)) := fun x h => Or.inr (Or.inl ⟨x, _, rfl, rfl, by rcases h with rfl | rfl <;> decide +kernel, by decide +kernel⟩)
theorem eX12_isPlace_0 : aIL cX12_isPlace 0 1 1 := Or.inl ⟨1, by decide +kernel, rfl, rfl⟩
theorem eX12_isPlace_1 : aI1 cX12_isPlace 1 (.i2l) 2 := ⟨by decide +kernel, rfl⟩
theorem eX12_isPlace_2 : aI1 cX12_isPlace 2 (.lconst 0) 3 := ⟨by decide +kernel, rfl⟩
theorem eX12_isPlace_3 : aAL cX12_isPlace 3 0 4 := Or.inl ⟨0, by decide +kernel, rfl, rfl⟩
theorem eX12_isPlace_4 : aI3 cX12_isPlace 4 (.getfield 84) 7 := ⟨by decide +kernel, rfl⟩
theorem eX12_isPlace_7 : aPI cX12_isPlace 7 (nI 1) 8 := Or.inl ⟨1, by decide +kernel, by decide +kernel, rfl⟩
theorem eX12_isPlace_8 : aI1 cX12_isPlace 8 (.isub) 9 := ⟨by decide +kernel, rfl⟩
theorem eX12_isPlace_9 : aI1 cX12_isPlace 9 (.i2l) 10 := ⟨by decide +kernel, rfl⟩
theorem eX12_isPlace_10 : aI3 cX12_isPlace 10 (.invokestatic 58) 13 := ⟨by decide +kernel, rfl⟩
theorem eX12_isPlace_13 : ∀ x : Int32, (x = 0 ∨ x = 1) → aRet cX12_isPlace (some .boolean) 13 (some (.int x)) := fun x h => Or.inr (Or.inl ⟨x, _, rfl, rfl, by rcases h with rfl | rfl <;> decide +kernel, by decide +kernel⟩)
theorem eX12_near_0 : aAL cX12_near 0 0 1 := Or.inl ⟨0, by decide +kernel, rfl, rfl⟩
theorem eX12_near_1 : aI3 cX12_near 1 (.invokevirtual 106) 4 := ⟨by decide +kernel, rfl⟩
theorem eX12_near_4 : aIf_ne cX12_near 4 7 28 := ⟨24, by decide +kernel, rfl, by decide⟩
theorem eX12_near_7 : aIL cX12_near 7 1 8 := Or.inl ⟨1, by decide +kernel, rfl, rfl⟩
theorem eX12_near_8 : aI1 cX12_near 8 (.i2l) 9 := ⟨by decide +kernel, rfl⟩
theorem eX12_near_9 : aI1 cX12_near 9 (.lconst 0) 10 := ⟨by decide +kernel, rfl⟩
theorem eX12_near_10 : aI3 cX12_near 10 (.ldc2_w 110) 13 := ⟨by decide +kernel, rfl⟩
theorem eX12_near_13 : aI3 cX12_near 13 (.invokestatic 58) 16 := ⟨by decide +kernel, rfl⟩
theorem eX12_near_16 : aIf_eq cX12_near 16 19 28 := ⟨12, by decide +kernel, rfl, by decide⟩
theorem eX12_near_19 : aAL cX12_near 19 0 20 := Or.inl ⟨0, by decide +kernel, rfl, rfl⟩
theorem eX12_near_20 : aI3 cX12_near 20 (.getfield 19) 23 := ⟨by decide +kernel, rfl⟩
theorem eX12_near_23 : aIL cX12_near 23 1 24 := Or.inl ⟨1, by decide +kernel, rfl, rfl⟩
theorem eX12_near_24 : aI1 cX12_near 24 (.iaload) 25 := ⟨by decide +kernel, rfl⟩
theorem eX12_near_25 : aGo cX12_near 25 30 := ⟨5, by decide +kernel, by decide⟩
theorem eX12_near_28 : aPI cX12_near 28 (-101) 30 := Or.inr (Or.inl ⟨(-101), by decide +kernel, by decide +kernel, rfl⟩)
theorem eX12_near_30 : ∀ x : Int32, aRet cX12_near (some .int) 30 (some (.int x)) := fun x => Or.inr (Or.inl ⟨x, _, rfl, rfl, rfl, by decide +kernel⟩)
theorem eX12_word_0 : aAL cX12_word 0 0 1 := Or.inl ⟨0, by decide +kernel, rfl, rfl⟩
theorem eX12_word_1 : aIL cX12_word 1 1 2 := Or.inl ⟨1, by decide +kernel, rfl, rfl⟩
theorem eX12_word_2 : aI3 cX12_word 2 (.invokevirtual 112) 5 := ⟨by decide +kernel, rfl⟩
theorem eX12_word_5 : aIf_eq cX12_word 5 8 17 := ⟨12, by decide +kernel, rfl, by decide⟩
theorem eX12_word_8 : aAL cX12_word 8 0 9 := Or.inl ⟨0, by decide +kernel, rfl, rfl⟩
theorem eX12_word_9 : aI3 cX12_word 9 (.getfield 22) 12 := ⟨by decide +kernel, rfl⟩
theorem eX12_word_12 : aIL cX12_word 12 1 13 := Or.inl ⟨1, by decide +kernel, rfl, rfl⟩
theorem eX12_word_13 : aI1 cX12_word 13 (.iaload) 14 := ⟨by decide +kernel, rfl⟩
theorem eX12_word_14 : aGo cX12_word 14 19 := ⟨5, by decide +kernel, by decide⟩
theorem eX12_word_17 : aPI cX12_word 17 (-101) 19 := Or.inr (Or.inl ⟨(-101), by decide +kernel, by decide +kernel, rfl⟩)
theorem eX12_word_19 : ∀ x : Int32, aRet cX12_word (some .int) 19 (some (.int x)) := fun x => Or.inr (Or.inl ⟨x, _, rfl, rfl, rfl, by decide +kernel⟩)
theorem eX12_put_0 : aAL cX12_put 0 0 1 := Or.inl ⟨0, by decide +kernel, rfl, rfl⟩
theorem eX12_put_1 : aIL cX12_put 1 1 2 := Or.inl ⟨1, by decide +kernel, rfl, rfl⟩
theorem eX12_put_2 : aI3 cX12_put 2 (.invokevirtual 112) 5 := ⟨by decide +kernel, rfl⟩
theorem eX12_put_5 : aIf_ne cX12_put 5 8 11 := ⟨6, by decide +kernel, rfl, by decide⟩
theorem eX12_put_8 : aPI cX12_put 8 (-101) 10 := Or.inr (Or.inl ⟨(-101), by decide +kernel, by decide +kernel, rfl⟩)
theorem eX12_put_10 : ∀ x : Int32, aRet cX12_put (some .int) 10 (some (.int x)) := fun x => Or.inr (Or.inl ⟨x, _, rfl, rfl, rfl, by decide +kernel⟩)
theorem eX12_put_11 : aIL cX12_put 11 2 12 := Or.inl ⟨2, by decide +kernel, rfl, rfl⟩
theorem eX12_put_12 : aI1 cX12_put 12 (.i2l) 13 := ⟨by decide +kernel, rfl⟩
theorem eX12_put_13 : aI1 cX12_put 13 (.lconst 0) 14 := ⟨by decide +kernel, rfl⟩
theorem eX12_put_14 : aI3 cX12_put 14 (.ldc2_w 74) 17 := ⟨by decide +kernel, rfl⟩
theorem eX12_put_17 : aI3 cX12_put 17 (.invokestatic 58) 20 := ⟨by decide +kernel, rfl⟩
theorem eX12_put_20 : aIf_ne cX12_put 20 23 26 := ⟨6, by decide +kernel, rfl, by decide⟩
theorem eX12_put_23 : aPI cX12_put 23 (-102) 25 := Or.inr (Or.inl ⟨(-102), by decide +kernel, by decide +kernel, rfl⟩)
theorem eX12_put_25 : ∀ x : Int32, aRet cX12_put (some .int) 25 (some (.int x)) := fun x => Or.inr (Or.inl ⟨x, _, rfl, rfl, rfl, by decide +kernel⟩)
theorem eX12_put_26 : aAL cX12_put 26 0 27 := Or.inl ⟨0, by decide +kernel, rfl, rfl⟩
theorem eX12_put_27 : aI3 cX12_put 27 (.getfield 22) 30 := ⟨by decide +kernel, rfl⟩
theorem eX12_put_30 : aIL cX12_put 30 1 31 := Or.inl ⟨1, by decide +kernel, rfl, rfl⟩
theorem eX12_put_31 : aI1 cX12_put 31 (.iaload) 32 := ⟨by decide +kernel, rfl⟩
theorem eX12_put_32 : aIS cX12_put 32 3 33 := Or.inl ⟨3, by decide +kernel, rfl, rfl⟩
theorem eX12_put_33 : aAL cX12_put 33 0 34 := Or.inl ⟨0, by decide +kernel, rfl, rfl⟩
theorem eX12_put_34 : aI3 cX12_put 34 (.getfield 22) 37 := ⟨by decide +kernel, rfl⟩
theorem eX12_put_37 : aIL cX12_put 37 1 38 := Or.inl ⟨1, by decide +kernel, rfl, rfl⟩
theorem eX12_put_38 : aIL cX12_put 38 2 39 := Or.inl ⟨2, by decide +kernel, rfl, rfl⟩
theorem eX12_put_39 : aI1 cX12_put 39 (.iastore) 40 := ⟨by decide +kernel, rfl⟩
theorem eX12_put_40 : aAL cX12_put 40 0 41 := Or.inl ⟨0, by decide +kernel, rfl, rfl⟩
theorem eX12_put_41 : aI1 cX12_put 41 (.dup) 42 := ⟨by decide +kernel, rfl⟩
theorem eX12_put_42 : aI3 cX12_put 42 (.getfield 94) 45 := ⟨by decide +kernel, rfl⟩
theorem eX12_put_45 : aPI cX12_put 45 (nI 1) 46 := Or.inl ⟨1, by decide +kernel, by decide +kernel, rfl⟩
theorem eX12_put_46 : aI1 cX12_put 46 (.iadd) 47 := ⟨by decide +kernel, rfl⟩
theorem eX12_put_47 : aI3 cX12_put 47 (.putfield 94) 50 := ⟨by decide +kernel, rfl⟩
theorem eX12_put_50 : aIL cX12_put 50 3 51 := Or.inl ⟨3, by decide +kernel, rfl, rfl⟩
theorem eX12_put_51 : ∀ x : Int32, aRet cX12_put (some .int) 51 (some (.int x)) := fun x => Or.inr (Or.inl ⟨x, _, rfl, rfl, rfl, by decide +kernel⟩)
theorem eX12_limit_0 : aIL cX12_limit 0 1 1 := Or.inl ⟨1, by decide +kernel, rfl, rfl⟩
theorem eX12_limit_1 : aI1 cX12_limit 1 (.i2l) 2 := ⟨by decide +kernel, rfl⟩
theorem eX12_limit_2 : aI1 cX12_limit 2 (.lconst 1) 3 := ⟨by decide +kernel, rfl⟩
theorem eX12_limit_3 : aI3 cX12_limit 3 (.ldc2_w 115) 6 := ⟨by decide +kernel, rfl⟩
theorem eX12_limit_6 : aI3 cX12_limit 6 (.invokestatic 58) 9 := ⟨by decide +kernel, rfl⟩
theorem eX12_limit_9 : aIf_ne cX12_limit 9 12 15 := ⟨6, by decide +kernel, rfl, by decide⟩
theorem eX12_limit_12 : aPI cX12_limit 12 (-102) 14 := Or.inr (Or.inl ⟨(-102), by decide +kernel, by decide +kernel, rfl⟩)
theorem eX12_limit_14 : ∀ x : Int32, aRet cX12_limit (some .int) 14 (some (.int x)) := fun x => Or.inr (Or.inl ⟨x, _, rfl, rfl, rfl, by decide +kernel⟩)
theorem eX12_limit_15 : aAL cX12_limit 15 0 16 := Or.inl ⟨0, by decide +kernel, rfl, rfl⟩
theorem eX12_limit_16 : aI3 cX12_limit 16 (.invokevirtual 106) 19 := ⟨by decide +kernel, rfl⟩
theorem eX12_limit_19 : aIf_eq cX12_limit 19 22 25 := ⟨6, by decide +kernel, rfl, by decide⟩
theorem eX12_limit_22 : aPI cX12_limit 22 (-103) 24 := Or.inr (Or.inl ⟨(-103), by decide +kernel, by decide +kernel, rfl⟩)
theorem eX12_limit_24 : ∀ x : Int32, aRet cX12_limit (some .int) 24 (some (.int x)) := fun x => Or.inr (Or.inl ⟨x, _, rfl, rfl, rfl, by decide +kernel⟩)
theorem eX12_limit_25 : aAL cX12_limit 25 0 26 := Or.inl ⟨0, by decide +kernel, rfl, rfl⟩
theorem eX12_limit_26 : aI3 cX12_limit 26 (.getfield 91) 29 := ⟨by decide +kernel, rfl⟩
theorem eX12_limit_29 : aIS cX12_limit 29 2 30 := Or.inl ⟨2, by decide +kernel, rfl, rfl⟩
theorem eX12_limit_30 : aAL cX12_limit 30 0 31 := Or.inl ⟨0, by decide +kernel, rfl, rfl⟩
theorem eX12_limit_31 : aIL cX12_limit 31 1 32 := Or.inl ⟨1, by decide +kernel, rfl, rfl⟩
theorem eX12_limit_32 : aI3 cX12_limit 32 (.putfield 91) 35 := ⟨by decide +kernel, rfl⟩
theorem eX12_limit_35 : aAL cX12_limit 35 0 36 := Or.inl ⟨0, by decide +kernel, rfl, rfl⟩
theorem eX12_limit_36 : aI1 cX12_limit 36 (.dup) 37 := ⟨by decide +kernel, rfl⟩
theorem eX12_limit_37 : aI3 cX12_limit 37 (.getfield 94) 40 := ⟨by decide +kernel, rfl⟩
theorem eX12_limit_40 : aPI cX12_limit 40 (nI 1) 41 := Or.inl ⟨1, by decide +kernel, by decide +kernel, rfl⟩
theorem eX12_limit_41 : aI1 cX12_limit 41 (.iadd) 42 := ⟨by decide +kernel, rfl⟩
theorem eX12_limit_42 : aI3 cX12_limit 42 (.putfield 94) 45 := ⟨by decide +kernel, rfl⟩
theorem eX12_limit_45 : aIL cX12_limit 45 2 46 := Or.inl ⟨2, by decide +kernel, rfl, rfl⟩
theorem eX12_limit_46 : ∀ x : Int32, aRet cX12_limit (some .int) 46 (some (.int x)) := fun x => Or.inr (Or.inl ⟨x, _, rfl, rfl, rfl, by decide +kernel⟩)
theorem eX12_isNear_0 : aAL cX12_isNear 0 0 1 := Or.inl ⟨0, by decide +kernel, rfl, rfl⟩
theorem eX12_isNear_1 : aI3 cX12_isNear 1 (.getfield 19) 4 := ⟨by decide +kernel, rfl⟩
theorem eX12_isNear_4 : aIL cX12_isNear 4 1 5 := Or.inl ⟨1, by decide +kernel, rfl, rfl⟩
theorem eX12_isNear_5 : aI1 cX12_isNear 5 (.iaload) 6 := ⟨by decide +kernel, rfl⟩
theorem eX12_isNear_6 : aIL cX12_isNear 6 2 7 := Or.inl ⟨2, by decide +kernel, rfl, rfl⟩
theorem eX12_isNear_7 : aI1 cX12_isNear 7 (.ishr) 8 := ⟨by decide +kernel, rfl⟩
theorem eX12_isNear_8 : aPI cX12_isNear 8 (nI 1) 9 := Or.inl ⟨1, by decide +kernel, by decide +kernel, rfl⟩
theorem eX12_isNear_9 : aI1 cX12_isNear 9 (.iand) 10 := ⟨by decide +kernel, rfl⟩
theorem eX12_isNear_10 : aPI cX12_isNear 10 (nI 1) 11 := Or.inl ⟨1, by decide +kernel, by decide +kernel, rfl⟩
theorem eX12_isNear_11 : aIc_ne cX12_isNear 11 14 18 := ⟨7, by decide +kernel, rfl, by decide⟩
theorem eX12_isNear_14 : aPI cX12_isNear 14 (nI 1) 15 := Or.inl ⟨1, by decide +kernel, by decide +kernel, rfl⟩
theorem eX12_isNear_15 : aGo cX12_isNear 15 19 := ⟨4, by decide +kernel, by decide⟩
theorem eX12_isNear_18 : aPI cX12_isNear 18 (nI 0) 19 := Or.inl ⟨0, by decide +kernel, by decide +kernel, rfl⟩
theorem eX12_isNear_19 : ∀ x : Int32, (x = 0 ∨ x = 1) → aRet cX12_isNear (some .boolean) 19 (some (.int x)) := fun x h => Or.inr (Or.inl ⟨x, _, rfl, rfl, by rcases h with rfl | rfl <;> decide +kernel, by decide +kernel⟩)
theorem eX12_stands_0 : aPI cX12_stands 0 (nI 0) 1 := Or.inl ⟨0, by decide +kernel, by decide +kernel, rfl⟩
theorem eX12_stands_1 : aIS cX12_stands 1 2 2 := Or.inl ⟨2, by decide +kernel, rfl, rfl⟩
theorem eX12_stands_2 : aPI cX12_stands 2 (nI 0) 3 := Or.inl ⟨0, by decide +kernel, by decide +kernel, rfl⟩
theorem eX12_stands_3 : aIS cX12_stands 3 3 4 := Or.inl ⟨3, by decide +kernel, rfl, rfl⟩
theorem eX12_stands_4 : aIL cX12_stands 4 3 5 := Or.inl ⟨3, by decide +kernel, rfl, rfl⟩
theorem eX12_stands_5 : aIL cX12_stands 5 1 6 := Or.inl ⟨1, by decide +kernel, rfl, rfl⟩
theorem eX12_stands_6 : aIc_ge cX12_stands 6 9 34 := ⟨28, by decide +kernel, rfl, by decide⟩
theorem eX12_stands_9 : aIL cX12_stands 9 2 10 := Or.inl ⟨2, by decide +kernel, rfl, rfl⟩
theorem eX12_stands_10 : aIf_ne cX12_stands 10 13 22 := ⟨12, by decide +kernel, rfl, by decide⟩
theorem eX12_stands_13 : aAL cX12_stands 13 0 14 := Or.inl ⟨0, by decide +kernel, rfl, rfl⟩
theorem eX12_stands_14 : aIL cX12_stands 14 3 15 := Or.inl ⟨3, by decide +kernel, rfl, rfl⟩
theorem eX12_stands_15 : aI1 cX12_stands 15 (.iaload) 16 := ⟨by decide +kernel, rfl⟩
theorem eX12_stands_16 : aAL cX12_stands 16 0 17 := Or.inl ⟨0, by decide +kernel, rfl, rfl⟩
theorem eX12_stands_17 : aIL cX12_stands 17 1 18 := Or.inl ⟨1, by decide +kernel, rfl, rfl⟩
theorem eX12_stands_18 : aI1 cX12_stands 18 (.iaload) 19 := ⟨by decide +kernel, rfl⟩
theorem eX12_stands_19 : aIc_ne cX12_stands 19 22 26 := ⟨7, by decide +kernel, rfl, by decide⟩
theorem eX12_stands_22 : aPI cX12_stands 22 (nI 1) 23 := Or.inl ⟨1, by decide +kernel, by decide +kernel, rfl⟩
theorem eX12_stands_23 : aGo cX12_stands 23 27 := ⟨4, by decide +kernel, by decide⟩
theorem eX12_stands_26 : aPI cX12_stands 26 (nI 0) 27 := Or.inl ⟨0, by decide +kernel, by decide +kernel, rfl⟩
theorem eX12_stands_27 : aIS cX12_stands 27 2 28 := Or.inl ⟨2, by decide +kernel, rfl, rfl⟩
theorem eX12_stands_28 : aII cX12_stands 28 3 (nI 1) 31 := ⟨1, by decide +kernel, by decide +kernel, rfl⟩
theorem eX12_stands_31 : aGo cX12_stands 31 4 := ⟨(-27), by decide +kernel, by decide⟩
theorem eX12_stands_34 : aIL cX12_stands 34 2 35 := Or.inl ⟨2, by decide +kernel, rfl, rfl⟩
theorem eX12_stands_35 : ∀ x : Int32, (x = 0 ∨ x = 1) → aRet cX12_stands (some .boolean) 35 (some (.int x)) := fun x h => Or.inr (Or.inl ⟨x, _, rfl, rfl, by rcases h with rfl | rfl <;> decide +kernel, by decide +kernel⟩)
theorem eX12_alters_0 : aIL cX12_alters 0 3 1 := Or.inl ⟨3, by decide +kernel, rfl, rfl⟩
theorem eX12_alters_1 : aAL cX12_alters 1 4 3 := Or.inr ⟨by decide +kernel, rfl⟩
theorem eX12_alters_3 : aIL cX12_alters 3 5 5 := Or.inr ⟨by decide +kernel, rfl⟩
theorem eX12_alters_5 : aI1 cX12_alters 5 (.iaload) 6 := ⟨by decide +kernel, rfl⟩
theorem eX12_alters_6 : aI1 cX12_alters 6 (.ishr) 7 := ⟨by decide +kernel, rfl⟩
theorem eX12_alters_7 : aPI cX12_alters 7 (nI 1) 8 := Or.inl ⟨1, by decide +kernel, by decide +kernel, rfl⟩
theorem eX12_alters_8 : aI1 cX12_alters 8 (.iand) 9 := ⟨by decide +kernel, rfl⟩
theorem eX12_alters_9 : aPI cX12_alters 9 (nI 1) 10 := Or.inl ⟨1, by decide +kernel, by decide +kernel, rfl⟩
theorem eX12_alters_10 : aIc_ne cX12_alters 10 13 15 := ⟨5, by decide +kernel, rfl, by decide⟩
theorem eX12_alters_13 : aPI cX12_alters 13 (nI 0) 14 := Or.inl ⟨0, by decide +kernel, by decide +kernel, rfl⟩
theorem eX12_alters_14 : ∀ x : Int32, (x = 0 ∨ x = 1) → aRet cX12_alters (some .boolean) 14 (some (.int x)) := fun x h => Or.inr (Or.inl ⟨x, _, rfl, rfl, by rcases h with rfl | rfl <;> decide +kernel, by decide +kernel⟩)
theorem eX12_alters_15 : aAL cX12_alters 15 0 16 := Or.inl ⟨0, by decide +kernel, rfl, rfl⟩
theorem eX12_alters_16 : aIL cX12_alters 16 2 17 := Or.inl ⟨2, by decide +kernel, rfl, rfl⟩
theorem eX12_alters_17 : aAL cX12_alters 17 4 19 := Or.inr ⟨by decide +kernel, rfl⟩
theorem eX12_alters_19 : aIL cX12_alters 19 5 21 := Or.inr ⟨by decide +kernel, rfl⟩
theorem eX12_alters_21 : aI1 cX12_alters 21 (.iaload) 22 := ⟨by decide +kernel, rfl⟩
theorem eX12_alters_22 : aI3 cX12_alters 22 (.invokevirtual 117) 25 := ⟨by decide +kernel, rfl⟩
theorem eX12_alters_25 : aIS cX12_alters 25 6 27 := Or.inr ⟨by decide +kernel, rfl⟩
theorem eX12_alters_27 : aIL cX12_alters 27 1 28 := Or.inl ⟨1, by decide +kernel, rfl, rfl⟩
theorem eX12_alters_28 : decode cX12_alters 28 = .ok (.tableswitch 121 1 4 #[32, 48, 69, 95], 32) := by decide +kernel
theorem eX12_alters_60 : aIL cX12_alters 60 6 62 := Or.inr ⟨by decide +kernel, rfl⟩
theorem eX12_alters_62 : aIf_ne cX12_alters 62 65 70 := ⟨8, by decide +kernel, rfl, by decide⟩
theorem eX12_alters_65 : aIL cX12_alters 65 5 67 := Or.inr ⟨by decide +kernel, rfl⟩
theorem eX12_alters_67 : aIf_ne cX12_alters 67 70 74 := ⟨7, by decide +kernel, rfl, by decide⟩
theorem eX12_alters_70 : aPI cX12_alters 70 (nI 1) 71 := Or.inl ⟨1, by decide +kernel, by decide +kernel, rfl⟩
theorem eX12_alters_71 : aGo cX12_alters 71 75 := ⟨4, by decide +kernel, by decide⟩
theorem eX12_alters_74 : aPI cX12_alters 74 (nI 0) 75 := Or.inl ⟨0, by decide +kernel, by decide +kernel, rfl⟩
theorem eX12_alters_75 : ∀ x : Int32, (x = 0 ∨ x = 1) → aRet cX12_alters (some .boolean) 75 (some (.int x)) := fun x h => Or.inr (Or.inl ⟨x, _, rfl, rfl, by rcases h with rfl | rfl <;> decide +kernel, by decide +kernel⟩)
theorem eX12_alters_76 : aIL cX12_alters 76 6 78 := Or.inr ⟨by decide +kernel, rfl⟩
theorem eX12_alters_78 : aIf_eq cX12_alters 78 81 95 := ⟨17, by decide +kernel, rfl, by decide⟩
theorem eX12_alters_81 : aAL cX12_alters 81 4 83 := Or.inr ⟨by decide +kernel, rfl⟩
theorem eX12_alters_83 : aIL cX12_alters 83 5 85 := Or.inr ⟨by decide +kernel, rfl⟩
theorem eX12_alters_85 : aI3 cX12_alters 85 (.invokestatic 121) 88 := ⟨by decide +kernel, rfl⟩
theorem eX12_alters_88 : aIf_ne cX12_alters 88 91 95 := ⟨7, by decide +kernel, rfl, by decide⟩
theorem eX12_alters_91 : aPI cX12_alters 91 (nI 1) 92 := Or.inl ⟨1, by decide +kernel, by decide +kernel, rfl⟩
theorem eX12_alters_92 : aGo cX12_alters 92 96 := ⟨4, by decide +kernel, by decide⟩
theorem eX12_alters_95 : aPI cX12_alters 95 (nI 0) 96 := Or.inl ⟨0, by decide +kernel, by decide +kernel, rfl⟩
theorem eX12_alters_96 : ∀ x : Int32, (x = 0 ∨ x = 1) → aRet cX12_alters (some .boolean) 96 (some (.int x)) := fun x h => Or.inr (Or.inl ⟨x, _, rfl, rfl, by rcases h with rfl | rfl <;> decide +kernel, by decide +kernel⟩)
theorem eX12_alters_97 : aIL cX12_alters 97 5 99 := Or.inr ⟨by decide +kernel, rfl⟩
theorem eX12_alters_99 : aIf_le cX12_alters 99 102 121 := ⟨22, by decide +kernel, rfl, by decide⟩
theorem eX12_alters_102 : aAL cX12_alters 102 0 103 := Or.inl ⟨0, by decide +kernel, rfl, rfl⟩
theorem eX12_alters_103 : aIL cX12_alters 103 2 104 := Or.inl ⟨2, by decide +kernel, rfl, rfl⟩
theorem eX12_alters_104 : aAL cX12_alters 104 4 106 := Or.inr ⟨by decide +kernel, rfl⟩
theorem eX12_alters_106 : aIL cX12_alters 106 5 108 := Or.inr ⟨by decide +kernel, rfl⟩
theorem eX12_alters_108 : aPI cX12_alters 108 (nI 1) 109 := Or.inl ⟨1, by decide +kernel, by decide +kernel, rfl⟩
theorem eX12_alters_109 : aI1 cX12_alters 109 (.isub) 110 := ⟨by decide +kernel, rfl⟩
theorem eX12_alters_110 : aI1 cX12_alters 110 (.iaload) 111 := ⟨by decide +kernel, rfl⟩
theorem eX12_alters_111 : aI3 cX12_alters 111 (.invokevirtual 117) 114 := ⟨by decide +kernel, rfl⟩
theorem eX12_alters_114 : aIf_eq cX12_alters 114 117 121 := ⟨7, by decide +kernel, rfl, by decide⟩
theorem eX12_alters_117 : aPI cX12_alters 117 (nI 1) 118 := Or.inl ⟨1, by decide +kernel, by decide +kernel, rfl⟩
theorem eX12_alters_118 : aGo cX12_alters 118 122 := ⟨4, by decide +kernel, by decide⟩
theorem eX12_alters_121 : aPI cX12_alters 121 (nI 0) 122 := Or.inl ⟨0, by decide +kernel, by decide +kernel, rfl⟩
theorem eX12_alters_122 : ∀ x : Int32, (x = 0 ∨ x = 1) → aRet cX12_alters (some .boolean) 122 (some (.int x)) := fun x h => Or.inr (Or.inl ⟨x, _, rfl, rfl, by rcases h with rfl | rfl <;> decide +kernel, by decide +kernel⟩)
theorem eX12_alters_123 : aIL cX12_alters 123 6 125 := Or.inr ⟨by decide +kernel, rfl⟩
theorem eX12_alters_125 : aIf_ne cX12_alters 125 128 143 := ⟨18, by decide +kernel, rfl, by decide⟩
theorem eX12_alters_128 : aIL cX12_alters 128 5 130 := Or.inr ⟨by decide +kernel, rfl⟩
theorem eX12_alters_130 : aIf_eq cX12_alters 130 133 143 := ⟨13, by decide +kernel, rfl, by decide⟩
theorem eX12_alters_133 : aAL cX12_alters 133 4 135 := Or.inr ⟨by decide +kernel, rfl⟩
theorem eX12_alters_135 : aIL cX12_alters 135 5 137 := Or.inr ⟨by decide +kernel, rfl⟩
theorem eX12_alters_137 : aI1 cX12_alters 137 (.iaload) 138 := ⟨by decide +kernel, rfl⟩
theorem eX12_alters_138 : aPI cX12_alters 138 (nI 7) 140 := Or.inr (Or.inl ⟨7, by decide +kernel, by decide +kernel, rfl⟩)
theorem eX12_alters_140 : aIc_ne cX12_alters 140 143 147 := ⟨7, by decide +kernel, rfl, by decide⟩
theorem eX12_alters_143 : aPI cX12_alters 143 (nI 1) 144 := Or.inl ⟨1, by decide +kernel, by decide +kernel, rfl⟩
theorem eX12_alters_144 : aGo cX12_alters 144 148 := ⟨4, by decide +kernel, by decide⟩
theorem eX12_alters_147 : aPI cX12_alters 147 (nI 0) 148 := Or.inl ⟨0, by decide +kernel, by decide +kernel, rfl⟩
theorem eX12_alters_148 : ∀ x : Int32, (x = 0 ∨ x = 1) → aRet cX12_alters (some .boolean) 148 (some (.int x)) := fun x h => Or.inr (Or.inl ⟨x, _, rfl, rfl, by rcases h with rfl | rfl <;> decide +kernel, by decide +kernel⟩)
theorem eX12_alters_149 : aIL cX12_alters 149 6 151 := Or.inr ⟨by decide +kernel, rfl⟩
theorem eX12_alters_151 : ∀ x : Int32, (x = 0 ∨ x = 1) → aRet cX12_alters (some .boolean) 151 (some (.int x)) := fun x h => Or.inr (Or.inl ⟨x, _, rfl, rfl, by rcases h with rfl | rfl <;> decide +kernel, by decide +kernel⟩)
theorem eX12_altersOn_0 : aPI cX12_altersOn 0 (nI 0) 1 := Or.inl ⟨0, by decide +kernel, by decide +kernel, rfl⟩
theorem eX12_altersOn_1 : aIS cX12_altersOn 1 6 3 := Or.inr ⟨by decide +kernel, rfl⟩
theorem eX12_altersOn_3 : aPI cX12_altersOn 3 (nI 0) 4 := Or.inl ⟨0, by decide +kernel, by decide +kernel, rfl⟩
theorem eX12_altersOn_4 : aIS cX12_altersOn 4 7 6 := Or.inr ⟨by decide +kernel, rfl⟩
theorem eX12_altersOn_6 : aIL cX12_altersOn 6 7 8 := Or.inr ⟨by decide +kernel, rfl⟩
theorem eX12_altersOn_8 : aIL cX12_altersOn 8 5 10 := Or.inr ⟨by decide +kernel, rfl⟩
theorem eX12_altersOn_10 : aIc_ge cX12_altersOn 10 13 46 := ⟨36, by decide +kernel, rfl, by decide⟩
theorem eX12_altersOn_13 : aIL cX12_altersOn 13 6 15 := Or.inr ⟨by decide +kernel, rfl⟩
theorem eX12_altersOn_15 : aAL cX12_altersOn 15 0 16 := Or.inl ⟨0, by decide +kernel, rfl, rfl⟩
theorem eX12_altersOn_16 : aIL cX12_altersOn 16 1 17 := Or.inl ⟨1, by decide +kernel, rfl, rfl⟩
theorem eX12_altersOn_17 : aIL cX12_altersOn 17 2 18 := Or.inl ⟨2, by decide +kernel, rfl, rfl⟩
theorem eX12_altersOn_18 : aIL cX12_altersOn 18 3 19 := Or.inl ⟨3, by decide +kernel, rfl, rfl⟩
theorem eX12_altersOn_19 : aAL cX12_altersOn 19 4 21 := Or.inr ⟨by decide +kernel, rfl⟩
theorem eX12_altersOn_21 : aIL cX12_altersOn 21 7 23 := Or.inr ⟨by decide +kernel, rfl⟩
theorem eX12_altersOn_23 : aI3 cX12_altersOn 23 (.invokevirtual 125) 26 := ⟨by decide +kernel, rfl⟩
theorem eX12_altersOn_26 : aIf_eq cX12_altersOn 26 29 36 := ⟨10, by decide +kernel, rfl, by decide⟩
theorem eX12_altersOn_29 : aPI cX12_altersOn 29 (nI 1) 30 := Or.inl ⟨1, by decide +kernel, by decide +kernel, rfl⟩
theorem eX12_altersOn_30 : aIL cX12_altersOn 30 7 32 := Or.inr ⟨by decide +kernel, rfl⟩
theorem eX12_altersOn_32 : aI1 cX12_altersOn 32 (.ishl) 33 := ⟨by decide +kernel, rfl⟩
theorem eX12_altersOn_33 : aGo cX12_altersOn 33 37 := ⟨4, by decide +kernel, by decide⟩
theorem eX12_altersOn_36 : aPI cX12_altersOn 36 (nI 0) 37 := Or.inl ⟨0, by decide +kernel, by decide +kernel, rfl⟩
theorem eX12_altersOn_37 : aI1 cX12_altersOn 37 (.ior) 38 := ⟨by decide +kernel, rfl⟩
theorem eX12_altersOn_38 : aIS cX12_altersOn 38 6 40 := Or.inr ⟨by decide +kernel, rfl⟩
theorem eX12_altersOn_40 : aII cX12_altersOn 40 7 (nI 1) 43 := ⟨1, by decide +kernel, by decide +kernel, rfl⟩
theorem eX12_altersOn_43 : aGo cX12_altersOn 43 6 := ⟨(-37), by decide +kernel, by decide⟩
theorem eX12_altersOn_46 : aIL cX12_altersOn 46 6 48 := Or.inr ⟨by decide +kernel, rfl⟩
theorem eX12_altersOn_48 : ∀ x : Int32, aRet cX12_altersOn (some .int) 48 (some (.int x)) := fun x => Or.inr (Or.inl ⟨x, _, rfl, rfl, rfl, by decide +kernel⟩)
theorem eX12_isAccused_0 : aIL cX12_isAccused 0 1 1 := Or.inl ⟨1, by decide +kernel, rfl, rfl⟩
theorem eX12_isAccused_1 : aI1 cX12_isAccused 1 (.i2l) 2 := ⟨by decide +kernel, rfl⟩
theorem eX12_isAccused_2 : aI1 cX12_isAccused 2 (.lconst 0) 3 := ⟨by decide +kernel, rfl⟩
theorem eX12_isAccused_3 : aAL cX12_isAccused 3 0 4 := Or.inl ⟨0, by decide +kernel, rfl, rfl⟩
theorem eX12_isAccused_4 : aI3 cX12_isAccused 4 (.getfield 97) 7 := ⟨by decide +kernel, rfl⟩
theorem eX12_isAccused_7 : aPI cX12_isAccused 7 (nI 1) 8 := Or.inl ⟨1, by decide +kernel, by decide +kernel, rfl⟩
theorem eX12_isAccused_8 : aI1 cX12_isAccused 8 (.isub) 9 := ⟨by decide +kernel, rfl⟩
theorem eX12_isAccused_9 : aI1 cX12_isAccused 9 (.i2l) 10 := ⟨by decide +kernel, rfl⟩
theorem eX12_isAccused_10 : aI3 cX12_isAccused 10 (.invokestatic 58) 13 := ⟨by decide +kernel, rfl⟩
theorem eX12_isAccused_13 : ∀ x : Int32, (x = 0 ∨ x = 1) → aRet cX12_isAccused (some .boolean) 13 (some (.int x)) := fun x h => Or.inr (Or.inl ⟨x, _, rfl, rfl, by rcases h with rfl | rfl <;> decide +kernel, by decide +kernel⟩)
theorem eX12_accuse_0 : aIL cX12_accuse 0 1 1 := Or.inl ⟨1, by decide +kernel, rfl, rfl⟩
theorem eX12_accuse_1 : aI1 cX12_accuse 1 (.i2l) 2 := ⟨by decide +kernel, rfl⟩
theorem eX12_accuse_2 : aI1 cX12_accuse 2 (.lconst 0) 3 := ⟨by decide +kernel, rfl⟩
theorem eX12_accuse_3 : aI3 cX12_accuse 3 (.ldc2_w 110) 6 := ⟨by decide +kernel, rfl⟩
theorem eX12_accuse_6 : aI3 cX12_accuse 6 (.invokestatic 58) 9 := ⟨by decide +kernel, rfl⟩
theorem eX12_accuse_9 : aIf_eq cX12_accuse 9 12 24 := ⟨15, by decide +kernel, rfl, by decide⟩
theorem eX12_accuse_12 : aIL cX12_accuse 12 2 13 := Or.inl ⟨2, by decide +kernel, rfl, rfl⟩
theorem eX12_accuse_13 : aI1 cX12_accuse 13 (.i2l) 14 := ⟨by decide +kernel, rfl⟩
theorem eX12_accuse_14 : aI1 cX12_accuse 14 (.lconst 0) 15 := ⟨by decide +kernel, rfl⟩
theorem eX12_accuse_15 : aI3 cX12_accuse 15 (.ldc2_w 110) 18 := ⟨by decide +kernel, rfl⟩
theorem eX12_accuse_18 : aI3 cX12_accuse 18 (.invokestatic 58) 21 := ⟨by decide +kernel, rfl⟩
theorem eX12_accuse_21 : aIf_ne cX12_accuse 21 24 27 := ⟨6, by decide +kernel, rfl, by decide⟩
theorem eX12_accuse_24 : aPI cX12_accuse 24 (-102) 26 := Or.inr (Or.inl ⟨(-102), by decide +kernel, by decide +kernel, rfl⟩)
theorem eX12_accuse_26 : ∀ x : Int32, aRet cX12_accuse (some .int) 26 (some (.int x)) := fun x => Or.inr (Or.inl ⟨x, _, rfl, rfl, rfl, by decide +kernel⟩)
theorem eX12_accuse_27 : aAL cX12_accuse 27 0 28 := Or.inl ⟨0, by decide +kernel, rfl, rfl⟩
theorem eX12_accuse_28 : aI3 cX12_accuse 28 (.invokevirtual 106) 31 := ⟨by decide +kernel, rfl⟩
theorem eX12_accuse_31 : aIf_eq cX12_accuse 31 34 37 := ⟨6, by decide +kernel, rfl, by decide⟩
theorem eX12_accuse_34 : aPI cX12_accuse 34 (-103) 36 := Or.inr (Or.inl ⟨(-103), by decide +kernel, by decide +kernel, rfl⟩)
theorem eX12_accuse_36 : ∀ x : Int32, aRet cX12_accuse (some .int) 36 (some (.int x)) := fun x => Or.inr (Or.inl ⟨x, _, rfl, rfl, rfl, by decide +kernel⟩)
theorem eX12_accuse_37 : aAL cX12_accuse 37 0 38 := Or.inl ⟨0, by decide +kernel, rfl, rfl⟩
theorem eX12_accuse_38 : aI3 cX12_accuse 38 (.getfield 97) 41 := ⟨by decide +kernel, rfl⟩
theorem eX12_accuse_41 : aPI cX12_accuse 41 (nI 4) 42 := Or.inl ⟨4, by decide +kernel, by decide +kernel, rfl⟩
theorem eX12_accuse_42 : aIc_ne cX12_accuse 42 45 48 := ⟨6, by decide +kernel, rfl, by decide⟩
theorem eX12_accuse_45 : aPI cX12_accuse 45 (-104) 47 := Or.inr (Or.inl ⟨(-104), by decide +kernel, by decide +kernel, rfl⟩)
theorem eX12_accuse_47 : ∀ x : Int32, aRet cX12_accuse (some .int) 47 (some (.int x)) := fun x => Or.inr (Or.inl ⟨x, _, rfl, rfl, rfl, by decide +kernel⟩)
theorem eX12_accuse_48 : aAL cX12_accuse 48 0 49 := Or.inl ⟨0, by decide +kernel, rfl, rfl⟩
theorem eX12_accuse_49 : aI3 cX12_accuse 49 (.getfield 25) 52 := ⟨by decide +kernel, rfl⟩
theorem eX12_accuse_52 : aPI cX12_accuse 52 (nI 3) 53 := Or.inl ⟨3, by decide +kernel, by decide +kernel, rfl⟩
theorem eX12_accuse_53 : aAL cX12_accuse 53 0 54 := Or.inl ⟨0, by decide +kernel, rfl, rfl⟩
theorem eX12_accuse_54 : aI3 cX12_accuse 54 (.getfield 97) 57 := ⟨by decide +kernel, rfl⟩
theorem eX12_accuse_57 : aI1 cX12_accuse 57 (.imul) 58 := ⟨by decide +kernel, rfl⟩
theorem eX12_accuse_58 : aIL cX12_accuse 58 1 59 := Or.inl ⟨1, by decide +kernel, rfl, rfl⟩
theorem eX12_accuse_59 : aI1 cX12_accuse 59 (.iastore) 60 := ⟨by decide +kernel, rfl⟩
theorem eX12_accuse_60 : aAL cX12_accuse 60 0 61 := Or.inl ⟨0, by decide +kernel, rfl, rfl⟩
theorem eX12_accuse_61 : aI3 cX12_accuse 61 (.getfield 25) 64 := ⟨by decide +kernel, rfl⟩
theorem eX12_accuse_64 : aPI cX12_accuse 64 (nI 3) 65 := Or.inl ⟨3, by decide +kernel, by decide +kernel, rfl⟩
theorem eX12_accuse_65 : aAL cX12_accuse 65 0 66 := Or.inl ⟨0, by decide +kernel, rfl, rfl⟩
theorem eX12_accuse_66 : aI3 cX12_accuse 66 (.getfield 97) 69 := ⟨by decide +kernel, rfl⟩
theorem eX12_accuse_69 : aI1 cX12_accuse 69 (.imul) 70 := ⟨by decide +kernel, rfl⟩
theorem eX12_accuse_70 : aPI cX12_accuse 70 (nI 1) 71 := Or.inl ⟨1, by decide +kernel, by decide +kernel, rfl⟩
theorem eX12_accuse_71 : aI1 cX12_accuse 71 (.iadd) 72 := ⟨by decide +kernel, rfl⟩
theorem eX12_accuse_72 : aIL cX12_accuse 72 2 73 := Or.inl ⟨2, by decide +kernel, rfl, rfl⟩
theorem eX12_accuse_73 : aI1 cX12_accuse 73 (.iastore) 74 := ⟨by decide +kernel, rfl⟩
theorem eX12_accuse_74 : aAL cX12_accuse 74 0 75 := Or.inl ⟨0, by decide +kernel, rfl, rfl⟩
theorem eX12_accuse_75 : aI3 cX12_accuse 75 (.getfield 25) 78 := ⟨by decide +kernel, rfl⟩
theorem eX12_accuse_78 : aPI cX12_accuse 78 (nI 3) 79 := Or.inl ⟨3, by decide +kernel, by decide +kernel, rfl⟩
theorem eX12_accuse_79 : aAL cX12_accuse 79 0 80 := Or.inl ⟨0, by decide +kernel, rfl, rfl⟩
theorem eX12_accuse_80 : aI3 cX12_accuse 80 (.getfield 97) 83 := ⟨by decide +kernel, rfl⟩
theorem eX12_accuse_83 : aI1 cX12_accuse 83 (.imul) 84 := ⟨by decide +kernel, rfl⟩
theorem eX12_accuse_84 : aPI cX12_accuse 84 (nI 2) 85 := Or.inl ⟨2, by decide +kernel, by decide +kernel, rfl⟩
theorem eX12_accuse_85 : aI1 cX12_accuse 85 (.iadd) 86 := ⟨by decide +kernel, rfl⟩
theorem eX12_accuse_86 : aPI cX12_accuse 86 (nI 0) 87 := Or.inl ⟨0, by decide +kernel, by decide +kernel, rfl⟩
theorem eX12_accuse_87 : aI1 cX12_accuse 87 (.iastore) 88 := ⟨by decide +kernel, rfl⟩
theorem eX12_accuse_88 : aAL cX12_accuse 88 0 89 := Or.inl ⟨0, by decide +kernel, rfl, rfl⟩
theorem eX12_accuse_89 : aI1 cX12_accuse 89 (.dup) 90 := ⟨by decide +kernel, rfl⟩
theorem eX12_accuse_90 : aI3 cX12_accuse 90 (.getfield 97) 93 := ⟨by decide +kernel, rfl⟩
theorem eX12_accuse_93 : aPI cX12_accuse 93 (nI 1) 94 := Or.inl ⟨1, by decide +kernel, by decide +kernel, rfl⟩
theorem eX12_accuse_94 : aI1 cX12_accuse 94 (.iadd) 95 := ⟨by decide +kernel, rfl⟩
theorem eX12_accuse_95 : aI3 cX12_accuse 95 (.putfield 97) 98 := ⟨by decide +kernel, rfl⟩
theorem eX12_accuse_98 : aAL cX12_accuse 98 0 99 := Or.inl ⟨0, by decide +kernel, rfl, rfl⟩
theorem eX12_accuse_99 : aI3 cX12_accuse 99 (.getfield 97) 102 := ⟨by decide +kernel, rfl⟩
theorem eX12_accuse_102 : aPI cX12_accuse 102 (nI 1) 103 := Or.inl ⟨1, by decide +kernel, by decide +kernel, rfl⟩
theorem eX12_accuse_103 : aI1 cX12_accuse 103 (.isub) 104 := ⟨by decide +kernel, rfl⟩
theorem eX12_accuse_104 : ∀ x : Int32, aRet cX12_accuse (some .int) 104 (some (.int x)) := fun x => Or.inr (Or.inl ⟨x, _, rfl, rfl, rfl, by decide +kernel⟩)
theorem eX12_altersOf_0 : aAL cX12_altersOf 0 0 1 := Or.inl ⟨0, by decide +kernel, rfl, rfl⟩
theorem eX12_altersOf_1 : aAL cX12_altersOf 1 0 2 := Or.inl ⟨0, by decide +kernel, rfl, rfl⟩
theorem eX12_altersOf_2 : aI3 cX12_altersOf 2 (.getfield 25) 5 := ⟨by decide +kernel, rfl⟩
theorem eX12_altersOf_5 : aPI cX12_altersOf 5 (nI 3) 6 := Or.inl ⟨3, by decide +kernel, by decide +kernel, rfl⟩
theorem eX12_altersOf_6 : aIL cX12_altersOf 6 1 7 := Or.inl ⟨1, by decide +kernel, rfl, rfl⟩
theorem eX12_altersOf_7 : aI1 cX12_altersOf 7 (.imul) 8 := ⟨by decide +kernel, rfl⟩
theorem eX12_altersOf_8 : aI1 cX12_altersOf 8 (.iaload) 9 := ⟨by decide +kernel, rfl⟩
theorem eX12_altersOf_9 : aAL cX12_altersOf 9 0 10 := Or.inl ⟨0, by decide +kernel, rfl, rfl⟩
theorem eX12_altersOf_10 : aI3 cX12_altersOf 10 (.getfield 25) 13 := ⟨by decide +kernel, rfl⟩
theorem eX12_altersOf_13 : aPI cX12_altersOf 13 (nI 3) 14 := Or.inl ⟨3, by decide +kernel, by decide +kernel, rfl⟩
theorem eX12_altersOf_14 : aIL cX12_altersOf 14 1 15 := Or.inl ⟨1, by decide +kernel, rfl, rfl⟩
theorem eX12_altersOf_15 : aI1 cX12_altersOf 15 (.imul) 16 := ⟨by decide +kernel, rfl⟩
theorem eX12_altersOf_16 : aPI cX12_altersOf 16 (nI 1) 17 := Or.inl ⟨1, by decide +kernel, by decide +kernel, rfl⟩
theorem eX12_altersOf_17 : aI1 cX12_altersOf 17 (.iadd) 18 := ⟨by decide +kernel, rfl⟩
theorem eX12_altersOf_18 : aI1 cX12_altersOf 18 (.iaload) 19 := ⟨by decide +kernel, rfl⟩
theorem eX12_altersOf_19 : aAL cX12_altersOf 19 0 20 := Or.inl ⟨0, by decide +kernel, rfl, rfl⟩
theorem eX12_altersOf_20 : aI3 cX12_altersOf 20 (.getfield 25) 23 := ⟨by decide +kernel, rfl⟩
theorem eX12_altersOf_23 : aPI cX12_altersOf 23 (nI 3) 24 := Or.inl ⟨3, by decide +kernel, by decide +kernel, rfl⟩
theorem eX12_altersOf_24 : aIL cX12_altersOf 24 1 25 := Or.inl ⟨1, by decide +kernel, rfl, rfl⟩
theorem eX12_altersOf_25 : aI1 cX12_altersOf 25 (.imul) 26 := ⟨by decide +kernel, rfl⟩
theorem eX12_altersOf_26 : aPI cX12_altersOf 26 (nI 2) 27 := Or.inl ⟨2, by decide +kernel, by decide +kernel, rfl⟩
theorem eX12_altersOf_27 : aI1 cX12_altersOf 27 (.iadd) 28 := ⟨by decide +kernel, rfl⟩
theorem eX12_altersOf_28 : aI1 cX12_altersOf 28 (.iaload) 29 := ⟨by decide +kernel, rfl⟩
theorem eX12_altersOf_29 : aAL cX12_altersOf 29 0 30 := Or.inl ⟨0, by decide +kernel, rfl, rfl⟩
theorem eX12_altersOf_30 : aI3 cX12_altersOf 30 (.getfield 22) 33 := ⟨by decide +kernel, rfl⟩
theorem eX12_altersOf_33 : aAL cX12_altersOf 33 0 34 := Or.inl ⟨0, by decide +kernel, rfl, rfl⟩
theorem eX12_altersOf_34 : aI3 cX12_altersOf 34 (.getfield 84) 37 := ⟨by decide +kernel, rfl⟩
theorem eX12_altersOf_37 : aI3 cX12_altersOf 37 (.invokevirtual 129) 40 := ⟨by decide +kernel, rfl⟩
theorem eX12_altersOf_40 : ∀ x : Int32, aRet cX12_altersOf (some .int) 40 (some (.int x)) := fun x => Or.inr (Or.inl ⟨x, _, rfl, rfl, rfl, by decide +kernel⟩)
theorem eX12_hangs_0 : aAL cX12_hangs 0 0 1 := Or.inl ⟨0, by decide +kernel, rfl, rfl⟩
theorem eX12_hangs_1 : aIL cX12_hangs 1 1 2 := Or.inl ⟨1, by decide +kernel, rfl, rfl⟩
theorem eX12_hangs_2 : aI3 cX12_hangs 2 (.invokevirtual 133) 5 := ⟨by decide +kernel, rfl⟩
theorem eX12_hangs_5 : aI3 cX12_hangs 5 (.invokestatic 137) 8 := ⟨by decide +kernel, rfl⟩
theorem eX12_hangs_8 : aAL cX12_hangs 8 0 9 := Or.inl ⟨0, by decide +kernel, rfl, rfl⟩
theorem eX12_hangs_9 : aI3 cX12_hangs 9 (.getfield 91) 12 := ⟨by decide +kernel, rfl⟩
theorem eX12_hangs_12 : aIc_lt cX12_hangs 12 15 19 := ⟨7, by decide +kernel, rfl, by decide⟩
theorem eX12_hangs_15 : aPI cX12_hangs 15 (nI 1) 16 := Or.inl ⟨1, by decide +kernel, by decide +kernel, rfl⟩
theorem eX12_hangs_16 : aGo cX12_hangs 16 20 := ⟨4, by decide +kernel, by decide⟩
theorem eX12_hangs_19 : aPI cX12_hangs 19 (nI 0) 20 := Or.inl ⟨0, by decide +kernel, by decide +kernel, rfl⟩
theorem eX12_hangs_20 : ∀ x : Int32, (x = 0 ∨ x = 1) → aRet cX12_hangs (some .boolean) 20 (some (.int x)) := fun x h => Or.inr (Or.inl ⟨x, _, rfl, rfl, by rcases h with rfl | rfl <;> decide +kernel, by decide +kernel⟩)
theorem eX12_tell_0 : aIL cX12_tell 0 2 1 := Or.inl ⟨2, by decide +kernel, rfl, rfl⟩
theorem eX12_tell_1 : decode cX12_tell 1 = .ok (.tableswitch 110 0 7 #[47, 47, 58, 64, 73, 87, 98, 104], 47) := by decide +kernel
theorem eX12_tell_48 : aAL cX12_tell 48 0 49 := Or.inl ⟨0, by decide +kernel, rfl, rfl⟩
theorem eX12_tell_49 : aI3 cX12_tell 49 (.getfield 25) 52 := ⟨by decide +kernel, rfl⟩
theorem eX12_tell_52 : aPI cX12_tell 52 (nI 3) 53 := Or.inl ⟨3, by decide +kernel, by decide +kernel, rfl⟩
theorem eX12_tell_53 : aIL cX12_tell 53 1 54 := Or.inl ⟨1, by decide +kernel, rfl, rfl⟩
theorem eX12_tell_54 : aI1 cX12_tell 54 (.imul) 55 := ⟨by decide +kernel, rfl⟩
theorem eX12_tell_55 : aIL cX12_tell 55 2 56 := Or.inl ⟨2, by decide +kernel, rfl, rfl⟩
theorem eX12_tell_56 : aI1 cX12_tell 56 (.iadd) 57 := ⟨by decide +kernel, rfl⟩
theorem eX12_tell_57 : aI1 cX12_tell 57 (.iaload) 58 := ⟨by decide +kernel, rfl⟩
theorem eX12_tell_58 : ∀ x : Int32, aRet cX12_tell (some .int) 58 (some (.int x)) := fun x => Or.inr (Or.inl ⟨x, _, rfl, rfl, rfl, by decide +kernel⟩)
theorem eX12_tell_59 : aAL cX12_tell 59 0 60 := Or.inl ⟨0, by decide +kernel, rfl, rfl⟩
theorem eX12_tell_60 : aIL cX12_tell 60 1 61 := Or.inl ⟨1, by decide +kernel, rfl, rfl⟩
theorem eX12_tell_61 : aI3 cX12_tell 61 (.invokevirtual 133) 64 := ⟨by decide +kernel, rfl⟩
theorem eX12_tell_64 : ∀ x : Int32, aRet cX12_tell (some .int) 64 (some (.int x)) := fun x => Or.inr (Or.inl ⟨x, _, rfl, rfl, rfl, by decide +kernel⟩)
theorem eX12_tell_65 : aAL cX12_tell 65 0 66 := Or.inl ⟨0, by decide +kernel, rfl, rfl⟩
theorem eX12_tell_66 : aIL cX12_tell 66 1 67 := Or.inl ⟨1, by decide +kernel, rfl, rfl⟩
theorem eX12_tell_67 : aI3 cX12_tell 67 (.invokevirtual 133) 70 := ⟨by decide +kernel, rfl⟩
theorem eX12_tell_70 : aI3 cX12_tell 70 (.invokestatic 137) 73 := ⟨by decide +kernel, rfl⟩
theorem eX12_tell_73 : ∀ x : Int32, aRet cX12_tell (some .int) 73 (some (.int x)) := fun x => Or.inr (Or.inl ⟨x, _, rfl, rfl, rfl, by decide +kernel⟩)
theorem eX12_tell_74 : aAL cX12_tell 74 0 75 := Or.inl ⟨0, by decide +kernel, rfl, rfl⟩
theorem eX12_tell_75 : aIL cX12_tell 75 1 76 := Or.inl ⟨1, by decide +kernel, rfl, rfl⟩
theorem eX12_tell_76 : aI3 cX12_tell 76 (.invokevirtual 140) 79 := ⟨by decide +kernel, rfl⟩
theorem eX12_tell_79 : aIf_eq cX12_tell 79 82 86 := ⟨7, by decide +kernel, rfl, by decide⟩
theorem eX12_tell_82 : aPI cX12_tell 82 (nI 1) 83 := Or.inl ⟨1, by decide +kernel, by decide +kernel, rfl⟩
theorem eX12_tell_83 : aGo cX12_tell 83 87 := ⟨4, by decide +kernel, by decide⟩
theorem eX12_tell_86 : aPI cX12_tell 86 (nI 0) 87 := Or.inl ⟨0, by decide +kernel, by decide +kernel, rfl⟩
theorem eX12_tell_87 : ∀ x : Int32, aRet cX12_tell (some .int) 87 (some (.int x)) := fun x => Or.inr (Or.inl ⟨x, _, rfl, rfl, rfl, by decide +kernel⟩)
theorem eX12_tell_88 : aAL cX12_tell 88 0 89 := Or.inl ⟨0, by decide +kernel, rfl, rfl⟩
theorem eX12_tell_89 : aI3 cX12_tell 89 (.getfield 25) 92 := ⟨by decide +kernel, rfl⟩
theorem eX12_tell_92 : aPI cX12_tell 92 (nI 3) 93 := Or.inl ⟨3, by decide +kernel, by decide +kernel, rfl⟩
theorem eX12_tell_93 : aIL cX12_tell 93 1 94 := Or.inl ⟨1, by decide +kernel, rfl, rfl⟩
theorem eX12_tell_94 : aI1 cX12_tell 94 (.imul) 95 := ⟨by decide +kernel, rfl⟩
theorem eX12_tell_95 : aPI cX12_tell 95 (nI 2) 96 := Or.inl ⟨2, by decide +kernel, by decide +kernel, rfl⟩
theorem eX12_tell_96 : aI1 cX12_tell 96 (.iadd) 97 := ⟨by decide +kernel, rfl⟩
theorem eX12_tell_97 : aI1 cX12_tell 97 (.iaload) 98 := ⟨by decide +kernel, rfl⟩
theorem eX12_tell_98 : ∀ x : Int32, aRet cX12_tell (some .int) 98 (some (.int x)) := fun x => Or.inr (Or.inl ⟨x, _, rfl, rfl, rfl, by decide +kernel⟩)
theorem eX12_tell_99 : aAL cX12_tell 99 0 100 := Or.inl ⟨0, by decide +kernel, rfl, rfl⟩
theorem eX12_tell_100 : aIL cX12_tell 100 1 101 := Or.inl ⟨1, by decide +kernel, rfl, rfl⟩
theorem eX12_tell_101 : aI3 cX12_tell 101 (.invokevirtual 143) 104 := ⟨by decide +kernel, rfl⟩
theorem eX12_tell_104 : ∀ x : Int32, aRet cX12_tell (some .int) 104 (some (.int x)) := fun x => Or.inr (Or.inl ⟨x, _, rfl, rfl, rfl, by decide +kernel⟩)
theorem eX12_tell_105 : aAL cX12_tell 105 0 106 := Or.inl ⟨0, by decide +kernel, rfl, rfl⟩
theorem eX12_tell_106 : aIL cX12_tell 106 1 107 := Or.inl ⟨1, by decide +kernel, rfl, rfl⟩
theorem eX12_tell_107 : aI3 cX12_tell 107 (.invokevirtual 146) 110 := ⟨by decide +kernel, rfl⟩
theorem eX12_tell_110 : ∀ x : Int32, aRet cX12_tell (some .int) 110 (some (.int x)) := fun x => Or.inr (Or.inl ⟨x, _, rfl, rfl, rfl, by decide +kernel⟩)
theorem eX12_tell_111 : aPI cX12_tell 111 (-102) 113 := Or.inr (Or.inl ⟨(-102), by decide +kernel, by decide +kernel, rfl⟩)
theorem eX12_tell_113 : ∀ x : Int32, aRet cX12_tell (some .int) 113 (some (.int x)) := fun x => Or.inr (Or.inl ⟨x, _, rfl, rfl, rfl, by decide +kernel⟩)
theorem eX12_about_0 : aAL cX12_about 0 0 1 := Or.inl ⟨0, by decide +kernel, rfl, rfl⟩
theorem eX12_about_1 : aIL cX12_about 1 1 2 := Or.inl ⟨1, by decide +kernel, rfl, rfl⟩
theorem eX12_about_2 : aI3 cX12_about 2 (.invokevirtual 149) 5 := ⟨by decide +kernel, rfl⟩
theorem eX12_about_5 : aIf_eq cX12_about 5 8 17 := ⟨12, by decide +kernel, rfl, by decide⟩
theorem eX12_about_8 : aAL cX12_about 8 0 9 := Or.inl ⟨0, by decide +kernel, rfl, rfl⟩
theorem eX12_about_9 : aIL cX12_about 9 1 10 := Or.inl ⟨1, by decide +kernel, rfl, rfl⟩
theorem eX12_about_10 : aIL cX12_about 10 2 11 := Or.inl ⟨2, by decide +kernel, rfl, rfl⟩
theorem eX12_about_11 : aI3 cX12_about 11 (.invokevirtual 152) 14 := ⟨by decide +kernel, rfl⟩
theorem eX12_about_14 : aGo cX12_about 14 19 := ⟨5, by decide +kernel, by decide⟩
theorem eX12_about_17 : aPI cX12_about 17 (-101) 19 := Or.inr (Or.inl ⟨(-101), by decide +kernel, by decide +kernel, rfl⟩)
theorem eX12_about_19 : ∀ x : Int32, aRet cX12_about (some .int) 19 (some (.int x)) := fun x => Or.inr (Or.inl ⟨x, _, rfl, rfl, rfl, by decide +kernel⟩)
theorem eX12_as_0 : aAL cX12_as 0 0 1 := Or.inl ⟨0, by decide +kernel, rfl, rfl⟩
theorem eX12_as_1 : aIL cX12_as 1 1 2 := Or.inl ⟨1, by decide +kernel, rfl, rfl⟩
theorem eX12_as_2 : aI3 cX12_as 2 (.invokevirtual 149) 5 := ⟨by decide +kernel, rfl⟩
theorem eX12_as_5 : aIf_ne cX12_as 5 8 11 := ⟨6, by decide +kernel, rfl, by decide⟩
theorem eX12_as_8 : aPI cX12_as 8 (-101) 10 := Or.inr (Or.inl ⟨(-101), by decide +kernel, by decide +kernel, rfl⟩)
theorem eX12_as_10 : ∀ x : Int32, aRet cX12_as (some .int) 10 (some (.int x)) := fun x => Or.inr (Or.inl ⟨x, _, rfl, rfl, rfl, by decide +kernel⟩)
theorem eX12_as_11 : aIL cX12_as 11 2 12 := Or.inl ⟨2, by decide +kernel, rfl, rfl⟩
theorem eX12_as_12 : aI1 cX12_as 12 (.i2l) 13 := ⟨by decide +kernel, rfl⟩
theorem eX12_as_13 : aI1 cX12_as 13 (.lconst 0) 14 := ⟨by decide +kernel, rfl⟩
theorem eX12_as_14 : aI3 cX12_as 14 (.ldc2_w 110) 17 := ⟨by decide +kernel, rfl⟩
theorem eX12_as_17 : aI3 cX12_as 17 (.invokestatic 58) 20 := ⟨by decide +kernel, rfl⟩
theorem eX12_as_20 : aIf_ne cX12_as 20 23 26 := ⟨6, by decide +kernel, rfl, by decide⟩
theorem eX12_as_23 : aPI cX12_as 23 (-102) 25 := Or.inr (Or.inl ⟨(-102), by decide +kernel, by decide +kernel, rfl⟩)
theorem eX12_as_25 : ∀ x : Int32, aRet cX12_as (some .int) 25 (some (.int x)) := fun x => Or.inr (Or.inl ⟨x, _, rfl, rfl, rfl, by decide +kernel⟩)
theorem eX12_as_26 : aAL cX12_as 26 0 27 := Or.inl ⟨0, by decide +kernel, rfl, rfl⟩
theorem eX12_as_27 : aI3 cX12_as 27 (.getfield 25) 30 := ⟨by decide +kernel, rfl⟩
theorem eX12_as_30 : aPI cX12_as 30 (nI 3) 31 := Or.inl ⟨3, by decide +kernel, by decide +kernel, rfl⟩
theorem eX12_as_31 : aIL cX12_as 31 1 32 := Or.inl ⟨1, by decide +kernel, rfl, rfl⟩
theorem eX12_as_32 : aI1 cX12_as 32 (.imul) 33 := ⟨by decide +kernel, rfl⟩
theorem eX12_as_33 : aI1 cX12_as 33 (.iaload) 34 := ⟨by decide +kernel, rfl⟩
theorem eX12_as_34 : aIS cX12_as 34 3 35 := Or.inl ⟨3, by decide +kernel, rfl, rfl⟩
theorem eX12_as_35 : aIL cX12_as 35 2 36 := Or.inl ⟨2, by decide +kernel, rfl, rfl⟩
theorem eX12_as_36 : aIf_eq cX12_as 36 39 54 := ⟨18, by decide +kernel, rfl, by decide⟩
theorem eX12_as_39 : aIL cX12_as 39 2 40 := Or.inl ⟨2, by decide +kernel, rfl, rfl⟩
theorem eX12_as_40 : aIL cX12_as 40 3 41 := Or.inl ⟨3, by decide +kernel, rfl, rfl⟩
theorem eX12_as_41 : aIc_eq cX12_as 41 44 54 := ⟨13, by decide +kernel, rfl, by decide⟩
theorem eX12_as_44 : aIL cX12_as 44 2 45 := Or.inl ⟨2, by decide +kernel, rfl, rfl⟩
theorem eX12_as_45 : aPI cX12_as 45 (nI 1) 46 := Or.inl ⟨1, by decide +kernel, by decide +kernel, rfl⟩
theorem eX12_as_46 : aIc_ne cX12_as 46 49 58 := ⟨12, by decide +kernel, rfl, by decide⟩
theorem eX12_as_49 : aIL cX12_as 49 3 50 := Or.inl ⟨3, by decide +kernel, rfl, rfl⟩
theorem eX12_as_50 : aPI cX12_as 50 (nI 4) 51 := Or.inl ⟨4, by decide +kernel, by decide +kernel, rfl⟩
theorem eX12_as_51 : aIc_ne cX12_as 51 54 58 := ⟨7, by decide +kernel, rfl, by decide⟩
theorem eX12_as_54 : aPI cX12_as 54 (nI 1) 55 := Or.inl ⟨1, by decide +kernel, by decide +kernel, rfl⟩
theorem eX12_as_55 : aGo cX12_as 55 59 := ⟨4, by decide +kernel, by decide⟩
theorem eX12_as_58 : aPI cX12_as 58 (nI 0) 59 := Or.inl ⟨0, by decide +kernel, by decide +kernel, rfl⟩
theorem eX12_as_59 : aIS cX12_as 59 4 61 := Or.inr ⟨by decide +kernel, rfl⟩
theorem eX12_as_61 : aIL cX12_as 61 4 63 := Or.inr ⟨by decide +kernel, rfl⟩
theorem eX12_as_63 : aIf_eq cX12_as 63 66 70 := ⟨7, by decide +kernel, rfl, by decide⟩
theorem eX12_as_66 : aIL cX12_as 66 1 67 := Or.inl ⟨1, by decide +kernel, rfl, rfl⟩
theorem eX12_as_67 : aGo cX12_as 67 71 := ⟨4, by decide +kernel, by decide⟩
theorem eX12_as_70 : aPI cX12_as 70 (-1) 71 := Or.inl ⟨(-1), by decide +kernel, by decide +kernel, rfl⟩
theorem eX12_as_71 : ∀ x : Int32, aRet cX12_as (some .int) 71 (some (.int x)) := fun x => Or.inr (Or.inl ⟨x, _, rfl, rfl, rfl, by decide +kernel⟩)
theorem eX12_lesson_0 : aAL cX12_lesson 0 0 1 := Or.inl ⟨0, by decide +kernel, rfl, rfl⟩
theorem eX12_lesson_1 : aIL cX12_lesson 1 1 2 := Or.inl ⟨1, by decide +kernel, rfl, rfl⟩
theorem eX12_lesson_2 : aI3 cX12_lesson 2 (.invokevirtual 149) 5 := ⟨by decide +kernel, rfl⟩
theorem eX12_lesson_5 : aIf_ne cX12_lesson 5 8 11 := ⟨6, by decide +kernel, rfl, by decide⟩
theorem eX12_lesson_8 : aPI cX12_lesson 8 (-101) 10 := Or.inr (Or.inl ⟨(-101), by decide +kernel, by decide +kernel, rfl⟩)
theorem eX12_lesson_10 : ∀ x : Int32, aRet cX12_lesson (some .int) 10 (some (.int x)) := fun x => Or.inr (Or.inl ⟨x, _, rfl, rfl, rfl, by decide +kernel⟩)
theorem eX12_lesson_11 : aIL cX12_lesson 11 2 12 := Or.inl ⟨2, by decide +kernel, rfl, rfl⟩
theorem eX12_lesson_12 : aI1 cX12_lesson 12 (.i2l) 13 := ⟨by decide +kernel, rfl⟩
theorem eX12_lesson_13 : aI1 cX12_lesson 13 (.lconst 0) 14 := ⟨by decide +kernel, rfl⟩
theorem eX12_lesson_14 : aI3 cX12_lesson 14 (.ldc2_w 74) 17 := ⟨by decide +kernel, rfl⟩
theorem eX12_lesson_17 : aI3 cX12_lesson 17 (.invokestatic 58) 20 := ⟨by decide +kernel, rfl⟩
theorem eX12_lesson_20 : aIf_ne cX12_lesson 20 23 26 := ⟨6, by decide +kernel, rfl, by decide⟩
theorem eX12_lesson_23 : aPI cX12_lesson 23 (-102) 25 := Or.inr (Or.inl ⟨(-102), by decide +kernel, by decide +kernel, rfl⟩)
theorem eX12_lesson_25 : ∀ x : Int32, aRet cX12_lesson (some .int) 25 (some (.int x)) := fun x => Or.inr (Or.inl ⟨x, _, rfl, rfl, rfl, by decide +kernel⟩)
theorem eX12_lesson_26 : aAL cX12_lesson 26 0 27 := Or.inl ⟨0, by decide +kernel, rfl, rfl⟩
theorem eX12_lesson_27 : aI3 cX12_lesson 27 (.getfield 25) 30 := ⟨by decide +kernel, rfl⟩
theorem eX12_lesson_30 : aPI cX12_lesson 30 (nI 3) 31 := Or.inl ⟨3, by decide +kernel, by decide +kernel, rfl⟩
theorem eX12_lesson_31 : aIL cX12_lesson 31 1 32 := Or.inl ⟨1, by decide +kernel, rfl, rfl⟩
theorem eX12_lesson_32 : aI1 cX12_lesson 32 (.imul) 33 := ⟨by decide +kernel, rfl⟩
theorem eX12_lesson_33 : aPI cX12_lesson 33 (nI 2) 34 := Or.inl ⟨2, by decide +kernel, by decide +kernel, rfl⟩
theorem eX12_lesson_34 : aI1 cX12_lesson 34 (.iadd) 35 := ⟨by decide +kernel, rfl⟩
theorem eX12_lesson_35 : aI1 cX12_lesson 35 (.iaload) 36 := ⟨by decide +kernel, rfl⟩
theorem eX12_lesson_36 : aIL cX12_lesson 36 2 37 := Or.inl ⟨2, by decide +kernel, rfl, rfl⟩
theorem eX12_lesson_37 : aI1 cX12_lesson 37 (.ishr) 38 := ⟨by decide +kernel, rfl⟩
theorem eX12_lesson_38 : aPI cX12_lesson 38 (nI 1) 39 := Or.inl ⟨1, by decide +kernel, by decide +kernel, rfl⟩
theorem eX12_lesson_39 : aI1 cX12_lesson 39 (.iand) 40 := ⟨by decide +kernel, rfl⟩
theorem eX12_lesson_40 : aPI cX12_lesson 40 (nI 1) 41 := Or.inl ⟨1, by decide +kernel, by decide +kernel, rfl⟩
theorem eX12_lesson_41 : aIc_ne cX12_lesson 41 44 47 := ⟨6, by decide +kernel, rfl, by decide⟩
theorem eX12_lesson_44 : aPI cX12_lesson 44 (-103) 46 := Or.inr (Or.inl ⟨(-103), by decide +kernel, by decide +kernel, rfl⟩)
theorem eX12_lesson_46 : ∀ x : Int32, aRet cX12_lesson (some .int) 46 (some (.int x)) := fun x => Or.inr (Or.inl ⟨x, _, rfl, rfl, rfl, by decide +kernel⟩)
theorem eX12_lesson_47 : aAL cX12_lesson 47 0 48 := Or.inl ⟨0, by decide +kernel, rfl, rfl⟩
theorem eX12_lesson_48 : aI3 cX12_lesson 48 (.getfield 25) 51 := ⟨by decide +kernel, rfl⟩
theorem eX12_lesson_51 : aPI cX12_lesson 51 (nI 3) 52 := Or.inl ⟨3, by decide +kernel, by decide +kernel, rfl⟩
theorem eX12_lesson_52 : aIL cX12_lesson 52 1 53 := Or.inl ⟨1, by decide +kernel, rfl, rfl⟩
theorem eX12_lesson_53 : aI1 cX12_lesson 53 (.imul) 54 := ⟨by decide +kernel, rfl⟩
theorem eX12_lesson_54 : aPI cX12_lesson 54 (nI 2) 55 := Or.inl ⟨2, by decide +kernel, by decide +kernel, rfl⟩
theorem eX12_lesson_55 : aI1 cX12_lesson 55 (.iadd) 56 := ⟨by decide +kernel, rfl⟩
theorem eX12_lesson_56 : aI1 cX12_lesson 56 (.dup2) 57 := ⟨by decide +kernel, rfl⟩
theorem eX12_lesson_57 : aI1 cX12_lesson 57 (.iaload) 58 := ⟨by decide +kernel, rfl⟩
theorem eX12_lesson_58 : aPI cX12_lesson 58 (nI 1) 59 := Or.inl ⟨1, by decide +kernel, by decide +kernel, rfl⟩
theorem eX12_lesson_59 : aIL cX12_lesson 59 2 60 := Or.inl ⟨2, by decide +kernel, rfl, rfl⟩
theorem eX12_lesson_60 : aI1 cX12_lesson 60 (.ishl) 61 := ⟨by decide +kernel, rfl⟩
theorem eX12_lesson_61 : aI1 cX12_lesson 61 (.ior) 62 := ⟨by decide +kernel, rfl⟩
theorem eX12_lesson_62 : aI1 cX12_lesson 62 (.iastore) 63 := ⟨by decide +kernel, rfl⟩
theorem eX12_lesson_63 : aAL cX12_lesson 63 0 64 := Or.inl ⟨0, by decide +kernel, rfl, rfl⟩
theorem eX12_lesson_64 : aI1 cX12_lesson 64 (.dup) 65 := ⟨by decide +kernel, rfl⟩
theorem eX12_lesson_65 : aI3 cX12_lesson 65 (.getfield 94) 68 := ⟨by decide +kernel, rfl⟩
theorem eX12_lesson_68 : aPI cX12_lesson 68 (nI 1) 69 := Or.inl ⟨1, by decide +kernel, by decide +kernel, rfl⟩
theorem eX12_lesson_69 : aI1 cX12_lesson 69 (.iadd) 70 := ⟨by decide +kernel, rfl⟩
theorem eX12_lesson_70 : aI3 cX12_lesson 70 (.putfield 94) 73 := ⟨by decide +kernel, rfl⟩
theorem eX12_lesson_73 : aAL cX12_lesson 73 0 74 := Or.inl ⟨0, by decide +kernel, rfl, rfl⟩
theorem eX12_lesson_74 : aI3 cX12_lesson 74 (.getfield 25) 77 := ⟨by decide +kernel, rfl⟩
theorem eX12_lesson_77 : aPI cX12_lesson 77 (nI 3) 78 := Or.inl ⟨3, by decide +kernel, by decide +kernel, rfl⟩
theorem eX12_lesson_78 : aIL cX12_lesson 78 1 79 := Or.inl ⟨1, by decide +kernel, rfl, rfl⟩
theorem eX12_lesson_79 : aI1 cX12_lesson 79 (.imul) 80 := ⟨by decide +kernel, rfl⟩
theorem eX12_lesson_80 : aPI cX12_lesson 80 (nI 2) 81 := Or.inl ⟨2, by decide +kernel, by decide +kernel, rfl⟩
theorem eX12_lesson_81 : aI1 cX12_lesson 81 (.iadd) 82 := ⟨by decide +kernel, rfl⟩
theorem eX12_lesson_82 : aI1 cX12_lesson 82 (.iaload) 83 := ⟨by decide +kernel, rfl⟩
theorem eX12_lesson_83 : aI3 cX12_lesson 83 (.invokestatic 137) 86 := ⟨by decide +kernel, rfl⟩
theorem eX12_lesson_86 : ∀ x : Int32, aRet cX12_lesson (some .int) 86 (some (.int x)) := fun x => Or.inr (Or.inl ⟨x, _, rfl, rfl, rfl, by decide +kernel⟩)
theorem eX12_unlearn_0 : aAL cX12_unlearn 0 0 1 := Or.inl ⟨0, by decide +kernel, rfl, rfl⟩
theorem eX12_unlearn_1 : aIL cX12_unlearn 1 1 2 := Or.inl ⟨1, by decide +kernel, rfl, rfl⟩
theorem eX12_unlearn_2 : aI3 cX12_unlearn 2 (.invokevirtual 149) 5 := ⟨by decide +kernel, rfl⟩
theorem eX12_unlearn_5 : aIf_ne cX12_unlearn 5 8 11 := ⟨6, by decide +kernel, rfl, by decide⟩
theorem eX12_unlearn_8 : aPI cX12_unlearn 8 (-101) 10 := Or.inr (Or.inl ⟨(-101), by decide +kernel, by decide +kernel, rfl⟩)
theorem eX12_unlearn_10 : ∀ x : Int32, aRet cX12_unlearn (some .int) 10 (some (.int x)) := fun x => Or.inr (Or.inl ⟨x, _, rfl, rfl, rfl, by decide +kernel⟩)
theorem eX12_unlearn_11 : aAL cX12_unlearn 11 0 12 := Or.inl ⟨0, by decide +kernel, rfl, rfl⟩
theorem eX12_unlearn_12 : aI3 cX12_unlearn 12 (.getfield 25) 15 := ⟨by decide +kernel, rfl⟩
theorem eX12_unlearn_15 : aPI cX12_unlearn 15 (nI 3) 16 := Or.inl ⟨3, by decide +kernel, by decide +kernel, rfl⟩
theorem eX12_unlearn_16 : aIL cX12_unlearn 16 1 17 := Or.inl ⟨1, by decide +kernel, rfl, rfl⟩
theorem eX12_unlearn_17 : aI1 cX12_unlearn 17 (.imul) 18 := ⟨by decide +kernel, rfl⟩
theorem eX12_unlearn_18 : aPI cX12_unlearn 18 (nI 2) 19 := Or.inl ⟨2, by decide +kernel, by decide +kernel, rfl⟩
theorem eX12_unlearn_19 : aI1 cX12_unlearn 19 (.iadd) 20 := ⟨by decide +kernel, rfl⟩
theorem eX12_unlearn_20 : aI1 cX12_unlearn 20 (.iaload) 21 := ⟨by decide +kernel, rfl⟩
theorem eX12_unlearn_21 : aI3 cX12_unlearn 21 (.invokestatic 137) 24 := ⟨by decide +kernel, rfl⟩
theorem eX12_unlearn_24 : aIS cX12_unlearn 24 2 25 := Or.inl ⟨2, by decide +kernel, rfl, rfl⟩
theorem eX12_unlearn_25 : aAL cX12_unlearn 25 0 26 := Or.inl ⟨0, by decide +kernel, rfl, rfl⟩
theorem eX12_unlearn_26 : aI3 cX12_unlearn 26 (.getfield 25) 29 := ⟨by decide +kernel, rfl⟩
theorem eX12_unlearn_29 : aPI cX12_unlearn 29 (nI 3) 30 := Or.inl ⟨3, by decide +kernel, by decide +kernel, rfl⟩
theorem eX12_unlearn_30 : aIL cX12_unlearn 30 1 31 := Or.inl ⟨1, by decide +kernel, rfl, rfl⟩
theorem eX12_unlearn_31 : aI1 cX12_unlearn 31 (.imul) 32 := ⟨by decide +kernel, rfl⟩
theorem eX12_unlearn_32 : aPI cX12_unlearn 32 (nI 2) 33 := Or.inl ⟨2, by decide +kernel, by decide +kernel, rfl⟩
theorem eX12_unlearn_33 : aI1 cX12_unlearn 33 (.iadd) 34 := ⟨by decide +kernel, rfl⟩
theorem eX12_unlearn_34 : aPI cX12_unlearn 34 (nI 0) 35 := Or.inl ⟨0, by decide +kernel, by decide +kernel, rfl⟩
theorem eX12_unlearn_35 : aI1 cX12_unlearn 35 (.iastore) 36 := ⟨by decide +kernel, rfl⟩
theorem eX12_unlearn_36 : aAL cX12_unlearn 36 0 37 := Or.inl ⟨0, by decide +kernel, rfl, rfl⟩
theorem eX12_unlearn_37 : aI1 cX12_unlearn 37 (.dup) 38 := ⟨by decide +kernel, rfl⟩
theorem eX12_unlearn_38 : aI3 cX12_unlearn 38 (.getfield 94) 41 := ⟨by decide +kernel, rfl⟩
theorem eX12_unlearn_41 : aPI cX12_unlearn 41 (nI 1) 42 := Or.inl ⟨1, by decide +kernel, by decide +kernel, rfl⟩
theorem eX12_unlearn_42 : aI1 cX12_unlearn 42 (.iadd) 43 := ⟨by decide +kernel, rfl⟩
theorem eX12_unlearn_43 : aI3 cX12_unlearn 43 (.putfield 94) 46 := ⟨by decide +kernel, rfl⟩
theorem eX12_unlearn_46 : aIL cX12_unlearn 46 2 47 := Or.inl ⟨2, by decide +kernel, rfl, rfl⟩
theorem eX12_unlearn_47 : ∀ x : Int32, aRet cX12_unlearn (some .int) 47 (some (.int x)) := fun x => Or.inr (Or.inl ⟨x, _, rfl, rfl, rfl, by decide +kernel⟩)
theorem eX12_isApart_0 : aPI cX12_isApart 0 (nI 1) 1 := Or.inl ⟨1, by decide +kernel, by decide +kernel, rfl⟩
theorem eX12_isApart_1 : aIS cX12_isApart 1 2 2 := Or.inl ⟨2, by decide +kernel, rfl, rfl⟩
theorem eX12_isApart_2 : aPI cX12_isApart 2 (nI 0) 3 := Or.inl ⟨0, by decide +kernel, by decide +kernel, rfl⟩
theorem eX12_isApart_3 : aIS cX12_isApart 3 3 4 := Or.inl ⟨3, by decide +kernel, rfl, rfl⟩
theorem eX12_isApart_4 : aIL cX12_isApart 4 3 5 := Or.inl ⟨3, by decide +kernel, rfl, rfl⟩
theorem eX12_isApart_5 : aPI cX12_isApart 5 (nI 5) 6 := Or.inl ⟨5, by decide +kernel, by decide +kernel, rfl⟩
theorem eX12_isApart_6 : aIc_ge cX12_isApart 6 9 74 := ⟨68, by decide +kernel, rfl, by decide⟩
theorem eX12_isApart_9 : aAL cX12_isApart 9 0 10 := Or.inl ⟨0, by decide +kernel, rfl, rfl⟩
theorem eX12_isApart_10 : aI3 cX12_isApart 10 (.getfield 31) 13 := ⟨by decide +kernel, rfl⟩
theorem eX12_isApart_13 : aIL cX12_isApart 13 3 14 := Or.inl ⟨3, by decide +kernel, rfl, rfl⟩
theorem eX12_isApart_14 : aAL cX12_isApart 14 0 15 := Or.inl ⟨0, by decide +kernel, rfl, rfl⟩
theorem eX12_isApart_15 : aPI cX12_isApart 15 (nI 0) 16 := Or.inl ⟨0, by decide +kernel, by decide +kernel, rfl⟩
theorem eX12_isApart_16 : aIL cX12_isApart 16 3 17 := Or.inl ⟨3, by decide +kernel, rfl, rfl⟩
theorem eX12_isApart_17 : aPI cX12_isApart 17 (nI 0) 18 := Or.inl ⟨0, by decide +kernel, by decide +kernel, rfl⟩
theorem eX12_isApart_18 : aAL cX12_isApart 18 0 19 := Or.inl ⟨0, by decide +kernel, rfl, rfl⟩
theorem eX12_isApart_19 : aI3 cX12_isApart 19 (.getfield 28) 22 := ⟨by decide +kernel, rfl⟩
theorem eX12_isApart_22 : aIL cX12_isApart 22 1 23 := Or.inl ⟨1, by decide +kernel, rfl, rfl⟩
theorem eX12_isApart_23 : aI3 cX12_isApart 23 (.invokevirtual 129) 26 := ⟨by decide +kernel, rfl⟩
theorem eX12_isApart_26 : aI1 cX12_isApart 26 (.iastore) 27 := ⟨by decide +kernel, rfl⟩
theorem eX12_isApart_27 : aPI cX12_isApart 27 (nI 0) 28 := Or.inl ⟨0, by decide +kernel, by decide +kernel, rfl⟩
theorem eX12_isApart_28 : aIS cX12_isApart 28 4 30 := Or.inr ⟨by decide +kernel, rfl⟩
theorem eX12_isApart_30 : aIL cX12_isApart 30 4 32 := Or.inr ⟨by decide +kernel, rfl⟩
theorem eX12_isApart_32 : aIL cX12_isApart 32 3 33 := Or.inl ⟨3, by decide +kernel, rfl, rfl⟩
theorem eX12_isApart_33 : aIc_ge cX12_isApart 33 36 68 := ⟨35, by decide +kernel, rfl, by decide⟩
theorem eX12_isApart_36 : aIL cX12_isApart 36 2 37 := Or.inl ⟨2, by decide +kernel, rfl, rfl⟩
theorem eX12_isApart_37 : aIf_eq cX12_isApart 37 40 60 := ⟨23, by decide +kernel, rfl, by decide⟩
theorem eX12_isApart_40 : aAL cX12_isApart 40 0 41 := Or.inl ⟨0, by decide +kernel, rfl, rfl⟩
theorem eX12_isApart_41 : aI3 cX12_isApart 41 (.getfield 31) 44 := ⟨by decide +kernel, rfl⟩
theorem eX12_isApart_44 : aIL cX12_isApart 44 4 46 := Or.inr ⟨by decide +kernel, rfl⟩
theorem eX12_isApart_46 : aI1 cX12_isApart 46 (.iaload) 47 := ⟨by decide +kernel, rfl⟩
theorem eX12_isApart_47 : aAL cX12_isApart 47 0 48 := Or.inl ⟨0, by decide +kernel, rfl, rfl⟩
theorem eX12_isApart_48 : aI3 cX12_isApart 48 (.getfield 31) 51 := ⟨by decide +kernel, rfl⟩
theorem eX12_isApart_51 : aIL cX12_isApart 51 3 52 := Or.inl ⟨3, by decide +kernel, rfl, rfl⟩
theorem eX12_isApart_52 : aI1 cX12_isApart 52 (.iaload) 53 := ⟨by decide +kernel, rfl⟩
theorem eX12_isApart_53 : aIc_eq cX12_isApart 53 56 60 := ⟨7, by decide +kernel, rfl, by decide⟩
theorem eX12_isApart_56 : aPI cX12_isApart 56 (nI 1) 57 := Or.inl ⟨1, by decide +kernel, by decide +kernel, rfl⟩
theorem eX12_isApart_57 : aGo cX12_isApart 57 61 := ⟨4, by decide +kernel, by decide⟩
theorem eX12_isApart_60 : aPI cX12_isApart 60 (nI 0) 61 := Or.inl ⟨0, by decide +kernel, by decide +kernel, rfl⟩
theorem eX12_isApart_61 : aIS cX12_isApart 61 2 62 := Or.inl ⟨2, by decide +kernel, rfl, rfl⟩
theorem eX12_isApart_62 : aII cX12_isApart 62 4 (nI 1) 65 := ⟨1, by decide +kernel, by decide +kernel, rfl⟩
theorem eX12_isApart_65 : aGo cX12_isApart 65 30 := ⟨(-35), by decide +kernel, by decide⟩
theorem eX12_isApart_68 : aII cX12_isApart 68 3 (nI 1) 71 := ⟨1, by decide +kernel, by decide +kernel, rfl⟩
theorem eX12_isApart_71 : aGo cX12_isApart 71 4 := ⟨(-67), by decide +kernel, by decide⟩
theorem eX12_isApart_74 : aIL cX12_isApart 74 2 75 := Or.inl ⟨2, by decide +kernel, rfl, rfl⟩
theorem eX12_isApart_75 : ∀ x : Int32, (x = 0 ∨ x = 1) → aRet cX12_isApart (some .boolean) 75 (some (.int x)) := fun x h => Or.inr (Or.inl ⟨x, _, rfl, rfl, by rcases h with rfl | rfl <;> decide +kernel, by decide +kernel⟩)
theorem eX12_briefOf_0 : aPI cX12_briefOf 0 (nI 1) 1 := Or.inl ⟨1, by decide +kernel, by decide +kernel, rfl⟩
theorem eX12_briefOf_1 : aIS cX12_briefOf 1 2 2 := Or.inl ⟨2, by decide +kernel, rfl, rfl⟩
theorem eX12_briefOf_2 : aPI cX12_briefOf 2 (nI 1) 3 := Or.inl ⟨1, by decide +kernel, by decide +kernel, rfl⟩
theorem eX12_briefOf_3 : aIS cX12_briefOf 3 3 4 := Or.inl ⟨3, by decide +kernel, rfl, rfl⟩
theorem eX12_briefOf_4 : aIL cX12_briefOf 4 3 5 := Or.inl ⟨3, by decide +kernel, rfl, rfl⟩
theorem eX12_briefOf_5 : aPI cX12_briefOf 5 (nI 5) 6 := Or.inl ⟨5, by decide +kernel, by decide +kernel, rfl⟩
theorem eX12_briefOf_6 : aIc_ge cX12_briefOf 6 9 109 := ⟨103, by decide +kernel, rfl, by decide⟩
theorem eX12_briefOf_9 : aIL cX12_briefOf 9 2 10 := Or.inl ⟨2, by decide +kernel, rfl, rfl⟩
theorem eX12_briefOf_10 : aPI cX12_briefOf 10 (nI 8) 12 := Or.inr (Or.inl ⟨8, by decide +kernel, by decide +kernel, rfl⟩)
theorem eX12_briefOf_12 : aI1 cX12_briefOf 12 (.imul) 13 := ⟨by decide +kernel, rfl⟩
theorem eX12_briefOf_13 : aIS cX12_briefOf 13 2 14 := Or.inl ⟨2, by decide +kernel, rfl, rfl⟩
theorem eX12_briefOf_14 : aPI cX12_briefOf 14 (nI 0) 15 := Or.inl ⟨0, by decide +kernel, by decide +kernel, rfl⟩
theorem eX12_briefOf_15 : aIS cX12_briefOf 15 4 17 := Or.inr ⟨by decide +kernel, rfl⟩
theorem eX12_briefOf_17 : aIL cX12_briefOf 17 4 19 := Or.inr ⟨by decide +kernel, rfl⟩
theorem eX12_briefOf_19 : aIL cX12_briefOf 19 2 20 := Or.inl ⟨2, by decide +kernel, rfl, rfl⟩
theorem eX12_briefOf_20 : aIc_ge cX12_briefOf 20 23 103 := ⟨83, by decide +kernel, rfl, by decide⟩
theorem eX12_briefOf_23 : aPI cX12_briefOf 23 (nI 0) 24 := Or.inl ⟨0, by decide +kernel, by decide +kernel, rfl⟩
theorem eX12_briefOf_24 : aIS cX12_briefOf 24 5 26 := Or.inr ⟨by decide +kernel, rfl⟩
theorem eX12_briefOf_26 : aIL cX12_briefOf 26 5 28 := Or.inr ⟨by decide +kernel, rfl⟩
theorem eX12_briefOf_28 : aIL cX12_briefOf 28 3 29 := Or.inl ⟨3, by decide +kernel, rfl, rfl⟩
theorem eX12_briefOf_29 : aIc_ge cX12_briefOf 29 32 59 := ⟨30, by decide +kernel, rfl, by decide⟩
theorem eX12_briefOf_32 : aAL cX12_briefOf 32 0 33 := Or.inl ⟨0, by decide +kernel, rfl, rfl⟩
theorem eX12_briefOf_33 : aI3 cX12_briefOf 33 (.getfield 28) 36 := ⟨by decide +kernel, rfl⟩
theorem eX12_briefOf_36 : aIL cX12_briefOf 36 5 38 := Or.inr ⟨by decide +kernel, rfl⟩
theorem eX12_briefOf_38 : aIL cX12_briefOf 38 4 40 := Or.inr ⟨by decide +kernel, rfl⟩
theorem eX12_briefOf_40 : aPI cX12_briefOf 40 (nI 3) 41 := Or.inl ⟨3, by decide +kernel, by decide +kernel, rfl⟩
theorem eX12_briefOf_41 : aIL cX12_briefOf 41 3 42 := Or.inl ⟨3, by decide +kernel, rfl, rfl⟩
theorem eX12_briefOf_42 : aPI cX12_briefOf 42 (nI 1) 43 := Or.inl ⟨1, by decide +kernel, by decide +kernel, rfl⟩
theorem eX12_briefOf_43 : aI1 cX12_briefOf 43 (.isub) 44 := ⟨by decide +kernel, rfl⟩
theorem eX12_briefOf_44 : aIL cX12_briefOf 44 5 46 := Or.inr ⟨by decide +kernel, rfl⟩
theorem eX12_briefOf_46 : aI1 cX12_briefOf 46 (.isub) 47 := ⟨by decide +kernel, rfl⟩
theorem eX12_briefOf_47 : aI1 cX12_briefOf 47 (.imul) 48 := ⟨by decide +kernel, rfl⟩
theorem eX12_briefOf_48 : aI1 cX12_briefOf 48 (.ishr) 49 := ⟨by decide +kernel, rfl⟩
theorem eX12_briefOf_49 : aPI cX12_briefOf 49 (nI 7) 51 := Or.inr (Or.inl ⟨7, by decide +kernel, by decide +kernel, rfl⟩)
theorem eX12_briefOf_51 : aI1 cX12_briefOf 51 (.iand) 52 := ⟨by decide +kernel, rfl⟩
theorem eX12_briefOf_52 : aI1 cX12_briefOf 52 (.iastore) 53 := ⟨by decide +kernel, rfl⟩
theorem eX12_briefOf_53 : aII cX12_briefOf 53 5 (nI 1) 56 := ⟨1, by decide +kernel, by decide +kernel, rfl⟩
theorem eX12_briefOf_56 : aGo cX12_briefOf 56 26 := ⟨(-30), by decide +kernel, by decide⟩
theorem eX12_briefOf_59 : aAL cX12_briefOf 59 0 60 := Or.inl ⟨0, by decide +kernel, rfl, rfl⟩
theorem eX12_briefOf_60 : aIL cX12_briefOf 60 3 61 := Or.inl ⟨3, by decide +kernel, rfl, rfl⟩
theorem eX12_briefOf_61 : aI3 cX12_briefOf 61 (.invokevirtual 156) 64 := ⟨by decide +kernel, rfl⟩
theorem eX12_briefOf_64 : aIf_eq cX12_briefOf 64 67 97 := ⟨33, by decide +kernel, rfl, by decide⟩
theorem eX12_briefOf_67 : aIL cX12_briefOf 67 1 68 := Or.inl ⟨1, by decide +kernel, rfl, rfl⟩
theorem eX12_briefOf_68 : aIf_ne cX12_briefOf 68 71 75 := ⟨7, by decide +kernel, rfl, by decide⟩
theorem eX12_briefOf_71 : aIL cX12_briefOf 71 3 72 := Or.inl ⟨3, by decide +kernel, rfl, rfl⟩
theorem eX12_briefOf_72 : aGo cX12_briefOf 72 96 := ⟨24, by decide +kernel, by decide⟩
theorem eX12_briefOf_75 : aIL cX12_briefOf 75 1 76 := Or.inl ⟨1, by decide +kernel, rfl, rfl⟩
theorem eX12_briefOf_76 : aPI cX12_briefOf 76 (nI 10) 78 := Or.inr (Or.inl ⟨10, by decide +kernel, by decide +kernel, rfl⟩)
theorem eX12_briefOf_78 : aI1 cX12_briefOf 78 (.isub) 79 := ⟨by decide +kernel, rfl⟩
theorem eX12_briefOf_79 : aIL cX12_briefOf 79 3 80 := Or.inl ⟨3, by decide +kernel, rfl, rfl⟩
theorem eX12_briefOf_80 : aIc_ge cX12_briefOf 80 83 95 := ⟨15, by decide +kernel, rfl, by decide⟩
theorem eX12_briefOf_83 : aAL cX12_briefOf 83 0 84 := Or.inl ⟨0, by decide +kernel, rfl, rfl⟩
theorem eX12_briefOf_84 : aI3 cX12_briefOf 84 (.getfield 28) 87 := ⟨by decide +kernel, rfl⟩
theorem eX12_briefOf_87 : aIL cX12_briefOf 87 1 88 := Or.inl ⟨1, by decide +kernel, rfl, rfl⟩
theorem eX12_briefOf_88 : aPI cX12_briefOf 88 (nI 10) 90 := Or.inr (Or.inl ⟨10, by decide +kernel, by decide +kernel, rfl⟩)
theorem eX12_briefOf_90 : aI1 cX12_briefOf 90 (.isub) 91 := ⟨by decide +kernel, rfl⟩
theorem eX12_briefOf_91 : aI1 cX12_briefOf 91 (.iaload) 92 := ⟨by decide +kernel, rfl⟩
theorem eX12_briefOf_92 : aGo cX12_briefOf 92 96 := ⟨4, by decide +kernel, by decide⟩
theorem eX12_briefOf_95 : aPI cX12_briefOf 95 (-1) 96 := Or.inl ⟨(-1), by decide +kernel, by decide +kernel, rfl⟩
theorem eX12_briefOf_96 : ∀ x : Int32, aRet cX12_briefOf (some .int) 96 (some (.int x)) := fun x => Or.inr (Or.inl ⟨x, _, rfl, rfl, rfl, by decide +kernel⟩)
theorem eX12_briefOf_97 : aII cX12_briefOf 97 4 (nI 1) 100 := ⟨1, by decide +kernel, by decide +kernel, rfl⟩
theorem eX12_briefOf_100 : aGo cX12_briefOf 100 17 := ⟨(-83), by decide +kernel, by decide⟩
theorem eX12_briefOf_103 : aII cX12_briefOf 103 3 (nI 1) 106 := ⟨1, by decide +kernel, by decide +kernel, rfl⟩
theorem eX12_briefOf_106 : aGo cX12_briefOf 106 4 := ⟨(-102), by decide +kernel, by decide⟩
theorem eX12_briefOf_109 : aPI cX12_briefOf 109 (-1) 110 := Or.inl ⟨(-1), by decide +kernel, by decide +kernel, rfl⟩
theorem eX12_briefOf_110 : ∀ x : Int32, aRet cX12_briefOf (some .int) 110 (some (.int x)) := fun x => Or.inr (Or.inl ⟨x, _, rfl, rfl, rfl, by decide +kernel⟩)
theorem eX12_brief_0 : aIL cX12_brief 0 1 1 := Or.inl ⟨1, by decide +kernel, rfl, rfl⟩
theorem eX12_brief_1 : aIf_eq cX12_brief 1 4 21 := ⟨20, by decide +kernel, rfl, by decide⟩
theorem eX12_brief_4 : aIL cX12_brief 4 1 5 := Or.inl ⟨1, by decide +kernel, rfl, rfl⟩
theorem eX12_brief_5 : aI1 cX12_brief 5 (.i2l) 6 := ⟨by decide +kernel, rfl⟩
theorem eX12_brief_6 : aI3 cX12_brief 6 (.ldc2_w 115) 9 := ⟨by decide +kernel, rfl⟩
theorem eX12_brief_9 : aI3 cX12_brief 9 (.ldc2_w 159) 12 := ⟨by decide +kernel, rfl⟩
theorem eX12_brief_12 : aI3 cX12_brief 12 (.invokestatic 58) 15 := ⟨by decide +kernel, rfl⟩
theorem eX12_brief_15 : aIf_ne cX12_brief 15 18 21 := ⟨6, by decide +kernel, rfl, by decide⟩
theorem eX12_brief_18 : aPI cX12_brief 18 (-102) 20 := Or.inr (Or.inl ⟨(-102), by decide +kernel, by decide +kernel, rfl⟩)
theorem eX12_brief_20 : ∀ x : Int32, aRet cX12_brief (some .int) 20 (some (.int x)) := fun x => Or.inr (Or.inl ⟨x, _, rfl, rfl, rfl, by decide +kernel⟩)
theorem eX12_brief_21 : aAL cX12_brief 21 0 22 := Or.inl ⟨0, by decide +kernel, rfl, rfl⟩
theorem eX12_brief_22 : aI3 cX12_brief 22 (.invokevirtual 106) 25 := ⟨by decide +kernel, rfl⟩
theorem eX12_brief_25 : aIf_ne cX12_brief 25 28 37 := ⟨12, by decide +kernel, rfl, by decide⟩
theorem eX12_brief_28 : aAL cX12_brief 28 0 29 := Or.inl ⟨0, by decide +kernel, rfl, rfl⟩
theorem eX12_brief_29 : aI3 cX12_brief 29 (.getfield 161) 32 := ⟨by decide +kernel, rfl⟩
theorem eX12_brief_32 : aPI cX12_brief 32 (nI 30) 34 := Or.inr (Or.inl ⟨30, by decide +kernel, by decide +kernel, rfl⟩)
theorem eX12_brief_34 : aIc_ne cX12_brief 34 37 40 := ⟨6, by decide +kernel, rfl, by decide⟩
theorem eX12_brief_37 : aPI cX12_brief 37 (-103) 39 := Or.inr (Or.inl ⟨(-103), by decide +kernel, by decide +kernel, rfl⟩)
theorem eX12_brief_39 : ∀ x : Int32, aRet cX12_brief (some .int) 39 (some (.int x)) := fun x => Or.inr (Or.inl ⟨x, _, rfl, rfl, rfl, by decide +kernel⟩)
theorem eX12_brief_40 : aAL cX12_brief 40 0 41 := Or.inl ⟨0, by decide +kernel, rfl, rfl⟩
theorem eX12_brief_41 : aI1 cX12_brief 41 (.dup) 42 := ⟨by decide +kernel, rfl⟩
theorem eX12_brief_42 : aI3 cX12_brief 42 (.getfield 161) 45 := ⟨by decide +kernel, rfl⟩
theorem eX12_brief_45 : aPI cX12_brief 45 (nI 1) 46 := Or.inl ⟨1, by decide +kernel, by decide +kernel, rfl⟩
theorem eX12_brief_46 : aI1 cX12_brief 46 (.iadd) 47 := ⟨by decide +kernel, rfl⟩
theorem eX12_brief_47 : aI3 cX12_brief 47 (.putfield 161) 50 := ⟨by decide +kernel, rfl⟩
theorem eX12_brief_50 : aAL cX12_brief 50 0 51 := Or.inl ⟨0, by decide +kernel, rfl, rfl⟩
theorem eX12_brief_51 : aIL cX12_brief 51 1 52 := Or.inl ⟨1, by decide +kernel, rfl, rfl⟩
theorem eX12_brief_52 : aI3 cX12_brief 52 (.invokevirtual 164) 55 := ⟨by decide +kernel, rfl⟩
theorem eX12_brief_55 : ∀ x : Int32, aRet cX12_brief (some .int) 55 (some (.int x)) := fun x => Or.inr (Or.inl ⟨x, _, rfl, rfl, rfl, by decide +kernel⟩)
theorem eX12_hideOf_0 : aPI cX12_hideOf 0 (-1) 1 := Or.inl ⟨(-1), by decide +kernel, by decide +kernel, rfl⟩
theorem eX12_hideOf_1 : aIS cX12_hideOf 1 4 3 := Or.inr ⟨by decide +kernel, rfl⟩
theorem eX12_hideOf_3 : aPI cX12_hideOf 3 (nI 11) 5 := Or.inr (Or.inl ⟨11, by decide +kernel, by decide +kernel, rfl⟩)
theorem eX12_hideOf_5 : aIS cX12_hideOf 5 5 7 := Or.inr ⟨by decide +kernel, rfl⟩
theorem eX12_hideOf_7 : aPI cX12_hideOf 7 (nI 0) 8 := Or.inl ⟨0, by decide +kernel, by decide +kernel, rfl⟩
theorem eX12_hideOf_8 : aIS cX12_hideOf 8 6 10 := Or.inr ⟨by decide +kernel, rfl⟩
theorem eX12_hideOf_10 : aIL cX12_hideOf 10 6 12 := Or.inr ⟨by decide +kernel, rfl⟩
theorem eX12_hideOf_12 : aPI cX12_hideOf 12 (nI 256) 15 := Or.inr (Or.inr ⟨256, by decide +kernel, by decide +kernel, rfl⟩)
theorem eX12_hideOf_15 : aIc_ge cX12_hideOf 15 18 117 := ⟨102, by decide +kernel, rfl, by decide⟩
theorem eX12_hideOf_18 : aAL cX12_hideOf 18 0 19 := Or.inl ⟨0, by decide +kernel, rfl, rfl⟩
theorem eX12_hideOf_19 : aAL cX12_hideOf 19 0 20 := Or.inl ⟨0, by decide +kernel, rfl, rfl⟩
theorem eX12_hideOf_20 : aI3 cX12_hideOf 20 (.getfield 25) 23 := ⟨by decide +kernel, rfl⟩
theorem eX12_hideOf_23 : aPI cX12_hideOf 23 (nI 3) 24 := Or.inl ⟨3, by decide +kernel, by decide +kernel, rfl⟩
theorem eX12_hideOf_24 : aIL cX12_hideOf 24 1 25 := Or.inl ⟨1, by decide +kernel, rfl, rfl⟩
theorem eX12_hideOf_25 : aI1 cX12_hideOf 25 (.imul) 26 := ⟨by decide +kernel, rfl⟩
theorem eX12_hideOf_26 : aI1 cX12_hideOf 26 (.iaload) 27 := ⟨by decide +kernel, rfl⟩
theorem eX12_hideOf_27 : aAL cX12_hideOf 27 0 28 := Or.inl ⟨0, by decide +kernel, rfl, rfl⟩
theorem eX12_hideOf_28 : aI3 cX12_hideOf 28 (.getfield 25) 31 := ⟨by decide +kernel, rfl⟩
theorem eX12_hideOf_31 : aPI cX12_hideOf 31 (nI 3) 32 := Or.inl ⟨3, by decide +kernel, by decide +kernel, rfl⟩
theorem eX12_hideOf_32 : aIL cX12_hideOf 32 1 33 := Or.inl ⟨1, by decide +kernel, rfl, rfl⟩
theorem eX12_hideOf_33 : aI1 cX12_hideOf 33 (.imul) 34 := ⟨by decide +kernel, rfl⟩
theorem eX12_hideOf_34 : aPI cX12_hideOf 34 (nI 1) 35 := Or.inl ⟨1, by decide +kernel, by decide +kernel, rfl⟩
theorem eX12_hideOf_35 : aI1 cX12_hideOf 35 (.iadd) 36 := ⟨by decide +kernel, rfl⟩
theorem eX12_hideOf_36 : aI1 cX12_hideOf 36 (.iaload) 37 := ⟨by decide +kernel, rfl⟩
theorem eX12_hideOf_37 : aIL cX12_hideOf 37 6 39 := Or.inr ⟨by decide +kernel, rfl⟩
theorem eX12_hideOf_39 : aAL cX12_hideOf 39 0 40 := Or.inl ⟨0, by decide +kernel, rfl, rfl⟩
theorem eX12_hideOf_40 : aI3 cX12_hideOf 40 (.getfield 22) 43 := ⟨by decide +kernel, rfl⟩
theorem eX12_hideOf_43 : aAL cX12_hideOf 43 0 44 := Or.inl ⟨0, by decide +kernel, rfl, rfl⟩
theorem eX12_hideOf_44 : aI3 cX12_hideOf 44 (.getfield 84) 47 := ⟨by decide +kernel, rfl⟩
theorem eX12_hideOf_47 : aI3 cX12_hideOf 47 (.invokevirtual 129) 50 := ⟨by decide +kernel, rfl⟩
theorem eX12_hideOf_50 : aI3 cX12_hideOf 50 (.invokestatic 137) 53 := ⟨by decide +kernel, rfl⟩
theorem eX12_hideOf_53 : aIS cX12_hideOf 53 7 55 := Or.inr ⟨by decide +kernel, rfl⟩
theorem eX12_hideOf_55 : aIL cX12_hideOf 55 7 57 := Or.inr ⟨by decide +kernel, rfl⟩
theorem eX12_hideOf_57 : aIL cX12_hideOf 57 5 59 := Or.inr ⟨by decide +kernel, rfl⟩
theorem eX12_hideOf_59 : aIc_lt cX12_hideOf 59 62 82 := ⟨23, by decide +kernel, rfl, by decide⟩
theorem eX12_hideOf_62 : aIL cX12_hideOf 62 7 64 := Or.inr ⟨by decide +kernel, rfl⟩
theorem eX12_hideOf_64 : aIL cX12_hideOf 64 5 66 := Or.inr ⟨by decide +kernel, rfl⟩
theorem eX12_hideOf_66 : aIc_ne cX12_hideOf 66 69 86 := ⟨20, by decide +kernel, rfl, by decide⟩
theorem eX12_hideOf_69 : aIL cX12_hideOf 69 6 71 := Or.inr ⟨by decide +kernel, rfl⟩
theorem eX12_hideOf_71 : aI3 cX12_hideOf 71 (.invokestatic 137) 74 := ⟨by decide +kernel, rfl⟩
theorem eX12_hideOf_74 : aIL cX12_hideOf 74 4 76 := Or.inr ⟨by decide +kernel, rfl⟩
theorem eX12_hideOf_76 : aI3 cX12_hideOf 76 (.invokestatic 137) 79 := ⟨by decide +kernel, rfl⟩
theorem eX12_hideOf_79 : aIc_ge cX12_hideOf 79 82 86 := ⟨7, by decide +kernel, rfl, by decide⟩
theorem eX12_hideOf_82 : aPI cX12_hideOf 82 (nI 1) 83 := Or.inl ⟨1, by decide +kernel, by decide +kernel, rfl⟩
theorem eX12_hideOf_83 : aGo cX12_hideOf 83 87 := ⟨4, by decide +kernel, by decide⟩
theorem eX12_hideOf_86 : aPI cX12_hideOf 86 (nI 0) 87 := Or.inl ⟨0, by decide +kernel, by decide +kernel, rfl⟩
theorem eX12_hideOf_87 : aIS cX12_hideOf 87 8 89 := Or.inr ⟨by decide +kernel, rfl⟩
theorem eX12_hideOf_89 : aIL cX12_hideOf 89 6 91 := Or.inr ⟨by decide +kernel, rfl⟩
theorem eX12_hideOf_91 : aI3 cX12_hideOf 91 (.invokestatic 137) 94 := ⟨by decide +kernel, rfl⟩
theorem eX12_hideOf_94 : aIL cX12_hideOf 94 2 95 := Or.inl ⟨2, by decide +kernel, rfl, rfl⟩
theorem eX12_hideOf_95 : aIc_gt cX12_hideOf 95 98 111 := ⟨16, by decide +kernel, rfl, by decide⟩
theorem eX12_hideOf_98 : aIL cX12_hideOf 98 8 100 := Or.inr ⟨by decide +kernel, rfl⟩
theorem eX12_hideOf_100 : aIf_eq cX12_hideOf 100 103 111 := ⟨11, by decide +kernel, rfl, by decide⟩
theorem eX12_hideOf_103 : aIL cX12_hideOf 103 6 105 := Or.inr ⟨by decide +kernel, rfl⟩
theorem eX12_hideOf_105 : aIS cX12_hideOf 105 4 107 := Or.inr ⟨by decide +kernel, rfl⟩
theorem eX12_hideOf_107 : aIL cX12_hideOf 107 7 109 := Or.inr ⟨by decide +kernel, rfl⟩
theorem eX12_hideOf_109 : aIS cX12_hideOf 109 5 111 := Or.inr ⟨by decide +kernel, rfl⟩
theorem eX12_hideOf_111 : aII cX12_hideOf 111 6 (nI 1) 114 := ⟨1, by decide +kernel, by decide +kernel, rfl⟩
theorem eX12_hideOf_114 : aGo cX12_hideOf 114 10 := ⟨(-104), by decide +kernel, by decide⟩
theorem eX12_hideOf_117 : aIL cX12_hideOf 117 3 118 := Or.inl ⟨3, by decide +kernel, rfl, rfl⟩
theorem eX12_hideOf_118 : aIf_ne cX12_hideOf 118 121 126 := ⟨8, by decide +kernel, rfl, by decide⟩
theorem eX12_hideOf_121 : aIL cX12_hideOf 121 4 123 := Or.inr ⟨by decide +kernel, rfl⟩
theorem eX12_hideOf_123 : aGo cX12_hideOf 123 128 := ⟨5, by decide +kernel, by decide⟩
theorem eX12_hideOf_126 : aIL cX12_hideOf 126 5 128 := Or.inr ⟨by decide +kernel, rfl⟩
theorem eX12_hideOf_128 : ∀ x : Int32, aRet cX12_hideOf (some .int) 128 (some (.int x)) := fun x => Or.inr (Or.inl ⟨x, _, rfl, rfl, rfl, by decide +kernel⟩)
theorem eX12_hide_0 : aAL cX12_hide 0 0 1 := Or.inl ⟨0, by decide +kernel, rfl, rfl⟩
theorem eX12_hide_1 : aIL cX12_hide 1 1 2 := Or.inl ⟨1, by decide +kernel, rfl, rfl⟩
theorem eX12_hide_2 : aI3 cX12_hide 2 (.invokevirtual 149) 5 := ⟨by decide +kernel, rfl⟩
theorem eX12_hide_5 : aIf_ne cX12_hide 5 8 11 := ⟨6, by decide +kernel, rfl, by decide⟩
theorem eX12_hide_8 : aPI cX12_hide 8 (-101) 10 := Or.inr (Or.inl ⟨(-101), by decide +kernel, by decide +kernel, rfl⟩)
theorem eX12_hide_10 : ∀ x : Int32, aRet cX12_hide (some .int) 10 (some (.int x)) := fun x => Or.inr (Or.inl ⟨x, _, rfl, rfl, rfl, by decide +kernel⟩)
theorem eX12_hide_11 : aIL cX12_hide 11 2 12 := Or.inl ⟨2, by decide +kernel, rfl, rfl⟩
theorem eX12_hide_12 : aI1 cX12_hide 12 (.i2l) 13 := ⟨by decide +kernel, rfl⟩
theorem eX12_hide_13 : aI1 cX12_hide 13 (.lconst 0) 14 := ⟨by decide +kernel, rfl⟩
theorem eX12_hide_14 : aI3 cX12_hide 14 (.ldc2_w 167) 17 := ⟨by decide +kernel, rfl⟩
theorem eX12_hide_17 : aI3 cX12_hide 17 (.invokestatic 58) 20 := ⟨by decide +kernel, rfl⟩
theorem eX12_hide_20 : aIf_eq cX12_hide 20 23 43 := ⟨23, by decide +kernel, rfl, by decide⟩
theorem eX12_hide_23 : aIL cX12_hide 23 3 24 := Or.inl ⟨3, by decide +kernel, rfl, rfl⟩
theorem eX12_hide_24 : aI1 cX12_hide 24 (.i2l) 25 := ⟨by decide +kernel, rfl⟩
theorem eX12_hide_25 : aI1 cX12_hide 25 (.lconst 0) 26 := ⟨by decide +kernel, rfl⟩
theorem eX12_hide_26 : aI1 cX12_hide 26 (.lconst 1) 27 := ⟨by decide +kernel, rfl⟩
theorem eX12_hide_27 : aI3 cX12_hide 27 (.invokestatic 58) 30 := ⟨by decide +kernel, rfl⟩
theorem eX12_hide_30 : aIf_eq cX12_hide 30 33 43 := ⟨13, by decide +kernel, rfl, by decide⟩
theorem eX12_hide_33 : aAL cX12_hide 33 0 34 := Or.inl ⟨0, by decide +kernel, rfl, rfl⟩
theorem eX12_hide_34 : aIL cX12_hide 34 1 35 := Or.inl ⟨1, by decide +kernel, rfl, rfl⟩
theorem eX12_hide_35 : aIL cX12_hide 35 2 36 := Or.inl ⟨2, by decide +kernel, rfl, rfl⟩
theorem eX12_hide_36 : aIL cX12_hide 36 3 37 := Or.inl ⟨3, by decide +kernel, rfl, rfl⟩
theorem eX12_hide_37 : aI3 cX12_hide 37 (.invokevirtual 169) 40 := ⟨by decide +kernel, rfl⟩
theorem eX12_hide_40 : aGo cX12_hide 40 45 := ⟨5, by decide +kernel, by decide⟩
theorem eX12_hide_43 : aPI cX12_hide 43 (-102) 45 := Or.inr (Or.inl ⟨(-102), by decide +kernel, by decide +kernel, rfl⟩)
theorem eX12_hide_45 : ∀ x : Int32, aRet cX12_hide (some .int) 45 (some (.int x)) := fun x => Or.inr (Or.inl ⟨x, _, rfl, rfl, rfl, by decide +kernel⟩)
theorem eX12_hear_0 : aAL cX12_hear 0 0 1 := Or.inl ⟨0, by decide +kernel, rfl, rfl⟩
theorem eX12_hear_1 : aIL cX12_hear 1 1 2 := Or.inl ⟨1, by decide +kernel, rfl, rfl⟩
theorem eX12_hear_2 : aI3 cX12_hear 2 (.invokevirtual 149) 5 := ⟨by decide +kernel, rfl⟩
theorem eX12_hear_5 : aIf_eq cX12_hear 5 8 16 := ⟨11, by decide +kernel, rfl, by decide⟩
theorem eX12_hear_8 : aAL cX12_hear 8 0 9 := Or.inl ⟨0, by decide +kernel, rfl, rfl⟩
theorem eX12_hear_9 : aIL cX12_hear 9 2 10 := Or.inl ⟨2, by decide +kernel, rfl, rfl⟩
theorem eX12_hear_10 : aI3 cX12_hear 10 (.invokevirtual 112) 13 := ⟨by decide +kernel, rfl⟩
theorem eX12_hear_13 : aIf_ne cX12_hear 13 16 19 := ⟨6, by decide +kernel, rfl, by decide⟩
theorem eX12_hear_16 : aPI cX12_hear 16 (-101) 18 := Or.inr (Or.inl ⟨(-101), by decide +kernel, by decide +kernel, rfl⟩)
theorem eX12_hear_18 : ∀ x : Int32, aRet cX12_hear (some .int) 18 (some (.int x)) := fun x => Or.inr (Or.inl ⟨x, _, rfl, rfl, rfl, by decide +kernel⟩)
theorem eX12_hear_19 : aAL cX12_hear 19 0 20 := Or.inl ⟨0, by decide +kernel, rfl, rfl⟩
theorem eX12_hear_20 : aI3 cX12_hear 20 (.getfield 100) 23 := ⟨by decide +kernel, rfl⟩
theorem eX12_hear_23 : aPI cX12_hear 23 (nI 8) 25 := Or.inr (Or.inl ⟨8, by decide +kernel, by decide +kernel, rfl⟩)
theorem eX12_hear_25 : aIc_ne cX12_hear 25 28 31 := ⟨6, by decide +kernel, rfl, by decide⟩
theorem eX12_hear_28 : aPI cX12_hear 28 (-104) 30 := Or.inr (Or.inl ⟨(-104), by decide +kernel, by decide +kernel, rfl⟩)
theorem eX12_hear_30 : ∀ x : Int32, aRet cX12_hear (some .int) 30 (some (.int x)) := fun x => Or.inr (Or.inl ⟨x, _, rfl, rfl, rfl, by decide +kernel⟩)
theorem eX12_hear_31 : aPI cX12_hear 31 (nI 5) 32 := Or.inl ⟨5, by decide +kernel, by decide +kernel, rfl⟩
theorem eX12_hear_32 : aAL cX12_hear 32 0 33 := Or.inl ⟨0, by decide +kernel, rfl, rfl⟩
theorem eX12_hear_33 : aI3 cX12_hear 33 (.getfield 100) 36 := ⟨by decide +kernel, rfl⟩
theorem eX12_hear_36 : aI1 cX12_hear 36 (.imul) 37 := ⟨by decide +kernel, rfl⟩
theorem eX12_hear_37 : aIS cX12_hear 37 4 39 := Or.inr ⟨by decide +kernel, rfl⟩
theorem eX12_hear_39 : aAL cX12_hear 39 0 40 := Or.inl ⟨0, by decide +kernel, rfl, rfl⟩
theorem eX12_hear_40 : aI3 cX12_hear 40 (.getfield 34) 43 := ⟨by decide +kernel, rfl⟩
theorem eX12_hear_43 : aIL cX12_hear 43 4 45 := Or.inr ⟨by decide +kernel, rfl⟩
theorem eX12_hear_45 : aIL cX12_hear 45 1 46 := Or.inl ⟨1, by decide +kernel, rfl, rfl⟩
theorem eX12_hear_46 : aI1 cX12_hear 46 (.iastore) 47 := ⟨by decide +kernel, rfl⟩
theorem eX12_hear_47 : aAL cX12_hear 47 0 48 := Or.inl ⟨0, by decide +kernel, rfl, rfl⟩
theorem eX12_hear_48 : aI3 cX12_hear 48 (.getfield 34) 51 := ⟨by decide +kernel, rfl⟩
theorem eX12_hear_51 : aIL cX12_hear 51 4 53 := Or.inr ⟨by decide +kernel, rfl⟩
theorem eX12_hear_53 : aPI cX12_hear 53 (nI 1) 54 := Or.inl ⟨1, by decide +kernel, by decide +kernel, rfl⟩
theorem eX12_hear_54 : aI1 cX12_hear 54 (.iadd) 55 := ⟨by decide +kernel, rfl⟩
theorem eX12_hear_55 : aIL cX12_hear 55 2 56 := Or.inl ⟨2, by decide +kernel, rfl, rfl⟩
theorem eX12_hear_56 : aI1 cX12_hear 56 (.iastore) 57 := ⟨by decide +kernel, rfl⟩
theorem eX12_hear_57 : aAL cX12_hear 57 0 58 := Or.inl ⟨0, by decide +kernel, rfl, rfl⟩
theorem eX12_hear_58 : aI3 cX12_hear 58 (.getfield 34) 61 := ⟨by decide +kernel, rfl⟩
theorem eX12_hear_61 : aIL cX12_hear 61 4 63 := Or.inr ⟨by decide +kernel, rfl⟩
theorem eX12_hear_63 : aPI cX12_hear 63 (nI 2) 64 := Or.inl ⟨2, by decide +kernel, by decide +kernel, rfl⟩
theorem eX12_hear_64 : aI1 cX12_hear 64 (.iadd) 65 := ⟨by decide +kernel, rfl⟩
theorem eX12_hear_65 : aIL cX12_hear 65 3 66 := Or.inl ⟨3, by decide +kernel, rfl, rfl⟩
theorem eX12_hear_66 : aIf_eq cX12_hear 66 69 73 := ⟨7, by decide +kernel, rfl, by decide⟩
theorem eX12_hear_69 : aPI cX12_hear 69 (nI 1) 70 := Or.inl ⟨1, by decide +kernel, by decide +kernel, rfl⟩
theorem eX12_hear_70 : aGo cX12_hear 70 74 := ⟨4, by decide +kernel, by decide⟩
theorem eX12_hear_73 : aPI cX12_hear 73 (nI 0) 74 := Or.inl ⟨0, by decide +kernel, by decide +kernel, rfl⟩
theorem eX12_hear_74 : aI1 cX12_hear 74 (.iastore) 75 := ⟨by decide +kernel, rfl⟩
theorem eX12_hear_75 : aAL cX12_hear 75 0 76 := Or.inl ⟨0, by decide +kernel, rfl, rfl⟩
theorem eX12_hear_76 : aI3 cX12_hear 76 (.getfield 34) 79 := ⟨by decide +kernel, rfl⟩
theorem eX12_hear_79 : aIL cX12_hear 79 4 81 := Or.inr ⟨by decide +kernel, rfl⟩
theorem eX12_hear_81 : aPI cX12_hear 81 (nI 3) 82 := Or.inl ⟨3, by decide +kernel, by decide +kernel, rfl⟩
theorem eX12_hear_82 : aI1 cX12_hear 82 (.iadd) 83 := ⟨by decide +kernel, rfl⟩
theorem eX12_hear_83 : aAL cX12_hear 83 0 84 := Or.inl ⟨0, by decide +kernel, rfl, rfl⟩
theorem eX12_hear_84 : aI3 cX12_hear 84 (.getfield 25) 87 := ⟨by decide +kernel, rfl⟩
theorem eX12_hear_87 : aPI cX12_hear 87 (nI 3) 88 := Or.inl ⟨3, by decide +kernel, by decide +kernel, rfl⟩
theorem eX12_hear_88 : aIL cX12_hear 88 1 89 := Or.inl ⟨1, by decide +kernel, rfl, rfl⟩
theorem eX12_hear_89 : aI1 cX12_hear 89 (.imul) 90 := ⟨by decide +kernel, rfl⟩
theorem eX12_hear_90 : aPI cX12_hear 90 (nI 2) 91 := Or.inl ⟨2, by decide +kernel, by decide +kernel, rfl⟩
theorem eX12_hear_91 : aI1 cX12_hear 91 (.iadd) 92 := ⟨by decide +kernel, rfl⟩
theorem eX12_hear_92 : aI1 cX12_hear 92 (.iaload) 93 := ⟨by decide +kernel, rfl⟩
theorem eX12_hear_93 : aI1 cX12_hear 93 (.iastore) 94 := ⟨by decide +kernel, rfl⟩
theorem eX12_hear_94 : aAL cX12_hear 94 0 95 := Or.inl ⟨0, by decide +kernel, rfl, rfl⟩
theorem eX12_hear_95 : aI3 cX12_hear 95 (.getfield 34) 98 := ⟨by decide +kernel, rfl⟩
theorem eX12_hear_98 : aIL cX12_hear 98 4 100 := Or.inr ⟨by decide +kernel, rfl⟩
theorem eX12_hear_100 : aPI cX12_hear 100 (nI 4) 101 := Or.inl ⟨4, by decide +kernel, by decide +kernel, rfl⟩
theorem eX12_hear_101 : aI1 cX12_hear 101 (.iadd) 102 := ⟨by decide +kernel, rfl⟩
theorem eX12_hear_102 : aPI cX12_hear 102 (nI 0) 103 := Or.inl ⟨0, by decide +kernel, by decide +kernel, rfl⟩
theorem eX12_hear_103 : aI1 cX12_hear 103 (.iastore) 104 := ⟨by decide +kernel, rfl⟩
theorem eX12_hear_104 : aAL cX12_hear 104 0 105 := Or.inl ⟨0, by decide +kernel, rfl, rfl⟩
theorem eX12_hear_105 : aI3 cX12_hear 105 (.getfield 84) 108 := ⟨by decide +kernel, rfl⟩
theorem eX12_hear_108 : aPI cX12_hear 108 (nI 1) 109 := Or.inl ⟨1, by decide +kernel, by decide +kernel, rfl⟩
theorem eX12_hear_109 : aI1 cX12_hear 109 (.isub) 110 := ⟨by decide +kernel, rfl⟩
theorem eX12_hear_110 : aIS cX12_hear 110 5 112 := Or.inr ⟨by decide +kernel, rfl⟩
theorem eX12_hear_112 : aIL cX12_hear 112 5 114 := Or.inr ⟨by decide +kernel, rfl⟩
theorem eX12_hear_114 : aIf_lt cX12_hear 114 117 152 := ⟨38, by decide +kernel, rfl, by decide⟩
theorem eX12_hear_117 : aAL cX12_hear 117 0 118 := Or.inl ⟨0, by decide +kernel, rfl, rfl⟩
theorem eX12_hear_118 : aI3 cX12_hear 118 (.getfield 34) 121 := ⟨by decide +kernel, rfl⟩
theorem eX12_hear_121 : aIL cX12_hear 121 4 123 := Or.inr ⟨by decide +kernel, rfl⟩
theorem eX12_hear_123 : aPI cX12_hear 123 (nI 4) 124 := Or.inl ⟨4, by decide +kernel, by decide +kernel, rfl⟩
theorem eX12_hear_124 : aI1 cX12_hear 124 (.iadd) 125 := ⟨by decide +kernel, rfl⟩
theorem eX12_hear_125 : aPI cX12_hear 125 (nI 8) 127 := Or.inr (Or.inl ⟨8, by decide +kernel, by decide +kernel, rfl⟩)
theorem eX12_hear_127 : aAL cX12_hear 127 0 128 := Or.inl ⟨0, by decide +kernel, rfl, rfl⟩
theorem eX12_hear_128 : aI3 cX12_hear 128 (.getfield 34) 131 := ⟨by decide +kernel, rfl⟩
theorem eX12_hear_131 : aIL cX12_hear 131 4 133 := Or.inr ⟨by decide +kernel, rfl⟩
theorem eX12_hear_133 : aPI cX12_hear 133 (nI 4) 134 := Or.inl ⟨4, by decide +kernel, by decide +kernel, rfl⟩
theorem eX12_hear_134 : aI1 cX12_hear 134 (.iadd) 135 := ⟨by decide +kernel, rfl⟩
theorem eX12_hear_135 : aI1 cX12_hear 135 (.iaload) 136 := ⟨by decide +kernel, rfl⟩
theorem eX12_hear_136 : aI1 cX12_hear 136 (.imul) 137 := ⟨by decide +kernel, rfl⟩
theorem eX12_hear_137 : aAL cX12_hear 137 0 138 := Or.inl ⟨0, by decide +kernel, rfl, rfl⟩
theorem eX12_hear_138 : aI3 cX12_hear 138 (.getfield 22) 141 := ⟨by decide +kernel, rfl⟩
theorem eX12_hear_141 : aIL cX12_hear 141 5 143 := Or.inr ⟨by decide +kernel, rfl⟩
theorem eX12_hear_143 : aI1 cX12_hear 143 (.iaload) 144 := ⟨by decide +kernel, rfl⟩
theorem eX12_hear_144 : aI1 cX12_hear 144 (.iadd) 145 := ⟨by decide +kernel, rfl⟩
theorem eX12_hear_145 : aI1 cX12_hear 145 (.iastore) 146 := ⟨by decide +kernel, rfl⟩
theorem eX12_hear_146 : aII cX12_hear 146 5 (-1) 149 := ⟨(-1), by decide +kernel, by decide +kernel, rfl⟩
theorem eX12_hear_149 : aGo cX12_hear 149 112 := ⟨(-37), by decide +kernel, by decide⟩
theorem eX12_hear_152 : aAL cX12_hear 152 0 153 := Or.inl ⟨0, by decide +kernel, rfl, rfl⟩
theorem eX12_hear_153 : aI1 cX12_hear 153 (.dup) 154 := ⟨by decide +kernel, rfl⟩
theorem eX12_hear_154 : aI3 cX12_hear 154 (.getfield 100) 157 := ⟨by decide +kernel, rfl⟩
theorem eX12_hear_157 : aPI cX12_hear 157 (nI 1) 158 := Or.inl ⟨1, by decide +kernel, by decide +kernel, rfl⟩
theorem eX12_hear_158 : aI1 cX12_hear 158 (.iadd) 159 := ⟨by decide +kernel, rfl⟩
theorem eX12_hear_159 : aI3 cX12_hear 159 (.putfield 100) 162 := ⟨by decide +kernel, rfl⟩
theorem eX12_hear_162 : aAL cX12_hear 162 0 163 := Or.inl ⟨0, by decide +kernel, rfl, rfl⟩
theorem eX12_hear_163 : aI3 cX12_hear 163 (.getfield 100) 166 := ⟨by decide +kernel, rfl⟩
theorem eX12_hear_166 : ∀ x : Int32, aRet cX12_hear (some .int) 166 (some (.int x)) := fun x => Or.inr (Or.inl ⟨x, _, rfl, rfl, rfl, by decide +kernel⟩)
theorem eX12_forget_0 : aAL cX12_forget 0 0 1 := Or.inl ⟨0, by decide +kernel, rfl, rfl⟩
theorem eX12_forget_1 : aI3 cX12_forget 1 (.getfield 100) 4 := ⟨by decide +kernel, rfl⟩
theorem eX12_forget_4 : aIS cX12_forget 4 1 5 := Or.inl ⟨1, by decide +kernel, rfl, rfl⟩
theorem eX12_forget_5 : aAL cX12_forget 5 0 6 := Or.inl ⟨0, by decide +kernel, rfl, rfl⟩
theorem eX12_forget_6 : aPI cX12_forget 6 (nI 0) 7 := Or.inl ⟨0, by decide +kernel, by decide +kernel, rfl⟩
theorem eX12_forget_7 : aI3 cX12_forget 7 (.putfield 100) 10 := ⟨by decide +kernel, rfl⟩
theorem eX12_forget_10 : aIL cX12_forget 10 1 11 := Or.inl ⟨1, by decide +kernel, rfl, rfl⟩
theorem eX12_forget_11 : ∀ x : Int32, aRet cX12_forget (some .int) 11 (some (.int x)) := fun x => Or.inr (Or.inl ⟨x, _, rfl, rfl, rfl, by decide +kernel⟩)
theorem eX12_isHeard_0 : aAL cX12_isHeard 0 0 1 := Or.inl ⟨0, by decide +kernel, rfl, rfl⟩
theorem eX12_isHeard_1 : aI3 cX12_isHeard 1 (.getfield 34) 4 := ⟨by decide +kernel, rfl⟩
theorem eX12_isHeard_4 : aIL cX12_isHeard 4 1 5 := Or.inl ⟨1, by decide +kernel, rfl, rfl⟩
theorem eX12_isHeard_5 : aPI cX12_isHeard 5 (nI 4) 6 := Or.inl ⟨4, by decide +kernel, by decide +kernel, rfl⟩
theorem eX12_isHeard_6 : aI1 cX12_isHeard 6 (.iadd) 7 := ⟨by decide +kernel, rfl⟩
theorem eX12_isHeard_7 : aI1 cX12_isHeard 7 (.iaload) 8 := ⟨by decide +kernel, rfl⟩
theorem eX12_isHeard_8 : aIS cX12_isHeard 8 4 10 := Or.inr ⟨by decide +kernel, rfl⟩
theorem eX12_isHeard_10 : aPI cX12_isHeard 10 (nI 0) 11 := Or.inl ⟨0, by decide +kernel, by decide +kernel, rfl⟩
theorem eX12_isHeard_11 : aIS cX12_isHeard 11 5 13 := Or.inr ⟨by decide +kernel, rfl⟩
theorem eX12_isHeard_13 : aIL cX12_isHeard 13 5 15 := Or.inr ⟨by decide +kernel, rfl⟩
theorem eX12_isHeard_15 : aPI cX12_isHeard 15 (nI 10) 17 := Or.inr (Or.inl ⟨10, by decide +kernel, by decide +kernel, rfl⟩)
theorem eX12_isHeard_17 : aIc_ge cX12_isHeard 17 20 45 := ⟨28, by decide +kernel, rfl, by decide⟩
theorem eX12_isHeard_20 : aAL cX12_isHeard 20 0 21 := Or.inl ⟨0, by decide +kernel, rfl, rfl⟩
theorem eX12_isHeard_21 : aI3 cX12_isHeard 21 (.getfield 37) 24 := ⟨by decide +kernel, rfl⟩
theorem eX12_isHeard_24 : aIL cX12_isHeard 24 5 26 := Or.inr ⟨by decide +kernel, rfl⟩
theorem eX12_isHeard_26 : aIL cX12_isHeard 26 4 28 := Or.inr ⟨by decide +kernel, rfl⟩
theorem eX12_isHeard_28 : aPI cX12_isHeard 28 (nI 8) 30 := Or.inr (Or.inl ⟨8, by decide +kernel, by decide +kernel, rfl⟩)
theorem eX12_isHeard_30 : aI1 cX12_isHeard 30 (.irem) 31 := ⟨by decide +kernel, rfl⟩
theorem eX12_isHeard_31 : aI1 cX12_isHeard 31 (.iastore) 32 := ⟨by decide +kernel, rfl⟩
theorem eX12_isHeard_32 : aIL cX12_isHeard 32 4 34 := Or.inr ⟨by decide +kernel, rfl⟩
theorem eX12_isHeard_34 : aPI cX12_isHeard 34 (nI 8) 36 := Or.inr (Or.inl ⟨8, by decide +kernel, by decide +kernel, rfl⟩)
theorem eX12_isHeard_36 : aI1 cX12_isHeard 36 (.idiv) 37 := ⟨by decide +kernel, rfl⟩
theorem eX12_isHeard_37 : aIS cX12_isHeard 37 4 39 := Or.inr ⟨by decide +kernel, rfl⟩
theorem eX12_isHeard_39 : aII cX12_isHeard 39 5 (nI 1) 42 := ⟨1, by decide +kernel, by decide +kernel, rfl⟩
theorem eX12_isHeard_42 : aGo cX12_isHeard 42 13 := ⟨(-29), by decide +kernel, by decide⟩
theorem eX12_isHeard_45 : aAL cX12_isHeard 45 0 46 := Or.inl ⟨0, by decide +kernel, rfl, rfl⟩
theorem eX12_isHeard_46 : aIL cX12_isHeard 46 2 47 := Or.inl ⟨2, by decide +kernel, rfl, rfl⟩
theorem eX12_isHeard_47 : aIL cX12_isHeard 47 3 48 := Or.inl ⟨3, by decide +kernel, rfl, rfl⟩
theorem eX12_isHeard_48 : aAL cX12_isHeard 48 0 49 := Or.inl ⟨0, by decide +kernel, rfl, rfl⟩
theorem eX12_isHeard_49 : aI3 cX12_isHeard 49 (.getfield 34) 52 := ⟨by decide +kernel, rfl⟩
theorem eX12_isHeard_52 : aIL cX12_isHeard 52 1 53 := Or.inl ⟨1, by decide +kernel, rfl, rfl⟩
theorem eX12_isHeard_53 : aPI cX12_isHeard 53 (nI 3) 54 := Or.inl ⟨3, by decide +kernel, by decide +kernel, rfl⟩
theorem eX12_isHeard_54 : aI1 cX12_isHeard 54 (.iadd) 55 := ⟨by decide +kernel, rfl⟩
theorem eX12_isHeard_55 : aI1 cX12_isHeard 55 (.iaload) 56 := ⟨by decide +kernel, rfl⟩
theorem eX12_isHeard_56 : aAL cX12_isHeard 56 0 57 := Or.inl ⟨0, by decide +kernel, rfl, rfl⟩
theorem eX12_isHeard_57 : aI3 cX12_isHeard 57 (.getfield 37) 60 := ⟨by decide +kernel, rfl⟩
theorem eX12_isHeard_60 : aAL cX12_isHeard 60 0 61 := Or.inl ⟨0, by decide +kernel, rfl, rfl⟩
theorem eX12_isHeard_61 : aI3 cX12_isHeard 61 (.getfield 34) 64 := ⟨by decide +kernel, rfl⟩
theorem eX12_isHeard_64 : aIL cX12_isHeard 64 1 65 := Or.inl ⟨1, by decide +kernel, rfl, rfl⟩
theorem eX12_isHeard_65 : aPI cX12_isHeard 65 (nI 1) 66 := Or.inl ⟨1, by decide +kernel, by decide +kernel, rfl⟩
theorem eX12_isHeard_66 : aI1 cX12_isHeard 66 (.iadd) 67 := ⟨by decide +kernel, rfl⟩
theorem eX12_isHeard_67 : aI1 cX12_isHeard 67 (.iaload) 68 := ⟨by decide +kernel, rfl⟩
theorem eX12_isHeard_68 : aI3 cX12_isHeard 68 (.invokevirtual 125) 71 := ⟨by decide +kernel, rfl⟩
theorem eX12_isHeard_71 : aAL cX12_isHeard 71 0 72 := Or.inl ⟨0, by decide +kernel, rfl, rfl⟩
theorem eX12_isHeard_72 : aI3 cX12_isHeard 72 (.getfield 34) 75 := ⟨by decide +kernel, rfl⟩
theorem eX12_isHeard_75 : aIL cX12_isHeard 75 1 76 := Or.inl ⟨1, by decide +kernel, rfl, rfl⟩
theorem eX12_isHeard_76 : aPI cX12_isHeard 76 (nI 2) 77 := Or.inl ⟨2, by decide +kernel, by decide +kernel, rfl⟩
theorem eX12_isHeard_77 : aI1 cX12_isHeard 77 (.iadd) 78 := ⟨by decide +kernel, rfl⟩
theorem eX12_isHeard_78 : aI1 cX12_isHeard 78 (.iaload) 79 := ⟨by decide +kernel, rfl⟩
theorem eX12_isHeard_79 : aPI cX12_isHeard 79 (nI 1) 80 := Or.inl ⟨1, by decide +kernel, by decide +kernel, rfl⟩
theorem eX12_isHeard_80 : aIc_ne cX12_isHeard 80 83 87 := ⟨7, by decide +kernel, rfl, by decide⟩
theorem eX12_isHeard_83 : aPI cX12_isHeard 83 (nI 1) 84 := Or.inl ⟨1, by decide +kernel, by decide +kernel, rfl⟩
theorem eX12_isHeard_84 : aGo cX12_isHeard 84 88 := ⟨4, by decide +kernel, by decide⟩
theorem eX12_isHeard_87 : aPI cX12_isHeard 87 (nI 0) 88 := Or.inl ⟨0, by decide +kernel, by decide +kernel, rfl⟩
theorem eX12_isHeard_88 : aIc_ne cX12_isHeard 88 91 95 := ⟨7, by decide +kernel, rfl, by decide⟩
theorem eX12_isHeard_91 : aPI cX12_isHeard 91 (nI 1) 92 := Or.inl ⟨1, by decide +kernel, by decide +kernel, rfl⟩
theorem eX12_isHeard_92 : aGo cX12_isHeard 92 96 := ⟨4, by decide +kernel, by decide⟩
theorem eX12_isHeard_95 : aPI cX12_isHeard 95 (nI 0) 96 := Or.inl ⟨0, by decide +kernel, by decide +kernel, rfl⟩
theorem eX12_isHeard_96 : ∀ x : Int32, (x = 0 ∨ x = 1) → aRet cX12_isHeard (some .boolean) 96 (some (.int x)) := fun x h => Or.inr (Or.inl ⟨x, _, rfl, rfl, by rcases h with rfl | rfl <;> decide +kernel, by decide +kernel⟩)
theorem eX12_whichOf_0 : aPI cX12_whichOf 0 (nI 0) 1 := Or.inl ⟨0, by decide +kernel, by decide +kernel, rfl⟩
theorem eX12_whichOf_1 : aIS cX12_whichOf 1 2 2 := Or.inl ⟨2, by decide +kernel, rfl, rfl⟩
theorem eX12_whichOf_2 : aPI cX12_whichOf 2 (nI 0) 3 := Or.inl ⟨0, by decide +kernel, by decide +kernel, rfl⟩
theorem eX12_whichOf_3 : aIS cX12_whichOf 3 3 4 := Or.inl ⟨3, by decide +kernel, rfl, rfl⟩
theorem eX12_whichOf_4 : aIL cX12_whichOf 4 3 5 := Or.inl ⟨3, by decide +kernel, rfl, rfl⟩
theorem eX12_whichOf_5 : aPI cX12_whichOf 5 (nI 5) 6 := Or.inl ⟨5, by decide +kernel, by decide +kernel, rfl⟩
theorem eX12_whichOf_6 : aIc_ge cX12_whichOf 6 9 94 := ⟨88, by decide +kernel, rfl, by decide⟩
theorem eX12_whichOf_9 : aPI cX12_whichOf 9 (nI 1) 10 := Or.inl ⟨1, by decide +kernel, by decide +kernel, rfl⟩
theorem eX12_whichOf_10 : aIS cX12_whichOf 10 4 12 := Or.inr ⟨by decide +kernel, rfl⟩
theorem eX12_whichOf_12 : aPI cX12_whichOf 12 (nI 0) 13 := Or.inl ⟨0, by decide +kernel, by decide +kernel, rfl⟩
theorem eX12_whichOf_13 : aIS cX12_whichOf 13 5 15 := Or.inr ⟨by decide +kernel, rfl⟩
theorem eX12_whichOf_15 : aIL cX12_whichOf 15 5 17 := Or.inr ⟨by decide +kernel, rfl⟩
theorem eX12_whichOf_17 : aPI cX12_whichOf 17 (nI 5) 18 := Or.inl ⟨5, by decide +kernel, by decide +kernel, rfl⟩
theorem eX12_whichOf_18 : aAL cX12_whichOf 18 0 19 := Or.inl ⟨0, by decide +kernel, rfl, rfl⟩
theorem eX12_whichOf_19 : aI3 cX12_whichOf 19 (.getfield 100) 22 := ⟨by decide +kernel, rfl⟩
theorem eX12_whichOf_22 : aI1 cX12_whichOf 22 (.imul) 23 := ⟨by decide +kernel, rfl⟩
theorem eX12_whichOf_23 : aIc_ge cX12_whichOf 23 26 73 := ⟨50, by decide +kernel, rfl, by decide⟩
theorem eX12_whichOf_26 : aIL cX12_whichOf 26 4 28 := Or.inr ⟨by decide +kernel, rfl⟩
theorem eX12_whichOf_28 : aIf_eq cX12_whichOf 28 31 64 := ⟨36, by decide +kernel, rfl, by decide⟩
theorem eX12_whichOf_31 : aAL cX12_whichOf 31 0 32 := Or.inl ⟨0, by decide +kernel, rfl, rfl⟩
theorem eX12_whichOf_32 : aI3 cX12_whichOf 32 (.getfield 34) 35 := ⟨by decide +kernel, rfl⟩
theorem eX12_whichOf_35 : aIL cX12_whichOf 35 5 37 := Or.inr ⟨by decide +kernel, rfl⟩
theorem eX12_whichOf_37 : aI1 cX12_whichOf 37 (.iaload) 38 := ⟨by decide +kernel, rfl⟩
theorem eX12_whichOf_38 : aIL cX12_whichOf 38 1 39 := Or.inl ⟨1, by decide +kernel, rfl, rfl⟩
theorem eX12_whichOf_39 : aIc_ne cX12_whichOf 39 42 60 := ⟨21, by decide +kernel, rfl, by decide⟩
theorem eX12_whichOf_42 : aAL cX12_whichOf 42 0 43 := Or.inl ⟨0, by decide +kernel, rfl, rfl⟩
theorem eX12_whichOf_43 : aIL cX12_whichOf 43 5 45 := Or.inr ⟨by decide +kernel, rfl⟩
theorem eX12_whichOf_45 : aAL cX12_whichOf 45 0 46 := Or.inl ⟨0, by decide +kernel, rfl, rfl⟩
theorem eX12_whichOf_46 : aI3 cX12_whichOf 46 (.getfield 25) 49 := ⟨by decide +kernel, rfl⟩
theorem eX12_whichOf_49 : aPI cX12_whichOf 49 (nI 3) 50 := Or.inl ⟨3, by decide +kernel, by decide +kernel, rfl⟩
theorem eX12_whichOf_50 : aIL cX12_whichOf 50 1 51 := Or.inl ⟨1, by decide +kernel, rfl, rfl⟩
theorem eX12_whichOf_51 : aI1 cX12_whichOf 51 (.imul) 52 := ⟨by decide +kernel, rfl⟩
theorem eX12_whichOf_52 : aI1 cX12_whichOf 52 (.iaload) 53 := ⟨by decide +kernel, rfl⟩
theorem eX12_whichOf_53 : aIL cX12_whichOf 53 3 54 := Or.inl ⟨3, by decide +kernel, rfl, rfl⟩
theorem eX12_whichOf_54 : aI3 cX12_whichOf 54 (.invokevirtual 173) 57 := ⟨by decide +kernel, rfl⟩
theorem eX12_whichOf_57 : aIf_eq cX12_whichOf 57 60 64 := ⟨7, by decide +kernel, rfl, by decide⟩
theorem eX12_whichOf_60 : aPI cX12_whichOf 60 (nI 1) 61 := Or.inl ⟨1, by decide +kernel, by decide +kernel, rfl⟩
theorem eX12_whichOf_61 : aGo cX12_whichOf 61 65 := ⟨4, by decide +kernel, by decide⟩
theorem eX12_whichOf_64 : aPI cX12_whichOf 64 (nI 0) 65 := Or.inl ⟨0, by decide +kernel, by decide +kernel, rfl⟩
theorem eX12_whichOf_65 : aIS cX12_whichOf 65 4 67 := Or.inr ⟨by decide +kernel, rfl⟩
theorem eX12_whichOf_67 : aII cX12_whichOf 67 5 (nI 5) 70 := ⟨5, by decide +kernel, by decide +kernel, rfl⟩
theorem eX12_whichOf_70 : aGo cX12_whichOf 70 15 := ⟨(-55), by decide +kernel, by decide⟩
theorem eX12_whichOf_73 : aIL cX12_whichOf 73 2 74 := Or.inl ⟨2, by decide +kernel, rfl, rfl⟩
theorem eX12_whichOf_74 : aIL cX12_whichOf 74 4 76 := Or.inr ⟨by decide +kernel, rfl⟩
theorem eX12_whichOf_76 : aIf_eq cX12_whichOf 76 79 85 := ⟨9, by decide +kernel, rfl, by decide⟩
theorem eX12_whichOf_79 : aPI cX12_whichOf 79 (nI 1) 80 := Or.inl ⟨1, by decide +kernel, by decide +kernel, rfl⟩
theorem eX12_whichOf_80 : aIL cX12_whichOf 80 3 81 := Or.inl ⟨3, by decide +kernel, rfl, rfl⟩
theorem eX12_whichOf_81 : aI1 cX12_whichOf 81 (.ishl) 82 := ⟨by decide +kernel, rfl⟩
theorem eX12_whichOf_82 : aGo cX12_whichOf 82 86 := ⟨4, by decide +kernel, by decide⟩
theorem eX12_whichOf_85 : aPI cX12_whichOf 85 (nI 0) 86 := Or.inl ⟨0, by decide +kernel, by decide +kernel, rfl⟩
theorem eX12_whichOf_86 : aI1 cX12_whichOf 86 (.ior) 87 := ⟨by decide +kernel, rfl⟩
theorem eX12_whichOf_87 : aIS cX12_whichOf 87 2 88 := Or.inl ⟨2, by decide +kernel, rfl, rfl⟩
theorem eX12_whichOf_88 : aII cX12_whichOf 88 3 (nI 1) 91 := ⟨1, by decide +kernel, by decide +kernel, rfl⟩
theorem eX12_whichOf_91 : aGo cX12_whichOf 91 4 := ⟨(-87), by decide +kernel, by decide⟩
theorem eX12_whichOf_94 : aIL cX12_whichOf 94 2 95 := Or.inl ⟨2, by decide +kernel, rfl, rfl⟩
theorem eX12_whichOf_95 : ∀ x : Int32, aRet cX12_whichOf (some .int) 95 (some (.int x)) := fun x => Or.inr (Or.inl ⟨x, _, rfl, rfl, rfl, by decide +kernel⟩)
theorem eX12_listenOf_0 : aAL cX12_listenOf 0 0 1 := Or.inl ⟨0, by decide +kernel, rfl, rfl⟩
theorem eX12_listenOf_1 : aIL cX12_listenOf 1 1 2 := Or.inl ⟨1, by decide +kernel, rfl, rfl⟩
theorem eX12_listenOf_2 : aI3 cX12_listenOf 2 (.invokevirtual 143) 5 := ⟨by decide +kernel, rfl⟩
theorem eX12_listenOf_5 : aIS cX12_listenOf 5 2 6 := Or.inl ⟨2, by decide +kernel, rfl, rfl⟩
theorem eX12_listenOf_6 : aPI cX12_listenOf 6 (-1) 7 := Or.inl ⟨(-1), by decide +kernel, by decide +kernel, rfl⟩
theorem eX12_listenOf_7 : aIS cX12_listenOf 7 3 8 := Or.inl ⟨3, by decide +kernel, rfl, rfl⟩
theorem eX12_listenOf_8 : aPI cX12_listenOf 8 (nI 6) 10 := Or.inr (Or.inl ⟨6, by decide +kernel, by decide +kernel, rfl⟩)
theorem eX12_listenOf_10 : aIS cX12_listenOf 10 4 12 := Or.inr ⟨by decide +kernel, rfl⟩
theorem eX12_listenOf_12 : aPI cX12_listenOf 12 (nI 0) 13 := Or.inl ⟨0, by decide +kernel, by decide +kernel, rfl⟩
theorem eX12_listenOf_13 : aIS cX12_listenOf 13 5 15 := Or.inr ⟨by decide +kernel, rfl⟩
theorem eX12_listenOf_15 : aIL cX12_listenOf 15 5 17 := Or.inr ⟨by decide +kernel, rfl⟩
theorem eX12_listenOf_17 : aAL cX12_listenOf 17 0 18 := Or.inl ⟨0, by decide +kernel, rfl, rfl⟩
theorem eX12_listenOf_18 : aI3 cX12_listenOf 18 (.getfield 84) 21 := ⟨by decide +kernel, rfl⟩
theorem eX12_listenOf_21 : aIc_ge cX12_listenOf 21 24 156 := ⟨135, by decide +kernel, rfl, by decide⟩
theorem eX12_listenOf_24 : aIL cX12_listenOf 24 2 25 := Or.inl ⟨2, by decide +kernel, rfl, rfl⟩
theorem eX12_listenOf_25 : aIf_eq cX12_listenOf 25 28 156 := ⟨131, by decide +kernel, rfl, by decide⟩
theorem eX12_listenOf_28 : aPI cX12_listenOf 28 (nI 0) 29 := Or.inl ⟨0, by decide +kernel, by decide +kernel, rfl⟩
theorem eX12_listenOf_29 : aIS cX12_listenOf 29 6 31 := Or.inr ⟨by decide +kernel, rfl⟩
theorem eX12_listenOf_31 : aPI cX12_listenOf 31 (nI 0) 32 := Or.inl ⟨0, by decide +kernel, by decide +kernel, rfl⟩
theorem eX12_listenOf_32 : aIS cX12_listenOf 32 7 34 := Or.inr ⟨by decide +kernel, rfl⟩
theorem eX12_listenOf_34 : aIL cX12_listenOf 34 7 36 := Or.inr ⟨by decide +kernel, rfl⟩
theorem eX12_listenOf_36 : aPI cX12_listenOf 36 (nI 5) 37 := Or.inl ⟨5, by decide +kernel, by decide +kernel, rfl⟩
theorem eX12_listenOf_37 : aIc_ge cX12_listenOf 37 40 94 := ⟨57, by decide +kernel, rfl, by decide⟩
theorem eX12_listenOf_40 : aIL cX12_listenOf 40 6 42 := Or.inr ⟨by decide +kernel, rfl⟩
theorem eX12_listenOf_42 : aAL cX12_listenOf 42 0 43 := Or.inl ⟨0, by decide +kernel, rfl, rfl⟩
theorem eX12_listenOf_43 : aAL cX12_listenOf 43 0 44 := Or.inl ⟨0, by decide +kernel, rfl, rfl⟩
theorem eX12_listenOf_44 : aI3 cX12_listenOf 44 (.getfield 25) 47 := ⟨by decide +kernel, rfl⟩
theorem eX12_listenOf_47 : aPI cX12_listenOf 47 (nI 3) 48 := Or.inl ⟨3, by decide +kernel, by decide +kernel, rfl⟩
theorem eX12_listenOf_48 : aIL cX12_listenOf 48 1 49 := Or.inl ⟨1, by decide +kernel, rfl, rfl⟩
theorem eX12_listenOf_49 : aI1 cX12_listenOf 49 (.imul) 50 := ⟨by decide +kernel, rfl⟩
theorem eX12_listenOf_50 : aI1 cX12_listenOf 50 (.iaload) 51 := ⟨by decide +kernel, rfl⟩
theorem eX12_listenOf_51 : aIL cX12_listenOf 51 7 53 := Or.inr ⟨by decide +kernel, rfl⟩
theorem eX12_listenOf_53 : aAL cX12_listenOf 53 0 54 := Or.inl ⟨0, by decide +kernel, rfl, rfl⟩
theorem eX12_listenOf_54 : aI3 cX12_listenOf 54 (.getfield 25) 57 := ⟨by decide +kernel, rfl⟩
theorem eX12_listenOf_57 : aPI cX12_listenOf 57 (nI 3) 58 := Or.inl ⟨3, by decide +kernel, by decide +kernel, rfl⟩
theorem eX12_listenOf_58 : aIL cX12_listenOf 58 1 59 := Or.inl ⟨1, by decide +kernel, rfl, rfl⟩
theorem eX12_listenOf_59 : aI1 cX12_listenOf 59 (.imul) 60 := ⟨by decide +kernel, rfl⟩
theorem eX12_listenOf_60 : aPI cX12_listenOf 60 (nI 2) 61 := Or.inl ⟨2, by decide +kernel, by decide +kernel, rfl⟩
theorem eX12_listenOf_61 : aI1 cX12_listenOf 61 (.iadd) 62 := ⟨by decide +kernel, rfl⟩
theorem eX12_listenOf_62 : aI1 cX12_listenOf 62 (.iaload) 63 := ⟨by decide +kernel, rfl⟩
theorem eX12_listenOf_63 : aAL cX12_listenOf 63 0 64 := Or.inl ⟨0, by decide +kernel, rfl, rfl⟩
theorem eX12_listenOf_64 : aI3 cX12_listenOf 64 (.getfield 22) 67 := ⟨by decide +kernel, rfl⟩
theorem eX12_listenOf_67 : aIL cX12_listenOf 67 5 69 := Or.inr ⟨by decide +kernel, rfl⟩
theorem eX12_listenOf_69 : aI3 cX12_listenOf 69 (.invokevirtual 125) 72 := ⟨by decide +kernel, rfl⟩
theorem eX12_listenOf_72 : aIf_eq cX12_listenOf 72 75 84 := ⟨12, by decide +kernel, rfl, by decide⟩
theorem eX12_listenOf_75 : aIL cX12_listenOf 75 2 76 := Or.inl ⟨2, by decide +kernel, rfl, rfl⟩
theorem eX12_listenOf_76 : aIL cX12_listenOf 76 7 78 := Or.inr ⟨by decide +kernel, rfl⟩
theorem eX12_listenOf_78 : aI1 cX12_listenOf 78 (.ishr) 79 := ⟨by decide +kernel, rfl⟩
theorem eX12_listenOf_79 : aPI cX12_listenOf 79 (nI 1) 80 := Or.inl ⟨1, by decide +kernel, by decide +kernel, rfl⟩
theorem eX12_listenOf_80 : aI1 cX12_listenOf 80 (.iand) 81 := ⟨by decide +kernel, rfl⟩
theorem eX12_listenOf_81 : aGo cX12_listenOf 81 85 := ⟨4, by decide +kernel, by decide⟩
theorem eX12_listenOf_84 : aPI cX12_listenOf 84 (nI 0) 85 := Or.inl ⟨0, by decide +kernel, by decide +kernel, rfl⟩
theorem eX12_listenOf_85 : aI1 cX12_listenOf 85 (.iadd) 86 := ⟨by decide +kernel, rfl⟩
theorem eX12_listenOf_86 : aIS cX12_listenOf 86 6 88 := Or.inr ⟨by decide +kernel, rfl⟩
theorem eX12_listenOf_88 : aII cX12_listenOf 88 7 (nI 1) 91 := ⟨1, by decide +kernel, by decide +kernel, rfl⟩
theorem eX12_listenOf_91 : aGo cX12_listenOf 91 34 := ⟨(-57), by decide +kernel, by decide⟩
theorem eX12_listenOf_94 : aIL cX12_listenOf 94 6 96 := Or.inr ⟨by decide +kernel, rfl⟩
theorem eX12_listenOf_96 : aIL cX12_listenOf 96 2 97 := Or.inl ⟨2, by decide +kernel, rfl, rfl⟩
theorem eX12_listenOf_97 : aI3 cX12_listenOf 97 (.invokestatic 137) 100 := ⟨by decide +kernel, rfl⟩
theorem eX12_listenOf_100 : aIL cX12_listenOf 100 6 102 := Or.inr ⟨by decide +kernel, rfl⟩
theorem eX12_listenOf_102 : aI1 cX12_listenOf 102 (.isub) 103 := ⟨by decide +kernel, rfl⟩
theorem eX12_listenOf_103 : aIc_le cX12_listenOf 103 106 111 := ⟨8, by decide +kernel, rfl, by decide⟩
theorem eX12_listenOf_106 : aIL cX12_listenOf 106 6 108 := Or.inr ⟨by decide +kernel, rfl⟩
theorem eX12_listenOf_108 : aGo cX12_listenOf 108 118 := ⟨10, by decide +kernel, by decide⟩
theorem eX12_listenOf_111 : aIL cX12_listenOf 111 2 112 := Or.inl ⟨2, by decide +kernel, rfl, rfl⟩
theorem eX12_listenOf_112 : aI3 cX12_listenOf 112 (.invokestatic 137) 115 := ⟨by decide +kernel, rfl⟩
theorem eX12_listenOf_115 : aIL cX12_listenOf 115 6 117 := Or.inr ⟨by decide +kernel, rfl⟩
theorem eX12_listenOf_117 : aI1 cX12_listenOf 117 (.isub) 118 := ⟨by decide +kernel, rfl⟩
theorem eX12_listenOf_118 : aIS cX12_listenOf 118 7 120 := Or.inr ⟨by decide +kernel, rfl⟩
theorem eX12_listenOf_120 : aIL cX12_listenOf 120 7 122 := Or.inr ⟨by decide +kernel, rfl⟩
theorem eX12_listenOf_122 : aIL cX12_listenOf 122 4 124 := Or.inr ⟨by decide +kernel, rfl⟩
theorem eX12_listenOf_124 : aIc_ge cX12_listenOf 124 127 132 := ⟨8, by decide +kernel, rfl, by decide⟩
theorem eX12_listenOf_127 : aIL cX12_listenOf 127 5 129 := Or.inr ⟨by decide +kernel, rfl⟩
theorem eX12_listenOf_129 : aGo cX12_listenOf 129 133 := ⟨4, by decide +kernel, by decide⟩
theorem eX12_listenOf_132 : aIL cX12_listenOf 132 3 133 := Or.inl ⟨3, by decide +kernel, rfl, rfl⟩
theorem eX12_listenOf_133 : aIS cX12_listenOf 133 3 134 := Or.inl ⟨3, by decide +kernel, rfl, rfl⟩
theorem eX12_listenOf_134 : aIL cX12_listenOf 134 7 136 := Or.inr ⟨by decide +kernel, rfl⟩
theorem eX12_listenOf_136 : aIL cX12_listenOf 136 4 138 := Or.inr ⟨by decide +kernel, rfl⟩
theorem eX12_listenOf_138 : aIc_ge cX12_listenOf 138 141 146 := ⟨8, by decide +kernel, rfl, by decide⟩
theorem eX12_listenOf_141 : aIL cX12_listenOf 141 7 143 := Or.inr ⟨by decide +kernel, rfl⟩
theorem eX12_listenOf_143 : aGo cX12_listenOf 143 148 := ⟨5, by decide +kernel, by decide⟩
theorem eX12_listenOf_146 : aIL cX12_listenOf 146 4 148 := Or.inr ⟨by decide +kernel, rfl⟩
theorem eX12_listenOf_148 : aIS cX12_listenOf 148 4 150 := Or.inr ⟨by decide +kernel, rfl⟩
theorem eX12_listenOf_150 : aII cX12_listenOf 150 5 (nI 1) 153 := ⟨1, by decide +kernel, by decide +kernel, rfl⟩
theorem eX12_listenOf_153 : aGo cX12_listenOf 153 15 := ⟨(-138), by decide +kernel, by decide⟩
theorem eX12_listenOf_156 : aIL cX12_listenOf 156 3 157 := Or.inl ⟨3, by decide +kernel, rfl, rfl⟩
theorem eX12_listenOf_157 : ∀ x : Int32, aRet cX12_listenOf (some .int) 157 (some (.int x)) := fun x => Or.inr (Or.inl ⟨x, _, rfl, rfl, rfl, by decide +kernel⟩)
theorem eX12_draw_0 : aAL cX12_draw 0 0 1 := Or.inl ⟨0, by decide +kernel, rfl, rfl⟩
theorem eX12_draw_1 : aI3 cX12_draw 1 (.ldc2_w 177) 4 := ⟨by decide +kernel, rfl⟩
theorem eX12_draw_4 : aAL cX12_draw 4 0 5 := Or.inl ⟨0, by decide +kernel, rfl, rfl⟩
theorem eX12_draw_5 : aI3 cX12_draw 5 (.getfield 179) 8 := ⟨by decide +kernel, rfl⟩
theorem eX12_draw_8 : aI1 cX12_draw 8 (.i2l) 9 := ⟨by decide +kernel, rfl⟩
theorem eX12_draw_9 : aI1 cX12_draw 9 (.lmul) 10 := ⟨by decide +kernel, rfl⟩
theorem eX12_draw_10 : aI3 cX12_draw 10 (.ldc2_w 182) 13 := ⟨by decide +kernel, rfl⟩
theorem eX12_draw_13 : aI1 cX12_draw 13 (.ladd) 14 := ⟨by decide +kernel, rfl⟩
theorem eX12_draw_14 : aI3 cX12_draw 14 (.ldc2_w 184) 17 := ⟨by decide +kernel, rfl⟩
theorem eX12_draw_17 : aI1 cX12_draw 17 (.land) 18 := ⟨by decide +kernel, rfl⟩
theorem eX12_draw_18 : aI1 cX12_draw 18 (.l2i) 19 := ⟨by decide +kernel, rfl⟩
theorem eX12_draw_19 : aI3 cX12_draw 19 (.putfield 179) 22 := ⟨by decide +kernel, rfl⟩
theorem eX12_draw_22 : aAL cX12_draw 22 0 23 := Or.inl ⟨0, by decide +kernel, rfl, rfl⟩
theorem eX12_draw_23 : aI3 cX12_draw 23 (.getfield 179) 26 := ⟨by decide +kernel, rfl⟩
theorem eX12_draw_26 : aLd cX12_draw 26 186 28 := Or.inl ⟨by decide +kernel, rfl⟩
theorem eX12_draw_28 : aI1 cX12_draw 28 (.idiv) 29 := ⟨by decide +kernel, rfl⟩
theorem eX12_draw_29 : aIL cX12_draw 29 1 30 := Or.inl ⟨1, by decide +kernel, rfl, rfl⟩
theorem eX12_draw_30 : aI1 cX12_draw 30 (.irem) 31 := ⟨by decide +kernel, rfl⟩
theorem eX12_draw_31 : ∀ x : Int32, aRet cX12_draw (some .int) 31 (some (.int x)) := fun x => Or.inr (Or.inl ⟨x, _, rfl, rfl, rfl, by decide +kernel⟩)
theorem eX12_trials_0 : aIL cX12_trials 0 1 1 := Or.inl ⟨1, by decide +kernel, rfl, rfl⟩
theorem eX12_trials_1 : aI1 cX12_trials 1 (.i2l) 2 := ⟨by decide +kernel, rfl⟩
theorem eX12_trials_2 : aI1 cX12_trials 2 (.lconst 1) 3 := ⟨by decide +kernel, rfl⟩
theorem eX12_trials_3 : aI3 cX12_trials 3 (.ldc2_w 187) 6 := ⟨by decide +kernel, rfl⟩
theorem eX12_trials_6 : aI3 cX12_trials 6 (.invokestatic 58) 9 := ⟨by decide +kernel, rfl⟩
theorem eX12_trials_9 : aIf_eq cX12_trials 9 12 28 := ⟨19, by decide +kernel, rfl, by decide⟩
theorem eX12_trials_12 : aIL cX12_trials 12 2 13 := Or.inl ⟨2, by decide +kernel, rfl, rfl⟩
theorem eX12_trials_13 : aIf_lt cX12_trials 13 16 28 := ⟨15, by decide +kernel, rfl, by decide⟩
theorem eX12_trials_16 : aIL cX12_trials 16 3 17 := Or.inl ⟨3, by decide +kernel, rfl, rfl⟩
theorem eX12_trials_17 : aI1 cX12_trials 17 (.i2l) 18 := ⟨by decide +kernel, rfl⟩
theorem eX12_trials_18 : aI1 cX12_trials 18 (.lconst 0) 19 := ⟨by decide +kernel, rfl⟩
theorem eX12_trials_19 : aI3 cX12_trials 19 (.ldc2_w 189) 22 := ⟨by decide +kernel, rfl⟩
theorem eX12_trials_22 : aI3 cX12_trials 22 (.invokestatic 58) 25 := ⟨by decide +kernel, rfl⟩
theorem eX12_trials_25 : aIf_ne cX12_trials 25 28 31 := ⟨6, by decide +kernel, rfl, by decide⟩
theorem eX12_trials_28 : aPI cX12_trials 28 (-102) 30 := Or.inr (Or.inl ⟨(-102), by decide +kernel, by decide +kernel, rfl⟩)
theorem eX12_trials_30 : ∀ x : Int32, aRet cX12_trials (some .int) 30 (some (.int x)) := fun x => Or.inr (Or.inl ⟨x, _, rfl, rfl, rfl, by decide +kernel⟩)
theorem eX12_trials_31 : aAL cX12_trials 31 0 32 := Or.inl ⟨0, by decide +kernel, rfl, rfl⟩
theorem eX12_trials_32 : aI3 cX12_trials 32 (.invokevirtual 106) 35 := ⟨by decide +kernel, rfl⟩
theorem eX12_trials_35 : aIf_eq cX12_trials 35 38 41 := ⟨6, by decide +kernel, rfl, by decide⟩
theorem eX12_trials_38 : aPI cX12_trials 38 (-103) 40 := Or.inr (Or.inl ⟨(-103), by decide +kernel, by decide +kernel, rfl⟩)
theorem eX12_trials_40 : ∀ x : Int32, aRet cX12_trials (some .int) 40 (some (.int x)) := fun x => Or.inr (Or.inl ⟨x, _, rfl, rfl, rfl, by decide +kernel⟩)
theorem eX12_trials_41 : aAL cX12_trials 41 0 42 := Or.inl ⟨0, by decide +kernel, rfl, rfl⟩
theorem eX12_trials_42 : aIL cX12_trials 42 2 43 := Or.inl ⟨2, by decide +kernel, rfl, rfl⟩
theorem eX12_trials_43 : aI3 cX12_trials 43 (.putfield 179) 46 := ⟨by decide +kernel, rfl⟩
theorem eX12_trials_46 : aPI cX12_trials 46 (nI 0) 47 := Or.inl ⟨0, by decide +kernel, by decide +kernel, rfl⟩
theorem eX12_trials_47 : aIS cX12_trials 47 4 49 := Or.inr ⟨by decide +kernel, rfl⟩
theorem eX12_trials_49 : aPI cX12_trials 49 (nI 0) 50 := Or.inl ⟨0, by decide +kernel, by decide +kernel, rfl⟩
theorem eX12_trials_50 : aIS cX12_trials 50 5 52 := Or.inr ⟨by decide +kernel, rfl⟩
theorem eX12_trials_52 : aPI cX12_trials 52 (nI 0) 53 := Or.inl ⟨0, by decide +kernel, by decide +kernel, rfl⟩
theorem eX12_trials_53 : aIS cX12_trials 53 6 55 := Or.inr ⟨by decide +kernel, rfl⟩
theorem eX12_trials_55 : aIL cX12_trials 55 6 57 := Or.inr ⟨by decide +kernel, rfl⟩
theorem eX12_trials_57 : aIL cX12_trials 57 1 58 := Or.inl ⟨1, by decide +kernel, rfl, rfl⟩
theorem eX12_trials_58 : aIc_ge cX12_trials 58 61 190 := ⟨132, by decide +kernel, rfl, by decide⟩
theorem eX12_trials_61 : aPI cX12_trials 61 (nI 0) 62 := Or.inl ⟨0, by decide +kernel, by decide +kernel, rfl⟩
theorem eX12_trials_62 : aIS cX12_trials 62 7 64 := Or.inr ⟨by decide +kernel, rfl⟩
theorem eX12_trials_64 : aIL cX12_trials 64 7 66 := Or.inr ⟨by decide +kernel, rfl⟩
theorem eX12_trials_66 : aAL cX12_trials 66 0 67 := Or.inl ⟨0, by decide +kernel, rfl, rfl⟩
theorem eX12_trials_67 : aI3 cX12_trials 67 (.getfield 84) 70 := ⟨by decide +kernel, rfl⟩
theorem eX12_trials_70 : aIc_ge cX12_trials 70 73 92 := ⟨22, by decide +kernel, rfl, by decide⟩
theorem eX12_trials_73 : aAL cX12_trials 73 0 74 := Or.inl ⟨0, by decide +kernel, rfl, rfl⟩
theorem eX12_trials_74 : aI3 cX12_trials 74 (.getfield 40) 77 := ⟨by decide +kernel, rfl⟩
theorem eX12_trials_77 : aIL cX12_trials 77 7 79 := Or.inr ⟨by decide +kernel, rfl⟩
theorem eX12_trials_79 : aAL cX12_trials 79 0 80 := Or.inl ⟨0, by decide +kernel, rfl, rfl⟩
theorem eX12_trials_80 : aPI cX12_trials 80 (nI 8) 82 := Or.inr (Or.inl ⟨8, by decide +kernel, by decide +kernel, rfl⟩)
theorem eX12_trials_82 : aI3 cX12_trials 82 (.invokevirtual 191) 85 := ⟨by decide +kernel, rfl⟩
theorem eX12_trials_85 : aI1 cX12_trials 85 (.iastore) 86 := ⟨by decide +kernel, rfl⟩
theorem eX12_trials_86 : aII cX12_trials 86 7 (nI 1) 89 := ⟨1, by decide +kernel, by decide +kernel, rfl⟩
theorem eX12_trials_89 : aGo cX12_trials 89 64 := ⟨(-25), by decide +kernel, by decide⟩
theorem eX12_trials_92 : aPI cX12_trials 92 (nI 0) 93 := Or.inl ⟨0, by decide +kernel, by decide +kernel, rfl⟩
theorem eX12_trials_93 : aIS cX12_trials 93 7 95 := Or.inr ⟨by decide +kernel, rfl⟩
theorem eX12_trials_95 : aIL cX12_trials 95 7 97 := Or.inr ⟨by decide +kernel, rfl⟩
theorem eX12_trials_97 : aAL cX12_trials 97 0 98 := Or.inl ⟨0, by decide +kernel, rfl, rfl⟩
theorem eX12_trials_98 : aI3 cX12_trials 98 (.getfield 97) 101 := ⟨by decide +kernel, rfl⟩
theorem eX12_trials_101 : aIc_ge cX12_trials 101 104 184 := ⟨83, by decide +kernel, rfl, by decide⟩
theorem eX12_trials_104 : aAL cX12_trials 104 0 105 := Or.inl ⟨0, by decide +kernel, rfl, rfl⟩
theorem eX12_trials_105 : aAL cX12_trials 105 0 106 := Or.inl ⟨0, by decide +kernel, rfl, rfl⟩
theorem eX12_trials_106 : aI3 cX12_trials 106 (.getfield 25) 109 := ⟨by decide +kernel, rfl⟩
theorem eX12_trials_109 : aPI cX12_trials 109 (nI 3) 110 := Or.inl ⟨3, by decide +kernel, by decide +kernel, rfl⟩
theorem eX12_trials_110 : aIL cX12_trials 110 7 112 := Or.inr ⟨by decide +kernel, rfl⟩
theorem eX12_trials_112 : aI1 cX12_trials 112 (.imul) 113 := ⟨by decide +kernel, rfl⟩
theorem eX12_trials_113 : aI1 cX12_trials 113 (.iaload) 114 := ⟨by decide +kernel, rfl⟩
theorem eX12_trials_114 : aAL cX12_trials 114 0 115 := Or.inl ⟨0, by decide +kernel, rfl, rfl⟩
theorem eX12_trials_115 : aI3 cX12_trials 115 (.getfield 25) 118 := ⟨by decide +kernel, rfl⟩
theorem eX12_trials_118 : aPI cX12_trials 118 (nI 3) 119 := Or.inl ⟨3, by decide +kernel, by decide +kernel, rfl⟩
theorem eX12_trials_119 : aIL cX12_trials 119 7 121 := Or.inr ⟨by decide +kernel, rfl⟩
theorem eX12_trials_121 : aI1 cX12_trials 121 (.imul) 122 := ⟨by decide +kernel, rfl⟩
theorem eX12_trials_122 : aPI cX12_trials 122 (nI 1) 123 := Or.inl ⟨1, by decide +kernel, by decide +kernel, rfl⟩
theorem eX12_trials_123 : aI1 cX12_trials 123 (.iadd) 124 := ⟨by decide +kernel, rfl⟩
theorem eX12_trials_124 : aI1 cX12_trials 124 (.iaload) 125 := ⟨by decide +kernel, rfl⟩
theorem eX12_trials_125 : aAL cX12_trials 125 0 126 := Or.inl ⟨0, by decide +kernel, rfl, rfl⟩
theorem eX12_trials_126 : aI3 cX12_trials 126 (.getfield 25) 129 := ⟨by decide +kernel, rfl⟩
theorem eX12_trials_129 : aPI cX12_trials 129 (nI 3) 130 := Or.inl ⟨3, by decide +kernel, by decide +kernel, rfl⟩
theorem eX12_trials_130 : aIL cX12_trials 130 7 132 := Or.inr ⟨by decide +kernel, rfl⟩
theorem eX12_trials_132 : aI1 cX12_trials 132 (.imul) 133 := ⟨by decide +kernel, rfl⟩
theorem eX12_trials_133 : aPI cX12_trials 133 (nI 2) 134 := Or.inl ⟨2, by decide +kernel, by decide +kernel, rfl⟩
theorem eX12_trials_134 : aI1 cX12_trials 134 (.iadd) 135 := ⟨by decide +kernel, rfl⟩
theorem eX12_trials_135 : aI1 cX12_trials 135 (.iaload) 136 := ⟨by decide +kernel, rfl⟩
theorem eX12_trials_136 : aAL cX12_trials 136 0 137 := Or.inl ⟨0, by decide +kernel, rfl, rfl⟩
theorem eX12_trials_137 : aI3 cX12_trials 137 (.getfield 40) 140 := ⟨by decide +kernel, rfl⟩
theorem eX12_trials_140 : aAL cX12_trials 140 0 141 := Or.inl ⟨0, by decide +kernel, rfl, rfl⟩
theorem eX12_trials_141 : aI3 cX12_trials 141 (.getfield 84) 144 := ⟨by decide +kernel, rfl⟩
theorem eX12_trials_144 : aI3 cX12_trials 144 (.invokevirtual 129) 147 := ⟨by decide +kernel, rfl⟩
theorem eX12_trials_147 : aI3 cX12_trials 147 (.invokestatic 137) 150 := ⟨by decide +kernel, rfl⟩
theorem eX12_trials_150 : aIS cX12_trials 150 8 152 := Or.inr ⟨by decide +kernel, rfl⟩
theorem eX12_trials_152 : aIL cX12_trials 152 5 154 := Or.inr ⟨by decide +kernel, rfl⟩
theorem eX12_trials_154 : aIL cX12_trials 154 8 156 := Or.inr ⟨by decide +kernel, rfl⟩
theorem eX12_trials_156 : aI1 cX12_trials 156 (.iadd) 157 := ⟨by decide +kernel, rfl⟩
theorem eX12_trials_157 : aIS cX12_trials 157 5 159 := Or.inr ⟨by decide +kernel, rfl⟩
theorem eX12_trials_159 : aIL cX12_trials 159 4 161 := Or.inr ⟨by decide +kernel, rfl⟩
theorem eX12_trials_161 : aIL cX12_trials 161 8 163 := Or.inr ⟨by decide +kernel, rfl⟩
theorem eX12_trials_163 : aAL cX12_trials 163 0 164 := Or.inl ⟨0, by decide +kernel, rfl, rfl⟩
theorem eX12_trials_164 : aI3 cX12_trials 164 (.getfield 91) 167 := ⟨by decide +kernel, rfl⟩
theorem eX12_trials_167 : aIc_lt cX12_trials 167 170 174 := ⟨7, by decide +kernel, rfl, by decide⟩
theorem eX12_trials_170 : aPI cX12_trials 170 (nI 1) 171 := Or.inl ⟨1, by decide +kernel, by decide +kernel, rfl⟩
theorem eX12_trials_171 : aGo cX12_trials 171 175 := ⟨4, by decide +kernel, by decide⟩
theorem eX12_trials_174 : aPI cX12_trials 174 (nI 0) 175 := Or.inl ⟨0, by decide +kernel, by decide +kernel, rfl⟩
theorem eX12_trials_175 : aI1 cX12_trials 175 (.iadd) 176 := ⟨by decide +kernel, rfl⟩
theorem eX12_trials_176 : aIS cX12_trials 176 4 178 := Or.inr ⟨by decide +kernel, rfl⟩
theorem eX12_trials_178 : aII cX12_trials 178 7 (nI 1) 181 := ⟨1, by decide +kernel, by decide +kernel, rfl⟩
theorem eX12_trials_181 : aGo cX12_trials 181 95 := ⟨(-86), by decide +kernel, by decide⟩
theorem eX12_trials_184 : aII cX12_trials 184 6 (nI 1) 187 := ⟨1, by decide +kernel, by decide +kernel, rfl⟩
theorem eX12_trials_187 : aGo cX12_trials 187 55 := ⟨(-132), by decide +kernel, by decide⟩
theorem eX12_trials_190 : aIL cX12_trials 190 3 191 := Or.inl ⟨3, by decide +kernel, rfl, rfl⟩
theorem eX12_trials_191 : aIf_ne cX12_trials 191 194 199 := ⟨8, by decide +kernel, rfl, by decide⟩
theorem eX12_trials_194 : aIL cX12_trials 194 4 196 := Or.inr ⟨by decide +kernel, rfl⟩
theorem eX12_trials_196 : aGo cX12_trials 196 213 := ⟨17, by decide +kernel, by decide⟩
theorem eX12_trials_199 : aIL cX12_trials 199 3 200 := Or.inl ⟨3, by decide +kernel, rfl, rfl⟩
theorem eX12_trials_200 : aPI cX12_trials 200 (nI 1) 201 := Or.inl ⟨1, by decide +kernel, by decide +kernel, rfl⟩
theorem eX12_trials_201 : aIc_ne cX12_trials 201 204 209 := ⟨8, by decide +kernel, rfl, by decide⟩
theorem eX12_trials_204 : aIL cX12_trials 204 5 206 := Or.inr ⟨by decide +kernel, rfl⟩
theorem eX12_trials_206 : aGo cX12_trials 206 213 := ⟨7, by decide +kernel, by decide⟩
theorem eX12_trials_209 : aAL cX12_trials 209 0 210 := Or.inl ⟨0, by decide +kernel, rfl, rfl⟩
theorem eX12_trials_210 : aI3 cX12_trials 210 (.getfield 179) 213 := ⟨by decide +kernel, rfl⟩
theorem eX12_trials_213 : ∀ x : Int32, aRet cX12_trials (some .int) 213 (some (.int x)) := fun x => Or.inr (Or.inl ⟨x, _, rfl, rfl, rfl, by decide +kernel⟩)
theorem eX12_image_0 : aAL cX12_image 0 0 1 := Or.inl ⟨0, by decide +kernel, rfl, rfl⟩
theorem eX12_image_1 : aI3 cX12_image 1 (.invokevirtual 106) 4 := ⟨by decide +kernel, rfl⟩
theorem eX12_image_4 : aIf_eq cX12_image 4 7 10 := ⟨6, by decide +kernel, rfl, by decide⟩
theorem eX12_image_7 : aPI cX12_image 7 (-103) 9 := Or.inr (Or.inl ⟨(-103), by decide +kernel, by decide +kernel, rfl⟩)
theorem eX12_image_9 : ∀ x : Int32, aRet cX12_image (some .int) 9 (some (.int x)) := fun x => Or.inr (Or.inl ⟨x, _, rfl, rfl, rfl, by decide +kernel⟩)
theorem eX12_image_10 : aAL cX12_image 10 0 11 := Or.inl ⟨0, by decide +kernel, rfl, rfl⟩
theorem eX12_image_11 : aI3 cX12_image 11 (.getfield 22) 14 := ⟨by decide +kernel, rfl⟩
theorem eX12_image_14 : aAL cX12_image 14 0 15 := Or.inl ⟨0, by decide +kernel, rfl, rfl⟩
theorem eX12_image_15 : aI3 cX12_image 15 (.getfield 43) 18 := ⟨by decide +kernel, rfl⟩
theorem eX12_image_18 : aI3 cX12_image 18 (.invokestatic 87) 21 := ⟨by decide +kernel, rfl⟩
theorem eX12_image_21 : aAL cX12_image 21 0 22 := Or.inl ⟨0, by decide +kernel, rfl, rfl⟩
theorem eX12_image_22 : aI3 cX12_image 22 (.getfield 25) 25 := ⟨by decide +kernel, rfl⟩
theorem eX12_image_25 : aAL cX12_image 25 0 26 := Or.inl ⟨0, by decide +kernel, rfl, rfl⟩
theorem eX12_image_26 : aI3 cX12_image 26 (.getfield 46) 29 := ⟨by decide +kernel, rfl⟩
theorem eX12_image_29 : aI3 cX12_image 29 (.invokestatic 87) 32 := ⟨by decide +kernel, rfl⟩
theorem eX12_image_32 : aAL cX12_image 32 0 33 := Or.inl ⟨0, by decide +kernel, rfl, rfl⟩
theorem eX12_image_33 : aI3 cX12_image 33 (.getfield 34) 36 := ⟨by decide +kernel, rfl⟩
theorem eX12_image_36 : aAL cX12_image 36 0 37 := Or.inl ⟨0, by decide +kernel, rfl, rfl⟩
theorem eX12_image_37 : aI3 cX12_image 37 (.getfield 49) 40 := ⟨by decide +kernel, rfl⟩
theorem eX12_image_40 : aI3 cX12_image 40 (.invokestatic 87) 43 := ⟨by decide +kernel, rfl⟩
theorem eX12_image_43 : aAL cX12_image 43 0 44 := Or.inl ⟨0, by decide +kernel, rfl, rfl⟩
theorem eX12_image_44 : aAL cX12_image 44 0 45 := Or.inl ⟨0, by decide +kernel, rfl, rfl⟩
theorem eX12_image_45 : aI3 cX12_image 45 (.getfield 91) 48 := ⟨by decide +kernel, rfl⟩
theorem eX12_image_48 : aI3 cX12_image 48 (.putfield 194) 51 := ⟨by decide +kernel, rfl⟩
theorem eX12_image_51 : aAL cX12_image 51 0 52 := Or.inl ⟨0, by decide +kernel, rfl, rfl⟩
theorem eX12_image_52 : aAL cX12_image 52 0 53 := Or.inl ⟨0, by decide +kernel, rfl, rfl⟩
theorem eX12_image_53 : aI3 cX12_image 53 (.getfield 97) 56 := ⟨by decide +kernel, rfl⟩
theorem eX12_image_56 : aI3 cX12_image 56 (.putfield 197) 59 := ⟨by decide +kernel, rfl⟩
theorem eX12_image_59 : aAL cX12_image 59 0 60 := Or.inl ⟨0, by decide +kernel, rfl, rfl⟩
theorem eX12_image_60 : aAL cX12_image 60 0 61 := Or.inl ⟨0, by decide +kernel, rfl, rfl⟩
theorem eX12_image_61 : aI3 cX12_image 61 (.getfield 94) 64 := ⟨by decide +kernel, rfl⟩
theorem eX12_image_64 : aI3 cX12_image 64 (.putfield 200) 67 := ⟨by decide +kernel, rfl⟩
theorem eX12_image_67 : aAL cX12_image 67 0 68 := Or.inl ⟨0, by decide +kernel, rfl, rfl⟩
theorem eX12_image_68 : aAL cX12_image 68 0 69 := Or.inl ⟨0, by decide +kernel, rfl, rfl⟩
theorem eX12_image_69 : aI3 cX12_image 69 (.getfield 100) 72 := ⟨by decide +kernel, rfl⟩
theorem eX12_image_72 : aI3 cX12_image 72 (.putfield 203) 75 := ⟨by decide +kernel, rfl⟩
theorem eX12_image_75 : aAL cX12_image 75 0 76 := Or.inl ⟨0, by decide +kernel, rfl, rfl⟩
theorem eX12_image_76 : aAL cX12_image 76 0 77 := Or.inl ⟨0, by decide +kernel, rfl, rfl⟩
theorem eX12_image_77 : aI3 cX12_image 77 (.getfield 103) 80 := ⟨by decide +kernel, rfl⟩
theorem eX12_image_80 : aI3 cX12_image 80 (.putfield 52) 83 := ⟨by decide +kernel, rfl⟩
theorem eX12_image_83 : aAL cX12_image 83 0 84 := Or.inl ⟨0, by decide +kernel, rfl, rfl⟩
theorem eX12_image_84 : aI3 cX12_image 84 (.getfield 94) 87 := ⟨by decide +kernel, rfl⟩
theorem eX12_image_87 : ∀ x : Int32, aRet cX12_image (some .int) 87 (some (.int x)) := fun x => Or.inr (Or.inl ⟨x, _, rfl, rfl, rfl, by decide +kernel⟩)
theorem eX12_restore_0 : aAL cX12_restore 0 0 1 := Or.inl ⟨0, by decide +kernel, rfl, rfl⟩
theorem eX12_restore_1 : aI3 cX12_restore 1 (.getfield 52) 4 := ⟨by decide +kernel, rfl⟩
theorem eX12_restore_4 : aAL cX12_restore 4 0 5 := Or.inl ⟨0, by decide +kernel, rfl, rfl⟩
theorem eX12_restore_5 : aI3 cX12_restore 5 (.getfield 103) 8 := ⟨by decide +kernel, rfl⟩
theorem eX12_restore_8 : aIc_eq cX12_restore 8 11 14 := ⟨6, by decide +kernel, rfl, by decide⟩
theorem eX12_restore_11 : aPI cX12_restore 11 (-103) 13 := Or.inr (Or.inl ⟨(-103), by decide +kernel, by decide +kernel, rfl⟩)
theorem eX12_restore_13 : ∀ x : Int32, aRet cX12_restore (some .int) 13 (some (.int x)) := fun x => Or.inr (Or.inl ⟨x, _, rfl, rfl, rfl, by decide +kernel⟩)
theorem eX12_restore_14 : aAL cX12_restore 14 0 15 := Or.inl ⟨0, by decide +kernel, rfl, rfl⟩
theorem eX12_restore_15 : aI3 cX12_restore 15 (.getfield 43) 18 := ⟨by decide +kernel, rfl⟩
theorem eX12_restore_18 : aAL cX12_restore 18 0 19 := Or.inl ⟨0, by decide +kernel, rfl, rfl⟩
theorem eX12_restore_19 : aI3 cX12_restore 19 (.getfield 22) 22 := ⟨by decide +kernel, rfl⟩
theorem eX12_restore_22 : aI3 cX12_restore 22 (.invokestatic 87) 25 := ⟨by decide +kernel, rfl⟩
theorem eX12_restore_25 : aAL cX12_restore 25 0 26 := Or.inl ⟨0, by decide +kernel, rfl, rfl⟩
theorem eX12_restore_26 : aI3 cX12_restore 26 (.getfield 46) 29 := ⟨by decide +kernel, rfl⟩
theorem eX12_restore_29 : aAL cX12_restore 29 0 30 := Or.inl ⟨0, by decide +kernel, rfl, rfl⟩
theorem eX12_restore_30 : aI3 cX12_restore 30 (.getfield 25) 33 := ⟨by decide +kernel, rfl⟩
theorem eX12_restore_33 : aI3 cX12_restore 33 (.invokestatic 87) 36 := ⟨by decide +kernel, rfl⟩
theorem eX12_restore_36 : aAL cX12_restore 36 0 37 := Or.inl ⟨0, by decide +kernel, rfl, rfl⟩
theorem eX12_restore_37 : aI3 cX12_restore 37 (.getfield 49) 40 := ⟨by decide +kernel, rfl⟩
theorem eX12_restore_40 : aAL cX12_restore 40 0 41 := Or.inl ⟨0, by decide +kernel, rfl, rfl⟩
theorem eX12_restore_41 : aI3 cX12_restore 41 (.getfield 34) 44 := ⟨by decide +kernel, rfl⟩
theorem eX12_restore_44 : aI3 cX12_restore 44 (.invokestatic 87) 47 := ⟨by decide +kernel, rfl⟩
theorem eX12_restore_47 : aAL cX12_restore 47 0 48 := Or.inl ⟨0, by decide +kernel, rfl, rfl⟩
theorem eX12_restore_48 : aAL cX12_restore 48 0 49 := Or.inl ⟨0, by decide +kernel, rfl, rfl⟩
theorem eX12_restore_49 : aI3 cX12_restore 49 (.getfield 194) 52 := ⟨by decide +kernel, rfl⟩
theorem eX12_restore_52 : aI3 cX12_restore 52 (.putfield 91) 55 := ⟨by decide +kernel, rfl⟩
theorem eX12_restore_55 : aAL cX12_restore 55 0 56 := Or.inl ⟨0, by decide +kernel, rfl, rfl⟩
theorem eX12_restore_56 : aAL cX12_restore 56 0 57 := Or.inl ⟨0, by decide +kernel, rfl, rfl⟩
theorem eX12_restore_57 : aI3 cX12_restore 57 (.getfield 197) 60 := ⟨by decide +kernel, rfl⟩
theorem eX12_restore_60 : aI3 cX12_restore 60 (.putfield 97) 63 := ⟨by decide +kernel, rfl⟩
theorem eX12_restore_63 : aAL cX12_restore 63 0 64 := Or.inl ⟨0, by decide +kernel, rfl, rfl⟩
theorem eX12_restore_64 : aAL cX12_restore 64 0 65 := Or.inl ⟨0, by decide +kernel, rfl, rfl⟩
theorem eX12_restore_65 : aI3 cX12_restore 65 (.getfield 200) 68 := ⟨by decide +kernel, rfl⟩
theorem eX12_restore_68 : aI3 cX12_restore 68 (.putfield 94) 71 := ⟨by decide +kernel, rfl⟩
theorem eX12_restore_71 : aAL cX12_restore 71 0 72 := Or.inl ⟨0, by decide +kernel, rfl, rfl⟩
theorem eX12_restore_72 : aAL cX12_restore 72 0 73 := Or.inl ⟨0, by decide +kernel, rfl, rfl⟩
theorem eX12_restore_73 : aI3 cX12_restore 73 (.getfield 203) 76 := ⟨by decide +kernel, rfl⟩
theorem eX12_restore_76 : aI3 cX12_restore 76 (.putfield 100) 79 := ⟨by decide +kernel, rfl⟩
theorem eX12_restore_79 : aAL cX12_restore 79 0 80 := Or.inl ⟨0, by decide +kernel, rfl, rfl⟩
theorem eX12_restore_80 : aI3 cX12_restore 80 (.getfield 94) 83 := ⟨by decide +kernel, rfl⟩
theorem eX12_restore_83 : ∀ x : Int32, aRet cX12_restore (some .int) 83 (some (.int x)) := fun x => Or.inr (Or.inl ⟨x, _, rfl, rfl, rfl, by decide +kernel⟩)
theorem eX12_hangMany_0 : aPI cX12_hangMany 0 (nI 0) 1 := Or.inl ⟨0, by decide +kernel, by decide +kernel, rfl⟩
theorem eX12_hangMany_1 : aIS cX12_hangMany 1 1 2 := Or.inl ⟨1, by decide +kernel, rfl, rfl⟩
theorem eX12_hangMany_2 : aPI cX12_hangMany 2 (nI 0) 3 := Or.inl ⟨0, by decide +kernel, by decide +kernel, rfl⟩
theorem eX12_hangMany_3 : aIS cX12_hangMany 3 2 4 := Or.inl ⟨2, by decide +kernel, rfl, rfl⟩
theorem eX12_hangMany_4 : aIL cX12_hangMany 4 2 5 := Or.inl ⟨2, by decide +kernel, rfl, rfl⟩
theorem eX12_hangMany_5 : aAL cX12_hangMany 5 0 6 := Or.inl ⟨0, by decide +kernel, rfl, rfl⟩
theorem eX12_hangMany_6 : aI3 cX12_hangMany 6 (.getfield 97) 9 := ⟨by decide +kernel, rfl⟩
theorem eX12_hangMany_9 : aIc_ge cX12_hangMany 9 12 34 := ⟨25, by decide +kernel, rfl, by decide⟩
theorem eX12_hangMany_12 : aIL cX12_hangMany 12 1 13 := Or.inl ⟨1, by decide +kernel, rfl, rfl⟩
theorem eX12_hangMany_13 : aAL cX12_hangMany 13 0 14 := Or.inl ⟨0, by decide +kernel, rfl, rfl⟩
theorem eX12_hangMany_14 : aIL cX12_hangMany 14 2 15 := Or.inl ⟨2, by decide +kernel, rfl, rfl⟩
theorem eX12_hangMany_15 : aI3 cX12_hangMany 15 (.invokevirtual 140) 18 := ⟨by decide +kernel, rfl⟩
theorem eX12_hangMany_18 : aIf_eq cX12_hangMany 18 21 25 := ⟨7, by decide +kernel, rfl, by decide⟩
theorem eX12_hangMany_21 : aPI cX12_hangMany 21 (nI 1) 22 := Or.inl ⟨1, by decide +kernel, by decide +kernel, rfl⟩
theorem eX12_hangMany_22 : aGo cX12_hangMany 22 26 := ⟨4, by decide +kernel, by decide⟩
theorem eX12_hangMany_25 : aPI cX12_hangMany 25 (nI 0) 26 := Or.inl ⟨0, by decide +kernel, by decide +kernel, rfl⟩
theorem eX12_hangMany_26 : aI1 cX12_hangMany 26 (.iadd) 27 := ⟨by decide +kernel, rfl⟩
theorem eX12_hangMany_27 : aIS cX12_hangMany 27 1 28 := Or.inl ⟨1, by decide +kernel, rfl, rfl⟩
theorem eX12_hangMany_28 : aII cX12_hangMany 28 2 (nI 1) 31 := ⟨1, by decide +kernel, by decide +kernel, rfl⟩
theorem eX12_hangMany_31 : aGo cX12_hangMany 31 4 := ⟨(-27), by decide +kernel, by decide⟩
theorem eX12_hangMany_34 : aIL cX12_hangMany 34 1 35 := Or.inl ⟨1, by decide +kernel, rfl, rfl⟩
theorem eX12_hangMany_35 : ∀ x : Int32, aRet cX12_hangMany (some .int) 35 (some (.int x)) := fun x => Or.inr (Or.inl ⟨x, _, rfl, rfl, rfl, by decide +kernel⟩)
theorem eX12_unlike_0 : aPI cX12_unlike 0 (nI 0) 1 := Or.inl ⟨0, by decide +kernel, by decide +kernel, rfl⟩
theorem eX12_unlike_1 : aIS cX12_unlike 1 1 2 := Or.inl ⟨1, by decide +kernel, rfl, rfl⟩
theorem eX12_unlike_2 : aPI cX12_unlike 2 (nI 0) 3 := Or.inl ⟨0, by decide +kernel, by decide +kernel, rfl⟩
theorem eX12_unlike_3 : aIS cX12_unlike 3 2 4 := Or.inl ⟨2, by decide +kernel, rfl, rfl⟩
theorem eX12_unlike_4 : aIL cX12_unlike 4 2 5 := Or.inl ⟨2, by decide +kernel, rfl, rfl⟩
theorem eX12_unlike_5 : aAL cX12_unlike 5 0 6 := Or.inl ⟨0, by decide +kernel, rfl, rfl⟩
theorem eX12_unlike_6 : aI3 cX12_unlike 6 (.getfield 84) 9 := ⟨by decide +kernel, rfl⟩
theorem eX12_unlike_9 : aIc_ge cX12_unlike 9 12 29 := ⟨20, by decide +kernel, rfl, by decide⟩
theorem eX12_unlike_12 : aIL cX12_unlike 12 1 13 := Or.inl ⟨1, by decide +kernel, rfl, rfl⟩
theorem eX12_unlike_13 : aPI cX12_unlike 13 (nI 1) 14 := Or.inl ⟨1, by decide +kernel, by decide +kernel, rfl⟩
theorem eX12_unlike_14 : aAL cX12_unlike 14 0 15 := Or.inl ⟨0, by decide +kernel, rfl, rfl⟩
theorem eX12_unlike_15 : aI3 cX12_unlike 15 (.getfield 22) 18 := ⟨by decide +kernel, rfl⟩
theorem eX12_unlike_18 : aIL cX12_unlike 18 2 19 := Or.inl ⟨2, by decide +kernel, rfl, rfl⟩
theorem eX12_unlike_19 : aI1 cX12_unlike 19 (.iaload) 20 := ⟨by decide +kernel, rfl⟩
theorem eX12_unlike_20 : aI1 cX12_unlike 20 (.ishl) 21 := ⟨by decide +kernel, rfl⟩
theorem eX12_unlike_21 : aI1 cX12_unlike 21 (.ior) 22 := ⟨by decide +kernel, rfl⟩
theorem eX12_unlike_22 : aIS cX12_unlike 22 1 23 := Or.inl ⟨1, by decide +kernel, rfl, rfl⟩
theorem eX12_unlike_23 : aII cX12_unlike 23 2 (nI 1) 26 := ⟨1, by decide +kernel, by decide +kernel, rfl⟩
theorem eX12_unlike_26 : aGo cX12_unlike 26 4 := ⟨(-22), by decide +kernel, by decide⟩
theorem eX12_unlike_29 : aIL cX12_unlike 29 1 30 := Or.inl ⟨1, by decide +kernel, rfl, rfl⟩
theorem eX12_unlike_30 : aI3 cX12_unlike 30 (.invokestatic 137) 33 := ⟨by decide +kernel, rfl⟩
theorem eX12_unlike_33 : ∀ x : Int32, aRet cX12_unlike (some .int) 33 (some (.int x)) := fun x => Or.inr (Or.inl ⟨x, _, rfl, rfl, rfl, by decide +kernel⟩)
theorem eX12_countOf_0 : aIL cX12_countOf 0 1 1 := Or.inl ⟨1, by decide +kernel, rfl, rfl⟩
theorem eX12_countOf_1 : decode cX12_countOf 1 = .ok (.tableswitch 105 0 9 #[55, 60, 65, 70, 75, 80, 85, 90, 95, 100], 55) := by decide +kernel
theorem eX12_countOf_56 : aAL cX12_countOf 56 0 57 := Or.inl ⟨0, by decide +kernel, rfl, rfl⟩
theorem eX12_countOf_57 : aI3 cX12_countOf 57 (.getfield 84) 60 := ⟨by decide +kernel, rfl⟩
theorem eX12_countOf_60 : ∀ x : Int32, aRet cX12_countOf (some .int) 60 (some (.int x)) := fun x => Or.inr (Or.inl ⟨x, _, rfl, rfl, rfl, by decide +kernel⟩)
theorem eX12_countOf_61 : aAL cX12_countOf 61 0 62 := Or.inl ⟨0, by decide +kernel, rfl, rfl⟩
theorem eX12_countOf_62 : aI3 cX12_countOf 62 (.getfield 91) 65 := ⟨by decide +kernel, rfl⟩
theorem eX12_countOf_65 : ∀ x : Int32, aRet cX12_countOf (some .int) 65 (some (.int x)) := fun x => Or.inr (Or.inl ⟨x, _, rfl, rfl, rfl, by decide +kernel⟩)
theorem eX12_countOf_66 : aAL cX12_countOf 66 0 67 := Or.inl ⟨0, by decide +kernel, rfl, rfl⟩
theorem eX12_countOf_67 : aI3 cX12_countOf 67 (.getfield 97) 70 := ⟨by decide +kernel, rfl⟩
theorem eX12_countOf_70 : ∀ x : Int32, aRet cX12_countOf (some .int) 70 (some (.int x)) := fun x => Or.inr (Or.inl ⟨x, _, rfl, rfl, rfl, by decide +kernel⟩)
theorem eX12_countOf_71 : aAL cX12_countOf 71 0 72 := Or.inl ⟨0, by decide +kernel, rfl, rfl⟩
theorem eX12_countOf_72 : aI3 cX12_countOf 72 (.invokevirtual 206) 75 := ⟨by decide +kernel, rfl⟩
theorem eX12_countOf_75 : ∀ x : Int32, aRet cX12_countOf (some .int) 75 (some (.int x)) := fun x => Or.inr (Or.inl ⟨x, _, rfl, rfl, rfl, by decide +kernel⟩)
theorem eX12_countOf_76 : aAL cX12_countOf 76 0 77 := Or.inl ⟨0, by decide +kernel, rfl, rfl⟩
theorem eX12_countOf_77 : aI3 cX12_countOf 77 (.invokevirtual 209) 80 := ⟨by decide +kernel, rfl⟩
theorem eX12_countOf_80 : ∀ x : Int32, aRet cX12_countOf (some .int) 80 (some (.int x)) := fun x => Or.inr (Or.inl ⟨x, _, rfl, rfl, rfl, by decide +kernel⟩)
theorem eX12_countOf_81 : aAL cX12_countOf 81 0 82 := Or.inl ⟨0, by decide +kernel, rfl, rfl⟩
theorem eX12_countOf_82 : aI3 cX12_countOf 82 (.getfield 94) 85 := ⟨by decide +kernel, rfl⟩
theorem eX12_countOf_85 : ∀ x : Int32, aRet cX12_countOf (some .int) 85 (some (.int x)) := fun x => Or.inr (Or.inl ⟨x, _, rfl, rfl, rfl, by decide +kernel⟩)
theorem eX12_countOf_86 : aAL cX12_countOf 86 0 87 := Or.inl ⟨0, by decide +kernel, rfl, rfl⟩
theorem eX12_countOf_87 : aI3 cX12_countOf 87 (.getfield 100) 90 := ⟨by decide +kernel, rfl⟩
theorem eX12_countOf_90 : ∀ x : Int32, aRet cX12_countOf (some .int) 90 (some (.int x)) := fun x => Or.inr (Or.inl ⟨x, _, rfl, rfl, rfl, by decide +kernel⟩)
theorem eX12_countOf_91 : aAL cX12_countOf 91 0 92 := Or.inl ⟨0, by decide +kernel, rfl, rfl⟩
theorem eX12_countOf_92 : aI3 cX12_countOf 92 (.getfield 62) 95 := ⟨by decide +kernel, rfl⟩
theorem eX12_countOf_95 : ∀ x : Int32, aRet cX12_countOf (some .int) 95 (some (.int x)) := fun x => Or.inr (Or.inl ⟨x, _, rfl, rfl, rfl, by decide +kernel⟩)
theorem eX12_countOf_96 : aAL cX12_countOf 96 0 97 := Or.inl ⟨0, by decide +kernel, rfl, rfl⟩
theorem eX12_countOf_97 : aI3 cX12_countOf 97 (.getfield 103) 100 := ⟨by decide +kernel, rfl⟩
theorem eX12_countOf_100 : ∀ x : Int32, aRet cX12_countOf (some .int) 100 (some (.int x)) := fun x => Or.inr (Or.inl ⟨x, _, rfl, rfl, rfl, by decide +kernel⟩)
theorem eX12_countOf_101 : aAL cX12_countOf 101 0 102 := Or.inl ⟨0, by decide +kernel, rfl, rfl⟩
theorem eX12_countOf_102 : aI3 cX12_countOf 102 (.getfield 161) 105 := ⟨by decide +kernel, rfl⟩
theorem eX12_countOf_105 : ∀ x : Int32, aRet cX12_countOf (some .int) 105 (some (.int x)) := fun x => Or.inr (Or.inl ⟨x, _, rfl, rfl, rfl, by decide +kernel⟩)
theorem eX12_countOf_106 : aPI cX12_countOf 106 (-102) 108 := Or.inr (Or.inl ⟨(-102), by decide +kernel, by decide +kernel, rfl⟩)
theorem eX12_countOf_108 : ∀ x : Int32, aRet cX12_countOf (some .int) 108 (some (.int x)) := fun x => Or.inr (Or.inl ⟨x, _, rfl, rfl, rfl, by decide +kernel⟩)
theorem eX12_count_0 : aAL cX12_count 0 0 1 := Or.inl ⟨0, by decide +kernel, rfl, rfl⟩
theorem eX12_count_1 : aIL cX12_count 1 1 2 := Or.inl ⟨1, by decide +kernel, rfl, rfl⟩
theorem eX12_count_2 : aI3 cX12_count 2 (.invokevirtual 212) 5 := ⟨by decide +kernel, rfl⟩
theorem eX12_count_5 : ∀ x : Int32, aRet cX12_count (some .int) 5 (some (.int x)) := fun x => Or.inr (Or.inl ⟨x, _, rfl, rfl, rfl, by decide +kernel⟩)
theorem eX12_say_0 : aAL cX12_say 0 0 1 := Or.inl ⟨0, by decide +kernel, rfl, rfl⟩
theorem eX12_say_1 : aI3 cX12_say 1 (.ldc2_w 215) 4 := ⟨by decide +kernel, rfl⟩
theorem eX12_say_4 : aAL cX12_say 4 0 5 := Or.inl ⟨0, by decide +kernel, rfl, rfl⟩
theorem eX12_say_5 : aI3 cX12_say 5 (.getfield 217) 8 := ⟨by decide +kernel, rfl⟩
theorem eX12_say_8 : aI1 cX12_say 8 (.lmul) 9 := ⟨by decide +kernel, rfl⟩
theorem eX12_say_9 : aLL cX12_say 9 1 10 := Or.inl ⟨1, by decide +kernel, rfl, rfl⟩
theorem eX12_say_10 : aI1 cX12_say 10 (.ladd) 11 := ⟨by decide +kernel, rfl⟩
theorem eX12_say_11 : aI3 cX12_say 11 (.putfield 217) 14 := ⟨by decide +kernel, rfl⟩
theorem eX12_say_14 : aRet cX12_say none 14 none := Or.inl ⟨rfl, rfl, by decide +kernel⟩
theorem eX12_digest_0 : aAL cX12_digest 0 0 1 := Or.inl ⟨0, by decide +kernel, rfl, rfl⟩
theorem eX12_digest_1 : aI3 cX12_digest 1 (.ldc2_w 221) 4 := ⟨by decide +kernel, rfl⟩
theorem eX12_digest_4 : aI3 cX12_digest 4 (.putfield 217) 7 := ⟨by decide +kernel, rfl⟩
theorem eX12_digest_7 : aPI cX12_digest 7 (nI 0) 8 := Or.inl ⟨0, by decide +kernel, by decide +kernel, rfl⟩
theorem eX12_digest_8 : aIS cX12_digest 8 1 9 := Or.inl ⟨1, by decide +kernel, rfl, rfl⟩
theorem eX12_digest_9 : aIL cX12_digest 9 1 10 := Or.inl ⟨1, by decide +kernel, rfl, rfl⟩
theorem eX12_digest_10 : aPI cX12_digest 10 (nI 5) 11 := Or.inl ⟨5, by decide +kernel, by decide +kernel, rfl⟩
theorem eX12_digest_11 : aIc_ge cX12_digest 11 14 38 := ⟨27, by decide +kernel, rfl, by decide⟩
theorem eX12_digest_14 : aAL cX12_digest 14 0 15 := Or.inl ⟨0, by decide +kernel, rfl, rfl⟩
theorem eX12_digest_15 : aI3 cX12_digest 15 (.invokevirtual 106) 18 := ⟨by decide +kernel, rfl⟩
theorem eX12_digest_18 : aIf_ne cX12_digest 18 21 38 := ⟨20, by decide +kernel, rfl, by decide⟩
theorem eX12_digest_21 : aAL cX12_digest 21 0 22 := Or.inl ⟨0, by decide +kernel, rfl, rfl⟩
theorem eX12_digest_22 : aAL cX12_digest 22 0 23 := Or.inl ⟨0, by decide +kernel, rfl, rfl⟩
theorem eX12_digest_23 : aI3 cX12_digest 23 (.getfield 19) 26 := ⟨by decide +kernel, rfl⟩
theorem eX12_digest_26 : aIL cX12_digest 26 1 27 := Or.inl ⟨1, by decide +kernel, rfl, rfl⟩
theorem eX12_digest_27 : aI1 cX12_digest 27 (.iaload) 28 := ⟨by decide +kernel, rfl⟩
theorem eX12_digest_28 : aI1 cX12_digest 28 (.i2l) 29 := ⟨by decide +kernel, rfl⟩
theorem eX12_digest_29 : aI3 cX12_digest 29 (.invokevirtual 223) 32 := ⟨by decide +kernel, rfl⟩
theorem eX12_digest_32 : aII cX12_digest 32 1 (nI 1) 35 := ⟨1, by decide +kernel, by decide +kernel, rfl⟩
theorem eX12_digest_35 : aGo cX12_digest 35 9 := ⟨(-26), by decide +kernel, by decide⟩
theorem eX12_digest_38 : aPI cX12_digest 38 (nI 0) 39 := Or.inl ⟨0, by decide +kernel, by decide +kernel, rfl⟩
theorem eX12_digest_39 : aIS cX12_digest 39 1 40 := Or.inl ⟨1, by decide +kernel, rfl, rfl⟩
theorem eX12_digest_40 : aIL cX12_digest 40 1 41 := Or.inl ⟨1, by decide +kernel, rfl, rfl⟩
theorem eX12_digest_41 : aAL cX12_digest 41 0 42 := Or.inl ⟨0, by decide +kernel, rfl, rfl⟩
theorem eX12_digest_42 : aI3 cX12_digest 42 (.getfield 84) 45 := ⟨by decide +kernel, rfl⟩
theorem eX12_digest_45 : aIc_ge cX12_digest 45 48 65 := ⟨20, by decide +kernel, rfl, by decide⟩
theorem eX12_digest_48 : aAL cX12_digest 48 0 49 := Or.inl ⟨0, by decide +kernel, rfl, rfl⟩
theorem eX12_digest_49 : aAL cX12_digest 49 0 50 := Or.inl ⟨0, by decide +kernel, rfl, rfl⟩
theorem eX12_digest_50 : aI3 cX12_digest 50 (.getfield 22) 53 := ⟨by decide +kernel, rfl⟩
theorem eX12_digest_53 : aIL cX12_digest 53 1 54 := Or.inl ⟨1, by decide +kernel, rfl, rfl⟩
theorem eX12_digest_54 : aI1 cX12_digest 54 (.iaload) 55 := ⟨by decide +kernel, rfl⟩
theorem eX12_digest_55 : aI1 cX12_digest 55 (.i2l) 56 := ⟨by decide +kernel, rfl⟩
theorem eX12_digest_56 : aI3 cX12_digest 56 (.invokevirtual 223) 59 := ⟨by decide +kernel, rfl⟩
theorem eX12_digest_59 : aII cX12_digest 59 1 (nI 1) 62 := ⟨1, by decide +kernel, by decide +kernel, rfl⟩
theorem eX12_digest_62 : aGo cX12_digest 62 40 := ⟨(-22), by decide +kernel, by decide⟩
theorem eX12_digest_65 : aPI cX12_digest 65 (nI 0) 66 := Or.inl ⟨0, by decide +kernel, by decide +kernel, rfl⟩
theorem eX12_digest_66 : aIS cX12_digest 66 1 67 := Or.inl ⟨1, by decide +kernel, rfl, rfl⟩
theorem eX12_digest_67 : aIL cX12_digest 67 1 68 := Or.inl ⟨1, by decide +kernel, rfl, rfl⟩
theorem eX12_digest_68 : aAL cX12_digest 68 0 69 := Or.inl ⟨0, by decide +kernel, rfl, rfl⟩
theorem eX12_digest_69 : aI3 cX12_digest 69 (.getfield 97) 72 := ⟨by decide +kernel, rfl⟩
theorem eX12_digest_72 : aIc_ge cX12_digest 72 75 130 := ⟨58, by decide +kernel, rfl, by decide⟩
theorem eX12_digest_75 : aPI cX12_digest 75 (nI 0) 76 := Or.inl ⟨0, by decide +kernel, by decide +kernel, rfl⟩
theorem eX12_digest_76 : aIS cX12_digest 76 2 77 := Or.inl ⟨2, by decide +kernel, rfl, rfl⟩
theorem eX12_digest_77 : aIL cX12_digest 77 2 78 := Or.inl ⟨2, by decide +kernel, rfl, rfl⟩
theorem eX12_digest_78 : aPI cX12_digest 78 (nI 8) 80 := Or.inr (Or.inl ⟨8, by decide +kernel, by decide +kernel, rfl⟩)
theorem eX12_digest_80 : aIc_ge cX12_digest 80 83 100 := ⟨20, by decide +kernel, rfl, by decide⟩
theorem eX12_digest_83 : aAL cX12_digest 83 0 84 := Or.inl ⟨0, by decide +kernel, rfl, rfl⟩
theorem eX12_digest_84 : aAL cX12_digest 84 0 85 := Or.inl ⟨0, by decide +kernel, rfl, rfl⟩
theorem eX12_digest_85 : aIL cX12_digest 85 1 86 := Or.inl ⟨1, by decide +kernel, rfl, rfl⟩
theorem eX12_digest_86 : aIL cX12_digest 86 2 87 := Or.inl ⟨2, by decide +kernel, rfl, rfl⟩
theorem eX12_digest_87 : aI3 cX12_digest 87 (.invokevirtual 152) 90 := ⟨by decide +kernel, rfl⟩
theorem eX12_digest_90 : aI1 cX12_digest 90 (.i2l) 91 := ⟨by decide +kernel, rfl⟩
theorem eX12_digest_91 : aI3 cX12_digest 91 (.invokevirtual 223) 94 := ⟨by decide +kernel, rfl⟩
theorem eX12_digest_94 : aII cX12_digest 94 2 (nI 1) 97 := ⟨1, by decide +kernel, by decide +kernel, rfl⟩
theorem eX12_digest_97 : aGo cX12_digest 97 77 := ⟨(-20), by decide +kernel, by decide⟩
theorem eX12_digest_100 : aAL cX12_digest 100 0 101 := Or.inl ⟨0, by decide +kernel, rfl, rfl⟩
theorem eX12_digest_101 : aAL cX12_digest 101 0 102 := Or.inl ⟨0, by decide +kernel, rfl, rfl⟩
theorem eX12_digest_102 : aIL cX12_digest 102 1 103 := Or.inl ⟨1, by decide +kernel, rfl, rfl⟩
theorem eX12_digest_103 : aPI cX12_digest 103 (nI 2) 104 := Or.inl ⟨2, by decide +kernel, by decide +kernel, rfl⟩
theorem eX12_digest_104 : aPI cX12_digest 104 (nI 0) 105 := Or.inl ⟨0, by decide +kernel, by decide +kernel, rfl⟩
theorem eX12_digest_105 : aI3 cX12_digest 105 (.invokevirtual 169) 108 := ⟨by decide +kernel, rfl⟩
theorem eX12_digest_108 : aI1 cX12_digest 108 (.i2l) 109 := ⟨by decide +kernel, rfl⟩
theorem eX12_digest_109 : aI3 cX12_digest 109 (.invokevirtual 223) 112 := ⟨by decide +kernel, rfl⟩
theorem eX12_digest_112 : aAL cX12_digest 112 0 113 := Or.inl ⟨0, by decide +kernel, rfl, rfl⟩
theorem eX12_digest_113 : aAL cX12_digest 113 0 114 := Or.inl ⟨0, by decide +kernel, rfl, rfl⟩
theorem eX12_digest_114 : aIL cX12_digest 114 1 115 := Or.inl ⟨1, by decide +kernel, rfl, rfl⟩
theorem eX12_digest_115 : aPI cX12_digest 115 (nI 2) 116 := Or.inl ⟨2, by decide +kernel, by decide +kernel, rfl⟩
theorem eX12_digest_116 : aPI cX12_digest 116 (nI 1) 117 := Or.inl ⟨1, by decide +kernel, by decide +kernel, rfl⟩
theorem eX12_digest_117 : aI3 cX12_digest 117 (.invokevirtual 169) 120 := ⟨by decide +kernel, rfl⟩
theorem eX12_digest_120 : aI1 cX12_digest 120 (.i2l) 121 := ⟨by decide +kernel, rfl⟩
theorem eX12_digest_121 : aI3 cX12_digest 121 (.invokevirtual 223) 124 := ⟨by decide +kernel, rfl⟩
theorem eX12_digest_124 : aII cX12_digest 124 1 (nI 1) 127 := ⟨1, by decide +kernel, by decide +kernel, rfl⟩
theorem eX12_digest_127 : aGo cX12_digest 127 67 := ⟨(-60), by decide +kernel, by decide⟩
theorem eX12_digest_130 : aPI cX12_digest 130 (nI 0) 131 := Or.inl ⟨0, by decide +kernel, by decide +kernel, rfl⟩
theorem eX12_digest_131 : aIS cX12_digest 131 1 132 := Or.inl ⟨1, by decide +kernel, rfl, rfl⟩
theorem eX12_digest_132 : aIL cX12_digest 132 1 133 := Or.inl ⟨1, by decide +kernel, rfl, rfl⟩
theorem eX12_digest_133 : aAL cX12_digest 133 0 134 := Or.inl ⟨0, by decide +kernel, rfl, rfl⟩
theorem eX12_digest_134 : aI3 cX12_digest 134 (.getfield 62) 137 := ⟨by decide +kernel, rfl⟩
theorem eX12_digest_137 : aIc_ge cX12_digest 137 140 157 := ⟨20, by decide +kernel, rfl, by decide⟩
theorem eX12_digest_140 : aAL cX12_digest 140 0 141 := Or.inl ⟨0, by decide +kernel, rfl, rfl⟩
theorem eX12_digest_141 : aAL cX12_digest 141 0 142 := Or.inl ⟨0, by decide +kernel, rfl, rfl⟩
theorem eX12_digest_142 : aI3 cX12_digest 142 (.getfield 7) 145 := ⟨by decide +kernel, rfl⟩
theorem eX12_digest_145 : aIL cX12_digest 145 1 146 := Or.inl ⟨1, by decide +kernel, rfl, rfl⟩
theorem eX12_digest_146 : aI1 cX12_digest 146 (.iaload) 147 := ⟨by decide +kernel, rfl⟩
theorem eX12_digest_147 : aI1 cX12_digest 147 (.i2l) 148 := ⟨by decide +kernel, rfl⟩
theorem eX12_digest_148 : aI3 cX12_digest 148 (.invokevirtual 223) 151 := ⟨by decide +kernel, rfl⟩
theorem eX12_digest_151 : aII cX12_digest 151 1 (nI 1) 154 := ⟨1, by decide +kernel, by decide +kernel, rfl⟩
theorem eX12_digest_154 : aGo cX12_digest 154 132 := ⟨(-22), by decide +kernel, by decide⟩
theorem eX12_digest_157 : aPI cX12_digest 157 (nI 0) 158 := Or.inl ⟨0, by decide +kernel, by decide +kernel, rfl⟩
theorem eX12_digest_158 : aIS cX12_digest 158 1 159 := Or.inl ⟨1, by decide +kernel, rfl, rfl⟩
theorem eX12_digest_159 : aIL cX12_digest 159 1 160 := Or.inl ⟨1, by decide +kernel, rfl, rfl⟩
theorem eX12_digest_160 : aPI cX12_digest 160 (nI 10) 162 := Or.inr (Or.inl ⟨10, by decide +kernel, by decide +kernel, rfl⟩)
theorem eX12_digest_162 : aIc_ge cX12_digest 162 165 181 := ⟨19, by decide +kernel, rfl, by decide⟩
theorem eX12_digest_165 : aAL cX12_digest 165 0 166 := Or.inl ⟨0, by decide +kernel, rfl, rfl⟩
theorem eX12_digest_166 : aAL cX12_digest 166 0 167 := Or.inl ⟨0, by decide +kernel, rfl, rfl⟩
theorem eX12_digest_167 : aIL cX12_digest 167 1 168 := Or.inl ⟨1, by decide +kernel, rfl, rfl⟩
theorem eX12_digest_168 : aI3 cX12_digest 168 (.invokevirtual 212) 171 := ⟨by decide +kernel, rfl⟩
theorem eX12_digest_171 : aI1 cX12_digest 171 (.i2l) 172 := ⟨by decide +kernel, rfl⟩
theorem eX12_digest_172 : aI3 cX12_digest 172 (.invokevirtual 223) 175 := ⟨by decide +kernel, rfl⟩
theorem eX12_digest_175 : aII cX12_digest 175 1 (nI 1) 178 := ⟨1, by decide +kernel, by decide +kernel, rfl⟩
theorem eX12_digest_178 : aGo cX12_digest 178 159 := ⟨(-19), by decide +kernel, by decide⟩
theorem eX12_digest_181 : aAL cX12_digest 181 0 182 := Or.inl ⟨0, by decide +kernel, rfl, rfl⟩
theorem eX12_digest_182 : aI3 cX12_digest 182 (.getfield 217) 185 := ⟨by decide +kernel, rfl⟩
theorem eX12_digest_185 : ∀ x : Int64, aRet cX12_digest (some .long) 185 (some (.long x)) := fun x => Or.inr (Or.inr (Or.inl ⟨x, rfl, rfl, by decide +kernel⟩))
theorem eJ6_bitCount_0f7a4_0 : aIL cJ6_bitCount_0f7a4 0 0 1 := Or.inl ⟨0, by decide +kernel, rfl, rfl⟩
theorem eJ6_bitCount_0f7a4_1 : aIL cJ6_bitCount_0f7a4 1 0 2 := Or.inl ⟨0, by decide +kernel, rfl, rfl⟩
theorem eJ6_bitCount_0f7a4_2 : aPI cJ6_bitCount_0f7a4 2 (nI 1) 3 := Or.inl ⟨1, by decide +kernel, by decide +kernel, rfl⟩
theorem eJ6_bitCount_0f7a4_3 : aI1 cJ6_bitCount_0f7a4 3 (.iushr) 4 := ⟨by decide +kernel, rfl⟩
theorem eJ6_bitCount_0f7a4_4 : aLd cJ6_bitCount_0f7a4 4 265 7 := Or.inr ⟨by decide +kernel, rfl⟩
theorem eJ6_bitCount_0f7a4_7 : aI1 cJ6_bitCount_0f7a4 7 (.iand) 8 := ⟨by decide +kernel, rfl⟩
theorem eJ6_bitCount_0f7a4_8 : aI1 cJ6_bitCount_0f7a4 8 (.isub) 9 := ⟨by decide +kernel, rfl⟩
theorem eJ6_bitCount_0f7a4_9 : aIS cJ6_bitCount_0f7a4 9 0 10 := Or.inl ⟨0, by decide +kernel, rfl, rfl⟩
theorem eJ6_bitCount_0f7a4_10 : aIL cJ6_bitCount_0f7a4 10 0 11 := Or.inl ⟨0, by decide +kernel, rfl, rfl⟩
theorem eJ6_bitCount_0f7a4_11 : aLd cJ6_bitCount_0f7a4 11 266 14 := Or.inr ⟨by decide +kernel, rfl⟩
theorem eJ6_bitCount_0f7a4_14 : aI1 cJ6_bitCount_0f7a4 14 (.iand) 15 := ⟨by decide +kernel, rfl⟩
theorem eJ6_bitCount_0f7a4_15 : aIL cJ6_bitCount_0f7a4 15 0 16 := Or.inl ⟨0, by decide +kernel, rfl, rfl⟩
theorem eJ6_bitCount_0f7a4_16 : aPI cJ6_bitCount_0f7a4 16 (nI 2) 17 := Or.inl ⟨2, by decide +kernel, by decide +kernel, rfl⟩
theorem eJ6_bitCount_0f7a4_17 : aI1 cJ6_bitCount_0f7a4 17 (.iushr) 18 := ⟨by decide +kernel, rfl⟩
theorem eJ6_bitCount_0f7a4_18 : aLd cJ6_bitCount_0f7a4 18 266 21 := Or.inr ⟨by decide +kernel, rfl⟩
theorem eJ6_bitCount_0f7a4_21 : aI1 cJ6_bitCount_0f7a4 21 (.iand) 22 := ⟨by decide +kernel, rfl⟩
theorem eJ6_bitCount_0f7a4_22 : aI1 cJ6_bitCount_0f7a4 22 (.iadd) 23 := ⟨by decide +kernel, rfl⟩
theorem eJ6_bitCount_0f7a4_23 : aIS cJ6_bitCount_0f7a4 23 0 24 := Or.inl ⟨0, by decide +kernel, rfl, rfl⟩
theorem eJ6_bitCount_0f7a4_24 : aIL cJ6_bitCount_0f7a4 24 0 25 := Or.inl ⟨0, by decide +kernel, rfl, rfl⟩
theorem eJ6_bitCount_0f7a4_25 : aIL cJ6_bitCount_0f7a4 25 0 26 := Or.inl ⟨0, by decide +kernel, rfl, rfl⟩
theorem eJ6_bitCount_0f7a4_26 : aPI cJ6_bitCount_0f7a4 26 (nI 4) 27 := Or.inl ⟨4, by decide +kernel, by decide +kernel, rfl⟩
theorem eJ6_bitCount_0f7a4_27 : aI1 cJ6_bitCount_0f7a4 27 (.iushr) 28 := ⟨by decide +kernel, rfl⟩
theorem eJ6_bitCount_0f7a4_28 : aI1 cJ6_bitCount_0f7a4 28 (.iadd) 29 := ⟨by decide +kernel, rfl⟩
theorem eJ6_bitCount_0f7a4_29 : aLd cJ6_bitCount_0f7a4 29 267 32 := Or.inr ⟨by decide +kernel, rfl⟩
theorem eJ6_bitCount_0f7a4_32 : aI1 cJ6_bitCount_0f7a4 32 (.iand) 33 := ⟨by decide +kernel, rfl⟩
theorem eJ6_bitCount_0f7a4_33 : aIS cJ6_bitCount_0f7a4 33 0 34 := Or.inl ⟨0, by decide +kernel, rfl, rfl⟩
theorem eJ6_bitCount_0f7a4_34 : aIL cJ6_bitCount_0f7a4 34 0 35 := Or.inl ⟨0, by decide +kernel, rfl, rfl⟩
theorem eJ6_bitCount_0f7a4_35 : aIL cJ6_bitCount_0f7a4 35 0 36 := Or.inl ⟨0, by decide +kernel, rfl, rfl⟩
theorem eJ6_bitCount_0f7a4_36 : aPI cJ6_bitCount_0f7a4 36 (nI 8) 38 := Or.inr (Or.inl ⟨8, by decide +kernel, by decide +kernel, rfl⟩)
theorem eJ6_bitCount_0f7a4_38 : aI1 cJ6_bitCount_0f7a4 38 (.iushr) 39 := ⟨by decide +kernel, rfl⟩
theorem eJ6_bitCount_0f7a4_39 : aI1 cJ6_bitCount_0f7a4 39 (.iadd) 40 := ⟨by decide +kernel, rfl⟩
theorem eJ6_bitCount_0f7a4_40 : aIS cJ6_bitCount_0f7a4 40 0 41 := Or.inl ⟨0, by decide +kernel, rfl, rfl⟩
theorem eJ6_bitCount_0f7a4_41 : aIL cJ6_bitCount_0f7a4 41 0 42 := Or.inl ⟨0, by decide +kernel, rfl, rfl⟩
theorem eJ6_bitCount_0f7a4_42 : aIL cJ6_bitCount_0f7a4 42 0 43 := Or.inl ⟨0, by decide +kernel, rfl, rfl⟩
theorem eJ6_bitCount_0f7a4_43 : aPI cJ6_bitCount_0f7a4 43 (nI 16) 45 := Or.inr (Or.inl ⟨16, by decide +kernel, by decide +kernel, rfl⟩)
theorem eJ6_bitCount_0f7a4_45 : aI1 cJ6_bitCount_0f7a4 45 (.iushr) 46 := ⟨by decide +kernel, rfl⟩
theorem eJ6_bitCount_0f7a4_46 : aI1 cJ6_bitCount_0f7a4 46 (.iadd) 47 := ⟨by decide +kernel, rfl⟩
theorem eJ6_bitCount_0f7a4_47 : aIS cJ6_bitCount_0f7a4 47 0 48 := Or.inl ⟨0, by decide +kernel, rfl, rfl⟩
theorem eJ6_bitCount_0f7a4_48 : aIL cJ6_bitCount_0f7a4 48 0 49 := Or.inl ⟨0, by decide +kernel, rfl, rfl⟩
theorem eJ6_bitCount_0f7a4_49 : aPI cJ6_bitCount_0f7a4 49 (nI 63) 51 := Or.inr (Or.inl ⟨63, by decide +kernel, by decide +kernel, rfl⟩)
theorem eJ6_bitCount_0f7a4_51 : aI1 cJ6_bitCount_0f7a4 51 (.iand) 52 := ⟨by decide +kernel, rfl⟩
theorem eJ6_bitCount_0f7a4_52 : ∀ x : Int32, aRet cJ6_bitCount_0f7a4 (some .int) 52 (some (.int x)) := fun x => Or.inr (Or.inl ⟨x, _, rfl, rfl, rfl, by decide +kernel⟩)
theorem eJ9_max_7cf53_0 : aIL cJ9_max_7cf53 0 0 1 := Or.inl ⟨0, by decide +kernel, rfl, rfl⟩
theorem eJ9_max_7cf53_1 : aIL cJ9_max_7cf53 1 1 2 := Or.inl ⟨1, by decide +kernel, rfl, rfl⟩
theorem eJ9_max_7cf53_2 : aIc_lt cJ9_max_7cf53 2 5 9 := ⟨7, by decide +kernel, rfl, by decide⟩
theorem eJ9_max_7cf53_5 : aIL cJ9_max_7cf53 5 0 6 := Or.inl ⟨0, by decide +kernel, rfl, rfl⟩
theorem eJ9_max_7cf53_6 : aGo cJ9_max_7cf53 6 10 := ⟨4, by decide +kernel, by decide⟩
theorem eJ9_max_7cf53_9 : aIL cJ9_max_7cf53 9 1 10 := Or.inl ⟨1, by decide +kernel, rfl, rfl⟩
theorem eJ9_max_7cf53_10 : ∀ x : Int32, aRet cJ9_max_7cf53 (some .int) 10 (some (.int x)) := fun x => Or.inr (Or.inl ⟨x, _, rfl, rfl, rfl, by decide +kernel⟩)
theorem eL_law_0 : aI3 cL_law 0 (.new 7) 3 := ⟨by decide +kernel, rfl⟩
theorem eL_law_3 : aI1 cL_law 3 (.dup) 4 := ⟨by decide +kernel, rfl⟩
theorem eL_law_4 : aI3 cL_law 4 (.invokespecial 9) 7 := ⟨by decide +kernel, rfl⟩
theorem eL_law_7 : aAS cL_law 7 1 8 := Or.inl ⟨1, by decide +kernel, rfl, rfl⟩
theorem eL_law_8 : aI3 cL_law 8 (.new 10) 11 := ⟨by decide +kernel, rfl⟩
theorem eL_law_11 : aI1 cL_law 11 (.dup) 12 := ⟨by decide +kernel, rfl⟩
theorem eL_law_12 : aI3 cL_law 12 (.invokespecial 12) 15 := ⟨by decide +kernel, rfl⟩
theorem eL_law_15 : aAS cL_law 15 2 16 := Or.inl ⟨2, by decide +kernel, rfl, rfl⟩
theorem eL_law_16 : aPI cL_law 16 (nI 0) 17 := Or.inl ⟨0, by decide +kernel, by decide +kernel, rfl⟩
theorem eL_law_17 : aIS cL_law 17 3 18 := Or.inl ⟨3, by decide +kernel, rfl, rfl⟩
theorem eL_law_18 : aIL cL_law 18 3 19 := Or.inl ⟨3, by decide +kernel, rfl, rfl⟩
theorem eL_law_19 : aAL cL_law 19 0 20 := Or.inl ⟨0, by decide +kernel, rfl, rfl⟩
theorem eL_law_20 : aI1 cL_law 20 (.arraylength) 21 := ⟨by decide +kernel, rfl⟩
theorem eL_law_21 : aPI cL_law 21 (nI 4) 22 := Or.inl ⟨4, by decide +kernel, by decide +kernel, rfl⟩
theorem eL_law_22 : aI1 cL_law 22 (.isub) 23 := ⟨by decide +kernel, rfl⟩
theorem eL_law_23 : aIc_gt cL_law 23 26 705 := ⟨682, by decide +kernel, rfl, by decide⟩
theorem eL_law_26 : aAL cL_law 26 0 27 := Or.inl ⟨0, by decide +kernel, rfl, rfl⟩
theorem eL_law_27 : aIL cL_law 27 3 28 := Or.inl ⟨3, by decide +kernel, rfl, rfl⟩
theorem eL_law_28 : aI1 cL_law 28 (.iaload) 29 := ⟨by decide +kernel, rfl⟩
theorem eL_law_29 : aPI cL_law 29 (nI 31) 31 := Or.inr (Or.inl ⟨31, by decide +kernel, by decide +kernel, rfl⟩)
theorem eL_law_31 : aI1 cL_law 31 (.iand) 32 := ⟨by decide +kernel, rfl⟩
theorem eL_law_32 : decode cL_law 32 = .ok (.tableswitch 667 0 21 #[104, 127, 140, 153, 166, 189, 212, 245, 268, 301, 334, 367, 400, 423, 446, 489, 548, 561, 604, 617, 630, 653], 104) := by decide +kernel
theorem eL_law_136 : aAL cL_law 136 1 137 := Or.inl ⟨1, by decide +kernel, rfl, rfl⟩
theorem eL_law_137 : aAL cL_law 137 0 138 := Or.inl ⟨0, by decide +kernel, rfl, rfl⟩
theorem eL_law_138 : aIL cL_law 138 3 139 := Or.inl ⟨3, by decide +kernel, rfl, rfl⟩
theorem eL_law_139 : aPI cL_law 139 (nI 1) 140 := Or.inl ⟨1, by decide +kernel, by decide +kernel, rfl⟩
theorem eL_law_140 : aI1 cL_law 140 (.iadd) 141 := ⟨by decide +kernel, rfl⟩
theorem eL_law_141 : aI1 cL_law 141 (.iaload) 142 := ⟨by decide +kernel, rfl⟩
theorem eL_law_142 : aI3 cL_law 142 (.invokevirtual 13) 145 := ⟨by decide +kernel, rfl⟩
theorem eL_law_145 : aAL cL_law 145 2 146 := Or.inl ⟨2, by decide +kernel, rfl, rfl⟩
theorem eL_law_146 : aAL cL_law 146 0 147 := Or.inl ⟨0, by decide +kernel, rfl, rfl⟩
theorem eL_law_147 : aIL cL_law 147 3 148 := Or.inl ⟨3, by decide +kernel, rfl, rfl⟩
theorem eL_law_148 : aPI cL_law 148 (nI 1) 149 := Or.inl ⟨1, by decide +kernel, by decide +kernel, rfl⟩
theorem eL_law_149 : aI1 cL_law 149 (.iadd) 150 := ⟨by decide +kernel, rfl⟩
theorem eL_law_150 : aI1 cL_law 150 (.iaload) 151 := ⟨by decide +kernel, rfl⟩
theorem eL_law_151 : aI3 cL_law 151 (.invokevirtual 17) 154 := ⟨by decide +kernel, rfl⟩
theorem eL_law_154 : aIc_eq cL_law 154 157 699 := ⟨545, by decide +kernel, rfl, by decide⟩
theorem eL_law_157 : aPI cL_law 157 (nI 0) 158 := Or.inl ⟨0, by decide +kernel, by decide +kernel, rfl⟩
theorem eL_law_158 : ∀ x : Int32, (x = 0 ∨ x = 1) → aRet cL_law (some .boolean) 158 (some (.int x)) := fun x h => Or.inr (Or.inl ⟨x, _, rfl, rfl, by rcases h with rfl | rfl <;> decide +kernel, by decide +kernel⟩)
theorem eL_law_159 : aAL cL_law 159 1 160 := Or.inl ⟨1, by decide +kernel, rfl, rfl⟩
theorem eL_law_160 : aI3 cL_law 160 (.invokevirtual 18) 163 := ⟨by decide +kernel, rfl⟩
theorem eL_law_163 : aAL cL_law 163 2 164 := Or.inl ⟨2, by decide +kernel, rfl, rfl⟩
theorem eL_law_164 : aI3 cL_law 164 (.invokevirtual 22) 167 := ⟨by decide +kernel, rfl⟩
theorem eL_law_167 : aIc_eq cL_law 167 170 699 := ⟨532, by decide +kernel, rfl, by decide⟩
theorem eL_law_170 : aPI cL_law 170 (nI 0) 171 := Or.inl ⟨0, by decide +kernel, by decide +kernel, rfl⟩
theorem eL_law_171 : ∀ x : Int32, (x = 0 ∨ x = 1) → aRet cL_law (some .boolean) 171 (some (.int x)) := fun x h => Or.inr (Or.inl ⟨x, _, rfl, rfl, by rcases h with rfl | rfl <;> decide +kernel, by decide +kernel⟩)
theorem eL_law_172 : aAL cL_law 172 1 173 := Or.inl ⟨1, by decide +kernel, rfl, rfl⟩
theorem eL_law_173 : aI3 cL_law 173 (.invokevirtual 23) 176 := ⟨by decide +kernel, rfl⟩
theorem eL_law_176 : aAL cL_law 176 2 177 := Or.inl ⟨2, by decide +kernel, rfl, rfl⟩
theorem eL_law_177 : aI3 cL_law 177 (.invokevirtual 26) 180 := ⟨by decide +kernel, rfl⟩
theorem eL_law_180 : aIc_eq cL_law 180 183 699 := ⟨519, by decide +kernel, rfl, by decide⟩
theorem eL_law_183 : aPI cL_law 183 (nI 0) 184 := Or.inl ⟨0, by decide +kernel, by decide +kernel, rfl⟩
theorem eL_law_184 : ∀ x : Int32, (x = 0 ∨ x = 1) → aRet cL_law (some .boolean) 184 (some (.int x)) := fun x h => Or.inr (Or.inl ⟨x, _, rfl, rfl, by rcases h with rfl | rfl <;> decide +kernel, by decide +kernel⟩)
theorem eL_law_185 : aAL cL_law 185 1 186 := Or.inl ⟨1, by decide +kernel, rfl, rfl⟩
theorem eL_law_186 : aI3 cL_law 186 (.invokevirtual 27) 189 := ⟨by decide +kernel, rfl⟩
theorem eL_law_189 : aAL cL_law 189 2 190 := Or.inl ⟨2, by decide +kernel, rfl, rfl⟩
theorem eL_law_190 : aI3 cL_law 190 (.invokevirtual 30) 193 := ⟨by decide +kernel, rfl⟩
theorem eL_law_193 : aIc_eq cL_law 193 196 699 := ⟨506, by decide +kernel, rfl, by decide⟩
theorem eL_law_196 : aPI cL_law 196 (nI 0) 197 := Or.inl ⟨0, by decide +kernel, by decide +kernel, rfl⟩
theorem eL_law_197 : ∀ x : Int32, (x = 0 ∨ x = 1) → aRet cL_law (some .boolean) 197 (some (.int x)) := fun x h => Or.inr (Or.inl ⟨x, _, rfl, rfl, by rcases h with rfl | rfl <;> decide +kernel, by decide +kernel⟩)
theorem eL_law_198 : aAL cL_law 198 1 199 := Or.inl ⟨1, by decide +kernel, rfl, rfl⟩
theorem eL_law_199 : aAL cL_law 199 0 200 := Or.inl ⟨0, by decide +kernel, rfl, rfl⟩
theorem eL_law_200 : aIL cL_law 200 3 201 := Or.inl ⟨3, by decide +kernel, rfl, rfl⟩
theorem eL_law_201 : aPI cL_law 201 (nI 1) 202 := Or.inl ⟨1, by decide +kernel, by decide +kernel, rfl⟩
theorem eL_law_202 : aI1 cL_law 202 (.iadd) 203 := ⟨by decide +kernel, rfl⟩
theorem eL_law_203 : aI1 cL_law 203 (.iaload) 204 := ⟨by decide +kernel, rfl⟩
theorem eL_law_204 : aI3 cL_law 204 (.invokevirtual 31) 207 := ⟨by decide +kernel, rfl⟩
theorem eL_law_207 : aAL cL_law 207 2 208 := Or.inl ⟨2, by decide +kernel, rfl, rfl⟩
theorem eL_law_208 : aAL cL_law 208 0 209 := Or.inl ⟨0, by decide +kernel, rfl, rfl⟩
theorem eL_law_209 : aIL cL_law 209 3 210 := Or.inl ⟨3, by decide +kernel, rfl, rfl⟩
theorem eL_law_210 : aPI cL_law 210 (nI 1) 211 := Or.inl ⟨1, by decide +kernel, by decide +kernel, rfl⟩
theorem eL_law_211 : aI1 cL_law 211 (.iadd) 212 := ⟨by decide +kernel, rfl⟩
theorem eL_law_212 : aI1 cL_law 212 (.iaload) 213 := ⟨by decide +kernel, rfl⟩
theorem eL_law_213 : aI3 cL_law 213 (.invokevirtual 34) 216 := ⟨by decide +kernel, rfl⟩
theorem eL_law_216 : aIc_eq cL_law 216 219 699 := ⟨483, by decide +kernel, rfl, by decide⟩
theorem eL_law_219 : aPI cL_law 219 (nI 0) 220 := Or.inl ⟨0, by decide +kernel, by decide +kernel, rfl⟩
theorem eL_law_220 : ∀ x : Int32, (x = 0 ∨ x = 1) → aRet cL_law (some .boolean) 220 (some (.int x)) := fun x h => Or.inr (Or.inl ⟨x, _, rfl, rfl, by rcases h with rfl | rfl <;> decide +kernel, by decide +kernel⟩)
theorem eL_law_221 : aAL cL_law 221 1 222 := Or.inl ⟨1, by decide +kernel, rfl, rfl⟩
theorem eL_law_222 : aAL cL_law 222 0 223 := Or.inl ⟨0, by decide +kernel, rfl, rfl⟩
theorem eL_law_223 : aIL cL_law 223 3 224 := Or.inl ⟨3, by decide +kernel, rfl, rfl⟩
theorem eL_law_224 : aPI cL_law 224 (nI 1) 225 := Or.inl ⟨1, by decide +kernel, by decide +kernel, rfl⟩
theorem eL_law_225 : aI1 cL_law 225 (.iadd) 226 := ⟨by decide +kernel, rfl⟩
theorem eL_law_226 : aI1 cL_law 226 (.iaload) 227 := ⟨by decide +kernel, rfl⟩
theorem eL_law_227 : aI3 cL_law 227 (.invokevirtual 35) 230 := ⟨by decide +kernel, rfl⟩
theorem eL_law_230 : aAL cL_law 230 2 231 := Or.inl ⟨2, by decide +kernel, rfl, rfl⟩
theorem eL_law_231 : aAL cL_law 231 0 232 := Or.inl ⟨0, by decide +kernel, rfl, rfl⟩
theorem eL_law_232 : aIL cL_law 232 3 233 := Or.inl ⟨3, by decide +kernel, rfl, rfl⟩
theorem eL_law_233 : aPI cL_law 233 (nI 1) 234 := Or.inl ⟨1, by decide +kernel, by decide +kernel, rfl⟩
theorem eL_law_234 : aI1 cL_law 234 (.iadd) 235 := ⟨by decide +kernel, rfl⟩
theorem eL_law_235 : aI1 cL_law 235 (.iaload) 236 := ⟨by decide +kernel, rfl⟩
theorem eL_law_236 : aI3 cL_law 236 (.invokevirtual 38) 239 := ⟨by decide +kernel, rfl⟩
theorem eL_law_239 : aIc_eq cL_law 239 242 699 := ⟨460, by decide +kernel, rfl, by decide⟩
theorem eL_law_242 : aPI cL_law 242 (nI 0) 243 := Or.inl ⟨0, by decide +kernel, by decide +kernel, rfl⟩
theorem eL_law_243 : ∀ x : Int32, (x = 0 ∨ x = 1) → aRet cL_law (some .boolean) 243 (some (.int x)) := fun x h => Or.inr (Or.inl ⟨x, _, rfl, rfl, by rcases h with rfl | rfl <;> decide +kernel, by decide +kernel⟩)
theorem eL_law_244 : aAL cL_law 244 1 245 := Or.inl ⟨1, by decide +kernel, rfl, rfl⟩
theorem eL_law_245 : aAL cL_law 245 0 246 := Or.inl ⟨0, by decide +kernel, rfl, rfl⟩
theorem eL_law_246 : aIL cL_law 246 3 247 := Or.inl ⟨3, by decide +kernel, rfl, rfl⟩
theorem eL_law_247 : aPI cL_law 247 (nI 1) 248 := Or.inl ⟨1, by decide +kernel, by decide +kernel, rfl⟩
theorem eL_law_248 : aI1 cL_law 248 (.iadd) 249 := ⟨by decide +kernel, rfl⟩
theorem eL_law_249 : aI1 cL_law 249 (.iaload) 250 := ⟨by decide +kernel, rfl⟩
theorem eL_law_250 : aAL cL_law 250 0 251 := Or.inl ⟨0, by decide +kernel, rfl, rfl⟩
theorem eL_law_251 : aIL cL_law 251 3 252 := Or.inl ⟨3, by decide +kernel, rfl, rfl⟩
theorem eL_law_252 : aPI cL_law 252 (nI 2) 253 := Or.inl ⟨2, by decide +kernel, by decide +kernel, rfl⟩
theorem eL_law_253 : aI1 cL_law 253 (.iadd) 254 := ⟨by decide +kernel, rfl⟩
theorem eL_law_254 : aI1 cL_law 254 (.iaload) 255 := ⟨by decide +kernel, rfl⟩
theorem eL_law_255 : aI3 cL_law 255 (.invokevirtual 39) 258 := ⟨by decide +kernel, rfl⟩
theorem eL_law_258 : aAL cL_law 258 2 259 := Or.inl ⟨2, by decide +kernel, rfl, rfl⟩
theorem eL_law_259 : aAL cL_law 259 0 260 := Or.inl ⟨0, by decide +kernel, rfl, rfl⟩
theorem eL_law_260 : aIL cL_law 260 3 261 := Or.inl ⟨3, by decide +kernel, rfl, rfl⟩
theorem eL_law_261 : aPI cL_law 261 (nI 1) 262 := Or.inl ⟨1, by decide +kernel, by decide +kernel, rfl⟩
theorem eL_law_262 : aI1 cL_law 262 (.iadd) 263 := ⟨by decide +kernel, rfl⟩
theorem eL_law_263 : aI1 cL_law 263 (.iaload) 264 := ⟨by decide +kernel, rfl⟩
theorem eL_law_264 : aAL cL_law 264 0 265 := Or.inl ⟨0, by decide +kernel, rfl, rfl⟩
theorem eL_law_265 : aIL cL_law 265 3 266 := Or.inl ⟨3, by decide +kernel, rfl, rfl⟩
theorem eL_law_266 : aPI cL_law 266 (nI 2) 267 := Or.inl ⟨2, by decide +kernel, by decide +kernel, rfl⟩
theorem eL_law_267 : aI1 cL_law 267 (.iadd) 268 := ⟨by decide +kernel, rfl⟩
theorem eL_law_268 : aI1 cL_law 268 (.iaload) 269 := ⟨by decide +kernel, rfl⟩
theorem eL_law_269 : aI3 cL_law 269 (.invokevirtual 43) 272 := ⟨by decide +kernel, rfl⟩
theorem eL_law_272 : aIc_eq cL_law 272 275 699 := ⟨427, by decide +kernel, rfl, by decide⟩
theorem eL_law_275 : aPI cL_law 275 (nI 0) 276 := Or.inl ⟨0, by decide +kernel, by decide +kernel, rfl⟩
theorem eL_law_276 : ∀ x : Int32, (x = 0 ∨ x = 1) → aRet cL_law (some .boolean) 276 (some (.int x)) := fun x h => Or.inr (Or.inl ⟨x, _, rfl, rfl, by rcases h with rfl | rfl <;> decide +kernel, by decide +kernel⟩)
theorem eL_law_277 : aAL cL_law 277 1 278 := Or.inl ⟨1, by decide +kernel, rfl, rfl⟩
theorem eL_law_278 : aAL cL_law 278 0 279 := Or.inl ⟨0, by decide +kernel, rfl, rfl⟩
theorem eL_law_279 : aIL cL_law 279 3 280 := Or.inl ⟨3, by decide +kernel, rfl, rfl⟩
theorem eL_law_280 : aPI cL_law 280 (nI 1) 281 := Or.inl ⟨1, by decide +kernel, by decide +kernel, rfl⟩
theorem eL_law_281 : aI1 cL_law 281 (.iadd) 282 := ⟨by decide +kernel, rfl⟩
theorem eL_law_282 : aI1 cL_law 282 (.iaload) 283 := ⟨by decide +kernel, rfl⟩
theorem eL_law_283 : aI3 cL_law 283 (.invokevirtual 44) 286 := ⟨by decide +kernel, rfl⟩
theorem eL_law_286 : aAL cL_law 286 2 287 := Or.inl ⟨2, by decide +kernel, rfl, rfl⟩
theorem eL_law_287 : aAL cL_law 287 0 288 := Or.inl ⟨0, by decide +kernel, rfl, rfl⟩
theorem eL_law_288 : aIL cL_law 288 3 289 := Or.inl ⟨3, by decide +kernel, rfl, rfl⟩
theorem eL_law_289 : aPI cL_law 289 (nI 1) 290 := Or.inl ⟨1, by decide +kernel, by decide +kernel, rfl⟩
theorem eL_law_290 : aI1 cL_law 290 (.iadd) 291 := ⟨by decide +kernel, rfl⟩
theorem eL_law_291 : aI1 cL_law 291 (.iaload) 292 := ⟨by decide +kernel, rfl⟩
theorem eL_law_292 : aI3 cL_law 292 (.invokevirtual 47) 295 := ⟨by decide +kernel, rfl⟩
theorem eL_law_295 : aIc_eq cL_law 295 298 699 := ⟨404, by decide +kernel, rfl, by decide⟩
theorem eL_law_298 : aPI cL_law 298 (nI 0) 299 := Or.inl ⟨0, by decide +kernel, by decide +kernel, rfl⟩
theorem eL_law_299 : ∀ x : Int32, (x = 0 ∨ x = 1) → aRet cL_law (some .boolean) 299 (some (.int x)) := fun x h => Or.inr (Or.inl ⟨x, _, rfl, rfl, by rcases h with rfl | rfl <;> decide +kernel, by decide +kernel⟩)
theorem eL_law_300 : aAL cL_law 300 1 301 := Or.inl ⟨1, by decide +kernel, rfl, rfl⟩
theorem eL_law_301 : aAL cL_law 301 0 302 := Or.inl ⟨0, by decide +kernel, rfl, rfl⟩
theorem eL_law_302 : aIL cL_law 302 3 303 := Or.inl ⟨3, by decide +kernel, rfl, rfl⟩
theorem eL_law_303 : aPI cL_law 303 (nI 1) 304 := Or.inl ⟨1, by decide +kernel, by decide +kernel, rfl⟩
theorem eL_law_304 : aI1 cL_law 304 (.iadd) 305 := ⟨by decide +kernel, rfl⟩
theorem eL_law_305 : aI1 cL_law 305 (.iaload) 306 := ⟨by decide +kernel, rfl⟩
theorem eL_law_306 : aAL cL_law 306 0 307 := Or.inl ⟨0, by decide +kernel, rfl, rfl⟩
theorem eL_law_307 : aIL cL_law 307 3 308 := Or.inl ⟨3, by decide +kernel, rfl, rfl⟩
theorem eL_law_308 : aPI cL_law 308 (nI 2) 309 := Or.inl ⟨2, by decide +kernel, by decide +kernel, rfl⟩
theorem eL_law_309 : aI1 cL_law 309 (.iadd) 310 := ⟨by decide +kernel, rfl⟩
theorem eL_law_310 : aI1 cL_law 310 (.iaload) 311 := ⟨by decide +kernel, rfl⟩
theorem eL_law_311 : aI3 cL_law 311 (.invokevirtual 48) 314 := ⟨by decide +kernel, rfl⟩
theorem eL_law_314 : aAL cL_law 314 2 315 := Or.inl ⟨2, by decide +kernel, rfl, rfl⟩
theorem eL_law_315 : aAL cL_law 315 0 316 := Or.inl ⟨0, by decide +kernel, rfl, rfl⟩
theorem eL_law_316 : aIL cL_law 316 3 317 := Or.inl ⟨3, by decide +kernel, rfl, rfl⟩
theorem eL_law_317 : aPI cL_law 317 (nI 1) 318 := Or.inl ⟨1, by decide +kernel, by decide +kernel, rfl⟩
theorem eL_law_318 : aI1 cL_law 318 (.iadd) 319 := ⟨by decide +kernel, rfl⟩
theorem eL_law_319 : aI1 cL_law 319 (.iaload) 320 := ⟨by decide +kernel, rfl⟩
theorem eL_law_320 : aAL cL_law 320 0 321 := Or.inl ⟨0, by decide +kernel, rfl, rfl⟩
theorem eL_law_321 : aIL cL_law 321 3 322 := Or.inl ⟨3, by decide +kernel, rfl, rfl⟩
theorem eL_law_322 : aPI cL_law 322 (nI 2) 323 := Or.inl ⟨2, by decide +kernel, by decide +kernel, rfl⟩
theorem eL_law_323 : aI1 cL_law 323 (.iadd) 324 := ⟨by decide +kernel, rfl⟩
theorem eL_law_324 : aI1 cL_law 324 (.iaload) 325 := ⟨by decide +kernel, rfl⟩
theorem eL_law_325 : aI3 cL_law 325 (.invokevirtual 51) 328 := ⟨by decide +kernel, rfl⟩
theorem eL_law_328 : aIc_eq cL_law 328 331 699 := ⟨371, by decide +kernel, rfl, by decide⟩
theorem eL_law_331 : aPI cL_law 331 (nI 0) 332 := Or.inl ⟨0, by decide +kernel, by decide +kernel, rfl⟩
theorem eL_law_332 : ∀ x : Int32, (x = 0 ∨ x = 1) → aRet cL_law (some .boolean) 332 (some (.int x)) := fun x h => Or.inr (Or.inl ⟨x, _, rfl, rfl, by rcases h with rfl | rfl <;> decide +kernel, by decide +kernel⟩)
theorem eL_law_333 : aAL cL_law 333 1 334 := Or.inl ⟨1, by decide +kernel, rfl, rfl⟩
theorem eL_law_334 : aAL cL_law 334 0 335 := Or.inl ⟨0, by decide +kernel, rfl, rfl⟩
theorem eL_law_335 : aIL cL_law 335 3 336 := Or.inl ⟨3, by decide +kernel, rfl, rfl⟩
theorem eL_law_336 : aPI cL_law 336 (nI 1) 337 := Or.inl ⟨1, by decide +kernel, by decide +kernel, rfl⟩
theorem eL_law_337 : aI1 cL_law 337 (.iadd) 338 := ⟨by decide +kernel, rfl⟩
theorem eL_law_338 : aI1 cL_law 338 (.iaload) 339 := ⟨by decide +kernel, rfl⟩
theorem eL_law_339 : aAL cL_law 339 0 340 := Or.inl ⟨0, by decide +kernel, rfl, rfl⟩
theorem eL_law_340 : aIL cL_law 340 3 341 := Or.inl ⟨3, by decide +kernel, rfl, rfl⟩
theorem eL_law_341 : aPI cL_law 341 (nI 2) 342 := Or.inl ⟨2, by decide +kernel, by decide +kernel, rfl⟩
theorem eL_law_342 : aI1 cL_law 342 (.iadd) 343 := ⟨by decide +kernel, rfl⟩
theorem eL_law_343 : aI1 cL_law 343 (.iaload) 344 := ⟨by decide +kernel, rfl⟩
theorem eL_law_344 : aI3 cL_law 344 (.invokevirtual 52) 347 := ⟨by decide +kernel, rfl⟩
theorem eL_law_347 : aAL cL_law 347 2 348 := Or.inl ⟨2, by decide +kernel, rfl, rfl⟩
theorem eL_law_348 : aAL cL_law 348 0 349 := Or.inl ⟨0, by decide +kernel, rfl, rfl⟩
theorem eL_law_349 : aIL cL_law 349 3 350 := Or.inl ⟨3, by decide +kernel, rfl, rfl⟩
theorem eL_law_350 : aPI cL_law 350 (nI 1) 351 := Or.inl ⟨1, by decide +kernel, by decide +kernel, rfl⟩
theorem eL_law_351 : aI1 cL_law 351 (.iadd) 352 := ⟨by decide +kernel, rfl⟩
theorem eL_law_352 : aI1 cL_law 352 (.iaload) 353 := ⟨by decide +kernel, rfl⟩
theorem eL_law_353 : aAL cL_law 353 0 354 := Or.inl ⟨0, by decide +kernel, rfl, rfl⟩
theorem eL_law_354 : aIL cL_law 354 3 355 := Or.inl ⟨3, by decide +kernel, rfl, rfl⟩
theorem eL_law_355 : aPI cL_law 355 (nI 2) 356 := Or.inl ⟨2, by decide +kernel, by decide +kernel, rfl⟩
theorem eL_law_356 : aI1 cL_law 356 (.iadd) 357 := ⟨by decide +kernel, rfl⟩
theorem eL_law_357 : aI1 cL_law 357 (.iaload) 358 := ⟨by decide +kernel, rfl⟩
theorem eL_law_358 : aI3 cL_law 358 (.invokevirtual 55) 361 := ⟨by decide +kernel, rfl⟩
theorem eL_law_361 : aIc_eq cL_law 361 364 699 := ⟨338, by decide +kernel, rfl, by decide⟩
theorem eL_law_364 : aPI cL_law 364 (nI 0) 365 := Or.inl ⟨0, by decide +kernel, by decide +kernel, rfl⟩
theorem eL_law_365 : ∀ x : Int32, (x = 0 ∨ x = 1) → aRet cL_law (some .boolean) 365 (some (.int x)) := fun x h => Or.inr (Or.inl ⟨x, _, rfl, rfl, by rcases h with rfl | rfl <;> decide +kernel, by decide +kernel⟩)
theorem eL_law_366 : aAL cL_law 366 1 367 := Or.inl ⟨1, by decide +kernel, rfl, rfl⟩
theorem eL_law_367 : aAL cL_law 367 0 368 := Or.inl ⟨0, by decide +kernel, rfl, rfl⟩
theorem eL_law_368 : aIL cL_law 368 3 369 := Or.inl ⟨3, by decide +kernel, rfl, rfl⟩
theorem eL_law_369 : aPI cL_law 369 (nI 1) 370 := Or.inl ⟨1, by decide +kernel, by decide +kernel, rfl⟩
theorem eL_law_370 : aI1 cL_law 370 (.iadd) 371 := ⟨by decide +kernel, rfl⟩
theorem eL_law_371 : aI1 cL_law 371 (.iaload) 372 := ⟨by decide +kernel, rfl⟩
theorem eL_law_372 : aAL cL_law 372 0 373 := Or.inl ⟨0, by decide +kernel, rfl, rfl⟩
theorem eL_law_373 : aIL cL_law 373 3 374 := Or.inl ⟨3, by decide +kernel, rfl, rfl⟩
theorem eL_law_374 : aPI cL_law 374 (nI 2) 375 := Or.inl ⟨2, by decide +kernel, by decide +kernel, rfl⟩
theorem eL_law_375 : aI1 cL_law 375 (.iadd) 376 := ⟨by decide +kernel, rfl⟩
theorem eL_law_376 : aI1 cL_law 376 (.iaload) 377 := ⟨by decide +kernel, rfl⟩
theorem eL_law_377 : aI3 cL_law 377 (.invokevirtual 56) 380 := ⟨by decide +kernel, rfl⟩
theorem eL_law_380 : aAL cL_law 380 2 381 := Or.inl ⟨2, by decide +kernel, rfl, rfl⟩
theorem eL_law_381 : aAL cL_law 381 0 382 := Or.inl ⟨0, by decide +kernel, rfl, rfl⟩
theorem eL_law_382 : aIL cL_law 382 3 383 := Or.inl ⟨3, by decide +kernel, rfl, rfl⟩
theorem eL_law_383 : aPI cL_law 383 (nI 1) 384 := Or.inl ⟨1, by decide +kernel, by decide +kernel, rfl⟩
theorem eL_law_384 : aI1 cL_law 384 (.iadd) 385 := ⟨by decide +kernel, rfl⟩
theorem eL_law_385 : aI1 cL_law 385 (.iaload) 386 := ⟨by decide +kernel, rfl⟩
theorem eL_law_386 : aAL cL_law 386 0 387 := Or.inl ⟨0, by decide +kernel, rfl, rfl⟩
theorem eL_law_387 : aIL cL_law 387 3 388 := Or.inl ⟨3, by decide +kernel, rfl, rfl⟩
theorem eL_law_388 : aPI cL_law 388 (nI 2) 389 := Or.inl ⟨2, by decide +kernel, by decide +kernel, rfl⟩
theorem eL_law_389 : aI1 cL_law 389 (.iadd) 390 := ⟨by decide +kernel, rfl⟩
theorem eL_law_390 : aI1 cL_law 390 (.iaload) 391 := ⟨by decide +kernel, rfl⟩
theorem eL_law_391 : aI3 cL_law 391 (.invokevirtual 59) 394 := ⟨by decide +kernel, rfl⟩
theorem eL_law_394 : aIc_eq cL_law 394 397 699 := ⟨305, by decide +kernel, rfl, by decide⟩
theorem eL_law_397 : aPI cL_law 397 (nI 0) 398 := Or.inl ⟨0, by decide +kernel, by decide +kernel, rfl⟩
theorem eL_law_398 : ∀ x : Int32, (x = 0 ∨ x = 1) → aRet cL_law (some .boolean) 398 (some (.int x)) := fun x h => Or.inr (Or.inl ⟨x, _, rfl, rfl, by rcases h with rfl | rfl <;> decide +kernel, by decide +kernel⟩)
theorem eL_law_399 : aAL cL_law 399 1 400 := Or.inl ⟨1, by decide +kernel, rfl, rfl⟩
theorem eL_law_400 : aAL cL_law 400 0 401 := Or.inl ⟨0, by decide +kernel, rfl, rfl⟩
theorem eL_law_401 : aIL cL_law 401 3 402 := Or.inl ⟨3, by decide +kernel, rfl, rfl⟩
theorem eL_law_402 : aPI cL_law 402 (nI 1) 403 := Or.inl ⟨1, by decide +kernel, by decide +kernel, rfl⟩
theorem eL_law_403 : aI1 cL_law 403 (.iadd) 404 := ⟨by decide +kernel, rfl⟩
theorem eL_law_404 : aI1 cL_law 404 (.iaload) 405 := ⟨by decide +kernel, rfl⟩
theorem eL_law_405 : aAL cL_law 405 0 406 := Or.inl ⟨0, by decide +kernel, rfl, rfl⟩
theorem eL_law_406 : aIL cL_law 406 3 407 := Or.inl ⟨3, by decide +kernel, rfl, rfl⟩
theorem eL_law_407 : aPI cL_law 407 (nI 2) 408 := Or.inl ⟨2, by decide +kernel, by decide +kernel, rfl⟩
theorem eL_law_408 : aI1 cL_law 408 (.iadd) 409 := ⟨by decide +kernel, rfl⟩
theorem eL_law_409 : aI1 cL_law 409 (.iaload) 410 := ⟨by decide +kernel, rfl⟩
theorem eL_law_410 : aI3 cL_law 410 (.invokevirtual 60) 413 := ⟨by decide +kernel, rfl⟩
theorem eL_law_413 : aAL cL_law 413 2 414 := Or.inl ⟨2, by decide +kernel, rfl, rfl⟩
theorem eL_law_414 : aAL cL_law 414 0 415 := Or.inl ⟨0, by decide +kernel, rfl, rfl⟩
theorem eL_law_415 : aIL cL_law 415 3 416 := Or.inl ⟨3, by decide +kernel, rfl, rfl⟩
theorem eL_law_416 : aPI cL_law 416 (nI 1) 417 := Or.inl ⟨1, by decide +kernel, by decide +kernel, rfl⟩
theorem eL_law_417 : aI1 cL_law 417 (.iadd) 418 := ⟨by decide +kernel, rfl⟩
theorem eL_law_418 : aI1 cL_law 418 (.iaload) 419 := ⟨by decide +kernel, rfl⟩
theorem eL_law_419 : aAL cL_law 419 0 420 := Or.inl ⟨0, by decide +kernel, rfl, rfl⟩
theorem eL_law_420 : aIL cL_law 420 3 421 := Or.inl ⟨3, by decide +kernel, rfl, rfl⟩
theorem eL_law_421 : aPI cL_law 421 (nI 2) 422 := Or.inl ⟨2, by decide +kernel, by decide +kernel, rfl⟩
theorem eL_law_422 : aI1 cL_law 422 (.iadd) 423 := ⟨by decide +kernel, rfl⟩
theorem eL_law_423 : aI1 cL_law 423 (.iaload) 424 := ⟨by decide +kernel, rfl⟩
theorem eL_law_424 : aI3 cL_law 424 (.invokevirtual 63) 427 := ⟨by decide +kernel, rfl⟩
theorem eL_law_427 : aIc_eq cL_law 427 430 699 := ⟨272, by decide +kernel, rfl, by decide⟩
theorem eL_law_430 : aPI cL_law 430 (nI 0) 431 := Or.inl ⟨0, by decide +kernel, by decide +kernel, rfl⟩
theorem eL_law_431 : ∀ x : Int32, (x = 0 ∨ x = 1) → aRet cL_law (some .boolean) 431 (some (.int x)) := fun x h => Or.inr (Or.inl ⟨x, _, rfl, rfl, by rcases h with rfl | rfl <;> decide +kernel, by decide +kernel⟩)
theorem eL_law_432 : aAL cL_law 432 1 433 := Or.inl ⟨1, by decide +kernel, rfl, rfl⟩
theorem eL_law_433 : aAL cL_law 433 0 434 := Or.inl ⟨0, by decide +kernel, rfl, rfl⟩
theorem eL_law_434 : aIL cL_law 434 3 435 := Or.inl ⟨3, by decide +kernel, rfl, rfl⟩
theorem eL_law_435 : aPI cL_law 435 (nI 1) 436 := Or.inl ⟨1, by decide +kernel, by decide +kernel, rfl⟩
theorem eL_law_436 : aI1 cL_law 436 (.iadd) 437 := ⟨by decide +kernel, rfl⟩
theorem eL_law_437 : aI1 cL_law 437 (.iaload) 438 := ⟨by decide +kernel, rfl⟩
theorem eL_law_438 : aI3 cL_law 438 (.invokevirtual 64) 441 := ⟨by decide +kernel, rfl⟩
theorem eL_law_441 : aAL cL_law 441 2 442 := Or.inl ⟨2, by decide +kernel, rfl, rfl⟩
theorem eL_law_442 : aAL cL_law 442 0 443 := Or.inl ⟨0, by decide +kernel, rfl, rfl⟩
theorem eL_law_443 : aIL cL_law 443 3 444 := Or.inl ⟨3, by decide +kernel, rfl, rfl⟩
theorem eL_law_444 : aPI cL_law 444 (nI 1) 445 := Or.inl ⟨1, by decide +kernel, by decide +kernel, rfl⟩
theorem eL_law_445 : aI1 cL_law 445 (.iadd) 446 := ⟨by decide +kernel, rfl⟩
theorem eL_law_446 : aI1 cL_law 446 (.iaload) 447 := ⟨by decide +kernel, rfl⟩
theorem eL_law_447 : aI3 cL_law 447 (.invokevirtual 67) 450 := ⟨by decide +kernel, rfl⟩
theorem eL_law_450 : aIc_eq cL_law 450 453 699 := ⟨249, by decide +kernel, rfl, by decide⟩
theorem eL_law_453 : aPI cL_law 453 (nI 0) 454 := Or.inl ⟨0, by decide +kernel, by decide +kernel, rfl⟩
theorem eL_law_454 : ∀ x : Int32, (x = 0 ∨ x = 1) → aRet cL_law (some .boolean) 454 (some (.int x)) := fun x h => Or.inr (Or.inl ⟨x, _, rfl, rfl, by rcases h with rfl | rfl <;> decide +kernel, by decide +kernel⟩)
theorem eL_law_455 : aAL cL_law 455 1 456 := Or.inl ⟨1, by decide +kernel, rfl, rfl⟩
theorem eL_law_456 : aAL cL_law 456 0 457 := Or.inl ⟨0, by decide +kernel, rfl, rfl⟩
theorem eL_law_457 : aIL cL_law 457 3 458 := Or.inl ⟨3, by decide +kernel, rfl, rfl⟩
theorem eL_law_458 : aPI cL_law 458 (nI 1) 459 := Or.inl ⟨1, by decide +kernel, by decide +kernel, rfl⟩
theorem eL_law_459 : aI1 cL_law 459 (.iadd) 460 := ⟨by decide +kernel, rfl⟩
theorem eL_law_460 : aI1 cL_law 460 (.iaload) 461 := ⟨by decide +kernel, rfl⟩
theorem eL_law_461 : aI3 cL_law 461 (.invokevirtual 68) 464 := ⟨by decide +kernel, rfl⟩
theorem eL_law_464 : aAL cL_law 464 2 465 := Or.inl ⟨2, by decide +kernel, rfl, rfl⟩
theorem eL_law_465 : aAL cL_law 465 0 466 := Or.inl ⟨0, by decide +kernel, rfl, rfl⟩
theorem eL_law_466 : aIL cL_law 466 3 467 := Or.inl ⟨3, by decide +kernel, rfl, rfl⟩
theorem eL_law_467 : aPI cL_law 467 (nI 1) 468 := Or.inl ⟨1, by decide +kernel, by decide +kernel, rfl⟩
theorem eL_law_468 : aI1 cL_law 468 (.iadd) 469 := ⟨by decide +kernel, rfl⟩
theorem eL_law_469 : aI1 cL_law 469 (.iaload) 470 := ⟨by decide +kernel, rfl⟩
theorem eL_law_470 : aI3 cL_law 470 (.invokevirtual 71) 473 := ⟨by decide +kernel, rfl⟩
theorem eL_law_473 : aIc_eq cL_law 473 476 699 := ⟨226, by decide +kernel, rfl, by decide⟩
theorem eL_law_476 : aPI cL_law 476 (nI 0) 477 := Or.inl ⟨0, by decide +kernel, by decide +kernel, rfl⟩
theorem eL_law_477 : ∀ x : Int32, (x = 0 ∨ x = 1) → aRet cL_law (some .boolean) 477 (some (.int x)) := fun x h => Or.inr (Or.inl ⟨x, _, rfl, rfl, by rcases h with rfl | rfl <;> decide +kernel, by decide +kernel⟩)
theorem eL_law_478 : aAL cL_law 478 1 479 := Or.inl ⟨1, by decide +kernel, rfl, rfl⟩
theorem eL_law_479 : aAL cL_law 479 0 480 := Or.inl ⟨0, by decide +kernel, rfl, rfl⟩
theorem eL_law_480 : aIL cL_law 480 3 481 := Or.inl ⟨3, by decide +kernel, rfl, rfl⟩
theorem eL_law_481 : aPI cL_law 481 (nI 1) 482 := Or.inl ⟨1, by decide +kernel, by decide +kernel, rfl⟩
theorem eL_law_482 : aI1 cL_law 482 (.iadd) 483 := ⟨by decide +kernel, rfl⟩
theorem eL_law_483 : aI1 cL_law 483 (.iaload) 484 := ⟨by decide +kernel, rfl⟩
theorem eL_law_484 : aAL cL_law 484 0 485 := Or.inl ⟨0, by decide +kernel, rfl, rfl⟩
theorem eL_law_485 : aIL cL_law 485 3 486 := Or.inl ⟨3, by decide +kernel, rfl, rfl⟩
theorem eL_law_486 : aPI cL_law 486 (nI 2) 487 := Or.inl ⟨2, by decide +kernel, by decide +kernel, rfl⟩
theorem eL_law_487 : aI1 cL_law 487 (.iadd) 488 := ⟨by decide +kernel, rfl⟩
theorem eL_law_488 : aI1 cL_law 488 (.iaload) 489 := ⟨by decide +kernel, rfl⟩
theorem eL_law_489 : aAL cL_law 489 0 490 := Or.inl ⟨0, by decide +kernel, rfl, rfl⟩
theorem eL_law_490 : aIL cL_law 490 3 491 := Or.inl ⟨3, by decide +kernel, rfl, rfl⟩
theorem eL_law_491 : aPI cL_law 491 (nI 3) 492 := Or.inl ⟨3, by decide +kernel, by decide +kernel, rfl⟩
theorem eL_law_492 : aI1 cL_law 492 (.iadd) 493 := ⟨by decide +kernel, rfl⟩
theorem eL_law_493 : aI1 cL_law 493 (.iaload) 494 := ⟨by decide +kernel, rfl⟩
theorem eL_law_494 : aI3 cL_law 494 (.invokevirtual 72) 497 := ⟨by decide +kernel, rfl⟩
theorem eL_law_497 : aAL cL_law 497 2 498 := Or.inl ⟨2, by decide +kernel, rfl, rfl⟩
theorem eL_law_498 : aAL cL_law 498 0 499 := Or.inl ⟨0, by decide +kernel, rfl, rfl⟩
theorem eL_law_499 : aIL cL_law 499 3 500 := Or.inl ⟨3, by decide +kernel, rfl, rfl⟩
theorem eL_law_500 : aPI cL_law 500 (nI 1) 501 := Or.inl ⟨1, by decide +kernel, by decide +kernel, rfl⟩
theorem eL_law_501 : aI1 cL_law 501 (.iadd) 502 := ⟨by decide +kernel, rfl⟩
theorem eL_law_502 : aI1 cL_law 502 (.iaload) 503 := ⟨by decide +kernel, rfl⟩
theorem eL_law_503 : aAL cL_law 503 0 504 := Or.inl ⟨0, by decide +kernel, rfl, rfl⟩
theorem eL_law_504 : aIL cL_law 504 3 505 := Or.inl ⟨3, by decide +kernel, rfl, rfl⟩
theorem eL_law_505 : aPI cL_law 505 (nI 2) 506 := Or.inl ⟨2, by decide +kernel, by decide +kernel, rfl⟩
theorem eL_law_506 : aI1 cL_law 506 (.iadd) 507 := ⟨by decide +kernel, rfl⟩
theorem eL_law_507 : aI1 cL_law 507 (.iaload) 508 := ⟨by decide +kernel, rfl⟩
theorem eL_law_508 : aAL cL_law 508 0 509 := Or.inl ⟨0, by decide +kernel, rfl, rfl⟩
theorem eL_law_509 : aIL cL_law 509 3 510 := Or.inl ⟨3, by decide +kernel, rfl, rfl⟩
theorem eL_law_510 : aPI cL_law 510 (nI 3) 511 := Or.inl ⟨3, by decide +kernel, by decide +kernel, rfl⟩
theorem eL_law_511 : aI1 cL_law 511 (.iadd) 512 := ⟨by decide +kernel, rfl⟩
theorem eL_law_512 : aI1 cL_law 512 (.iaload) 513 := ⟨by decide +kernel, rfl⟩
theorem eL_law_513 : aI3 cL_law 513 (.invokevirtual 76) 516 := ⟨by decide +kernel, rfl⟩
theorem eL_law_516 : aIc_eq cL_law 516 519 699 := ⟨183, by decide +kernel, rfl, by decide⟩
theorem eL_law_519 : aPI cL_law 519 (nI 0) 520 := Or.inl ⟨0, by decide +kernel, by decide +kernel, rfl⟩
theorem eL_law_520 : ∀ x : Int32, (x = 0 ∨ x = 1) → aRet cL_law (some .boolean) 520 (some (.int x)) := fun x h => Or.inr (Or.inl ⟨x, _, rfl, rfl, by rcases h with rfl | rfl <;> decide +kernel, by decide +kernel⟩)
theorem eL_law_521 : aAL cL_law 521 1 522 := Or.inl ⟨1, by decide +kernel, rfl, rfl⟩
theorem eL_law_522 : aAL cL_law 522 0 523 := Or.inl ⟨0, by decide +kernel, rfl, rfl⟩
theorem eL_law_523 : aIL cL_law 523 3 524 := Or.inl ⟨3, by decide +kernel, rfl, rfl⟩
theorem eL_law_524 : aPI cL_law 524 (nI 1) 525 := Or.inl ⟨1, by decide +kernel, by decide +kernel, rfl⟩
theorem eL_law_525 : aI1 cL_law 525 (.iadd) 526 := ⟨by decide +kernel, rfl⟩
theorem eL_law_526 : aI1 cL_law 526 (.iaload) 527 := ⟨by decide +kernel, rfl⟩
theorem eL_law_527 : aAL cL_law 527 0 528 := Or.inl ⟨0, by decide +kernel, rfl, rfl⟩
theorem eL_law_528 : aIL cL_law 528 3 529 := Or.inl ⟨3, by decide +kernel, rfl, rfl⟩
theorem eL_law_529 : aPI cL_law 529 (nI 2) 530 := Or.inl ⟨2, by decide +kernel, by decide +kernel, rfl⟩
theorem eL_law_530 : aI1 cL_law 530 (.iadd) 531 := ⟨by decide +kernel, rfl⟩
theorem eL_law_531 : aI1 cL_law 531 (.iaload) 532 := ⟨by decide +kernel, rfl⟩
theorem eL_law_532 : aAL cL_law 532 0 533 := Or.inl ⟨0, by decide +kernel, rfl, rfl⟩
theorem eL_law_533 : aIL cL_law 533 3 534 := Or.inl ⟨3, by decide +kernel, rfl, rfl⟩
theorem eL_law_534 : aPI cL_law 534 (nI 3) 535 := Or.inl ⟨3, by decide +kernel, by decide +kernel, rfl⟩
theorem eL_law_535 : aI1 cL_law 535 (.iadd) 536 := ⟨by decide +kernel, rfl⟩
theorem eL_law_536 : aI1 cL_law 536 (.iaload) 537 := ⟨by decide +kernel, rfl⟩
theorem eL_law_537 : aIf_eq cL_law 537 540 544 := ⟨7, by decide +kernel, rfl, by decide⟩
theorem eL_law_540 : aPI cL_law 540 (nI 1) 541 := Or.inl ⟨1, by decide +kernel, by decide +kernel, rfl⟩
theorem eL_law_541 : aGo cL_law 541 545 := ⟨4, by decide +kernel, by decide⟩
theorem eL_law_544 : aPI cL_law 544 (nI 0) 545 := Or.inl ⟨0, by decide +kernel, by decide +kernel, rfl⟩
theorem eL_law_545 : aI3 cL_law 545 (.invokevirtual 77) 548 := ⟨by decide +kernel, rfl⟩
theorem eL_law_548 : aAL cL_law 548 2 549 := Or.inl ⟨2, by decide +kernel, rfl, rfl⟩
theorem eL_law_549 : aAL cL_law 549 0 550 := Or.inl ⟨0, by decide +kernel, rfl, rfl⟩
theorem eL_law_550 : aIL cL_law 550 3 551 := Or.inl ⟨3, by decide +kernel, rfl, rfl⟩
theorem eL_law_551 : aPI cL_law 551 (nI 1) 552 := Or.inl ⟨1, by decide +kernel, by decide +kernel, rfl⟩
theorem eL_law_552 : aI1 cL_law 552 (.iadd) 553 := ⟨by decide +kernel, rfl⟩
theorem eL_law_553 : aI1 cL_law 553 (.iaload) 554 := ⟨by decide +kernel, rfl⟩
theorem eL_law_554 : aAL cL_law 554 0 555 := Or.inl ⟨0, by decide +kernel, rfl, rfl⟩
theorem eL_law_555 : aIL cL_law 555 3 556 := Or.inl ⟨3, by decide +kernel, rfl, rfl⟩
theorem eL_law_556 : aPI cL_law 556 (nI 2) 557 := Or.inl ⟨2, by decide +kernel, by decide +kernel, rfl⟩
theorem eL_law_557 : aI1 cL_law 557 (.iadd) 558 := ⟨by decide +kernel, rfl⟩
theorem eL_law_558 : aI1 cL_law 558 (.iaload) 559 := ⟨by decide +kernel, rfl⟩
theorem eL_law_559 : aAL cL_law 559 0 560 := Or.inl ⟨0, by decide +kernel, rfl, rfl⟩
theorem eL_law_560 : aIL cL_law 560 3 561 := Or.inl ⟨3, by decide +kernel, rfl, rfl⟩
theorem eL_law_561 : aPI cL_law 561 (nI 3) 562 := Or.inl ⟨3, by decide +kernel, by decide +kernel, rfl⟩
theorem eL_law_562 : aI1 cL_law 562 (.iadd) 563 := ⟨by decide +kernel, rfl⟩
theorem eL_law_563 : aI1 cL_law 563 (.iaload) 564 := ⟨by decide +kernel, rfl⟩
theorem eL_law_564 : aIf_eq cL_law 564 567 571 := ⟨7, by decide +kernel, rfl, by decide⟩
theorem eL_law_567 : aPI cL_law 567 (nI 1) 568 := Or.inl ⟨1, by decide +kernel, by decide +kernel, rfl⟩
theorem eL_law_568 : aGo cL_law 568 572 := ⟨4, by decide +kernel, by decide⟩
theorem eL_law_571 : aPI cL_law 571 (nI 0) 572 := Or.inl ⟨0, by decide +kernel, by decide +kernel, rfl⟩
theorem eL_law_572 : aI3 cL_law 572 (.invokevirtual 81) 575 := ⟨by decide +kernel, rfl⟩
theorem eL_law_575 : aIc_eq cL_law 575 578 699 := ⟨124, by decide +kernel, rfl, by decide⟩
theorem eL_law_578 : aPI cL_law 578 (nI 0) 579 := Or.inl ⟨0, by decide +kernel, by decide +kernel, rfl⟩
theorem eL_law_579 : ∀ x : Int32, (x = 0 ∨ x = 1) → aRet cL_law (some .boolean) 579 (some (.int x)) := fun x h => Or.inr (Or.inl ⟨x, _, rfl, rfl, by rcases h with rfl | rfl <;> decide +kernel, by decide +kernel⟩)
theorem eL_law_580 : aAL cL_law 580 1 581 := Or.inl ⟨1, by decide +kernel, rfl, rfl⟩
theorem eL_law_581 : aI3 cL_law 581 (.invokevirtual 82) 584 := ⟨by decide +kernel, rfl⟩
theorem eL_law_584 : aAL cL_law 584 2 585 := Or.inl ⟨2, by decide +kernel, rfl, rfl⟩
theorem eL_law_585 : aI3 cL_law 585 (.invokevirtual 85) 588 := ⟨by decide +kernel, rfl⟩
theorem eL_law_588 : aIc_eq cL_law 588 591 699 := ⟨111, by decide +kernel, rfl, by decide⟩
theorem eL_law_591 : aPI cL_law 591 (nI 0) 592 := Or.inl ⟨0, by decide +kernel, by decide +kernel, rfl⟩
theorem eL_law_592 : ∀ x : Int32, (x = 0 ∨ x = 1) → aRet cL_law (some .boolean) 592 (some (.int x)) := fun x h => Or.inr (Or.inl ⟨x, _, rfl, rfl, by rcases h with rfl | rfl <;> decide +kernel, by decide +kernel⟩)
theorem eL_law_593 : aAL cL_law 593 1 594 := Or.inl ⟨1, by decide +kernel, rfl, rfl⟩
theorem eL_law_594 : aAL cL_law 594 0 595 := Or.inl ⟨0, by decide +kernel, rfl, rfl⟩
theorem eL_law_595 : aIL cL_law 595 3 596 := Or.inl ⟨3, by decide +kernel, rfl, rfl⟩
theorem eL_law_596 : aPI cL_law 596 (nI 1) 597 := Or.inl ⟨1, by decide +kernel, by decide +kernel, rfl⟩
theorem eL_law_597 : aI1 cL_law 597 (.iadd) 598 := ⟨by decide +kernel, rfl⟩
theorem eL_law_598 : aI1 cL_law 598 (.iaload) 599 := ⟨by decide +kernel, rfl⟩
theorem eL_law_599 : aAL cL_law 599 0 600 := Or.inl ⟨0, by decide +kernel, rfl, rfl⟩
theorem eL_law_600 : aIL cL_law 600 3 601 := Or.inl ⟨3, by decide +kernel, rfl, rfl⟩
theorem eL_law_601 : aPI cL_law 601 (nI 2) 602 := Or.inl ⟨2, by decide +kernel, by decide +kernel, rfl⟩
theorem eL_law_602 : aI1 cL_law 602 (.iadd) 603 := ⟨by decide +kernel, rfl⟩
theorem eL_law_603 : aI1 cL_law 603 (.iaload) 604 := ⟨by decide +kernel, rfl⟩
theorem eL_law_604 : aAL cL_law 604 0 605 := Or.inl ⟨0, by decide +kernel, rfl, rfl⟩
theorem eL_law_605 : aIL cL_law 605 3 606 := Or.inl ⟨3, by decide +kernel, rfl, rfl⟩
theorem eL_law_606 : aPI cL_law 606 (nI 3) 607 := Or.inl ⟨3, by decide +kernel, by decide +kernel, rfl⟩
theorem eL_law_607 : aI1 cL_law 607 (.iadd) 608 := ⟨by decide +kernel, rfl⟩
theorem eL_law_608 : aI1 cL_law 608 (.iaload) 609 := ⟨by decide +kernel, rfl⟩
theorem eL_law_609 : aI3 cL_law 609 (.invokevirtual 86) 612 := ⟨by decide +kernel, rfl⟩
theorem eL_law_612 : aAL cL_law 612 2 613 := Or.inl ⟨2, by decide +kernel, rfl, rfl⟩
theorem eL_law_613 : aAL cL_law 613 0 614 := Or.inl ⟨0, by decide +kernel, rfl, rfl⟩
theorem eL_law_614 : aIL cL_law 614 3 615 := Or.inl ⟨3, by decide +kernel, rfl, rfl⟩
theorem eL_law_615 : aPI cL_law 615 (nI 1) 616 := Or.inl ⟨1, by decide +kernel, by decide +kernel, rfl⟩
theorem eL_law_616 : aI1 cL_law 616 (.iadd) 617 := ⟨by decide +kernel, rfl⟩
theorem eL_law_617 : aI1 cL_law 617 (.iaload) 618 := ⟨by decide +kernel, rfl⟩
theorem eL_law_618 : aAL cL_law 618 0 619 := Or.inl ⟨0, by decide +kernel, rfl, rfl⟩
theorem eL_law_619 : aIL cL_law 619 3 620 := Or.inl ⟨3, by decide +kernel, rfl, rfl⟩
theorem eL_law_620 : aPI cL_law 620 (nI 2) 621 := Or.inl ⟨2, by decide +kernel, by decide +kernel, rfl⟩
theorem eL_law_621 : aI1 cL_law 621 (.iadd) 622 := ⟨by decide +kernel, rfl⟩
theorem eL_law_622 : aI1 cL_law 622 (.iaload) 623 := ⟨by decide +kernel, rfl⟩
theorem eL_law_623 : aAL cL_law 623 0 624 := Or.inl ⟨0, by decide +kernel, rfl, rfl⟩
theorem eL_law_624 : aIL cL_law 624 3 625 := Or.inl ⟨3, by decide +kernel, rfl, rfl⟩
theorem eL_law_625 : aPI cL_law 625 (nI 3) 626 := Or.inl ⟨3, by decide +kernel, by decide +kernel, rfl⟩
theorem eL_law_626 : aI1 cL_law 626 (.iadd) 627 := ⟨by decide +kernel, rfl⟩
theorem eL_law_627 : aI1 cL_law 627 (.iaload) 628 := ⟨by decide +kernel, rfl⟩
theorem eL_law_628 : aI3 cL_law 628 (.invokevirtual 89) 631 := ⟨by decide +kernel, rfl⟩
theorem eL_law_631 : aIc_eq cL_law 631 634 699 := ⟨68, by decide +kernel, rfl, by decide⟩
theorem eL_law_634 : aPI cL_law 634 (nI 0) 635 := Or.inl ⟨0, by decide +kernel, by decide +kernel, rfl⟩
theorem eL_law_635 : ∀ x : Int32, (x = 0 ∨ x = 1) → aRet cL_law (some .boolean) 635 (some (.int x)) := fun x h => Or.inr (Or.inl ⟨x, _, rfl, rfl, by rcases h with rfl | rfl <;> decide +kernel, by decide +kernel⟩)
theorem eL_law_636 : aAL cL_law 636 1 637 := Or.inl ⟨1, by decide +kernel, rfl, rfl⟩
theorem eL_law_637 : aI3 cL_law 637 (.invokevirtual 90) 640 := ⟨by decide +kernel, rfl⟩
theorem eL_law_640 : aAL cL_law 640 2 641 := Or.inl ⟨2, by decide +kernel, rfl, rfl⟩
theorem eL_law_641 : aI3 cL_law 641 (.invokevirtual 93) 644 := ⟨by decide +kernel, rfl⟩
theorem eL_law_644 : aIc_eq cL_law 644 647 699 := ⟨55, by decide +kernel, rfl, by decide⟩
theorem eL_law_647 : aPI cL_law 647 (nI 0) 648 := Or.inl ⟨0, by decide +kernel, by decide +kernel, rfl⟩
theorem eL_law_648 : ∀ x : Int32, (x = 0 ∨ x = 1) → aRet cL_law (some .boolean) 648 (some (.int x)) := fun x h => Or.inr (Or.inl ⟨x, _, rfl, rfl, by rcases h with rfl | rfl <;> decide +kernel, by decide +kernel⟩)
theorem eL_law_649 : aAL cL_law 649 1 650 := Or.inl ⟨1, by decide +kernel, rfl, rfl⟩
theorem eL_law_650 : aI3 cL_law 650 (.invokevirtual 94) 653 := ⟨by decide +kernel, rfl⟩
theorem eL_law_653 : aAL cL_law 653 2 654 := Or.inl ⟨2, by decide +kernel, rfl, rfl⟩
theorem eL_law_654 : aI3 cL_law 654 (.invokevirtual 97) 657 := ⟨by decide +kernel, rfl⟩
theorem eL_law_657 : aIc_eq cL_law 657 660 699 := ⟨42, by decide +kernel, rfl, by decide⟩
theorem eL_law_660 : aPI cL_law 660 (nI 0) 661 := Or.inl ⟨0, by decide +kernel, by decide +kernel, rfl⟩
theorem eL_law_661 : ∀ x : Int32, (x = 0 ∨ x = 1) → aRet cL_law (some .boolean) 661 (some (.int x)) := fun x h => Or.inr (Or.inl ⟨x, _, rfl, rfl, by rcases h with rfl | rfl <;> decide +kernel, by decide +kernel⟩)
theorem eL_law_662 : aAL cL_law 662 1 663 := Or.inl ⟨1, by decide +kernel, rfl, rfl⟩
theorem eL_law_663 : aAL cL_law 663 0 664 := Or.inl ⟨0, by decide +kernel, rfl, rfl⟩
theorem eL_law_664 : aIL cL_law 664 3 665 := Or.inl ⟨3, by decide +kernel, rfl, rfl⟩
theorem eL_law_665 : aPI cL_law 665 (nI 1) 666 := Or.inl ⟨1, by decide +kernel, by decide +kernel, rfl⟩
theorem eL_law_666 : aI1 cL_law 666 (.iadd) 667 := ⟨by decide +kernel, rfl⟩
theorem eL_law_667 : aI1 cL_law 667 (.iaload) 668 := ⟨by decide +kernel, rfl⟩
theorem eL_law_668 : aI3 cL_law 668 (.invokevirtual 98) 671 := ⟨by decide +kernel, rfl⟩
theorem eL_law_671 : aAL cL_law 671 2 672 := Or.inl ⟨2, by decide +kernel, rfl, rfl⟩
theorem eL_law_672 : aAL cL_law 672 0 673 := Or.inl ⟨0, by decide +kernel, rfl, rfl⟩
theorem eL_law_673 : aIL cL_law 673 3 674 := Or.inl ⟨3, by decide +kernel, rfl, rfl⟩
theorem eL_law_674 : aPI cL_law 674 (nI 1) 675 := Or.inl ⟨1, by decide +kernel, by decide +kernel, rfl⟩
theorem eL_law_675 : aI1 cL_law 675 (.iadd) 676 := ⟨by decide +kernel, rfl⟩
theorem eL_law_676 : aI1 cL_law 676 (.iaload) 677 := ⟨by decide +kernel, rfl⟩
theorem eL_law_677 : aI3 cL_law 677 (.invokevirtual 101) 680 := ⟨by decide +kernel, rfl⟩
theorem eL_law_680 : aIc_eq cL_law 680 683 699 := ⟨19, by decide +kernel, rfl, by decide⟩
theorem eL_law_683 : aPI cL_law 683 (nI 0) 684 := Or.inl ⟨0, by decide +kernel, by decide +kernel, rfl⟩
theorem eL_law_684 : ∀ x : Int32, (x = 0 ∨ x = 1) → aRet cL_law (some .boolean) 684 (some (.int x)) := fun x h => Or.inr (Or.inl ⟨x, _, rfl, rfl, by rcases h with rfl | rfl <;> decide +kernel, by decide +kernel⟩)
theorem eL_law_685 : aAL cL_law 685 1 686 := Or.inl ⟨1, by decide +kernel, rfl, rfl⟩
theorem eL_law_686 : aI3 cL_law 686 (.invokevirtual 102) 689 := ⟨by decide +kernel, rfl⟩
theorem eL_law_689 : aAL cL_law 689 2 690 := Or.inl ⟨2, by decide +kernel, rfl, rfl⟩
theorem eL_law_690 : aI3 cL_law 690 (.invokevirtual 106) 693 := ⟨by decide +kernel, rfl⟩
theorem eL_law_693 : aI1 cL_law 693 (.lcmp) 694 := ⟨by decide +kernel, rfl⟩
theorem eL_law_694 : aIf_eq cL_law 694 697 699 := ⟨5, by decide +kernel, rfl, by decide⟩
theorem eL_law_697 : aPI cL_law 697 (nI 0) 698 := Or.inl ⟨0, by decide +kernel, by decide +kernel, rfl⟩
theorem eL_law_698 : ∀ x : Int32, (x = 0 ∨ x = 1) → aRet cL_law (some .boolean) 698 (some (.int x)) := fun x h => Or.inr (Or.inl ⟨x, _, rfl, rfl, by rcases h with rfl | rfl <;> decide +kernel, by decide +kernel⟩)
theorem eL_law_699 : aII cL_law 699 3 (nI 4) 702 := ⟨4, by decide +kernel, by decide +kernel, rfl⟩
theorem eL_law_702 : aGo cL_law 702 18 := ⟨(-684), by decide +kernel, by decide⟩
theorem eL_law_705 : aPI cL_law 705 (nI 1) 706 := Or.inl ⟨1, by decide +kernel, by decide +kernel, rfl⟩
theorem eL_law_706 : ∀ x : Int32, (x = 0 ∨ x = 1) → aRet cL_law (some .boolean) 706 (some (.int x)) := fun x h => Or.inr (Or.inl ⟨x, _, rfl, rfl, by rcases h with rfl | rfl <;> decide +kernel, by decide +kernel⟩)
abbrev GX0_init (lv mc ms : Nat) (post : Option Value → aH → Prop) (k n pc : Nat) (L : List (Option Value)) (S : List Value) (σ : aH) : Prop := G yX0_init cX0_init 2 none lv mc ms post k n pc L S σ
abbrev MX0_init (lv mc ms : Nat) (args : List Value) (σ : aH) (post : Option Value → aH → Prop) : Prop := AMet yX0_init cX0_init 2 none lv mc ms args σ post
theorem sX0_init {lv mc ms : Nat} {args : List Value} {σ : aH} {post : Option Value → aH → Prop} (hlen : (aEn args).length ≤ 2) (h : GX0_init lv mc ms post 0 0 0 (aL0 2 args) [] σ) : MX0_init lv mc ms args σ post := AMet_of_G (by decide +kernel) hlen h
abbrev GX0_kind (lv mc ms : Nat) (post : Option Value → aH → Prop) (k n pc : Nat) (L : List (Option Value)) (S : List Value) (σ : aH) : Prop := G yX0_kind cX0_kind 1 (some .int) lv mc ms post k n pc L S σ
abbrev MX0_kind (lv mc ms : Nat) (args : List Value) (σ : aH) (post : Option Value → aH → Prop) : Prop := AMet yX0_kind cX0_kind 1 (some .int) lv mc ms args σ post
theorem sX0_kind {lv mc ms : Nat} {args : List Value} {σ : aH} {post : Option Value → aH → Prop} (hlen : (aEn args).length ≤ 1) (h : GX0_kind lv mc ms post 0 0 0 (aL0 1 args) [] σ) : MX0_kind lv mc ms args σ post := AMet_of_G (by decide +kernel) hlen h
abbrev GX0_placesByDeed (lv mc ms : Nat) (post : Option Value → aH → Prop) (k n pc : Nat) (L : List (Option Value)) (S : List Value) (σ : aH) : Prop := G yX0_placesByDeed cX0_placesByDeed 3 (some .int) lv mc ms post k n pc L S σ
abbrev MX0_placesByDeed (lv mc ms : Nat) (args : List Value) (σ : aH) (post : Option Value → aH → Prop) : Prop := AMet yX0_placesByDeed cX0_placesByDeed 3 (some .int) lv mc ms args σ post
theorem sX0_placesByDeed {lv mc ms : Nat} {args : List Value} {σ : aH} {post : Option Value → aH → Prop} (hlen : (aEn args).length ≤ 3) (h : GX0_placesByDeed lv mc ms post 0 0 0 (aL0 3 args) [] σ) : MX0_placesByDeed lv mc ms args σ post := AMet_of_G (by decide +kernel) hlen h
abbrev GX1_init (lv mc ms : Nat) (post : Option Value → aH → Prop) (k n pc : Nat) (L : List (Option Value)) (S : List Value) (σ : aH) : Prop := G yX1_init cX1_init 2 none lv mc ms post k n pc L S σ
abbrev MX1_init (lv mc ms : Nat) (args : List Value) (σ : aH) (post : Option Value → aH → Prop) : Prop := AMet yX1_init cX1_init 2 none lv mc ms args σ post
theorem sX1_init {lv mc ms : Nat} {args : List Value} {σ : aH} {post : Option Value → aH → Prop} (hlen : (aEn args).length ≤ 2) (h : GX1_init lv mc ms post 0 0 0 (aL0 2 args) [] σ) : MX1_init lv mc ms args σ post := AMet_of_G (by decide +kernel) hlen h
abbrev GX1_kind (lv mc ms : Nat) (post : Option Value → aH → Prop) (k n pc : Nat) (L : List (Option Value)) (S : List Value) (σ : aH) : Prop := G yX1_kind cX1_kind 1 (some .int) lv mc ms post k n pc L S σ
abbrev MX1_kind (lv mc ms : Nat) (args : List Value) (σ : aH) (post : Option Value → aH → Prop) : Prop := AMet yX1_kind cX1_kind 1 (some .int) lv mc ms args σ post
theorem sX1_kind {lv mc ms : Nat} {args : List Value} {σ : aH} {post : Option Value → aH → Prop} (hlen : (aEn args).length ≤ 1) (h : GX1_kind lv mc ms post 0 0 0 (aL0 1 args) [] σ) : MX1_kind lv mc ms args σ post := AMet_of_G (by decide +kernel) hlen h
abbrev GX1_placesByDeed (lv mc ms : Nat) (post : Option Value → aH → Prop) (k n pc : Nat) (L : List (Option Value)) (S : List Value) (σ : aH) : Prop := G yX1_placesByDeed cX1_placesByDeed 3 (some .int) lv mc ms post k n pc L S σ
abbrev MX1_placesByDeed (lv mc ms : Nat) (args : List Value) (σ : aH) (post : Option Value → aH → Prop) : Prop := AMet yX1_placesByDeed cX1_placesByDeed 3 (some .int) lv mc ms args σ post
theorem sX1_placesByDeed {lv mc ms : Nat} {args : List Value} {σ : aH} {post : Option Value → aH → Prop} (hlen : (aEn args).length ≤ 3) (h : GX1_placesByDeed lv mc ms post 0 0 0 (aL0 3 args) [] σ) : MX1_placesByDeed lv mc ms args σ post := AMet_of_G (by decide +kernel) hlen h
abbrev GX2_init (lv mc ms : Nat) (post : Option Value → aH → Prop) (k n pc : Nat) (L : List (Option Value)) (S : List Value) (σ : aH) : Prop := G yX2_init cX2_init 1 none lv mc ms post k n pc L S σ
abbrev MX2_init (lv mc ms : Nat) (args : List Value) (σ : aH) (post : Option Value → aH → Prop) : Prop := AMet yX2_init cX2_init 1 none lv mc ms args σ post
theorem sX2_init {lv mc ms : Nat} {args : List Value} {σ : aH} {post : Option Value → aH → Prop} (hlen : (aEn args).length ≤ 1) (h : GX2_init lv mc ms post 0 0 0 (aL0 1 args) [] σ) : MX2_init lv mc ms args σ post := AMet_of_G (by decide +kernel) hlen h
abbrev GX2_size (lv mc ms : Nat) (post : Option Value → aH → Prop) (k n pc : Nat) (L : List (Option Value)) (S : List Value) (σ : aH) : Prop := G yX2_size cX2_size 1 (some .int) lv mc ms post k n pc L S σ
abbrev MX2_size (lv mc ms : Nat) (args : List Value) (σ : aH) (post : Option Value → aH → Prop) : Prop := AMet yX2_size cX2_size 1 (some .int) lv mc ms args σ post
theorem sX2_size {lv mc ms : Nat} {args : List Value} {σ : aH} {post : Option Value → aH → Prop} (hlen : (aEn args).length ≤ 1) (h : GX2_size lv mc ms post 0 0 0 (aL0 1 args) [] σ) : MX2_size lv mc ms args σ post := AMet_of_G (by decide +kernel) hlen h
abbrev GX2_at (lv mc ms : Nat) (post : Option Value → aH → Prop) (k n pc : Nat) (L : List (Option Value)) (S : List Value) (σ : aH) : Prop := G yX2_at cX2_at 2 (some .int) lv mc ms post k n pc L S σ
abbrev MX2_at (lv mc ms : Nat) (args : List Value) (σ : aH) (post : Option Value → aH → Prop) : Prop := AMet yX2_at cX2_at 2 (some .int) lv mc ms args σ post
theorem sX2_at {lv mc ms : Nat} {args : List Value} {σ : aH} {post : Option Value → aH → Prop} (hlen : (aEn args).length ≤ 2) (h : GX2_at lv mc ms post 0 0 0 (aL0 2 args) [] σ) : MX2_at lv mc ms args σ post := AMet_of_G (by decide +kernel) hlen h
abbrev GX2_seek (lv mc ms : Nat) (post : Option Value → aH → Prop) (k n pc : Nat) (L : List (Option Value)) (S : List Value) (σ : aH) : Prop := G yX2_seek cX2_seek 4 none lv mc ms post k n pc L S σ
abbrev MX2_seek (lv mc ms : Nat) (args : List Value) (σ : aH) (post : Option Value → aH → Prop) : Prop := AMet yX2_seek cX2_seek 4 none lv mc ms args σ post
theorem sX2_seek {lv mc ms : Nat} {args : List Value} {σ : aH} {post : Option Value → aH → Prop} (hlen : (aEn args).length ≤ 4) (h : GX2_seek lv mc ms post 0 0 0 (aL0 4 args) [] σ) : MX2_seek lv mc ms args σ post := AMet_of_G (by decide +kernel) hlen h
abbrev GX2_pairsToldBy (lv mc ms : Nat) (post : Option Value → aH → Prop) (k n pc : Nat) (L : List (Option Value)) (S : List Value) (σ : aH) : Prop := G yX2_pairsToldBy cX2_pairsToldBy 6 (some .int) lv mc ms post k n pc L S σ
abbrev MX2_pairsToldBy (lv mc ms : Nat) (args : List Value) (σ : aH) (post : Option Value → aH → Prop) : Prop := AMet yX2_pairsToldBy cX2_pairsToldBy 6 (some .int) lv mc ms args σ post
theorem sX2_pairsToldBy {lv mc ms : Nat} {args : List Value} {σ : aH} {post : Option Value → aH → Prop} (hlen : (aEn args).length ≤ 6) (h : GX2_pairsToldBy lv mc ms post 0 0 0 (aL0 6 args) [] σ) : MX2_pairsToldBy lv mc ms args σ post := AMet_of_G (by decide +kernel) hlen h
abbrev GX2_firstSheet (lv mc ms : Nat) (post : Option Value → aH → Prop) (k n pc : Nat) (L : List (Option Value)) (S : List Value) (σ : aH) : Prop := G yX2_firstSheet cX2_firstSheet 7 (some .int) lv mc ms post k n pc L S σ
abbrev MX2_firstSheet (lv mc ms : Nat) (args : List Value) (σ : aH) (post : Option Value → aH → Prop) : Prop := AMet yX2_firstSheet cX2_firstSheet 7 (some .int) lv mc ms args σ post
theorem sX2_firstSheet {lv mc ms : Nat} {args : List Value} {σ : aH} {post : Option Value → aH → Prop} (hlen : (aEn args).length ≤ 7) (h : GX2_firstSheet lv mc ms post 0 0 0 (aL0 7 args) [] σ) : MX2_firstSheet lv mc ms args σ post := AMet_of_G (by decide +kernel) hlen h
abbrev GX3_init (lv mc ms : Nat) (post : Option Value → aH → Prop) (k n pc : Nat) (L : List (Option Value)) (S : List Value) (σ : aH) : Prop := G yX3_init cX3_init 1 none lv mc ms post k n pc L S σ
abbrev MX3_init (lv mc ms : Nat) (args : List Value) (σ : aH) (post : Option Value → aH → Prop) : Prop := AMet yX3_init cX3_init 1 none lv mc ms args σ post
theorem sX3_init {lv mc ms : Nat} {args : List Value} {σ : aH} {post : Option Value → aH → Prop} (hlen : (aEn args).length ≤ 1) (h : GX3_init lv mc ms post 0 0 0 (aL0 1 args) [] σ) : MX3_init lv mc ms args σ post := AMet_of_G (by decide +kernel) hlen h
abbrev GX3_size (lv mc ms : Nat) (post : Option Value → aH → Prop) (k n pc : Nat) (L : List (Option Value)) (S : List Value) (σ : aH) : Prop := G yX3_size cX3_size 1 (some .int) lv mc ms post k n pc L S σ
abbrev MX3_size (lv mc ms : Nat) (args : List Value) (σ : aH) (post : Option Value → aH → Prop) : Prop := AMet yX3_size cX3_size 1 (some .int) lv mc ms args σ post
theorem sX3_size {lv mc ms : Nat} {args : List Value} {σ : aH} {post : Option Value → aH → Prop} (hlen : (aEn args).length ≤ 1) (h : GX3_size lv mc ms post 0 0 0 (aL0 1 args) [] σ) : MX3_size lv mc ms args σ post := AMet_of_G (by decide +kernel) hlen h
abbrev GX3_add (lv mc ms : Nat) (post : Option Value → aH → Prop) (k n pc : Nat) (L : List (Option Value)) (S : List Value) (σ : aH) : Prop := G yX3_add cX3_add 3 (some .boolean) lv mc ms post k n pc L S σ
abbrev MX3_add (lv mc ms : Nat) (args : List Value) (σ : aH) (post : Option Value → aH → Prop) : Prop := AMet yX3_add cX3_add 3 (some .boolean) lv mc ms args σ post
theorem sX3_add {lv mc ms : Nat} {args : List Value} {σ : aH} {post : Option Value → aH → Prop} (hlen : (aEn args).length ≤ 3) (h : GX3_add lv mc ms post 0 0 0 (aL0 3 args) [] σ) : MX3_add lv mc ms args σ post := AMet_of_G (by decide +kernel) hlen h
abbrev GX3_clear (lv mc ms : Nat) (post : Option Value → aH → Prop) (k n pc : Nat) (L : List (Option Value)) (S : List Value) (σ : aH) : Prop := G yX3_clear cX3_clear 1 none lv mc ms post k n pc L S σ
abbrev MX3_clear (lv mc ms : Nat) (args : List Value) (σ : aH) (post : Option Value → aH → Prop) : Prop := AMet yX3_clear cX3_clear 1 none lv mc ms args σ post
theorem sX3_clear {lv mc ms : Nat} {args : List Value} {σ : aH} {post : Option Value → aH → Prop} (hlen : (aEn args).length ≤ 1) (h : GX3_clear lv mc ms post 0 0 0 (aL0 1 args) [] σ) : MX3_clear lv mc ms args σ post := AMet_of_G (by decide +kernel) hlen h
abbrev GX3_copyFrom (lv mc ms : Nat) (post : Option Value → aH → Prop) (k n pc : Nat) (L : List (Option Value)) (S : List Value) (σ : aH) : Prop := G yX3_copyFrom cX3_copyFrom 2 none lv mc ms post k n pc L S σ
abbrev MX3_copyFrom (lv mc ms : Nat) (args : List Value) (σ : aH) (post : Option Value → aH → Prop) : Prop := AMet yX3_copyFrom cX3_copyFrom 2 none lv mc ms args σ post
theorem sX3_copyFrom {lv mc ms : Nat} {args : List Value} {σ : aH} {post : Option Value → aH → Prop} (hlen : (aEn args).length ≤ 2) (h : GX3_copyFrom lv mc ms post 0 0 0 (aL0 2 args) [] σ) : MX3_copyFrom lv mc ms args σ post := AMet_of_G (by decide +kernel) hlen h
abbrev GX3_deedsLeft (lv mc ms : Nat) (post : Option Value → aH → Prop) (k n pc : Nat) (L : List (Option Value)) (S : List Value) (σ : aH) : Prop := G yX3_deedsLeft cX3_deedsLeft 4 (some .int) lv mc ms post k n pc L S σ
abbrev MX3_deedsLeft (lv mc ms : Nat) (args : List Value) (σ : aH) (post : Option Value → aH → Prop) : Prop := AMet yX3_deedsLeft cX3_deedsLeft 4 (some .int) lv mc ms args σ post
theorem sX3_deedsLeft {lv mc ms : Nat} {args : List Value} {σ : aH} {post : Option Value → aH → Prop} (hlen : (aEn args).length ≤ 4) (h : GX3_deedsLeft lv mc ms post 0 0 0 (aL0 4 args) [] σ) : MX3_deedsLeft lv mc ms args σ post := AMet_of_G (by decide +kernel) hlen h
abbrev GX4_init (lv mc ms : Nat) (post : Option Value → aH → Prop) (k n pc : Nat) (L : List (Option Value)) (S : List Value) (σ : aH) : Prop := G yX4_init cX4_init 2 none lv mc ms post k n pc L S σ
abbrev MX4_init (lv mc ms : Nat) (args : List Value) (σ : aH) (post : Option Value → aH → Prop) : Prop := AMet yX4_init cX4_init 2 none lv mc ms args σ post
theorem sX4_init {lv mc ms : Nat} {args : List Value} {σ : aH} {post : Option Value → aH → Prop} (hlen : (aEn args).length ≤ 2) (h : GX4_init lv mc ms post 0 0 0 (aL0 2 args) [] σ) : MX4_init lv mc ms args σ post := AMet_of_G (by decide +kernel) hlen h
abbrev GX4_deed (lv mc ms : Nat) (post : Option Value → aH → Prop) (k n pc : Nat) (L : List (Option Value)) (S : List Value) (σ : aH) : Prop := G yX4_deed cX4_deed 1 (some .int) lv mc ms post k n pc L S σ
abbrev MX4_deed (lv mc ms : Nat) (args : List Value) (σ : aH) (post : Option Value → aH → Prop) : Prop := AMet yX4_deed cX4_deed 1 (some .int) lv mc ms args σ post
theorem sX4_deed {lv mc ms : Nat} {args : List Value} {σ : aH} {post : Option Value → aH → Prop} (hlen : (aEn args).length ≤ 1) (h : GX4_deed lv mc ms post 0 0 0 (aL0 1 args) [] σ) : MX4_deed lv mc ms args σ post := AMet_of_G (by decide +kernel) hlen h
abbrev GX4_kind (lv mc ms : Nat) (post : Option Value → aH → Prop) (k n pc : Nat) (L : List (Option Value)) (S : List Value) (σ : aH) : Prop := G yX4_kind cX4_kind 1 (some .int) lv mc ms post k n pc L S σ
abbrev MX4_kind (lv mc ms : Nat) (args : List Value) (σ : aH) (post : Option Value → aH → Prop) : Prop := AMet yX4_kind cX4_kind 1 (some .int) lv mc ms args σ post
theorem sX4_kind {lv mc ms : Nat} {args : List Value} {σ : aH} {post : Option Value → aH → Prop} (hlen : (aEn args).length ≤ 1) (h : GX4_kind lv mc ms post 0 0 0 (aL0 1 args) [] σ) : MX4_kind lv mc ms args σ post := AMet_of_G (by decide +kernel) hlen h
abbrev GX4_placesByDeed (lv mc ms : Nat) (post : Option Value → aH → Prop) (k n pc : Nat) (L : List (Option Value)) (S : List Value) (σ : aH) : Prop := G yX4_placesByDeed cX4_placesByDeed 3 (some .int) lv mc ms post k n pc L S σ
abbrev MX4_placesByDeed (lv mc ms : Nat) (args : List Value) (σ : aH) (post : Option Value → aH → Prop) : Prop := AMet yX4_placesByDeed cX4_placesByDeed 3 (some .int) lv mc ms args σ post
theorem sX4_placesByDeed {lv mc ms : Nat} {args : List Value} {σ : aH} {post : Option Value → aH → Prop} (hlen : (aEn args).length ≤ 3) (h : GX4_placesByDeed lv mc ms post 0 0 0 (aL0 3 args) [] σ) : MX4_placesByDeed lv mc ms args σ post := AMet_of_G (by decide +kernel) hlen h
abbrev GX4_placesAnyhow (lv mc ms : Nat) (post : Option Value → aH → Prop) (k n pc : Nat) (L : List (Option Value)) (S : List Value) (σ : aH) : Prop := G yX4_placesAnyhow cX4_placesAnyhow 2 (some .int) lv mc ms post k n pc L S σ
abbrev MX4_placesAnyhow (lv mc ms : Nat) (args : List Value) (σ : aH) (post : Option Value → aH → Prop) : Prop := AMet yX4_placesAnyhow cX4_placesAnyhow 2 (some .int) lv mc ms args σ post
theorem sX4_placesAnyhow {lv mc ms : Nat} {args : List Value} {σ : aH} {post : Option Value → aH → Prop} (hlen : (aEn args).length ≤ 2) (h : GX4_placesAnyhow lv mc ms post 0 0 0 (aL0 2 args) [] σ) : MX4_placesAnyhow lv mc ms args σ post := AMet_of_G (by decide +kernel) hlen h
abbrev GX5_init (lv mc ms : Nat) (post : Option Value → aH → Prop) (k n pc : Nat) (L : List (Option Value)) (S : List Value) (σ : aH) : Prop := G yX5_init cX5_init 1 none lv mc ms post k n pc L S σ
abbrev MX5_init (lv mc ms : Nat) (args : List Value) (σ : aH) (post : Option Value → aH → Prop) : Prop := AMet yX5_init cX5_init 1 none lv mc ms args σ post
theorem sX5_init {lv mc ms : Nat} {args : List Value} {σ : aH} {post : Option Value → aH → Prop} (hlen : (aEn args).length ≤ 1) (h : GX5_init lv mc ms post 0 0 0 (aL0 1 args) [] σ) : MX5_init lv mc ms args σ post := AMet_of_G (by decide +kernel) hlen h
abbrev GX5_size (lv mc ms : Nat) (post : Option Value → aH → Prop) (k n pc : Nat) (L : List (Option Value)) (S : List Value) (σ : aH) : Prop := G yX5_size cX5_size 1 (some .int) lv mc ms post k n pc L S σ
abbrev MX5_size (lv mc ms : Nat) (args : List Value) (σ : aH) (post : Option Value → aH → Prop) : Prop := AMet yX5_size cX5_size 1 (some .int) lv mc ms args σ post
theorem sX5_size {lv mc ms : Nat} {args : List Value} {σ : aH} {post : Option Value → aH → Prop} (hlen : (aEn args).length ≤ 1) (h : GX5_size lv mc ms post 0 0 0 (aL0 1 args) [] σ) : MX5_size lv mc ms args σ post := AMet_of_G (by decide +kernel) hlen h
abbrev GX5_codeAt (lv mc ms : Nat) (post : Option Value → aH → Prop) (k n pc : Nat) (L : List (Option Value)) (S : List Value) (σ : aH) : Prop := G yX5_codeAt cX5_codeAt 2 (some .int) lv mc ms post k n pc L S σ
abbrev MX5_codeAt (lv mc ms : Nat) (args : List Value) (σ : aH) (post : Option Value → aH → Prop) : Prop := AMet yX5_codeAt cX5_codeAt 2 (some .int) lv mc ms args σ post
theorem sX5_codeAt {lv mc ms : Nat} {args : List Value} {σ : aH} {post : Option Value → aH → Prop} (hlen : (aEn args).length ≤ 2) (h : GX5_codeAt lv mc ms post 0 0 0 (aL0 2 args) [] σ) : MX5_codeAt lv mc ms args σ post := AMet_of_G (by decide +kernel) hlen h
abbrev GX5_add (lv mc ms : Nat) (post : Option Value → aH → Prop) (k n pc : Nat) (L : List (Option Value)) (S : List Value) (σ : aH) : Prop := G yX5_add cX5_add 2 (some .boolean) lv mc ms post k n pc L S σ
abbrev MX5_add (lv mc ms : Nat) (args : List Value) (σ : aH) (post : Option Value → aH → Prop) : Prop := AMet yX5_add cX5_add 2 (some .boolean) lv mc ms args σ post
theorem sX5_add {lv mc ms : Nat} {args : List Value} {σ : aH} {post : Option Value → aH → Prop} (hlen : (aEn args).length ≤ 2) (h : GX5_add lv mc ms post 0 0 0 (aL0 2 args) [] σ) : MX5_add lv mc ms args σ post := AMet_of_G (by decide +kernel) hlen h
abbrev GX5_clear (lv mc ms : Nat) (post : Option Value → aH → Prop) (k n pc : Nat) (L : List (Option Value)) (S : List Value) (σ : aH) : Prop := G yX5_clear cX5_clear 1 none lv mc ms post k n pc L S σ
abbrev MX5_clear (lv mc ms : Nat) (args : List Value) (σ : aH) (post : Option Value → aH → Prop) : Prop := AMet yX5_clear cX5_clear 1 none lv mc ms args σ post
theorem sX5_clear {lv mc ms : Nat} {args : List Value} {σ : aH} {post : Option Value → aH → Prop} (hlen : (aEn args).length ≤ 1) (h : GX5_clear lv mc ms post 0 0 0 (aL0 1 args) [] σ) : MX5_clear lv mc ms args σ post := AMet_of_G (by decide +kernel) hlen h
abbrev GX5_faultPlace (lv mc ms : Nat) (post : Option Value → aH → Prop) (k n pc : Nat) (L : List (Option Value)) (S : List Value) (σ : aH) : Prop := G yX5_faultPlace cX5_faultPlace 2 (some .int) lv mc ms post k n pc L S σ
abbrev MX5_faultPlace (lv mc ms : Nat) (args : List Value) (σ : aH) (post : Option Value → aH → Prop) : Prop := AMet yX5_faultPlace cX5_faultPlace 2 (some .int) lv mc ms args σ post
theorem sX5_faultPlace {lv mc ms : Nat} {args : List Value} {σ : aH} {post : Option Value → aH → Prop} (hlen : (aEn args).length ≤ 2) (h : GX5_faultPlace lv mc ms post 0 0 0 (aL0 2 args) [] σ) : MX5_faultPlace lv mc ms args σ post := AMet_of_G (by decide +kernel) hlen h
abbrev GX5_isCourt (lv mc ms : Nat) (post : Option Value → aH → Prop) (k n pc : Nat) (L : List (Option Value)) (S : List Value) (σ : aH) : Prop := G yX5_isCourt cX5_isCourt 1 (some .boolean) lv mc ms post k n pc L S σ
abbrev MX5_isCourt (lv mc ms : Nat) (args : List Value) (σ : aH) (post : Option Value → aH → Prop) : Prop := AMet yX5_isCourt cX5_isCourt 1 (some .boolean) lv mc ms args σ post
theorem sX5_isCourt {lv mc ms : Nat} {args : List Value} {σ : aH} {post : Option Value → aH → Prop} (hlen : (aEn args).length ≤ 1) (h : GX5_isCourt lv mc ms post 0 0 0 (aL0 1 args) [] σ) : MX5_isCourt lv mc ms args σ post := AMet_of_G (by decide +kernel) hlen h
abbrev GX6_init (lv mc ms : Nat) (post : Option Value → aH → Prop) (k n pc : Nat) (L : List (Option Value)) (S : List Value) (σ : aH) : Prop := G yX6_init cX6_init 1 none lv mc ms post k n pc L S σ
abbrev MX6_init (lv mc ms : Nat) (args : List Value) (σ : aH) (post : Option Value → aH → Prop) : Prop := AMet yX6_init cX6_init 1 none lv mc ms args σ post
theorem sX6_init {lv mc ms : Nat} {args : List Value} {σ : aH} {post : Option Value → aH → Prop} (hlen : (aEn args).length ≤ 1) (h : GX6_init lv mc ms post 0 0 0 (aL0 1 args) [] σ) : MX6_init lv mc ms args σ post := AMet_of_G (by decide +kernel) hlen h
abbrev GX6_size (lv mc ms : Nat) (post : Option Value → aH → Prop) (k n pc : Nat) (L : List (Option Value)) (S : List Value) (σ : aH) : Prop := G yX6_size cX6_size 1 (some .int) lv mc ms post k n pc L S σ
abbrev MX6_size (lv mc ms : Nat) (args : List Value) (σ : aH) (post : Option Value → aH → Prop) : Prop := AMet yX6_size cX6_size 1 (some .int) lv mc ms args σ post
theorem sX6_size {lv mc ms : Nat} {args : List Value} {σ : aH} {post : Option Value → aH → Prop} (hlen : (aEn args).length ≤ 1) (h : GX6_size lv mc ms post 0 0 0 (aL0 1 args) [] σ) : MX6_size lv mc ms args σ post := AMet_of_G (by decide +kernel) hlen h
abbrev GX6_has (lv mc ms : Nat) (post : Option Value → aH → Prop) (k n pc : Nat) (L : List (Option Value)) (S : List Value) (σ : aH) : Prop := G yX6_has cX6_has 2 (some .boolean) lv mc ms post k n pc L S σ
abbrev MX6_has (lv mc ms : Nat) (args : List Value) (σ : aH) (post : Option Value → aH → Prop) : Prop := AMet yX6_has cX6_has 2 (some .boolean) lv mc ms args σ post
theorem sX6_has {lv mc ms : Nat} {args : List Value} {σ : aH} {post : Option Value → aH → Prop} (hlen : (aEn args).length ≤ 2) (h : GX6_has lv mc ms post 0 0 0 (aL0 2 args) [] σ) : MX6_has lv mc ms args σ post := AMet_of_G (by decide +kernel) hlen h
abbrev GX6_at (lv mc ms : Nat) (post : Option Value → aH → Prop) (k n pc : Nat) (L : List (Option Value)) (S : List Value) (σ : aH) : Prop := G yX6_at cX6_at 2 (some .int) lv mc ms post k n pc L S σ
abbrev MX6_at (lv mc ms : Nat) (args : List Value) (σ : aH) (post : Option Value → aH → Prop) : Prop := AMet yX6_at cX6_at 2 (some .int) lv mc ms args σ post
theorem sX6_at {lv mc ms : Nat} {args : List Value} {σ : aH} {post : Option Value → aH → Prop} (hlen : (aEn args).length ≤ 2) (h : GX6_at lv mc ms post 0 0 0 (aL0 2 args) [] σ) : MX6_at lv mc ms args σ post := AMet_of_G (by decide +kernel) hlen h
abbrev GX6_set (lv mc ms : Nat) (post : Option Value → aH → Prop) (k n pc : Nat) (L : List (Option Value)) (S : List Value) (σ : aH) : Prop := G yX6_set cX6_set 3 none lv mc ms post k n pc L S σ
abbrev MX6_set (lv mc ms : Nat) (args : List Value) (σ : aH) (post : Option Value → aH → Prop) : Prop := AMet yX6_set cX6_set 3 none lv mc ms args σ post
theorem sX6_set {lv mc ms : Nat} {args : List Value} {σ : aH} {post : Option Value → aH → Prop} (hlen : (aEn args).length ≤ 3) (h : GX6_set lv mc ms post 0 0 0 (aL0 3 args) [] σ) : MX6_set lv mc ms args σ post := AMet_of_G (by decide +kernel) hlen h
abbrev GX6_add (lv mc ms : Nat) (post : Option Value → aH → Prop) (k n pc : Nat) (L : List (Option Value)) (S : List Value) (σ : aH) : Prop := G yX6_add cX6_add 2 none lv mc ms post k n pc L S σ
abbrev MX6_add (lv mc ms : Nat) (args : List Value) (σ : aH) (post : Option Value → aH → Prop) : Prop := AMet yX6_add cX6_add 2 none lv mc ms args σ post
theorem sX6_add {lv mc ms : Nat} {args : List Value} {σ : aH} {post : Option Value → aH → Prop} (hlen : (aEn args).length ≤ 2) (h : GX6_add lv mc ms post 0 0 0 (aL0 2 args) [] σ) : MX6_add lv mc ms args σ post := AMet_of_G (by decide +kernel) hlen h
abbrev GX6_clear (lv mc ms : Nat) (post : Option Value → aH → Prop) (k n pc : Nat) (L : List (Option Value)) (S : List Value) (σ : aH) : Prop := G yX6_clear cX6_clear 1 none lv mc ms post k n pc L S σ
abbrev MX6_clear (lv mc ms : Nat) (args : List Value) (σ : aH) (post : Option Value → aH → Prop) : Prop := AMet yX6_clear cX6_clear 1 none lv mc ms args σ post
theorem sX6_clear {lv mc ms : Nat} {args : List Value} {σ : aH} {post : Option Value → aH → Prop} (hlen : (aEn args).length ≤ 1) (h : GX6_clear lv mc ms post 0 0 0 (aL0 1 args) [] σ) : MX6_clear lv mc ms args σ post := AMet_of_G (by decide +kernel) hlen h
abbrev GX6_copyFrom (lv mc ms : Nat) (post : Option Value → aH → Prop) (k n pc : Nat) (L : List (Option Value)) (S : List Value) (σ : aH) : Prop := G yX6_copyFrom cX6_copyFrom 2 none lv mc ms post k n pc L S σ
abbrev MX6_copyFrom (lv mc ms : Nat) (args : List Value) (σ : aH) (post : Option Value → aH → Prop) : Prop := AMet yX6_copyFrom cX6_copyFrom 2 none lv mc ms args σ post
theorem sX6_copyFrom {lv mc ms : Nat} {args : List Value} {σ : aH} {post : Option Value → aH → Prop} (hlen : (aEn args).length ≤ 2) (h : GX6_copyFrom lv mc ms post 0 0 0 (aL0 2 args) [] σ) : MX6_copyFrom lv mc ms args σ post := AMet_of_G (by decide +kernel) hlen h
abbrev GX6_placesOf (lv mc ms : Nat) (post : Option Value → aH → Prop) (k n pc : Nat) (L : List (Option Value)) (S : List Value) (σ : aH) : Prop := G yX6_placesOf cX6_placesOf 4 (some .int) lv mc ms post k n pc L S σ
abbrev MX6_placesOf (lv mc ms : Nat) (args : List Value) (σ : aH) (post : Option Value → aH → Prop) : Prop := AMet yX6_placesOf cX6_placesOf 4 (some .int) lv mc ms args σ post
theorem sX6_placesOf {lv mc ms : Nat} {args : List Value} {σ : aH} {post : Option Value → aH → Prop} (hlen : (aEn args).length ≤ 4) (h : GX6_placesOf lv mc ms post 0 0 0 (aL0 4 args) [] σ) : MX6_placesOf lv mc ms args σ post := AMet_of_G (by decide +kernel) hlen h
abbrev GX6_firstPlacesOf (lv mc ms : Nat) (post : Option Value → aH → Prop) (k n pc : Nat) (L : List (Option Value)) (S : List Value) (σ : aH) : Prop := G yX6_firstPlacesOf cX6_firstPlacesOf 5 (some .int) lv mc ms post k n pc L S σ
abbrev MX6_firstPlacesOf (lv mc ms : Nat) (args : List Value) (σ : aH) (post : Option Value → aH → Prop) : Prop := AMet yX6_firstPlacesOf cX6_firstPlacesOf 5 (some .int) lv mc ms args σ post
theorem sX6_firstPlacesOf {lv mc ms : Nat} {args : List Value} {σ : aH} {post : Option Value → aH → Prop} (hlen : (aEn args).length ≤ 5) (h : GX6_firstPlacesOf lv mc ms post 0 0 0 (aL0 5 args) [] σ) : MX6_firstPlacesOf lv mc ms args σ post := AMet_of_G (by decide +kernel) hlen h
abbrev GX6_placesBehind (lv mc ms : Nat) (post : Option Value → aH → Prop) (k n pc : Nat) (L : List (Option Value)) (S : List Value) (σ : aH) : Prop := G yX6_placesBehind cX6_placesBehind 2 (some .int) lv mc ms post k n pc L S σ
abbrev MX6_placesBehind (lv mc ms : Nat) (args : List Value) (σ : aH) (post : Option Value → aH → Prop) : Prop := AMet yX6_placesBehind cX6_placesBehind 2 (some .int) lv mc ms args σ post
theorem sX6_placesBehind {lv mc ms : Nat} {args : List Value} {σ : aH} {post : Option Value → aH → Prop} (hlen : (aEn args).length ≤ 2) (h : GX6_placesBehind lv mc ms post 0 0 0 (aL0 2 args) [] σ) : MX6_placesBehind lv mc ms args σ post := AMet_of_G (by decide +kernel) hlen h
abbrev GX6_unlikeWords (lv mc ms : Nat) (post : Option Value → aH → Prop) (k n pc : Nat) (L : List (Option Value)) (S : List Value) (σ : aH) : Prop := G yX6_unlikeWords cX6_unlikeWords 3 (some .int) lv mc ms post k n pc L S σ
abbrev MX6_unlikeWords (lv mc ms : Nat) (args : List Value) (σ : aH) (post : Option Value → aH → Prop) : Prop := AMet yX6_unlikeWords cX6_unlikeWords 3 (some .int) lv mc ms args σ post
theorem sX6_unlikeWords {lv mc ms : Nat} {args : List Value} {σ : aH} {post : Option Value → aH → Prop} (hlen : (aEn args).length ≤ 3) (h : GX6_unlikeWords lv mc ms post 0 0 0 (aL0 3 args) [] σ) : MX6_unlikeWords lv mc ms args σ post := AMet_of_G (by decide +kernel) hlen h
abbrev GX7_init (lv mc ms : Nat) (post : Option Value → aH → Prop) (k n pc : Nat) (L : List (Option Value)) (S : List Value) (σ : aH) : Prop := G yX7_init cX7_init 2 none lv mc ms post k n pc L S σ
abbrev MX7_init (lv mc ms : Nat) (args : List Value) (σ : aH) (post : Option Value → aH → Prop) : Prop := AMet yX7_init cX7_init 2 none lv mc ms args σ post
theorem sX7_init {lv mc ms : Nat} {args : List Value} {σ : aH} {post : Option Value → aH → Prop} (hlen : (aEn args).length ≤ 2) (h : GX7_init lv mc ms post 0 0 0 (aL0 2 args) [] σ) : MX7_init lv mc ms args σ post := AMet_of_G (by decide +kernel) hlen h
abbrev GX7_kind (lv mc ms : Nat) (post : Option Value → aH → Prop) (k n pc : Nat) (L : List (Option Value)) (S : List Value) (σ : aH) : Prop := G yX7_kind cX7_kind 1 (some .int) lv mc ms post k n pc L S σ
abbrev MX7_kind (lv mc ms : Nat) (args : List Value) (σ : aH) (post : Option Value → aH → Prop) : Prop := AMet yX7_kind cX7_kind 1 (some .int) lv mc ms args σ post
theorem sX7_kind {lv mc ms : Nat} {args : List Value} {σ : aH} {post : Option Value → aH → Prop} (hlen : (aEn args).length ≤ 1) (h : GX7_kind lv mc ms post 0 0 0 (aL0 1 args) [] σ) : MX7_kind lv mc ms args σ post := AMet_of_G (by decide +kernel) hlen h
abbrev GX7_placesAnyhow (lv mc ms : Nat) (post : Option Value → aH → Prop) (k n pc : Nat) (L : List (Option Value)) (S : List Value) (σ : aH) : Prop := G yX7_placesAnyhow cX7_placesAnyhow 2 (some .int) lv mc ms post k n pc L S σ
abbrev MX7_placesAnyhow (lv mc ms : Nat) (args : List Value) (σ : aH) (post : Option Value → aH → Prop) : Prop := AMet yX7_placesAnyhow cX7_placesAnyhow 2 (some .int) lv mc ms args σ post
theorem sX7_placesAnyhow {lv mc ms : Nat} {args : List Value} {σ : aH} {post : Option Value → aH → Prop} (hlen : (aEn args).length ≤ 2) (h : GX7_placesAnyhow lv mc ms post 0 0 0 (aL0 2 args) [] σ) : MX7_placesAnyhow lv mc ms args σ post := AMet_of_G (by decide +kernel) hlen h
abbrev GX8_init (lv mc ms : Nat) (post : Option Value → aH → Prop) (k n pc : Nat) (L : List (Option Value)) (S : List Value) (σ : aH) : Prop := G yX8_init cX8_init 1 none lv mc ms post k n pc L S σ
abbrev MX8_init (lv mc ms : Nat) (args : List Value) (σ : aH) (post : Option Value → aH → Prop) : Prop := AMet yX8_init cX8_init 1 none lv mc ms args σ post
theorem sX8_init {lv mc ms : Nat} {args : List Value} {σ : aH} {post : Option Value → aH → Prop} (hlen : (aEn args).length ≤ 1) (h : GX8_init lv mc ms post 0 0 0 (aL0 1 args) [] σ) : MX8_init lv mc ms args σ post := AMet_of_G (by decide +kernel) hlen h
abbrev GX8_begin (lv mc ms : Nat) (post : Option Value → aH → Prop) (k n pc : Nat) (L : List (Option Value)) (S : List Value) (σ : aH) : Prop := G yX8_begin cX8_begin 1 none lv mc ms post k n pc L S σ
abbrev MX8_begin (lv mc ms : Nat) (args : List Value) (σ : aH) (post : Option Value → aH → Prop) : Prop := AMet yX8_begin cX8_begin 1 none lv mc ms args σ post
theorem sX8_begin {lv mc ms : Nat} {args : List Value} {σ : aH} {post : Option Value → aH → Prop} (hlen : (aEn args).length ≤ 1) (h : GX8_begin lv mc ms post 0 0 0 (aL0 1 args) [] σ) : MX8_begin lv mc ms args σ post := AMet_of_G (by decide +kernel) hlen h
abbrev GX8_copyFrom (lv mc ms : Nat) (post : Option Value → aH → Prop) (k n pc : Nat) (L : List (Option Value)) (S : List Value) (σ : aH) : Prop := G yX8_copyFrom cX8_copyFrom 2 none lv mc ms post k n pc L S σ
abbrev MX8_copyFrom (lv mc ms : Nat) (args : List Value) (σ : aH) (post : Option Value → aH → Prop) : Prop := AMet yX8_copyFrom cX8_copyFrom 2 none lv mc ms args σ post
theorem sX8_copyFrom {lv mc ms : Nat} {args : List Value} {σ : aH} {post : Option Value → aH → Prop} (hlen : (aEn args).length ≤ 2) (h : GX8_copyFrom lv mc ms post 0 0 0 (aL0 2 args) [] σ) : MX8_copyFrom lv mc ms args σ post := AMet_of_G (by decide +kernel) hlen h
abbrev GX9_init (lv mc ms : Nat) (post : Option Value → aH → Prop) (k n pc : Nat) (L : List (Option Value)) (S : List Value) (σ : aH) : Prop := G yX9_init cX9_init 1 none lv mc ms post k n pc L S σ
abbrev MX9_init (lv mc ms : Nat) (args : List Value) (σ : aH) (post : Option Value → aH → Prop) : Prop := AMet yX9_init cX9_init 1 none lv mc ms args σ post
theorem sX9_init {lv mc ms : Nat} {args : List Value} {σ : aH} {post : Option Value → aH → Prop} (hlen : (aEn args).length ≤ 1) (h : GX9_init lv mc ms post 0 0 0 (aL0 1 args) [] σ) : MX9_init lv mc ms args σ post := AMet_of_G (by decide +kernel) hlen h
abbrev GX9_begin (lv mc ms : Nat) (post : Option Value → aH → Prop) (k n pc : Nat) (L : List (Option Value)) (S : List Value) (σ : aH) : Prop := G yX9_begin cX9_begin 1 none lv mc ms post k n pc L S σ
abbrev MX9_begin (lv mc ms : Nat) (args : List Value) (σ : aH) (post : Option Value → aH → Prop) : Prop := AMet yX9_begin cX9_begin 1 none lv mc ms args σ post
theorem sX9_begin {lv mc ms : Nat} {args : List Value} {σ : aH} {post : Option Value → aH → Prop} (hlen : (aEn args).length ≤ 1) (h : GX9_begin lv mc ms post 0 0 0 (aL0 1 args) [] σ) : MX9_begin lv mc ms args σ post := AMet_of_G (by decide +kernel) hlen h
abbrev GX9_passes (lv mc ms : Nat) (post : Option Value → aH → Prop) (k n pc : Nat) (L : List (Option Value)) (S : List Value) (σ : aH) : Prop := G yX9_passes cX9_passes 3 (some .boolean) lv mc ms post k n pc L S σ
abbrev MX9_passes (lv mc ms : Nat) (args : List Value) (σ : aH) (post : Option Value → aH → Prop) : Prop := AMet yX9_passes cX9_passes 3 (some .boolean) lv mc ms args σ post
theorem sX9_passes {lv mc ms : Nat} {args : List Value} {σ : aH} {post : Option Value → aH → Prop} (hlen : (aEn args).length ≤ 3) (h : GX9_passes lv mc ms post 0 0 0 (aL0 3 args) [] σ) : MX9_passes lv mc ms args σ post := AMet_of_G (by decide +kernel) hlen h
abbrev GX9_isWhole (lv mc ms : Nat) (post : Option Value → aH → Prop) (k n pc : Nat) (L : List (Option Value)) (S : List Value) (σ : aH) : Prop := G yX9_isWhole cX9_isWhole 1 (some .boolean) lv mc ms post k n pc L S σ
abbrev MX9_isWhole (lv mc ms : Nat) (args : List Value) (σ : aH) (post : Option Value → aH → Prop) : Prop := AMet yX9_isWhole cX9_isWhole 1 (some .boolean) lv mc ms args σ post
theorem sX9_isWhole {lv mc ms : Nat} {args : List Value} {σ : aH} {post : Option Value → aH → Prop} (hlen : (aEn args).length ≤ 1) (h : GX9_isWhole lv mc ms post 0 0 0 (aL0 1 args) [] σ) : MX9_isWhole lv mc ms args σ post := AMet_of_G (by decide +kernel) hlen h
abbrev GX9_enter (lv mc ms : Nat) (post : Option Value → aH → Prop) (k n pc : Nat) (L : List (Option Value)) (S : List Value) (σ : aH) : Prop := G yX9_enter cX9_enter 2 none lv mc ms post k n pc L S σ
abbrev MX9_enter (lv mc ms : Nat) (args : List Value) (σ : aH) (post : Option Value → aH → Prop) : Prop := AMet yX9_enter cX9_enter 2 none lv mc ms args σ post
theorem sX9_enter {lv mc ms : Nat} {args : List Value} {σ : aH} {post : Option Value → aH → Prop} (hlen : (aEn args).length ≤ 2) (h : GX9_enter lv mc ms post 0 0 0 (aL0 2 args) [] σ) : MX9_enter lv mc ms args σ post := AMet_of_G (by decide +kernel) hlen h
abbrev GX9_passesWord (lv mc ms : Nat) (post : Option Value → aH → Prop) (k n pc : Nat) (L : List (Option Value)) (S : List Value) (σ : aH) : Prop := G yX9_passesWord cX9_passesWord 3 (some .boolean) lv mc ms post k n pc L S σ
abbrev MX9_passesWord (lv mc ms : Nat) (args : List Value) (σ : aH) (post : Option Value → aH → Prop) : Prop := AMet yX9_passesWord cX9_passesWord 3 (some .boolean) lv mc ms args σ post
theorem sX9_passesWord {lv mc ms : Nat} {args : List Value} {σ : aH} {post : Option Value → aH → Prop} (hlen : (aEn args).length ≤ 3) (h : GX9_passesWord lv mc ms post 0 0 0 (aL0 3 args) [] σ) : MX9_passesWord lv mc ms args σ post := AMet_of_G (by decide +kernel) hlen h
abbrev GX10_init (lv mc ms : Nat) (post : Option Value → aH → Prop) (k n pc : Nat) (L : List (Option Value)) (S : List Value) (σ : aH) : Prop := G yX10_init cX10_init 2 none lv mc ms post k n pc L S σ
abbrev MX10_init (lv mc ms : Nat) (args : List Value) (σ : aH) (post : Option Value → aH → Prop) : Prop := AMet yX10_init cX10_init 2 none lv mc ms args σ post
theorem sX10_init {lv mc ms : Nat} {args : List Value} {σ : aH} {post : Option Value → aH → Prop} (hlen : (aEn args).length ≤ 2) (h : GX10_init lv mc ms post 0 0 0 (aL0 2 args) [] σ) : MX10_init lv mc ms args σ post := AMet_of_G (by decide +kernel) hlen h
abbrev GX10_kind (lv mc ms : Nat) (post : Option Value → aH → Prop) (k n pc : Nat) (L : List (Option Value)) (S : List Value) (σ : aH) : Prop := G yX10_kind cX10_kind 1 (some .int) lv mc ms post k n pc L S σ
abbrev MX10_kind (lv mc ms : Nat) (args : List Value) (σ : aH) (post : Option Value → aH → Prop) : Prop := AMet yX10_kind cX10_kind 1 (some .int) lv mc ms args σ post
theorem sX10_kind {lv mc ms : Nat} {args : List Value} {σ : aH} {post : Option Value → aH → Prop} (hlen : (aEn args).length ≤ 1) (h : GX10_kind lv mc ms post 0 0 0 (aL0 1 args) [] σ) : MX10_kind lv mc ms args σ post := AMet_of_G (by decide +kernel) hlen h
abbrev GX10_placesAnyhow (lv mc ms : Nat) (post : Option Value → aH → Prop) (k n pc : Nat) (L : List (Option Value)) (S : List Value) (σ : aH) : Prop := G yX10_placesAnyhow cX10_placesAnyhow 2 (some .int) lv mc ms post k n pc L S σ
abbrev MX10_placesAnyhow (lv mc ms : Nat) (args : List Value) (σ : aH) (post : Option Value → aH → Prop) : Prop := AMet yX10_placesAnyhow cX10_placesAnyhow 2 (some .int) lv mc ms args σ post
theorem sX10_placesAnyhow {lv mc ms : Nat} {args : List Value} {σ : aH} {post : Option Value → aH → Prop} (hlen : (aEn args).length ≤ 2) (h : GX10_placesAnyhow lv mc ms post 0 0 0 (aL0 2 args) [] σ) : MX10_placesAnyhow lv mc ms args σ post := AMet_of_G (by decide +kernel) hlen h
abbrev GX11_init (lv mc ms : Nat) (post : Option Value → aH → Prop) (k n pc : Nat) (L : List (Option Value)) (S : List Value) (σ : aH) : Prop := G yX11_init cX11_init 1 none lv mc ms post k n pc L S σ
abbrev MX11_init (lv mc ms : Nat) (args : List Value) (σ : aH) (post : Option Value → aH → Prop) : Prop := AMet yX11_init cX11_init 1 none lv mc ms args σ post
theorem sX11_init {lv mc ms : Nat} {args : List Value} {σ : aH} {post : Option Value → aH → Prop} (hlen : (aEn args).length ≤ 1) (h : GX11_init lv mc ms post 0 0 0 (aL0 1 args) [] σ) : MX11_init lv mc ms args σ post := AMet_of_G (by decide +kernel) hlen h
abbrev GX11_letter (lv mc ms : Nat) (post : Option Value → aH → Prop) (k n pc : Nat) (L : List (Option Value)) (S : List Value) (σ : aH) : Prop := G yX11_letter cX11_letter 2 (some .int) lv mc ms post k n pc L S σ
abbrev MX11_letter (lv mc ms : Nat) (args : List Value) (σ : aH) (post : Option Value → aH → Prop) : Prop := AMet yX11_letter cX11_letter 2 (some .int) lv mc ms args σ post
theorem sX11_letter {lv mc ms : Nat} {args : List Value} {σ : aH} {post : Option Value → aH → Prop} (hlen : (aEn args).length ≤ 2) (h : GX11_letter lv mc ms post 0 0 0 (aL0 2 args) [] σ) : MX11_letter lv mc ms args σ post := AMet_of_G (by decide +kernel) hlen h
abbrev GX11_blank (lv mc ms : Nat) (post : Option Value → aH → Prop) (k n pc : Nat) (L : List (Option Value)) (S : List Value) (σ : aH) : Prop := G yX11_blank cX11_blank 2 (some .int) lv mc ms post k n pc L S σ
abbrev MX11_blank (lv mc ms : Nat) (args : List Value) (σ : aH) (post : Option Value → aH → Prop) : Prop := AMet yX11_blank cX11_blank 2 (some .int) lv mc ms args σ post
theorem sX11_blank {lv mc ms : Nat} {args : List Value} {σ : aH} {post : Option Value → aH → Prop} (hlen : (aEn args).length ≤ 2) (h : GX11_blank lv mc ms post 0 0 0 (aL0 2 args) [] σ) : MX11_blank lv mc ms args σ post := AMet_of_G (by decide +kernel) hlen h
abbrev GX11_fault (lv mc ms : Nat) (post : Option Value → aH → Prop) (k n pc : Nat) (L : List (Option Value)) (S : List Value) (σ : aH) : Prop := G yX11_fault cX11_fault 1 (some .int) lv mc ms post k n pc L S σ
abbrev MX11_fault (lv mc ms : Nat) (args : List Value) (σ : aH) (post : Option Value → aH → Prop) : Prop := AMet yX11_fault cX11_fault 1 (some .int) lv mc ms args σ post
theorem sX11_fault {lv mc ms : Nat} {args : List Value} {σ : aH} {post : Option Value → aH → Prop} (hlen : (aEn args).length ≤ 1) (h : GX11_fault lv mc ms post 0 0 0 (aL0 1 args) [] σ) : MX11_fault lv mc ms args σ post := AMet_of_G (by decide +kernel) hlen h
abbrev GX11_court (lv mc ms : Nat) (post : Option Value → aH → Prop) (k n pc : Nat) (L : List (Option Value)) (S : List Value) (σ : aH) : Prop := G yX11_court cX11_court 1 (some .int) lv mc ms post k n pc L S σ
abbrev MX11_court (lv mc ms : Nat) (args : List Value) (σ : aH) (post : Option Value → aH → Prop) : Prop := AMet yX11_court cX11_court 1 (some .int) lv mc ms args σ post
theorem sX11_court {lv mc ms : Nat} {args : List Value} {σ : aH} {post : Option Value → aH → Prop} (hlen : (aEn args).length ≤ 1) (h : GX11_court lv mc ms post 0 0 0 (aL0 1 args) [] σ) : MX11_court lv mc ms args σ post := AMet_of_G (by decide +kernel) hlen h
abbrev GX11_near (lv mc ms : Nat) (post : Option Value → aH → Prop) (k n pc : Nat) (L : List (Option Value)) (S : List Value) (σ : aH) : Prop := G yX11_near cX11_near 2 (some .int) lv mc ms post k n pc L S σ
abbrev MX11_near (lv mc ms : Nat) (args : List Value) (σ : aH) (post : Option Value → aH → Prop) : Prop := AMet yX11_near cX11_near 2 (some .int) lv mc ms args σ post
theorem sX11_near {lv mc ms : Nat} {args : List Value} {σ : aH} {post : Option Value → aH → Prop} (hlen : (aEn args).length ≤ 2) (h : GX11_near lv mc ms post 0 0 0 (aL0 2 args) [] σ) : MX11_near lv mc ms args σ post := AMet_of_G (by decide +kernel) hlen h
abbrev GX11_word (lv mc ms : Nat) (post : Option Value → aH → Prop) (k n pc : Nat) (L : List (Option Value)) (S : List Value) (σ : aH) : Prop := G yX11_word cX11_word 2 (some .int) lv mc ms post k n pc L S σ
abbrev MX11_word (lv mc ms : Nat) (args : List Value) (σ : aH) (post : Option Value → aH → Prop) : Prop := AMet yX11_word cX11_word 2 (some .int) lv mc ms args σ post
theorem sX11_word {lv mc ms : Nat} {args : List Value} {σ : aH} {post : Option Value → aH → Prop} (hlen : (aEn args).length ≤ 2) (h : GX11_word lv mc ms post 0 0 0 (aL0 2 args) [] σ) : MX11_word lv mc ms args σ post := AMet_of_G (by decide +kernel) hlen h
abbrev GX11_put (lv mc ms : Nat) (post : Option Value → aH → Prop) (k n pc : Nat) (L : List (Option Value)) (S : List Value) (σ : aH) : Prop := G yX11_put cX11_put 4 (some .int) lv mc ms post k n pc L S σ
abbrev MX11_put (lv mc ms : Nat) (args : List Value) (σ : aH) (post : Option Value → aH → Prop) : Prop := AMet yX11_put cX11_put 4 (some .int) lv mc ms args σ post
theorem sX11_put {lv mc ms : Nat} {args : List Value} {σ : aH} {post : Option Value → aH → Prop} (hlen : (aEn args).length ≤ 4) (h : GX11_put lv mc ms post 0 0 0 (aL0 4 args) [] σ) : MX11_put lv mc ms args σ post := AMet_of_G (by decide +kernel) hlen h
abbrev GX11_limit (lv mc ms : Nat) (post : Option Value → aH → Prop) (k n pc : Nat) (L : List (Option Value)) (S : List Value) (σ : aH) : Prop := G yX11_limit cX11_limit 3 (some .int) lv mc ms post k n pc L S σ
abbrev MX11_limit (lv mc ms : Nat) (args : List Value) (σ : aH) (post : Option Value → aH → Prop) : Prop := AMet yX11_limit cX11_limit 3 (some .int) lv mc ms args σ post
theorem sX11_limit {lv mc ms : Nat} {args : List Value} {σ : aH} {post : Option Value → aH → Prop} (hlen : (aEn args).length ≤ 3) (h : GX11_limit lv mc ms post 0 0 0 (aL0 3 args) [] σ) : MX11_limit lv mc ms args σ post := AMet_of_G (by decide +kernel) hlen h
abbrev GX11_accuse (lv mc ms : Nat) (post : Option Value → aH → Prop) (k n pc : Nat) (L : List (Option Value)) (S : List Value) (σ : aH) : Prop := G yX11_accuse cX11_accuse 4 (some .int) lv mc ms post k n pc L S σ
abbrev MX11_accuse (lv mc ms : Nat) (args : List Value) (σ : aH) (post : Option Value → aH → Prop) : Prop := AMet yX11_accuse cX11_accuse 4 (some .int) lv mc ms args σ post
theorem sX11_accuse {lv mc ms : Nat} {args : List Value} {σ : aH} {post : Option Value → aH → Prop} (hlen : (aEn args).length ≤ 4) (h : GX11_accuse lv mc ms post 0 0 0 (aL0 4 args) [] σ) : MX11_accuse lv mc ms args σ post := AMet_of_G (by decide +kernel) hlen h
abbrev GX11_about (lv mc ms : Nat) (post : Option Value → aH → Prop) (k n pc : Nat) (L : List (Option Value)) (S : List Value) (σ : aH) : Prop := G yX11_about cX11_about 4 (some .int) lv mc ms post k n pc L S σ
abbrev MX11_about (lv mc ms : Nat) (args : List Value) (σ : aH) (post : Option Value → aH → Prop) : Prop := AMet yX11_about cX11_about 4 (some .int) lv mc ms args σ post
theorem sX11_about {lv mc ms : Nat} {args : List Value} {σ : aH} {post : Option Value → aH → Prop} (hlen : (aEn args).length ≤ 4) (h : GX11_about lv mc ms post 0 0 0 (aL0 4 args) [] σ) : MX11_about lv mc ms args σ post := AMet_of_G (by decide +kernel) hlen h
abbrev GX11_as (lv mc ms : Nat) (post : Option Value → aH → Prop) (k n pc : Nat) (L : List (Option Value)) (S : List Value) (σ : aH) : Prop := G yX11_as cX11_as 4 (some .int) lv mc ms post k n pc L S σ
abbrev MX11_as (lv mc ms : Nat) (args : List Value) (σ : aH) (post : Option Value → aH → Prop) : Prop := AMet yX11_as cX11_as 4 (some .int) lv mc ms args σ post
theorem sX11_as {lv mc ms : Nat} {args : List Value} {σ : aH} {post : Option Value → aH → Prop} (hlen : (aEn args).length ≤ 4) (h : GX11_as lv mc ms post 0 0 0 (aL0 4 args) [] σ) : MX11_as lv mc ms args σ post := AMet_of_G (by decide +kernel) hlen h
abbrev GX11_lesson (lv mc ms : Nat) (post : Option Value → aH → Prop) (k n pc : Nat) (L : List (Option Value)) (S : List Value) (σ : aH) : Prop := G yX11_lesson cX11_lesson 4 (some .int) lv mc ms post k n pc L S σ
abbrev MX11_lesson (lv mc ms : Nat) (args : List Value) (σ : aH) (post : Option Value → aH → Prop) : Prop := AMet yX11_lesson cX11_lesson 4 (some .int) lv mc ms args σ post
theorem sX11_lesson {lv mc ms : Nat} {args : List Value} {σ : aH} {post : Option Value → aH → Prop} (hlen : (aEn args).length ≤ 4) (h : GX11_lesson lv mc ms post 0 0 0 (aL0 4 args) [] σ) : MX11_lesson lv mc ms args σ post := AMet_of_G (by decide +kernel) hlen h
abbrev GX11_unlearn (lv mc ms : Nat) (post : Option Value → aH → Prop) (k n pc : Nat) (L : List (Option Value)) (S : List Value) (σ : aH) : Prop := G yX11_unlearn cX11_unlearn 3 (some .int) lv mc ms post k n pc L S σ
abbrev MX11_unlearn (lv mc ms : Nat) (args : List Value) (σ : aH) (post : Option Value → aH → Prop) : Prop := AMet yX11_unlearn cX11_unlearn 3 (some .int) lv mc ms args σ post
theorem sX11_unlearn {lv mc ms : Nat} {args : List Value} {σ : aH} {post : Option Value → aH → Prop} (hlen : (aEn args).length ≤ 3) (h : GX11_unlearn lv mc ms post 0 0 0 (aL0 3 args) [] σ) : MX11_unlearn lv mc ms args σ post := AMet_of_G (by decide +kernel) hlen h
abbrev GX11_brief (lv mc ms : Nat) (post : Option Value → aH → Prop) (k n pc : Nat) (L : List (Option Value)) (S : List Value) (σ : aH) : Prop := G yX11_brief cX11_brief 2 (some .int) lv mc ms post k n pc L S σ
abbrev MX11_brief (lv mc ms : Nat) (args : List Value) (σ : aH) (post : Option Value → aH → Prop) : Prop := AMet yX11_brief cX11_brief 2 (some .int) lv mc ms args σ post
theorem sX11_brief {lv mc ms : Nat} {args : List Value} {σ : aH} {post : Option Value → aH → Prop} (hlen : (aEn args).length ≤ 2) (h : GX11_brief lv mc ms post 0 0 0 (aL0 2 args) [] σ) : MX11_brief lv mc ms args σ post := AMet_of_G (by decide +kernel) hlen h
abbrev GX11_hide (lv mc ms : Nat) (post : Option Value → aH → Prop) (k n pc : Nat) (L : List (Option Value)) (S : List Value) (σ : aH) : Prop := G yX11_hide cX11_hide 6 (some .int) lv mc ms post k n pc L S σ
abbrev MX11_hide (lv mc ms : Nat) (args : List Value) (σ : aH) (post : Option Value → aH → Prop) : Prop := AMet yX11_hide cX11_hide 6 (some .int) lv mc ms args σ post
theorem sX11_hide {lv mc ms : Nat} {args : List Value} {σ : aH} {post : Option Value → aH → Prop} (hlen : (aEn args).length ≤ 6) (h : GX11_hide lv mc ms post 0 0 0 (aL0 6 args) [] σ) : MX11_hide lv mc ms args σ post := AMet_of_G (by decide +kernel) hlen h
abbrev GX11_hear (lv mc ms : Nat) (post : Option Value → aH → Prop) (k n pc : Nat) (L : List (Option Value)) (S : List Value) (σ : aH) : Prop := G yX11_hear cX11_hear 6 (some .int) lv mc ms post k n pc L S σ
abbrev MX11_hear (lv mc ms : Nat) (args : List Value) (σ : aH) (post : Option Value → aH → Prop) : Prop := AMet yX11_hear cX11_hear 6 (some .int) lv mc ms args σ post
theorem sX11_hear {lv mc ms : Nat} {args : List Value} {σ : aH} {post : Option Value → aH → Prop} (hlen : (aEn args).length ≤ 6) (h : GX11_hear lv mc ms post 0 0 0 (aL0 6 args) [] σ) : MX11_hear lv mc ms args σ post := AMet_of_G (by decide +kernel) hlen h
abbrev GX11_forget (lv mc ms : Nat) (post : Option Value → aH → Prop) (k n pc : Nat) (L : List (Option Value)) (S : List Value) (σ : aH) : Prop := G yX11_forget cX11_forget 2 (some .int) lv mc ms post k n pc L S σ
abbrev MX11_forget (lv mc ms : Nat) (args : List Value) (σ : aH) (post : Option Value → aH → Prop) : Prop := AMet yX11_forget cX11_forget 2 (some .int) lv mc ms args σ post
theorem sX11_forget {lv mc ms : Nat} {args : List Value} {σ : aH} {post : Option Value → aH → Prop} (hlen : (aEn args).length ≤ 2) (h : GX11_forget lv mc ms post 0 0 0 (aL0 2 args) [] σ) : MX11_forget lv mc ms args σ post := AMet_of_G (by decide +kernel) hlen h
abbrev GX11_trials (lv mc ms : Nat) (post : Option Value → aH → Prop) (k n pc : Nat) (L : List (Option Value)) (S : List Value) (σ : aH) : Prop := G yX11_trials cX11_trials 8 (some .int) lv mc ms post k n pc L S σ
abbrev MX11_trials (lv mc ms : Nat) (args : List Value) (σ : aH) (post : Option Value → aH → Prop) : Prop := AMet yX11_trials cX11_trials 8 (some .int) lv mc ms args σ post
theorem sX11_trials {lv mc ms : Nat} {args : List Value} {σ : aH} {post : Option Value → aH → Prop} (hlen : (aEn args).length ≤ 8) (h : GX11_trials lv mc ms post 0 0 0 (aL0 8 args) [] σ) : MX11_trials lv mc ms args σ post := AMet_of_G (by decide +kernel) hlen h
abbrev GX11_image (lv mc ms : Nat) (post : Option Value → aH → Prop) (k n pc : Nat) (L : List (Option Value)) (S : List Value) (σ : aH) : Prop := G yX11_image cX11_image 1 (some .int) lv mc ms post k n pc L S σ
abbrev MX11_image (lv mc ms : Nat) (args : List Value) (σ : aH) (post : Option Value → aH → Prop) : Prop := AMet yX11_image cX11_image 1 (some .int) lv mc ms args σ post
theorem sX11_image {lv mc ms : Nat} {args : List Value} {σ : aH} {post : Option Value → aH → Prop} (hlen : (aEn args).length ≤ 1) (h : GX11_image lv mc ms post 0 0 0 (aL0 1 args) [] σ) : MX11_image lv mc ms args σ post := AMet_of_G (by decide +kernel) hlen h
abbrev GX11_restore (lv mc ms : Nat) (post : Option Value → aH → Prop) (k n pc : Nat) (L : List (Option Value)) (S : List Value) (σ : aH) : Prop := G yX11_restore cX11_restore 1 (some .int) lv mc ms post k n pc L S σ
abbrev MX11_restore (lv mc ms : Nat) (args : List Value) (σ : aH) (post : Option Value → aH → Prop) : Prop := AMet yX11_restore cX11_restore 1 (some .int) lv mc ms args σ post
theorem sX11_restore {lv mc ms : Nat} {args : List Value} {σ : aH} {post : Option Value → aH → Prop} (hlen : (aEn args).length ≤ 1) (h : GX11_restore lv mc ms post 0 0 0 (aL0 1 args) [] σ) : MX11_restore lv mc ms args σ post := AMet_of_G (by decide +kernel) hlen h
abbrev GX11_count (lv mc ms : Nat) (post : Option Value → aH → Prop) (k n pc : Nat) (L : List (Option Value)) (S : List Value) (σ : aH) : Prop := G yX11_count cX11_count 2 (some .int) lv mc ms post k n pc L S σ
abbrev MX11_count (lv mc ms : Nat) (args : List Value) (σ : aH) (post : Option Value → aH → Prop) : Prop := AMet yX11_count cX11_count 2 (some .int) lv mc ms args σ post
theorem sX11_count {lv mc ms : Nat} {args : List Value} {σ : aH} {post : Option Value → aH → Prop} (hlen : (aEn args).length ≤ 2) (h : GX11_count lv mc ms post 0 0 0 (aL0 2 args) [] σ) : MX11_count lv mc ms args σ post := AMet_of_G (by decide +kernel) hlen h
abbrev GX11_digest (lv mc ms : Nat) (post : Option Value → aH → Prop) (k n pc : Nat) (L : List (Option Value)) (S : List Value) (σ : aH) : Prop := G yX11_digest cX11_digest 5 (some .long) lv mc ms post k n pc L S σ
abbrev MX11_digest (lv mc ms : Nat) (args : List Value) (σ : aH) (post : Option Value → aH → Prop) : Prop := AMet yX11_digest cX11_digest 5 (some .long) lv mc ms args σ post
theorem sX11_digest {lv mc ms : Nat} {args : List Value} {σ : aH} {post : Option Value → aH → Prop} (hlen : (aEn args).length ≤ 5) (h : GX11_digest lv mc ms post 0 0 0 (aL0 5 args) [] σ) : MX11_digest lv mc ms args σ post := AMet_of_G (by decide +kernel) hlen h
abbrev GX11_hasCourt (lv mc ms : Nat) (post : Option Value → aH → Prop) (k n pc : Nat) (L : List (Option Value)) (S : List Value) (σ : aH) : Prop := G yX11_hasCourt cX11_hasCourt 1 (some .boolean) lv mc ms post k n pc L S σ
abbrev MX11_hasCourt (lv mc ms : Nat) (args : List Value) (σ : aH) (post : Option Value → aH → Prop) : Prop := AMet yX11_hasCourt cX11_hasCourt 1 (some .boolean) lv mc ms args σ post
theorem sX11_hasCourt {lv mc ms : Nat} {args : List Value} {σ : aH} {post : Option Value → aH → Prop} (hlen : (aEn args).length ≤ 1) (h : GX11_hasCourt lv mc ms post 0 0 0 (aL0 1 args) [] σ) : MX11_hasCourt lv mc ms args σ post := AMet_of_G (by decide +kernel) hlen h
abbrev GX11_isAccused (lv mc ms : Nat) (post : Option Value → aH → Prop) (k n pc : Nat) (L : List (Option Value)) (S : List Value) (σ : aH) : Prop := G yX11_isAccused cX11_isAccused 2 (some .boolean) lv mc ms post k n pc L S σ
abbrev MX11_isAccused (lv mc ms : Nat) (args : List Value) (σ : aH) (post : Option Value → aH → Prop) : Prop := AMet yX11_isAccused cX11_isAccused 2 (some .boolean) lv mc ms args σ post
theorem sX11_isAccused {lv mc ms : Nat} {args : List Value} {σ : aH} {post : Option Value → aH → Prop} (hlen : (aEn args).length ≤ 2) (h : GX11_isAccused lv mc ms post 0 0 0 (aL0 2 args) [] σ) : MX11_isAccused lv mc ms args σ post := AMet_of_G (by decide +kernel) hlen h
abbrev GX11_isWord (lv mc ms : Nat) (post : Option Value → aH → Prop) (k n pc : Nat) (L : List (Option Value)) (S : List Value) (σ : aH) : Prop := G yX11_isWord cX11_isWord 1 (some .boolean) lv mc ms post k n pc L S σ
abbrev MX11_isWord (lv mc ms : Nat) (args : List Value) (σ : aH) (post : Option Value → aH → Prop) : Prop := AMet yX11_isWord cX11_isWord 1 (some .boolean) lv mc ms args σ post
theorem sX11_isWord {lv mc ms : Nat} {args : List Value} {σ : aH} {post : Option Value → aH → Prop} (hlen : (aEn args).length ≤ 1) (h : GX11_isWord lv mc ms post 0 0 0 (aL0 1 args) [] σ) : MX11_isWord lv mc ms args σ post := AMet_of_G (by decide +kernel) hlen h
abbrev GX11_isKind (lv mc ms : Nat) (post : Option Value → aH → Prop) (k n pc : Nat) (L : List (Option Value)) (S : List Value) (σ : aH) : Prop := G yX11_isKind cX11_isKind 1 (some .boolean) lv mc ms post k n pc L S σ
abbrev MX11_isKind (lv mc ms : Nat) (args : List Value) (σ : aH) (post : Option Value → aH → Prop) : Prop := AMet yX11_isKind cX11_isKind 1 (some .boolean) lv mc ms args σ post
theorem sX11_isKind {lv mc ms : Nat} {args : List Value} {σ : aH} {post : Option Value → aH → Prop} (hlen : (aEn args).length ≤ 1) (h : GX11_isKind lv mc ms post 0 0 0 (aL0 1 args) [] σ) : MX11_isKind lv mc ms args σ post := AMet_of_G (by decide +kernel) hlen h
abbrev GX11_manOf (lv mc ms : Nat) (post : Option Value → aH → Prop) (k n pc : Nat) (L : List (Option Value)) (S : List Value) (σ : aH) : Prop := G yX11_manOf cX11_manOf 2 (some (.object "ReadAloud$Man")) lv mc ms post k n pc L S σ
abbrev MX11_manOf (lv mc ms : Nat) (args : List Value) (σ : aH) (post : Option Value → aH → Prop) : Prop := AMet yX11_manOf cX11_manOf 2 (some (.object "ReadAloud$Man")) lv mc ms args σ post
theorem sX11_manOf {lv mc ms : Nat} {args : List Value} {σ : aH} {post : Option Value → aH → Prop} (hlen : (aEn args).length ≤ 2) (h : GX11_manOf lv mc ms post 0 0 0 (aL0 2 args) [] σ) : MX11_manOf lv mc ms args σ post := AMet_of_G (by decide +kernel) hlen h
abbrev GX11_deedOf (lv mc ms : Nat) (post : Option Value → aH → Prop) (k n pc : Nat) (L : List (Option Value)) (S : List Value) (σ : aH) : Prop := G yX11_deedOf cX11_deedOf 3 (some .int) lv mc ms post k n pc L S σ
abbrev MX11_deedOf (lv mc ms : Nat) (args : List Value) (σ : aH) (post : Option Value → aH → Prop) : Prop := AMet yX11_deedOf cX11_deedOf 3 (some .int) lv mc ms args σ post
theorem sX11_deedOf {lv mc ms : Nat} {args : List Value} {σ : aH} {post : Option Value → aH → Prop} (hlen : (aEn args).length ≤ 3) (h : GX11_deedOf lv mc ms post 0 0 0 (aL0 3 args) [] σ) : MX11_deedOf lv mc ms args σ post := AMet_of_G (by decide +kernel) hlen h
abbrev GX11_hiddenBy (lv mc ms : Nat) (post : Option Value → aH → Prop) (k n pc : Nat) (L : List (Option Value)) (S : List Value) (σ : aH) : Prop := G yX11_hiddenBy cX11_hiddenBy 2 (some .int) lv mc ms post k n pc L S σ
abbrev MX11_hiddenBy (lv mc ms : Nat) (args : List Value) (σ : aH) (post : Option Value → aH → Prop) : Prop := AMet yX11_hiddenBy cX11_hiddenBy 2 (some .int) lv mc ms args σ post
theorem sX11_hiddenBy {lv mc ms : Nat} {args : List Value} {σ : aH} {post : Option Value → aH → Prop} (hlen : (aEn args).length ≤ 2) (h : GX11_hiddenBy lv mc ms post 0 0 0 (aL0 2 args) [] σ) : MX11_hiddenBy lv mc ms args σ post := AMet_of_G (by decide +kernel) hlen h
abbrev GX11_manOfKind (lv mc ms : Nat) (post : Option Value → aH → Prop) (k n pc : Nat) (L : List (Option Value)) (S : List Value) (σ : aH) : Prop := G yX11_manOfKind cX11_manOfKind 2 (some (.object "ReadAloud$Man")) lv mc ms post k n pc L S σ
abbrev MX11_manOfKind (lv mc ms : Nat) (args : List Value) (σ : aH) (post : Option Value → aH → Prop) : Prop := AMet yX11_manOfKind cX11_manOfKind 2 (some (.object "ReadAloud$Man")) lv mc ms args σ post
theorem sX11_manOfKind {lv mc ms : Nat} {args : List Value} {σ : aH} {post : Option Value → aH → Prop} (hlen : (aEn args).length ≤ 2) (h : GX11_manOfKind lv mc ms post 0 0 0 (aL0 2 args) [] σ) : MX11_manOfKind lv mc ms args σ post := AMet_of_G (by decide +kernel) hlen h
abbrev GX11_isOfKind (lv mc ms : Nat) (post : Option Value → aH → Prop) (k n pc : Nat) (L : List (Option Value)) (S : List Value) (σ : aH) : Prop := G yX11_isOfKind cX11_isOfKind 2 (some .boolean) lv mc ms post k n pc L S σ
abbrev MX11_isOfKind (lv mc ms : Nat) (args : List Value) (σ : aH) (post : Option Value → aH → Prop) : Prop := AMet yX11_isOfKind cX11_isOfKind 2 (some .boolean) lv mc ms args σ post
theorem sX11_isOfKind {lv mc ms : Nat} {args : List Value} {σ : aH} {post : Option Value → aH → Prop} (hlen : (aEn args).length ≤ 2) (h : GX11_isOfKind lv mc ms post 0 0 0 (aL0 2 args) [] σ) : MX11_isOfKind lv mc ms args σ post := AMet_of_G (by decide +kernel) hlen h
abbrev GX11_readCourt (lv mc ms : Nat) (post : Option Value → aH → Prop) (k n pc : Nat) (L : List (Option Value)) (S : List Value) (σ : aH) : Prop := G yX11_readCourt cX11_readCourt 4 none lv mc ms post k n pc L S σ
abbrev MX11_readCourt (lv mc ms : Nat) (args : List Value) (σ : aH) (post : Option Value → aH → Prop) : Prop := AMet yX11_readCourt cX11_readCourt 4 none lv mc ms args σ post
theorem sX11_readCourt {lv mc ms : Nat} {args : List Value} {σ : aH} {post : Option Value → aH → Prop} (hlen : (aEn args).length ≤ 4) (h : GX11_readCourt lv mc ms post 0 0 0 (aL0 4 args) [] σ) : MX11_readCourt lv mc ms args σ post := AMet_of_G (by decide +kernel) hlen h
abbrev GX11_wouldAlter (lv mc ms : Nat) (post : Option Value → aH → Prop) (k n pc : Nat) (L : List (Option Value)) (S : List Value) (σ : aH) : Prop := G yX11_wouldAlter cX11_wouldAlter 7 (some .int) lv mc ms post k n pc L S σ
abbrev MX11_wouldAlter (lv mc ms : Nat) (args : List Value) (σ : aH) (post : Option Value → aH → Prop) : Prop := AMet yX11_wouldAlter cX11_wouldAlter 7 (some .int) lv mc ms args σ post
theorem sX11_wouldAlter {lv mc ms : Nat} {args : List Value} {σ : aH} {post : Option Value → aH → Prop} (hlen : (aEn args).length ≤ 7) (h : GX11_wouldAlter lv mc ms post 0 0 0 (aL0 7 args) [] σ) : MX11_wouldAlter lv mc ms args σ post := AMet_of_G (by decide +kernel) hlen h
abbrev GX11_alteredBy (lv mc ms : Nat) (post : Option Value → aH → Prop) (k n pc : Nat) (L : List (Option Value)) (S : List Value) (σ : aH) : Prop := G yX11_alteredBy cX11_alteredBy 3 (some .int) lv mc ms post k n pc L S σ
abbrev MX11_alteredBy (lv mc ms : Nat) (args : List Value) (σ : aH) (post : Option Value → aH → Prop) : Prop := AMet yX11_alteredBy cX11_alteredBy 3 (some .int) lv mc ms args σ post
theorem sX11_alteredBy {lv mc ms : Nat} {args : List Value} {σ : aH} {post : Option Value → aH → Prop} (hlen : (aEn args).length ≤ 3) (h : GX11_alteredBy lv mc ms post 0 0 0 (aL0 3 args) [] σ) : MX11_alteredBy lv mc ms args σ post := AMet_of_G (by decide +kernel) hlen h
abbrev GX11_hangingAt (lv mc ms : Nat) (post : Option Value → aH → Prop) (k n pc : Nat) (L : List (Option Value)) (S : List Value) (σ : aH) : Prop := G yX11_hangingAt cX11_hangingAt 4 (some .int) lv mc ms post k n pc L S σ
abbrev MX11_hangingAt (lv mc ms : Nat) (args : List Value) (σ : aH) (post : Option Value → aH → Prop) : Prop := AMet yX11_hangingAt cX11_hangingAt 4 (some .int) lv mc ms args σ post
theorem sX11_hangingAt {lv mc ms : Nat} {args : List Value} {σ : aH} {post : Option Value → aH → Prop} (hlen : (aEn args).length ≤ 4) (h : GX11_hangingAt lv mc ms post 0 0 0 (aL0 4 args) [] σ) : MX11_hangingAt lv mc ms args σ post := AMet_of_G (by decide +kernel) hlen h
abbrev GX11_allAltering (lv mc ms : Nat) (post : Option Value → aH → Prop) (k n pc : Nat) (L : List (Option Value)) (S : List Value) (σ : aH) : Prop := G yX11_allAltering cX11_allAltering 4 (some .int) lv mc ms post k n pc L S σ
abbrev MX11_allAltering (lv mc ms : Nat) (args : List Value) (σ : aH) (post : Option Value → aH → Prop) : Prop := AMet yX11_allAltering cX11_allAltering 4 (some .int) lv mc ms args σ post
theorem sX11_allAltering {lv mc ms : Nat} {args : List Value} {σ : aH} {post : Option Value → aH → Prop} (hlen : (aEn args).length ≤ 4) (h : GX11_allAltering lv mc ms post 0 0 0 (aL0 4 args) [] σ) : MX11_allAltering lv mc ms args σ post := AMet_of_G (by decide +kernel) hlen h
abbrev GX11_deedsAltering (lv mc ms : Nat) (post : Option Value → aH → Prop) (k n pc : Nat) (L : List (Option Value)) (S : List Value) (σ : aH) : Prop := G yX11_deedsAltering cX11_deedsAltering 6 (some .int) lv mc ms post k n pc L S σ
abbrev MX11_deedsAltering (lv mc ms : Nat) (args : List Value) (σ : aH) (post : Option Value → aH → Prop) : Prop := AMet yX11_deedsAltering cX11_deedsAltering 6 (some .int) lv mc ms args σ post
theorem sX11_deedsAltering {lv mc ms : Nat} {args : List Value} {σ : aH} {post : Option Value → aH → Prop} (hlen : (aEn args).length ≤ 6) (h : GX11_deedsAltering lv mc ms post 0 0 0 (aL0 6 args) [] σ) : MX11_deedsAltering lv mc ms args σ post := AMet_of_G (by decide +kernel) hlen h
abbrev GX11_placeToListen (lv mc ms : Nat) (post : Option Value → aH → Prop) (k n pc : Nat) (L : List (Option Value)) (S : List Value) (σ : aH) : Prop := G yX11_placeToListen cX11_placeToListen 8 (some .int) lv mc ms post k n pc L S σ
abbrev MX11_placeToListen (lv mc ms : Nat) (args : List Value) (σ : aH) (post : Option Value → aH → Prop) : Prop := AMet yX11_placeToListen cX11_placeToListen 8 (some .int) lv mc ms args σ post
theorem sX11_placeToListen {lv mc ms : Nat} {args : List Value} {σ : aH} {post : Option Value → aH → Prop} (hlen : (aEn args).length ≤ 8) (h : GX11_placeToListen lv mc ms post 0 0 0 (aL0 8 args) [] σ) : MX11_placeToListen lv mc ms args σ post := AMet_of_G (by decide +kernel) hlen h
abbrev GX11_wordsToHide (lv mc ms : Nat) (post : Option Value → aH → Prop) (k n pc : Nat) (L : List (Option Value)) (S : List Value) (σ : aH) : Prop := G yX11_wordsToHide cX11_wordsToHide 6 (some .int) lv mc ms post k n pc L S σ
abbrev MX11_wordsToHide (lv mc ms : Nat) (args : List Value) (σ : aH) (post : Option Value → aH → Prop) : Prop := AMet yX11_wordsToHide cX11_wordsToHide 6 (some .int) lv mc ms args σ post
theorem sX11_wordsToHide {lv mc ms : Nat} {args : List Value} {σ : aH} {post : Option Value → aH → Prop} (hlen : (aEn args).length ≤ 6) (h : GX11_wordsToHide lv mc ms post 0 0 0 (aL0 6 args) [] σ) : MX11_wordsToHide lv mc ms args σ post := AMet_of_G (by decide +kernel) hlen h
abbrev GX11_heaviestWord (lv mc ms : Nat) (post : Option Value → aH → Prop) (k n pc : Nat) (L : List (Option Value)) (S : List Value) (σ : aH) : Prop := G yX11_heaviestWord cX11_heaviestWord 6 (some .int) lv mc ms post k n pc L S σ
abbrev MX11_heaviestWord (lv mc ms : Nat) (args : List Value) (σ : aH) (post : Option Value → aH → Prop) : Prop := AMet yX11_heaviestWord cX11_heaviestWord 6 (some .int) lv mc ms args σ post
theorem sX11_heaviestWord {lv mc ms : Nat} {args : List Value} {σ : aH} {post : Option Value → aH → Prop} (hlen : (aEn args).length ≤ 6) (h : GX11_heaviestWord lv mc ms post 0 0 0 (aL0 6 args) [] σ) : MX11_heaviestWord lv mc ms args σ post := AMet_of_G (by decide +kernel) hlen h
abbrev GX11_drawSheet (lv mc ms : Nat) (post : Option Value → aH → Prop) (k n pc : Nat) (L : List (Option Value)) (S : List Value) (σ : aH) : Prop := G yX11_drawSheet cX11_drawSheet 4 (some .int) lv mc ms post k n pc L S σ
abbrev MX11_drawSheet (lv mc ms : Nat) (args : List Value) (σ : aH) (post : Option Value → aH → Prop) : Prop := AMet yX11_drawSheet cX11_drawSheet 4 (some .int) lv mc ms args σ post
theorem sX11_drawSheet {lv mc ms : Nat} {args : List Value} {σ : aH} {post : Option Value → aH → Prop} (hlen : (aEn args).length ≤ 4) (h : GX11_drawSheet lv mc ms post 0 0 0 (aL0 4 args) [] σ) : MX11_drawSheet lv mc ms args σ post := AMet_of_G (by decide +kernel) hlen h
abbrev GX12_init (lv mc ms : Nat) (post : Option Value → aH → Prop) (k n pc : Nat) (L : List (Option Value)) (S : List Value) (σ : aH) : Prop := G yX12_init cX12_init 1 none lv mc ms post k n pc L S σ
abbrev MX12_init (lv mc ms : Nat) (args : List Value) (σ : aH) (post : Option Value → aH → Prop) : Prop := AMet yX12_init cX12_init 1 none lv mc ms args σ post
theorem sX12_init {lv mc ms : Nat} {args : List Value} {σ : aH} {post : Option Value → aH → Prop} (hlen : (aEn args).length ≤ 1) (h : GX12_init lv mc ms post 0 0 0 (aL0 1 args) [] σ) : MX12_init lv mc ms args σ post := AMet_of_G (by decide +kernel) hlen h
abbrev GX12_in (lv mc ms : Nat) (post : Option Value → aH → Prop) (k n pc : Nat) (L : List (Option Value)) (S : List Value) (σ : aH) : Prop := G yX12_in cX12_in 6 (some .boolean) lv mc ms post k n pc L S σ
abbrev MX12_in (lv mc ms : Nat) (args : List Value) (σ : aH) (post : Option Value → aH → Prop) : Prop := AMet yX12_in cX12_in 6 (some .boolean) lv mc ms args σ post
theorem sX12_in {lv mc ms : Nat} {args : List Value} {σ : aH} {post : Option Value → aH → Prop} (hlen : (aEn args).length ≤ 6) (h : GX12_in lv mc ms post 0 0 0 (aL0 6 args) [] σ) : MX12_in lv mc ms args σ post := AMet_of_G (by decide +kernel) hlen h
abbrev GX12_copy (lv mc ms : Nat) (post : Option Value → aH → Prop) (k n pc : Nat) (L : List (Option Value)) (S : List Value) (σ : aH) : Prop := G yX12_copy cX12_copy 3 none lv mc ms post k n pc L S σ
abbrev MX12_copy (lv mc ms : Nat) (args : List Value) (σ : aH) (post : Option Value → aH → Prop) : Prop := AMet yX12_copy cX12_copy 3 none lv mc ms args σ post
theorem sX12_copy {lv mc ms : Nat} {args : List Value} {σ : aH} {post : Option Value → aH → Prop} (hlen : (aEn args).length ≤ 3) (h : GX12_copy lv mc ms post 0 0 0 (aL0 3 args) [] σ) : MX12_copy lv mc ms args σ post := AMet_of_G (by decide +kernel) hlen h
abbrev GX12_ones (lv mc ms : Nat) (post : Option Value → aH → Prop) (k n pc : Nat) (L : List (Option Value)) (S : List Value) (σ : aH) : Prop := G yX12_ones cX12_ones 3 (some .int) lv mc ms post k n pc L S σ
abbrev MX12_ones (lv mc ms : Nat) (args : List Value) (σ : aH) (post : Option Value → aH → Prop) : Prop := AMet yX12_ones cX12_ones 3 (some .int) lv mc ms args σ post
theorem sX12_ones {lv mc ms : Nat} {args : List Value} {σ : aH} {post : Option Value → aH → Prop} (hlen : (aEn args).length ≤ 3) (h : GX12_ones lv mc ms post 0 0 0 (aL0 3 args) [] σ) : MX12_ones lv mc ms args σ post := AMet_of_G (by decide +kernel) hlen h
abbrev GX12_letter (lv mc ms : Nat) (post : Option Value → aH → Prop) (k n pc : Nat) (L : List (Option Value)) (S : List Value) (σ : aH) : Prop := G yX12_letter cX12_letter 2 (some .int) lv mc ms post k n pc L S σ
abbrev MX12_letter (lv mc ms : Nat) (args : List Value) (σ : aH) (post : Option Value → aH → Prop) : Prop := AMet yX12_letter cX12_letter 2 (some .int) lv mc ms args σ post
theorem sX12_letter {lv mc ms : Nat} {args : List Value} {σ : aH} {post : Option Value → aH → Prop} (hlen : (aEn args).length ≤ 2) (h : GX12_letter lv mc ms post 0 0 0 (aL0 2 args) [] σ) : MX12_letter lv mc ms args σ post := AMet_of_G (by decide +kernel) hlen h
abbrev GX12_blank (lv mc ms : Nat) (post : Option Value → aH → Prop) (k n pc : Nat) (L : List (Option Value)) (S : List Value) (σ : aH) : Prop := G yX12_blank cX12_blank 2 (some .int) lv mc ms post k n pc L S σ
abbrev MX12_blank (lv mc ms : Nat) (args : List Value) (σ : aH) (post : Option Value → aH → Prop) : Prop := AMet yX12_blank cX12_blank 2 (some .int) lv mc ms args σ post
theorem sX12_blank {lv mc ms : Nat} {args : List Value} {σ : aH} {post : Option Value → aH → Prop} (hlen : (aEn args).length ≤ 2) (h : GX12_blank lv mc ms post 0 0 0 (aL0 2 args) [] σ) : MX12_blank lv mc ms args σ post := AMet_of_G (by decide +kernel) hlen h
abbrev GX12_go (lv mc ms : Nat) (post : Option Value → aH → Prop) (k n pc : Nat) (L : List (Option Value)) (S : List Value) (σ : aH) : Prop := G yX12_go cX12_go 4 (some .boolean) lv mc ms post k n pc L S σ
abbrev MX12_go (lv mc ms : Nat) (args : List Value) (σ : aH) (post : Option Value → aH → Prop) : Prop := AMet yX12_go cX12_go 4 (some .boolean) lv mc ms args σ post
theorem sX12_go {lv mc ms : Nat} {args : List Value} {σ : aH} {post : Option Value → aH → Prop} (hlen : (aEn args).length ≤ 4) (h : GX12_go lv mc ms post 0 0 0 (aL0 4 args) [] σ) : MX12_go lv mc ms args σ post := AMet_of_G (by decide +kernel) hlen h
abbrev GX12_faultOf (lv mc ms : Nat) (post : Option Value → aH → Prop) (k n pc : Nat) (L : List (Option Value)) (S : List Value) (σ : aH) : Prop := G yX12_faultOf cX12_faultOf 2 (some .int) lv mc ms post k n pc L S σ
abbrev MX12_faultOf (lv mc ms : Nat) (args : List Value) (σ : aH) (post : Option Value → aH → Prop) : Prop := AMet yX12_faultOf cX12_faultOf 2 (some .int) lv mc ms args σ post
theorem sX12_faultOf {lv mc ms : Nat} {args : List Value} {σ : aH} {post : Option Value → aH → Prop} (hlen : (aEn args).length ≤ 2) (h : GX12_faultOf lv mc ms post 0 0 0 (aL0 2 args) [] σ) : MX12_faultOf lv mc ms args σ post := AMet_of_G (by decide +kernel) hlen h
abbrev GX12_fault (lv mc ms : Nat) (post : Option Value → aH → Prop) (k n pc : Nat) (L : List (Option Value)) (S : List Value) (σ : aH) : Prop := G yX12_fault cX12_fault 1 (some .int) lv mc ms post k n pc L S σ
abbrev MX12_fault (lv mc ms : Nat) (args : List Value) (σ : aH) (post : Option Value → aH → Prop) : Prop := AMet yX12_fault cX12_fault 1 (some .int) lv mc ms args σ post
theorem sX12_fault {lv mc ms : Nat} {args : List Value} {σ : aH} {post : Option Value → aH → Prop} (hlen : (aEn args).length ≤ 1) (h : GX12_fault lv mc ms post 0 0 0 (aL0 1 args) [] σ) : MX12_fault lv mc ms args σ post := AMet_of_G (by decide +kernel) hlen h
abbrev GX12_court (lv mc ms : Nat) (post : Option Value → aH → Prop) (k n pc : Nat) (L : List (Option Value)) (S : List Value) (σ : aH) : Prop := G yX12_court cX12_court 1 (some .int) lv mc ms post k n pc L S σ
abbrev MX12_court (lv mc ms : Nat) (args : List Value) (σ : aH) (post : Option Value → aH → Prop) : Prop := AMet yX12_court cX12_court 1 (some .int) lv mc ms args σ post
theorem sX12_court {lv mc ms : Nat} {args : List Value} {σ : aH} {post : Option Value → aH → Prop} (hlen : (aEn args).length ≤ 1) (h : GX12_court lv mc ms post 0 0 0 (aL0 1 args) [] σ) : MX12_court lv mc ms args σ post := AMet_of_G (by decide +kernel) hlen h
abbrev GX12_lacks (lv mc ms : Nat) (post : Option Value → aH → Prop) (k n pc : Nat) (L : List (Option Value)) (S : List Value) (σ : aH) : Prop := G yX12_lacks cX12_lacks 1 (some .boolean) lv mc ms post k n pc L S σ
abbrev MX12_lacks (lv mc ms : Nat) (args : List Value) (σ : aH) (post : Option Value → aH → Prop) : Prop := AMet yX12_lacks cX12_lacks 1 (some .boolean) lv mc ms args σ post
theorem sX12_lacks {lv mc ms : Nat} {args : List Value} {σ : aH} {post : Option Value → aH → Prop} (hlen : (aEn args).length ≤ 1) (h : GX12_lacks lv mc ms post 0 0 0 (aL0 1 args) [] σ) : MX12_lacks lv mc ms args σ post := AMet_of_G (by decide +kernel) hlen h
abbrev GX12_isPlace (lv mc ms : Nat) (post : Option Value → aH → Prop) (k n pc : Nat) (L : List (Option Value)) (S : List Value) (σ : aH) : Prop := G yX12_isPlace cX12_isPlace 2 (some .boolean) lv mc ms post k n pc L S σ
abbrev MX12_isPlace (lv mc ms : Nat) (args : List Value) (σ : aH) (post : Option Value → aH → Prop) : Prop := AMet yX12_isPlace cX12_isPlace 2 (some .boolean) lv mc ms args σ post
theorem sX12_isPlace {lv mc ms : Nat} {args : List Value} {σ : aH} {post : Option Value → aH → Prop} (hlen : (aEn args).length ≤ 2) (h : GX12_isPlace lv mc ms post 0 0 0 (aL0 2 args) [] σ) : MX12_isPlace lv mc ms args σ post := AMet_of_G (by decide +kernel) hlen h
abbrev GX12_near (lv mc ms : Nat) (post : Option Value → aH → Prop) (k n pc : Nat) (L : List (Option Value)) (S : List Value) (σ : aH) : Prop := G yX12_near cX12_near 2 (some .int) lv mc ms post k n pc L S σ
abbrev MX12_near (lv mc ms : Nat) (args : List Value) (σ : aH) (post : Option Value → aH → Prop) : Prop := AMet yX12_near cX12_near 2 (some .int) lv mc ms args σ post
theorem sX12_near {lv mc ms : Nat} {args : List Value} {σ : aH} {post : Option Value → aH → Prop} (hlen : (aEn args).length ≤ 2) (h : GX12_near lv mc ms post 0 0 0 (aL0 2 args) [] σ) : MX12_near lv mc ms args σ post := AMet_of_G (by decide +kernel) hlen h
abbrev GX12_word (lv mc ms : Nat) (post : Option Value → aH → Prop) (k n pc : Nat) (L : List (Option Value)) (S : List Value) (σ : aH) : Prop := G yX12_word cX12_word 2 (some .int) lv mc ms post k n pc L S σ
abbrev MX12_word (lv mc ms : Nat) (args : List Value) (σ : aH) (post : Option Value → aH → Prop) : Prop := AMet yX12_word cX12_word 2 (some .int) lv mc ms args σ post
theorem sX12_word {lv mc ms : Nat} {args : List Value} {σ : aH} {post : Option Value → aH → Prop} (hlen : (aEn args).length ≤ 2) (h : GX12_word lv mc ms post 0 0 0 (aL0 2 args) [] σ) : MX12_word lv mc ms args σ post := AMet_of_G (by decide +kernel) hlen h
abbrev GX12_put (lv mc ms : Nat) (post : Option Value → aH → Prop) (k n pc : Nat) (L : List (Option Value)) (S : List Value) (σ : aH) : Prop := G yX12_put cX12_put 4 (some .int) lv mc ms post k n pc L S σ
abbrev MX12_put (lv mc ms : Nat) (args : List Value) (σ : aH) (post : Option Value → aH → Prop) : Prop := AMet yX12_put cX12_put 4 (some .int) lv mc ms args σ post
theorem sX12_put {lv mc ms : Nat} {args : List Value} {σ : aH} {post : Option Value → aH → Prop} (hlen : (aEn args).length ≤ 4) (h : GX12_put lv mc ms post 0 0 0 (aL0 4 args) [] σ) : MX12_put lv mc ms args σ post := AMet_of_G (by decide +kernel) hlen h
abbrev GX12_limit (lv mc ms : Nat) (post : Option Value → aH → Prop) (k n pc : Nat) (L : List (Option Value)) (S : List Value) (σ : aH) : Prop := G yX12_limit cX12_limit 3 (some .int) lv mc ms post k n pc L S σ
abbrev MX12_limit (lv mc ms : Nat) (args : List Value) (σ : aH) (post : Option Value → aH → Prop) : Prop := AMet yX12_limit cX12_limit 3 (some .int) lv mc ms args σ post
theorem sX12_limit {lv mc ms : Nat} {args : List Value} {σ : aH} {post : Option Value → aH → Prop} (hlen : (aEn args).length ≤ 3) (h : GX12_limit lv mc ms post 0 0 0 (aL0 3 args) [] σ) : MX12_limit lv mc ms args σ post := AMet_of_G (by decide +kernel) hlen h
abbrev GX12_isNear (lv mc ms : Nat) (post : Option Value → aH → Prop) (k n pc : Nat) (L : List (Option Value)) (S : List Value) (σ : aH) : Prop := G yX12_isNear cX12_isNear 3 (some .boolean) lv mc ms post k n pc L S σ
abbrev MX12_isNear (lv mc ms : Nat) (args : List Value) (σ : aH) (post : Option Value → aH → Prop) : Prop := AMet yX12_isNear cX12_isNear 3 (some .boolean) lv mc ms args σ post
theorem sX12_isNear {lv mc ms : Nat} {args : List Value} {σ : aH} {post : Option Value → aH → Prop} (hlen : (aEn args).length ≤ 3) (h : GX12_isNear lv mc ms post 0 0 0 (aL0 3 args) [] σ) : MX12_isNear lv mc ms args σ post := AMet_of_G (by decide +kernel) hlen h
abbrev GX12_stands (lv mc ms : Nat) (post : Option Value → aH → Prop) (k n pc : Nat) (L : List (Option Value)) (S : List Value) (σ : aH) : Prop := G yX12_stands cX12_stands 4 (some .boolean) lv mc ms post k n pc L S σ
abbrev MX12_stands (lv mc ms : Nat) (args : List Value) (σ : aH) (post : Option Value → aH → Prop) : Prop := AMet yX12_stands cX12_stands 4 (some .boolean) lv mc ms args σ post
theorem sX12_stands {lv mc ms : Nat} {args : List Value} {σ : aH} {post : Option Value → aH → Prop} (hlen : (aEn args).length ≤ 4) (h : GX12_stands lv mc ms post 0 0 0 (aL0 4 args) [] σ) : MX12_stands lv mc ms args σ post := AMet_of_G (by decide +kernel) hlen h
abbrev GX12_alters (lv mc ms : Nat) (post : Option Value → aH → Prop) (k n pc : Nat) (L : List (Option Value)) (S : List Value) (σ : aH) : Prop := G yX12_alters cX12_alters 7 (some .boolean) lv mc ms post k n pc L S σ
abbrev MX12_alters (lv mc ms : Nat) (args : List Value) (σ : aH) (post : Option Value → aH → Prop) : Prop := AMet yX12_alters cX12_alters 7 (some .boolean) lv mc ms args σ post
theorem sX12_alters {lv mc ms : Nat} {args : List Value} {σ : aH} {post : Option Value → aH → Prop} (hlen : (aEn args).length ≤ 7) (h : GX12_alters lv mc ms post 0 0 0 (aL0 7 args) [] σ) : MX12_alters lv mc ms args σ post := AMet_of_G (by decide +kernel) hlen h
abbrev GX12_altersOn (lv mc ms : Nat) (post : Option Value → aH → Prop) (k n pc : Nat) (L : List (Option Value)) (S : List Value) (σ : aH) : Prop := G yX12_altersOn cX12_altersOn 8 (some .int) lv mc ms post k n pc L S σ
abbrev MX12_altersOn (lv mc ms : Nat) (args : List Value) (σ : aH) (post : Option Value → aH → Prop) : Prop := AMet yX12_altersOn cX12_altersOn 8 (some .int) lv mc ms args σ post
theorem sX12_altersOn {lv mc ms : Nat} {args : List Value} {σ : aH} {post : Option Value → aH → Prop} (hlen : (aEn args).length ≤ 8) (h : GX12_altersOn lv mc ms post 0 0 0 (aL0 8 args) [] σ) : MX12_altersOn lv mc ms args σ post := AMet_of_G (by decide +kernel) hlen h
abbrev GX12_isAccused (lv mc ms : Nat) (post : Option Value → aH → Prop) (k n pc : Nat) (L : List (Option Value)) (S : List Value) (σ : aH) : Prop := G yX12_isAccused cX12_isAccused 2 (some .boolean) lv mc ms post k n pc L S σ
abbrev MX12_isAccused (lv mc ms : Nat) (args : List Value) (σ : aH) (post : Option Value → aH → Prop) : Prop := AMet yX12_isAccused cX12_isAccused 2 (some .boolean) lv mc ms args σ post
theorem sX12_isAccused {lv mc ms : Nat} {args : List Value} {σ : aH} {post : Option Value → aH → Prop} (hlen : (aEn args).length ≤ 2) (h : GX12_isAccused lv mc ms post 0 0 0 (aL0 2 args) [] σ) : MX12_isAccused lv mc ms args σ post := AMet_of_G (by decide +kernel) hlen h
abbrev GX12_accuse (lv mc ms : Nat) (post : Option Value → aH → Prop) (k n pc : Nat) (L : List (Option Value)) (S : List Value) (σ : aH) : Prop := G yX12_accuse cX12_accuse 3 (some .int) lv mc ms post k n pc L S σ
abbrev MX12_accuse (lv mc ms : Nat) (args : List Value) (σ : aH) (post : Option Value → aH → Prop) : Prop := AMet yX12_accuse cX12_accuse 3 (some .int) lv mc ms args σ post
theorem sX12_accuse {lv mc ms : Nat} {args : List Value} {σ : aH} {post : Option Value → aH → Prop} (hlen : (aEn args).length ≤ 3) (h : GX12_accuse lv mc ms post 0 0 0 (aL0 3 args) [] σ) : MX12_accuse lv mc ms args σ post := AMet_of_G (by decide +kernel) hlen h
abbrev GX12_altersOf (lv mc ms : Nat) (post : Option Value → aH → Prop) (k n pc : Nat) (L : List (Option Value)) (S : List Value) (σ : aH) : Prop := G yX12_altersOf cX12_altersOf 2 (some .int) lv mc ms post k n pc L S σ
abbrev MX12_altersOf (lv mc ms : Nat) (args : List Value) (σ : aH) (post : Option Value → aH → Prop) : Prop := AMet yX12_altersOf cX12_altersOf 2 (some .int) lv mc ms args σ post
theorem sX12_altersOf {lv mc ms : Nat} {args : List Value} {σ : aH} {post : Option Value → aH → Prop} (hlen : (aEn args).length ≤ 2) (h : GX12_altersOf lv mc ms post 0 0 0 (aL0 2 args) [] σ) : MX12_altersOf lv mc ms args σ post := AMet_of_G (by decide +kernel) hlen h
abbrev GX12_hangs (lv mc ms : Nat) (post : Option Value → aH → Prop) (k n pc : Nat) (L : List (Option Value)) (S : List Value) (σ : aH) : Prop := G yX12_hangs cX12_hangs 2 (some .boolean) lv mc ms post k n pc L S σ
abbrev MX12_hangs (lv mc ms : Nat) (args : List Value) (σ : aH) (post : Option Value → aH → Prop) : Prop := AMet yX12_hangs cX12_hangs 2 (some .boolean) lv mc ms args σ post
theorem sX12_hangs {lv mc ms : Nat} {args : List Value} {σ : aH} {post : Option Value → aH → Prop} (hlen : (aEn args).length ≤ 2) (h : GX12_hangs lv mc ms post 0 0 0 (aL0 2 args) [] σ) : MX12_hangs lv mc ms args σ post := AMet_of_G (by decide +kernel) hlen h
abbrev GX12_tell (lv mc ms : Nat) (post : Option Value → aH → Prop) (k n pc : Nat) (L : List (Option Value)) (S : List Value) (σ : aH) : Prop := G yX12_tell cX12_tell 3 (some .int) lv mc ms post k n pc L S σ
abbrev MX12_tell (lv mc ms : Nat) (args : List Value) (σ : aH) (post : Option Value → aH → Prop) : Prop := AMet yX12_tell cX12_tell 3 (some .int) lv mc ms args σ post
theorem sX12_tell {lv mc ms : Nat} {args : List Value} {σ : aH} {post : Option Value → aH → Prop} (hlen : (aEn args).length ≤ 3) (h : GX12_tell lv mc ms post 0 0 0 (aL0 3 args) [] σ) : MX12_tell lv mc ms args σ post := AMet_of_G (by decide +kernel) hlen h
abbrev GX12_about (lv mc ms : Nat) (post : Option Value → aH → Prop) (k n pc : Nat) (L : List (Option Value)) (S : List Value) (σ : aH) : Prop := G yX12_about cX12_about 3 (some .int) lv mc ms post k n pc L S σ
abbrev MX12_about (lv mc ms : Nat) (args : List Value) (σ : aH) (post : Option Value → aH → Prop) : Prop := AMet yX12_about cX12_about 3 (some .int) lv mc ms args σ post
theorem sX12_about {lv mc ms : Nat} {args : List Value} {σ : aH} {post : Option Value → aH → Prop} (hlen : (aEn args).length ≤ 3) (h : GX12_about lv mc ms post 0 0 0 (aL0 3 args) [] σ) : MX12_about lv mc ms args σ post := AMet_of_G (by decide +kernel) hlen h
abbrev GX12_as (lv mc ms : Nat) (post : Option Value → aH → Prop) (k n pc : Nat) (L : List (Option Value)) (S : List Value) (σ : aH) : Prop := G yX12_as cX12_as 5 (some .int) lv mc ms post k n pc L S σ
abbrev MX12_as (lv mc ms : Nat) (args : List Value) (σ : aH) (post : Option Value → aH → Prop) : Prop := AMet yX12_as cX12_as 5 (some .int) lv mc ms args σ post
theorem sX12_as {lv mc ms : Nat} {args : List Value} {σ : aH} {post : Option Value → aH → Prop} (hlen : (aEn args).length ≤ 5) (h : GX12_as lv mc ms post 0 0 0 (aL0 5 args) [] σ) : MX12_as lv mc ms args σ post := AMet_of_G (by decide +kernel) hlen h
abbrev GX12_lesson (lv mc ms : Nat) (post : Option Value → aH → Prop) (k n pc : Nat) (L : List (Option Value)) (S : List Value) (σ : aH) : Prop := G yX12_lesson cX12_lesson 3 (some .int) lv mc ms post k n pc L S σ
abbrev MX12_lesson (lv mc ms : Nat) (args : List Value) (σ : aH) (post : Option Value → aH → Prop) : Prop := AMet yX12_lesson cX12_lesson 3 (some .int) lv mc ms args σ post
theorem sX12_lesson {lv mc ms : Nat} {args : List Value} {σ : aH} {post : Option Value → aH → Prop} (hlen : (aEn args).length ≤ 3) (h : GX12_lesson lv mc ms post 0 0 0 (aL0 3 args) [] σ) : MX12_lesson lv mc ms args σ post := AMet_of_G (by decide +kernel) hlen h
abbrev GX12_unlearn (lv mc ms : Nat) (post : Option Value → aH → Prop) (k n pc : Nat) (L : List (Option Value)) (S : List Value) (σ : aH) : Prop := G yX12_unlearn cX12_unlearn 3 (some .int) lv mc ms post k n pc L S σ
abbrev MX12_unlearn (lv mc ms : Nat) (args : List Value) (σ : aH) (post : Option Value → aH → Prop) : Prop := AMet yX12_unlearn cX12_unlearn 3 (some .int) lv mc ms args σ post
theorem sX12_unlearn {lv mc ms : Nat} {args : List Value} {σ : aH} {post : Option Value → aH → Prop} (hlen : (aEn args).length ≤ 3) (h : GX12_unlearn lv mc ms post 0 0 0 (aL0 3 args) [] σ) : MX12_unlearn lv mc ms args σ post := AMet_of_G (by decide +kernel) hlen h
abbrev GX12_isApart (lv mc ms : Nat) (post : Option Value → aH → Prop) (k n pc : Nat) (L : List (Option Value)) (S : List Value) (σ : aH) : Prop := G yX12_isApart cX12_isApart 5 (some .boolean) lv mc ms post k n pc L S σ
abbrev MX12_isApart (lv mc ms : Nat) (args : List Value) (σ : aH) (post : Option Value → aH → Prop) : Prop := AMet yX12_isApart cX12_isApart 5 (some .boolean) lv mc ms args σ post
theorem sX12_isApart {lv mc ms : Nat} {args : List Value} {σ : aH} {post : Option Value → aH → Prop} (hlen : (aEn args).length ≤ 5) (h : GX12_isApart lv mc ms post 0 0 0 (aL0 5 args) [] σ) : MX12_isApart lv mc ms args σ post := AMet_of_G (by decide +kernel) hlen h
abbrev GX12_briefOf (lv mc ms : Nat) (post : Option Value → aH → Prop) (k n pc : Nat) (L : List (Option Value)) (S : List Value) (σ : aH) : Prop := G yX12_briefOf cX12_briefOf 6 (some .int) lv mc ms post k n pc L S σ
abbrev MX12_briefOf (lv mc ms : Nat) (args : List Value) (σ : aH) (post : Option Value → aH → Prop) : Prop := AMet yX12_briefOf cX12_briefOf 6 (some .int) lv mc ms args σ post
theorem sX12_briefOf {lv mc ms : Nat} {args : List Value} {σ : aH} {post : Option Value → aH → Prop} (hlen : (aEn args).length ≤ 6) (h : GX12_briefOf lv mc ms post 0 0 0 (aL0 6 args) [] σ) : MX12_briefOf lv mc ms args σ post := AMet_of_G (by decide +kernel) hlen h
abbrev GX12_brief (lv mc ms : Nat) (post : Option Value → aH → Prop) (k n pc : Nat) (L : List (Option Value)) (S : List Value) (σ : aH) : Prop := G yX12_brief cX12_brief 2 (some .int) lv mc ms post k n pc L S σ
abbrev MX12_brief (lv mc ms : Nat) (args : List Value) (σ : aH) (post : Option Value → aH → Prop) : Prop := AMet yX12_brief cX12_brief 2 (some .int) lv mc ms args σ post
theorem sX12_brief {lv mc ms : Nat} {args : List Value} {σ : aH} {post : Option Value → aH → Prop} (hlen : (aEn args).length ≤ 2) (h : GX12_brief lv mc ms post 0 0 0 (aL0 2 args) [] σ) : MX12_brief lv mc ms args σ post := AMet_of_G (by decide +kernel) hlen h
abbrev GX12_hideOf (lv mc ms : Nat) (post : Option Value → aH → Prop) (k n pc : Nat) (L : List (Option Value)) (S : List Value) (σ : aH) : Prop := G yX12_hideOf cX12_hideOf 9 (some .int) lv mc ms post k n pc L S σ
abbrev MX12_hideOf (lv mc ms : Nat) (args : List Value) (σ : aH) (post : Option Value → aH → Prop) : Prop := AMet yX12_hideOf cX12_hideOf 9 (some .int) lv mc ms args σ post
theorem sX12_hideOf {lv mc ms : Nat} {args : List Value} {σ : aH} {post : Option Value → aH → Prop} (hlen : (aEn args).length ≤ 9) (h : GX12_hideOf lv mc ms post 0 0 0 (aL0 9 args) [] σ) : MX12_hideOf lv mc ms args σ post := AMet_of_G (by decide +kernel) hlen h
abbrev GX12_hide (lv mc ms : Nat) (post : Option Value → aH → Prop) (k n pc : Nat) (L : List (Option Value)) (S : List Value) (σ : aH) : Prop := G yX12_hide cX12_hide 4 (some .int) lv mc ms post k n pc L S σ
abbrev MX12_hide (lv mc ms : Nat) (args : List Value) (σ : aH) (post : Option Value → aH → Prop) : Prop := AMet yX12_hide cX12_hide 4 (some .int) lv mc ms args σ post
theorem sX12_hide {lv mc ms : Nat} {args : List Value} {σ : aH} {post : Option Value → aH → Prop} (hlen : (aEn args).length ≤ 4) (h : GX12_hide lv mc ms post 0 0 0 (aL0 4 args) [] σ) : MX12_hide lv mc ms args σ post := AMet_of_G (by decide +kernel) hlen h
abbrev GX12_hear (lv mc ms : Nat) (post : Option Value → aH → Prop) (k n pc : Nat) (L : List (Option Value)) (S : List Value) (σ : aH) : Prop := G yX12_hear cX12_hear 6 (some .int) lv mc ms post k n pc L S σ
abbrev MX12_hear (lv mc ms : Nat) (args : List Value) (σ : aH) (post : Option Value → aH → Prop) : Prop := AMet yX12_hear cX12_hear 6 (some .int) lv mc ms args σ post
theorem sX12_hear {lv mc ms : Nat} {args : List Value} {σ : aH} {post : Option Value → aH → Prop} (hlen : (aEn args).length ≤ 6) (h : GX12_hear lv mc ms post 0 0 0 (aL0 6 args) [] σ) : MX12_hear lv mc ms args σ post := AMet_of_G (by decide +kernel) hlen h
abbrev GX12_forget (lv mc ms : Nat) (post : Option Value → aH → Prop) (k n pc : Nat) (L : List (Option Value)) (S : List Value) (σ : aH) : Prop := G yX12_forget cX12_forget 2 (some .int) lv mc ms post k n pc L S σ
abbrev MX12_forget (lv mc ms : Nat) (args : List Value) (σ : aH) (post : Option Value → aH → Prop) : Prop := AMet yX12_forget cX12_forget 2 (some .int) lv mc ms args σ post
theorem sX12_forget {lv mc ms : Nat} {args : List Value} {σ : aH} {post : Option Value → aH → Prop} (hlen : (aEn args).length ≤ 2) (h : GX12_forget lv mc ms post 0 0 0 (aL0 2 args) [] σ) : MX12_forget lv mc ms args σ post := AMet_of_G (by decide +kernel) hlen h
abbrev GX12_isHeard (lv mc ms : Nat) (post : Option Value → aH → Prop) (k n pc : Nat) (L : List (Option Value)) (S : List Value) (σ : aH) : Prop := G yX12_isHeard cX12_isHeard 6 (some .boolean) lv mc ms post k n pc L S σ
abbrev MX12_isHeard (lv mc ms : Nat) (args : List Value) (σ : aH) (post : Option Value → aH → Prop) : Prop := AMet yX12_isHeard cX12_isHeard 6 (some .boolean) lv mc ms args σ post
theorem sX12_isHeard {lv mc ms : Nat} {args : List Value} {σ : aH} {post : Option Value → aH → Prop} (hlen : (aEn args).length ≤ 6) (h : GX12_isHeard lv mc ms post 0 0 0 (aL0 6 args) [] σ) : MX12_isHeard lv mc ms args σ post := AMet_of_G (by decide +kernel) hlen h
abbrev GX12_whichOf (lv mc ms : Nat) (post : Option Value → aH → Prop) (k n pc : Nat) (L : List (Option Value)) (S : List Value) (σ : aH) : Prop := G yX12_whichOf cX12_whichOf 6 (some .int) lv mc ms post k n pc L S σ
abbrev MX12_whichOf (lv mc ms : Nat) (args : List Value) (σ : aH) (post : Option Value → aH → Prop) : Prop := AMet yX12_whichOf cX12_whichOf 6 (some .int) lv mc ms args σ post
theorem sX12_whichOf {lv mc ms : Nat} {args : List Value} {σ : aH} {post : Option Value → aH → Prop} (hlen : (aEn args).length ≤ 6) (h : GX12_whichOf lv mc ms post 0 0 0 (aL0 6 args) [] σ) : MX12_whichOf lv mc ms args σ post := AMet_of_G (by decide +kernel) hlen h
abbrev GX12_listenOf (lv mc ms : Nat) (post : Option Value → aH → Prop) (k n pc : Nat) (L : List (Option Value)) (S : List Value) (σ : aH) : Prop := G yX12_listenOf cX12_listenOf 8 (some .int) lv mc ms post k n pc L S σ
abbrev MX12_listenOf (lv mc ms : Nat) (args : List Value) (σ : aH) (post : Option Value → aH → Prop) : Prop := AMet yX12_listenOf cX12_listenOf 8 (some .int) lv mc ms args σ post
theorem sX12_listenOf {lv mc ms : Nat} {args : List Value} {σ : aH} {post : Option Value → aH → Prop} (hlen : (aEn args).length ≤ 8) (h : GX12_listenOf lv mc ms post 0 0 0 (aL0 8 args) [] σ) : MX12_listenOf lv mc ms args σ post := AMet_of_G (by decide +kernel) hlen h
abbrev GX12_draw (lv mc ms : Nat) (post : Option Value → aH → Prop) (k n pc : Nat) (L : List (Option Value)) (S : List Value) (σ : aH) : Prop := G yX12_draw cX12_draw 2 (some .int) lv mc ms post k n pc L S σ
abbrev MX12_draw (lv mc ms : Nat) (args : List Value) (σ : aH) (post : Option Value → aH → Prop) : Prop := AMet yX12_draw cX12_draw 2 (some .int) lv mc ms args σ post
theorem sX12_draw {lv mc ms : Nat} {args : List Value} {σ : aH} {post : Option Value → aH → Prop} (hlen : (aEn args).length ≤ 2) (h : GX12_draw lv mc ms post 0 0 0 (aL0 2 args) [] σ) : MX12_draw lv mc ms args σ post := AMet_of_G (by decide +kernel) hlen h
abbrev GX12_trials (lv mc ms : Nat) (post : Option Value → aH → Prop) (k n pc : Nat) (L : List (Option Value)) (S : List Value) (σ : aH) : Prop := G yX12_trials cX12_trials 9 (some .int) lv mc ms post k n pc L S σ
abbrev MX12_trials (lv mc ms : Nat) (args : List Value) (σ : aH) (post : Option Value → aH → Prop) : Prop := AMet yX12_trials cX12_trials 9 (some .int) lv mc ms args σ post
theorem sX12_trials {lv mc ms : Nat} {args : List Value} {σ : aH} {post : Option Value → aH → Prop} (hlen : (aEn args).length ≤ 9) (h : GX12_trials lv mc ms post 0 0 0 (aL0 9 args) [] σ) : MX12_trials lv mc ms args σ post := AMet_of_G (by decide +kernel) hlen h
abbrev GX12_image (lv mc ms : Nat) (post : Option Value → aH → Prop) (k n pc : Nat) (L : List (Option Value)) (S : List Value) (σ : aH) : Prop := G yX12_image cX12_image 1 (some .int) lv mc ms post k n pc L S σ
abbrev MX12_image (lv mc ms : Nat) (args : List Value) (σ : aH) (post : Option Value → aH → Prop) : Prop := AMet yX12_image cX12_image 1 (some .int) lv mc ms args σ post
theorem sX12_image {lv mc ms : Nat} {args : List Value} {σ : aH} {post : Option Value → aH → Prop} (hlen : (aEn args).length ≤ 1) (h : GX12_image lv mc ms post 0 0 0 (aL0 1 args) [] σ) : MX12_image lv mc ms args σ post := AMet_of_G (by decide +kernel) hlen h
abbrev GX12_restore (lv mc ms : Nat) (post : Option Value → aH → Prop) (k n pc : Nat) (L : List (Option Value)) (S : List Value) (σ : aH) : Prop := G yX12_restore cX12_restore 1 (some .int) lv mc ms post k n pc L S σ
abbrev MX12_restore (lv mc ms : Nat) (args : List Value) (σ : aH) (post : Option Value → aH → Prop) : Prop := AMet yX12_restore cX12_restore 1 (some .int) lv mc ms args σ post
theorem sX12_restore {lv mc ms : Nat} {args : List Value} {σ : aH} {post : Option Value → aH → Prop} (hlen : (aEn args).length ≤ 1) (h : GX12_restore lv mc ms post 0 0 0 (aL0 1 args) [] σ) : MX12_restore lv mc ms args σ post := AMet_of_G (by decide +kernel) hlen h
abbrev GX12_hangMany (lv mc ms : Nat) (post : Option Value → aH → Prop) (k n pc : Nat) (L : List (Option Value)) (S : List Value) (σ : aH) : Prop := G yX12_hangMany cX12_hangMany 3 (some .int) lv mc ms post k n pc L S σ
abbrev MX12_hangMany (lv mc ms : Nat) (args : List Value) (σ : aH) (post : Option Value → aH → Prop) : Prop := AMet yX12_hangMany cX12_hangMany 3 (some .int) lv mc ms args σ post
theorem sX12_hangMany {lv mc ms : Nat} {args : List Value} {σ : aH} {post : Option Value → aH → Prop} (hlen : (aEn args).length ≤ 3) (h : GX12_hangMany lv mc ms post 0 0 0 (aL0 3 args) [] σ) : MX12_hangMany lv mc ms args σ post := AMet_of_G (by decide +kernel) hlen h
abbrev GX12_unlike (lv mc ms : Nat) (post : Option Value → aH → Prop) (k n pc : Nat) (L : List (Option Value)) (S : List Value) (σ : aH) : Prop := G yX12_unlike cX12_unlike 3 (some .int) lv mc ms post k n pc L S σ
abbrev MX12_unlike (lv mc ms : Nat) (args : List Value) (σ : aH) (post : Option Value → aH → Prop) : Prop := AMet yX12_unlike cX12_unlike 3 (some .int) lv mc ms args σ post
theorem sX12_unlike {lv mc ms : Nat} {args : List Value} {σ : aH} {post : Option Value → aH → Prop} (hlen : (aEn args).length ≤ 3) (h : GX12_unlike lv mc ms post 0 0 0 (aL0 3 args) [] σ) : MX12_unlike lv mc ms args σ post := AMet_of_G (by decide +kernel) hlen h
abbrev GX12_countOf (lv mc ms : Nat) (post : Option Value → aH → Prop) (k n pc : Nat) (L : List (Option Value)) (S : List Value) (σ : aH) : Prop := G yX12_countOf cX12_countOf 2 (some .int) lv mc ms post k n pc L S σ
abbrev MX12_countOf (lv mc ms : Nat) (args : List Value) (σ : aH) (post : Option Value → aH → Prop) : Prop := AMet yX12_countOf cX12_countOf 2 (some .int) lv mc ms args σ post
theorem sX12_countOf {lv mc ms : Nat} {args : List Value} {σ : aH} {post : Option Value → aH → Prop} (hlen : (aEn args).length ≤ 2) (h : GX12_countOf lv mc ms post 0 0 0 (aL0 2 args) [] σ) : MX12_countOf lv mc ms args σ post := AMet_of_G (by decide +kernel) hlen h
abbrev GX12_count (lv mc ms : Nat) (post : Option Value → aH → Prop) (k n pc : Nat) (L : List (Option Value)) (S : List Value) (σ : aH) : Prop := G yX12_count cX12_count 2 (some .int) lv mc ms post k n pc L S σ
abbrev MX12_count (lv mc ms : Nat) (args : List Value) (σ : aH) (post : Option Value → aH → Prop) : Prop := AMet yX12_count cX12_count 2 (some .int) lv mc ms args σ post
theorem sX12_count {lv mc ms : Nat} {args : List Value} {σ : aH} {post : Option Value → aH → Prop} (hlen : (aEn args).length ≤ 2) (h : GX12_count lv mc ms post 0 0 0 (aL0 2 args) [] σ) : MX12_count lv mc ms args σ post := AMet_of_G (by decide +kernel) hlen h
abbrev GX12_say (lv mc ms : Nat) (post : Option Value → aH → Prop) (k n pc : Nat) (L : List (Option Value)) (S : List Value) (σ : aH) : Prop := G yX12_say cX12_say 3 none lv mc ms post k n pc L S σ
abbrev MX12_say (lv mc ms : Nat) (args : List Value) (σ : aH) (post : Option Value → aH → Prop) : Prop := AMet yX12_say cX12_say 3 none lv mc ms args σ post
theorem sX12_say {lv mc ms : Nat} {args : List Value} {σ : aH} {post : Option Value → aH → Prop} (hlen : (aEn args).length ≤ 3) (h : GX12_say lv mc ms post 0 0 0 (aL0 3 args) [] σ) : MX12_say lv mc ms args σ post := AMet_of_G (by decide +kernel) hlen h
abbrev GX12_digest (lv mc ms : Nat) (post : Option Value → aH → Prop) (k n pc : Nat) (L : List (Option Value)) (S : List Value) (σ : aH) : Prop := G yX12_digest cX12_digest 3 (some .long) lv mc ms post k n pc L S σ
abbrev MX12_digest (lv mc ms : Nat) (args : List Value) (σ : aH) (post : Option Value → aH → Prop) : Prop := AMet yX12_digest cX12_digest 3 (some .long) lv mc ms args σ post
theorem sX12_digest {lv mc ms : Nat} {args : List Value} {σ : aH} {post : Option Value → aH → Prop} (hlen : (aEn args).length ≤ 3) (h : GX12_digest lv mc ms post 0 0 0 (aL0 3 args) [] σ) : MX12_digest lv mc ms args σ post := AMet_of_G (by decide +kernel) hlen h
abbrev GJ6_bitCount_0f7a4 (lv mc ms : Nat) (post : Option Value → aH → Prop) (k n pc : Nat) (L : List (Option Value)) (S : List Value) (σ : aH) : Prop := G yJ6_bitCount_0f7a4 cJ6_bitCount_0f7a4 1 (some .int) lv mc ms post k n pc L S σ
abbrev MJ6_bitCount_0f7a4 (lv mc ms : Nat) (args : List Value) (σ : aH) (post : Option Value → aH → Prop) : Prop := AMet yJ6_bitCount_0f7a4 cJ6_bitCount_0f7a4 1 (some .int) lv mc ms args σ post
theorem sJ6_bitCount_0f7a4 {lv mc ms : Nat} {args : List Value} {σ : aH} {post : Option Value → aH → Prop} (hlen : (aEn args).length ≤ 1) (h : GJ6_bitCount_0f7a4 lv mc ms post 0 0 0 (aL0 1 args) [] σ) : MJ6_bitCount_0f7a4 lv mc ms args σ post := AMet_of_G (by decide +kernel) hlen h
abbrev GJ9_max_7cf53 (lv mc ms : Nat) (post : Option Value → aH → Prop) (k n pc : Nat) (L : List (Option Value)) (S : List Value) (σ : aH) : Prop := G yJ9_max_7cf53 cJ9_max_7cf53 2 (some .int) lv mc ms post k n pc L S σ
abbrev GL_law (lv mc ms : Nat) (post : Option Value → aH → Prop) (k n pc : Nat) (L : List (Option Value)) (S : List Value) (σ : aH) : Prop := G yL_law cL_law 4 (some .boolean) lv mc ms post k n pc L S σ
end
section
/-! rows over numbers -/
theorem nA_and (a b : Nat) : nI a &&& nI b = nI (a &&& b) := by
  apply Int32.toBitVec_inj.1
  show BitVec.ofNat 32 a &&& BitVec.ofNat 32 b = BitVec.ofNat 32 (a &&& b)
  apply BitVec.eq_of_getLsbD_eq
  intro i hi
  simp [hi]
theorem nA_or (a b : Nat) : nI a ||| nI b = nI (a ||| b) := by
  apply Int32.toBitVec_inj.1
  show BitVec.ofNat 32 a ||| BitVec.ofNat 32 b = BitVec.ofNat 32 (a ||| b)
  apply BitVec.eq_of_getLsbD_eq
  intro i hi
  simp [hi]
theorem nA_xor (a b : Nat) : nI a ^^^ nI b = nI (a ^^^ b) := by
  apply Int32.toBitVec_inj.1
  show BitVec.ofNat 32 a ^^^ BitVec.ofNat 32 b = BitVec.ofNat 32 (a ^^^ b)
  apply BitVec.eq_of_getLsbD_eq
  intro i hi
  simp [hi]
theorem nA_sl : ∀ n, n < 32 → ((nI n &&& 31).toBitVec.smod 32).toNat = n := by decide +kernel
theorem nA_su : ∀ n, n < 32 → (((nI n).toUInt32 &&& Int32.toUInt32 31).toBitVec % 32).toNat = n := by decide +kernel
theorem nA_shl {a b : Nat} (hb : b < 32) (h : a * 2 ^ b < 4294967296) : nI a <<< (nI b &&& 31) = nI (a * 2 ^ b) := pk_shlN _ b (nA_sl b hb) h
theorem nA_shr {a b : Nat} (ha : a < 2147483648) (hb : b < 32) : nI a >>> (nI b &&& 31) = nI (a / 2 ^ b) := pk_shrN ha _ b (nA_sl b hb)
theorem nA_ushr {a b : Nat} (ha : a < 4294967296) (hb : b < 32) : ((nI a).toUInt32 >>> ((nI b).toUInt32 &&& Int32.toUInt32 31)).toInt32 = nI (a / 2 ^ b) := pk_ushrN ha _ b (nA_su b hb)
theorem nA_m1 : (-1 : Int32) = nI 4294967295 := by decide +kernel
theorem nA_0 : (0 : Int32) = nI 0 := rfl
theorem nA_lt0 {a : Nat} (ha : a < 2147483648) : ¬ nI a < 0 := nI_pos ha
theorem nA_eq0 {a : Nat} (ha : a < 2147483648) : nI a = 0 ↔ a = 0 := by rw [nA_0]; exact nI_eq ha (by omega)
theorem nA_le0 {a : Nat} (ha : a < 2147483648) : nI a ≤ 0 ↔ a = 0 := by rw [nA_0, nI_leI ha (by omega)]; omega
theorem nA_gt0 {a : Nat} (ha : a < 2147483648) : 0 < nI a ↔ ¬ a = 0 := by rw [nA_0, nI_ltI (by omega) ha]; omega
theorem nA_getD (ws : List Nat) (j : Nat) : (ws.map nI).getD j 0 = nI (ws.getD j 0) := by
  rw [List.getD_eq_getElem?_getD, List.getD_eq_getElem?_getD, List.getElem?_map]
  cases ws[j]? <;> rfl
theorem nA_set (ws : List Nat) (j v : Nat) : (ws.map nI).set j (nI v) = (ws.set j v).map nI := by rw [List.map_set]
theorem at_ne {σ : aH} {i j : Nat} {c d : aT} (h : i ≠ j) (hj : σ[j]? = some c) : (σ.set i d)[j]? = some c := by rw [List.getElem?_set_ne h]; exact hj
theorem at_eq {σ : aH} {i : Nat} {c d : aT} (h : σ[i]? = some c) : (σ.set i d)[i]? = some d := List.getElem?_set_self (List.getElem?_eq_some_iff.mp h).1
theorem at_pl {σ : aH} {j : Nat} {c d : aT} (h : σ[j]? = some c) : (σ ++ [d])[j]? = some c := by rw [List.getElem?_append_left (List.getElem?_eq_some_iff.mp h).1]; exact h
theorem at_pn {σ : aH} {d : aT} : (σ ++ [d])[σ.length]? = some d := by simp
abbrev aA (ws : List Nat) : aT := .inl (ws.map nI)
abbrev aO (ci : Nat) (fs : List Value) : aT := .inr (.inr (ci, fs))
abbrev aPu (r : Option Value) (σ : aH) : Option Value → aH → Prop := fun v σ' => v = r ∧ σ' = σ
section AN
variable {Y : MethodName} {cc : ByteArray} {nL : Nat} {rt : Option FieldType} {lv mc ms : Nat} {post : Option Value → aH → Prop} {k n pc pc' tgt : Nat} {L L' : List (Option Value)} {S S0 : List Value} {σ : aH}
theorem g_iaddN {a b : Nat} (hd : aI1 cc pc .iadd pc') (kk : G Y cc nL rt lv mc ms post k n pc' L (.int (nI (a + b)) :: S) σ) : G Y cc nL rt lv mc ms post k n pc L (.int (nI b) :: .int (nI a) :: S) σ := g_iadd hd (by rw [nI_add]; exact kk)
theorem g_imulN {a b : Nat} (hd : aI1 cc pc .imul pc') (kk : G Y cc nL rt lv mc ms post k n pc' L (.int (nI (a * b)) :: S) σ) : G Y cc nL rt lv mc ms post k n pc L (.int (nI b) :: .int (nI a) :: S) σ := g_imul hd (by rw [pk_mul]; exact kk)
theorem g_iandN {a b : Nat} (hd : aI1 cc pc .iand pc') (kk : G Y cc nL rt lv mc ms post k n pc' L (.int (nI (a &&& b)) :: S) σ) : G Y cc nL rt lv mc ms post k n pc L (.int (nI b) :: .int (nI a) :: S) σ := g_iand hd (by rw [nA_and]; exact kk)
theorem g_iorN {a b : Nat} (hd : aI1 cc pc .ior pc') (kk : G Y cc nL rt lv mc ms post k n pc' L (.int (nI (a ||| b)) :: S) σ) : G Y cc nL rt lv mc ms post k n pc L (.int (nI b) :: .int (nI a) :: S) σ := g_ior hd (by rw [nA_or]; exact kk)
theorem g_ixorN {a b : Nat} (hd : aI1 cc pc .ixor pc') (kk : G Y cc nL rt lv mc ms post k n pc' L (.int (nI (a ^^^ b)) :: S) σ) : G Y cc nL rt lv mc ms post k n pc L (.int (nI b) :: .int (nI a) :: S) σ := g_ixor hd (by rw [nA_xor]; exact kk)
theorem g_isubN {a b : Nat} (hd : aI1 cc pc .isub pc') (h : b ≤ a) (kk : G Y cc nL rt lv mc ms post k n pc' L (.int (nI (a - b)) :: S) σ) : G Y cc nL rt lv mc ms post k n pc L (.int (nI b) :: .int (nI a) :: S) σ := g_isub hd (by rw [pk_sub h]; exact kk)
theorem g_ishlN {a b : Nat} (hd : aI1 cc pc .ishl pc') (h1 : b < 32) (h2 : a * 2 ^ b < 4294967296) (kk : G Y cc nL rt lv mc ms post k n pc' L (.int (nI (a * 2 ^ b)) :: S) σ) : G Y cc nL rt lv mc ms post k n pc L (.int (nI b) :: .int (nI a) :: S) σ := g_ishl hd (by rw [nA_shl h1 h2]; exact kk)
theorem g_ishrN {a b : Nat} (hd : aI1 cc pc .ishr pc') (h1 : a < 2147483648) (h2 : b < 32) (kk : G Y cc nL rt lv mc ms post k n pc' L (.int (nI (a / 2 ^ b)) :: S) σ) : G Y cc nL rt lv mc ms post k n pc L (.int (nI b) :: .int (nI a) :: S) σ := g_ishr hd (by rw [nA_shr h1 h2]; exact kk)
theorem g_iushrN {a b : Nat} (hd : aI1 cc pc .iushr pc') (h1 : a < 4294967296) (h2 : b < 32) (kk : G Y cc nL rt lv mc ms post k n pc' L (.int (nI (a / 2 ^ b)) :: S) σ) : G Y cc nL rt lv mc ms post k n pc L (.int (nI b) :: .int (nI a) :: S) σ := g_iushr hd (by rw [nA_ushr h1 h2]; exact kk)
theorem g_idivN {a b : Nat} (hd : aI1 cc pc .idiv pc') (h1 : a < 2147483648) (h2 : 0 < b) (h3 : b < 2147483648) (kk : G Y cc nL rt lv mc ms post k n pc' L (.int (nI (a / b)) :: S) σ) : G Y cc nL rt lv mc ms post k n pc L (.int (nI b) :: .int (nI a) :: S) σ := g_idiv hd (nI_ne0 h2 h3) (by rw [pk_div h1 h2 h3]; exact kk)
theorem g_iremN {a b : Nat} (hd : aI1 cc pc .irem pc') (h1 : a < 2147483648) (h2 : 0 < b) (h3 : b < 2147483648) (kk : G Y cc nL rt lv mc ms post k n pc' L (.int (nI (a % b)) :: S) σ) : G Y cc nL rt lv mc ms post k n pc L (.int (nI b) :: .int (nI a) :: S) σ := g_irem hd (nI_ne0 h2 h3) (by rw [pk_rem h1 h2 h3]; exact kk)
theorem g_iincN {i a b : Nat} (hd : aII cc pc i (nI b) pc') (hx : L[i]? = some (some (.int (nI a)))) (hi : aSto1 L i (.int (nI (a + b))) = some L') (kk : G Y cc nL rt lv mc ms post k n pc' L' S σ) : G Y cc nL rt lv mc ms post k n pc L S σ := g_iinc hd hx (by rw [nI_add]; exact hi) kk
theorem g_if_eqN {a : Nat} (hd : aIf_eq cc pc pc' tgt) (ha : a < 2147483648) (kt : a = 0 → G Y cc nL rt lv mc ms post k n tgt L S σ) (kf : ¬ a = 0 → G Y cc nL rt lv mc ms post k n pc' L S σ) : G Y cc nL rt lv mc ms post k n pc L (.int (nI a) :: S) σ := g_if_eq hd (fun h => kt ((nA_eq0 ha).mp h)) (fun h => kf (fun z => h ((nA_eq0 ha).mpr z)))
theorem g_if_leN {a : Nat} (hd : aIf_le cc pc pc' tgt) (ha : a < 2147483648) (kt : a = 0 → G Y cc nL rt lv mc ms post k n tgt L S σ) (kf : ¬ a = 0 → G Y cc nL rt lv mc ms post k n pc' L S σ) : G Y cc nL rt lv mc ms post k n pc L (.int (nI a) :: S) σ := g_if_le hd (fun h => kt ((nA_le0 ha).mp h)) (fun h => kf (fun z => h ((nA_le0 ha).mpr z)))
theorem g_if_gtN {a : Nat} (hd : aIf_gt cc pc pc' tgt) (ha : a < 2147483648) (kt : ¬ a = 0 → G Y cc nL rt lv mc ms post k n tgt L S σ) (kf : a = 0 → G Y cc nL rt lv mc ms post k n pc' L S σ) : G Y cc nL rt lv mc ms post k n pc L (.int (nI a) :: S) σ := g_if_gt hd (fun h => kt ((nA_gt0 ha).mp h)) (fun h => kf (Classical.byContradiction fun z => h ((nA_gt0 ha).mpr z)))
theorem g_if_neN {a : Nat} (hd : aIf_ne cc pc pc' tgt) (ha : a < 2147483648) (kt : ¬ a = 0 → G Y cc nL rt lv mc ms post k n tgt L S σ) (kf : a = 0 → G Y cc nL rt lv mc ms post k n pc' L S σ) : G Y cc nL rt lv mc ms post k n pc L (.int (nI a) :: S) σ := g_if_ne hd (fun h => kt (fun z => h ((nA_eq0 ha).mpr z))) (fun h => kf ((nA_eq0 ha).mp h))
theorem g_if_ltN {a : Nat} (hd : aIf_lt cc pc pc' tgt) (ha : a < 2147483648) (kf : G Y cc nL rt lv mc ms post k n pc' L S σ) : G Y cc nL rt lv mc ms post k n pc L (.int (nI a) :: S) σ := g_if_lt hd (fun h => absurd h (nA_lt0 ha)) (fun _ => kf)
theorem g_if_geN {a : Nat} (hd : aIf_ge cc pc pc' tgt) (ha : a < 2147483648) (kt : G Y cc nL rt lv mc ms post k n tgt L S σ) : G Y cc nL rt lv mc ms post k n pc L (.int (nI a) :: S) σ := g_if_ge hd (fun _ => kt) (fun h => absurd (nI_pos' ha) h)
theorem g_icmp_eqN {a b : Nat} (hd : aIc_eq cc pc pc' tgt) (ha : a < 2147483648) (hb : b < 2147483648) (kt : a = b → G Y cc nL rt lv mc ms post k n tgt L S σ) (kf : ¬ a = b → G Y cc nL rt lv mc ms post k n pc' L S σ) : G Y cc nL rt lv mc ms post k n pc L (.int (nI b) :: .int (nI a) :: S) σ := g_icmp_eq hd (fun h => kt ((nI_eq ha hb).mp h)) (fun h => kf (fun z => h ((nI_eq ha hb).mpr z)))
theorem g_icmp_neN {a b : Nat} (hd : aIc_ne cc pc pc' tgt) (ha : a < 2147483648) (hb : b < 2147483648) (kt : ¬ a = b → G Y cc nL rt lv mc ms post k n tgt L S σ) (kf : a = b → G Y cc nL rt lv mc ms post k n pc' L S σ) : G Y cc nL rt lv mc ms post k n pc L (.int (nI b) :: .int (nI a) :: S) σ := g_icmp_ne hd (fun h => kt (fun z => h ((nI_eq ha hb).mpr z))) (fun h => kf ((nI_eq ha hb).mp h))
theorem g_icmp_ltN {a b : Nat} (hd : aIc_lt cc pc pc' tgt) (ha : a < 2147483648) (hb : b < 2147483648) (kt : a < b → G Y cc nL rt lv mc ms post k n tgt L S σ) (kf : b ≤ a → G Y cc nL rt lv mc ms post k n pc' L S σ) : G Y cc nL rt lv mc ms post k n pc L (.int (nI b) :: .int (nI a) :: S) σ := g_icmp_lt hd (fun h => kt ((nI_ltI ha hb).mp h)) (fun h => kf (Nat.not_lt.mp fun z => h ((nI_ltI ha hb).mpr z)))
theorem g_icmp_geN {a b : Nat} (hd : aIc_ge cc pc pc' tgt) (ha : a < 2147483648) (hb : b < 2147483648) (kt : b ≤ a → G Y cc nL rt lv mc ms post k n tgt L S σ) (kf : a < b → G Y cc nL rt lv mc ms post k n pc' L S σ) : G Y cc nL rt lv mc ms post k n pc L (.int (nI b) :: .int (nI a) :: S) σ := g_icmp_ge hd (fun h => kt ((nI_leI hb ha).mp h)) (fun h => kf (Nat.not_le.mp fun z => h ((nI_leI hb ha).mpr z)))
theorem g_icmp_gtN {a b : Nat} (hd : aIc_gt cc pc pc' tgt) (ha : a < 2147483648) (hb : b < 2147483648) (kt : b < a → G Y cc nL rt lv mc ms post k n tgt L S σ) (kf : a ≤ b → G Y cc nL rt lv mc ms post k n pc' L S σ) : G Y cc nL rt lv mc ms post k n pc L (.int (nI b) :: .int (nI a) :: S) σ := g_icmp_gt hd (fun h => kt ((nI_ltI hb ha).mp h)) (fun h => kf (Nat.not_lt.mp fun z => h ((nI_ltI hb ha).mpr z)))
theorem g_icmp_leN {a b : Nat} (hd : aIc_le cc pc pc' tgt) (ha : a < 2147483648) (hb : b < 2147483648) (kt : a ≤ b → G Y cc nL rt lv mc ms post k n tgt L S σ) (kf : b < a → G Y cc nL rt lv mc ms post k n pc' L S σ) : G Y cc nL rt lv mc ms post k n pc L (.int (nI b) :: .int (nI a) :: S) σ := g_icmp_le hd (fun h => kt ((nI_leI ha hb).mp h)) (fun h => kf (Nat.not_le.mp fun z => h ((nI_leI ha hb).mpr z)))
theorem g_ialdN {a j : Nat} {ws : List Nat} (hd : aI1 cc pc .iaload pc') (hσ : σ[a]? = some (aA ws)) (hj : j < ws.length) (hs : ws.length < 65536) (kk : G Y cc nL rt lv mc ms post k n pc' L (.int (nI (ws.getD j 0)) :: S) σ) : G Y cc nL rt lv mc ms post k n pc L (.int (nI j) :: .ref a :: S) σ := g_iald hd hσ (by rw [List.length_map]; exact vp_in_nI hj (by omega)) (by rw [nI_clamp (by omega), nA_getD]; exact kk)
theorem g_iastN {a j v : Nat} {ws : List Nat} (hd : aI1 cc pc .iastore pc') (hσ : σ[a]? = some (aA ws)) (hj : j < ws.length) (hs : ws.length < 65536) (kk : G Y cc nL rt lv mc ms post k n pc' L S (σ.set a (aA (ws.set j v)))) : G Y cc nL rt lv mc ms post k n pc L (.int (nI v) :: .int (nI j) :: .ref a :: S) σ := g_iast hd hσ (by rw [List.length_map]; exact vp_in_nI hj (by omega)) (by rw [nI_clamp (by omega), nA_set]; exact kk)
theorem g_ilenN {a : Nat} {ws : List Nat} (hd : aI1 cc pc .arraylength pc') (hσ : σ[a]? = some (aA ws)) (kk : G Y cc nL rt lv mc ms post k n pc' L (.int (nI ws.length) :: S) σ) : G Y cc nL rt lv mc ms post k n pc L (.ref a :: S) σ := g_ilen hd hσ (by rw [List.length_map]; exact kk)
theorem g_putI {index ci fk a : Nat} {fs : List Value} {x : Int32} (hd : aI3 cc pc (.putfield index) pc') (hf : aFl Y.cls index ci fk) (hp : aFp ci fk .int false) (hσ : σ[a]? = some (aO ci fs)) (hlt : fk < fs.length) (kk : G Y cc nL rt lv mc ms post k n pc' L S (σ.set a (aO ci (fs.set fk (.int x))))) : G Y cc nL rt lv mc ms post k n pc L (.int x :: .ref a :: S) σ := g_put hd hf hp hσ hlt (fun _ => ⟨rfl, rfl⟩) kk
theorem g_putJ {index ci fk a : Nat} {fs : List Value} {x : Int64} (hd : aI3 cc pc (.putfield index) pc') (hf : aFl Y.cls index ci fk) (hp : aFp ci fk .long false) (hσ : σ[a]? = some (aO ci fs)) (hlt : fk < fs.length) (kk : G Y cc nL rt lv mc ms post k n pc' L S (σ.set a (aO ci (fs.set fk (.long x))))) : G Y cc nL rt lv mc ms post k n pc L (.long x :: .ref a :: S) σ := g_put hd hf hp hσ hlt (fun _ => ⟨rfl, rfl⟩) kk
theorem g_putZ {index ci fk a : Nat} {fs : List Value} {x : Int32} (hd : aI3 cc pc (.putfield index) pc') (hf : aFl Y.cls index ci fk) (hp : aFp ci fk .boolean false) (hx : x = 0 ∨ x = 1) (hσ : σ[a]? = some (aO ci fs)) (hlt : fk < fs.length) (kk : G Y cc nL rt lv mc ms post k n pc' L S (σ.set a (aO ci (fs.set fk (.int x))))) : G Y cc nL rt lv mc ms post k n pc L (.int x :: .ref a :: S) σ := g_put hd hf hp hσ hlt (fun _ => by rcases hx with rfl | rfl <;> (show narrow FieldType.boolean (.int _) = .int _ ∧ fits FieldType.boolean (.int _) = true; decide +kernel)) kk
theorem g_putR {index ci fk a b : Nat} {fs : List Value} {C : String} (hd : aI3 cc pc (.putfield index) pc') (hf : aFl Y.cls index ci fk) (hp : aFp ci fk (.object C) true) (hin : Y.name = "<init>") (hdc : ∀ q : vw_C, vwCl[ci]? = some q → (q.2.1 fk).1 = Y.cls) (hσ : σ[a]? = some (aO ci fs)) (hlt : fk < fs.length) (kk : G Y cc nL rt lv mc ms post k n pc' L S (σ.set a (aO ci (fs.set fk (.ref b))))) : G Y cc nL rt lv mc ms post k n pc L (.ref b :: .ref a :: S) σ := g_putF hd hf hp hin hdc hσ hlt (fun _ => ⟨rfl, rfl⟩) kk
theorem g_putA {index ci fk a b : Nat} {fs : List Value} {t : FieldType} (hd : aI3 cc pc (.putfield index) pc') (hf : aFl Y.cls index ci fk) (hp : aFp ci fk (.array t) true) (hin : Y.name = "<init>") (hdc : ∀ q : vw_C, vwCl[ci]? = some q → (q.2.1 fk).1 = Y.cls) (hσ : σ[a]? = some (aO ci fs)) (hlt : fk < fs.length) (kk : G Y cc nL rt lv mc ms post k n pc' L S (σ.set a (aO ci (fs.set fk (.ref b))))) : G Y cc nL rt lv mc ms post k n pc L (.ref b :: .ref a :: S) σ := g_putF hd hf hp hin hdc hσ hlt (fun _ => ⟨rfl, rfl⟩) kk
theorem g_putIF {index ci fk a : Nat} {fs : List Value} {x : Int32} (hd : aI3 cc pc (.putfield index) pc') (hf : aFl Y.cls index ci fk) (hp : aFp ci fk .int true) (hin : Y.name = "<init>") (hdc : ∀ q : vw_C, vwCl[ci]? = some q → (q.2.1 fk).1 = Y.cls) (hσ : σ[a]? = some (aO ci fs)) (hlt : fk < fs.length) (kk : G Y cc nL rt lv mc ms post k n pc' L S (σ.set a (aO ci (fs.set fk (.int x))))) : G Y cc nL rt lv mc ms post k n pc L (.int x :: .ref a :: S) σ := g_putF hd hf hp hin hdc hσ hlt (fun _ => ⟨rfl, rfl⟩) kk
theorem g_maxN {a b index : Nat} (hd : aI3 cc pc (.invokestatic index) pc') (hw : Cond.methodLink Y.cls index Lib.Math.max.name ∈ aWd) (hlv : 1 ≤ lv) (hsum : (S.map fun v => v.category).sum ≤ 8) (hmc : k ≤ mc) (hms : n ≤ ms) (ha : a < 2147483648) (hb : b < 2147483648) (kk : G Y cc nL rt lv mc ms post k n pc' L (.int (nI (max a b)) :: S) σ) : G Y cc nL rt lv mc ms post k n pc L (.int (nI b) :: .int (nI a) :: S) σ := g_max hd hw hlv hsum hmc hms (by
  rw [show (if nI a < nI b then nI b else nI a) = nI (max a b) from ?_]
  · exact kk
  · by_cases h : a < b
    · rw [if_pos ((nI_ltI ha hb).mpr h), Nat.max_eq_right (by omega)]
    · rw [if_neg (fun z => h ((nI_ltI ha hb).mp z)), Nat.max_eq_left (by omega)])
variable {y : MethodName} {cc' : ByteArray} {nL' : Nat} {rt' : Option FieldType} {lv' : Nat} {post' : Option Value → aH → Prop} {As : List Value} {b index np : Nat}
theorem g_callV0 {ci : Nat} {fs : List Value} {r : vw_C} (hd : aI3 cc pc (.invokevirtual index) pc') (hk : aLV Y.cls index r.1 y cc' nL' rt' np) (hσ : σ[b]? = some (aO ci fs)) (hr : vwCl[ci]? = some r) (hM : AMet y cc' nL' rt' lv' 0 0 (.ref b :: As) σ post') (hst : S0 = As.reverse ++ .ref b :: S) (hnp : As.length = np) (hlv : lv' + 1 ≤ lv) (hnl : nL' ≤ 41) (hsum : (S.map fun v => v.category).sum ≤ 8) (hmc : k ≤ mc) (hms : n ≤ ms) (kk : ∀ v σ', post' v σ' → σ.length ≤ σ'.length → G Y cc nL rt lv mc ms post k n pc' L (v.toList ++ S) σ') : G Y cc nL rt lv mc ms post k n pc L S0 σ := g_callV hd hk hσ hr hM hst hnp hlv hnl hsum hmc hms kk
theorem g_callVp {ci : Nat} {fs : List Value} {r : vw_C} (hd : aI3 cc pc (.invokevirtual index) pc') (hk : aLV Y.cls index r.1 y cc' nL' rt' np) (hσ : σ[b]? = some (aO ci fs)) (hr : vwCl[ci]? = some r) {r' : Option Value} (hM : AMet y cc' nL' rt' lv' 0 0 (.ref b :: As) σ (aPu r' σ)) (hst : S0 = As.reverse ++ .ref b :: S) (hnp : As.length = np) (hlv : lv' + 1 ≤ lv) (hnl : nL' ≤ 41) (hsum : (S.map fun v => v.category).sum ≤ 8) (hmc : k ≤ mc) (hms : n ≤ ms) (kk : G Y cc nL rt lv mc ms post k n pc' L (r'.toList ++ S) σ) : G Y cc nL rt lv mc ms post k n pc L S0 σ := g_callV hd hk hσ hr hM hst hnp hlv hnl hsum hmc hms (fun v σ' hp _ => by obtain ⟨rfl, rfl⟩ := hp; exact kk)
theorem g_callU0 {ci : Nat} {fs : List Value} {r : vw_C} {owner : String} {x : MethodName} (hd : aI3 cc pc (.invokevirtual index) pc') (hk : aLU Y.cls index r.1 owner x y cc' nL' rt' np) (hσ : σ[b]? = some (aO ci fs)) (hr : vwCl[ci]? = some r) (hM : AMet y cc' nL' rt' lv' 0 0 (.ref b :: As) σ post') (hst : S0 = As.reverse ++ .ref b :: S) (hnp : As.length = np) (hlv : lv' + 1 ≤ lv) (hnl : nL' ≤ 41) (hsum : (S.map fun v => v.category).sum ≤ 8) (hmc : k ≤ mc) (hms : n ≤ ms) (kk : ∀ v σ', post' v σ' → σ.length ≤ σ'.length → G Y cc nL rt lv mc ms post k n pc' L (v.toList ++ S) σ') : G Y cc nL rt lv mc ms post k n pc L S0 σ := g_callU hd hk hσ hr hM hst hnp hlv hnl hsum hmc hms kk
theorem g_callUp {ci : Nat} {fs : List Value} {r : vw_C} {owner : String} {x : MethodName} (hd : aI3 cc pc (.invokevirtual index) pc') (hk : aLU Y.cls index r.1 owner x y cc' nL' rt' np) (hσ : σ[b]? = some (aO ci fs)) (hr : vwCl[ci]? = some r) {r' : Option Value} (hM : AMet y cc' nL' rt' lv' 0 0 (.ref b :: As) σ (aPu r' σ)) (hst : S0 = As.reverse ++ .ref b :: S) (hnp : As.length = np) (hlv : lv' + 1 ≤ lv) (hnl : nL' ≤ 41) (hsum : (S.map fun v => v.category).sum ≤ 8) (hmc : k ≤ mc) (hms : n ≤ ms) (kk : G Y cc nL rt lv mc ms post k n pc' L (r'.toList ++ S) σ) : G Y cc nL rt lv mc ms post k n pc L S0 σ := g_callU hd hk hσ hr hM hst hnp hlv hnl hsum hmc hms (fun v σ' hp _ => by obtain ⟨rfl, rfl⟩ := hp; exact kk)
theorem g_callSu0 {ci : Nat} {fs : List Value} {r : vw_C} (hd : aI3 cc pc (.invokespecial index) pc') (hk : aLSu Y.cls index y cc' nL' rt' np) (hσ : σ[b]? = some (aO ci fs)) (hr : vwCl[ci]? = some r) (hM : AMet y cc' nL' rt' lv' 0 0 (.ref b :: As) σ post') (hst : S0 = As.reverse ++ .ref b :: S) (hnp : As.length = np) (hlv : lv' + 1 ≤ lv) (hnl : nL' ≤ 41) (hsum : (S.map fun v => v.category).sum ≤ 8) (hmc : k ≤ mc) (hms : n ≤ ms) (kk : ∀ v σ', post' v σ' → σ.length ≤ σ'.length → G Y cc nL rt lv mc ms post k n pc' L (v.toList ++ S) σ') : G Y cc nL rt lv mc ms post k n pc L S0 σ := g_callSu hd hk hσ hr hM hst hnp hlv hnl hsum hmc hms kk
theorem g_callSup {ci : Nat} {fs : List Value} {r : vw_C} (hd : aI3 cc pc (.invokespecial index) pc') (hk : aLSu Y.cls index y cc' nL' rt' np) (hσ : σ[b]? = some (aO ci fs)) (hr : vwCl[ci]? = some r) {r' : Option Value} (hM : AMet y cc' nL' rt' lv' 0 0 (.ref b :: As) σ (aPu r' σ)) (hst : S0 = As.reverse ++ .ref b :: S) (hnp : As.length = np) (hlv : lv' + 1 ≤ lv) (hnl : nL' ≤ 41) (hsum : (S.map fun v => v.category).sum ≤ 8) (hmc : k ≤ mc) (hms : n ≤ ms) (kk : G Y cc nL rt lv mc ms post k n pc' L (r'.toList ++ S) σ) : G Y cc nL rt lv mc ms post k n pc L S0 σ := g_callSu hd hk hσ hr hM hst hnp hlv hnl hsum hmc hms (fun v σ' hp _ => by obtain ⟨rfl, rfl⟩ := hp; exact kk)
theorem g_callS0 (hd : aI3 cc pc (.invokestatic index) pc') (hk : aLSt Y.cls index y cc' nL' rt' np) (hM : AMet y cc' nL' rt' lv' 0 0 As σ post') (hst : S0 = As.reverse ++ S) (hnp : As.length = np) (hlv : lv' + 1 ≤ lv) (hnl : nL' ≤ 41) (hsum : (S.map fun v => v.category).sum ≤ 8) (hmc : k ≤ mc) (hms : n ≤ ms) (kk : ∀ v σ', post' v σ' → σ.length ≤ σ'.length → G Y cc nL rt lv mc ms post k n pc' L (v.toList ++ S) σ') : G Y cc nL rt lv mc ms post k n pc L S0 σ := g_callS hd hk hM hst hnp hlv hnl hsum hmc hms kk
theorem g_callSp (hd : aI3 cc pc (.invokestatic index) pc') (hk : aLSt Y.cls index y cc' nL' rt' np) {r' : Option Value} (hM : AMet y cc' nL' rt' lv' 0 0 As σ (aPu r' σ)) (hst : S0 = As.reverse ++ S) (hnp : As.length = np) (hlv : lv' + 1 ≤ lv) (hnl : nL' ≤ 41) (hsum : (S.map fun v => v.category).sum ≤ 8) (hmc : k ≤ mc) (hms : n ≤ ms) (kk : G Y cc nL rt lv mc ms post k n pc' L (r'.toList ++ S) σ) : G Y cc nL rt lv mc ms post k n pc L S0 σ := g_callS hd hk hM hst hnp hlv hnl hsum hmc hms (fun v σ' hp _ => by obtain ⟨rfl, rfl⟩ := hp; exact kk)
theorem g_callSn0 {host : String} (hd : aI3 cc pc (.invokestatic index) pc') (hk : aLSn Y.cls index y host cc' nL' rt' np) (hM : AMet y cc' nL' rt' lv' 0 0 As σ post') (hst : S0 = As.reverse ++ S) (hnp : As.length = np) (hlv : lv' + 1 ≤ lv) (hnl : nL' ≤ 41) (hsum : (S.map fun v => v.category).sum ≤ 8) (hmc : k ≤ mc) (hms : n ≤ ms) (kk : ∀ v σ', post' v σ' → σ.length ≤ σ'.length → G Y cc nL rt lv mc ms post k n pc' L (v.toList ++ S) σ') : G Y cc nL rt lv mc ms post k n pc L S0 σ := g_callSn hd hk hM hst hnp hlv hnl hsum hmc hms kk
theorem g_callSnp {host : String} (hd : aI3 cc pc (.invokestatic index) pc') (hk : aLSn Y.cls index y host cc' nL' rt' np) {r' : Option Value} (hM : AMet y cc' nL' rt' lv' 0 0 As σ (aPu r' σ)) (hst : S0 = As.reverse ++ S) (hnp : As.length = np) (hlv : lv' + 1 ≤ lv) (hnl : nL' ≤ 41) (hsum : (S.map fun v => v.category).sum ≤ 8) (hmc : k ≤ mc) (hms : n ≤ ms) (kk : G Y cc nL rt lv mc ms post k n pc' L (r'.toList ++ S) σ) : G Y cc nL rt lv mc ms post k n pc L S0 σ := g_callSn hd hk hM hst hnp hlv hnl hsum hmc hms (fun v σ' hp _ => by obtain ⟨rfl, rfl⟩ := hp; exact kk)
end AN
end
section

/-! pure words: masks, counts -/
def msk (f : Nat → Bool) : Nat → Nat
  | 0 => 0
  | n + 1 => msk f n ||| ((f n).toNat * 2 ^ n)
theorem nbit (w x : Nat) : w / 2 ^ x &&& 1 = (w.testBit x).toNat := by
  rw [Nat.and_one_is_mod, Nat.testBit_eq_decide_div_mod_eq]
  rcases Nat.mod_two_eq_zero_or_one (w / 2 ^ x) with h | h <;> simp [h]
theorem tb_bit (b : Bool) (n i : Nat) : (b.toNat * 2 ^ n).testBit i = (decide (i = n) && b) := by
  cases b
  · simp
  · simp only [Bool.toNat_true, Nat.one_mul, Nat.testBit_two_pow, Bool.and_true]
    rw [decide_eq_decide]
    exact eq_comm
theorem msk_tb (f : Nat → Bool) : ∀ n i, (msk f n).testBit i = (decide (i < n) && f i)
  | 0, i => by simp [msk]
  | n + 1, i => by
    rw [msk, Nat.testBit_or, msk_tb f n i, tb_bit]
    by_cases h : i = n
    · subst h
      simp
    · by_cases h2 : i < n
      · simp [h, h2, Nat.lt_succ_of_lt h2]
      · simp [h, h2, show ¬ i < n + 1 by omega]
theorem msk_lt (f : Nat → Bool) : ∀ n, msk f n < 2 ^ n
  | 0 => by simp [msk]
  | n + 1 => by
    rw [msk]
    refine Nat.or_lt_two_pow (Nat.lt_of_lt_of_le (msk_lt f n) (Nat.pow_le_pow_right (by omega) (by omega))) ?_
    have : (f n).toNat ≤ 1 := by cases f n <;> simp
    calc (f n).toNat * 2 ^ n ≤ 1 * 2 ^ n := Nat.mul_le_mul_right _ this
      _ < 2 ^ (n + 1) := by rw [Nat.pow_succ]; have := Nat.two_pow_pos n; omega
theorem msk_congr {f g : Nat → Bool} : ∀ {n}, (∀ i, i < n → f i = g i) → msk f n = msk g n
  | 0, _ => rfl
  | n + 1, h => by rw [msk, msk, msk_congr (fun i hi => h i (by omega)), h n (by omega)]
theorem msk_ext {f : Nat → Bool} {n m : Nat} (hm : m < 2 ^ n) (h : ∀ i, i < n → m.testBit i = f i) : m = msk f n := by
  apply Nat.eq_of_testBit_eq
  intro i
  rw [msk_tb]
  by_cases hi : i < n
  · simp [hi, h i hi]
  · simp [hi, Nat.testBit_lt_two_pow (Nat.lt_of_lt_of_le hm (Nat.pow_le_pow_right (by omega) (by omega : n ≤ i)))]
theorem bit_shl (v i : Nat) (hi : i < 32) : (v &&& 1) * 2 ^ i < 4294967296 := by
  rw [Nat.and_one_is_mod]
  have h1 : v % 2 ≤ 1 := by omega
  have h2 : 2 ^ i ≤ 2 ^ 31 := Nat.pow_le_pow_right (by omega) (by omega)
  calc v % 2 * 2 ^ i ≤ 1 * 2 ^ 31 := Nat.mul_le_mul h1 h2
    _ < 4294967296 := by decide
theorem one_shl (i : Nat) (hi : i < 32) : 1 * 2 ^ i < 4294967296 := by
  have h2 : 2 ^ i ≤ 2 ^ 31 := Nat.pow_le_pow_right (by omega) (by omega)
  omega
def seenB (s : Nat → Nat) : Nat → Nat → Bool
  | 0, _ => false
  | n + 1, x => seenB s n x || s n == x
/-! THE SHEET: reads -/
abbrev shW (ws : List Nat) : Nat → Nat := fun k => ws.getD k 0
set_option maxRecDepth 20000 in
theorem c_size {σ : aH} {a b sz : Nat} (h1 : σ[a]? = some (aO 6 [.ref b, .int (nI sz)])) : MX6_size 0 0 0 [.ref a] σ (aPu (some (.int (nI sz))) σ) := by
  refine sX6_size (Nat.le_of_ble_eq_true rfl) ?_
  refine g_aload eX6_size_0 rfl ?_
  refine g_get eX6_size_1 fX6_15_X6 (by assumption) (by rfl) ?_
  exact g_ret (eX6_size_4 _) (Nat.le_refl _) (Nat.le_refl _) ⟨rfl, rfl⟩
theorem hasT_ {x : Int32} {sz : Nat} (c1 : ¬ x < 0) (c9 : ¬ nI sz ≤ x) (hs : sz ≤ 10) : (∃ j, j < sz ∧ x = nI j ∧ (some (Value.int (nI 1)) = some (Value.int 1))) ∨ ((∀ j, j < sz → x ≠ nI j) ∧ some (Value.int (nI 1)) = some (Value.int 0)) := by
  obtain ⟨j, hj, rfl⟩ := nI_of c1
  refine Or.inl ⟨j, ?_, rfl, rfl⟩
  rw [nI_leI (by omega) hj] at c9
  omega
theorem hasF_ {x : Int32} {sz : Nat} (c : x < 0 ∨ nI sz ≤ x) (hs : sz ≤ 10) : (∃ j, j < sz ∧ x = nI j ∧ (some (Value.int (nI 0)) = some (Value.int 1))) ∨ ((∀ j, j < sz → x ≠ nI j) ∧ some (Value.int (nI 0)) = some (Value.int 0)) := by
  refine Or.inr ⟨fun j hj => ?_, rfl⟩
  rintro rfl
  rcases c with c | c
  · exact nA_lt0 (by omega) c
  · rw [nI_leI (by omega) (by omega)] at c
    omega
set_option maxRecDepth 20000 in
theorem c_has {σ : aH} {a b sz : Nat} {x : Int32} (h1 : σ[a]? = some (aO 6 [.ref b, .int (nI sz)])) (hs : sz ≤ 10) : MX6_has 0 0 0 [.ref a, .int x] σ (fun v σ' => ((∃ j, j < sz ∧ x = nI j ∧ v = some (.int 1)) ∨ ((∀ j, j < sz → x ≠ nI j) ∧ v = some (.int 0))) ∧ σ' = σ) := by
  refine sX6_has (Nat.le_of_ble_eq_true rfl) ?_
  refine g_iload eX6_has_0 rfl ?_
  refine g_if_lt eX6_has_1 (fun c1 => ?_) (fun c1 => ?_)
  · refine g_push eX6_has_16 ?_
    exact g_ret (eX6_has_17 _ (by first | exact Or.inl rfl | exact Or.inr rfl)) (Nat.le_refl _) (Nat.le_refl _) ⟨by first | exact hasT_ c1 c9 hs | exact hasF_ (by first | exact Or.inl c1 | exact Or.inr c9) hs, rfl⟩
  · refine g_iload eX6_has_4 rfl ?_
    refine g_aload eX6_has_5 rfl ?_
    refine g_get eX6_has_6 fX6_15_X6 (by assumption) (by rfl) ?_
    refine g_icmp_ge eX6_has_9 (fun c9 => ?_) (fun c9 => ?_)
    · refine g_push eX6_has_16 ?_
      exact g_ret (eX6_has_17 _ (by first | exact Or.inl rfl | exact Or.inr rfl)) (Nat.le_refl _) (Nat.le_refl _) ⟨by first | exact hasT_ c1 c9 hs | exact hasF_ (by first | exact Or.inl c1 | exact Or.inr c9) hs, rfl⟩
    · refine g_push eX6_has_12 ?_
      refine g_goto eX6_has_13 ?_
      exact g_ret (eX6_has_17 _ (by first | exact Or.inl rfl | exact Or.inr rfl)) (Nat.le_refl _) (Nat.le_refl _) ⟨by first | exact hasT_ c1 c9 hs | exact hasF_ (by first | exact Or.inl c1 | exact Or.inr c9) hs, rfl⟩
set_option maxRecDepth 20000 in
theorem c_placesOf {σ : aH} {a b sz : Nat} {ws : List Nat} (h1 : σ[a]? = some (aO 6 [.ref b, .int (nI sz)])) (h2 : σ[b]? = some (aA ws)) (hl : ws.length = 10) (hs : sz ≤ 10) (hw : ∀ k, k < sz → ws.getD k 0 < 8) {w : Nat} (hw2 : w < 2147483648) : MX6_placesOf 0 0 0 [.ref a, .int (nI w)] σ (aPu (some (.int (nI (msk (fun k => w.testBit (ws.getD k 0)) sz)))) σ) := by
  refine sX6_placesOf (Nat.le_of_ble_eq_true rfl) ?_
  have key : ∀ d i, i + d = sz → GX6_placesOf 0 0 0 (aPu (some (.int (nI (msk (fun k => w.testBit (ws.getD k 0)) sz)))) σ) 0 0 4 [some (.ref a), some (.int (nI w)), some (.int (nI (msk (fun k => w.testBit (ws.getD k 0)) i))), some (.int (nI i))] [] σ := by
    intro d
    induction d with
    | zero =>
      intro i hi
      obtain rfl : i = sz := by omega
      refine g_iload eX6_placesOf_4 rfl ?_
      refine g_aload eX6_placesOf_5 rfl ?_
      refine g_get eX6_placesOf_6 fX6_15_X6 (by assumption) (by rfl) ?_
      refine g_icmp_geN eX6_placesOf_9 (by omega) (by omega) (fun c9 => ?_) (fun c9 => by exfalso; omega)
      refine g_iload eX6_placesOf_33 rfl ?_
      exact g_ret (eX6_placesOf_34 _) (Nat.le_refl _) (Nat.le_refl _) ⟨rfl, rfl⟩
    | succ d ih =>
      intro i hi
      have hb := hw i (by omega)
      refine g_iload eX6_placesOf_4 rfl ?_
      refine g_aload eX6_placesOf_5 rfl ?_
      refine g_get eX6_placesOf_6 fX6_15_X6 (by assumption) (by rfl) ?_
      refine g_icmp_geN eX6_placesOf_9 (by omega) (by omega) (fun c9 => by exfalso; omega) (fun c9 => ?_)
      refine g_iload eX6_placesOf_12 rfl ?_
      refine g_iload eX6_placesOf_13 rfl ?_
      refine g_aload eX6_placesOf_14 rfl ?_
      refine g_get eX6_placesOf_15 fX6_9_X6 (by assumption) (by rfl) ?_
      refine g_iload eX6_placesOf_18 rfl ?_
      refine g_ialdN eX6_placesOf_19 (by assumption) (by omega) (by omega) ?_
      refine g_ishrN eX6_placesOf_20 (by omega) (by omega) ?_
      refine g_push eX6_placesOf_21 ?_
      refine g_iandN eX6_placesOf_22 ?_
      refine g_iload eX6_placesOf_23 rfl ?_
      refine g_ishlN eX6_placesOf_24 (by omega) (bit_shl _ _ (by omega)) ?_
      refine g_iorN eX6_placesOf_25 ?_
      refine g_istore eX6_placesOf_26 rfl ?_
      refine g_iincN eX6_placesOf_27 rfl rfl ?_
      refine g_goto eX6_placesOf_30 ?_
      rw [nbit]
      exact ih (i + 1) (by omega)
  refine g_push eX6_placesOf_0 ?_
  refine g_istore eX6_placesOf_1 rfl ?_
  refine g_push eX6_placesOf_2 ?_
  refine g_istore eX6_placesOf_3 rfl ?_
  exact key sz 0 (by omega)
def cnt (f : Nat → Bool) : Nat → Nat
  | 0 => 0
  | n + 1 => cnt f n + (f n).toNat
def popc (m : Nat) : Nat := cnt (fun i => m.testBit i) 10
theorem cnt_le (f : Nat → Bool) : ∀ n, cnt f n ≤ n
  | 0 => Nat.le_refl _
  | n + 1 => by
    have h1 := cnt_le f n
    have h2 : (f n).toNat ≤ 1 := by cases f n <;> simp
    show cnt f n + (f n).toNat ≤ n + 1
    omega
theorem cnt_congr {f g : Nat → Bool} : ∀ {n}, (∀ i, i < n → f i = g i) → cnt f n = cnt g n
  | 0, _ => rfl
  | n + 1, h => by
    show cnt f n + (f n).toNat = cnt g n + (g n).toNat
    rw [cnt_congr (fun i hi => h i (by omega)), h n (by omega)]
theorem cnt_tail {f : Nat → Bool} {n : Nat} : ∀ m, n ≤ m → (∀ i, n ≤ i → i < m → f i = false) → cnt f m = cnt f n
  | 0, h, _ => by
    obtain rfl : n = 0 := by omega
    rfl
  | m + 1, h, hf => by
    by_cases hm : n = m + 1
    · rw [hm]
    · show cnt f m + (f m).toNat = _
      rw [cnt_tail m (by omega) (fun i h1 h2 => hf i h1 (by omega)), hf m (by omega) (by omega)]
      rfl
theorem popc_msk {f : Nat → Bool} {n : Nat} (hn : n ≤ 10) : popc (msk f n) = cnt f n := by
  unfold popc
  rw [cnt_tail 10 hn (fun i h1 h2 => by rw [msk_tb]; simp [show ¬ i < n by omega])]
  exact cnt_congr (fun i hi => by rw [msk_tb]; simp [hi])
theorem popc_le (m : Nat) : popc m ≤ 10 := cnt_le _ 10
set_option maxRecDepth 20000 in
theorem bc_all : (List.range 1024).all (fun m => decide (((fun x9 => (fun x23 => (fun x33 => (fun x40 => (fun x47 => (x47 &&& nI 63)) ((x40 + ((x40).toUInt32 >>> ((nI 16).toUInt32 &&& Int32.toUInt32 31)).toInt32))) ((x33 + ((x33).toUInt32 >>> ((nI 8).toUInt32 &&& Int32.toUInt32 31)).toInt32))) (((x23 + ((x23).toUInt32 >>> ((nI 4).toUInt32 &&& Int32.toUInt32 31)).toInt32) &&& (252645135 : Int32)))) (((x9 &&& (858993459 : Int32)) + (((x9).toUInt32 >>> ((nI 2).toUInt32 &&& Int32.toUInt32 31)).toInt32 &&& (858993459 : Int32))))) ((nI m - (((nI m).toUInt32 >>> ((nI 1).toUInt32 &&& Int32.toUInt32 31)).toInt32 &&& (1431655765 : Int32)))) : Int32) = nI (popc m))) = true := by decide +kernel
set_option maxRecDepth 20000 in
theorem c_bitCount {σ : aH} {m : Nat} (hm : m < 1024) : MJ6_bitCount_0f7a4 0 0 0 [.int (nI m)] σ (aPu (some (.int (nI (popc m)))) σ) := by
  refine sJ6_bitCount_0f7a4 (Nat.le_of_ble_eq_true rfl) ?_
  refine g_iload eJ6_bitCount_0f7a4_0 rfl ?_
  refine g_iload eJ6_bitCount_0f7a4_1 rfl ?_
  refine g_push eJ6_bitCount_0f7a4_2 ?_
  refine g_iushr eJ6_bitCount_0f7a4_3 ?_
  refine g_ldc eJ6_bitCount_0f7a4_4 lJ6_265 ?_
  refine g_iand eJ6_bitCount_0f7a4_7 ?_
  refine g_isub eJ6_bitCount_0f7a4_8 ?_
  refine g_istore eJ6_bitCount_0f7a4_9 rfl ?_
  refine g_iload eJ6_bitCount_0f7a4_10 rfl ?_
  refine g_ldc eJ6_bitCount_0f7a4_11 lJ6_266 ?_
  refine g_iand eJ6_bitCount_0f7a4_14 ?_
  refine g_iload eJ6_bitCount_0f7a4_15 rfl ?_
  refine g_push eJ6_bitCount_0f7a4_16 ?_
  refine g_iushr eJ6_bitCount_0f7a4_17 ?_
  refine g_ldc eJ6_bitCount_0f7a4_18 lJ6_266 ?_
  refine g_iand eJ6_bitCount_0f7a4_21 ?_
  refine g_iadd eJ6_bitCount_0f7a4_22 ?_
  refine g_istore eJ6_bitCount_0f7a4_23 rfl ?_
  refine g_iload eJ6_bitCount_0f7a4_24 rfl ?_
  refine g_iload eJ6_bitCount_0f7a4_25 rfl ?_
  refine g_push eJ6_bitCount_0f7a4_26 ?_
  refine g_iushr eJ6_bitCount_0f7a4_27 ?_
  refine g_iadd eJ6_bitCount_0f7a4_28 ?_
  refine g_ldc eJ6_bitCount_0f7a4_29 lJ6_267 ?_
  refine g_iand eJ6_bitCount_0f7a4_32 ?_
  refine g_istore eJ6_bitCount_0f7a4_33 rfl ?_
  refine g_iload eJ6_bitCount_0f7a4_34 rfl ?_
  refine g_iload eJ6_bitCount_0f7a4_35 rfl ?_
  refine g_push eJ6_bitCount_0f7a4_36 ?_
  refine g_iushr eJ6_bitCount_0f7a4_38 ?_
  refine g_iadd eJ6_bitCount_0f7a4_39 ?_
  refine g_istore eJ6_bitCount_0f7a4_40 rfl ?_
  refine g_iload eJ6_bitCount_0f7a4_41 rfl ?_
  refine g_iload eJ6_bitCount_0f7a4_42 rfl ?_
  refine g_push eJ6_bitCount_0f7a4_43 ?_
  refine g_iushr eJ6_bitCount_0f7a4_45 ?_
  refine g_iadd eJ6_bitCount_0f7a4_46 ?_
  refine g_istore eJ6_bitCount_0f7a4_47 rfl ?_
  refine g_iload eJ6_bitCount_0f7a4_48 rfl ?_
  refine g_push eJ6_bitCount_0f7a4_49 ?_
  refine g_iand eJ6_bitCount_0f7a4_51 ?_
  exact g_ret (eJ6_bitCount_0f7a4_52 _) (Nat.le_refl _) (Nat.le_refl _) ⟨congrArg (fun x => some (Value.int x)) (co_dec (P := fun m => ((fun x9 => (fun x23 => (fun x33 => (fun x40 => (fun x47 => (x47 &&& nI 63)) ((x40 + ((x40).toUInt32 >>> ((nI 16).toUInt32 &&& Int32.toUInt32 31)).toInt32))) ((x33 + ((x33).toUInt32 >>> ((nI 8).toUInt32 &&& Int32.toUInt32 31)).toInt32))) (((x23 + ((x23).toUInt32 >>> ((nI 4).toUInt32 &&& Int32.toUInt32 31)).toInt32) &&& (252645135 : Int32)))) (((x9 &&& (858993459 : Int32)) + (((x9).toUInt32 >>> ((nI 2).toUInt32 &&& Int32.toUInt32 31)).toInt32 &&& (858993459 : Int32))))) ((nI m - (((nI m).toUInt32 >>> ((nI 1).toUInt32 &&& Int32.toUInt32 31)).toInt32 &&& (1431655765 : Int32)))) : Int32) = nI (popc m)) bc_all hm), rfl⟩
theorem tb_ones (t : Nat) (h : t < 32) : (4294967295 : Nat).testBit t = true := co_dec (N := 32) (P := fun t => (4294967295 : Nat).testBit t = true) (by decide +kernel) h
theorem beq_eq_decide (a b : Nat) : (a == b) = decide (a = b) := rfl
set_option maxRecDepth 20000 in
theorem c_firstPlacesOf {σ : aH} {a b sz : Nat} {ws : List Nat} (h1 : σ[a]? = some (aO 6 [.ref b, .int (nI sz)])) (h2 : σ[b]? = some (aA ws)) (hl : ws.length = 10) (hs : sz ≤ 10) (hw : ∀ k, k < sz → ws.getD k 0 < 8) {w : Nat} (hw2 : w < 2147483648) : MX6_firstPlacesOf 0 0 0 [.ref a, .int (nI w)] σ (aPu (some (.int (nI (msk (fun k => w.testBit (ws.getD k 0) && !seenB (shW ws) k (ws.getD k 0)) sz)))) σ) := by
  refine sX6_firstPlacesOf (Nat.le_of_ble_eq_true rfl) ?_
  have key : ∀ d i u, i + d = sz → u < 2147483648 → (∀ t, t < 8 → u.testBit t = (w.testBit t && !seenB (shW ws) i t)) → GX6_firstPlacesOf 0 0 0 (aPu (some (.int (nI (msk (fun k => w.testBit (ws.getD k 0) && !seenB (shW ws) k (ws.getD k 0)) sz)))) σ) 0 0 7 [some (.ref a), some (.int (nI w)), some (.int (nI (msk (fun k => w.testBit (ws.getD k 0) && !seenB (shW ws) k (ws.getD k 0)) i))), some (.int (nI u)), some (.int (nI i))] [] σ := by
    intro d
    induction d with
    | zero =>
      intro i u hi hu hut
      obtain rfl : i = sz := by omega
      refine g_iload eX6_firstPlacesOf_7 rfl ?_
      refine g_aload eX6_firstPlacesOf_9 rfl ?_
      refine g_get eX6_firstPlacesOf_10 fX6_15_X6 (by assumption) (by rfl) ?_
      refine g_icmp_geN eX6_firstPlacesOf_13 (by omega) (by omega) (fun c13 => ?_) (fun c13 => by exfalso; omega)
      refine g_iload eX6_firstPlacesOf_53 rfl ?_
      exact g_ret (eX6_firstPlacesOf_54 _) (Nat.le_refl _) (Nat.le_refl _) ⟨rfl, rfl⟩
    | succ d ih =>
      intro i u hi hu hut
      have hb := hw i (by omega)
      refine g_iload eX6_firstPlacesOf_7 rfl ?_
      refine g_aload eX6_firstPlacesOf_9 rfl ?_
      refine g_get eX6_firstPlacesOf_10 fX6_15_X6 (by assumption) (by rfl) ?_
      refine g_icmp_geN eX6_firstPlacesOf_13 (by omega) (by omega) (fun c13 => by exfalso; omega) (fun c13 => ?_)
      refine g_iload eX6_firstPlacesOf_16 rfl ?_
      refine g_iload eX6_firstPlacesOf_17 rfl ?_
      refine g_aload eX6_firstPlacesOf_18 rfl ?_
      refine g_get eX6_firstPlacesOf_19 fX6_9_X6 (by assumption) (by rfl) ?_
      refine g_iload eX6_firstPlacesOf_22 rfl ?_
      refine g_ialdN eX6_firstPlacesOf_24 (by assumption) (by omega) (by omega) ?_
      refine g_ishrN eX6_firstPlacesOf_25 (by omega) (by omega) ?_
      refine g_push eX6_firstPlacesOf_26 ?_
      refine g_iandN eX6_firstPlacesOf_27 ?_
      refine g_iload eX6_firstPlacesOf_28 rfl ?_
      refine g_ishlN eX6_firstPlacesOf_30 (by omega) (bit_shl _ _ (by omega)) ?_
      refine g_iorN eX6_firstPlacesOf_31 ?_
      refine g_istore eX6_firstPlacesOf_32 rfl ?_
      refine g_iload eX6_firstPlacesOf_33 rfl ?_
      refine g_push eX6_firstPlacesOf_34 ?_
      refine g_aload eX6_firstPlacesOf_35 rfl ?_
      refine g_get eX6_firstPlacesOf_36 fX6_9_X6 (by assumption) (by rfl) ?_
      refine g_iload eX6_firstPlacesOf_39 rfl ?_
      refine g_ialdN eX6_firstPlacesOf_41 (by assumption) (by omega) (by omega) ?_
      refine g_ishlN eX6_firstPlacesOf_42 (by omega) (one_shl _ (by omega)) ?_
      refine g_push (v := nI 4294967295) (nA_m1 ▸ eX6_firstPlacesOf_43) ?_
      refine g_ixorN eX6_firstPlacesOf_44 ?_
      refine g_iandN eX6_firstPlacesOf_45 ?_
      refine g_istore eX6_firstPlacesOf_46 rfl ?_
      refine g_iincN eX6_firstPlacesOf_47 rfl rfl ?_
      refine g_goto eX6_firstPlacesOf_50 ?_
      rw [nbit, hut _ hb]
      refine ih (i + 1) _ (by omega) (Nat.lt_of_le_of_lt Nat.and_le_left hu) (fun t ht => ?_)
      rw [Nat.testBit_and, hut t ht, Nat.testBit_xor, Nat.one_mul, Nat.testBit_two_pow, tb_ones t (by omega)]
      show (w.testBit t && !seenB (shW ws) i t && (decide (ws.getD i 0 = t) ^^ true)) = (w.testBit t && !(seenB (shW ws) i t || ws.getD i 0 == t))
      rw [beq_eq_decide]
      cases w.testBit t <;> cases seenB (shW ws) i t <;> cases decide (ws.getD i 0 = t) <;> rfl
  refine g_push eX6_firstPlacesOf_0 ?_
  refine g_istore eX6_firstPlacesOf_1 rfl ?_
  refine g_iload eX6_firstPlacesOf_2 rfl ?_
  refine g_istore eX6_firstPlacesOf_3 rfl ?_
  refine g_push eX6_firstPlacesOf_4 ?_
  refine g_istore eX6_firstPlacesOf_5 rfl ?_
  exact key sz 0 w (by omega) hw2 (fun t _ => by simp [seenB])
theorem behind_eq (p sz : Nat) : (p * 2 ^ 1 &&& 1 * 2 ^ sz - 1) = msk (fun k => decide (0 < k) && p.testBit (k - 1)) sz := by
  rw [Nat.one_mul, Nat.and_two_pow_sub_one_eq_mod]
  refine msk_ext (Nat.mod_lt _ (Nat.two_pow_pos sz)) (fun i hi => ?_)
  rw [Nat.testBit_mod_two_pow, Nat.pow_one]
  simp only [hi, decide_true, Bool.true_and]
  cases i with
  | zero => simp [Nat.testBit_zero]
  | succ i =>
    rw [Nat.testBit_succ, Nat.mul_div_cancel _ (by omega)]
    simp
set_option maxRecDepth 20000 in
theorem c_placesBehind {σ : aH} {a b sz : Nat} {p : Nat} (h1 : σ[a]? = some (aO 6 [.ref b, .int (nI sz)])) (hs : sz ≤ 10) (hp : p < 1024) : MX6_placesBehind 0 0 0 [.ref a, .int (nI p)] σ (aPu (some (.int (nI (msk (fun k => decide (0 < k) && p.testBit (k - 1)) sz)))) σ) := by
  refine sX6_placesBehind (Nat.le_of_ble_eq_true rfl) ?_
  refine g_iload eX6_placesBehind_0 rfl ?_
  refine g_push eX6_placesBehind_1 ?_
  refine g_ishlN eX6_placesBehind_2 (by omega) (by omega) ?_
  refine g_push eX6_placesBehind_3 ?_
  refine g_aload eX6_placesBehind_4 rfl ?_
  refine g_get eX6_placesBehind_5 fX6_15_X6 (by assumption) (by rfl) ?_
  refine g_ishlN eX6_placesBehind_8 (by omega) (one_shl _ (by omega)) ?_
  refine g_push eX6_placesBehind_9 ?_
  refine g_isubN eX6_placesBehind_10 (by have := Nat.two_pow_pos sz; omega) ?_
  refine g_iandN eX6_placesBehind_11 ?_
  exact g_ret (eX6_placesBehind_12 _) (Nat.le_refl _) (Nat.le_refl _) ⟨congrArg (fun x => some (Value.int (nI x))) (behind_eq p sz), rfl⟩
def orW (s : Nat → Nat) : Nat → Nat
  | 0 => 0
  | n + 1 => orW s n ||| 2 ^ (s n)
theorem orW_lt (s : Nat → Nat) : ∀ n, (∀ k, k < n → s k < 8) → orW s n < 256
  | 0, _ => by show 0 < 256; decide
  | n + 1, h => by
    refine Nat.or_lt_two_pow (n := 8) (orW_lt s n (fun k hk => h k (by omega))) ?_
    exact Nat.pow_lt_pow_right (by omega) (h n (by omega))
set_option maxRecDepth 20000 in
theorem c_unlikeWords {σ : aH} {a b sz : Nat} {ws : List Nat} (h1 : σ[a]? = some (aO 6 [.ref b, .int (nI sz)])) (h2 : σ[b]? = some (aA ws)) (hl : ws.length = 10) (hs : sz ≤ 10) (hw : ∀ k, k < sz → ws.getD k 0 < 8) : MX6_unlikeWords 1 0 0 [.ref a] σ (aPu (some (.int (nI (popc (orW (shW ws) sz))))) σ) := by
  refine sX6_unlikeWords (Nat.le_of_ble_eq_true rfl) ?_
  have key : ∀ d i, i + d = sz → GX6_unlikeWords 1 0 0 (aPu (some (.int (nI (popc (orW (shW ws) sz))))) σ) 0 0 4 [some (.ref a), some (.int (nI (orW (shW ws) i))), some (.int (nI i))] [] σ := by
    intro d
    induction d with
    | zero =>
      intro i hi
      obtain rfl : i = sz := by omega
      have hlt := orW_lt (shW ws) i hw
      refine g_iload eX6_unlikeWords_4 rfl ?_
      refine g_aload eX6_unlikeWords_5 rfl ?_
      refine g_get eX6_unlikeWords_6 fX6_15_X6 (by assumption) (by rfl) ?_
      refine g_icmp_geN eX6_unlikeWords_9 (by omega) (by omega) (fun c9 => ?_) (fun c9 => by exfalso; omega)
      refine g_iload eX6_unlikeWords_29 rfl ?_
      refine g_callSp eX6_unlikeWords_30 kX6_29 (c_bitCount (m := orW (shW ws) i) (by omega)) (by rfl) (by rfl) (by exact Nat.le_of_ble_eq_true rfl) (by exact Nat.le_of_ble_eq_true rfl) (by exact Nat.le_of_ble_eq_true rfl) (Nat.le_refl _) (Nat.le_refl _) ?_
      exact g_ret (eX6_unlikeWords_33 _) (Nat.le_refl _) (Nat.le_refl _) ⟨rfl, rfl⟩
    | succ d ih =>
      intro i hi
      have hb := hw i (by omega)
      refine g_iload eX6_unlikeWords_4 rfl ?_
      refine g_aload eX6_unlikeWords_5 rfl ?_
      refine g_get eX6_unlikeWords_6 fX6_15_X6 (by assumption) (by rfl) ?_
      refine g_icmp_geN eX6_unlikeWords_9 (by omega) (by omega) (fun c9 => by exfalso; omega) (fun c9 => ?_)
      refine g_iload eX6_unlikeWords_12 rfl ?_
      refine g_push eX6_unlikeWords_13 ?_
      refine g_aload eX6_unlikeWords_14 rfl ?_
      refine g_get eX6_unlikeWords_15 fX6_9_X6 (by assumption) (by rfl) ?_
      refine g_iload eX6_unlikeWords_18 rfl ?_
      refine g_ialdN eX6_unlikeWords_19 (by assumption) (by omega) (by omega) ?_
      refine g_ishlN eX6_unlikeWords_20 (by omega) (one_shl _ (by omega)) ?_
      refine g_iorN eX6_unlikeWords_21 ?_
      refine g_istore eX6_unlikeWords_22 rfl ?_
      refine g_iincN eX6_unlikeWords_23 rfl rfl ?_
      refine g_goto eX6_unlikeWords_26 ?_
      rw [Nat.one_mul]
      exact ih (i + 1) (by omega)
  refine g_push eX6_unlikeWords_0 ?_
  refine g_istore eX6_unlikeWords_1 rfl ?_
  refine g_push eX6_unlikeWords_2 ?_
  refine g_istore eX6_unlikeWords_3 rfl ?_
  exact key sz 0 (by omega)
set_option maxRecDepth 20000 in
theorem c_at {σ : aH} {a b sz : Nat} {ws : List Nat} (h1 : σ[a]? = some (aO 6 [.ref b, .int (nI sz)])) (h2 : σ[b]? = some (aA ws)) (hl : ws.length = 10) (hs : sz ≤ 10) {j : Nat} (hj : j < sz) : MX6_at 1 0 0 [.ref a, .int (nI j)] σ (aPu (some (.int (nI (ws.getD j 0)))) σ) := by
  refine sX6_at (Nat.le_of_ble_eq_true rfl) ?_
  refine g_aload eX6_at_0 rfl ?_
  refine g_iload eX6_at_1 rfl ?_
  refine g_callV0 (r := (RX6, TX6, 2)) eX6_at_2 kX6_19 (by assumption) (by rfl) (c_has h1 hs) (by rfl) (by rfl) (by exact Nat.le_of_ble_eq_true rfl) (by exact Nat.le_of_ble_eq_true rfl) (by exact Nat.le_of_ble_eq_true rfl) (Nat.le_refl _) (Nat.le_refl _) (fun v2 σ2 hp2 hn2 => ?_)
  obtain ⟨h, rfl⟩ := hp2
  obtain ⟨j', -, -, rfl⟩ := h.resolve_right (fun z => z.1 j hj rfl)
  refine g_if_eq eX6_at_5 (fun c5 => absurd c5 (by decide)) (fun c5 => ?_)
  refine g_aload eX6_at_8 rfl ?_
  refine g_get eX6_at_9 fX6_9_X6 (by assumption) (by rfl) ?_
  refine g_iload eX6_at_12 rfl ?_
  refine g_ialdN eX6_at_13 (by assumption) (by omega) (by omega) ?_
  refine g_goto eX6_at_14 ?_
  exact g_ret (eX6_at_18 _) (Nat.le_refl _) (Nat.le_refl _) ⟨rfl, rfl⟩
set_option maxRecDepth 20000 in
theorem c_set {σ : aH} {a b sz : Nat} {ws : List Nat} (h1 : σ[a]? = some (aO 6 [.ref b, .int (nI sz)])) (h2 : σ[b]? = some (aA ws)) (hl : ws.length = 10) (hs : sz ≤ 10) {j v : Nat} (hj : j < sz) : MX6_set 1 0 0 [.ref a, .int (nI j), .int (nI v)] σ (aPu none (σ.set b (aA (ws.set j v)))) := by
  refine sX6_set (Nat.le_of_ble_eq_true rfl) ?_
  refine g_aload eX6_set_0 rfl ?_
  refine g_iload eX6_set_1 rfl ?_
  refine g_callV0 (r := (RX6, TX6, 2)) eX6_set_2 kX6_19 (by assumption) (by rfl) (c_has h1 hs) (by rfl) (by rfl) (by exact Nat.le_of_ble_eq_true rfl) (by exact Nat.le_of_ble_eq_true rfl) (by exact Nat.le_of_ble_eq_true rfl) (Nat.le_refl _) (Nat.le_refl _) (fun v2 σ2 hp2 hn2 => ?_)
  obtain ⟨h, rfl⟩ := hp2
  obtain ⟨j', -, -, rfl⟩ := h.resolve_right (fun z => z.1 j hj rfl)
  refine g_if_eq eX6_set_5 (fun c5 => absurd c5 (by decide)) (fun c5 => ?_)
  refine g_aload eX6_set_8 rfl ?_
  refine g_get eX6_set_9 fX6_9_X6 (by assumption) (by rfl) ?_
  refine g_iload eX6_set_12 rfl ?_
  refine g_iload eX6_set_13 rfl ?_
  refine g_iastN eX6_set_14 (by assumption) (by omega) (by omega) ?_
  exact g_ret eX6_set_15 (Nat.le_refl _) (Nat.le_refl _) ⟨rfl, rfl⟩
set_option maxRecDepth 20000 in
theorem c_clear {σ : aH} {a b : Nat} {z : Int32} (h1 : σ[a]? = some (aO 6 [.ref b, .int z])) : MX6_clear 0 0 0 [.ref a] σ (aPu none (σ.set a (aO 6 [.ref b, .int (nI 0)]))) := by
  refine sX6_clear (Nat.le_of_ble_eq_true rfl) ?_
  refine g_aload eX6_clear_0 rfl ?_
  refine g_push eX6_clear_1 ?_
  refine g_putI eX6_clear_2 fX6_15_X6 pX6_1 (by assumption) (by exact Nat.le_of_ble_eq_true rfl) ?_
  exact g_ret eX6_clear_5 (Nat.le_refl _) (Nat.le_refl _) ⟨rfl, rfl⟩
set_option maxRecDepth 20000 in
theorem c_add {σ : aH} {a b sz : Nat} {ws : List Nat} (h1 : σ[a]? = some (aO 6 [.ref b, .int (nI sz)])) (h2 : σ[b]? = some (aA ws)) (hl : ws.length = 10) (hs : sz ≤ 10) (hab : b ≠ a) {x : Nat} (hj : sz < 10) : MX6_add 0 0 0 [.ref a, .int (nI x)] σ (aPu none ((σ.set b (aA (ws.set sz x))).set a (aO 6 [.ref b, .int (nI (sz + 1))]))) := by
  refine sX6_add (Nat.le_of_ble_eq_true rfl) ?_
  refine g_aload eX6_add_0 rfl ?_
  refine g_get eX6_add_1 fX6_15_X6 (by assumption) (by rfl) ?_
  refine g_aload eX6_add_4 rfl ?_
  refine g_get eX6_add_5 fX6_9_X6 (by assumption) (by rfl) ?_
  refine g_ilenN eX6_add_8 (by assumption) ?_
  refine g_icmp_geN eX6_add_9 (by omega) (by omega) (fun c9 => by exfalso; omega) (fun c9 => ?_)
  refine g_aload eX6_add_12 rfl ?_
  refine g_get eX6_add_13 fX6_9_X6 (by assumption) (by rfl) ?_
  refine g_aload eX6_add_16 rfl ?_
  refine g_get eX6_add_17 fX6_15_X6 (by assumption) (by rfl) ?_
  refine g_iload eX6_add_20 rfl ?_
  refine g_iastN eX6_add_21 (by assumption) (by omega) (by omega) ?_
  refine g_aload eX6_add_22 rfl ?_
  refine g_dup eX6_add_23 rfl ?_
  refine g_get eX6_add_24 fX6_15_X6 (at_ne hab h1) (by rfl) ?_
  refine g_push eX6_add_27 ?_
  refine g_iaddN eX6_add_28 ?_
  refine g_putI eX6_add_29 fX6_15_X6 pX6_1 (at_ne hab h1) (by exact Nat.le_of_ble_eq_true rfl) ?_
  exact g_ret eX6_add_32 (Nat.le_refl _) (Nat.le_refl _) ⟨rfl, rfl⟩
set_option maxRecDepth 20000 in
theorem c_copyFrom {σ : aH} {a b sz : Nat} {z0 : Int32} {ws : List Nat} (h1 : σ[a]? = some (aO 6 [.ref b, .int z0])) (h2 : σ[b]? = some (aA ws)) (hl : ws.length = 10) {a' b' : Nat} {ws' : List Nat} (h1' : σ[a']? = some (aO 6 [.ref b', .int (nI sz)])) (h2' : σ[b']? = some (aA ws')) (hl' : ws'.length = 10) (n1 : b ≠ a') (n2 : b ≠ a) : MX6_copyFrom 1 0 0 [.ref a, .ref a'] σ (aPu none ((σ.set b (aA ws')).set a (aO 6 [.ref b, .int (nI sz)]))) := by
  refine sX6_copyFrom (Nat.le_of_ble_eq_true rfl) ?_
  refine g_aload eX6_copyFrom_0 rfl ?_
  refine g_get eX6_copyFrom_1 fX6_9_X6 h1' (by rfl) ?_
  refine g_push eX6_copyFrom_4 ?_
  refine g_aload eX6_copyFrom_5 rfl ?_
  refine g_get eX6_copyFrom_6 fX6_9_X6 h1 (by rfl) ?_
  refine g_push eX6_copyFrom_9 ?_
  refine g_aload eX6_copyFrom_10 rfl ?_
  refine g_get eX6_copyFrom_11 fX6_9_X6 h1 (by rfl) ?_
  refine g_ilenN eX6_copyFrom_14 h2 ?_
  refine g_copy eX6_copyFrom_15 kX6_23 (by exact Nat.le_of_ble_eq_true rfl) (by exact Nat.le_of_ble_eq_true rfl) h2' h2 rfl (by rw [List.length_map]; omega) (by rw [List.length_map]) ?_
  refine g_aload eX6_copyFrom_18 rfl ?_
  refine g_aload eX6_copyFrom_19 rfl ?_
  refine g_get eX6_copyFrom_20 fX6_15_X6 (at_ne n1 h1') (by rfl) ?_
  refine g_putI eX6_copyFrom_23 fX6_15_X6 pX6_1 (at_ne n2 h1) (by exact Nat.le_of_ble_eq_true rfl) ?_
  exact g_ret eX6_copyFrom_26 (Nat.le_refl _) (Nat.le_refl _) ⟨rfl, rfl⟩
end
section
/-! what is heard; the walk over the page; the page -/
def lw : Nat → Int32
  | 0 => -1
  | n + 1 => nI n
theorem lw_le {v l : Nat} (hv : v < 1000) (hl : l < 1000) : nI v ≤ lw l ↔ v < l := by
  cases l with
  | zero =>
    constructor
    · intro h
      have h1 := Int32.le_iff_toInt_le.mp h
      rw [nI_toInt (by omega), show (lw 0).toInt = -1 from rfl] at h1
      omega
    · omega
  | succ l =>
    show nI v ≤ nI l ↔ _
    rw [nI_leI (by omega) (by omega)]
    omega
abbrev wO (s : Nat × Nat × Nat) : aT := aO 9 [.int (nI s.1), .int (nI s.2.1), .int (lw s.2.2)]
def pword (p m l v : Nat) : Bool := if p < 4 then decide (m < 3 ∧ l ≤ v) else decide (m < 10)
def wstep (s : Nat × Nat × Nat) (c : Nat) : Option (Nat × Nat × Nat) :=
  if 97 ≤ c ∧ c < 105 then (if pword s.1 s.2.1 s.2.2 (c - 97) then some (s.1, s.2.1 + 1, c - 97 + 1) else none)
  else if s.1 < 4 ∧ 0 < s.2.1 ∧ c = (if s.1 = 3 then 59 else 44) then some (s.1 + 1, 0, 0) else none
def wok (s : Nat × Nat × Nat) : Prop := s.1 ≤ 4 ∧ s.2.1 ≤ 10 ∧ s.2.2 ≤ 8
theorem wstep_ok {s s' : Nat × Nat × Nat} {c : Nat} (h : wok s) (e : wstep s c = some s') : wok s' := by
  obtain ⟨p, m, l⟩ := s
  obtain ⟨h1, h2, h3⟩ := h
  simp only at h1 h2 h3
  unfold wstep at e
  by_cases a : 97 ≤ c ∧ c < 105
  · rw [if_pos a] at e
    by_cases hp : pword p m l (c - 97) = true
    · rw [if_pos hp] at e
      cases e
      unfold pword at hp
      refine ⟨h1, ?_, by show c - 97 + 1 ≤ 8; omega⟩
      show m + 1 ≤ 10
      by_cases h4 : p < 4
      · rw [if_pos h4] at hp
        have := of_decide_eq_true hp
        omega
      · rw [if_neg h4] at hp
        have := of_decide_eq_true hp
        omega
    · rw [if_neg hp] at e
      cases e
  · rw [if_neg a] at e
    by_cases b : p < 4 ∧ 0 < m ∧ c = (if p = 3 then 59 else 44)
    · rw [if_pos b] at e
      cases e
      exact ⟨by show p + 1 ≤ 4; omega, by show 0 ≤ 10; omega, by show 0 ≤ 8; omega⟩
    · rw [if_neg b] at e
      cases e
def wfa (pg : Nat → Nat) : Nat → Nat → Nat × Nat × Nat → Nat × (Nat × Nat × Nat)
  | 0, k, s => (k, s)
  | d + 1, k, s => match wstep s (pg k) with
    | some s' => wfa pg d (k + 1) s'
    | none => (k, s)
theorem wfa_some {pg : Nat → Nat} {d k : Nat} {s s' : Nat × Nat × Nat} (e : wstep s (pg k) = some s') : wfa pg (d + 1) k s = wfa pg d (k + 1) s' := by simp only [wfa, e]
theorem wfa_none {pg : Nat → Nat} {d k : Nat} {s : Nat × Nat × Nat} (e : wstep s (pg k) = none) : wfa pg (d + 1) k s = (k, s) := by simp only [wfa, e]
theorem wfa_ok (pg : Nat → Nat) : ∀ d k s, wok s → wok (wfa pg d k s).2 ∧ k ≤ (wfa pg d k s).1 ∧ (wfa pg d k s).1 ≤ k + d
  | 0, k, s, h => ⟨h, Nat.le_refl _, Nat.le_refl _⟩
  | d + 1, k, s, h => by
    cases e : wstep s (pg k) with
    | none =>
      rw [wfa_none e]
      exact ⟨h, Nat.le_refl _, Nat.le_add_right _ _⟩
    | some s' =>
      rw [wfa_some e]
      have := wfa_ok pg d (k + 1) s' (wstep_ok h e)
      exact ⟨this.1, by omega, by omega⟩
def wcourt (pg : Nat → Nat) (n : Nat) : Bool := decide ((wfa pg n 0 (0, 0, 0)).1 = n ∧ (wfa pg n 0 (0, 0, 0)).2.1 = 4 ∧ 0 < (wfa pg n 0 (0, 0, 0)).2.2.1)
def dleft (wm dm : Nat → Nat) (n : Nat) : Nat → Nat
  | 0 => 31
  | i + 1 => if wm i = n then dleft wm dm n i &&& dm i else dleft wm dm n i
theorem dleft_le (wm dm : Nat → Nat) (n : Nat) : ∀ i, dleft wm dm n i ≤ 31
  | 0 => Nat.le_refl _
  | i + 1 => by
    have h := dleft_le wm dm n i
    unfold dleft
    split
    · exact Nat.le_trans Nat.and_le_left h
    · exact h
set_option maxRecDepth 20000 in
theorem c_hsize {σ : aH} {a b c hs : Nat} (h1 : σ[a]? = some (aO 3 [.ref b, .ref c, .int (nI hs)])) : MX3_size 0 0 0 [.ref a] σ (aPu (some (.int (nI hs))) σ) := by
  refine sX3_size (Nat.le_of_ble_eq_true rfl) ?_
  refine g_aload eX3_size_0 rfl ?_
  refine g_get eX3_size_1 fX3_18_X3 (by assumption) (by rfl) ?_
  exact g_ret (eX3_size_4 _) (Nat.le_refl _) (Nat.le_refl _) ⟨rfl, rfl⟩
set_option maxRecDepth 20000 in
theorem c_hclear {σ : aH} {a b c : Nat} {z : Int32} (h1 : σ[a]? = some (aO 3 [.ref b, .ref c, .int z])) : MX3_clear 0 0 0 [.ref a] σ (aPu none (σ.set a (aO 3 [.ref b, .ref c, .int (nI 0)]))) := by
  refine sX3_clear (Nat.le_of_ble_eq_true rfl) ?_
  refine g_aload eX3_clear_0 rfl ?_
  refine g_push eX3_clear_1 ?_
  refine g_putI eX3_clear_2 fX3_18_X3 pX3_2 (by assumption) (by exact Nat.le_of_ble_eq_true rfl) ?_
  exact g_ret eX3_clear_5 (Nat.le_refl _) (Nat.le_refl _) ⟨rfl, rfl⟩
set_option maxRecDepth 20000 in
theorem c_hadd {σ : aH} {a b c hs : Nat} {wm dm : List Nat} (h1 : σ[a]? = some (aO 3 [.ref b, .ref c, .int (nI hs)])) (h2 : σ[b]? = some (aA wm)) (h3 : σ[c]? = some (aA dm)) (hl2 : wm.length = 8) (hl3 : dm.length = 8) (hs8 : hs ≤ 8) (n1 : b ≠ a) (n2 : c ≠ a) (n3 : b ≠ c) (w f : Nat) : MX3_add 0 0 0 [.ref a, .int (nI w), .int (nI f)] σ (fun v σ' => (hs < 8 ∧ v = some (.int (nI 1)) ∧ σ' = ((σ.set b (aA (wm.set hs w))).set c (aA (dm.set hs f))).set a (aO 3 [.ref b, .ref c, .int (nI (hs + 1))])) ∨ (hs = 8 ∧ v = some (.int (nI 0)) ∧ σ' = σ)) := by
  refine sX3_add (Nat.le_of_ble_eq_true rfl) ?_
  refine g_aload eX3_add_0 rfl ?_
  refine g_get eX3_add_1 fX3_18_X3 (by assumption) (by rfl) ?_
  refine g_aload eX3_add_4 rfl ?_
  refine g_get eX3_add_5 fX3_9_X3 (by assumption) (by rfl) ?_
  refine g_ilenN eX3_add_8 (by assumption) ?_
  refine g_icmp_geN eX3_add_9 (by omega) (by omega) (fun c9 => ?_) (fun c9 => ?_)
  · refine g_push eX3_add_24 ?_
    exact g_ret (eX3_add_25 _ (Or.inl rfl)) (Nat.le_refl _) (Nat.le_refl _) (Or.inr ⟨by omega, rfl, rfl⟩)
  · refine g_aload eX3_add_12 rfl ?_
    refine g_get eX3_add_13 fX3_18_X3 (by assumption) (by rfl) ?_
    refine g_aload eX3_add_16 rfl ?_
    refine g_get eX3_add_17 fX3_15_X3 (by assumption) (by rfl) ?_
    refine g_ilenN eX3_add_20 (by assumption) ?_
    refine g_icmp_ltN eX3_add_21 (by omega) (by omega) (fun c21 => ?_) (fun c21 => by exfalso; omega)
    refine g_aload eX3_add_26 rfl ?_
    refine g_get eX3_add_27 fX3_9_X3 (by assumption) (by rfl) ?_
    refine g_aload eX3_add_30 rfl ?_
    refine g_get eX3_add_31 fX3_18_X3 (by assumption) (by rfl) ?_
    refine g_iload eX3_add_34 rfl ?_
    refine g_iastN eX3_add_35 (by assumption) (by omega) (by omega) ?_
    refine g_aload eX3_add_36 rfl ?_
    refine g_get eX3_add_37 fX3_15_X3 (at_ne n1 h1) (by rfl) ?_
    refine g_aload eX3_add_40 rfl ?_
    refine g_get eX3_add_41 fX3_18_X3 (at_ne n1 h1) (by rfl) ?_
    refine g_iload eX3_add_44 rfl ?_
    refine g_iastN eX3_add_45 (at_ne n3 h3) (by omega) (by omega) ?_
    refine g_aload eX3_add_46 rfl ?_
    refine g_dup eX3_add_47 rfl ?_
    refine g_get eX3_add_48 fX3_18_X3 (at_ne n2 (at_ne n1 h1)) (by rfl) ?_
    refine g_push eX3_add_51 ?_
    refine g_iaddN eX3_add_52 ?_
    refine g_putI eX3_add_53 fX3_18_X3 pX3_2 (at_ne n2 (at_ne n1 h1)) (by exact Nat.le_of_ble_eq_true rfl) ?_
    refine g_push eX3_add_56 ?_
    exact g_ret (eX3_add_57 _ (Or.inr rfl)) (Nat.le_refl _) (Nat.le_refl _) (Or.inl ⟨by omega, rfl, rfl⟩)
set_option maxRecDepth 20000 in
theorem c_deedsLeft {σ : aH} {a b c hs : Nat} {wm dm : List Nat} (h1 : σ[a]? = some (aO 3 [.ref b, .ref c, .int (nI hs)])) (h2 : σ[b]? = some (aA wm)) (h3 : σ[c]? = some (aA dm)) (hl2 : wm.length = 8) (hl3 : dm.length = 8) (hs8 : hs ≤ 8) (hw : ∀ k, wm.getD k 0 < 65536) {n : Nat} (hn : n < 65536) : MX3_deedsLeft 0 0 0 [.ref a, .int (nI n)] σ (aPu (some (.int (nI (dleft (shW wm) (shW dm) n hs)))) σ) := by
  refine sX3_deedsLeft (Nat.le_of_ble_eq_true rfl) ?_
  have key : ∀ d i, i + d = hs → GX3_deedsLeft 0 0 0 (aPu (some (.int (nI (dleft (shW wm) (shW dm) n hs)))) σ) 0 0 5 [some (.ref a), some (.int (nI n)), some (.int (nI (dleft (shW wm) (shW dm) n i))), some (.int (nI i))] [] σ := by
    intro d
    induction d with
    | zero =>
      intro i hi
      obtain rfl : i = hs := by omega
      refine g_iload eX3_deedsLeft_5 rfl ?_
      refine g_aload eX3_deedsLeft_6 rfl ?_
      refine g_get eX3_deedsLeft_7 fX3_18_X3 (by assumption) (by rfl) ?_
      refine g_icmp_geN eX3_deedsLeft_10 (by omega) (by omega) (fun c10 => ?_) (fun c10 => by exfalso; omega)
      refine g_iload eX3_deedsLeft_38 rfl ?_
      exact g_ret (eX3_deedsLeft_39 _) (Nat.le_refl _) (Nat.le_refl _) ⟨rfl, rfl⟩
    | succ d ih =>
      intro i hi
      have hb := hw i
      have ih2 := ih (i + 1) (by omega)
      refine g_iload eX3_deedsLeft_5 rfl ?_
      refine g_aload eX3_deedsLeft_6 rfl ?_
      refine g_get eX3_deedsLeft_7 fX3_18_X3 (by assumption) (by rfl) ?_
      refine g_icmp_geN eX3_deedsLeft_10 (by omega) (by omega) (fun c10 => by exfalso; omega) (fun c10 => ?_)
      refine g_aload eX3_deedsLeft_13 rfl ?_
      refine g_get eX3_deedsLeft_14 fX3_9_X3 (by assumption) (by rfl) ?_
      refine g_iload eX3_deedsLeft_17 rfl ?_
      refine g_ialdN eX3_deedsLeft_18 (by assumption) (by omega) (by omega) ?_
      refine g_iload eX3_deedsLeft_19 rfl ?_
      refine g_icmp_neN eX3_deedsLeft_20 (by omega) (by omega) (fun c20 => ?_) (fun c20 => ?_)
      · refine g_iincN eX3_deedsLeft_32 rfl rfl ?_
        refine g_goto eX3_deedsLeft_35 ?_
        first
          | (have e2 : dleft (shW wm) (shW dm) n (i + 1) = (dleft (shW wm) (shW dm) n i &&& dm.getD i 0) := if_pos c20
             rw [e2] at ih2; exact ih2)
          | (have e2 : dleft (shW wm) (shW dm) n (i + 1) = dleft (shW wm) (shW dm) n i := if_neg c20
             rw [e2] at ih2; exact ih2)
      · refine g_iload eX3_deedsLeft_23 rfl ?_
        refine g_aload eX3_deedsLeft_24 rfl ?_
        refine g_get eX3_deedsLeft_25 fX3_15_X3 (by assumption) (by rfl) ?_
        refine g_iload eX3_deedsLeft_28 rfl ?_
        refine g_ialdN eX3_deedsLeft_29 (by assumption) (by omega) (by omega) ?_
        refine g_iandN eX3_deedsLeft_30 ?_
        refine g_istore eX3_deedsLeft_31 rfl ?_
        refine g_iincN eX3_deedsLeft_32 rfl rfl ?_
        refine g_goto eX3_deedsLeft_35 ?_
        first
          | (have e2 : dleft (shW wm) (shW dm) n (i + 1) = (dleft (shW wm) (shW dm) n i &&& dm.getD i 0) := if_pos c20
             rw [e2] at ih2; exact ih2)
          | (have e2 : dleft (shW wm) (shW dm) n (i + 1) = dleft (shW wm) (shW dm) n i := if_neg c20
             rw [e2] at ih2; exact ih2)
  refine g_push eX3_deedsLeft_0 ?_
  refine g_istore eX3_deedsLeft_2 rfl ?_
  refine g_push eX3_deedsLeft_3 ?_
  refine g_istore eX3_deedsLeft_4 rfl ?_
  exact key hs 0 (by omega)
set_option maxRecDepth 20000 in
theorem c_hcopy {σ : aH} {a b c : Nat} {z0 : Int32} {wm dm : List Nat} (h1 : σ[a]? = some (aO 3 [.ref b, .ref c, .int z0])) (h2 : σ[b]? = some (aA wm)) (h3 : σ[c]? = some (aA dm)) (hl2 : wm.length = 8) (hl3 : dm.length = 8) {a' b' c' hs : Nat} {wm' dm' : List Nat} (g1 : σ[a']? = some (aO 3 [.ref b', .ref c', .int (nI hs)])) (g2 : σ[b']? = some (aA wm')) (g3 : σ[c']? = some (aA dm')) (gl2 : wm'.length = 8) (gl3 : dm'.length = 8) (n1 : b ≠ a) (n2 : c ≠ a) (n3 : b ≠ c) (n4 : b ≠ a') (n5 : c ≠ a') (n6 : b ≠ c') : MX3_copyFrom 1 0 0 [.ref a, .ref a'] σ (aPu none (((σ.set b (aA wm')).set c (aA dm')).set a (aO 3 [.ref b, .ref c, .int (nI hs)]))) := by
  refine sX3_copyFrom (Nat.le_of_ble_eq_true rfl) ?_
  refine g_aload eX3_copyFrom_0 rfl ?_
  refine g_get eX3_copyFrom_1 fX3_9_X3 g1 (by rfl) ?_
  refine g_push eX3_copyFrom_4 ?_
  refine g_aload eX3_copyFrom_5 rfl ?_
  refine g_get eX3_copyFrom_6 fX3_9_X3 h1 (by rfl) ?_
  refine g_push eX3_copyFrom_9 ?_
  refine g_aload eX3_copyFrom_10 rfl ?_
  refine g_get eX3_copyFrom_11 fX3_9_X3 h1 (by rfl) ?_
  refine g_ilenN eX3_copyFrom_14 h2 ?_
  refine g_copy eX3_copyFrom_15 kX3_22 (by exact Nat.le_of_ble_eq_true rfl) (by exact Nat.le_of_ble_eq_true rfl) g2 h2 rfl (by rw [List.length_map]; omega) (by rw [List.length_map]) ?_
  refine g_aload eX3_copyFrom_18 rfl ?_
  refine g_get eX3_copyFrom_19 fX3_15_X3 (at_ne n4 g1) (by rfl) ?_
  refine g_push eX3_copyFrom_22 ?_
  refine g_aload eX3_copyFrom_23 rfl ?_
  refine g_get eX3_copyFrom_24 fX3_15_X3 (at_ne n1 h1) (by rfl) ?_
  refine g_push eX3_copyFrom_27 ?_
  refine g_aload eX3_copyFrom_28 rfl ?_
  refine g_get eX3_copyFrom_29 fX3_15_X3 (at_ne n1 h1) (by rfl) ?_
  refine g_ilenN eX3_copyFrom_32 (at_ne n3 h3) ?_
  refine g_copy eX3_copyFrom_33 kX3_22 (by exact Nat.le_of_ble_eq_true rfl) (by exact Nat.le_of_ble_eq_true rfl) (at_ne n6 g3) (at_ne n3 h3) rfl (by rw [List.length_map]; omega) (by rw [List.length_map]) ?_
  refine g_aload eX3_copyFrom_36 rfl ?_
  refine g_aload eX3_copyFrom_37 rfl ?_
  refine g_get eX3_copyFrom_38 fX3_18_X3 (at_ne n5 (at_ne n4 g1)) (by rfl) ?_
  refine g_putI eX3_copyFrom_41 fX3_18_X3 pX3_2 (at_ne n2 (at_ne n1 h1)) (by exact Nat.le_of_ble_eq_true rfl) ?_
  exact g_ret eX3_copyFrom_44 (Nat.le_refl _) (Nat.le_refl _) ⟨rfl, rfl⟩
set_option maxRecDepth 20000 in
theorem c_enter {σ : aH} {w : Nat} {x0 x1 x2 : Int32} (h1 : σ[w]? = some (aO 9 [.int x0, .int x1, .int x2])) {x : Int32} : MX9_enter 0 0 0 [.ref w, .int x] σ (aPu none (σ.set w (aO 9 [.int x, .int (nI 0), .int (-1)]))) := by
  refine sX9_enter (Nat.le_of_ble_eq_true rfl) ?_
  refine g_aload eX9_enter_0 rfl ?_
  refine g_iload eX9_enter_1 rfl ?_
  refine g_putI eX9_enter_2 fX9_22_X9 pX9_0 h1 (by exact Nat.le_of_ble_eq_true rfl) ?_
  refine g_aload eX9_enter_5 rfl ?_
  refine g_push eX9_enter_6 ?_
  refine g_putI eX9_enter_7 fX9_26_X9 pX9_1 (at_eq h1) (by exact Nat.le_of_ble_eq_true rfl) ?_
  refine g_aload eX9_enter_10 rfl ?_
  refine g_push eX9_enter_11 ?_
  refine g_putI eX9_enter_12 fX9_29_X9 pX9_2 (at_eq (at_eq h1)) (by exact Nat.le_of_ble_eq_true rfl) ?_
  exact g_ret eX9_enter_15 (Nat.le_refl _) (Nat.le_refl _) ⟨rfl, by rw [List.set_set, List.set_set]; rfl⟩
set_option maxRecDepth 20000 in
theorem c_begin {σ : aH} {w : Nat} {x0 x1 x2 : Int32} (h1 : σ[w]? = some (aO 9 [.int x0, .int x1, .int x2])) : MX9_begin 1 0 0 [.ref w] σ (aPu none (σ.set w (wO (0, 0, 0)))) := by
  refine sX9_begin (Nat.le_of_ble_eq_true rfl) ?_
  refine g_aload eX9_begin_0 rfl ?_
  refine g_push eX9_begin_1 ?_
  refine g_callV0 (r := (RX9, TX9, 3)) eX9_begin_2 kX9_9 (by assumption) (by rfl) (c_enter h1) (by rfl) (by rfl) (by exact Nat.le_of_ble_eq_true rfl) (by exact Nat.le_of_ble_eq_true rfl) (by exact Nat.le_of_ble_eq_true rfl) (Nat.le_refl _) (Nat.le_refl _) (fun v2 σ2 hp2 hn2 => ?_)
  obtain ⟨rfl, rfl⟩ := hp2
  exact g_ret eX9_begin_5 (Nat.le_refl _) (Nat.le_refl _) ⟨rfl, rfl⟩
set_option maxRecDepth 20000 in
theorem c_isWhole {σ : aH} {w : Nat} {s : Nat × Nat × Nat} (h1 : σ[w]? = some (wO s)) (ho : wok s) : MX9_isWhole 0 0 0 [.ref w] σ (fun v σ' => v = some (.int (nI (decide (s.1 = 4 ∧ 0 < s.2.1)).toNat)) ∧ σ' = σ) := by
  refine sX9_isWhole (Nat.le_of_ble_eq_true rfl) ?_
  obtain ⟨ho1, ho2, ho3⟩ := ho
  refine g_aload eX9_isWhole_0 rfl ?_
  refine g_get eX9_isWhole_1 fX9_22_X9 (by assumption) (by rfl) ?_
  refine g_push eX9_isWhole_4 ?_
  refine g_icmp_neN eX9_isWhole_5 (by omega) (by omega) (fun c5 => ?_) (fun c5 => ?_)
  · refine g_push eX9_isWhole_19 ?_
    exact g_ret (eX9_isWhole_20 _ (by first | exact Or.inl rfl | exact Or.inr rfl)) (Nat.le_refl _) (Nat.le_refl _) ⟨by first | rw [decide_eq_true (by omega)]; rfl | rw [decide_eq_false (by omega)]; rfl, rfl⟩
  · refine g_aload eX9_isWhole_8 rfl ?_
    refine g_get eX9_isWhole_9 fX9_26_X9 (by assumption) (by rfl) ?_
    refine g_if_leN eX9_isWhole_12 (by omega) (fun c12 => ?_) (fun c12 => ?_)
    · refine g_push eX9_isWhole_19 ?_
      exact g_ret (eX9_isWhole_20 _ (by first | exact Or.inl rfl | exact Or.inr rfl)) (Nat.le_refl _) (Nat.le_refl _) ⟨by first | rw [decide_eq_true (by omega)]; rfl | rw [decide_eq_false (by omega)]; rfl, rfl⟩
    · refine g_push eX9_isWhole_15 ?_
      refine g_goto eX9_isWhole_16 ?_
      exact g_ret (eX9_isWhole_20 _ (by first | exact Or.inl rfl | exact Or.inr rfl)) (Nat.le_refl _) (Nat.le_refl _) ⟨by first | rw [decide_eq_true (by omega)]; rfl | rw [decide_eq_false (by omega)]; rfl, rfl⟩
set_option maxRecDepth 20000 in
theorem c_passesWord {σ : aH} {w : Nat} {s : Nat × Nat × Nat} (h1 : σ[w]? = some (wO s)) (ho : wok s) {v : Nat} (hv : v < 8) : MX9_passesWord 0 0 0 [.ref w, .int (nI v)] σ (fun r σ' => (pword s.1 s.2.1 s.2.2 v = true ∧ r = some (.int (nI 1)) ∧ σ' = σ.set w (wO (s.1, s.2.1 + 1, v + 1))) ∨ (pword s.1 s.2.1 s.2.2 v = false ∧ r = some (.int (nI 0)) ∧ σ' = σ)) := by
  refine sX9_passesWord (Nat.le_of_ble_eq_true rfl) ?_
  obtain ⟨ho1, ho2, ho3⟩ := ho
  refine g_aload eX9_passesWord_0 rfl ?_
  refine g_get eX9_passesWord_1 fX9_22_X9 (by assumption) (by rfl) ?_
  refine g_push eX9_passesWord_4 ?_
  refine g_icmp_geN eX9_passesWord_5 (by omega) (by omega) (fun c5 => ?_) (fun c5 => ?_)
  · refine g_aload eX9_passesWord_33 rfl ?_
    refine g_get eX9_passesWord_34 fX9_26_X9 (by assumption) (by rfl) ?_
    refine g_push eX9_passesWord_37 ?_
    refine g_icmp_geN eX9_passesWord_39 (by omega) (by omega) (fun c39 => ?_) (fun c39 => ?_)
    · refine g_push eX9_passesWord_46 ?_
      refine g_istore eX9_passesWord_47 rfl ?_
      refine g_iload eX9_passesWord_48 rfl ?_
      refine g_if_eqN eX9_passesWord_49 (by omega) (fun c49 => ?_) (fun c49 => ?_)
      · refine g_iload eX9_passesWord_67 rfl ?_
        exact g_ret (eX9_passesWord_68 _ (Or.inl rfl)) (Nat.le_refl _) (Nat.le_refl _) (Or.inr ⟨by unfold pword; first | (rw [if_pos (by omega)]; exact decide_eq_false (by omega)) | (rw [if_neg (by omega)]; exact decide_eq_false (by omega)), rfl, rfl⟩)
      · exact absurd rfl c49
    · refine g_push eX9_passesWord_42 ?_
      refine g_goto eX9_passesWord_43 ?_
      refine g_istore eX9_passesWord_47 rfl ?_
      refine g_iload eX9_passesWord_48 rfl ?_
      refine g_if_eqN eX9_passesWord_49 (by omega) (fun c49 => ?_) (fun c49 => ?_)
      · exact absurd c49 (by decide)
      · refine g_aload eX9_passesWord_52 rfl ?_
        refine g_dup eX9_passesWord_53 rfl ?_
        refine g_get eX9_passesWord_54 fX9_26_X9 h1 (by rfl) ?_
        refine g_push eX9_passesWord_57 ?_
        refine g_iaddN eX9_passesWord_58 ?_
        refine g_putI eX9_passesWord_59 fX9_26_X9 pX9_1 h1 (by exact Nat.le_of_ble_eq_true rfl) ?_
        refine g_aload eX9_passesWord_62 rfl ?_
        refine g_iload eX9_passesWord_63 rfl ?_
        refine g_putI eX9_passesWord_64 fX9_29_X9 pX9_2 (at_eq h1) (by exact Nat.le_of_ble_eq_true rfl) ?_
        refine g_iload eX9_passesWord_67 rfl ?_
        exact g_ret (eX9_passesWord_68 _ (Or.inr rfl)) (Nat.le_refl _) (Nat.le_refl _) (Or.inl ⟨by unfold pword; first | (rw [if_pos (by omega)]; exact decide_eq_true (by omega)) | (rw [if_neg (by omega)]; exact decide_eq_true (by omega)), rfl, by rw [List.set_set]; rfl⟩)
  · refine g_aload eX9_passesWord_8 rfl ?_
    refine g_get eX9_passesWord_9 fX9_26_X9 (by assumption) (by rfl) ?_
    refine g_push eX9_passesWord_12 ?_
    refine g_icmp_geN eX9_passesWord_13 (by omega) (by omega) (fun c13 => ?_) (fun c13 => ?_)
    · refine g_push eX9_passesWord_28 ?_
      refine g_istore eX9_passesWord_29 rfl ?_
      refine g_goto eX9_passesWord_30 ?_
      refine g_iload eX9_passesWord_48 rfl ?_
      refine g_if_eqN eX9_passesWord_49 (by omega) (fun c49 => ?_) (fun c49 => ?_)
      · refine g_iload eX9_passesWord_67 rfl ?_
        exact g_ret (eX9_passesWord_68 _ (Or.inl rfl)) (Nat.le_refl _) (Nat.le_refl _) (Or.inr ⟨by unfold pword; first | (rw [if_pos (by omega)]; exact decide_eq_false (by omega)) | (rw [if_neg (by omega)]; exact decide_eq_false (by omega)), rfl, rfl⟩)
      · exact absurd rfl c49
    · refine g_iload eX9_passesWord_16 rfl ?_
      refine g_aload eX9_passesWord_17 rfl ?_
      refine g_get eX9_passesWord_18 fX9_29_X9 (by assumption) (by rfl) ?_
      refine g_icmp_le eX9_passesWord_21 (fun c21 => ?_) (fun c21 => ?_)
      · have c21 := (lw_le (by omega) (by omega)).mp c21
        refine g_push eX9_passesWord_28 ?_
        refine g_istore eX9_passesWord_29 rfl ?_
        refine g_goto eX9_passesWord_30 ?_
        refine g_iload eX9_passesWord_48 rfl ?_
        refine g_if_eqN eX9_passesWord_49 (by omega) (fun c49 => ?_) (fun c49 => ?_)
        · refine g_iload eX9_passesWord_67 rfl ?_
          exact g_ret (eX9_passesWord_68 _ (Or.inl rfl)) (Nat.le_refl _) (Nat.le_refl _) (Or.inr ⟨by unfold pword; first | (rw [if_pos (by omega)]; exact decide_eq_false (by omega)) | (rw [if_neg (by omega)]; exact decide_eq_false (by omega)), rfl, rfl⟩)
        · exact absurd rfl c49
      · have c21 : ¬ v < s.2.2 := fun z => c21 ((lw_le (by omega) (by omega)).mpr z)
        refine g_push eX9_passesWord_24 ?_
        refine g_goto eX9_passesWord_25 ?_
        refine g_istore eX9_passesWord_29 rfl ?_
        refine g_goto eX9_passesWord_30 ?_
        refine g_iload eX9_passesWord_48 rfl ?_
        refine g_if_eqN eX9_passesWord_49 (by omega) (fun c49 => ?_) (fun c49 => ?_)
        · exact absurd c49 (by decide)
        · refine g_aload eX9_passesWord_52 rfl ?_
          refine g_dup eX9_passesWord_53 rfl ?_
          refine g_get eX9_passesWord_54 fX9_26_X9 h1 (by rfl) ?_
          refine g_push eX9_passesWord_57 ?_
          refine g_iaddN eX9_passesWord_58 ?_
          refine g_putI eX9_passesWord_59 fX9_26_X9 pX9_1 h1 (by exact Nat.le_of_ble_eq_true rfl) ?_
          refine g_aload eX9_passesWord_62 rfl ?_
          refine g_iload eX9_passesWord_63 rfl ?_
          refine g_putI eX9_passesWord_64 fX9_29_X9 pX9_2 (at_eq h1) (by exact Nat.le_of_ble_eq_true rfl) ?_
          refine g_iload eX9_passesWord_67 rfl ?_
          exact g_ret (eX9_passesWord_68 _ (Or.inr rfl)) (Nat.le_refl _) (Nat.le_refl _) (Or.inl ⟨by unfold pword; first | (rw [if_pos (by omega)]; exact decide_eq_true (by omega)) | (rw [if_neg (by omega)]; exact decide_eq_true (by omega)), rfl, by rw [List.set_set]; rfl⟩)
theorem hasT2_ {x : Int32} {sz : Nat} (c1 : ¬ x < 0) (c9 : ¬ nI sz ≤ x) (hs : sz ≤ 1000) : (∃ j, j < sz ∧ x = nI j ∧ (some (Value.int (nI 1)) = some (Value.int (nI 1)))) ∨ ((∀ j, j < sz → x ≠ nI j) ∧ some (Value.int (nI 1)) = some (Value.int (nI 0))) := by
  obtain ⟨j, hj, rfl⟩ := nI_of c1
  refine Or.inl ⟨j, ?_, rfl, rfl⟩
  rw [nI_leI (by omega) hj] at c9
  omega
theorem hasF2_ {x : Int32} {sz : Nat} (c : x < 0 ∨ nI sz ≤ x) (hs : sz ≤ 1000) : (∃ j, j < sz ∧ x = nI j ∧ (some (Value.int (nI 0)) = some (Value.int (nI 1)))) ∨ ((∀ j, j < sz → x ≠ nI j) ∧ some (Value.int (nI 0)) = some (Value.int (nI 0))) := by
  refine Or.inr ⟨fun j hj => ?_, rfl⟩
  rintro rfl
  rcases c with c | c
  · exact nA_lt0 (by omega) c
  · rw [nI_leI (by omega) (by omega)] at c
    omega
set_option maxRecDepth 20000 in
theorem c_isWord {σ : aH} {x : Int32} : MX11_isWord 0 0 0 [.int x] σ (fun v σ' => ((∃ j, j < 8 ∧ x = nI j ∧ v = some (.int (nI 1))) ∨ ((∀ j, j < 8 → x ≠ nI j) ∧ v = some (.int (nI 0)))) ∧ σ' = σ) := by
  refine sX11_isWord (Nat.le_of_ble_eq_true rfl) ?_
  refine g_iload eX11_isWord_0 rfl ?_
  refine g_if_lt eX11_isWord_1 (fun c1 => ?_) (fun c1 => ?_)
  · refine g_push eX11_isWord_14 ?_
    exact g_ret (eX11_isWord_15 _ (by first | exact Or.inl rfl | exact Or.inr rfl)) (Nat.le_refl _) (Nat.le_refl _) ⟨by first | exact hasT2_ c1 c7 (by decide) | exact hasF2_ (by first | exact Or.inl c1 | exact Or.inr c7) (by decide), rfl⟩
  · refine g_iload eX11_isWord_4 rfl ?_
    refine g_push eX11_isWord_5 ?_
    refine g_icmp_ge eX11_isWord_7 (fun c7 => ?_) (fun c7 => ?_)
    · refine g_push eX11_isWord_14 ?_
      exact g_ret (eX11_isWord_15 _ (by first | exact Or.inl rfl | exact Or.inr rfl)) (Nat.le_refl _) (Nat.le_refl _) ⟨by first | exact hasT2_ c1 c7 (by decide) | exact hasF2_ (by first | exact Or.inl c1 | exact Or.inr c7) (by decide), rfl⟩
    · refine g_push eX11_isWord_10 ?_
      refine g_goto eX11_isWord_11 ?_
      exact g_ret (eX11_isWord_15 _ (by first | exact Or.inl rfl | exact Or.inr rfl)) (Nat.le_refl _) (Nat.le_refl _) ⟨by first | exact hasT2_ c1 c7 (by decide) | exact hasF2_ (by first | exact Or.inl c1 | exact Or.inr c7) (by decide), rfl⟩
theorem c97 {c : Nat} (hc : c < 1000) {j : Nat} (hj : j < 8) : nI c - nI 97 = nI j ↔ c = j + 97 := by
  constructor
  · intro h
    have h1 := congrArg Int32.toInt h
    rw [pk_sub_toInt (by omega) (by omega), nI_toInt (by omega)] at h1
    omega
  · rintro rfl
    rw [pk_sub (by omega), Nat.add_sub_cancel]
theorem wstep_none {s : Nat × Nat × Nat} {c : Nat} (h1 : ¬ (97 ≤ c ∧ c < 105)) (h2 : s.1 < 4 → 0 < s.2.1 → c = (if s.1 = 3 then 59 else 44) → False) : wstep s c = none := by
  unfold wstep
  rw [if_neg h1, if_neg (fun h => h2 h.1 h.2.1 h.2.2)]
theorem wstep_sep {s : Nat × Nat × Nat} {c : Nat} (h1 : ¬ (97 ≤ c ∧ c < 105)) (h2 : s.1 < 4) (h3 : 0 < s.2.1) (h4 : c = (if s.1 = 3 then 59 else 44)) : wstep s c = some (s.1 + 1, 0, 0) := by
  unfold wstep
  rw [if_neg h1, if_pos ⟨h2, h3, h4⟩]
set_option maxRecDepth 20000 in
theorem c_passes {σ : aH} {w : Nat} {s : Nat × Nat × Nat} (h1 : σ[w]? = some (wO s)) (ho : wok s) {c : Nat} (hc : c < 1000) : MX9_passes 1 0 0 [.ref w, .int (nI c)] σ (fun r σ' => (∃ s', wstep s c = some s' ∧ r = some (.int (nI 1)) ∧ σ' = σ.set w (wO s')) ∨ (wstep s c = none ∧ r = some (.int (nI 0)) ∧ σ' = σ)) := by
  refine sX9_passes (Nat.le_of_ble_eq_true rfl) ?_
  have ho' := ho
  obtain ⟨ho1, ho2, ho3⟩ := ho'
  refine g_iload eX9_passes_0 rfl ?_
  refine g_push eX9_passes_1 ?_
  refine g_isub eX9_passes_3 ?_
  refine g_istore eX9_passes_4 rfl ?_
  refine g_iload eX9_passes_5 rfl ?_
  refine g_callSn0 eX9_passes_6 kX9_15 (c_isWord) (by rfl) (by rfl) (by exact Nat.le_of_ble_eq_true rfl) (by exact Nat.le_of_ble_eq_true rfl) (by exact Nat.le_of_ble_eq_true rfl) (Nat.le_refl _) (Nat.le_refl _) (fun v6 σ6 hp6 hn6 => ?_)
  obtain ⟨h6, rfl⟩ := hp6
  rcases h6 with ⟨j, hj, e6, rfl⟩ | ⟨h6, rfl⟩
  · refine g_if_eqN eX9_passes_9 (by omega) (fun c9 => absurd c9 (by decide)) (fun c9 => ?_)
    refine g_aload eX9_passes_12 rfl ?_
    refine g_iload eX9_passes_13 rfl ?_
    rw [e6]
    refine g_callV0 (r := (RX9, TX9, 3)) eX9_passes_14 kX9_19 (by assumption) (by rfl) (c_passesWord h1 ho hj) (by rfl) (by rfl) (by exact Nat.le_of_ble_eq_true rfl) (by exact Nat.le_of_ble_eq_true rfl) (by exact Nat.le_of_ble_eq_true rfl) (Nat.le_refl _) (Nat.le_refl _) (fun v14 σ14 hp14 hn14 => ?_)
    obtain rfl := (c97 hc hj).mp e6
    rcases hp14 with ⟨q1, rfl, rfl⟩ | ⟨q1, rfl, rfl⟩
    · exact g_ret (eX9_passes_17 _ (Or.inr rfl)) (Nat.le_refl _) (Nat.le_refl _) (Or.inl ⟨_, by unfold wstep; rw [if_pos (by omega), Nat.add_sub_cancel, if_pos q1], rfl, rfl⟩)
    · exact g_ret (eX9_passes_17 _ (Or.inl rfl)) (Nat.le_refl _) (Nat.le_refl _) (Or.inr ⟨by unfold wstep; rw [if_pos (by omega), Nat.add_sub_cancel, if_neg (fun h => by rw [q1] at h; cases h)], rfl, rfl⟩)
  · refine g_if_eqN eX9_passes_9 (by omega) (fun c9 => ?_) (fun c9 => absurd rfl c9)
    have hno : ¬ (97 ≤ c ∧ c < 105) := fun h => h6 (c - 97) (by omega) ((c97 hc (by omega)).mpr (by omega))
    refine g_aload eX9_passes_18 rfl ?_
    refine g_get eX9_passes_19 fX9_22_X9 (by assumption) (by rfl) ?_
    refine g_push eX9_passes_22 ?_
    refine g_icmp_geN eX9_passes_23 (by omega) (by omega) (fun c23 => ?_) (fun c23 => ?_)
    · refine g_push eX9_passes_33 ?_
      exact g_ret (eX9_passes_34 _ (Or.inl rfl)) (Nat.le_refl _) (Nat.le_refl _) (Or.inr ⟨wstep_none (fun h => by omega) (fun h1 h2 h3 => by first | omega | (rw [if_pos (by omega)] at h3; omega) | (rw [if_neg (by omega)] at h3; omega)), rfl, rfl⟩)
    · refine g_aload eX9_passes_26 rfl ?_
      refine g_get eX9_passes_27 fX9_26_X9 (by assumption) (by rfl) ?_
      refine g_if_neN eX9_passes_30 (by omega) (fun c30 => ?_) (fun c30 => ?_)
      · refine g_iload eX9_passes_35 rfl ?_
        refine g_aload eX9_passes_36 rfl ?_
        refine g_get eX9_passes_37 fX9_22_X9 (by assumption) (by rfl) ?_
        refine g_push eX9_passes_40 ?_
        refine g_icmp_neN eX9_passes_41 (by omega) (by omega) (fun c41 => ?_) (fun c41 => ?_)
        · refine g_push eX9_passes_49 ?_
          refine g_icmp_eqN eX9_passes_51 (by omega) (by omega) (fun c51 => ?_) (fun c51 => ?_)
          · refine g_aload eX9_passes_56 rfl ?_
            refine g_aload eX9_passes_57 rfl ?_
            refine g_get eX9_passes_58 fX9_22_X9 (by assumption) (by rfl) ?_
            refine g_push eX9_passes_61 ?_
            refine g_iaddN eX9_passes_62 ?_
            refine g_callV0 (r := (RX9, TX9, 3)) eX9_passes_63 kX9_9 (by assumption) (by rfl) (c_enter h1) (by rfl) (by rfl) (by exact Nat.le_of_ble_eq_true rfl) (by exact Nat.le_of_ble_eq_true rfl) (by exact Nat.le_of_ble_eq_true rfl) (Nat.le_refl _) (Nat.le_refl _) (fun v63 σ63 hp63 hn63 => ?_)
            obtain ⟨rfl, rfl⟩ := hp63
            refine g_push eX9_passes_66 ?_
            exact g_ret (eX9_passes_67 _ (Or.inr rfl)) (Nat.le_refl _) (Nat.le_refl _) (Or.inl ⟨_, wstep_sep (fun h => by omega) (by omega) (by omega) (by first | (rw [if_pos (by omega)]; omega) | (rw [if_neg (by omega)]; omega)), rfl, rfl⟩)
          · refine g_push eX9_passes_54 ?_
            exact g_ret (eX9_passes_55 _ (Or.inl rfl)) (Nat.le_refl _) (Nat.le_refl _) (Or.inr ⟨wstep_none (fun h => by omega) (fun h1 h2 h3 => by first | omega | (rw [if_pos (by omega)] at h3; omega) | (rw [if_neg (by omega)] at h3; omega)), rfl, rfl⟩)
        · refine g_push eX9_passes_44 ?_
          refine g_goto eX9_passes_46 ?_
          refine g_icmp_eqN eX9_passes_51 (by omega) (by omega) (fun c51 => ?_) (fun c51 => ?_)
          · refine g_aload eX9_passes_56 rfl ?_
            refine g_aload eX9_passes_57 rfl ?_
            refine g_get eX9_passes_58 fX9_22_X9 (by assumption) (by rfl) ?_
            refine g_push eX9_passes_61 ?_
            refine g_iaddN eX9_passes_62 ?_
            refine g_callV0 (r := (RX9, TX9, 3)) eX9_passes_63 kX9_9 (by assumption) (by rfl) (c_enter h1) (by rfl) (by rfl) (by exact Nat.le_of_ble_eq_true rfl) (by exact Nat.le_of_ble_eq_true rfl) (by exact Nat.le_of_ble_eq_true rfl) (Nat.le_refl _) (Nat.le_refl _) (fun v63 σ63 hp63 hn63 => ?_)
            obtain ⟨rfl, rfl⟩ := hp63
            refine g_push eX9_passes_66 ?_
            exact g_ret (eX9_passes_67 _ (Or.inr rfl)) (Nat.le_refl _) (Nat.le_refl _) (Or.inl ⟨_, wstep_sep (fun h => by omega) (by omega) (by omega) (by first | (rw [if_pos (by omega)]; omega) | (rw [if_neg (by omega)]; omega)), rfl, rfl⟩)
          · refine g_push eX9_passes_54 ?_
            exact g_ret (eX9_passes_55 _ (Or.inl rfl)) (Nat.le_refl _) (Nat.le_refl _) (Or.inr ⟨wstep_none (fun h => by omega) (fun h1 h2 h3 => by first | omega | (rw [if_pos (by omega)] at h3; omega) | (rw [if_neg (by omega)] at h3; omega)), rfl, rfl⟩)
      · refine g_push eX9_passes_33 ?_
        exact g_ret (eX9_passes_34 _ (Or.inl rfl)) (Nat.le_refl _) (Nat.le_refl _) (Or.inr ⟨wstep_none (fun h => by omega) (fun h1 h2 h3 => by first | omega | (rw [if_pos (by omega)] at h3; omega) | (rw [if_neg (by omega)] at h3; omega)), rfl, rfl⟩)
set_option maxRecDepth 20000 in
theorem c_psize {σ : aH} {a b w n : Nat} (h1 : σ[a]? = some (aO 5 [.ref b, .ref w, .int (nI n)])) : MX5_size 0 0 0 [.ref a] σ (aPu (some (.int (nI n))) σ) := by
  refine sX5_size (Nat.le_of_ble_eq_true rfl) ?_
  refine g_aload eX5_size_0 rfl ?_
  refine g_get eX5_size_1 fX5_22_X5 (by assumption) (by rfl) ?_
  exact g_ret (eX5_size_4 _) (Nat.le_refl _) (Nat.le_refl _) ⟨rfl, rfl⟩
set_option maxRecDepth 20000 in
theorem c_pclear {σ : aH} {a b w : Nat} {z : Int32} (h1 : σ[a]? = some (aO 5 [.ref b, .ref w, .int z])) : MX5_clear 0 0 0 [.ref a] σ (aPu none (σ.set a (aO 5 [.ref b, .ref w, .int (nI 0)]))) := by
  refine sX5_clear (Nat.le_of_ble_eq_true rfl) ?_
  refine g_aload eX5_clear_0 rfl ?_
  refine g_push eX5_clear_1 ?_
  refine g_putI eX5_clear_2 fX5_22_X5 pX5_2 (by assumption) (by exact Nat.le_of_ble_eq_true rfl) ?_
  exact g_ret eX5_clear_5 (Nat.le_refl _) (Nat.le_refl _) ⟨rfl, rfl⟩
set_option maxRecDepth 20000 in
theorem c_codeAt {σ : aH} {a b w n : Nat} {cd : List Nat} (h1 : σ[a]? = some (aO 5 [.ref b, .ref w, .int (nI n)])) (h2 : σ[b]? = some (aA cd)) (hl : cd.length = 28) (hn : n ≤ 28) {k : Nat} (hk : k < n) : MX5_codeAt 0 0 0 [.ref a, .int (nI k)] σ (aPu (some (.int (nI (cd.getD k 0)))) σ) := by
  refine sX5_codeAt (Nat.le_of_ble_eq_true rfl) ?_
  refine g_iload eX5_codeAt_0 rfl ?_
  refine g_if_ltN eX5_codeAt_1 (by omega) ?_
  refine g_iload eX5_codeAt_4 rfl ?_
  refine g_aload eX5_codeAt_5 rfl ?_
  refine g_get eX5_codeAt_6 fX5_22_X5 (by assumption) (by rfl) ?_
  refine g_icmp_geN eX5_codeAt_9 (by omega) (by omega) (fun c9 => by exfalso; omega) (fun c9 => ?_)
  refine g_aload eX5_codeAt_12 rfl ?_
  refine g_get eX5_codeAt_13 fX5_9_X5 (by assumption) (by rfl) ?_
  refine g_iload eX5_codeAt_16 rfl ?_
  refine g_ialdN eX5_codeAt_17 (by assumption) (by omega) (by omega) ?_
  refine g_goto eX5_codeAt_18 ?_
  exact g_ret (eX5_codeAt_22 _) (Nat.le_refl _) (Nat.le_refl _) ⟨rfl, rfl⟩
set_option maxRecDepth 20000 in
theorem c_padd {σ : aH} {a b w n : Nat} {cd : List Nat} (h1 : σ[a]? = some (aO 5 [.ref b, .ref w, .int (nI n)])) (h2 : σ[b]? = some (aA cd)) (hl : cd.length = 28) (hn : n ≤ 28) (hab : b ≠ a) {c : Nat} : MX5_add 0 0 0 [.ref a, .int (nI c)] σ (fun v σ' => (n < 28 ∧ v = some (.int (nI 1)) ∧ σ' = (σ.set b (aA (cd.set n c))).set a (aO 5 [.ref b, .ref w, .int (nI (n + 1))])) ∨ (n = 28 ∧ v = some (.int (nI 0)) ∧ σ' = σ)) := by
  refine sX5_add (Nat.le_of_ble_eq_true rfl) ?_
  refine g_aload eX5_add_0 rfl ?_
  refine g_get eX5_add_1 fX5_22_X5 (by assumption) (by rfl) ?_
  refine g_aload eX5_add_4 rfl ?_
  refine g_get eX5_add_5 fX5_9_X5 (by assumption) (by rfl) ?_
  refine g_ilenN eX5_add_8 (by assumption) ?_
  refine g_icmp_ltN eX5_add_9 (by omega) (by omega) (fun c9 => ?_) (fun c9 => ?_)
  · refine g_aload eX5_add_14 rfl ?_
    refine g_get eX5_add_15 fX5_9_X5 (by assumption) (by rfl) ?_
    refine g_aload eX5_add_18 rfl ?_
    refine g_get eX5_add_19 fX5_22_X5 (by assumption) (by rfl) ?_
    refine g_iload eX5_add_22 rfl ?_
    refine g_iastN eX5_add_23 (by assumption) (by omega) (by omega) ?_
    refine g_aload eX5_add_24 rfl ?_
    refine g_dup eX5_add_25 rfl ?_
    refine g_get eX5_add_26 fX5_22_X5 (at_ne hab h1) (by rfl) ?_
    refine g_push eX5_add_29 ?_
    refine g_iaddN eX5_add_30 ?_
    refine g_putI eX5_add_31 fX5_22_X5 pX5_2 (at_ne hab h1) (by exact Nat.le_of_ble_eq_true rfl) ?_
    refine g_push eX5_add_34 ?_
    exact g_ret (eX5_add_35 _ (Or.inr rfl)) (Nat.le_refl _) (Nat.le_refl _) (Or.inl ⟨by omega, rfl, rfl⟩)
  · refine g_push eX5_add_12 ?_
    exact g_ret (eX5_add_13 _ (Or.inl rfl)) (Nat.le_refl _) (Nat.le_refl _) (Or.inr ⟨by omega, rfl, rfl⟩)
set_option maxRecDepth 20000 in
theorem c_faultPlace {σ : aH} {a b w n : Nat} {cd : List Nat} (h1 : σ[a]? = some (aO 5 [.ref b, .ref w, .int (nI n)])) (h2 : σ[b]? = some (aA cd)) (hl : cd.length = 28) (hn : n ≤ 28) {x0 x1 x2 : Int32} (h3 : σ[w]? = some (aO 9 [.int x0, .int x1, .int x2])) (n1 : w ≠ a) (n2 : w ≠ b) (hc : ∀ k, cd.getD k 0 < 1000) : MX5_faultPlace 2 0 0 [.ref a] σ (aPu (some (.int (nI (wfa (shW cd) n 0 (0, 0, 0)).1))) (σ.set w (wO (wfa (shW cd) n 0 (0, 0, 0)).2))) := by
  refine sX5_faultPlace (Nat.le_of_ble_eq_true rfl) ?_
  have key : ∀ d i s, i + d = n → wok s → wfa (shW cd) d i s = wfa (shW cd) n 0 (0, 0, 0) → GX5_faultPlace 2 0 0 (aPu (some (.int (nI (wfa (shW cd) n 0 (0, 0, 0)).1))) (σ.set w (wO (wfa (shW cd) n 0 (0, 0, 0)).2))) 0 0 9 [some (.ref a), some (.int (nI i))] [] (σ.set w (wO s)) := by
    intro d
    induction d with
    | zero =>
      intro i s hi hs he
      obtain rfl : i = n := by omega
      rw [← he]
      refine g_iload eX5_faultPlace_9 rfl ?_
      refine g_aload eX5_faultPlace_10 rfl ?_
      refine g_get eX5_faultPlace_11 fX5_22_X5 (at_ne n1 h1) (by rfl) ?_
      refine g_icmp_geN eX5_faultPlace_14 (by omega) (by omega) (fun c14 => ?_) (fun c14 => by exfalso; omega)
      refine g_iload eX5_faultPlace_39 rfl ?_
      exact g_ret (eX5_faultPlace_40 _) (Nat.le_refl _) (Nat.le_refl _) ⟨rfl, rfl⟩
    | succ d ih =>
      intro i s hi hs he
      refine g_iload eX5_faultPlace_9 rfl ?_
      refine g_aload eX5_faultPlace_10 rfl ?_
      refine g_get eX5_faultPlace_11 fX5_22_X5 (at_ne n1 h1) (by rfl) ?_
      refine g_icmp_geN eX5_faultPlace_14 (by omega) (by omega) (fun c14 => by exfalso; omega) (fun c14 => ?_)
      refine g_aload eX5_faultPlace_17 rfl ?_
      refine g_get eX5_faultPlace_18 fX5_18_X5 (at_ne n1 h1) (by rfl) ?_
      refine g_aload eX5_faultPlace_21 rfl ?_
      refine g_get eX5_faultPlace_22 fX5_9_X5 (at_ne n1 h1) (by rfl) ?_
      refine g_iload eX5_faultPlace_25 rfl ?_
      refine g_ialdN eX5_faultPlace_26 (at_ne n2 h2) (by omega) (by omega) ?_
      refine g_callV0 (r := (RX9, TX9, 3)) eX5_faultPlace_27 kX5_29 (at_eq h3) (by rfl) (c_passes (s := s) (at_eq h3) hs (hc i)) (by rfl) (by rfl) (by exact Nat.le_of_ble_eq_true rfl) (by exact Nat.le_of_ble_eq_true rfl) (by exact Nat.le_of_ble_eq_true rfl) (Nat.le_refl _) (Nat.le_refl _) (fun v27 σ27 hp27 hn27 => ?_)
      rcases hp27 with ⟨s2, e2, rfl, rfl⟩ | ⟨e2, rfl, rfl⟩
      · refine g_if_eqN eX5_faultPlace_30 (by omega) (fun c30 => absurd c30 (by decide)) (fun c30 => ?_)
        refine g_iincN eX5_faultPlace_33 rfl rfl ?_
        refine g_goto eX5_faultPlace_36 ?_
        rw [List.set_set]
        exact ih (i + 1) s2 (by omega) (wstep_ok hs e2) ((wfa_some (pg := shW cd) e2).symm.trans he)
      · refine g_if_eqN eX5_faultPlace_30 (by omega) (fun c30 => ?_) (fun c30 => absurd rfl c30)
        refine g_iload eX5_faultPlace_39 rfl ?_
        exact g_ret (eX5_faultPlace_40 _) (Nat.le_refl _) (Nat.le_refl _) (by rw [← he, wfa_none (pg := shW cd) e2]; exact ⟨rfl, rfl⟩)
  refine g_aload eX5_faultPlace_0 rfl ?_
  refine g_get eX5_faultPlace_1 fX5_18_X5 h1 (by rfl) ?_
  refine g_callV0 (r := (RX9, TX9, 3)) eX5_faultPlace_4 kX5_26 h3 (by rfl) (c_begin h3) (by rfl) (by rfl) (by exact Nat.le_of_ble_eq_true rfl) (by exact Nat.le_of_ble_eq_true rfl) (by exact Nat.le_of_ble_eq_true rfl) (Nat.le_refl _) (Nat.le_refl _) (fun v4 σ4 hp4 hn4 => ?_)
  obtain ⟨rfl, rfl⟩ := hp4
  refine g_push eX5_faultPlace_7 ?_
  refine g_istore eX5_faultPlace_8 rfl ?_
  exact key n 0 (0, 0, 0) (by omega) ⟨by decide, by decide, by decide⟩ rfl
theorem crt_t {A B : Prop} [d : Decidable B] (a : A) (c : ¬ (decide B).toNat = 0) : A ∧ B := ⟨a, Classical.byContradiction fun h => c (by rw [decide_eq_false h]; rfl)⟩
theorem crt_f {A B : Prop} [d : Decidable B] (c : (decide B).toNat = 0) : ¬ (A ∧ B) := fun h => by rw [decide_eq_true h.2] at c; cases c
set_option maxRecDepth 20000 in
theorem c_isCourt {σ : aH} {a b w n : Nat} {cd : List Nat} (h1 : σ[a]? = some (aO 5 [.ref b, .ref w, .int (nI n)])) (h2 : σ[b]? = some (aA cd)) (hl : cd.length = 28) (hn : n ≤ 28) {x0 x1 x2 : Int32} (h3 : σ[w]? = some (aO 9 [.int x0, .int x1, .int x2])) (n1 : w ≠ a) (n2 : w ≠ b) (hc : ∀ k, cd.getD k 0 < 1000) : MX5_isCourt 3 0 0 [.ref a] σ (aPu (some (.int (nI (wcourt (shW cd) n).toNat))) (σ.set w (wO (wfa (shW cd) n 0 (0, 0, 0)).2))) := by
  refine sX5_isCourt (Nat.le_of_ble_eq_true rfl) ?_
  have hok := wfa_ok (shW cd) n 0 (0, 0, 0) ⟨by decide, by decide, by decide⟩
  refine g_aload eX5_isCourt_0 rfl ?_
  refine g_callV0 (r := (RX5, TX5, 3)) eX5_isCourt_1 kX5_33 h1 (by rfl) (c_faultPlace h1 h2 hl hn h3 n1 n2 hc) (by rfl) (by rfl) (by exact Nat.le_of_ble_eq_true rfl) (by exact Nat.le_of_ble_eq_true rfl) (by exact Nat.le_of_ble_eq_true rfl) (Nat.le_refl _) (Nat.le_refl _) (fun v1 σ1 hp1 hn1 => ?_)
  obtain ⟨rfl, rfl⟩ := hp1
  refine g_aload eX5_isCourt_4 rfl ?_
  refine g_get eX5_isCourt_5 fX5_22_X5 (at_ne n1 h1) (by rfl) ?_
  refine g_icmp_neN eX5_isCourt_8 (by omega) (by omega) (fun c8 => ?_) (fun c8 => ?_)
  · refine g_push eX5_isCourt_25 ?_
    exact g_ret (eX5_isCourt_26 _ (by first | exact Or.inl rfl | exact Or.inr rfl)) (Nat.le_refl _) (Nat.le_refl _) (by unfold wcourt; first | (rw [decide_eq_true (crt_t c8 c18)]; exact ⟨rfl, rfl⟩) | (rw [decide_eq_false (crt_f c18)]; exact ⟨rfl, rfl⟩) | (rw [decide_eq_false (fun h => c8 h.1)]; exact ⟨rfl, rfl⟩))
  · refine g_aload eX5_isCourt_11 rfl ?_
    refine g_get eX5_isCourt_12 fX5_18_X5 (at_ne n1 h1) (by rfl) ?_
    refine g_callV0 (r := (RX9, TX9, 3)) eX5_isCourt_15 kX5_37 (at_eq h3) (by rfl) (c_isWhole (s := (wfa (shW cd) n 0 (0, 0, 0)).2) (at_eq h3) hok.1) (by rfl) (by rfl) (by exact Nat.le_of_ble_eq_true rfl) (by exact Nat.le_of_ble_eq_true rfl) (by exact Nat.le_of_ble_eq_true rfl) (Nat.le_refl _) (Nat.le_refl _) (fun v15 σ15 hp15 hn15 => ?_)
    obtain ⟨rfl, rfl⟩ := hp15
    refine g_if_eqN eX5_isCourt_18 (by have := Bool.toNat_le (decide ((wfa (shW cd) n 0 (0, 0, 0)).2.1 = 4 ∧ 0 < (wfa (shW cd) n 0 (0, 0, 0)).2.2.1)); omega) (fun c18 => ?_) (fun c18 => ?_)
    · refine g_push eX5_isCourt_25 ?_
      exact g_ret (eX5_isCourt_26 _ (by first | exact Or.inl rfl | exact Or.inr rfl)) (Nat.le_refl _) (Nat.le_refl _) (by unfold wcourt; first | (rw [decide_eq_true (crt_t c8 c18)]; exact ⟨rfl, rfl⟩) | (rw [decide_eq_false (crt_f c18)]; exact ⟨rfl, rfl⟩) | (rw [decide_eq_false (fun h => c8 h.1)]; exact ⟨rfl, rfl⟩))
    · refine g_push eX5_isCourt_21 ?_
      refine g_goto eX5_isCourt_22 ?_
      exact g_ret (eX5_isCourt_26 _ (by first | exact Or.inl rfl | exact Or.inr rfl)) (Nat.le_refl _) (Nat.le_refl _) (by unfold wcourt; first | (rw [decide_eq_true (crt_t c8 c18)]; exact ⟨rfl, rfl⟩) | (rw [decide_eq_false (crt_f c18)]; exact ⟨rfl, rfl⟩) | (rw [decide_eq_false (fun h => c8 h.1)]; exact ⟨rfl, rfl⟩))
end
