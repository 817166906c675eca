section
-- ===== PART A: goes FIRST, ahead of the names: the tables' words, and 'selects' of the private methods out of them =====
/-- a private method of a class that the tables say can be made, by its rows of tables_1 -/
def lw_okq (q : MethodName × Nat) : Prop := (q.1.cls ≠ "java/lang/invoke/MethodHandle" ∧ q.1.cls ≠ "java/lang/invoke/VarHandle") ∧ Cond.instantiable q.1.cls q.2 ∈ tables_1 ∧ Cond.privateMethod q.1 ∈ tables_1 ∧ Cond.instanceMethod q.1 ∈ tables_1
theorem lw_p0 : lw_okq (⟨"FieldLeaves", "tell", "(LFieldLeaves$Thing;LFieldLeaves$LeafList;)Z"⟩, 9) := ⟨⟨by decide +kernel, by decide +kernel⟩, List.mem_of_getElem? (i := 6) (by decide +kernel), List.mem_of_getElem? (i := 258) (by decide +kernel), List.mem_of_getElem? (i := 259) (by decide +kernel)⟩
theorem lw_p1 : lw_okq (⟨"FieldLeaves", "findFrom", "(LFieldLeaves$Thing;)Z"⟩, 9) := ⟨⟨by decide +kernel, by decide +kernel⟩, List.mem_of_getElem? (i := 6) (by decide +kernel), List.mem_of_getElem? (i := 262) (by decide +kernel), List.mem_of_getElem? (i := 263) (by decide +kernel)⟩
theorem lw_p2 : lw_okq (⟨"FieldLeaves", "addFound", "(LFieldLeaves$Thing;)Z"⟩, 9) := ⟨⟨by decide +kernel, by decide +kernel⟩, List.mem_of_getElem? (i := 6) (by decide +kernel), List.mem_of_getElem? (i := 266) (by decide +kernel), List.mem_of_getElem? (i := 267) (by decide +kernel)⟩
theorem lw_p3 : lw_okq (⟨"FieldLeaves", "numberOf", "(LFieldLeaves$Thing;)I"⟩, 9) := ⟨⟨by decide +kernel, by decide +kernel⟩, List.mem_of_getElem? (i := 6) (by decide +kernel), List.mem_of_getElem? (i := 270) (by decide +kernel), List.mem_of_getElem? (i := 271) (by decide +kernel)⟩
theorem lw_p4 : lw_okq (⟨"FieldLeaves", "tellObject", "(ILFieldLeaves$LeafList;)Z"⟩, 9) := ⟨⟨by decide +kernel, by decide +kernel⟩, List.mem_of_getElem? (i := 6) (by decide +kernel), List.mem_of_getElem? (i := 274) (by decide +kernel), List.mem_of_getElem? (i := 275) (by decide +kernel)⟩
theorem lw_p5 : lw_okq (⟨"FieldLeaves", "tellField", "(IILFieldLeaves$LeafList;)Z"⟩, 9) := ⟨⟨by decide +kernel, by decide +kernel⟩, List.mem_of_getElem? (i := 6) (by decide +kernel), List.mem_of_getElem? (i := 282) (by decide +kernel), List.mem_of_getElem? (i := 283) (by decide +kernel)⟩
theorem lw_p6 : lw_okq (⟨"FieldLeaves", "makeFromLeaves", "()I"⟩, 9) := ⟨⟨by decide +kernel, by decide +kernel⟩, List.mem_of_getElem? (i := 6) (by decide +kernel), List.mem_of_getElem? (i := 305) (by decide +kernel), List.mem_of_getElem? (i := 306) (by decide +kernel)⟩
theorem lw_p7 : lw_okq (⟨"FieldLeaves", "fillFromLeaves", "()I"⟩, 9) := ⟨⟨by decide +kernel, by decide +kernel⟩, List.mem_of_getElem? (i := 6) (by decide +kernel), List.mem_of_getElem? (i := 315) (by decide +kernel), List.mem_of_getElem? (i := 316) (by decide +kernel)⟩
theorem lw_p8 : lw_okq (⟨"FieldLeaves", "madeAs", "(J)LFieldLeaves$Thing;"⟩, 9) := ⟨⟨by decide +kernel, by decide +kernel⟩, List.mem_of_getElem? (i := 6) (by decide +kernel), List.mem_of_getElem? (i := 319) (by decide +kernel), List.mem_of_getElem? (i := 320) (by decide +kernel)⟩
theorem lw_p9 : lw_okq (⟨"FieldLeaves", "fillField", "(LFieldLeaves$Thing;IJ)I"⟩, 9) := ⟨⟨by decide +kernel, by decide +kernel⟩, List.mem_of_getElem? (i := 6) (by decide +kernel), List.mem_of_getElem? (i := 323) (by decide +kernel), List.mem_of_getElem? (i := 324) (by decide +kernel)⟩
theorem lw_p10 : lw_okq (⟨"FieldLeaves", "fillLink", "(LFieldLeaves$Thing;IJ)I"⟩, 9) := ⟨⟨by decide +kernel, by decide +kernel⟩, List.mem_of_getElem? (i := 6) (by decide +kernel), List.mem_of_getElem? (i := 327) (by decide +kernel), List.mem_of_getElem? (i := 328) (by decide +kernel)⟩
theorem lw_p11 : lw_okq (⟨"FieldLeavesModel", "lookWhatIsHeld", "()V"⟩, 23) := ⟨⟨by decide +kernel, by decide +kernel⟩, List.mem_of_getElem? (i := 353) (by decide +kernel), List.mem_of_getElem? (i := 445) (by decide +kernel), List.mem_of_getElem? (i := 446) (by decide +kernel)⟩
theorem lw_p12 : lw_okq (⟨"FieldLeavesModel", "born", "(II)I"⟩, 23) := ⟨⟨by decide +kernel, by decide +kernel⟩, List.mem_of_getElem? (i := 353) (by decide +kernel), List.mem_of_getElem? (i := 455) (by decide +kernel), List.mem_of_getElem? (i := 456) (by decide +kernel)⟩
theorem lw_p13 : lw_okq (⟨"FieldLeavesModel", "isOther", "(II)Z"⟩, 23) := ⟨⟨by decide +kernel, by decide +kernel⟩, List.mem_of_getElem? (i := 353) (by decide +kernel), List.mem_of_getElem? (i := 495) (by decide +kernel), List.mem_of_getElem? (i := 496) (by decide +kernel)⟩
theorem lw_p14 : lw_okq (⟨"FieldLeavesModel", "rowless", "(I)I"⟩, 23) := ⟨⟨by decide +kernel, by decide +kernel⟩, List.mem_of_getElem? (i := 353) (by decide +kernel), List.mem_of_getElem? (i := 533) (by decide +kernel), List.mem_of_getElem? (i := 534) (by decide +kernel)⟩
theorem lw_p15 : lw_okq (⟨"FieldLeavesModel", "nameOf", "(I)I"⟩, 23) := ⟨⟨by decide +kernel, by decide +kernel⟩, List.mem_of_getElem? (i := 353) (by decide +kernel), List.mem_of_getElem? (i := 550) (by decide +kernel), List.mem_of_getElem? (i := 551) (by decide +kernel)⟩
def lw_privs_1 : List (MethodName × Nat) := [(⟨"FieldLeaves", "tell", "(LFieldLeaves$Thing;LFieldLeaves$LeafList;)Z"⟩, 9), (⟨"FieldLeaves", "findFrom", "(LFieldLeaves$Thing;)Z"⟩, 9), (⟨"FieldLeaves", "addFound", "(LFieldLeaves$Thing;)Z"⟩, 9), (⟨"FieldLeaves", "numberOf", "(LFieldLeaves$Thing;)I"⟩, 9), (⟨"FieldLeaves", "tellObject", "(ILFieldLeaves$LeafList;)Z"⟩, 9), (⟨"FieldLeaves", "tellField", "(IILFieldLeaves$LeafList;)Z"⟩, 9), (⟨"FieldLeaves", "makeFromLeaves", "()I"⟩, 9), (⟨"FieldLeaves", "fillFromLeaves", "()I"⟩, 9), (⟨"FieldLeaves", "madeAs", "(J)LFieldLeaves$Thing;"⟩, 9), (⟨"FieldLeaves", "fillField", "(LFieldLeaves$Thing;IJ)I"⟩, 9), (⟨"FieldLeaves", "fillLink", "(LFieldLeaves$Thing;IJ)I"⟩, 9), (⟨"FieldLeavesModel", "lookWhatIsHeld", "()V"⟩, 23), (⟨"FieldLeavesModel", "born", "(II)I"⟩, 23), (⟨"FieldLeavesModel", "isOther", "(II)Z"⟩, 23), (⟨"FieldLeavesModel", "rowless", "(I)I"⟩, 23), (⟨"FieldLeavesModel", "nameOf", "(I)I"⟩, 23)]
theorem lw_r1 : ∀ q ∈ lw_privs_1, lw_okq q := List.forall_mem_cons.mpr ⟨lw_p0, List.forall_mem_cons.mpr ⟨lw_p1, List.forall_mem_cons.mpr ⟨lw_p2, List.forall_mem_cons.mpr ⟨lw_p3, List.forall_mem_cons.mpr ⟨lw_p4, List.forall_mem_cons.mpr ⟨lw_p5, List.forall_mem_cons.mpr ⟨lw_p6, List.forall_mem_cons.mpr ⟨lw_p7, List.forall_mem_cons.mpr ⟨lw_p8, List.forall_mem_cons.mpr ⟨lw_p9, List.forall_mem_cons.mpr ⟨lw_p10, List.forall_mem_cons.mpr ⟨lw_p11, List.forall_mem_cons.mpr ⟨lw_p12, List.forall_mem_cons.mpr ⟨lw_p13, List.forall_mem_cons.mpr ⟨lw_p14, List.forall_mem_cons.mpr ⟨lw_p15, fun _ h => absurd h List.not_mem_nil⟩⟩⟩⟩⟩⟩⟩⟩⟩⟩⟩⟩⟩⟩⟩⟩
theorem lw_p16 : lw_okq (⟨"FieldLeavesModel", "depthOf", "(I)I"⟩, 23) := ⟨⟨by decide +kernel, by decide +kernel⟩, List.mem_of_getElem? (i := 353) (by decide +kernel), List.mem_of_getElem? (i := 554) (by decide +kernel), List.mem_of_getElem? (i := 555) (by decide +kernel)⟩
theorem lw_p17 : lw_okq (⟨"FieldLeavesModel", "kindOf", "(I)I"⟩, 23) := ⟨⟨by decide +kernel, by decide +kernel⟩, List.mem_of_getElem? (i := 353) (by decide +kernel), List.mem_of_getElem? (i := 558) (by decide +kernel), List.mem_of_getElem? (i := 559) (by decide +kernel)⟩
theorem lw_p18 : lw_okq (⟨"FieldLeavesModel", "find", "(I)Z"⟩, 23) := ⟨⟨by decide +kernel, by decide +kernel⟩, List.mem_of_getElem? (i := 353) (by decide +kernel), List.mem_of_getElem? (i := 579) (by decide +kernel), List.mem_of_getElem? (i := 580) (by decide +kernel)⟩
theorem lw_p19 : lw_okq (⟨"FieldLeavesModel", "numberOf", "(I)I"⟩, 23) := ⟨⟨by decide +kernel, by decide +kernel⟩, List.mem_of_getElem? (i := 353) (by decide +kernel), List.mem_of_getElem? (i := 583) (by decide +kernel), List.mem_of_getElem? (i := 584) (by decide +kernel)⟩
theorem lw_p20 : lw_okq (⟨"FieldLeavesModel", "tellObject", "(II)V"⟩, 23) := ⟨⟨by decide +kernel, by decide +kernel⟩, List.mem_of_getElem? (i := 353) (by decide +kernel), List.mem_of_getElem? (i := 587) (by decide +kernel), List.mem_of_getElem? (i := 588) (by decide +kernel)⟩
theorem lw_p21 : lw_okq (⟨"FieldLeavesModel", "tell", "(IIJ)V"⟩, 23) := ⟨⟨by decide +kernel, by decide +kernel⟩, List.mem_of_getElem? (i := 353) (by decide +kernel), List.mem_of_getElem? (i := 591) (by decide +kernel), List.mem_of_getElem? (i := 592) (by decide +kernel)⟩
theorem lw_p22 : lw_okq (⟨"FieldLeavesModel", "told", "(II)J"⟩, 23) := ⟨⟨by decide +kernel, by decide +kernel⟩, List.mem_of_getElem? (i := 353) (by decide +kernel), List.mem_of_getElem? (i := 607) (by decide +kernel), List.mem_of_getElem? (i := 608) (by decide +kernel)⟩
theorem lw_p23 : lw_okq (⟨"FieldLeavesModel", "isChanged", "(III)Z"⟩, 23) := ⟨⟨by decide +kernel, by decide +kernel⟩, List.mem_of_getElem? (i := 353) (by decide +kernel), List.mem_of_getElem? (i := 619) (by decide +kernel), List.mem_of_getElem? (i := 620) (by decide +kernel)⟩
def lw_privs_2 : List (MethodName × Nat) := [(⟨"FieldLeavesModel", "depthOf", "(I)I"⟩, 23), (⟨"FieldLeavesModel", "kindOf", "(I)I"⟩, 23), (⟨"FieldLeavesModel", "find", "(I)Z"⟩, 23), (⟨"FieldLeavesModel", "numberOf", "(I)I"⟩, 23), (⟨"FieldLeavesModel", "tellObject", "(II)V"⟩, 23), (⟨"FieldLeavesModel", "tell", "(IIJ)V"⟩, 23), (⟨"FieldLeavesModel", "told", "(II)J"⟩, 23), (⟨"FieldLeavesModel", "isChanged", "(III)Z"⟩, 23)]
theorem lw_r2 : ∀ q ∈ lw_privs_2, lw_okq q := List.forall_mem_cons.mpr ⟨lw_p16, List.forall_mem_cons.mpr ⟨lw_p17, List.forall_mem_cons.mpr ⟨lw_p18, List.forall_mem_cons.mpr ⟨lw_p19, List.forall_mem_cons.mpr ⟨lw_p20, List.forall_mem_cons.mpr ⟨lw_p21, List.forall_mem_cons.mpr ⟨lw_p22, List.forall_mem_cons.mpr ⟨lw_p23, fun _ h => absurd h List.not_mem_nil⟩⟩⟩⟩⟩⟩⟩⟩
def lw_privs : List (MethodName × Nat) := lw_privs_1 ++ (lw_privs_2)
def lw_tbl : List Cond := k2_sels lw_privs ++ tables_1
theorem lw_privs_ok : ∀ q ∈ lw_privs, lw_okq q := by
  show ∀ q ∈ lw_privs_1 ++ (lw_privs_2), lw_okq q
  exact List.forall_mem_append.mpr ⟨lw_r1, lw_r2⟩
end
section
/-! ===== BEGIN words of one list among another's, by their places ===== -/
theorem goodIn_r {big : List Cond} (ws : List Cond) (ps : List Nat) (hp : ws = ps.filterMap (fun i => big[i]?)) (h : ws.all goodWord = true) : GoodIn big ws := by
  intro w hw
  have h1 := List.all_eq_true.mp h w hw
  rw [hp] at hw
  obtain ⟨i, -, hi⟩ := List.mem_filterMap.mp hw
  have hm : w ∈ big := by first | exact List.mem_of_getElem? hi | exact List.getElem?_mem hi
  exact ⟨hm, good_of_word h1⟩
theorem goodIn_app {big a b : List Cond} (ha : GoodIn big a) (hb : GoodIn big b) : GoodIn big (a ++ b) := fun w h => (List.mem_append.mp h).elim (ha w) (hb w)
theorem goodIn_ca {big a b : List Cond} {c : Cond} (ha : GoodIn big (c :: a)) (hb : GoodIn big b) : GoodIn big (c :: (a ++ b)) := fun w h => (List.mem_cons.mp h).elim (fun e => ha w (List.mem_cons.mpr (Or.inl e))) (fun h => (List.mem_append.mp h).elim (fun h => ha w (List.mem_cons.mpr (Or.inr h))) (hb w))
theorem goodIn_sub {big ws : List Cond} (hm : ∀ w ∈ ws, w ∈ big) (h : ws.all goodWord = true) : GoodIn big ws := fun w hw => ⟨hm w hw, good_of_word (List.all_eq_true.mp h w hw)⟩
/-! ===== END ===== -/

/-! ===== BEGIN printed: names, fields, word lists, decode rows ===== -/
def RX0 : String := "FieldLeaves$LeafList"
def TX0 : u_T := fun k => match k with
  | 0 => ("FieldLeaves$LeafList", "numbers", "[I", true)
  | 1 => ("FieldLeaves$LeafList", "fields", "[I", true)
  | 2 => ("FieldLeaves$LeafList", "values", "[J", true)
  | _ => ("FieldLeaves$LeafList", "size", "I", false)
def tyX0 : Nat → FieldType := fun k => match k with
  | 0 => .array .int
  | 1 => .array .int
  | 2 => .array .long
  | _ => .int
abbrev wsX00 : List Cond := u_ws RX0 TX0 4
theorem nmX0 : ∀ a, a < 4 → ∀ b, b < 4 → a ≠ b → (TX0 a).2.1 ≠ (TX0 b).2.1 := by decide +kernel
theorem tyX0_ok : ∀ k, k < 4 → parseFieldDescriptor (TX0 k).2.2.1 = some (tyX0 k) := by decide +kernel
abbrev cX0_init : ByteArray := prog_2_method_1_code
def yX0_init : MethodName := ⟨RX0, "<init>", "()V"⟩
abbrev cX0_has : ByteArray := prog_2_method_2_code
def yX0_has : MethodName := ⟨RX0, "has", "(I)Z"⟩
abbrev cX0_add : ByteArray := prog_2_method_3_code
def yX0_add : MethodName := ⟨RX0, "add", "(IIJ)Z"⟩
abbrev cX0_sameAs : ByteArray := prog_2_method_4_code
def yX0_sameAs : MethodName := ⟨RX0, "sameAs", "(LFieldLeaves$LeafList;)Z"⟩
abbrev cX0_toldToMaker : ByteArray := prog_2_method_5_code
def yX0_toldToMaker : MethodName := ⟨RX0, "toldToMaker", "(I)I"⟩
def RX1 : String := "FieldLeaves$Thing"
def TX1 : u_T := fun k => match k with
  | 0 => ("FieldLeaves$Thing", "classNumber", "I", true)
  | 1 => ("FieldLeaves$Thing", "values", "[J", true)
  | 2 => ("FieldLeaves$Thing", "baseLink", "LFieldLeaves$Thing;", false)
  | 3 => ("FieldLeaves$Thing", "middleLink", "LFieldLeaves$Thing;", false)
  | 4 => ("FieldLeaves$Thing", "strayBack", "LFieldLeaves$Thing;", false)
  | _ => ("FieldLeaves$Thing", "ints", "[I", false)
def tyX1 : Nat → FieldType := fun k => match k with
  | 0 => .int
  | 1 => .array .long
  | 2 => .object "FieldLeaves$Thing"
  | 3 => .object "FieldLeaves$Thing"
  | 4 => .object "FieldLeaves$Thing"
  | _ => .array .int
abbrev wsX10 : List Cond := u_ws RX1 TX1 6
theorem nmX1 : ∀ a, a < 6 → ∀ b, b < 6 → a ≠ b → (TX1 a).2.1 ≠ (TX1 b).2.1 := by decide +kernel
theorem tyX1_ok : ∀ k, k < 6 → parseFieldDescriptor (TX1 k).2.2.1 = some (tyX1 k) := by decide +kernel
abbrev cX1_init : ByteArray := prog_3_method_1_code
def yX1_init : MethodName := ⟨RX1, "<init>", "(II)V"⟩
abbrev cX1_isOf : ByteArray := prog_3_method_2_code
def yX1_isOf : MethodName := ⟨RX1, "isOf", "(I)Z"⟩
abbrev cX1_held : ByteArray := prog_3_method_3_code
def yX1_held : MethodName := ⟨RX1, "held", "(I)LFieldLeaves$Thing;"⟩
abbrev cX1_hold : ByteArray := prog_3_method_4_code
def yX1_hold : MethodName := ⟨RX1, "hold", "(ILFieldLeaves$Thing;)V"⟩
abbrev cX1_leadsTo : ByteArray := prog_3_method_5_code
def yX1_leadsTo : MethodName := ⟨RX1, "leadsTo", "()LFieldLeaves$Thing;"⟩
abbrev cX1_name : ByteArray := prog_3_method_6_code
def yX1_name : MethodName := ⟨RX1, "name", "()I"⟩
abbrev cX1_secret : ByteArray := prog_3_method_7_code
def yX1_secret : MethodName := ⟨RX1, "secret", "()I"⟩
abbrev cX1_depth : ByteArray := prog_3_method_8_code
def yX1_depth : MethodName := ⟨RX1, "depth", "()I"⟩
abbrev cX1_kind : ByteArray := prog_3_method_9_code
def yX1_kind : MethodName := ⟨RX1, "kind", "()I"⟩
def RX2 : String := "FieldLeaves"
def TX2 : u_T := fun k => match k with
  | 0 => ("FieldLeaves", "slots", "[LFieldLeaves$Thing;", true)
  | 1 => ("FieldLeaves", "passedCount", "I", false)
  | 2 => ("FieldLeaves", "current", "LFieldLeaves$LeafList;", false)
  | 3 => ("FieldLeaves", "spare", "LFieldLeaves$LeafList;", false)
  | 4 => ("FieldLeaves", "second", "LFieldLeaves$LeafList;", true)
  | 5 => ("FieldLeaves", "found", "[LFieldLeaves$Thing;", true)
  | 6 => ("FieldLeaves", "foundCount", "I", false)
  | 7 => ("FieldLeaves", "made", "[LFieldLeaves$Thing;", true)
  | _ => ("FieldLeaves", "madeCount", "I", false)
def tyX2 : Nat → FieldType := fun k => match k with
  | 0 => .array (.object "FieldLeaves$Thing")
  | 1 => .int
  | 2 => .object "FieldLeaves$LeafList"
  | 3 => .object "FieldLeaves$LeafList"
  | 4 => .object "FieldLeaves$LeafList"
  | 5 => .array (.object "FieldLeaves$Thing")
  | 6 => .int
  | 7 => .array (.object "FieldLeaves$Thing")
  | _ => .int
abbrev wsX20 : List Cond := u_ws RX2 TX2 9
theorem nmX2 : ∀ a, a < 9 → ∀ b, b < 9 → a ≠ b → (TX2 a).2.1 ≠ (TX2 b).2.1 := by decide +kernel
theorem tyX2_ok : ∀ k, k < 9 → parseFieldDescriptor (TX2 k).2.2.1 = some (tyX2 k) := by decide +kernel
abbrev cX2_init : ByteArray := prog_1_method_1_code
def yX2_init : MethodName := ⟨RX2, "<init>", "()V"⟩
abbrev cX2_make : ByteArray := prog_1_method_2_code
def yX2_make : MethodName := ⟨RX2, "make", "(III)I"⟩
abbrev cX2_clear : ByteArray := prog_1_method_3_code
def yX2_clear : MethodName := ⟨RX2, "clear", "(I)I"⟩
abbrev cX2_share : ByteArray := prog_1_method_4_code
def yX2_share : MethodName := ⟨RX2, "share", "(II)I"⟩
abbrev cX2_same : ByteArray := prog_1_method_5_code
def yX2_same : MethodName := ⟨RX2, "same", "(II)I"⟩
abbrev cX2_cls : ByteArray := prog_1_method_6_code
def yX2_cls : MethodName := ⟨RX2, "cls", "(I)I"⟩
abbrev cX2_is : ByteArray := prog_1_method_7_code
def yX2_is : MethodName := ⟨RX2, "is", "(II)I"⟩
abbrev cX2_get : ByteArray := prog_1_method_8_code
def yX2_get : MethodName := ⟨RX2, "get", "(II)J"⟩
abbrev cX2_set : ByteArray := prog_1_method_9_code
def yX2_set : MethodName := ⟨RX2, "set", "(IIJ)I"⟩
abbrev cX2_link : ByteArray := prog_1_method_10_code
def yX2_link : MethodName := ⟨RX2, "link", "(III)I"⟩
abbrev cX2_follow : ByteArray := prog_1_method_11_code
def yX2_follow : MethodName := ⟨RX2, "follow", "(III)I"⟩
abbrev cX2_row : ByteArray := prog_1_method_12_code
def yX2_row : MethodName := ⟨RX2, "row", "(II)I"⟩
abbrev cX2_put : ByteArray := prog_1_method_13_code
def yX2_put : MethodName := ⟨RX2, "put", "(III)I"⟩
abbrev cX2_length : ByteArray := prog_1_method_14_code
def yX2_length : MethodName := ⟨RX2, "length", "(I)I"⟩
abbrev cX2_count : ByteArray := prog_1_method_15_code
def yX2_count : MethodName := ⟨RX2, "count", "(II)J"⟩
abbrev cX2_call : ByteArray := prog_1_method_16_code
def yX2_call : MethodName := ⟨RX2, "call", "(II)I"⟩
abbrev cX2_raise : ByteArray := prog_1_method_17_code
def yX2_raise : MethodName := ⟨RX2, "raise", "(I)I"⟩
abbrev cX2_passes : ByteArray := prog_1_method_18_code
def yX2_passes : MethodName := ⟨RX2, "passes", "(II)I"⟩
abbrev cX2_passed : ByteArray := prog_1_method_19_code
def yX2_passed : MethodName := ⟨RX2, "passed", "()I"⟩
abbrev cX2_leaves : ByteArray := prog_1_method_20_code
def yX2_leaves : MethodName := ⟨RX2, "leaves", "(I)I"⟩
abbrev cX2_leaf : ByteArray := prog_1_method_21_code
def yX2_leaf : MethodName := ⟨RX2, "leaf", "(II)J"⟩
abbrev cX2_alter : ByteArray := prog_1_method_22_code
def yX2_alter : MethodName := ⟨RX2, "alter", "(IJ)I"⟩
abbrev cX2_back : ByteArray := prog_1_method_23_code
def yX2_back : MethodName := ⟨RX2, "back", "(I)I"⟩
abbrev cX2_equal : ByteArray := prog_1_method_24_code
def yX2_equal : MethodName := ⟨RX2, "equal", "(II)I"⟩
abbrev cX2_changed : ByteArray := prog_1_method_25_code
def yX2_changed : MethodName := ⟨RX2, "changed", "(III)I"⟩
abbrev cX2_isSlot : ByteArray := prog_1_method_26_code
def yX2_isSlot : MethodName := ⟨RX2, "isSlot", "(I)Z"⟩
abbrev cX2_isField : ByteArray := prog_1_method_27_code
def yX2_isField : MethodName := ⟨RX2, "isField", "(I)Z"⟩
abbrev cX2_isLinkField : ByteArray := prog_1_method_28_code
def yX2_isLinkField : MethodName := ⟨RX2, "isLinkField", "(I)Z"⟩
abbrev cX2_isValueField : ByteArray := prog_1_method_29_code
def yX2_isValueField : MethodName := ⟨RX2, "isValueField", "(I)Z"⟩
abbrev cX2_isFinal : ByteArray := prog_1_method_30_code
def yX2_isFinal : MethodName := ⟨RX2, "isFinal", "(I)Z"⟩
abbrev cX2_makerTakes : ByteArray := prog_1_method_31_code
def yX2_makerTakes : MethodName := ⟨RX2, "makerTakes", "(II)Z"⟩
abbrev cX2_wantedIn : ByteArray := prog_1_method_32_code
def yX2_wantedIn : MethodName := ⟨RX2, "wantedIn", "(I)I"⟩
abbrev cX2_failureAs : ByteArray := prog_1_method_33_code
def yX2_failureAs : MethodName := ⟨RX2, "failureAs", "(LFieldLeaves$Thing;I)I"⟩
abbrev cX2_failureOfRow : ByteArray := prog_1_method_34_code
def yX2_failureOfRow : MethodName := ⟨RX2, "failureOfRow", "(LFieldLeaves$Thing;)I"⟩
abbrev cX2_thrown : ByteArray := prog_1_method_35_code
def yX2_thrown : MethodName := ⟨RX2, "thrown", "(LFieldLeaves$Thing;)I"⟩
abbrev cX2_asTold : ByteArray := prog_1_method_36_code
def yX2_asTold : MethodName := ⟨RX2, "asTold", "(IJ)J"⟩
abbrev cX2_floatAsTold : ByteArray := prog_1_method_37_code
def yX2_floatAsTold : MethodName := ⟨RX2, "floatAsTold", "(I)I"⟩
abbrev cX2_doubleAsTold : ByteArray := prog_1_method_38_code
def yX2_doubleAsTold : MethodName := ⟨RX2, "doubleAsTold", "(J)J"⟩
abbrev cX2_differ : ByteArray := prog_1_method_39_code
def yX2_differ : MethodName := ⟨RX2, "differ", "(LFieldLeaves$Thing;LFieldLeaves$Thing;I)Z"⟩
abbrev cX2_differInInts : ByteArray := prog_1_method_40_code
def yX2_differInInts : MethodName := ⟨RX2, "differInInts", "([I[I)Z"⟩
abbrev cX2_tell : ByteArray := prog_1_method_41_code
def yX2_tell : MethodName := ⟨RX2, "tell", "(LFieldLeaves$Thing;LFieldLeaves$LeafList;)Z"⟩
abbrev cX2_findFrom : ByteArray := prog_1_method_42_code
def yX2_findFrom : MethodName := ⟨RX2, "findFrom", "(LFieldLeaves$Thing;)Z"⟩
abbrev cX2_addFound : ByteArray := prog_1_method_43_code
def yX2_addFound : MethodName := ⟨RX2, "addFound", "(LFieldLeaves$Thing;)Z"⟩
abbrev cX2_numberOf : ByteArray := prog_1_method_44_code
def yX2_numberOf : MethodName := ⟨RX2, "numberOf", "(LFieldLeaves$Thing;)I"⟩
abbrev cX2_tellObject : ByteArray := prog_1_method_45_code
def yX2_tellObject : MethodName := ⟨RX2, "tellObject", "(ILFieldLeaves$LeafList;)Z"⟩
abbrev cX2_tellField : ByteArray := prog_1_method_46_code
def yX2_tellField : MethodName := ⟨RX2, "tellField", "(IILFieldLeaves$LeafList;)Z"⟩
abbrev cX2_tellRow : ByteArray := prog_1_method_47_code
def yX2_tellRow : MethodName := ⟨RX2, "tellRow", "(I[ILFieldLeaves$LeafList;)Z"⟩
abbrev cX2_makeFromLeaves : ByteArray := prog_1_method_48_code
def yX2_makeFromLeaves : MethodName := ⟨RX2, "makeFromLeaves", "()I"⟩
abbrev cX2_fillFromLeaves : ByteArray := prog_1_method_49_code
def yX2_fillFromLeaves : MethodName := ⟨RX2, "fillFromLeaves", "()I"⟩
abbrev cX2_madeAs : ByteArray := prog_1_method_50_code
def yX2_madeAs : MethodName := ⟨RX2, "madeAs", "(J)LFieldLeaves$Thing;"⟩
abbrev cX2_fillField : ByteArray := prog_1_method_51_code
def yX2_fillField : MethodName := ⟨RX2, "fillField", "(LFieldLeaves$Thing;IJ)I"⟩
abbrev cX2_fillLink : ByteArray := prog_1_method_52_code
def yX2_fillLink : MethodName := ⟨RX2, "fillLink", "(LFieldLeaves$Thing;IJ)I"⟩
abbrev cX2_fillPlace : ByteArray := prog_1_method_53_code
def yX2_fillPlace : MethodName := ⟨RX2, "fillPlace", "([III)V"⟩
def RX3 : String := "FieldLeavesModel"
def TX3 : u_T := fun k => match k with
  | 0 => ("FieldLeavesModel", "slot", "[I", true)
  | 1 => ("FieldLeavesModel", "classOf", "[I", true)
  | 2 => ("FieldLeavesModel", "field", "[J", true)
  | 3 => ("FieldLeavesModel", "rowSize", "[I", true)
  | 4 => ("FieldLeavesModel", "rows", "[I", true)
  | 5 => ("FieldLeavesModel", "isHeld", "[Z", true)
  | 6 => ("FieldLeavesModel", "pile", "[I", true)
  | 7 => ("FieldLeavesModel", "passed", "I", false)
  | 8 => ("FieldLeavesModel", "leafMany", "I", false)
  | 9 => ("FieldLeavesModel", "leafObject", "[I", true)
  | 10 => ("FieldLeavesModel", "leafField", "[I", true)
  | 11 => ("FieldLeavesModel", "leafValue", "[J", true)
  | 12 => ("FieldLeavesModel", "foundMany", "I", false)
  | 13 => ("FieldLeavesModel", "found", "[I", true)
  | 14 => ("FieldLeavesModel", "newMany", "I", false)
  | 15 => ("FieldLeavesModel", "newObject", "[I", true)
  | 16 => ("FieldLeavesModel", "newField", "[I", true)
  | 17 => ("FieldLeavesModel", "newValue", "[J", true)
  | 18 => ("FieldLeavesModel", "isRoom", "Z", false)
  | 19 => ("FieldLeavesModel", "made", "[I", true)
  | 20 => ("FieldLeavesModel", "oneObject", "[I", true)
  | 21 => ("FieldLeavesModel", "oneField", "[I", true)
  | _ => ("FieldLeavesModel", "oneValue", "[J", true)
def tyX3 : Nat → FieldType := fun k => match k with
  | 0 => .array .int
  | 1 => .array .int
  | 2 => .array .long
  | 3 => .array .int
  | 4 => .array .int
  | 5 => .array .boolean
  | 6 => .array .int
  | 7 => .int
  | 8 => .int
  | 9 => .array .int
  | 10 => .array .int
  | 11 => .array .long
  | 12 => .int
  | 13 => .array .int
  | 14 => .int
  | 15 => .array .int
  | 16 => .array .int
  | 17 => .array .long
  | 18 => .boolean
  | 19 => .array .int
  | 20 => .array .int
  | 21 => .array .int
  | _ => .array .long
abbrev wsX30 : List Cond := u_ws RX3 TX3 23
theorem nmX3 : ∀ a, a < 23 → ∀ b, b < 23 → a ≠ b → (TX3 a).2.1 ≠ (TX3 b).2.1 := by decide +kernel
theorem tyX3_ok : ∀ k, k < 23 → parseFieldDescriptor (TX3 k).2.2.1 = some (tyX3 k) := by decide +kernel
abbrev cX3_init : ByteArray := prog_5_method_1_code
def yX3_init : MethodName := ⟨RX3, "<init>", "()V"⟩
abbrev cX3_in : ByteArray := prog_5_method_2_code
def yX3_in : MethodName := ⟨RX3, "in", "(JJJ)Z"⟩
abbrev cX3_isSlot : ByteArray := prog_5_method_3_code
def yX3_isSlot : MethodName := ⟨RX3, "isSlot", "(I)Z"⟩
abbrev cX3_isLink : ByteArray := prog_5_method_4_code
def yX3_isLink : MethodName := ⟨RX3, "isLink", "(I)Z"⟩
abbrev cX3_has : ByteArray := prog_5_method_5_code
def yX3_has : MethodName := ⟨RX3, "has", "(II)Z"⟩
abbrev cX3_isBelow : ByteArray := prog_5_method_6_code
def yX3_isBelow : MethodName := ⟨RX3, "isBelow", "(II)Z"⟩
abbrev cX3_mayBeIn : ByteArray := prog_5_method_7_code
def yX3_mayBeIn : MethodName := ⟨RX3, "mayBeIn", "(II)Z"⟩
abbrev cX3_lookWhatIsHeld : ByteArray := prog_5_method_8_code
def yX3_lookWhatIsHeld : MethodName := ⟨RX3, "lookWhatIsHeld", "()V"⟩
abbrev cX3_born : ByteArray := prog_5_method_9_code
def yX3_born : MethodName := ⟨RX3, "born", "(II)I"⟩
abbrev cX3_make : ByteArray := prog_5_method_10_code
def yX3_make : MethodName := ⟨RX3, "make", "(III)I"⟩
abbrev cX3_clear : ByteArray := prog_5_method_11_code
def yX3_clear : MethodName := ⟨RX3, "clear", "(I)I"⟩
abbrev cX3_share : ByteArray := prog_5_method_12_code
def yX3_share : MethodName := ⟨RX3, "share", "(II)I"⟩
abbrev cX3_same : ByteArray := prog_5_method_13_code
def yX3_same : MethodName := ⟨RX3, "same", "(II)I"⟩
abbrev cX3_cls : ByteArray := prog_5_method_14_code
def yX3_cls : MethodName := ⟨RX3, "cls", "(I)I"⟩
abbrev cX3_is : ByteArray := prog_5_method_15_code
def yX3_is : MethodName := ⟨RX3, "is", "(II)I"⟩
abbrev cX3_isPlain : ByteArray := prog_5_method_16_code
def yX3_isPlain : MethodName := ⟨RX3, "isPlain", "(I)Z"⟩
abbrev cX3_valueOf : ByteArray := prog_5_method_17_code
def yX3_valueOf : MethodName := ⟨RX3, "valueOf", "(IJ)J"⟩
abbrev cX3_isOther : ByteArray := prog_5_method_18_code
def yX3_isOther : MethodName := ⟨RX3, "isOther", "(II)Z"⟩
abbrev cX3_get : ByteArray := prog_5_method_19_code
def yX3_get : MethodName := ⟨RX3, "get", "(II)J"⟩
abbrev cX3_set : ByteArray := prog_5_method_20_code
def yX3_set : MethodName := ⟨RX3, "set", "(IIJ)I"⟩
abbrev cX3_link : ByteArray := prog_5_method_21_code
def yX3_link : MethodName := ⟨RX3, "link", "(III)I"⟩
abbrev cX3_follow : ByteArray := prog_5_method_22_code
def yX3_follow : MethodName := ⟨RX3, "follow", "(III)I"⟩
abbrev cX3_row : ByteArray := prog_5_method_23_code
def yX3_row : MethodName := ⟨RX3, "row", "(II)I"⟩
abbrev cX3_rowless : ByteArray := prog_5_method_24_code
def yX3_rowless : MethodName := ⟨RX3, "rowless", "(I)I"⟩
abbrev cX3_put : ByteArray := prog_5_method_25_code
def yX3_put : MethodName := ⟨RX3, "put", "(III)I"⟩
abbrev cX3_length : ByteArray := prog_5_method_26_code
def yX3_length : MethodName := ⟨RX3, "length", "(I)I"⟩
abbrev cX3_count : ByteArray := prog_5_method_27_code
def yX3_count : MethodName := ⟨RX3, "count", "(II)J"⟩
abbrev cX3_nameOf : ByteArray := prog_5_method_28_code
def yX3_nameOf : MethodName := ⟨RX3, "nameOf", "(I)I"⟩
abbrev cX3_depthOf : ByteArray := prog_5_method_29_code
def yX3_depthOf : MethodName := ⟨RX3, "depthOf", "(I)I"⟩
abbrev cX3_kindOf : ByteArray := prog_5_method_30_code
def yX3_kindOf : MethodName := ⟨RX3, "kindOf", "(I)I"⟩
abbrev cX3_call : ByteArray := prog_5_method_31_code
def yX3_call : MethodName := ⟨RX3, "call", "(II)I"⟩
abbrev cX3_raise : ByteArray := prog_5_method_32_code
def yX3_raise : MethodName := ⟨RX3, "raise", "(I)I"⟩
abbrev cX3_passes : ByteArray := prog_5_method_33_code
def yX3_passes : MethodName := ⟨RX3, "passes", "(II)I"⟩
abbrev cX3_passed : ByteArray := prog_5_method_34_code
def yX3_passed : MethodName := ⟨RX3, "passed", "()I"⟩
abbrev cX3_tell : ByteArray := prog_5_method_35_code
def yX3_tell : MethodName := ⟨RX3, "tell", "(IIJ)V"⟩
abbrev cX3_numberOf : ByteArray := prog_5_method_36_code
def yX3_numberOf : MethodName := ⟨RX3, "numberOf", "(I)I"⟩
abbrev cX3_find : ByteArray := prog_5_method_37_code
def yX3_find : MethodName := ⟨RX3, "find", "(I)Z"⟩
abbrev cX3_tellObject : ByteArray := prog_5_method_38_code
def yX3_tellObject : MethodName := ⟨RX3, "tellObject", "(II)V"⟩
abbrev cX3_leaves : ByteArray := prog_5_method_39_code
def yX3_leaves : MethodName := ⟨RX3, "leaves", "(I)I"⟩
abbrev cX3_leaf : ByteArray := prog_5_method_40_code
def yX3_leaf : MethodName := ⟨RX3, "leaf", "(II)J"⟩
abbrev cX3_alter : ByteArray := prog_5_method_41_code
def yX3_alter : MethodName := ⟨RX3, "alter", "(IJ)I"⟩
abbrev cX3_told : ByteArray := prog_5_method_42_code
def yX3_told : MethodName := ⟨RX3, "told", "(II)J"⟩
abbrev cX3_back : ByteArray := prog_5_method_43_code
def yX3_back : MethodName := ⟨RX3, "back", "(I)I"⟩
abbrev cX3_equal : ByteArray := prog_5_method_44_code
def yX3_equal : MethodName := ⟨RX3, "equal", "(II)I"⟩
abbrev cX3_isChanged : ByteArray := prog_5_method_45_code
def yX3_isChanged : MethodName := ⟨RX3, "isChanged", "(III)Z"⟩
abbrev cX3_changed : ByteArray := prog_5_method_46_code
def yX3_changed : MethodName := ⟨RX3, "changed", "(III)I"⟩
def RL : String := "FieldLeavesLaw"
abbrev cL_law : ByteArray := code
def yL_law : MethodName := ⟨RL, "law", "([I)Z"⟩
def wsX0_init : List Cond := .code yX0_init cX0_init 1 none :: ([.methodLink RX0 3 objectInit, .instanceMethod objectInit, .code objectInit ⟨#[0xb1]⟩ 1 none, .arrayClass .int, .fieldLink RX0 9 "FieldLeaves$LeafList" "numbers" "[I", .fieldLink RX0 15 "FieldLeaves$LeafList" "fields" "[I", .arrayClass .long, .fieldLink RX0 18 "FieldLeaves$LeafList" "values" "[J"] ++ wsX00)
def wsX0_has : List Cond := .code yX0_has cX0_has 2 (some .boolean) :: ([.fieldLink RX0 22 "FieldLeaves$LeafList" "size" "I"] ++ wsX00)
def wsX0_add : List Cond := .code yX0_add cX0_add 5 (some .boolean) :: ([.fieldLink RX0 22 "FieldLeaves$LeafList" "size" "I", .fieldLink RX0 9 "FieldLeaves$LeafList" "numbers" "[I", .fieldLink RX0 15 "FieldLeaves$LeafList" "fields" "[I", .fieldLink RX0 18 "FieldLeaves$LeafList" "values" "[J"] ++ wsX00)
def wsX0_sameAs : List Cond := .code yX0_sameAs cX0_sameAs 3 (some .boolean) :: ([.fieldLink RX0 22 "FieldLeaves$LeafList" "size" "I", .fieldLink RX0 9 "FieldLeaves$LeafList" "numbers" "[I", .fieldLink RX0 15 "FieldLeaves$LeafList" "fields" "[I", .fieldLink RX0 18 "FieldLeaves$LeafList" "values" "[J"] ++ wsX00)
def wsX2_isFinal : List Cond := .code yX2_isFinal cX2_isFinal 1 (some .boolean) :: ([])
def wsX2_floatAsTold : List Cond := .code yX2_floatAsTold cX2_floatAsTold 1 (some .int) :: ([.constant RX2 171 (2147483647), .constant RX2 172 (2139095040), .constant RX2 173 (2143289344)])
def wsX2_doubleAsTold : List Cond := .code yX2_doubleAsTold cX2_doubleAsTold 2 (some .long) :: ([.constantLong RX2 174 (9223372036854775807), .constantLong RX2 176 (9218868437227405312), .constantLong RX2 178 (9221120237041090560)])
def wsX2_asTold : List Cond := .code yX2_asTold cX2_asTold 3 (some .long) :: ([.fieldLink RX2 161 "FieldLeaves" "FORM" "[I", .methodLink RX2 164 yX2_floatAsTold, .static yX2_floatAsTold, .initialized RX2, .code yX2_floatAsTold cX2_floatAsTold 1 (some .int), .constant RX2 171 (2147483647), .constant RX2 172 (2139095040), .constant RX2 173 (2143289344), .methodLink RX2 167 yX2_doubleAsTold, .static yX2_doubleAsTold, .code yX2_doubleAsTold cX2_doubleAsTold 2 (some .long), .constantLong RX2 174 (9223372036854775807), .constantLong RX2 176 (9218868437227405312), .constantLong RX2 178 (9221120237041090560)])
def wsX0_toldToMaker : List Cond := .code yX0_toldToMaker cX0_toldToMaker 3 (some .int) :: ([.fieldLink RX0 22 "FieldLeaves$LeafList" "size" "I", .fieldLink RX0 15 "FieldLeaves$LeafList" "fields" "[I", .fieldLink RX0 18 "FieldLeaves$LeafList" "values" "[J", .static yX2_isFinal, .initialized RX2, .code yX2_isFinal cX2_isFinal 1 (some .boolean), .static yX2_asTold, .code yX2_asTold cX2_asTold 3 (some .long), .fieldLink RX2 161 "FieldLeaves" "FORM" "[I", .methodLink RX2 164 yX2_floatAsTold, .static yX2_floatAsTold, .code yX2_floatAsTold cX2_floatAsTold 1 (some .int), .constant RX2 171 (2147483647), .constant RX2 172 (2139095040), .constant RX2 173 (2143289344), .methodLink RX2 167 yX2_doubleAsTold, .static yX2_doubleAsTold, .code yX2_doubleAsTold cX2_doubleAsTold 2 (some .long), .constantLong RX2 174 (9223372036854775807), .constantLong RX2 176 (9218868437227405312), .constantLong RX2 178 (9221120237041090560)] ++ wsX00)
def wsX1_init : List Cond := .code yX1_init cX1_init 3 none :: ([.methodLink RX1 3 objectInit, .instanceMethod objectInit, .code objectInit ⟨#[0xb1]⟩ 1 none, .arrayClass .long, .fieldLink RX1 9 "FieldLeaves$Thing" "values" "[J", .fieldLink RX1 15 "FieldLeaves$Thing" "classNumber" "I"] ++ wsX10)
def wsX1_isOf : List Cond := .code yX1_isOf cX1_isOf 2 (some .boolean) :: ([.fieldLink RX1 15 "FieldLeaves$Thing" "classNumber" "I"] ++ wsX10)
def wsX1_held : List Cond := .code yX1_held cX1_held 2 (some (.object "FieldLeaves$Thing")) :: ([.fieldLink RX1 19 "FieldLeaves$Thing" "baseLink" "LFieldLeaves$Thing;", .fieldLink RX1 23 "FieldLeaves$Thing" "middleLink" "LFieldLeaves$Thing;", .fieldLink RX1 26 "FieldLeaves$Thing" "strayBack" "LFieldLeaves$Thing;"] ++ wsX10)
def wsX1_hold : List Cond := .code yX1_hold cX1_hold 3 none :: ([.fieldLink RX1 19 "FieldLeaves$Thing" "baseLink" "LFieldLeaves$Thing;", .fieldLink RX1 23 "FieldLeaves$Thing" "middleLink" "LFieldLeaves$Thing;", .fieldLink RX1 26 "FieldLeaves$Thing" "strayBack" "LFieldLeaves$Thing;"] ++ wsX10)
def wsX1_leadsTo : List Cond := .code yX1_leadsTo cX1_leadsTo 1 (some (.object "FieldLeaves$Thing")) :: ([.fieldLink RX1 15 "FieldLeaves$Thing" "classNumber" "I", .fieldLink RX1 19 "FieldLeaves$Thing" "baseLink" "LFieldLeaves$Thing;", .fieldLink RX1 26 "FieldLeaves$Thing" "strayBack" "LFieldLeaves$Thing;", .fieldLink RX1 23 "FieldLeaves$Thing" "middleLink" "LFieldLeaves$Thing;"] ++ wsX10)
def wsX1_name : List Cond := .code yX1_name cX1_name 2 (some .int) :: ([.fieldLink RX1 9 "FieldLeaves$Thing" "values" "[J", .fieldLink RX1 15 "FieldLeaves$Thing" "classNumber" "I"] ++ wsX10)
def wsX1_secret : List Cond := .code yX1_secret cX1_secret 1 (some .int) :: ([.fieldLink RX1 9 "FieldLeaves$Thing" "values" "[J"] ++ wsX10)
def wsX1_depth : List Cond := .code yX1_depth cX1_depth 3 (some .int) :: ([.methodLink RX1 29 yX1_leadsTo, .instanceMethod yX1_leadsTo, .selects RX1 yX1_leadsTo yX1_leadsTo, .initialized RX1, .code yX1_leadsTo cX1_leadsTo 1 (some (.object "FieldLeaves$Thing")), .fieldLink RX1 15 "FieldLeaves$Thing" "classNumber" "I", .fieldLink RX1 19 "FieldLeaves$Thing" "baseLink" "LFieldLeaves$Thing;", .fieldLink RX1 26 "FieldLeaves$Thing" "strayBack" "LFieldLeaves$Thing;", .fieldLink RX1 23 "FieldLeaves$Thing" "middleLink" "LFieldLeaves$Thing;"] ++ wsX10)
def wsX1_kind : List Cond := .code yX1_kind cX1_kind 5 (some .int) :: ([.fieldLink RX1 15 "FieldLeaves$Thing" "classNumber" "I", .fieldLink RX1 19 "FieldLeaves$Thing" "baseLink" "LFieldLeaves$Thing;"] ++ wsX10)
def wsX2_init : List Cond := .code yX2_init cX2_init 1 none :: ([.methodLink RX2 1 objectInit, .instanceMethod objectInit, .code objectInit ⟨#[0xb1]⟩ 1 none, .classLink RX2 9 RX1, .fieldLink RX2 11 "FieldLeaves" "slots" "[LFieldLeaves$Thing;", .classLink RX2 15 RX0, .instantiable RX0 4, .initialized RX0, .fieldLink RX2 18 "FieldLeaves" "current" "LFieldLeaves$LeafList;", .fieldLink RX2 22 "FieldLeaves" "spare" "LFieldLeaves$LeafList;", .fieldLink RX2 25 "FieldLeaves" "second" "LFieldLeaves$LeafList;", .fieldLink RX2 28 "FieldLeaves" "found" "[LFieldLeaves$Thing;", .fieldLink RX2 31 "FieldLeaves" "made" "[LFieldLeaves$Thing;", .instanceMethod yX0_init, .code yX0_init cX0_init 1 none, .methodLink RX0 3 objectInit, .arrayClass .int, .fieldLink RX0 9 "FieldLeaves$LeafList" "numbers" "[I", .fieldLink RX0 15 "FieldLeaves$LeafList" "fields" "[I", .arrayClass .long, .fieldLink RX0 18 "FieldLeaves$LeafList" "values" "[J"] ++ wsX20 ++ wsX00)
def wsX2_isSlot : List Cond := .code yX2_isSlot cX2_isSlot 1 (some .boolean) :: ([])
def wsX2_makerTakes : List Cond := .code yX2_makerTakes cX2_makerTakes 2 (some .boolean) :: ([])
def wsX2_make : List Cond := .code yX2_make cX2_make 4 (some .int) :: ([.fieldLink RX2 11 "FieldLeaves" "slots" "[LFieldLeaves$Thing;", .classLink RX2 9 RX1, .instantiable RX1 6, .initialized RX1, .methodLink RX2 34 yX2_isSlot, .static yX2_isSlot, .initialized RX2, .code yX2_isSlot cX2_isSlot 1 (some .boolean), .methodLink RX2 38 yX2_makerTakes, .static yX2_makerTakes, .code yX2_makerTakes cX2_makerTakes 2 (some .boolean), .methodLink RX2 42 yX1_init, .instanceMethod yX1_init, .code yX1_init cX1_init 3 none, .methodLink RX1 3 objectInit, .instanceMethod objectInit, .code objectInit ⟨#[0xb1]⟩ 1 none, .arrayClass .long, .fieldLink RX1 9 "FieldLeaves$Thing" "values" "[J", .fieldLink RX1 15 "FieldLeaves$Thing" "classNumber" "I"] ++ wsX20 ++ wsX10)
def wsX2_clear : List Cond := .code yX2_clear cX2_clear 3 (some .int) :: ([.fieldLink RX2 11 "FieldLeaves" "slots" "[LFieldLeaves$Thing;", .methodLink RX2 34 yX2_isSlot, .static yX2_isSlot, .initialized RX2, .code yX2_isSlot cX2_isSlot 1 (some .boolean)] ++ wsX20)
def wsX2_share : List Cond := .code yX2_share cX2_share 3 (some .int) :: ([.fieldLink RX2 11 "FieldLeaves" "slots" "[LFieldLeaves$Thing;", .methodLink RX2 34 yX2_isSlot, .static yX2_isSlot, .initialized RX2, .code yX2_isSlot cX2_isSlot 1 (some .boolean)] ++ wsX20)
def wsX2_same : List Cond := .code yX2_same cX2_same 3 (some .int) :: ([.fieldLink RX2 11 "FieldLeaves" "slots" "[LFieldLeaves$Thing;", .methodLink RX2 34 yX2_isSlot, .static yX2_isSlot, .initialized RX2, .code yX2_isSlot cX2_isSlot 1 (some .boolean)] ++ wsX20)
def wsX2_cls : List Cond := .code yX2_cls cX2_cls 3 (some .int) :: ([.fieldLink RX2 11 "FieldLeaves" "slots" "[LFieldLeaves$Thing;", .fieldLink RX2 45 "FieldLeaves$Thing" "classNumber" "I", .methodLink RX2 34 yX2_isSlot, .static yX2_isSlot, .initialized RX2, .code yX2_isSlot cX2_isSlot 1 (some .boolean)] ++ wsX20 ++ wsX10)
def wsX2_is : List Cond := .code yX2_is cX2_is 4 (some .int) :: ([.fieldLink RX2 11 "FieldLeaves" "slots" "[LFieldLeaves$Thing;", .methodLink RX2 34 yX2_isSlot, .static yX2_isSlot, .initialized RX2, .code yX2_isSlot cX2_isSlot 1 (some .boolean), .methodLink RX2 49 yX1_isOf, .instanceMethod yX1_isOf, .selects RX1 yX1_isOf yX1_isOf, .initialized RX1, .code yX1_isOf cX1_isOf 2 (some .boolean), .fieldLink RX1 15 "FieldLeaves$Thing" "classNumber" "I"] ++ wsX20 ++ wsX10)
def wsX2_isField : List Cond := .code yX2_isField cX2_isField 1 (some .boolean) :: ([])
def wsX2_isValueField : List Cond := .code yX2_isValueField cX2_isValueField 1 (some .boolean) :: ([.fieldLink RX2 161 "FieldLeaves" "FORM" "[I", .methodLink RX2 158 yX2_isField, .static yX2_isField, .initialized RX2, .code yX2_isField cX2_isField 1 (some .boolean)])
def wsX2_failureAs : List Cond := .code yX2_failureAs cX2_failureAs 2 (some .int) :: ([.methodLink RX2 49 yX1_isOf, .instanceMethod yX1_isOf, .selects RX1 yX1_isOf yX1_isOf, .initialized RX1, .code yX1_isOf cX1_isOf 2 (some .boolean), .fieldLink RX1 15 "FieldLeaves$Thing" "classNumber" "I"] ++ wsX10)
def wsX2_get : List Cond := .code yX2_get cX2_get 5 (some .long) :: ([.constantLong RX2 55 (-1), .fieldLink RX2 11 "FieldLeaves" "slots" "[LFieldLeaves$Thing;", .fieldLink RX2 57 "FieldLeaves" "OWNER" "[I", .fieldLink RX2 65 "FieldLeaves$Thing" "values" "[J", .methodLink RX2 34 yX2_isSlot, .static yX2_isSlot, .initialized RX2, .code yX2_isSlot cX2_isSlot 1 (some .boolean), .methodLink RX2 52 yX2_isValueField, .static yX2_isValueField, .code yX2_isValueField cX2_isValueField 1 (some .boolean), .fieldLink RX2 161 "FieldLeaves" "FORM" "[I", .methodLink RX2 158 yX2_isField, .static yX2_isField, .code yX2_isField cX2_isField 1 (some .boolean), .methodLink RX2 61 yX2_failureAs, .static yX2_failureAs, .code yX2_failureAs cX2_failureAs 2 (some .int), .methodLink RX2 49 yX1_isOf, .instanceMethod yX1_isOf, .selects RX1 yX1_isOf yX1_isOf, .initialized RX1, .code yX1_isOf cX1_isOf 2 (some .boolean), .fieldLink RX1 15 "FieldLeaves$Thing" "classNumber" "I"] ++ wsX20 ++ wsX10)
def wsX2_set_r1 : List Cond := [Cond.fieldLink RX2 11 "FieldLeaves" "slots" "[LFieldLeaves$Thing;", Cond.fieldLink RX2 57 "FieldLeaves" "OWNER" "[I", Cond.fieldLink RX2 65 "FieldLeaves$Thing" "values" "[J", Cond.methodLink RX2 34 yX2_isSlot, Cond.static yX2_isSlot, Cond.initialized RX2, Cond.code yX2_isSlot cX2_isSlot 1 (some .boolean), Cond.methodLink RX2 52 yX2_isValueField, Cond.static yX2_isValueField, Cond.code yX2_isValueField cX2_isValueField 1 (some .boolean), Cond.fieldLink RX2 161 "FieldLeaves" "FORM" "[I", Cond.methodLink RX2 158 yX2_isField, Cond.static yX2_isField, Cond.code yX2_isField cX2_isField 1 (some .boolean), Cond.methodLink RX2 61 yX2_failureAs, Cond.static yX2_failureAs, Cond.code yX2_failureAs cX2_failureAs 2 (some .int), Cond.methodLink RX2 49 yX1_isOf, Cond.instanceMethod yX1_isOf, Cond.selects RX1 yX1_isOf yX1_isOf, Cond.initialized RX1, Cond.code yX1_isOf cX1_isOf 2 (some .boolean), Cond.fieldLink RX1 15 "FieldLeaves$Thing" "classNumber" "I", Cond.methodLink RX2 69 yX2_isFinal]
def wsX2_set_r2 : List Cond := [Cond.static yX2_isFinal, Cond.code yX2_isFinal cX2_isFinal 1 (some .boolean), Cond.methodLink RX2 72 yX2_asTold, Cond.static yX2_asTold, Cond.code yX2_asTold cX2_asTold 3 (some .long), Cond.methodLink RX2 164 yX2_floatAsTold, Cond.static yX2_floatAsTold, Cond.code yX2_floatAsTold cX2_floatAsTold 1 (some .int), Cond.constant RX2 171 (2147483647), Cond.constant RX2 172 (2139095040), Cond.constant RX2 173 (2143289344), Cond.methodLink RX2 167 yX2_doubleAsTold, Cond.static yX2_doubleAsTold, Cond.code yX2_doubleAsTold cX2_doubleAsTold 2 (some .long), Cond.constantLong RX2 174 (9223372036854775807), Cond.constantLong RX2 176 (9218868437227405312), Cond.constantLong RX2 178 (9221120237041090560)]
def wsX2_set : List Cond := .code yX2_set cX2_set 7 (some .int) :: ((wsX2_set_r1 ++ wsX2_set_r2) ++ wsX20 ++ wsX10)
def wsX2_isLinkField : List Cond := .code yX2_isLinkField cX2_isLinkField 1 (some .boolean) :: ([.fieldLink RX2 161 "FieldLeaves" "FORM" "[I", .methodLink RX2 158 yX2_isField, .static yX2_isField, .initialized RX2, .code yX2_isField cX2_isField 1 (some .boolean)])
def wsX2_wantedIn : List Cond := .code yX2_wantedIn cX2_wantedIn 1 (some .int) :: ([])
def wsX2_link_r1 : List Cond := [Cond.fieldLink RX2 11 "FieldLeaves" "slots" "[LFieldLeaves$Thing;", Cond.fieldLink RX2 57 "FieldLeaves" "OWNER" "[I", Cond.methodLink RX2 34 yX2_isSlot, Cond.static yX2_isSlot, Cond.initialized RX2, Cond.code yX2_isSlot cX2_isSlot 1 (some .boolean), Cond.methodLink RX2 76 yX2_isLinkField, Cond.static yX2_isLinkField, Cond.code yX2_isLinkField cX2_isLinkField 1 (some .boolean), Cond.fieldLink RX2 161 "FieldLeaves" "FORM" "[I", Cond.methodLink RX2 158 yX2_isField, Cond.static yX2_isField, Cond.code yX2_isField cX2_isField 1 (some .boolean), Cond.methodLink RX2 49 yX1_isOf, Cond.instanceMethod yX1_isOf, Cond.selects RX1 yX1_isOf yX1_isOf, Cond.initialized RX1, Cond.code yX1_isOf cX1_isOf 2 (some .boolean), Cond.fieldLink RX1 15 "FieldLeaves$Thing" "classNumber" "I", Cond.methodLink RX2 79 yX2_wantedIn, Cond.static yX2_wantedIn, Cond.code yX2_wantedIn cX2_wantedIn 1 (some .int), Cond.methodLink RX2 83 yX1_hold, Cond.instanceMethod yX1_hold]
def wsX2_link_r2 : List Cond := [Cond.selects RX1 yX1_hold yX1_hold, Cond.code yX1_hold cX1_hold 3 none, Cond.fieldLink RX1 19 "FieldLeaves$Thing" "baseLink" "LFieldLeaves$Thing;", Cond.fieldLink RX1 23 "FieldLeaves$Thing" "middleLink" "LFieldLeaves$Thing;", Cond.fieldLink RX1 26 "FieldLeaves$Thing" "strayBack" "LFieldLeaves$Thing;"]
def wsX2_link : List Cond := .code yX2_link cX2_link 6 (some .int) :: ((wsX2_link_r1 ++ wsX2_link_r2) ++ wsX20 ++ wsX10)
def wsX2_follow_r1 : List Cond := [Cond.fieldLink RX2 11 "FieldLeaves" "slots" "[LFieldLeaves$Thing;", Cond.fieldLink RX2 57 "FieldLeaves" "OWNER" "[I", Cond.methodLink RX2 34 yX2_isSlot, Cond.static yX2_isSlot, Cond.initialized RX2, Cond.code yX2_isSlot cX2_isSlot 1 (some .boolean), Cond.methodLink RX2 76 yX2_isLinkField, Cond.static yX2_isLinkField, Cond.code yX2_isLinkField cX2_isLinkField 1 (some .boolean), Cond.fieldLink RX2 161 "FieldLeaves" "FORM" "[I", Cond.methodLink RX2 158 yX2_isField, Cond.static yX2_isField, Cond.code yX2_isField cX2_isField 1 (some .boolean), Cond.methodLink RX2 61 yX2_failureAs, Cond.static yX2_failureAs, Cond.code yX2_failureAs cX2_failureAs 2 (some .int), Cond.methodLink RX2 49 yX1_isOf, Cond.instanceMethod yX1_isOf, Cond.selects RX1 yX1_isOf yX1_isOf, Cond.initialized RX1, Cond.code yX1_isOf cX1_isOf 2 (some .boolean), Cond.fieldLink RX1 15 "FieldLeaves$Thing" "classNumber" "I", Cond.methodLink RX2 87 yX1_held, Cond.instanceMethod yX1_held]
def wsX2_follow_r2 : List Cond := [Cond.selects RX1 yX1_held yX1_held, Cond.code yX1_held cX1_held 2 (some (.object "FieldLeaves$Thing")), Cond.fieldLink RX1 19 "FieldLeaves$Thing" "baseLink" "LFieldLeaves$Thing;", Cond.fieldLink RX1 23 "FieldLeaves$Thing" "middleLink" "LFieldLeaves$Thing;", Cond.fieldLink RX1 26 "FieldLeaves$Thing" "strayBack" "LFieldLeaves$Thing;"]
def wsX2_follow : List Cond := .code yX2_follow cX2_follow 6 (some .int) :: ((wsX2_follow_r1 ++ wsX2_follow_r2) ++ wsX20 ++ wsX10)
def wsX2_row : List Cond := .code yX2_row cX2_row 4 (some .int) :: ([.fieldLink RX2 11 "FieldLeaves" "slots" "[LFieldLeaves$Thing;", .arrayClass .int, .fieldLink RX2 91 "FieldLeaves$Thing" "ints" "[I", .methodLink RX2 34 yX2_isSlot, .static yX2_isSlot, .initialized RX2, .code yX2_isSlot cX2_isSlot 1 (some .boolean), .methodLink RX2 49 yX1_isOf, .instanceMethod yX1_isOf, .selects RX1 yX1_isOf yX1_isOf, .initialized RX1, .code yX1_isOf cX1_isOf 2 (some .boolean), .fieldLink RX1 15 "FieldLeaves$Thing" "classNumber" "I"] ++ wsX20 ++ wsX10)
def wsX2_failureOfRow : List Cond := .code yX2_failureOfRow cX2_failureOfRow 2 (some .int) :: ([.fieldLink RX2 91 "FieldLeaves$Thing" "ints" "[I", .methodLink RX2 61 yX2_failureAs, .static yX2_failureAs, .initialized RX2, .code yX2_failureAs cX2_failureAs 2 (some .int), .methodLink RX2 49 yX1_isOf, .instanceMethod yX1_isOf, .selects RX1 yX1_isOf yX1_isOf, .initialized RX1, .code yX1_isOf cX1_isOf 2 (some .boolean), .fieldLink RX1 15 "FieldLeaves$Thing" "classNumber" "I"] ++ wsX10)
def wsX2_put : List Cond := .code yX2_put cX2_put 7 (some .int) :: ([.fieldLink RX2 11 "FieldLeaves" "slots" "[LFieldLeaves$Thing;", .fieldLink RX2 91 "FieldLeaves$Thing" "ints" "[I", .methodLink RX2 34 yX2_isSlot, .static yX2_isSlot, .initialized RX2, .code yX2_isSlot cX2_isSlot 1 (some .boolean), .methodLink RX2 94 yX2_failureOfRow, .static yX2_failureOfRow, .code yX2_failureOfRow cX2_failureOfRow 2 (some .int), .methodLink RX2 61 yX2_failureAs, .static yX2_failureAs, .code yX2_failureAs cX2_failureAs 2 (some .int), .methodLink RX2 49 yX1_isOf, .instanceMethod yX1_isOf, .selects RX1 yX1_isOf yX1_isOf, .initialized RX1, .code yX1_isOf cX1_isOf 2 (some .boolean), .fieldLink RX1 15 "FieldLeaves$Thing" "classNumber" "I"] ++ wsX20 ++ wsX10)
def wsX2_length : List Cond := .code yX2_length cX2_length 4 (some .int) :: ([.fieldLink RX2 11 "FieldLeaves" "slots" "[LFieldLeaves$Thing;", .fieldLink RX2 91 "FieldLeaves$Thing" "ints" "[I", .methodLink RX2 34 yX2_isSlot, .static yX2_isSlot, .initialized RX2, .code yX2_isSlot cX2_isSlot 1 (some .boolean), .methodLink RX2 94 yX2_failureOfRow, .static yX2_failureOfRow, .code yX2_failureOfRow cX2_failureOfRow 2 (some .int), .methodLink RX2 61 yX2_failureAs, .static yX2_failureAs, .code yX2_failureAs cX2_failureAs 2 (some .int), .methodLink RX2 49 yX1_isOf, .instanceMethod yX1_isOf, .selects RX1 yX1_isOf yX1_isOf, .initialized RX1, .code yX1_isOf cX1_isOf 2 (some .boolean), .fieldLink RX1 15 "FieldLeaves$Thing" "classNumber" "I"] ++ wsX20 ++ wsX10)
def wsX2_count : List Cond := .code yX2_count cX2_count 5 (some .long) :: ([.constantLong RX2 55 (-1), .fieldLink RX2 11 "FieldLeaves" "slots" "[LFieldLeaves$Thing;", .fieldLink RX2 65 "FieldLeaves$Thing" "values" "[J", .fieldLink RX2 98 "FieldLeaves" "COUNT_OF" "[I", .methodLink RX2 34 yX2_isSlot, .static yX2_isSlot, .initialized RX2, .code yX2_isSlot cX2_isSlot 1 (some .boolean), .methodLink RX2 61 yX2_failureAs, .static yX2_failureAs, .code yX2_failureAs cX2_failureAs 2 (some .int), .methodLink RX2 49 yX1_isOf, .instanceMethod yX1_isOf, .selects RX1 yX1_isOf yX1_isOf, .initialized RX1, .code yX1_isOf cX1_isOf 2 (some .boolean), .fieldLink RX1 15 "FieldLeaves$Thing" "classNumber" "I"] ++ wsX20 ++ wsX10)
def wsX2_call_r1 : List Cond := [Cond.fieldLink RX2 11 "FieldLeaves" "slots" "[LFieldLeaves$Thing;", Cond.fieldLink RX2 114 "FieldLeaves$Thing" "baseLink" "LFieldLeaves$Thing;", Cond.methodLink RX2 34 yX2_isSlot, Cond.static yX2_isSlot, Cond.initialized RX2, Cond.code yX2_isSlot cX2_isSlot 1 (some .boolean), Cond.methodLink RX2 61 yX2_failureAs, Cond.static yX2_failureAs, Cond.code yX2_failureAs cX2_failureAs 2 (some .int), Cond.methodLink RX2 49 yX1_isOf, Cond.instanceMethod yX1_isOf, Cond.selects RX1 yX1_isOf yX1_isOf, Cond.initialized RX1, Cond.code yX1_isOf cX1_isOf 2 (some .boolean), Cond.fieldLink RX1 15 "FieldLeaves$Thing" "classNumber" "I", Cond.methodLink RX2 101 yX1_name, Cond.instanceMethod yX1_name, Cond.selects RX1 yX1_name yX1_name, Cond.code yX1_name cX1_name 2 (some .int), Cond.fieldLink RX1 9 "FieldLeaves$Thing" "values" "[J", Cond.methodLink RX2 105 yX1_secret, Cond.instanceMethod yX1_secret, Cond.selects RX1 yX1_secret yX1_secret, Cond.code yX1_secret cX1_secret 1 (some .int)]
def wsX2_call_r2 : List Cond := [Cond.methodLink RX2 108 yX1_depth, Cond.instanceMethod yX1_depth, Cond.selects RX1 yX1_depth yX1_depth, Cond.code yX1_depth cX1_depth 3 (some .int), Cond.methodLink RX1 29 yX1_leadsTo, Cond.instanceMethod yX1_leadsTo, Cond.selects RX1 yX1_leadsTo yX1_leadsTo, Cond.code yX1_leadsTo cX1_leadsTo 1 (some (.object "FieldLeaves$Thing")), Cond.fieldLink RX1 19 "FieldLeaves$Thing" "baseLink" "LFieldLeaves$Thing;", Cond.fieldLink RX1 26 "FieldLeaves$Thing" "strayBack" "LFieldLeaves$Thing;", Cond.fieldLink RX1 23 "FieldLeaves$Thing" "middleLink" "LFieldLeaves$Thing;", Cond.methodLink RX2 111 yX1_kind, Cond.instanceMethod yX1_kind, Cond.selects RX1 yX1_kind yX1_kind, Cond.code yX1_kind cX1_kind 5 (some .int)]
def wsX2_call : List Cond := .code yX2_call cX2_call 5 (some .int) :: ((wsX2_call_r1 ++ wsX2_call_r2) ++ wsX20 ++ wsX10)
def wsX2_thrown : List Cond := .code yX2_thrown cX2_thrown 2 (some .int) :: ([.fieldLink RX2 65 "FieldLeaves$Thing" "values" "[J", .methodLink RX2 61 yX2_failureAs, .static yX2_failureAs, .initialized RX2, .code yX2_failureAs cX2_failureAs 2 (some .int), .methodLink RX2 49 yX1_isOf, .instanceMethod yX1_isOf, .selects RX1 yX1_isOf yX1_isOf, .initialized RX1, .code yX1_isOf cX1_isOf 2 (some .boolean), .fieldLink RX1 15 "FieldLeaves$Thing" "classNumber" "I"] ++ wsX10)
def wsX2_raise : List Cond := .code yX2_raise cX2_raise 2 (some .int) :: ([.fieldLink RX2 11 "FieldLeaves" "slots" "[LFieldLeaves$Thing;", .methodLink RX2 34 yX2_isSlot, .static yX2_isSlot, .initialized RX2, .code yX2_isSlot cX2_isSlot 1 (some .boolean), .methodLink RX2 118 yX2_thrown, .static yX2_thrown, .code yX2_thrown cX2_thrown 2 (some .int), .fieldLink RX2 65 "FieldLeaves$Thing" "values" "[J", .methodLink RX2 61 yX2_failureAs, .static yX2_failureAs, .code yX2_failureAs cX2_failureAs 2 (some .int), .methodLink RX2 49 yX1_isOf, .instanceMethod yX1_isOf, .selects RX1 yX1_isOf yX1_isOf, .initialized RX1, .code yX1_isOf cX1_isOf 2 (some .boolean), .fieldLink RX1 15 "FieldLeaves$Thing" "classNumber" "I"] ++ wsX20 ++ wsX10)
def wsX2_passes : List Cond := .code yX2_passes cX2_passes 3 (some .int) :: ([.fieldLink RX2 121 "FieldLeaves" "passedCount" "I", .fieldLink RX2 11 "FieldLeaves" "slots" "[LFieldLeaves$Thing;", .methodLink RX2 34 yX2_isSlot, .static yX2_isSlot, .initialized RX2, .code yX2_isSlot cX2_isSlot 1 (some .boolean), .methodLink RX2 118 yX2_thrown, .static yX2_thrown, .code yX2_thrown cX2_thrown 2 (some .int), .fieldLink RX2 65 "FieldLeaves$Thing" "values" "[J", .methodLink RX2 61 yX2_failureAs, .static yX2_failureAs, .code yX2_failureAs cX2_failureAs 2 (some .int), .methodLink RX2 49 yX1_isOf, .instanceMethod yX1_isOf, .selects RX1 yX1_isOf yX1_isOf, .initialized RX1, .code yX1_isOf cX1_isOf 2 (some .boolean), .fieldLink RX1 15 "FieldLeaves$Thing" "classNumber" "I"] ++ wsX20 ++ wsX10)
def wsX2_passed : List Cond := .code yX2_passed cX2_passed 1 (some .int) :: ([.fieldLink RX2 121 "FieldLeaves" "passedCount" "I"] ++ wsX20)
def wsX2_numberOf : List Cond := .code yX2_numberOf cX2_numberOf 3 (some .int) :: ([.fieldLink RX2 188 "FieldLeaves" "foundCount" "I", .fieldLink RX2 28 "FieldLeaves" "found" "[LFieldLeaves$Thing;"] ++ wsX20)
def wsX2_addFound : List Cond := .code yX2_addFound cX2_addFound 2 (some .boolean) :: ([.fieldLink RX2 188 "FieldLeaves" "foundCount" "I", .fieldLink RX2 28 "FieldLeaves" "found" "[LFieldLeaves$Thing;", .methodLink RX2 204 yX2_numberOf, .instanceMethod yX2_numberOf, .selects RX2 yX2_numberOf yX2_numberOf, .initialized RX2, .code yX2_numberOf cX2_numberOf 3 (some .int)] ++ wsX20)
def wsX2_findFrom : List Cond := .code yX2_findFrom cX2_findFrom 4 (some .boolean) :: ([.fieldLink RX2 28 "FieldLeaves" "found" "[LFieldLeaves$Thing;", .fieldLink RX2 188 "FieldLeaves" "foundCount" "I", .fieldLink RX2 114 "FieldLeaves$Thing" "baseLink" "LFieldLeaves$Thing;", .fieldLink RX2 198 "FieldLeaves$Thing" "middleLink" "LFieldLeaves$Thing;", .fieldLink RX2 201 "FieldLeaves$Thing" "strayBack" "LFieldLeaves$Thing;", .methodLink RX2 195 yX2_addFound, .instanceMethod yX2_addFound, .selects RX2 yX2_addFound yX2_addFound, .initialized RX2, .code yX2_addFound cX2_addFound 2 (some .boolean), .methodLink RX2 204 yX2_numberOf, .instanceMethod yX2_numberOf, .selects RX2 yX2_numberOf yX2_numberOf, .code yX2_numberOf cX2_numberOf 3 (some .int)] ++ wsX20 ++ wsX10)
def wsX2_tellRow : List Cond := .code yX2_tellRow cX2_tellRow 5 (some .boolean) :: ([.methodLink RX2 207 yX0_add, .instanceMethod yX0_add, .selects RX0 yX0_add yX0_add, .initialized RX0, .code yX0_add cX0_add 5 (some .boolean), .fieldLink RX0 22 "FieldLeaves$LeafList" "size" "I", .fieldLink RX0 9 "FieldLeaves$LeafList" "numbers" "[I", .fieldLink RX0 15 "FieldLeaves$LeafList" "fields" "[I", .fieldLink RX0 18 "FieldLeaves$LeafList" "values" "[J"] ++ wsX00)
def wsX2_tellField_r1 : List Cond := [Cond.fieldLink RX2 28 "FieldLeaves" "found" "[LFieldLeaves$Thing;", Cond.fieldLink RX2 161 "FieldLeaves" "FORM" "[I", Cond.fieldLink RX2 91 "FieldLeaves$Thing" "ints" "[I", Cond.fieldLink RX2 65 "FieldLeaves$Thing" "values" "[J", Cond.methodLink RX2 87 yX1_held, Cond.instanceMethod yX1_held, Cond.selects RX1 yX1_held yX1_held, Cond.initialized RX1, Cond.code yX1_held cX1_held 2 (some (.object "FieldLeaves$Thing")), Cond.fieldLink RX1 19 "FieldLeaves$Thing" "baseLink" "LFieldLeaves$Thing;", Cond.fieldLink RX1 23 "FieldLeaves$Thing" "middleLink" "LFieldLeaves$Thing;", Cond.fieldLink RX1 26 "FieldLeaves$Thing" "strayBack" "LFieldLeaves$Thing;", Cond.methodLink RX2 204 yX2_numberOf, Cond.instanceMethod yX2_numberOf, Cond.selects RX2 yX2_numberOf yX2_numberOf, Cond.initialized RX2, Cond.code yX2_numberOf cX2_numberOf 3 (some .int), Cond.fieldLink RX2 188 "FieldLeaves" "foundCount" "I", Cond.methodLink RX2 207 yX0_add, Cond.instanceMethod yX0_add, Cond.selects RX0 yX0_add yX0_add, Cond.initialized RX0, Cond.code yX0_add cX0_add 5 (some .boolean), Cond.fieldLink RX0 22 "FieldLeaves$LeafList" "size" "I"]
def wsX2_tellField_r2 : List Cond := [Cond.fieldLink RX0 9 "FieldLeaves$LeafList" "numbers" "[I", Cond.fieldLink RX0 15 "FieldLeaves$LeafList" "fields" "[I", Cond.fieldLink RX0 18 "FieldLeaves$LeafList" "values" "[J", Cond.methodLink RX2 215 yX2_tellRow, Cond.static yX2_tellRow, Cond.code yX2_tellRow cX2_tellRow 5 (some .boolean)]
def wsX2_tellField : List Cond := .code yX2_tellField cX2_tellField 6 (some .boolean) :: ((wsX2_tellField_r1 ++ wsX2_tellField_r2) ++ wsX20 ++ wsX10 ++ wsX00)
def wsX2_tellObject_r1 : List Cond := [Cond.fieldLink RX2 28 "FieldLeaves" "found" "[LFieldLeaves$Thing;", Cond.fieldLink RX2 45 "FieldLeaves$Thing" "classNumber" "I", Cond.methodLink RX2 207 yX0_add, Cond.instanceMethod yX0_add, Cond.selects RX0 yX0_add yX0_add, Cond.initialized RX0, Cond.code yX0_add cX0_add 5 (some .boolean), Cond.fieldLink RX0 22 "FieldLeaves$LeafList" "size" "I", Cond.fieldLink RX0 9 "FieldLeaves$LeafList" "numbers" "[I", Cond.fieldLink RX0 15 "FieldLeaves$LeafList" "fields" "[I", Cond.fieldLink RX0 18 "FieldLeaves$LeafList" "values" "[J", Cond.methodLink RX2 211 yX2_tellField, Cond.instanceMethod yX2_tellField, Cond.selects RX2 yX2_tellField yX2_tellField, Cond.initialized RX2, Cond.code yX2_tellField cX2_tellField 6 (some .boolean), Cond.fieldLink RX2 161 "FieldLeaves" "FORM" "[I", Cond.fieldLink RX2 91 "FieldLeaves$Thing" "ints" "[I", Cond.fieldLink RX2 65 "FieldLeaves$Thing" "values" "[J", Cond.methodLink RX2 87 yX1_held, Cond.instanceMethod yX1_held, Cond.selects RX1 yX1_held yX1_held, Cond.initialized RX1, Cond.code yX1_held cX1_held 2 (some (.object "FieldLeaves$Thing"))]
def wsX2_tellObject_r2 : List Cond := [Cond.fieldLink RX1 19 "FieldLeaves$Thing" "baseLink" "LFieldLeaves$Thing;", Cond.fieldLink RX1 23 "FieldLeaves$Thing" "middleLink" "LFieldLeaves$Thing;", Cond.fieldLink RX1 26 "FieldLeaves$Thing" "strayBack" "LFieldLeaves$Thing;", Cond.methodLink RX2 204 yX2_numberOf, Cond.instanceMethod yX2_numberOf, Cond.selects RX2 yX2_numberOf yX2_numberOf, Cond.code yX2_numberOf cX2_numberOf 3 (some .int), Cond.fieldLink RX2 188 "FieldLeaves" "foundCount" "I", Cond.methodLink RX2 215 yX2_tellRow, Cond.static yX2_tellRow, Cond.code yX2_tellRow cX2_tellRow 5 (some .boolean)]
def wsX2_tellObject : List Cond := .code yX2_tellObject cX2_tellObject 6 (some .boolean) :: ((wsX2_tellObject_r1 ++ wsX2_tellObject_r2) ++ wsX20 ++ wsX10 ++ wsX00)
def wsX2_tell_r1 : List Cond := [Cond.fieldLink RX2 128 "FieldLeaves$LeafList" "size" "I", Cond.fieldLink RX2 188 "FieldLeaves" "foundCount" "I", Cond.methodLink RX2 184 yX2_findFrom, Cond.instanceMethod yX2_findFrom, Cond.selects RX2 yX2_findFrom yX2_findFrom, Cond.initialized RX2, Cond.code yX2_findFrom cX2_findFrom 4 (some .boolean), Cond.fieldLink RX2 28 "FieldLeaves" "found" "[LFieldLeaves$Thing;", Cond.fieldLink RX2 114 "FieldLeaves$Thing" "baseLink" "LFieldLeaves$Thing;", Cond.fieldLink RX2 198 "FieldLeaves$Thing" "middleLink" "LFieldLeaves$Thing;", Cond.fieldLink RX2 201 "FieldLeaves$Thing" "strayBack" "LFieldLeaves$Thing;", Cond.methodLink RX2 195 yX2_addFound, Cond.instanceMethod yX2_addFound, Cond.selects RX2 yX2_addFound yX2_addFound, Cond.code yX2_addFound cX2_addFound 2 (some .boolean), Cond.methodLink RX2 204 yX2_numberOf, Cond.instanceMethod yX2_numberOf, Cond.selects RX2 yX2_numberOf yX2_numberOf, Cond.code yX2_numberOf cX2_numberOf 3 (some .int), Cond.methodLink RX2 191 yX2_tellObject, Cond.instanceMethod yX2_tellObject, Cond.selects RX2 yX2_tellObject yX2_tellObject, Cond.code yX2_tellObject cX2_tellObject 6 (some .boolean), Cond.fieldLink RX2 45 "FieldLeaves$Thing" "classNumber" "I"]
def wsX2_tell_r2 : List Cond := [Cond.methodLink RX2 207 yX0_add, Cond.instanceMethod yX0_add, Cond.selects RX0 yX0_add yX0_add, Cond.initialized RX0, Cond.code yX0_add cX0_add 5 (some .boolean), Cond.fieldLink RX0 22 "FieldLeaves$LeafList" "size" "I", Cond.fieldLink RX0 9 "FieldLeaves$LeafList" "numbers" "[I", Cond.fieldLink RX0 15 "FieldLeaves$LeafList" "fields" "[I", Cond.fieldLink RX0 18 "FieldLeaves$LeafList" "values" "[J", Cond.methodLink RX2 211 yX2_tellField, Cond.instanceMethod yX2_tellField, Cond.selects RX2 yX2_tellField yX2_tellField, Cond.code yX2_tellField cX2_tellField 6 (some .boolean), Cond.fieldLink RX2 161 "FieldLeaves" "FORM" "[I", Cond.fieldLink RX2 91 "FieldLeaves$Thing" "ints" "[I", Cond.fieldLink RX2 65 "FieldLeaves$Thing" "values" "[J", Cond.methodLink RX2 87 yX1_held, Cond.instanceMethod yX1_held, Cond.selects RX1 yX1_held yX1_held, Cond.initialized RX1, Cond.code yX1_held cX1_held 2 (some (.object "FieldLeaves$Thing")), Cond.fieldLink RX1 19 "FieldLeaves$Thing" "baseLink" "LFieldLeaves$Thing;", Cond.fieldLink RX1 23 "FieldLeaves$Thing" "middleLink" "LFieldLeaves$Thing;", Cond.fieldLink RX1 26 "FieldLeaves$Thing" "strayBack" "LFieldLeaves$Thing;"]
def wsX2_tell_r3 : List Cond := [Cond.methodLink RX2 215 yX2_tellRow, Cond.static yX2_tellRow, Cond.code yX2_tellRow cX2_tellRow 5 (some .boolean)]
def wsX2_tell : List Cond := .code yX2_tell cX2_tell 4 (some .boolean) :: ((wsX2_tell_r1 ++ (wsX2_tell_r2 ++ wsX2_tell_r3)) ++ wsX00 ++ wsX20 ++ wsX10)
def wsX2_leaves_r1 : List Cond := [Cond.fieldLink RX2 11 "FieldLeaves" "slots" "[LFieldLeaves$Thing;", Cond.fieldLink RX2 22 "FieldLeaves" "spare" "LFieldLeaves$LeafList;", Cond.fieldLink RX2 18 "FieldLeaves" "current" "LFieldLeaves$LeafList;", Cond.fieldLink RX2 128 "FieldLeaves$LeafList" "size" "I", Cond.methodLink RX2 34 yX2_isSlot, Cond.static yX2_isSlot, Cond.initialized RX2, Cond.code yX2_isSlot cX2_isSlot 1 (some .boolean), Cond.methodLink RX2 124 yX2_tell, Cond.instanceMethod yX2_tell, Cond.selects RX2 yX2_tell yX2_tell, Cond.code yX2_tell cX2_tell 4 (some .boolean), Cond.fieldLink RX2 188 "FieldLeaves" "foundCount" "I", Cond.methodLink RX2 184 yX2_findFrom, Cond.instanceMethod yX2_findFrom, Cond.selects RX2 yX2_findFrom yX2_findFrom, Cond.code yX2_findFrom cX2_findFrom 4 (some .boolean), Cond.fieldLink RX2 28 "FieldLeaves" "found" "[LFieldLeaves$Thing;", Cond.fieldLink RX2 114 "FieldLeaves$Thing" "baseLink" "LFieldLeaves$Thing;", Cond.fieldLink RX2 198 "FieldLeaves$Thing" "middleLink" "LFieldLeaves$Thing;", Cond.fieldLink RX2 201 "FieldLeaves$Thing" "strayBack" "LFieldLeaves$Thing;", Cond.methodLink RX2 195 yX2_addFound, Cond.instanceMethod yX2_addFound, Cond.selects RX2 yX2_addFound yX2_addFound]
def wsX2_leaves_r2 : List Cond := [Cond.code yX2_addFound cX2_addFound 2 (some .boolean), Cond.methodLink RX2 204 yX2_numberOf, Cond.instanceMethod yX2_numberOf, Cond.selects RX2 yX2_numberOf yX2_numberOf, Cond.code yX2_numberOf cX2_numberOf 3 (some .int), Cond.methodLink RX2 191 yX2_tellObject, Cond.instanceMethod yX2_tellObject, Cond.selects RX2 yX2_tellObject yX2_tellObject, Cond.code yX2_tellObject cX2_tellObject 6 (some .boolean), Cond.fieldLink RX2 45 "FieldLeaves$Thing" "classNumber" "I", Cond.methodLink RX2 207 yX0_add, Cond.instanceMethod yX0_add, Cond.selects RX0 yX0_add yX0_add, Cond.initialized RX0, Cond.code yX0_add cX0_add 5 (some .boolean), Cond.fieldLink RX0 22 "FieldLeaves$LeafList" "size" "I", Cond.fieldLink RX0 9 "FieldLeaves$LeafList" "numbers" "[I", Cond.fieldLink RX0 15 "FieldLeaves$LeafList" "fields" "[I", Cond.fieldLink RX0 18 "FieldLeaves$LeafList" "values" "[J", Cond.methodLink RX2 211 yX2_tellField, Cond.instanceMethod yX2_tellField, Cond.selects RX2 yX2_tellField yX2_tellField, Cond.code yX2_tellField cX2_tellField 6 (some .boolean), Cond.fieldLink RX2 161 "FieldLeaves" "FORM" "[I"]
def wsX2_leaves_r3 : List Cond := [Cond.fieldLink RX2 91 "FieldLeaves$Thing" "ints" "[I", Cond.fieldLink RX2 65 "FieldLeaves$Thing" "values" "[J", Cond.methodLink RX2 87 yX1_held, Cond.instanceMethod yX1_held, Cond.selects RX1 yX1_held yX1_held, Cond.initialized RX1, Cond.code yX1_held cX1_held 2 (some (.object "FieldLeaves$Thing")), Cond.fieldLink RX1 19 "FieldLeaves$Thing" "baseLink" "LFieldLeaves$Thing;", Cond.fieldLink RX1 23 "FieldLeaves$Thing" "middleLink" "LFieldLeaves$Thing;", Cond.fieldLink RX1 26 "FieldLeaves$Thing" "strayBack" "LFieldLeaves$Thing;", Cond.methodLink RX2 215 yX2_tellRow, Cond.static yX2_tellRow, Cond.code yX2_tellRow cX2_tellRow 5 (some .boolean)]
def wsX2_leaves : List Cond := .code yX2_leaves cX2_leaves 4 (some .int) :: ((wsX2_leaves_r1 ++ (wsX2_leaves_r2 ++ wsX2_leaves_r3)) ++ wsX20 ++ wsX00 ++ wsX10)
def wsX2_leaf : List Cond := .code yX2_leaf cX2_leaf 3 (some .long) :: ([.fieldLink RX2 18 "FieldLeaves" "current" "LFieldLeaves$LeafList;", .constantLong RX2 55 (-1), .fieldLink RX2 134 "FieldLeaves$LeafList" "numbers" "[I", .fieldLink RX2 137 "FieldLeaves$LeafList" "fields" "[I", .fieldLink RX2 140 "FieldLeaves$LeafList" "values" "[J", .methodLink RX2 131 yX0_has, .instanceMethod yX0_has, .selects RX0 yX0_has yX0_has, .initialized RX0, .code yX0_has cX0_has 2 (some .boolean), .fieldLink RX0 22 "FieldLeaves$LeafList" "size" "I"] ++ wsX20 ++ wsX00)
def wsX2_alter : List Cond := .code yX2_alter cX2_alter 4 (some .int) :: ([.fieldLink RX2 18 "FieldLeaves" "current" "LFieldLeaves$LeafList;", .fieldLink RX2 137 "FieldLeaves$LeafList" "fields" "[I", .fieldLink RX2 140 "FieldLeaves$LeafList" "values" "[J", .methodLink RX2 131 yX0_has, .instanceMethod yX0_has, .selects RX0 yX0_has yX0_has, .initialized RX0, .code yX0_has cX0_has 2 (some .boolean), .fieldLink RX0 22 "FieldLeaves$LeafList" "size" "I"] ++ wsX20 ++ wsX00)
def wsX2_makeFromLeaves_r1 : List Cond := [Cond.fieldLink RX2 147 "FieldLeaves" "madeCount" "I", Cond.fieldLink RX2 18 "FieldLeaves" "current" "LFieldLeaves$LeafList;", Cond.fieldLink RX2 128 "FieldLeaves$LeafList" "size" "I", Cond.fieldLink RX2 137 "FieldLeaves$LeafList" "fields" "[I", Cond.fieldLink RX2 140 "FieldLeaves$LeafList" "values" "[J", Cond.fieldLink RX2 31 "FieldLeaves" "made" "[LFieldLeaves$Thing;", Cond.classLink RX2 9 RX1, Cond.instantiable RX1 6, Cond.initialized RX1, Cond.methodLink RX2 219 yX0_toldToMaker, Cond.instanceMethod yX0_toldToMaker, Cond.selects RX0 yX0_toldToMaker yX0_toldToMaker, Cond.initialized RX0, Cond.code yX0_toldToMaker cX0_toldToMaker 3 (some .int), Cond.fieldLink RX0 22 "FieldLeaves$LeafList" "size" "I", Cond.fieldLink RX0 15 "FieldLeaves$LeafList" "fields" "[I", Cond.fieldLink RX0 18 "FieldLeaves$LeafList" "values" "[J", Cond.static yX2_isFinal, Cond.initialized RX2, Cond.code yX2_isFinal cX2_isFinal 1 (some .boolean), Cond.static yX2_asTold, Cond.code yX2_asTold cX2_asTold 3 (some .long), Cond.fieldLink RX2 161 "FieldLeaves" "FORM" "[I", Cond.methodLink RX2 164 yX2_floatAsTold]
def wsX2_makeFromLeaves_r2 : List Cond := [Cond.static yX2_floatAsTold, Cond.code yX2_floatAsTold cX2_floatAsTold 1 (some .int), Cond.constant RX2 171 (2147483647), Cond.constant RX2 172 (2139095040), Cond.constant RX2 173 (2143289344), Cond.methodLink RX2 167 yX2_doubleAsTold, Cond.static yX2_doubleAsTold, Cond.code yX2_doubleAsTold cX2_doubleAsTold 2 (some .long), Cond.constantLong RX2 174 (9223372036854775807), Cond.constantLong RX2 176 (9218868437227405312), Cond.constantLong RX2 178 (9221120237041090560), Cond.methodLink RX2 38 yX2_makerTakes, Cond.static yX2_makerTakes, Cond.code yX2_makerTakes cX2_makerTakes 2 (some .boolean), Cond.methodLink RX2 42 yX1_init, Cond.instanceMethod yX1_init, Cond.code yX1_init cX1_init 3 none, Cond.methodLink RX1 3 objectInit, Cond.instanceMethod objectInit, Cond.code objectInit ⟨#[0xb1]⟩ 1 none, Cond.arrayClass .long, Cond.fieldLink RX1 9 "FieldLeaves$Thing" "values" "[J", Cond.fieldLink RX1 15 "FieldLeaves$Thing" "classNumber" "I"]
def wsX2_makeFromLeaves : List Cond := .code yX2_makeFromLeaves cX2_makeFromLeaves 4 (some .int) :: ((wsX2_makeFromLeaves_r1 ++ wsX2_makeFromLeaves_r2) ++ wsX20 ++ wsX00 ++ wsX10)
def wsX2_madeAs : List Cond := .code yX2_madeAs cX2_madeAs 3 (some (.object "FieldLeaves$Thing")) :: ([.fieldLink RX2 147 "FieldLeaves" "madeCount" "I", .fieldLink RX2 31 "FieldLeaves" "made" "[LFieldLeaves$Thing;"] ++ wsX20)
def wsX2_fillLink : List Cond := .code yX2_fillLink cX2_fillLink 6 (some .int) :: ([.methodLink RX2 222 yX2_madeAs, .instanceMethod yX2_madeAs, .selects RX2 yX2_madeAs yX2_madeAs, .initialized RX2, .code yX2_madeAs cX2_madeAs 3 (some (.object "FieldLeaves$Thing")), .fieldLink RX2 147 "FieldLeaves" "madeCount" "I", .fieldLink RX2 31 "FieldLeaves" "made" "[LFieldLeaves$Thing;", .methodLink RX2 79 yX2_wantedIn, .static yX2_wantedIn, .code yX2_wantedIn cX2_wantedIn 1 (some .int), .methodLink RX2 49 yX1_isOf, .instanceMethod yX1_isOf, .selects RX1 yX1_isOf yX1_isOf, .initialized RX1, .code yX1_isOf cX1_isOf 2 (some .boolean), .fieldLink RX1 15 "FieldLeaves$Thing" "classNumber" "I", .methodLink RX2 83 yX1_hold, .instanceMethod yX1_hold, .selects RX1 yX1_hold yX1_hold, .code yX1_hold cX1_hold 3 none, .fieldLink RX1 19 "FieldLeaves$Thing" "baseLink" "LFieldLeaves$Thing;", .fieldLink RX1 23 "FieldLeaves$Thing" "middleLink" "LFieldLeaves$Thing;", .fieldLink RX1 26 "FieldLeaves$Thing" "strayBack" "LFieldLeaves$Thing;"] ++ wsX20 ++ wsX10)
def wsX2_fillPlace : List Cond := .code yX2_fillPlace cX2_fillPlace 3 none :: ([])
def wsX2_fillField_r1 : List Cond := [Cond.constantLong RX2 233 (20), Cond.arrayClass .int, Cond.fieldLink RX2 91 "FieldLeaves$Thing" "ints" "[I", Cond.fieldLink RX2 65 "FieldLeaves$Thing" "values" "[J", Cond.methodLink RX2 76 yX2_isLinkField, Cond.static yX2_isLinkField, Cond.initialized RX2, Cond.code yX2_isLinkField cX2_isLinkField 1 (some .boolean), Cond.fieldLink RX2 161 "FieldLeaves" "FORM" "[I", Cond.methodLink RX2 158 yX2_isField, Cond.static yX2_isField, Cond.code yX2_isField cX2_isField 1 (some .boolean), Cond.methodLink RX2 230 yX2_fillLink, Cond.instanceMethod yX2_fillLink, Cond.selects RX2 yX2_fillLink yX2_fillLink, Cond.code yX2_fillLink cX2_fillLink 6 (some .int), Cond.methodLink RX2 222 yX2_madeAs, Cond.instanceMethod yX2_madeAs, Cond.selects RX2 yX2_madeAs yX2_madeAs, Cond.code yX2_madeAs cX2_madeAs 3 (some (.object "FieldLeaves$Thing")), Cond.fieldLink RX2 147 "FieldLeaves" "madeCount" "I", Cond.fieldLink RX2 31 "FieldLeaves" "made" "[LFieldLeaves$Thing;", Cond.methodLink RX2 79 yX2_wantedIn, Cond.static yX2_wantedIn]
def wsX2_fillField_r2 : List Cond := [Cond.code yX2_wantedIn cX2_wantedIn 1 (some .int), Cond.methodLink RX2 49 yX1_isOf, Cond.instanceMethod yX1_isOf, Cond.selects RX1 yX1_isOf yX1_isOf, Cond.initialized RX1, Cond.code yX1_isOf cX1_isOf 2 (some .boolean), Cond.fieldLink RX1 15 "FieldLeaves$Thing" "classNumber" "I", Cond.methodLink RX2 83 yX1_hold, Cond.instanceMethod yX1_hold, Cond.selects RX1 yX1_hold yX1_hold, Cond.code yX1_hold cX1_hold 3 none, Cond.fieldLink RX1 19 "FieldLeaves$Thing" "baseLink" "LFieldLeaves$Thing;", Cond.fieldLink RX1 23 "FieldLeaves$Thing" "middleLink" "LFieldLeaves$Thing;", Cond.fieldLink RX1 26 "FieldLeaves$Thing" "strayBack" "LFieldLeaves$Thing;", Cond.methodLink RX2 235 yX2_fillPlace, Cond.static yX2_fillPlace, Cond.code yX2_fillPlace cX2_fillPlace 3 none, Cond.methodLink RX2 52 yX2_isValueField, Cond.static yX2_isValueField, Cond.code yX2_isValueField cX2_isValueField 1 (some .boolean), Cond.methodLink RX2 69 yX2_isFinal, Cond.static yX2_isFinal, Cond.code yX2_isFinal cX2_isFinal 1 (some .boolean), Cond.methodLink RX2 72 yX2_asTold]
def wsX2_fillField_r3 : List Cond := [Cond.static yX2_asTold, Cond.code yX2_asTold cX2_asTold 3 (some .long), Cond.methodLink RX2 164 yX2_floatAsTold, Cond.static yX2_floatAsTold, Cond.code yX2_floatAsTold cX2_floatAsTold 1 (some .int), Cond.constant RX2 171 (2147483647), Cond.constant RX2 172 (2139095040), Cond.constant RX2 173 (2143289344), Cond.methodLink RX2 167 yX2_doubleAsTold, Cond.static yX2_doubleAsTold, Cond.code yX2_doubleAsTold cX2_doubleAsTold 2 (some .long), Cond.constantLong RX2 174 (9223372036854775807), Cond.constantLong RX2 176 (9218868437227405312), Cond.constantLong RX2 178 (9221120237041090560)]
def wsX2_fillField : List Cond := .code yX2_fillField cX2_fillField 5 (some .int) :: ((wsX2_fillField_r1 ++ (wsX2_fillField_r2 ++ wsX2_fillField_r3)) ++ wsX10 ++ wsX20)
def wsX2_fillFromLeaves_r1 : List Cond := [Cond.fieldLink RX2 18 "FieldLeaves" "current" "LFieldLeaves$LeafList;", Cond.fieldLink RX2 128 "FieldLeaves$LeafList" "size" "I", Cond.fieldLink RX2 134 "FieldLeaves$LeafList" "numbers" "[I", Cond.fieldLink RX2 137 "FieldLeaves$LeafList" "fields" "[I", Cond.fieldLink RX2 140 "FieldLeaves$LeafList" "values" "[J", Cond.methodLink RX2 222 yX2_madeAs, Cond.instanceMethod yX2_madeAs, Cond.selects RX2 yX2_madeAs yX2_madeAs, Cond.initialized RX2, Cond.code yX2_madeAs cX2_madeAs 3 (some (.object "FieldLeaves$Thing")), Cond.fieldLink RX2 147 "FieldLeaves" "madeCount" "I", Cond.fieldLink RX2 31 "FieldLeaves" "made" "[LFieldLeaves$Thing;", Cond.methodLink RX2 226 yX2_fillField, Cond.instanceMethod yX2_fillField, Cond.selects RX2 yX2_fillField yX2_fillField, Cond.code yX2_fillField cX2_fillField 5 (some .int), Cond.constantLong RX2 233 (20), Cond.arrayClass .int, Cond.fieldLink RX2 91 "FieldLeaves$Thing" "ints" "[I", Cond.fieldLink RX2 65 "FieldLeaves$Thing" "values" "[J", Cond.methodLink RX2 76 yX2_isLinkField, Cond.static yX2_isLinkField, Cond.code yX2_isLinkField cX2_isLinkField 1 (some .boolean), Cond.fieldLink RX2 161 "FieldLeaves" "FORM" "[I"]
def wsX2_fillFromLeaves_r2 : List Cond := [Cond.methodLink RX2 158 yX2_isField, Cond.static yX2_isField, Cond.code yX2_isField cX2_isField 1 (some .boolean), Cond.methodLink RX2 230 yX2_fillLink, Cond.instanceMethod yX2_fillLink, Cond.selects RX2 yX2_fillLink yX2_fillLink, Cond.code yX2_fillLink cX2_fillLink 6 (some .int), Cond.methodLink RX2 79 yX2_wantedIn, Cond.static yX2_wantedIn, Cond.code yX2_wantedIn cX2_wantedIn 1 (some .int), Cond.methodLink RX2 49 yX1_isOf, Cond.instanceMethod yX1_isOf, Cond.selects RX1 yX1_isOf yX1_isOf, Cond.initialized RX1, Cond.code yX1_isOf cX1_isOf 2 (some .boolean), Cond.fieldLink RX1 15 "FieldLeaves$Thing" "classNumber" "I", Cond.methodLink RX2 83 yX1_hold, Cond.instanceMethod yX1_hold, Cond.selects RX1 yX1_hold yX1_hold, Cond.code yX1_hold cX1_hold 3 none, Cond.fieldLink RX1 19 "FieldLeaves$Thing" "baseLink" "LFieldLeaves$Thing;", Cond.fieldLink RX1 23 "FieldLeaves$Thing" "middleLink" "LFieldLeaves$Thing;", Cond.fieldLink RX1 26 "FieldLeaves$Thing" "strayBack" "LFieldLeaves$Thing;", Cond.methodLink RX2 235 yX2_fillPlace]
def wsX2_fillFromLeaves_r3 : List Cond := [Cond.static yX2_fillPlace, Cond.code yX2_fillPlace cX2_fillPlace 3 none, Cond.methodLink RX2 52 yX2_isValueField, Cond.static yX2_isValueField, Cond.code yX2_isValueField cX2_isValueField 1 (some .boolean), Cond.methodLink RX2 69 yX2_isFinal, Cond.static yX2_isFinal, Cond.code yX2_isFinal cX2_isFinal 1 (some .boolean), Cond.methodLink RX2 72 yX2_asTold, Cond.static yX2_asTold, Cond.code yX2_asTold cX2_asTold 3 (some .long), Cond.methodLink RX2 164 yX2_floatAsTold, Cond.static yX2_floatAsTold, Cond.code yX2_floatAsTold cX2_floatAsTold 1 (some .int), Cond.constant RX2 171 (2147483647), Cond.constant RX2 172 (2139095040), Cond.constant RX2 173 (2143289344), Cond.methodLink RX2 167 yX2_doubleAsTold, Cond.static yX2_doubleAsTold, Cond.code yX2_doubleAsTold cX2_doubleAsTold 2 (some .long), Cond.constantLong RX2 174 (9223372036854775807), Cond.constantLong RX2 176 (9218868437227405312), Cond.constantLong RX2 178 (9221120237041090560)]
def wsX2_fillFromLeaves : List Cond := .code yX2_fillFromLeaves cX2_fillFromLeaves 4 (some .int) :: ((wsX2_fillFromLeaves_r1 ++ (wsX2_fillFromLeaves_r2 ++ wsX2_fillFromLeaves_r3)) ++ wsX20 ++ wsX00 ++ wsX10)
def wsX2_back_r1 : List Cond := [Cond.fieldLink RX2 18 "FieldLeaves" "current" "LFieldLeaves$LeafList;", Cond.fieldLink RX2 128 "FieldLeaves$LeafList" "size" "I", Cond.fieldLink RX2 11 "FieldLeaves" "slots" "[LFieldLeaves$Thing;", Cond.fieldLink RX2 31 "FieldLeaves" "made" "[LFieldLeaves$Thing;", Cond.fieldLink RX2 147 "FieldLeaves" "madeCount" "I", Cond.methodLink RX2 34 yX2_isSlot, Cond.static yX2_isSlot, Cond.initialized RX2, Cond.code yX2_isSlot cX2_isSlot 1 (some .boolean), Cond.methodLink RX2 141 yX2_makeFromLeaves, Cond.instanceMethod yX2_makeFromLeaves, Cond.selects RX2 yX2_makeFromLeaves yX2_makeFromLeaves, Cond.code yX2_makeFromLeaves cX2_makeFromLeaves 4 (some .int), Cond.fieldLink RX2 137 "FieldLeaves$LeafList" "fields" "[I", Cond.fieldLink RX2 140 "FieldLeaves$LeafList" "values" "[J", Cond.classLink RX2 9 RX1, Cond.instantiable RX1 6, Cond.initialized RX1, Cond.methodLink RX2 219 yX0_toldToMaker, Cond.instanceMethod yX0_toldToMaker, Cond.selects RX0 yX0_toldToMaker yX0_toldToMaker, Cond.initialized RX0, Cond.code yX0_toldToMaker cX0_toldToMaker 3 (some .int), Cond.fieldLink RX0 22 "FieldLeaves$LeafList" "size" "I"]
def wsX2_back_r2 : List Cond := [Cond.fieldLink RX0 15 "FieldLeaves$LeafList" "fields" "[I", Cond.fieldLink RX0 18 "FieldLeaves$LeafList" "values" "[J", Cond.static yX2_isFinal, Cond.code yX2_isFinal cX2_isFinal 1 (some .boolean), Cond.static yX2_asTold, Cond.code yX2_asTold cX2_asTold 3 (some .long), Cond.fieldLink RX2 161 "FieldLeaves" "FORM" "[I", Cond.methodLink RX2 164 yX2_floatAsTold, Cond.static yX2_floatAsTold, Cond.code yX2_floatAsTold cX2_floatAsTold 1 (some .int), Cond.constant RX2 171 (2147483647), Cond.constant RX2 172 (2139095040), Cond.constant RX2 173 (2143289344), Cond.methodLink RX2 167 yX2_doubleAsTold, Cond.static yX2_doubleAsTold, Cond.code yX2_doubleAsTold cX2_doubleAsTold 2 (some .long), Cond.constantLong RX2 174 (9223372036854775807), Cond.constantLong RX2 176 (9218868437227405312), Cond.constantLong RX2 178 (9221120237041090560), Cond.methodLink RX2 38 yX2_makerTakes, Cond.static yX2_makerTakes, Cond.code yX2_makerTakes cX2_makerTakes 2 (some .boolean), Cond.methodLink RX2 42 yX1_init, Cond.instanceMethod yX1_init]
def wsX2_back_r3 : List Cond := [Cond.code yX1_init cX1_init 3 none, Cond.methodLink RX1 3 objectInit, Cond.instanceMethod objectInit, Cond.code objectInit ⟨#[0xb1]⟩ 1 none, Cond.arrayClass .long, Cond.fieldLink RX1 9 "FieldLeaves$Thing" "values" "[J", Cond.fieldLink RX1 15 "FieldLeaves$Thing" "classNumber" "I", Cond.methodLink RX2 144 yX2_fillFromLeaves, Cond.instanceMethod yX2_fillFromLeaves, Cond.selects RX2 yX2_fillFromLeaves yX2_fillFromLeaves, Cond.code yX2_fillFromLeaves cX2_fillFromLeaves 4 (some .int), Cond.fieldLink RX2 134 "FieldLeaves$LeafList" "numbers" "[I", Cond.methodLink RX2 222 yX2_madeAs, Cond.instanceMethod yX2_madeAs, Cond.selects RX2 yX2_madeAs yX2_madeAs, Cond.code yX2_madeAs cX2_madeAs 3 (some (.object "FieldLeaves$Thing")), Cond.methodLink RX2 226 yX2_fillField, Cond.instanceMethod yX2_fillField, Cond.selects RX2 yX2_fillField yX2_fillField, Cond.code yX2_fillField cX2_fillField 5 (some .int), Cond.constantLong RX2 233 (20), Cond.arrayClass .int, Cond.fieldLink RX2 91 "FieldLeaves$Thing" "ints" "[I", Cond.fieldLink RX2 65 "FieldLeaves$Thing" "values" "[J"]
def wsX2_back_r4 : List Cond := [Cond.methodLink RX2 76 yX2_isLinkField, Cond.static yX2_isLinkField, Cond.code yX2_isLinkField cX2_isLinkField 1 (some .boolean), Cond.methodLink RX2 158 yX2_isField, Cond.static yX2_isField, Cond.code yX2_isField cX2_isField 1 (some .boolean), Cond.methodLink RX2 230 yX2_fillLink, Cond.instanceMethod yX2_fillLink, Cond.selects RX2 yX2_fillLink yX2_fillLink, Cond.code yX2_fillLink cX2_fillLink 6 (some .int), Cond.methodLink RX2 79 yX2_wantedIn, Cond.static yX2_wantedIn, Cond.code yX2_wantedIn cX2_wantedIn 1 (some .int), Cond.methodLink RX2 49 yX1_isOf, Cond.instanceMethod yX1_isOf, Cond.selects RX1 yX1_isOf yX1_isOf, Cond.code yX1_isOf cX1_isOf 2 (some .boolean), Cond.methodLink RX2 83 yX1_hold, Cond.instanceMethod yX1_hold, Cond.selects RX1 yX1_hold yX1_hold, Cond.code yX1_hold cX1_hold 3 none, Cond.fieldLink RX1 19 "FieldLeaves$Thing" "baseLink" "LFieldLeaves$Thing;", Cond.fieldLink RX1 23 "FieldLeaves$Thing" "middleLink" "LFieldLeaves$Thing;", Cond.fieldLink RX1 26 "FieldLeaves$Thing" "strayBack" "LFieldLeaves$Thing;"]
def wsX2_back_r5 : List Cond := [Cond.methodLink RX2 235 yX2_fillPlace, Cond.static yX2_fillPlace, Cond.code yX2_fillPlace cX2_fillPlace 3 none, Cond.methodLink RX2 52 yX2_isValueField, Cond.static yX2_isValueField, Cond.code yX2_isValueField cX2_isValueField 1 (some .boolean), Cond.methodLink RX2 69 yX2_isFinal, Cond.methodLink RX2 72 yX2_asTold]
def wsX2_back : List Cond := .code yX2_back cX2_back 3 (some .int) :: ((wsX2_back_r1 ++ (wsX2_back_r2 ++ (wsX2_back_r3 ++ (wsX2_back_r4 ++ wsX2_back_r5)))) ++ wsX20 ++ wsX00 ++ wsX10)
def wsX2_equal_r1 : List Cond := [Cond.fieldLink RX2 11 "FieldLeaves" "slots" "[LFieldLeaves$Thing;", Cond.fieldLink RX2 22 "FieldLeaves" "spare" "LFieldLeaves$LeafList;", Cond.fieldLink RX2 25 "FieldLeaves" "second" "LFieldLeaves$LeafList;", Cond.methodLink RX2 34 yX2_isSlot, Cond.static yX2_isSlot, Cond.initialized RX2, Cond.code yX2_isSlot cX2_isSlot 1 (some .boolean), Cond.methodLink RX2 124 yX2_tell, Cond.instanceMethod yX2_tell, Cond.selects RX2 yX2_tell yX2_tell, Cond.code yX2_tell cX2_tell 4 (some .boolean), Cond.fieldLink RX2 128 "FieldLeaves$LeafList" "size" "I", Cond.fieldLink RX2 188 "FieldLeaves" "foundCount" "I", Cond.methodLink RX2 184 yX2_findFrom, Cond.instanceMethod yX2_findFrom, Cond.selects RX2 yX2_findFrom yX2_findFrom, Cond.code yX2_findFrom cX2_findFrom 4 (some .boolean), Cond.fieldLink RX2 28 "FieldLeaves" "found" "[LFieldLeaves$Thing;", Cond.fieldLink RX2 114 "FieldLeaves$Thing" "baseLink" "LFieldLeaves$Thing;", Cond.fieldLink RX2 198 "FieldLeaves$Thing" "middleLink" "LFieldLeaves$Thing;", Cond.fieldLink RX2 201 "FieldLeaves$Thing" "strayBack" "LFieldLeaves$Thing;", Cond.methodLink RX2 195 yX2_addFound, Cond.instanceMethod yX2_addFound, Cond.selects RX2 yX2_addFound yX2_addFound]
def wsX2_equal_r2 : List Cond := [Cond.code yX2_addFound cX2_addFound 2 (some .boolean), Cond.methodLink RX2 204 yX2_numberOf, Cond.instanceMethod yX2_numberOf, Cond.selects RX2 yX2_numberOf yX2_numberOf, Cond.code yX2_numberOf cX2_numberOf 3 (some .int), Cond.methodLink RX2 191 yX2_tellObject, Cond.instanceMethod yX2_tellObject, Cond.selects RX2 yX2_tellObject yX2_tellObject, Cond.code yX2_tellObject cX2_tellObject 6 (some .boolean), Cond.fieldLink RX2 45 "FieldLeaves$Thing" "classNumber" "I", Cond.methodLink RX2 207 yX0_add, Cond.instanceMethod yX0_add, Cond.selects RX0 yX0_add yX0_add, Cond.initialized RX0, Cond.code yX0_add cX0_add 5 (some .boolean), Cond.fieldLink RX0 22 "FieldLeaves$LeafList" "size" "I", Cond.fieldLink RX0 9 "FieldLeaves$LeafList" "numbers" "[I", Cond.fieldLink RX0 15 "FieldLeaves$LeafList" "fields" "[I", Cond.fieldLink RX0 18 "FieldLeaves$LeafList" "values" "[J", Cond.methodLink RX2 211 yX2_tellField, Cond.instanceMethod yX2_tellField, Cond.selects RX2 yX2_tellField yX2_tellField, Cond.code yX2_tellField cX2_tellField 6 (some .boolean), Cond.fieldLink RX2 161 "FieldLeaves" "FORM" "[I"]
def wsX2_equal_r3 : List Cond := [Cond.fieldLink RX2 91 "FieldLeaves$Thing" "ints" "[I", Cond.fieldLink RX2 65 "FieldLeaves$Thing" "values" "[J", Cond.methodLink RX2 87 yX1_held, Cond.instanceMethod yX1_held, Cond.selects RX1 yX1_held yX1_held, Cond.initialized RX1, Cond.code yX1_held cX1_held 2 (some (.object "FieldLeaves$Thing")), Cond.fieldLink RX1 19 "FieldLeaves$Thing" "baseLink" "LFieldLeaves$Thing;", Cond.fieldLink RX1 23 "FieldLeaves$Thing" "middleLink" "LFieldLeaves$Thing;", Cond.fieldLink RX1 26 "FieldLeaves$Thing" "strayBack" "LFieldLeaves$Thing;", Cond.methodLink RX2 215 yX2_tellRow, Cond.static yX2_tellRow, Cond.code yX2_tellRow cX2_tellRow 5 (some .boolean), Cond.methodLink RX2 150 yX0_sameAs, Cond.instanceMethod yX0_sameAs, Cond.selects RX0 yX0_sameAs yX0_sameAs, Cond.code yX0_sameAs cX0_sameAs 3 (some .boolean)]
def wsX2_equal : List Cond := .code yX2_equal cX2_equal 5 (some .int) :: ((wsX2_equal_r1 ++ (wsX2_equal_r2 ++ wsX2_equal_r3)) ++ wsX20 ++ wsX00 ++ wsX10)
def wsX2_differInInts : List Cond := .code yX2_differInInts cX2_differInInts 3 (some .boolean) :: ([])
def wsX2_differ : List Cond := .code yX2_differ cX2_differ 3 (some .boolean) :: ([.fieldLink RX2 161 "FieldLeaves" "FORM" "[I", .fieldLink RX2 91 "FieldLeaves$Thing" "ints" "[I", .fieldLink RX2 65 "FieldLeaves$Thing" "values" "[J", .methodLink RX2 87 yX1_held, .instanceMethod yX1_held, .selects RX1 yX1_held yX1_held, .initialized RX1, .code yX1_held cX1_held 2 (some (.object "FieldLeaves$Thing")), .fieldLink RX1 19 "FieldLeaves$Thing" "baseLink" "LFieldLeaves$Thing;", .fieldLink RX1 23 "FieldLeaves$Thing" "middleLink" "LFieldLeaves$Thing;", .fieldLink RX1 26 "FieldLeaves$Thing" "strayBack" "LFieldLeaves$Thing;", .methodLink RX2 180 yX2_differInInts, .static yX2_differInInts, .initialized RX2, .code yX2_differInInts cX2_differInInts 3 (some .boolean)] ++ wsX10)
def wsX2_changed : List Cond := .code yX2_changed cX2_changed 8 (some .int) :: ([.fieldLink RX2 11 "FieldLeaves" "slots" "[LFieldLeaves$Thing;", .fieldLink RX2 45 "FieldLeaves$Thing" "classNumber" "I", .methodLink RX2 34 yX2_isSlot, .static yX2_isSlot, .initialized RX2, .code yX2_isSlot cX2_isSlot 1 (some .boolean), .methodLink RX2 154 yX2_differ, .static yX2_differ, .code yX2_differ cX2_differ 3 (some .boolean), .fieldLink RX2 161 "FieldLeaves" "FORM" "[I", .fieldLink RX2 91 "FieldLeaves$Thing" "ints" "[I", .fieldLink RX2 65 "FieldLeaves$Thing" "values" "[J", .methodLink RX2 87 yX1_held, .instanceMethod yX1_held, .selects RX1 yX1_held yX1_held, .initialized RX1, .code yX1_held cX1_held 2 (some (.object "FieldLeaves$Thing")), .fieldLink RX1 19 "FieldLeaves$Thing" "baseLink" "LFieldLeaves$Thing;", .fieldLink RX1 23 "FieldLeaves$Thing" "middleLink" "LFieldLeaves$Thing;", .fieldLink RX1 26 "FieldLeaves$Thing" "strayBack" "LFieldLeaves$Thing;", .methodLink RX2 180 yX2_differInInts, .static yX2_differInInts, .code yX2_differInInts cX2_differInInts 3 (some .boolean)] ++ wsX20 ++ wsX10)
def wsX3_init_r1 : List Cond := [Cond.methodLink RX3 1 objectInit, Cond.instanceMethod objectInit, Cond.code objectInit ⟨#[0xb1]⟩ 1 none, Cond.arrayClass .int, Cond.fieldLink RX3 7 "FieldLeavesModel" "slot" "[I", Cond.fieldLink RX3 13 "FieldLeavesModel" "classOf" "[I", Cond.constant RX3 16 (108800), Cond.arrayClass .long, Cond.fieldLink RX3 17 "FieldLeavesModel" "field" "[J", Cond.fieldLink RX3 21 "FieldLeavesModel" "rowSize" "[I", Cond.constant RX3 24 (128000), Cond.fieldLink RX3 25 "FieldLeavesModel" "rows" "[I", Cond.arrayClass .boolean, Cond.fieldLink RX3 28 "FieldLeavesModel" "isHeld" "[Z", Cond.fieldLink RX3 32 "FieldLeavesModel" "pile" "[I", Cond.fieldLink RX3 35 "FieldLeavesModel" "leafObject" "[I", Cond.fieldLink RX3 38 "FieldLeavesModel" "leafField" "[I", Cond.fieldLink RX3 41 "FieldLeavesModel" "leafValue" "[J", Cond.fieldLink RX3 44 "FieldLeavesModel" "found" "[I", Cond.fieldLink RX3 47 "FieldLeavesModel" "newObject" "[I", Cond.fieldLink RX3 50 "FieldLeavesModel" "newField" "[I", Cond.fieldLink RX3 53 "FieldLeavesModel" "newValue" "[J", Cond.fieldLink RX3 56 "FieldLeavesModel" "made" "[I", Cond.fieldLink RX3 59 "FieldLeavesModel" "oneObject" "[I"]
def wsX3_init_r2 : List Cond := [Cond.fieldLink RX3 62 "FieldLeavesModel" "oneField" "[I", Cond.fieldLink RX3 65 "FieldLeavesModel" "oneValue" "[J"]
def wsX3_init : List Cond := .code yX3_init cX3_init 2 none :: ((wsX3_init_r1 ++ wsX3_init_r2) ++ wsX30)
def wsX3_in : List Cond := .code yX3_in cX3_in 6 (some .boolean) :: ([])
def wsX3_isSlot : List Cond := .code yX3_isSlot cX3_isSlot 1 (some .boolean) :: ([.constantLong RX3 68 (11), .methodLink RX3 70 yX3_in, .static yX3_in, .initialized RX3, .code yX3_in cX3_in 6 (some .boolean)])
def wsX3_isLink : List Cond := .code yX3_isLink cX3_isLink 1 (some .boolean) :: ([])
def wsX3_has : List Cond := .code yX3_has cX3_has 2 (some .boolean) :: ([])
def wsX3_isBelow : List Cond := .code yX3_isBelow cX3_isBelow 2 (some .boolean) :: ([])
def wsX3_mayBeIn : List Cond := .code yX3_mayBeIn cX3_mayBeIn 2 (some .boolean) :: ([])
def wsX3_lookWhatIsHeld : List Cond := .code yX3_lookWhatIsHeld cX3_lookWhatIsHeld 5 none :: ([.fieldLink RX3 28 "FieldLeavesModel" "isHeld" "[Z", .fieldLink RX3 7 "FieldLeavesModel" "slot" "[I", .fieldLink RX3 32 "FieldLeavesModel" "pile" "[I", .fieldLink RX3 13 "FieldLeavesModel" "classOf" "[I", .fieldLink RX3 17 "FieldLeavesModel" "field" "[J", .methodLink RX3 74 yX3_isLink, .static yX3_isLink, .initialized RX3, .code yX3_isLink cX3_isLink 1 (some .boolean), .methodLink RX3 78 yX3_has, .static yX3_has, .code yX3_has cX3_has 2 (some .boolean)] ++ wsX30)
def wsX3_born : List Cond := .code yX3_born cX3_born 5 (some .int) :: ([.fieldLink RX3 28 "FieldLeavesModel" "isHeld" "[Z", .fieldLink RX3 13 "FieldLeavesModel" "classOf" "[I", .fieldLink RX3 17 "FieldLeavesModel" "field" "[J", .constantLong RX3 82 (-1), .fieldLink RX3 21 "FieldLeavesModel" "rowSize" "[I", .methodLink RX3 74 yX3_isLink, .static yX3_isLink, .initialized RX3, .code yX3_isLink cX3_isLink 1 (some .boolean)] ++ wsX30)
def wsX3_make_r1 : List Cond := [Cond.constantLong RX3 87 (4), Cond.constantLong RX3 89 (1000), Cond.fieldLink RX3 7 "FieldLeavesModel" "slot" "[I", Cond.methodLink RX3 84 yX3_isSlot, Cond.static yX3_isSlot, Cond.initialized RX3, Cond.code yX3_isSlot cX3_isSlot 1 (some .boolean), Cond.constantLong RX3 68 (11), Cond.methodLink RX3 70 yX3_in, Cond.static yX3_in, Cond.code yX3_in cX3_in 6 (some .boolean), Cond.methodLink RX3 91 yX3_lookWhatIsHeld, Cond.instanceMethod yX3_lookWhatIsHeld, Cond.selects RX3 yX3_lookWhatIsHeld yX3_lookWhatIsHeld, Cond.code yX3_lookWhatIsHeld cX3_lookWhatIsHeld 5 none, Cond.fieldLink RX3 28 "FieldLeavesModel" "isHeld" "[Z", Cond.fieldLink RX3 32 "FieldLeavesModel" "pile" "[I", Cond.fieldLink RX3 13 "FieldLeavesModel" "classOf" "[I", Cond.fieldLink RX3 17 "FieldLeavesModel" "field" "[J", Cond.methodLink RX3 74 yX3_isLink, Cond.static yX3_isLink, Cond.code yX3_isLink cX3_isLink 1 (some .boolean), Cond.methodLink RX3 78 yX3_has, Cond.static yX3_has]
def wsX3_make_r2 : List Cond := [Cond.code yX3_has cX3_has 2 (some .boolean), Cond.methodLink RX3 94 yX3_born, Cond.instanceMethod yX3_born, Cond.selects RX3 yX3_born yX3_born, Cond.code yX3_born cX3_born 5 (some .int), Cond.constantLong RX3 82 (-1), Cond.fieldLink RX3 21 "FieldLeavesModel" "rowSize" "[I"]
def wsX3_make : List Cond := .code yX3_make cX3_make 4 (some .int) :: ((wsX3_make_r1 ++ wsX3_make_r2) ++ wsX30)
def wsX3_clear : List Cond := .code yX3_clear cX3_clear 3 (some .int) :: ([.fieldLink RX3 7 "FieldLeavesModel" "slot" "[I", .methodLink RX3 84 yX3_isSlot, .static yX3_isSlot, .initialized RX3, .code yX3_isSlot cX3_isSlot 1 (some .boolean), .constantLong RX3 68 (11), .methodLink RX3 70 yX3_in, .static yX3_in, .code yX3_in cX3_in 6 (some .boolean)] ++ wsX30)
def wsX3_share : List Cond := .code yX3_share cX3_share 3 (some .int) :: ([.fieldLink RX3 7 "FieldLeavesModel" "slot" "[I", .methodLink RX3 84 yX3_isSlot, .static yX3_isSlot, .initialized RX3, .code yX3_isSlot cX3_isSlot 1 (some .boolean), .constantLong RX3 68 (11), .methodLink RX3 70 yX3_in, .static yX3_in, .code yX3_in cX3_in 6 (some .boolean)] ++ wsX30)
def wsX3_same : List Cond := .code yX3_same cX3_same 3 (some .int) :: ([.fieldLink RX3 7 "FieldLeavesModel" "slot" "[I", .methodLink RX3 84 yX3_isSlot, .static yX3_isSlot, .initialized RX3, .code yX3_isSlot cX3_isSlot 1 (some .boolean), .constantLong RX3 68 (11), .methodLink RX3 70 yX3_in, .static yX3_in, .code yX3_in cX3_in 6 (some .boolean)] ++ wsX30)
def wsX3_cls : List Cond := .code yX3_cls cX3_cls 2 (some .int) :: ([.fieldLink RX3 7 "FieldLeavesModel" "slot" "[I", .fieldLink RX3 13 "FieldLeavesModel" "classOf" "[I", .methodLink RX3 84 yX3_isSlot, .static yX3_isSlot, .initialized RX3, .code yX3_isSlot cX3_isSlot 1 (some .boolean), .constantLong RX3 68 (11), .methodLink RX3 70 yX3_in, .static yX3_in, .code yX3_in cX3_in 6 (some .boolean)] ++ wsX30)
def wsX3_is : List Cond := .code yX3_is cX3_is 3 (some .int) :: ([.constantLong RX3 98 (5), .fieldLink RX3 7 "FieldLeavesModel" "slot" "[I", .fieldLink RX3 13 "FieldLeavesModel" "classOf" "[I", .methodLink RX3 84 yX3_isSlot, .static yX3_isSlot, .initialized RX3, .code yX3_isSlot cX3_isSlot 1 (some .boolean), .constantLong RX3 68 (11), .methodLink RX3 70 yX3_in, .static yX3_in, .code yX3_in cX3_in 6 (some .boolean), .methodLink RX3 100 yX3_isBelow, .static yX3_isBelow, .code yX3_isBelow cX3_isBelow 2 (some .boolean)] ++ wsX30)
def wsX3_isPlain : List Cond := .code yX3_isPlain cX3_isPlain 1 (some .boolean) :: ([.constantLong RX3 103 (7), .constantLong RX3 105 (12), .constantLong RX3 107 (14), .methodLink RX3 70 yX3_in, .static yX3_in, .initialized RX3, .code yX3_in cX3_in 6 (some .boolean)])
def wsX3_valueOf : List Cond := .code yX3_valueOf cX3_valueOf 3 (some .long) :: ([.constantLong RX3 109 (65535), .constant RX3 111 (2147483647), .constant RX3 112 (2139095040), .constantLong RX3 113 (2143289344), .constantLong RX3 115 (9223372036854775807), .constantLong RX3 117 (9218868437227405312), .constantLong RX3 119 (9221120237041090560)])
def wsX3_isOther : List Cond := .code yX3_isOther cX3_isOther 3 (some .boolean) :: ([.fieldLink RX3 7 "FieldLeavesModel" "slot" "[I", .fieldLink RX3 13 "FieldLeavesModel" "classOf" "[I", .methodLink RX3 78 yX3_has, .static yX3_has, .initialized RX3, .code yX3_has cX3_has 2 (some .boolean)] ++ wsX30)
def wsX3_get_r1 : List Cond := [Cond.constantLong RX3 82 (-1), Cond.fieldLink RX3 7 "FieldLeavesModel" "slot" "[I", Cond.constantLong RX3 124 (-11), Cond.constantLong RX3 129 (-14), Cond.fieldLink RX3 17 "FieldLeavesModel" "field" "[J", Cond.methodLink RX3 84 yX3_isSlot, Cond.static yX3_isSlot, Cond.initialized RX3, Cond.code yX3_isSlot cX3_isSlot 1 (some .boolean), Cond.constantLong RX3 68 (11), Cond.methodLink RX3 70 yX3_in, Cond.static yX3_in, Cond.code yX3_in cX3_in 6 (some .boolean), Cond.methodLink RX3 121 yX3_isPlain, Cond.static yX3_isPlain, Cond.code yX3_isPlain cX3_isPlain 1 (some .boolean), Cond.constantLong RX3 103 (7), Cond.constantLong RX3 105 (12), Cond.constantLong RX3 107 (14), Cond.methodLink RX3 126 yX3_isOther, Cond.instanceMethod yX3_isOther, Cond.selects RX3 yX3_isOther yX3_isOther, Cond.code yX3_isOther cX3_isOther 3 (some .boolean), Cond.fieldLink RX3 13 "FieldLeavesModel" "classOf" "[I"]
def wsX3_get_r2 : List Cond := [Cond.methodLink RX3 78 yX3_has, Cond.static yX3_has, Cond.code yX3_has cX3_has 2 (some .boolean)]
def wsX3_get : List Cond := .code yX3_get cX3_get 3 (some .long) :: ((wsX3_get_r1 ++ wsX3_get_r2) ++ wsX30)
def wsX3_set_r1 : List Cond := [Cond.fieldLink RX3 7 "FieldLeavesModel" "slot" "[I", Cond.fieldLink RX3 17 "FieldLeavesModel" "field" "[J", Cond.methodLink RX3 84 yX3_isSlot, Cond.static yX3_isSlot, Cond.initialized RX3, Cond.code yX3_isSlot cX3_isSlot 1 (some .boolean), Cond.constantLong RX3 68 (11), Cond.methodLink RX3 70 yX3_in, Cond.static yX3_in, Cond.code yX3_in cX3_in 6 (some .boolean), Cond.methodLink RX3 121 yX3_isPlain, Cond.static yX3_isPlain, Cond.code yX3_isPlain cX3_isPlain 1 (some .boolean), Cond.constantLong RX3 103 (7), Cond.constantLong RX3 105 (12), Cond.constantLong RX3 107 (14), Cond.methodLink RX3 126 yX3_isOther, Cond.instanceMethod yX3_isOther, Cond.selects RX3 yX3_isOther yX3_isOther, Cond.code yX3_isOther cX3_isOther 3 (some .boolean), Cond.fieldLink RX3 13 "FieldLeavesModel" "classOf" "[I", Cond.methodLink RX3 78 yX3_has, Cond.static yX3_has, Cond.code yX3_has cX3_has 2 (some .boolean)]
def wsX3_set_r2 : List Cond := [Cond.methodLink RX3 131 yX3_valueOf, Cond.static yX3_valueOf, Cond.code yX3_valueOf cX3_valueOf 3 (some .long), Cond.constantLong RX3 109 (65535), Cond.constant RX3 111 (2147483647), Cond.constant RX3 112 (2139095040), Cond.constantLong RX3 113 (2143289344), Cond.constantLong RX3 115 (9223372036854775807), Cond.constantLong RX3 117 (9218868437227405312), Cond.constantLong RX3 119 (9221120237041090560)]
def wsX3_set : List Cond := .code yX3_set cX3_set 5 (some .int) :: ((wsX3_set_r1 ++ wsX3_set_r2) ++ wsX30)
def wsX3_link : List Cond := .code yX3_link cX3_link 4 (some .int) :: ([.fieldLink RX3 7 "FieldLeavesModel" "slot" "[I", .fieldLink RX3 13 "FieldLeavesModel" "classOf" "[I", .fieldLink RX3 17 "FieldLeavesModel" "field" "[J", .methodLink RX3 84 yX3_isSlot, .static yX3_isSlot, .initialized RX3, .code yX3_isSlot cX3_isSlot 1 (some .boolean), .constantLong RX3 68 (11), .methodLink RX3 70 yX3_in, .static yX3_in, .code yX3_in cX3_in 6 (some .boolean), .methodLink RX3 74 yX3_isLink, .static yX3_isLink, .code yX3_isLink cX3_isLink 1 (some .boolean), .methodLink RX3 126 yX3_isOther, .instanceMethod yX3_isOther, .selects RX3 yX3_isOther yX3_isOther, .code yX3_isOther cX3_isOther 3 (some .boolean), .methodLink RX3 78 yX3_has, .static yX3_has, .code yX3_has cX3_has 2 (some .boolean), .methodLink RX3 135 yX3_mayBeIn, .static yX3_mayBeIn, .code yX3_mayBeIn cX3_mayBeIn 2 (some .boolean)] ++ wsX30)
def wsX3_follow : List Cond := .code yX3_follow cX3_follow 4 (some .int) :: ([.fieldLink RX3 7 "FieldLeavesModel" "slot" "[I", .fieldLink RX3 17 "FieldLeavesModel" "field" "[J", .methodLink RX3 84 yX3_isSlot, .static yX3_isSlot, .initialized RX3, .code yX3_isSlot cX3_isSlot 1 (some .boolean), .constantLong RX3 68 (11), .methodLink RX3 70 yX3_in, .static yX3_in, .code yX3_in cX3_in 6 (some .boolean), .methodLink RX3 74 yX3_isLink, .static yX3_isLink, .code yX3_isLink cX3_isLink 1 (some .boolean), .methodLink RX3 126 yX3_isOther, .instanceMethod yX3_isOther, .selects RX3 yX3_isOther yX3_isOther, .code yX3_isOther cX3_isOther 3 (some .boolean), .fieldLink RX3 13 "FieldLeavesModel" "classOf" "[I", .methodLink RX3 78 yX3_has, .static yX3_has, .code yX3_has cX3_has 2 (some .boolean)] ++ wsX30)
def wsX3_row : List Cond := .code yX3_row cX3_row 4 (some .int) :: ([.fieldLink RX3 7 "FieldLeavesModel" "slot" "[I", .fieldLink RX3 21 "FieldLeavesModel" "rowSize" "[I", .fieldLink RX3 25 "FieldLeavesModel" "rows" "[I", .methodLink RX3 84 yX3_isSlot, .static yX3_isSlot, .initialized RX3, .code yX3_isSlot cX3_isSlot 1 (some .boolean), .constantLong RX3 68 (11), .methodLink RX3 70 yX3_in, .static yX3_in, .code yX3_in cX3_in 6 (some .boolean), .methodLink RX3 126 yX3_isOther, .instanceMethod yX3_isOther, .selects RX3 yX3_isOther yX3_isOther, .code yX3_isOther cX3_isOther 3 (some .boolean), .fieldLink RX3 13 "FieldLeavesModel" "classOf" "[I", .methodLink RX3 78 yX3_has, .static yX3_has, .code yX3_has cX3_has 2 (some .boolean)] ++ wsX30)
def wsX3_rowless : List Cond := .code yX3_rowless cX3_rowless 2 (some .int) :: ([.fieldLink RX3 7 "FieldLeavesModel" "slot" "[I", .fieldLink RX3 21 "FieldLeavesModel" "rowSize" "[I", .methodLink RX3 126 yX3_isOther, .instanceMethod yX3_isOther, .selects RX3 yX3_isOther yX3_isOther, .initialized RX3, .code yX3_isOther cX3_isOther 3 (some .boolean), .fieldLink RX3 13 "FieldLeavesModel" "classOf" "[I", .methodLink RX3 78 yX3_has, .static yX3_has, .code yX3_has cX3_has 2 (some .boolean)] ++ wsX30)
def wsX3_put : List Cond := .code yX3_put cX3_put 6 (some .int) :: ([.fieldLink RX3 21 "FieldLeavesModel" "rowSize" "[I", .fieldLink RX3 7 "FieldLeavesModel" "slot" "[I", .fieldLink RX3 25 "FieldLeavesModel" "rows" "[I", .methodLink RX3 84 yX3_isSlot, .static yX3_isSlot, .initialized RX3, .code yX3_isSlot cX3_isSlot 1 (some .boolean), .constantLong RX3 68 (11), .methodLink RX3 70 yX3_in, .static yX3_in, .code yX3_in cX3_in 6 (some .boolean), .methodLink RX3 138 yX3_rowless, .instanceMethod yX3_rowless, .selects RX3 yX3_rowless yX3_rowless, .code yX3_rowless cX3_rowless 2 (some .int), .methodLink RX3 126 yX3_isOther, .instanceMethod yX3_isOther, .selects RX3 yX3_isOther yX3_isOther, .code yX3_isOther cX3_isOther 3 (some .boolean), .fieldLink RX3 13 "FieldLeavesModel" "classOf" "[I", .methodLink RX3 78 yX3_has, .static yX3_has, .code yX3_has cX3_has 2 (some .boolean)] ++ wsX30)
def wsX3_length : List Cond := .code yX3_length cX3_length 3 (some .int) :: ([.fieldLink RX3 21 "FieldLeavesModel" "rowSize" "[I", .fieldLink RX3 7 "FieldLeavesModel" "slot" "[I", .methodLink RX3 84 yX3_isSlot, .static yX3_isSlot, .initialized RX3, .code yX3_isSlot cX3_isSlot 1 (some .boolean), .constantLong RX3 68 (11), .methodLink RX3 70 yX3_in, .static yX3_in, .code yX3_in cX3_in 6 (some .boolean), .methodLink RX3 138 yX3_rowless, .instanceMethod yX3_rowless, .selects RX3 yX3_rowless yX3_rowless, .code yX3_rowless cX3_rowless 2 (some .int), .methodLink RX3 126 yX3_isOther, .instanceMethod yX3_isOther, .selects RX3 yX3_isOther yX3_isOther, .code yX3_isOther cX3_isOther 3 (some .boolean), .fieldLink RX3 13 "FieldLeavesModel" "classOf" "[I", .methodLink RX3 78 yX3_has, .static yX3_has, .code yX3_has cX3_has 2 (some .boolean)] ++ wsX30)
def wsX3_count : List Cond := .code yX3_count cX3_count 3 (some .long) :: ([.constantLong RX3 142 (2), .constantLong RX3 82 (-1), .fieldLink RX3 7 "FieldLeavesModel" "slot" "[I", .constantLong RX3 124 (-11), .fieldLink RX3 13 "FieldLeavesModel" "classOf" "[I", .fieldLink RX3 17 "FieldLeavesModel" "field" "[J", .constantLong RX3 129 (-14), .methodLink RX3 84 yX3_isSlot, .static yX3_isSlot, .initialized RX3, .code yX3_isSlot cX3_isSlot 1 (some .boolean), .constantLong RX3 68 (11), .methodLink RX3 70 yX3_in, .static yX3_in, .code yX3_in cX3_in 6 (some .boolean), .methodLink RX3 100 yX3_isBelow, .static yX3_isBelow, .code yX3_isBelow cX3_isBelow 2 (some .boolean)] ++ wsX30)
def wsX3_nameOf : List Cond := .code yX3_nameOf cX3_nameOf 4 (some .int) :: ([.fieldLink RX3 17 "FieldLeavesModel" "field" "[J", .fieldLink RX3 13 "FieldLeavesModel" "classOf" "[I"] ++ wsX30)
def wsX3_depthOf : List Cond := .code yX3_depthOf cX3_depthOf 5 (some .int) :: ([.fieldLink RX3 13 "FieldLeavesModel" "classOf" "[I", .fieldLink RX3 17 "FieldLeavesModel" "field" "[J"] ++ wsX30)
def wsX3_kindOf : List Cond := .code yX3_kindOf cX3_kindOf 6 (some .int) :: ([.fieldLink RX3 13 "FieldLeavesModel" "classOf" "[I", .fieldLink RX3 17 "FieldLeavesModel" "field" "[J"] ++ wsX30)
def wsX3_call_r1 : List Cond := [Cond.constantLong RX3 87 (4), Cond.fieldLink RX3 7 "FieldLeavesModel" "slot" "[I", Cond.fieldLink RX3 13 "FieldLeavesModel" "classOf" "[I", Cond.fieldLink RX3 17 "FieldLeavesModel" "field" "[J", Cond.methodLink RX3 84 yX3_isSlot, Cond.static yX3_isSlot, Cond.initialized RX3, Cond.code yX3_isSlot cX3_isSlot 1 (some .boolean), Cond.constantLong RX3 68 (11), Cond.methodLink RX3 70 yX3_in, Cond.static yX3_in, Cond.code yX3_in cX3_in 6 (some .boolean), Cond.methodLink RX3 100 yX3_isBelow, Cond.static yX3_isBelow, Cond.code yX3_isBelow cX3_isBelow 2 (some .boolean), Cond.methodLink RX3 144 yX3_nameOf, Cond.instanceMethod yX3_nameOf, Cond.selects RX3 yX3_nameOf yX3_nameOf, Cond.code yX3_nameOf cX3_nameOf 4 (some .int), Cond.methodLink RX3 147 yX3_depthOf, Cond.instanceMethod yX3_depthOf, Cond.selects RX3 yX3_depthOf yX3_depthOf, Cond.code yX3_depthOf cX3_depthOf 5 (some .int), Cond.methodLink RX3 150 yX3_kindOf]
def wsX3_call_r2 : List Cond := [Cond.instanceMethod yX3_kindOf, Cond.selects RX3 yX3_kindOf yX3_kindOf, Cond.code yX3_kindOf cX3_kindOf 6 (some .int)]
def wsX3_call : List Cond := .code yX3_call cX3_call 5 (some .int) :: ((wsX3_call_r1 ++ wsX3_call_r2) ++ wsX30)
def wsX3_raise : List Cond := .code yX3_raise cX3_raise 3 (some .int) :: ([.fieldLink RX3 7 "FieldLeavesModel" "slot" "[I", .fieldLink RX3 13 "FieldLeavesModel" "classOf" "[I", .fieldLink RX3 17 "FieldLeavesModel" "field" "[J", .methodLink RX3 84 yX3_isSlot, .static yX3_isSlot, .initialized RX3, .code yX3_isSlot cX3_isSlot 1 (some .boolean), .constantLong RX3 68 (11), .methodLink RX3 70 yX3_in, .static yX3_in, .code yX3_in cX3_in 6 (some .boolean)] ++ wsX30)
def wsX3_passes : List Cond := .code yX3_passes cX3_passes 3 (some .int) :: ([.constantLong RX3 105 (12), .fieldLink RX3 153 "FieldLeavesModel" "passed" "I", .methodLink RX3 84 yX3_isSlot, .static yX3_isSlot, .initialized RX3, .code yX3_isSlot cX3_isSlot 1 (some .boolean), .constantLong RX3 68 (11), .methodLink RX3 70 yX3_in, .static yX3_in, .code yX3_in cX3_in 6 (some .boolean), .methodLink RX3 157 yX3_raise, .instanceMethod yX3_raise, .selects RX3 yX3_raise yX3_raise, .code yX3_raise cX3_raise 3 (some .int), .fieldLink RX3 7 "FieldLeavesModel" "slot" "[I", .fieldLink RX3 13 "FieldLeavesModel" "classOf" "[I", .fieldLink RX3 17 "FieldLeavesModel" "field" "[J"] ++ wsX30)
def wsX3_passed : List Cond := .code yX3_passed cX3_passed 1 (some .int) :: ([.fieldLink RX3 153 "FieldLeavesModel" "passed" "I"] ++ wsX30)
def wsX3_tell : List Cond := .code yX3_tell cX3_tell 5 none :: ([.fieldLink RX3 160 "FieldLeavesModel" "newMany" "I", .fieldLink RX3 163 "FieldLeavesModel" "isRoom" "Z", .fieldLink RX3 47 "FieldLeavesModel" "newObject" "[I", .fieldLink RX3 50 "FieldLeavesModel" "newField" "[I", .fieldLink RX3 53 "FieldLeavesModel" "newValue" "[J"] ++ wsX30)
def wsX3_numberOf : List Cond := .code yX3_numberOf cX3_numberOf 3 (some .int) :: ([.fieldLink RX3 167 "FieldLeavesModel" "foundMany" "I", .fieldLink RX3 44 "FieldLeavesModel" "found" "[I"] ++ wsX30)
def wsX3_tellObject_r1 : List Cond := [Cond.fieldLink RX3 13 "FieldLeavesModel" "classOf" "[I", Cond.fieldLink RX3 17 "FieldLeavesModel" "field" "[J", Cond.fieldLink RX3 21 "FieldLeavesModel" "rowSize" "[I", Cond.fieldLink RX3 25 "FieldLeavesModel" "rows" "[I", Cond.constantLong RX3 82 (-1), Cond.methodLink RX3 177 yX3_tell, Cond.instanceMethod yX3_tell, Cond.selects RX3 yX3_tell yX3_tell, Cond.initialized RX3, Cond.code yX3_tell cX3_tell 5 none, Cond.fieldLink RX3 160 "FieldLeavesModel" "newMany" "I", Cond.fieldLink RX3 163 "FieldLeavesModel" "isRoom" "Z", Cond.fieldLink RX3 47 "FieldLeavesModel" "newObject" "[I", Cond.fieldLink RX3 50 "FieldLeavesModel" "newField" "[I", Cond.fieldLink RX3 53 "FieldLeavesModel" "newValue" "[J", Cond.methodLink RX3 78 yX3_has, Cond.static yX3_has, Cond.code yX3_has cX3_has 2 (some .boolean), Cond.methodLink RX3 74 yX3_isLink, Cond.static yX3_isLink, Cond.code yX3_isLink cX3_isLink 1 (some .boolean), Cond.methodLink RX3 170 yX3_numberOf, Cond.instanceMethod yX3_numberOf, Cond.selects RX3 yX3_numberOf yX3_numberOf]
def wsX3_tellObject_r2 : List Cond := [Cond.code yX3_numberOf cX3_numberOf 3 (some .int), Cond.fieldLink RX3 167 "FieldLeavesModel" "foundMany" "I", Cond.fieldLink RX3 44 "FieldLeavesModel" "found" "[I"]
def wsX3_tellObject : List Cond := .code yX3_tellObject cX3_tellObject 7 none :: ((wsX3_tellObject_r1 ++ wsX3_tellObject_r2) ++ wsX30)
def wsX3_find_r1 : List Cond := [Cond.fieldLink RX3 167 "FieldLeavesModel" "foundMany" "I", Cond.fieldLink RX3 44 "FieldLeavesModel" "found" "[I", Cond.fieldLink RX3 160 "FieldLeavesModel" "newMany" "I", Cond.fieldLink RX3 163 "FieldLeavesModel" "isRoom" "Z", Cond.fieldLink RX3 13 "FieldLeavesModel" "classOf" "[I", Cond.fieldLink RX3 17 "FieldLeavesModel" "field" "[J", Cond.methodLink RX3 74 yX3_isLink, Cond.static yX3_isLink, Cond.initialized RX3, Cond.code yX3_isLink cX3_isLink 1 (some .boolean), Cond.methodLink RX3 78 yX3_has, Cond.static yX3_has, Cond.code yX3_has cX3_has 2 (some .boolean), Cond.methodLink RX3 170 yX3_numberOf, Cond.instanceMethod yX3_numberOf, Cond.selects RX3 yX3_numberOf yX3_numberOf, Cond.code yX3_numberOf cX3_numberOf 3 (some .int), Cond.methodLink RX3 173 yX3_tellObject, Cond.instanceMethod yX3_tellObject, Cond.selects RX3 yX3_tellObject yX3_tellObject, Cond.code yX3_tellObject cX3_tellObject 7 none, Cond.fieldLink RX3 21 "FieldLeavesModel" "rowSize" "[I", Cond.fieldLink RX3 25 "FieldLeavesModel" "rows" "[I", Cond.constantLong RX3 82 (-1)]
def wsX3_find_r2 : List Cond := [Cond.methodLink RX3 177 yX3_tell, Cond.instanceMethod yX3_tell, Cond.selects RX3 yX3_tell yX3_tell, Cond.code yX3_tell cX3_tell 5 none, Cond.fieldLink RX3 47 "FieldLeavesModel" "newObject" "[I", Cond.fieldLink RX3 50 "FieldLeavesModel" "newField" "[I", Cond.fieldLink RX3 53 "FieldLeavesModel" "newValue" "[J"]
def wsX3_find : List Cond := .code yX3_find cX3_find 6 (some .boolean) :: ((wsX3_find_r1 ++ wsX3_find_r2) ++ wsX30)
def wsX3_leaves_r1 : List Cond := [Cond.fieldLink RX3 7 "FieldLeavesModel" "slot" "[I", Cond.fieldLink RX3 160 "FieldLeavesModel" "newMany" "I", Cond.fieldLink RX3 184 "FieldLeavesModel" "leafMany" "I", Cond.fieldLink RX3 35 "FieldLeavesModel" "leafObject" "[I", Cond.fieldLink RX3 47 "FieldLeavesModel" "newObject" "[I", Cond.fieldLink RX3 38 "FieldLeavesModel" "leafField" "[I", Cond.fieldLink RX3 50 "FieldLeavesModel" "newField" "[I", Cond.fieldLink RX3 41 "FieldLeavesModel" "leafValue" "[J", Cond.fieldLink RX3 53 "FieldLeavesModel" "newValue" "[J", Cond.methodLink RX3 84 yX3_isSlot, Cond.static yX3_isSlot, Cond.initialized RX3, Cond.code yX3_isSlot cX3_isSlot 1 (some .boolean), Cond.constantLong RX3 68 (11), Cond.methodLink RX3 70 yX3_in, Cond.static yX3_in, Cond.code yX3_in cX3_in 6 (some .boolean), Cond.methodLink RX3 181 yX3_find, Cond.instanceMethod yX3_find, Cond.selects RX3 yX3_find yX3_find, Cond.code yX3_find cX3_find 6 (some .boolean), Cond.fieldLink RX3 167 "FieldLeavesModel" "foundMany" "I", Cond.fieldLink RX3 44 "FieldLeavesModel" "found" "[I", Cond.fieldLink RX3 163 "FieldLeavesModel" "isRoom" "Z"]
def wsX3_leaves_r2 : List Cond := [Cond.fieldLink RX3 13 "FieldLeavesModel" "classOf" "[I", Cond.fieldLink RX3 17 "FieldLeavesModel" "field" "[J", Cond.methodLink RX3 74 yX3_isLink, Cond.static yX3_isLink, Cond.code yX3_isLink cX3_isLink 1 (some .boolean), Cond.methodLink RX3 78 yX3_has, Cond.static yX3_has, Cond.code yX3_has cX3_has 2 (some .boolean), Cond.methodLink RX3 170 yX3_numberOf, Cond.instanceMethod yX3_numberOf, Cond.selects RX3 yX3_numberOf yX3_numberOf, Cond.code yX3_numberOf cX3_numberOf 3 (some .int), Cond.methodLink RX3 173 yX3_tellObject, Cond.instanceMethod yX3_tellObject, Cond.selects RX3 yX3_tellObject yX3_tellObject, Cond.code yX3_tellObject cX3_tellObject 7 none, Cond.fieldLink RX3 21 "FieldLeavesModel" "rowSize" "[I", Cond.fieldLink RX3 25 "FieldLeavesModel" "rows" "[I", Cond.constantLong RX3 82 (-1), Cond.methodLink RX3 177 yX3_tell, Cond.instanceMethod yX3_tell, Cond.selects RX3 yX3_tell yX3_tell, Cond.code yX3_tell cX3_tell 5 none]
def wsX3_leaves : List Cond := .code yX3_leaves cX3_leaves 3 (some .int) :: ((wsX3_leaves_r1 ++ wsX3_leaves_r2) ++ wsX30)
def wsX3_leaf : List Cond := .code yX3_leaf cX3_leaf 3 (some .long) :: ([.fieldLink RX3 184 "FieldLeavesModel" "leafMany" "I", .constantLong RX3 142 (2), .constantLong RX3 82 (-1), .fieldLink RX3 35 "FieldLeavesModel" "leafObject" "[I", .fieldLink RX3 38 "FieldLeavesModel" "leafField" "[I", .fieldLink RX3 41 "FieldLeavesModel" "leafValue" "[J", .methodLink RX3 70 yX3_in, .static yX3_in, .initialized RX3, .code yX3_in cX3_in 6 (some .boolean)] ++ wsX30)
def wsX3_alter : List Cond := .code yX3_alter cX3_alter 4 (some .int) :: ([.fieldLink RX3 184 "FieldLeavesModel" "leafMany" "I", .fieldLink RX3 38 "FieldLeavesModel" "leafField" "[I", .fieldLink RX3 41 "FieldLeavesModel" "leafValue" "[J", .methodLink RX3 70 yX3_in, .static yX3_in, .initialized RX3, .code yX3_in cX3_in 6 (some .boolean)] ++ wsX30)
def wsX3_told : List Cond := .code yX3_told cX3_told 4 (some .long) :: ([.fieldLink RX3 184 "FieldLeavesModel" "leafMany" "I", .fieldLink RX3 35 "FieldLeavesModel" "leafObject" "[I", .fieldLink RX3 38 "FieldLeavesModel" "leafField" "[I", .fieldLink RX3 41 "FieldLeavesModel" "leafValue" "[J"] ++ wsX30)
def wsX3_back_r1 : List Cond := [Cond.fieldLink RX3 184 "FieldLeavesModel" "leafMany" "I", Cond.fieldLink RX3 35 "FieldLeavesModel" "leafObject" "[I", Cond.constantLong RX3 142 (2), Cond.constantLong RX3 89 (1000), Cond.fieldLink RX3 56 "FieldLeavesModel" "made" "[I", Cond.fieldLink RX3 38 "FieldLeavesModel" "leafField" "[I", Cond.fieldLink RX3 41 "FieldLeavesModel" "leafValue" "[J", Cond.fieldLink RX3 25 "FieldLeavesModel" "rows" "[I", Cond.fieldLink RX3 21 "FieldLeavesModel" "rowSize" "[I", Cond.fieldLink RX3 13 "FieldLeavesModel" "classOf" "[I", Cond.fieldLink RX3 17 "FieldLeavesModel" "field" "[J", Cond.fieldLink RX3 7 "FieldLeavesModel" "slot" "[I", Cond.methodLink RX3 84 yX3_isSlot, Cond.static yX3_isSlot, Cond.initialized RX3, Cond.code yX3_isSlot cX3_isSlot 1 (some .boolean), Cond.constantLong RX3 68 (11), Cond.methodLink RX3 70 yX3_in, Cond.static yX3_in, Cond.code yX3_in cX3_in 6 (some .boolean), Cond.methodLink RX3 187 yX3_told, Cond.instanceMethod yX3_told, Cond.selects RX3 yX3_told yX3_told, Cond.code yX3_told cX3_told 4 (some .long)]
def wsX3_back_r2 : List Cond := [Cond.methodLink RX3 91 yX3_lookWhatIsHeld, Cond.instanceMethod yX3_lookWhatIsHeld, Cond.selects RX3 yX3_lookWhatIsHeld yX3_lookWhatIsHeld, Cond.code yX3_lookWhatIsHeld cX3_lookWhatIsHeld 5 none, Cond.fieldLink RX3 28 "FieldLeavesModel" "isHeld" "[Z", Cond.fieldLink RX3 32 "FieldLeavesModel" "pile" "[I", Cond.methodLink RX3 74 yX3_isLink, Cond.static yX3_isLink, Cond.code yX3_isLink cX3_isLink 1 (some .boolean), Cond.methodLink RX3 78 yX3_has, Cond.static yX3_has, Cond.code yX3_has cX3_has 2 (some .boolean), Cond.methodLink RX3 94 yX3_born, Cond.instanceMethod yX3_born, Cond.selects RX3 yX3_born yX3_born, Cond.code yX3_born cX3_born 5 (some .int), Cond.constantLong RX3 82 (-1), Cond.methodLink RX3 135 yX3_mayBeIn, Cond.static yX3_mayBeIn, Cond.code yX3_mayBeIn cX3_mayBeIn 2 (some .boolean), Cond.methodLink RX3 131 yX3_valueOf, Cond.static yX3_valueOf, Cond.code yX3_valueOf cX3_valueOf 3 (some .long), Cond.constantLong RX3 109 (65535)]
def wsX3_back_r3 : List Cond := [Cond.constant RX3 111 (2147483647), Cond.constant RX3 112 (2139095040), Cond.constantLong RX3 113 (2143289344), Cond.constantLong RX3 115 (9223372036854775807), Cond.constantLong RX3 117 (9218868437227405312), Cond.constantLong RX3 119 (9221120237041090560)]
def wsX3_back : List Cond := .code yX3_back cX3_back 8 (some .int) :: ((wsX3_back_r1 ++ (wsX3_back_r2 ++ wsX3_back_r3)) ++ wsX30)
def wsX3_equal_r1 : List Cond := [Cond.fieldLink RX3 7 "FieldLeavesModel" "slot" "[I", Cond.fieldLink RX3 160 "FieldLeavesModel" "newMany" "I", Cond.fieldLink RX3 59 "FieldLeavesModel" "oneObject" "[I", Cond.fieldLink RX3 47 "FieldLeavesModel" "newObject" "[I", Cond.fieldLink RX3 62 "FieldLeavesModel" "oneField" "[I", Cond.fieldLink RX3 50 "FieldLeavesModel" "newField" "[I", Cond.fieldLink RX3 65 "FieldLeavesModel" "oneValue" "[J", Cond.fieldLink RX3 53 "FieldLeavesModel" "newValue" "[J", Cond.methodLink RX3 84 yX3_isSlot, Cond.static yX3_isSlot, Cond.initialized RX3, Cond.code yX3_isSlot cX3_isSlot 1 (some .boolean), Cond.constantLong RX3 68 (11), Cond.methodLink RX3 70 yX3_in, Cond.static yX3_in, Cond.code yX3_in cX3_in 6 (some .boolean), Cond.methodLink RX3 181 yX3_find, Cond.instanceMethod yX3_find, Cond.selects RX3 yX3_find yX3_find, Cond.code yX3_find cX3_find 6 (some .boolean), Cond.fieldLink RX3 167 "FieldLeavesModel" "foundMany" "I", Cond.fieldLink RX3 44 "FieldLeavesModel" "found" "[I", Cond.fieldLink RX3 163 "FieldLeavesModel" "isRoom" "Z", Cond.fieldLink RX3 13 "FieldLeavesModel" "classOf" "[I"]
def wsX3_equal_r2 : List Cond := [Cond.fieldLink RX3 17 "FieldLeavesModel" "field" "[J", Cond.methodLink RX3 74 yX3_isLink, Cond.static yX3_isLink, Cond.code yX3_isLink cX3_isLink 1 (some .boolean), Cond.methodLink RX3 78 yX3_has, Cond.static yX3_has, Cond.code yX3_has cX3_has 2 (some .boolean), Cond.methodLink RX3 170 yX3_numberOf, Cond.instanceMethod yX3_numberOf, Cond.selects RX3 yX3_numberOf yX3_numberOf, Cond.code yX3_numberOf cX3_numberOf 3 (some .int), Cond.methodLink RX3 173 yX3_tellObject, Cond.instanceMethod yX3_tellObject, Cond.selects RX3 yX3_tellObject yX3_tellObject, Cond.code yX3_tellObject cX3_tellObject 7 none, Cond.fieldLink RX3 21 "FieldLeavesModel" "rowSize" "[I", Cond.fieldLink RX3 25 "FieldLeavesModel" "rows" "[I", Cond.constantLong RX3 82 (-1), Cond.methodLink RX3 177 yX3_tell, Cond.instanceMethod yX3_tell, Cond.selects RX3 yX3_tell yX3_tell, Cond.code yX3_tell cX3_tell 5 none]
def wsX3_equal : List Cond := .code yX3_equal cX3_equal 6 (some .int) :: ((wsX3_equal_r1 ++ wsX3_equal_r2) ++ wsX30)
def wsX3_isChanged : List Cond := .code yX3_isChanged cX3_isChanged 6 (some .boolean) :: ([.fieldLink RX3 17 "FieldLeavesModel" "field" "[J", .fieldLink RX3 21 "FieldLeavesModel" "rowSize" "[I", .fieldLink RX3 25 "FieldLeavesModel" "rows" "[I"] ++ wsX30)
def wsX3_changed : List Cond := .code yX3_changed cX3_changed 8 (some .int) :: ([.fieldLink RX3 7 "FieldLeavesModel" "slot" "[I", .fieldLink RX3 13 "FieldLeavesModel" "classOf" "[I", .methodLink RX3 84 yX3_isSlot, .static yX3_isSlot, .initialized RX3, .code yX3_isSlot cX3_isSlot 1 (some .boolean), .constantLong RX3 68 (11), .methodLink RX3 70 yX3_in, .static yX3_in, .code yX3_in cX3_in 6 (some .boolean), .methodLink RX3 78 yX3_has, .static yX3_has, .code yX3_has cX3_has 2 (some .boolean), .methodLink RX3 191 yX3_isChanged, .instanceMethod yX3_isChanged, .selects RX3 yX3_isChanged yX3_isChanged, .code yX3_isChanged cX3_isChanged 6 (some .boolean), .fieldLink RX3 17 "FieldLeavesModel" "field" "[J", .fieldLink RX3 21 "FieldLeavesModel" "rowSize" "[I", .fieldLink RX3 25 "FieldLeavesModel" "rows" "[I"] ++ wsX30)
def wsL_law_r1 : List Cond := [Cond.classLink RL 7 RX2, Cond.instantiable RX2 9, Cond.initialized RX2, Cond.classLink RL 10 RX3, Cond.instantiable RX3 23, Cond.initialized RX3, Cond.constantLong RL 45 (4294967295), Cond.methodLink RL 9 yX2_init, Cond.instanceMethod yX2_init, Cond.code yX2_init cX2_init 1 none, Cond.methodLink RX2 1 objectInit, Cond.instanceMethod objectInit, Cond.code objectInit ⟨#[0xb1]⟩ 1 none, Cond.classLink RX2 9 RX1, Cond.fieldLink RX2 11 "FieldLeaves" "slots" "[LFieldLeaves$Thing;", Cond.classLink RX2 15 RX0, Cond.instantiable RX0 4, Cond.initialized RX0, Cond.fieldLink RX2 18 "FieldLeaves" "current" "LFieldLeaves$LeafList;", Cond.fieldLink RX2 22 "FieldLeaves" "spare" "LFieldLeaves$LeafList;", Cond.fieldLink RX2 25 "FieldLeaves" "second" "LFieldLeaves$LeafList;", Cond.fieldLink RX2 28 "FieldLeaves" "found" "[LFieldLeaves$Thing;", Cond.fieldLink RX2 31 "FieldLeaves" "made" "[LFieldLeaves$Thing;", Cond.instanceMethod yX0_init]
def wsL_law_r2 : List Cond := [Cond.code yX0_init cX0_init 1 none, Cond.methodLink RX0 3 objectInit, Cond.arrayClass .int, Cond.fieldLink RX0 9 "FieldLeaves$LeafList" "numbers" "[I", Cond.fieldLink RX0 15 "FieldLeaves$LeafList" "fields" "[I", Cond.arrayClass .long, Cond.fieldLink RX0 18 "FieldLeaves$LeafList" "values" "[J", Cond.methodLink RL 12 yX3_init, Cond.instanceMethod yX3_init, Cond.code yX3_init cX3_init 2 none, Cond.methodLink RX3 1 objectInit, Cond.fieldLink RX3 7 "FieldLeavesModel" "slot" "[I", Cond.fieldLink RX3 13 "FieldLeavesModel" "classOf" "[I", Cond.constant RX3 16 (108800), Cond.fieldLink RX3 17 "FieldLeavesModel" "field" "[J", Cond.fieldLink RX3 21 "FieldLeavesModel" "rowSize" "[I", Cond.constant RX3 24 (128000), Cond.fieldLink RX3 25 "FieldLeavesModel" "rows" "[I", Cond.arrayClass .boolean, Cond.fieldLink RX3 28 "FieldLeavesModel" "isHeld" "[Z", Cond.fieldLink RX3 32 "FieldLeavesModel" "pile" "[I", Cond.fieldLink RX3 35 "FieldLeavesModel" "leafObject" "[I", Cond.fieldLink RX3 38 "FieldLeavesModel" "leafField" "[I", Cond.fieldLink RX3 41 "FieldLeavesModel" "leafValue" "[J"]
def wsL_law_r3 : List Cond := [Cond.fieldLink RX3 44 "FieldLeavesModel" "found" "[I", Cond.fieldLink RX3 47 "FieldLeavesModel" "newObject" "[I", Cond.fieldLink RX3 50 "FieldLeavesModel" "newField" "[I", Cond.fieldLink RX3 53 "FieldLeavesModel" "newValue" "[J", Cond.fieldLink RX3 56 "FieldLeavesModel" "made" "[I", Cond.fieldLink RX3 59 "FieldLeavesModel" "oneObject" "[I", Cond.fieldLink RX3 62 "FieldLeavesModel" "oneField" "[I", Cond.fieldLink RX3 65 "FieldLeavesModel" "oneValue" "[J", Cond.methodLink RL 13 yX2_make, Cond.instanceMethod yX2_make, Cond.selects RX2 yX2_make yX2_make, Cond.code yX2_make cX2_make 4 (some .int), Cond.instantiable RX1 6, Cond.initialized RX1, Cond.methodLink RX2 34 yX2_isSlot, Cond.static yX2_isSlot, Cond.code yX2_isSlot cX2_isSlot 1 (some .boolean), Cond.methodLink RX2 38 yX2_makerTakes, Cond.static yX2_makerTakes, Cond.code yX2_makerTakes cX2_makerTakes 2 (some .boolean), Cond.methodLink RX2 42 yX1_init, Cond.instanceMethod yX1_init, Cond.code yX1_init cX1_init 3 none, Cond.methodLink RX1 3 objectInit]
def wsL_law_r4 : List Cond := [Cond.fieldLink RX1 9 "FieldLeaves$Thing" "values" "[J", Cond.fieldLink RX1 15 "FieldLeaves$Thing" "classNumber" "I", Cond.methodLink RL 17 yX3_make, Cond.instanceMethod yX3_make, Cond.selects RX3 yX3_make yX3_make, Cond.code yX3_make cX3_make 4 (some .int), Cond.constantLong RX3 87 (4), Cond.constantLong RX3 89 (1000), Cond.methodLink RX3 84 yX3_isSlot, Cond.static yX3_isSlot, Cond.code yX3_isSlot cX3_isSlot 1 (some .boolean), Cond.constantLong RX3 68 (11), Cond.methodLink RX3 70 yX3_in, Cond.static yX3_in, Cond.code yX3_in cX3_in 6 (some .boolean), Cond.methodLink RX3 91 yX3_lookWhatIsHeld, Cond.instanceMethod yX3_lookWhatIsHeld, Cond.selects RX3 yX3_lookWhatIsHeld yX3_lookWhatIsHeld, Cond.code yX3_lookWhatIsHeld cX3_lookWhatIsHeld 5 none, Cond.methodLink RX3 74 yX3_isLink, Cond.static yX3_isLink, Cond.code yX3_isLink cX3_isLink 1 (some .boolean), Cond.methodLink RX3 78 yX3_has, Cond.static yX3_has]
def wsL_law_r5 : List Cond := [Cond.code yX3_has cX3_has 2 (some .boolean), Cond.methodLink RX3 94 yX3_born, Cond.instanceMethod yX3_born, Cond.selects RX3 yX3_born yX3_born, Cond.code yX3_born cX3_born 5 (some .int), Cond.constantLong RX3 82 (-1), Cond.methodLink RL 18 yX2_clear, Cond.instanceMethod yX2_clear, Cond.selects RX2 yX2_clear yX2_clear, Cond.code yX2_clear cX2_clear 3 (some .int), Cond.methodLink RL 22 yX3_clear, Cond.instanceMethod yX3_clear, Cond.selects RX3 yX3_clear yX3_clear, Cond.code yX3_clear cX3_clear 3 (some .int), Cond.methodLink RL 23 yX2_share, Cond.instanceMethod yX2_share, Cond.selects RX2 yX2_share yX2_share, Cond.code yX2_share cX2_share 3 (some .int), Cond.methodLink RL 27 yX3_share, Cond.instanceMethod yX3_share, Cond.selects RX3 yX3_share yX3_share, Cond.code yX3_share cX3_share 3 (some .int), Cond.methodLink RL 28 yX2_same, Cond.instanceMethod yX2_same]
def wsL_law_r6 : List Cond := [Cond.selects RX2 yX2_same yX2_same, Cond.code yX2_same cX2_same 3 (some .int), Cond.methodLink RL 31 yX3_same, Cond.instanceMethod yX3_same, Cond.selects RX3 yX3_same yX3_same, Cond.code yX3_same cX3_same 3 (some .int), Cond.methodLink RL 32 yX2_cls, Cond.instanceMethod yX2_cls, Cond.selects RX2 yX2_cls yX2_cls, Cond.code yX2_cls cX2_cls 3 (some .int), Cond.fieldLink RX2 45 "FieldLeaves$Thing" "classNumber" "I", Cond.methodLink RL 35 yX3_cls, Cond.instanceMethod yX3_cls, Cond.selects RX3 yX3_cls yX3_cls, Cond.code yX3_cls cX3_cls 2 (some .int), Cond.methodLink RL 36 yX2_is, Cond.instanceMethod yX2_is, Cond.selects RX2 yX2_is yX2_is, Cond.code yX2_is cX2_is 4 (some .int), Cond.methodLink RX2 49 yX1_isOf, Cond.instanceMethod yX1_isOf, Cond.selects RX1 yX1_isOf yX1_isOf, Cond.code yX1_isOf cX1_isOf 2 (some .boolean), Cond.methodLink RL 39 yX3_is]
def wsL_law_r7 : List Cond := [Cond.instanceMethod yX3_is, Cond.selects RX3 yX3_is yX3_is, Cond.code yX3_is cX3_is 3 (some .int), Cond.constantLong RX3 98 (5), Cond.methodLink RX3 100 yX3_isBelow, Cond.static yX3_isBelow, Cond.code yX3_isBelow cX3_isBelow 2 (some .boolean), Cond.methodLink RL 40 yX2_get, Cond.instanceMethod yX2_get, Cond.selects RX2 yX2_get yX2_get, Cond.code yX2_get cX2_get 5 (some .long), Cond.constantLong RX2 55 (-1), Cond.fieldLink RX2 57 "FieldLeaves" "OWNER" "[I", Cond.fieldLink RX2 65 "FieldLeaves$Thing" "values" "[J", Cond.methodLink RX2 52 yX2_isValueField, Cond.static yX2_isValueField, Cond.code yX2_isValueField cX2_isValueField 1 (some .boolean), Cond.fieldLink RX2 161 "FieldLeaves" "FORM" "[I", Cond.methodLink RX2 158 yX2_isField, Cond.static yX2_isField, Cond.code yX2_isField cX2_isField 1 (some .boolean), Cond.methodLink RX2 61 yX2_failureAs, Cond.static yX2_failureAs, Cond.code yX2_failureAs cX2_failureAs 2 (some .int)]
def wsL_law_r8 : List Cond := [Cond.methodLink RL 44 yX3_get, Cond.instanceMethod yX3_get, Cond.selects RX3 yX3_get yX3_get, Cond.code yX3_get cX3_get 3 (some .long), Cond.constantLong RX3 124 (-11), Cond.constantLong RX3 129 (-14), Cond.methodLink RX3 121 yX3_isPlain, Cond.static yX3_isPlain, Cond.code yX3_isPlain cX3_isPlain 1 (some .boolean), Cond.constantLong RX3 103 (7), Cond.constantLong RX3 105 (12), Cond.constantLong RX3 107 (14), Cond.methodLink RX3 126 yX3_isOther, Cond.instanceMethod yX3_isOther, Cond.selects RX3 yX3_isOther yX3_isOther, Cond.code yX3_isOther cX3_isOther 3 (some .boolean), Cond.methodLink RL 47 yX2_set, Cond.instanceMethod yX2_set, Cond.selects RX2 yX2_set yX2_set, Cond.code yX2_set cX2_set 7 (some .int), Cond.methodLink RX2 69 yX2_isFinal, Cond.static yX2_isFinal, Cond.code yX2_isFinal cX2_isFinal 1 (some .boolean), Cond.methodLink RX2 72 yX2_asTold]
def wsL_law_r9 : List Cond := [Cond.static yX2_asTold, Cond.code yX2_asTold cX2_asTold 3 (some .long), Cond.methodLink RX2 164 yX2_floatAsTold, Cond.static yX2_floatAsTold, Cond.code yX2_floatAsTold cX2_floatAsTold 1 (some .int), Cond.constant RX2 171 (2147483647), Cond.constant RX2 172 (2139095040), Cond.constant RX2 173 (2143289344), Cond.methodLink RX2 167 yX2_doubleAsTold, Cond.static yX2_doubleAsTold, Cond.code yX2_doubleAsTold cX2_doubleAsTold 2 (some .long), Cond.constantLong RX2 174 (9223372036854775807), Cond.constantLong RX2 176 (9218868437227405312), Cond.constantLong RX2 178 (9221120237041090560), Cond.methodLink RL 51 yX3_set, Cond.instanceMethod yX3_set, Cond.selects RX3 yX3_set yX3_set, Cond.code yX3_set cX3_set 5 (some .int), Cond.methodLink RX3 131 yX3_valueOf, Cond.static yX3_valueOf, Cond.code yX3_valueOf cX3_valueOf 3 (some .long), Cond.constantLong RX3 109 (65535), Cond.constant RX3 111 (2147483647), Cond.constant RX3 112 (2139095040)]
def wsL_law_r10 : List Cond := [Cond.constantLong RX3 113 (2143289344), Cond.constantLong RX3 115 (9223372036854775807), Cond.constantLong RX3 117 (9218868437227405312), Cond.constantLong RX3 119 (9221120237041090560), Cond.methodLink RL 52 yX2_link, Cond.instanceMethod yX2_link, Cond.selects RX2 yX2_link yX2_link, Cond.code yX2_link cX2_link 6 (some .int), Cond.methodLink RX2 76 yX2_isLinkField, Cond.static yX2_isLinkField, Cond.code yX2_isLinkField cX2_isLinkField 1 (some .boolean), Cond.methodLink RX2 79 yX2_wantedIn, Cond.static yX2_wantedIn, Cond.code yX2_wantedIn cX2_wantedIn 1 (some .int), Cond.methodLink RX2 83 yX1_hold, Cond.instanceMethod yX1_hold, Cond.selects RX1 yX1_hold yX1_hold, Cond.code yX1_hold cX1_hold 3 none, Cond.fieldLink RX1 19 "FieldLeaves$Thing" "baseLink" "LFieldLeaves$Thing;", Cond.fieldLink RX1 23 "FieldLeaves$Thing" "middleLink" "LFieldLeaves$Thing;", Cond.fieldLink RX1 26 "FieldLeaves$Thing" "strayBack" "LFieldLeaves$Thing;", Cond.methodLink RL 55 yX3_link, Cond.instanceMethod yX3_link, Cond.selects RX3 yX3_link yX3_link]
def wsL_law_r11 : List Cond := [Cond.code yX3_link cX3_link 4 (some .int), Cond.methodLink RX3 135 yX3_mayBeIn, Cond.static yX3_mayBeIn, Cond.code yX3_mayBeIn cX3_mayBeIn 2 (some .boolean), Cond.methodLink RL 56 yX2_follow, Cond.instanceMethod yX2_follow, Cond.selects RX2 yX2_follow yX2_follow, Cond.code yX2_follow cX2_follow 6 (some .int), Cond.methodLink RX2 87 yX1_held, Cond.instanceMethod yX1_held, Cond.selects RX1 yX1_held yX1_held, Cond.code yX1_held cX1_held 2 (some (.object "FieldLeaves$Thing")), Cond.methodLink RL 59 yX3_follow, Cond.instanceMethod yX3_follow, Cond.selects RX3 yX3_follow yX3_follow, Cond.code yX3_follow cX3_follow 4 (some .int), Cond.methodLink RL 60 yX2_row, Cond.instanceMethod yX2_row, Cond.selects RX2 yX2_row yX2_row, Cond.code yX2_row cX2_row 4 (some .int), Cond.fieldLink RX2 91 "FieldLeaves$Thing" "ints" "[I", Cond.methodLink RL 63 yX3_row, Cond.instanceMethod yX3_row, Cond.selects RX3 yX3_row yX3_row]
def wsL_law_r12 : List Cond := [Cond.code yX3_row cX3_row 4 (some .int), Cond.methodLink RL 64 yX2_put, Cond.instanceMethod yX2_put, Cond.selects RX2 yX2_put yX2_put, Cond.code yX2_put cX2_put 7 (some .int), Cond.methodLink RX2 94 yX2_failureOfRow, Cond.static yX2_failureOfRow, Cond.code yX2_failureOfRow cX2_failureOfRow 2 (some .int), Cond.methodLink RL 67 yX3_put, Cond.instanceMethod yX3_put, Cond.selects RX3 yX3_put yX3_put, Cond.code yX3_put cX3_put 6 (some .int), Cond.methodLink RX3 138 yX3_rowless, Cond.instanceMethod yX3_rowless, Cond.selects RX3 yX3_rowless yX3_rowless, Cond.code yX3_rowless cX3_rowless 2 (some .int), Cond.methodLink RL 68 yX2_length, Cond.instanceMethod yX2_length, Cond.selects RX2 yX2_length yX2_length, Cond.code yX2_length cX2_length 4 (some .int), Cond.methodLink RL 71 yX3_length, Cond.instanceMethod yX3_length, Cond.selects RX3 yX3_length yX3_length, Cond.code yX3_length cX3_length 3 (some .int)]
def wsL_law_r13 : List Cond := [Cond.methodLink RL 72 yX2_count, Cond.instanceMethod yX2_count, Cond.selects RX2 yX2_count yX2_count, Cond.code yX2_count cX2_count 5 (some .long), Cond.fieldLink RX2 98 "FieldLeaves" "COUNT_OF" "[I", Cond.methodLink RL 75 yX3_count, Cond.instanceMethod yX3_count, Cond.selects RX3 yX3_count yX3_count, Cond.code yX3_count cX3_count 3 (some .long), Cond.constantLong RX3 142 (2), Cond.methodLink RL 76 yX2_call, Cond.instanceMethod yX2_call, Cond.selects RX2 yX2_call yX2_call, Cond.code yX2_call cX2_call 5 (some .int), Cond.fieldLink RX2 114 "FieldLeaves$Thing" "baseLink" "LFieldLeaves$Thing;", Cond.methodLink RX2 101 yX1_name, Cond.instanceMethod yX1_name, Cond.selects RX1 yX1_name yX1_name, Cond.code yX1_name cX1_name 2 (some .int), Cond.methodLink RX2 105 yX1_secret, Cond.instanceMethod yX1_secret, Cond.selects RX1 yX1_secret yX1_secret, Cond.code yX1_secret cX1_secret 1 (some .int), Cond.methodLink RX2 108 yX1_depth]
def wsL_law_r14 : List Cond := [Cond.instanceMethod yX1_depth, Cond.selects RX1 yX1_depth yX1_depth, Cond.code yX1_depth cX1_depth 3 (some .int), Cond.methodLink RX1 29 yX1_leadsTo, Cond.instanceMethod yX1_leadsTo, Cond.selects RX1 yX1_leadsTo yX1_leadsTo, Cond.code yX1_leadsTo cX1_leadsTo 1 (some (.object "FieldLeaves$Thing")), Cond.methodLink RX2 111 yX1_kind, Cond.instanceMethod yX1_kind, Cond.selects RX1 yX1_kind yX1_kind, Cond.code yX1_kind cX1_kind 5 (some .int), Cond.methodLink RL 79 yX3_call, Cond.instanceMethod yX3_call, Cond.selects RX3 yX3_call yX3_call, Cond.code yX3_call cX3_call 5 (some .int), Cond.methodLink RX3 144 yX3_nameOf, Cond.instanceMethod yX3_nameOf, Cond.selects RX3 yX3_nameOf yX3_nameOf, Cond.code yX3_nameOf cX3_nameOf 4 (some .int), Cond.methodLink RX3 147 yX3_depthOf, Cond.instanceMethod yX3_depthOf, Cond.selects RX3 yX3_depthOf yX3_depthOf, Cond.code yX3_depthOf cX3_depthOf 5 (some .int), Cond.methodLink RX3 150 yX3_kindOf]
def wsL_law_r15 : List Cond := [Cond.instanceMethod yX3_kindOf, Cond.selects RX3 yX3_kindOf yX3_kindOf, Cond.code yX3_kindOf cX3_kindOf 6 (some .int), Cond.methodLink RL 80 yX2_raise, Cond.instanceMethod yX2_raise, Cond.selects RX2 yX2_raise yX2_raise, Cond.code yX2_raise cX2_raise 2 (some .int), Cond.methodLink RX2 118 yX2_thrown, Cond.static yX2_thrown, Cond.code yX2_thrown cX2_thrown 2 (some .int), Cond.methodLink RL 83 yX3_raise, Cond.instanceMethod yX3_raise, Cond.selects RX3 yX3_raise yX3_raise, Cond.code yX3_raise cX3_raise 3 (some .int), Cond.methodLink RL 84 yX2_passes, Cond.instanceMethod yX2_passes, Cond.selects RX2 yX2_passes yX2_passes, Cond.code yX2_passes cX2_passes 3 (some .int), Cond.fieldLink RX2 121 "FieldLeaves" "passedCount" "I", Cond.methodLink RL 87 yX3_passes, Cond.instanceMethod yX3_passes, Cond.selects RX3 yX3_passes yX3_passes, Cond.code yX3_passes cX3_passes 3 (some .int), Cond.fieldLink RX3 153 "FieldLeavesModel" "passed" "I"]
def wsL_law_r16 : List Cond := [Cond.methodLink RX3 157 yX3_raise, Cond.methodLink RL 88 yX2_passed, Cond.instanceMethod yX2_passed, Cond.selects RX2 yX2_passed yX2_passed, Cond.code yX2_passed cX2_passed 1 (some .int), Cond.methodLink RL 92 yX3_passed, Cond.instanceMethod yX3_passed, Cond.selects RX3 yX3_passed yX3_passed, Cond.code yX3_passed cX3_passed 1 (some .int), Cond.methodLink RL 93 yX2_leaves, Cond.instanceMethod yX2_leaves, Cond.selects RX2 yX2_leaves yX2_leaves, Cond.code yX2_leaves cX2_leaves 4 (some .int), Cond.fieldLink RX2 128 "FieldLeaves$LeafList" "size" "I", Cond.methodLink RX2 124 yX2_tell, Cond.instanceMethod yX2_tell, Cond.selects RX2 yX2_tell yX2_tell, Cond.code yX2_tell cX2_tell 4 (some .boolean), Cond.fieldLink RX2 188 "FieldLeaves" "foundCount" "I", Cond.methodLink RX2 184 yX2_findFrom, Cond.instanceMethod yX2_findFrom, Cond.selects RX2 yX2_findFrom yX2_findFrom, Cond.code yX2_findFrom cX2_findFrom 4 (some .boolean), Cond.fieldLink RX2 198 "FieldLeaves$Thing" "middleLink" "LFieldLeaves$Thing;"]
def wsL_law_r17 : List Cond := [Cond.fieldLink RX2 201 "FieldLeaves$Thing" "strayBack" "LFieldLeaves$Thing;", Cond.methodLink RX2 195 yX2_addFound, Cond.instanceMethod yX2_addFound, Cond.selects RX2 yX2_addFound yX2_addFound, Cond.code yX2_addFound cX2_addFound 2 (some .boolean), Cond.methodLink RX2 204 yX2_numberOf, Cond.instanceMethod yX2_numberOf, Cond.selects RX2 yX2_numberOf yX2_numberOf, Cond.code yX2_numberOf cX2_numberOf 3 (some .int), Cond.methodLink RX2 191 yX2_tellObject, Cond.instanceMethod yX2_tellObject, Cond.selects RX2 yX2_tellObject yX2_tellObject, Cond.code yX2_tellObject cX2_tellObject 6 (some .boolean), Cond.methodLink RX2 207 yX0_add, Cond.instanceMethod yX0_add, Cond.selects RX0 yX0_add yX0_add, Cond.code yX0_add cX0_add 5 (some .boolean), Cond.fieldLink RX0 22 "FieldLeaves$LeafList" "size" "I", Cond.methodLink RX2 211 yX2_tellField, Cond.instanceMethod yX2_tellField, Cond.selects RX2 yX2_tellField yX2_tellField, Cond.code yX2_tellField cX2_tellField 6 (some .boolean), Cond.methodLink RX2 215 yX2_tellRow, Cond.static yX2_tellRow]
def wsL_law_r18 : List Cond := [Cond.code yX2_tellRow cX2_tellRow 5 (some .boolean), Cond.methodLink RL 96 yX3_leaves, Cond.instanceMethod yX3_leaves, Cond.selects RX3 yX3_leaves yX3_leaves, Cond.code yX3_leaves cX3_leaves 3 (some .int), Cond.fieldLink RX3 160 "FieldLeavesModel" "newMany" "I", Cond.fieldLink RX3 184 "FieldLeavesModel" "leafMany" "I", Cond.methodLink RX3 181 yX3_find, Cond.instanceMethod yX3_find, Cond.selects RX3 yX3_find yX3_find, Cond.code yX3_find cX3_find 6 (some .boolean), Cond.fieldLink RX3 167 "FieldLeavesModel" "foundMany" "I", Cond.fieldLink RX3 163 "FieldLeavesModel" "isRoom" "Z", Cond.methodLink RX3 170 yX3_numberOf, Cond.instanceMethod yX3_numberOf, Cond.selects RX3 yX3_numberOf yX3_numberOf, Cond.code yX3_numberOf cX3_numberOf 3 (some .int), Cond.methodLink RX3 173 yX3_tellObject, Cond.instanceMethod yX3_tellObject, Cond.selects RX3 yX3_tellObject yX3_tellObject, Cond.code yX3_tellObject cX3_tellObject 7 none, Cond.methodLink RX3 177 yX3_tell, Cond.instanceMethod yX3_tell, Cond.selects RX3 yX3_tell yX3_tell]
def wsL_law_r19 : List Cond := [Cond.code yX3_tell cX3_tell 5 none, Cond.methodLink RL 97 yX2_leaf, Cond.instanceMethod yX2_leaf, Cond.selects RX2 yX2_leaf yX2_leaf, Cond.code yX2_leaf cX2_leaf 3 (some .long), Cond.fieldLink RX2 134 "FieldLeaves$LeafList" "numbers" "[I", Cond.fieldLink RX2 137 "FieldLeaves$LeafList" "fields" "[I", Cond.fieldLink RX2 140 "FieldLeaves$LeafList" "values" "[J", Cond.methodLink RX2 131 yX0_has, Cond.instanceMethod yX0_has, Cond.selects RX0 yX0_has yX0_has, Cond.code yX0_has cX0_has 2 (some .boolean), Cond.methodLink RL 100 yX3_leaf, Cond.instanceMethod yX3_leaf, Cond.selects RX3 yX3_leaf yX3_leaf, Cond.code yX3_leaf cX3_leaf 3 (some .long), Cond.methodLink RL 101 yX2_alter, Cond.instanceMethod yX2_alter, Cond.selects RX2 yX2_alter yX2_alter, Cond.code yX2_alter cX2_alter 4 (some .int), Cond.methodLink RL 105 yX3_alter, Cond.instanceMethod yX3_alter, Cond.selects RX3 yX3_alter yX3_alter, Cond.code yX3_alter cX3_alter 4 (some .int)]
def wsL_law_r20 : List Cond := [Cond.methodLink RL 106 yX2_back, Cond.instanceMethod yX2_back, Cond.selects RX2 yX2_back yX2_back, Cond.code yX2_back cX2_back 3 (some .int), Cond.fieldLink RX2 147 "FieldLeaves" "madeCount" "I", Cond.methodLink RX2 141 yX2_makeFromLeaves, Cond.instanceMethod yX2_makeFromLeaves, Cond.selects RX2 yX2_makeFromLeaves yX2_makeFromLeaves, Cond.code yX2_makeFromLeaves cX2_makeFromLeaves 4 (some .int), Cond.methodLink RX2 219 yX0_toldToMaker, Cond.instanceMethod yX0_toldToMaker, Cond.selects RX0 yX0_toldToMaker yX0_toldToMaker, Cond.code yX0_toldToMaker cX0_toldToMaker 3 (some .int), Cond.methodLink RX2 144 yX2_fillFromLeaves, Cond.instanceMethod yX2_fillFromLeaves, Cond.selects RX2 yX2_fillFromLeaves yX2_fillFromLeaves, Cond.code yX2_fillFromLeaves cX2_fillFromLeaves 4 (some .int), Cond.methodLink RX2 222 yX2_madeAs, Cond.instanceMethod yX2_madeAs, Cond.selects RX2 yX2_madeAs yX2_madeAs, Cond.code yX2_madeAs cX2_madeAs 3 (some (.object "FieldLeaves$Thing")), Cond.methodLink RX2 226 yX2_fillField, Cond.instanceMethod yX2_fillField, Cond.selects RX2 yX2_fillField yX2_fillField]
def wsL_law_r21 : List Cond := [Cond.code yX2_fillField cX2_fillField 5 (some .int), Cond.constantLong RX2 233 (20), Cond.methodLink RX2 230 yX2_fillLink, Cond.instanceMethod yX2_fillLink, Cond.selects RX2 yX2_fillLink yX2_fillLink, Cond.code yX2_fillLink cX2_fillLink 6 (some .int), Cond.methodLink RX2 235 yX2_fillPlace, Cond.static yX2_fillPlace, Cond.code yX2_fillPlace cX2_fillPlace 3 none, Cond.methodLink RL 109 yX3_back, Cond.instanceMethod yX3_back, Cond.selects RX3 yX3_back yX3_back, Cond.code yX3_back cX3_back 8 (some .int), Cond.methodLink RX3 187 yX3_told, Cond.instanceMethod yX3_told, Cond.selects RX3 yX3_told yX3_told, Cond.code yX3_told cX3_told 4 (some .long), Cond.methodLink RL 110 yX2_equal, Cond.instanceMethod yX2_equal, Cond.selects RX2 yX2_equal yX2_equal, Cond.code yX2_equal cX2_equal 5 (some .int), Cond.methodLink RX2 150 yX0_sameAs, Cond.instanceMethod yX0_sameAs, Cond.selects RX0 yX0_sameAs yX0_sameAs]
def wsL_law_r22 : List Cond := [Cond.code yX0_sameAs cX0_sameAs 3 (some .boolean), Cond.methodLink RL 113 yX3_equal, Cond.instanceMethod yX3_equal, Cond.selects RX3 yX3_equal yX3_equal, Cond.code yX3_equal cX3_equal 6 (some .int), Cond.methodLink RL 114 yX2_changed, Cond.instanceMethod yX2_changed, Cond.selects RX2 yX2_changed yX2_changed, Cond.code yX2_changed cX2_changed 8 (some .int), Cond.methodLink RX2 154 yX2_differ, Cond.static yX2_differ, Cond.code yX2_differ cX2_differ 3 (some .boolean), Cond.methodLink RX2 180 yX2_differInInts, Cond.static yX2_differInInts, Cond.code yX2_differInInts cX2_differInInts 3 (some .boolean), Cond.methodLink RL 117 yX3_changed, Cond.instanceMethod yX3_changed, Cond.selects RX3 yX3_changed yX3_changed, Cond.code yX3_changed cX3_changed 8 (some .int), Cond.methodLink RX3 191 yX3_isChanged, Cond.instanceMethod yX3_isChanged, Cond.selects RX3 yX3_isChanged yX3_isChanged, Cond.code yX3_isChanged cX3_isChanged 6 (some .boolean)]
def wsL_law : List Cond := (wsL_law_r1 ++ (wsL_law_r2 ++ (wsL_law_r3 ++ (wsL_law_r4 ++ (wsL_law_r5 ++ (wsL_law_r6 ++ (wsL_law_r7 ++ (wsL_law_r8 ++ (wsL_law_r9 ++ (wsL_law_r10 ++ (wsL_law_r11 ++ (wsL_law_r12 ++ (wsL_law_r13 ++ (wsL_law_r14 ++ (wsL_law_r15 ++ (wsL_law_r16 ++ (wsL_law_r17 ++ (wsL_law_r18 ++ (wsL_law_r19 ++ (wsL_law_r20 ++ (wsL_law_r21 ++ wsL_law_r22))))))))))))))))))))) ++ wsX20 ++ wsX30 ++ wsX00 ++ wsX10 ++ ([] : List Cond)
end
section
set_option maxRecDepth 100000 in
theorem wsL_in_1 : ∀ w ∈ wsL_law_r1, w ∈ lw_tbl := List.forall_mem_cons.mpr ⟨List.mem_of_getElem? (i := 29) (by decide +kernel), List.forall_mem_cons.mpr ⟨List.mem_of_getElem? (i := 30) (by decide +kernel), List.forall_mem_cons.mpr ⟨List.mem_of_getElem? (i := 25) (by decide +kernel), List.forall_mem_cons.mpr ⟨List.mem_of_getElem? (i := 376) (by decide +kernel), List.forall_mem_cons.mpr ⟨List.mem_of_getElem? (i := 377) (by decide +kernel), List.forall_mem_cons.mpr ⟨List.mem_of_getElem? (i := 27) (by decide +kernel), List.forall_mem_cons.mpr ⟨List.mem_of_getElem? (i := 646) (by decide +kernel), List.forall_mem_cons.mpr ⟨List.mem_of_getElem? (i := 31) (by decide +kernel), List.forall_mem_cons.mpr ⟨List.mem_of_getElem? (i := 32) (by decide +kernel), List.forall_mem_cons.mpr ⟨List.mem_of_getElem? (i := 33) rfl, List.forall_mem_cons.mpr ⟨List.mem_of_getElem? (i := 34) (by decide +kernel), List.forall_mem_cons.mpr ⟨List.mem_of_getElem? (i := 35) (by decide +kernel), List.forall_mem_cons.mpr ⟨List.mem_of_getElem? (i := 36) rfl, List.forall_mem_cons.mpr ⟨List.mem_of_getElem? (i := 37) (by decide +kernel), List.forall_mem_cons.mpr ⟨List.mem_of_getElem? (i := 64) (by decide +kernel), List.forall_mem_cons.mpr ⟨List.mem_of_getElem? (i := 39) (by decide +kernel), List.forall_mem_cons.mpr ⟨List.mem_of_getElem? (i := 40) (by decide +kernel), List.forall_mem_cons.mpr ⟨List.mem_of_getElem? (i := 26) (by decide +kernel), List.forall_mem_cons.mpr ⟨List.mem_of_getElem? (i := 66) (by decide +kernel), List.forall_mem_cons.mpr ⟨List.mem_of_getElem? (i := 67) (by decide +kernel), List.forall_mem_cons.mpr ⟨List.mem_of_getElem? (i := 68) (by decide +kernel), List.forall_mem_cons.mpr ⟨List.mem_of_getElem? (i := 69) (by decide +kernel), List.forall_mem_cons.mpr ⟨List.mem_of_getElem? (i := 71) (by decide +kernel), List.forall_mem_cons.mpr ⟨List.mem_of_getElem? (i := 42) (by decide +kernel), fun _ h => absurd h List.not_mem_nil⟩⟩⟩⟩⟩⟩⟩⟩⟩⟩⟩⟩⟩⟩⟩⟩⟩⟩⟩⟩⟩⟩⟩⟩
set_option maxRecDepth 100000 in
theorem wsL_in_2 : ∀ w ∈ wsL_law_r2, w ∈ lw_tbl := List.forall_mem_cons.mpr ⟨List.mem_of_getElem? (i := 43) rfl, List.forall_mem_cons.mpr ⟨List.mem_of_getElem? (i := 44) (by decide +kernel), List.forall_mem_cons.mpr ⟨List.mem_of_getElem? (i := 62) (by decide +kernel), List.forall_mem_cons.mpr ⟨List.mem_of_getElem? (i := 45) (by decide +kernel), List.forall_mem_cons.mpr ⟨List.mem_of_getElem? (i := 47) (by decide +kernel), List.forall_mem_cons.mpr ⟨List.mem_of_getElem? (i := 63) (by decide +kernel), List.forall_mem_cons.mpr ⟨List.mem_of_getElem? (i := 49) (by decide +kernel), List.forall_mem_cons.mpr ⟨List.mem_of_getElem? (i := 378) (by decide +kernel), List.forall_mem_cons.mpr ⟨List.mem_of_getElem? (i := 379) (by decide +kernel), List.forall_mem_cons.mpr ⟨List.mem_of_getElem? (i := 380) rfl, List.forall_mem_cons.mpr ⟨List.mem_of_getElem? (i := 381) (by decide +kernel), List.forall_mem_cons.mpr ⟨List.mem_of_getElem? (i := 384) (by decide +kernel), List.forall_mem_cons.mpr ⟨List.mem_of_getElem? (i := 385) (by decide +kernel), List.forall_mem_cons.mpr ⟨List.mem_of_getElem? (i := 382) (by decide +kernel), List.forall_mem_cons.mpr ⟨List.mem_of_getElem? (i := 386) (by decide +kernel), List.forall_mem_cons.mpr ⟨List.mem_of_getElem? (i := 387) (by decide +kernel), List.forall_mem_cons.mpr ⟨List.mem_of_getElem? (i := 383) (by decide +kernel), List.forall_mem_cons.mpr ⟨List.mem_of_getElem? (i := 388) (by decide +kernel), List.forall_mem_cons.mpr ⟨List.mem_of_getElem? (i := 454) (by decide +kernel), List.forall_mem_cons.mpr ⟨List.mem_of_getElem? (i := 389) (by decide +kernel), List.forall_mem_cons.mpr ⟨List.mem_of_getElem? (i := 390) (by decide +kernel), List.forall_mem_cons.mpr ⟨List.mem_of_getElem? (i := 393) (by decide +kernel), List.forall_mem_cons.mpr ⟨List.mem_of_getElem? (i := 394) (by decide +kernel), List.forall_mem_cons.mpr ⟨List.mem_of_getElem? (i := 395) (by decide +kernel), fun _ h => absurd h List.not_mem_nil⟩⟩⟩⟩⟩⟩⟩⟩⟩⟩⟩⟩⟩⟩⟩⟩⟩⟩⟩⟩⟩⟩⟩⟩
set_option maxRecDepth 100000 in
theorem wsL_in_3 : ∀ w ∈ wsL_law_r3, w ∈ lw_tbl := List.forall_mem_cons.mpr ⟨List.mem_of_getElem? (i := 397) (by decide +kernel), List.forall_mem_cons.mpr ⟨List.mem_of_getElem? (i := 399) (by decide +kernel), List.forall_mem_cons.mpr ⟨List.mem_of_getElem? (i := 400) (by decide +kernel), List.forall_mem_cons.mpr ⟨List.mem_of_getElem? (i := 401) (by decide +kernel), List.forall_mem_cons.mpr ⟨List.mem_of_getElem? (i := 403) (by decide +kernel), List.forall_mem_cons.mpr ⟨List.mem_of_getElem? (i := 404) (by decide +kernel), List.forall_mem_cons.mpr ⟨List.mem_of_getElem? (i := 405) (by decide +kernel), List.forall_mem_cons.mpr ⟨List.mem_of_getElem? (i := 406) (by decide +kernel), List.forall_mem_cons.mpr ⟨List.mem_of_getElem? (i := 92) (by decide +kernel), List.forall_mem_cons.mpr ⟨List.mem_of_getElem? (i := 93) (by decide +kernel), List.forall_mem_cons.mpr ⟨List.mem_of_getElem? (i := 94) (by decide +kernel), List.forall_mem_cons.mpr ⟨List.mem_of_getElem? (i := 95) rfl, List.forall_mem_cons.mpr ⟨List.mem_of_getElem? (i := 102) (by decide +kernel), List.forall_mem_cons.mpr ⟨List.mem_of_getElem? (i := 28) (by decide +kernel), List.forall_mem_cons.mpr ⟨List.mem_of_getElem? (i := 96) (by decide +kernel), List.forall_mem_cons.mpr ⟨List.mem_of_getElem? (i := 97) (by decide +kernel), List.forall_mem_cons.mpr ⟨List.mem_of_getElem? (i := 98) rfl, List.forall_mem_cons.mpr ⟨List.mem_of_getElem? (i := 99) (by decide +kernel), List.forall_mem_cons.mpr ⟨List.mem_of_getElem? (i := 100) (by decide +kernel), List.forall_mem_cons.mpr ⟨List.mem_of_getElem? (i := 101) rfl, List.forall_mem_cons.mpr ⟨List.mem_of_getElem? (i := 103) (by decide +kernel), List.forall_mem_cons.mpr ⟨List.mem_of_getElem? (i := 104) (by decide +kernel), List.forall_mem_cons.mpr ⟨List.mem_of_getElem? (i := 105) rfl, List.forall_mem_cons.mpr ⟨List.mem_of_getElem? (i := 106) (by decide +kernel), fun _ h => absurd h List.not_mem_nil⟩⟩⟩⟩⟩⟩⟩⟩⟩⟩⟩⟩⟩⟩⟩⟩⟩⟩⟩⟩⟩⟩⟩⟩
set_option maxRecDepth 100000 in
theorem wsL_in_4 : ∀ w ∈ wsL_law_r4, w ∈ lw_tbl := List.forall_mem_cons.mpr ⟨List.mem_of_getElem? (i := 109) (by decide +kernel), List.forall_mem_cons.mpr ⟨List.mem_of_getElem? (i := 107) (by decide +kernel), List.forall_mem_cons.mpr ⟨List.mem_of_getElem? (i := 455) (by decide +kernel), List.forall_mem_cons.mpr ⟨List.mem_of_getElem? (i := 456) (by decide +kernel), List.forall_mem_cons.mpr ⟨List.mem_of_getElem? (i := 457) (by decide +kernel), List.forall_mem_cons.mpr ⟨List.mem_of_getElem? (i := 458) rfl, List.forall_mem_cons.mpr ⟨List.mem_of_getElem? (i := 466) (by decide +kernel), List.forall_mem_cons.mpr ⟨List.mem_of_getElem? (i := 467) (by decide +kernel), List.forall_mem_cons.mpr ⟨List.mem_of_getElem? (i := 459) (by decide +kernel), List.forall_mem_cons.mpr ⟨List.mem_of_getElem? (i := 460) (by decide +kernel), List.forall_mem_cons.mpr ⟨List.mem_of_getElem? (i := 461) rfl, List.forall_mem_cons.mpr ⟨List.mem_of_getElem? (i := 462) (by decide +kernel), List.forall_mem_cons.mpr ⟨List.mem_of_getElem? (i := 463) (by decide +kernel), List.forall_mem_cons.mpr ⟨List.mem_of_getElem? (i := 464) (by decide +kernel), List.forall_mem_cons.mpr ⟨List.mem_of_getElem? (i := 465) rfl, List.forall_mem_cons.mpr ⟨List.mem_of_getElem? (i := 468) (by decide +kernel), List.forall_mem_cons.mpr ⟨List.mem_of_getElem? (i := 470) (by decide +kernel), List.forall_mem_cons.mpr ⟨List.mem_of_getElem? (i := 11) (by decide +kernel), List.forall_mem_cons.mpr ⟨List.mem_of_getElem? (i := 471) rfl, List.forall_mem_cons.mpr ⟨List.mem_of_getElem? (i := 472) (by decide +kernel), List.forall_mem_cons.mpr ⟨List.mem_of_getElem? (i := 473) (by decide +kernel), List.forall_mem_cons.mpr ⟨List.mem_of_getElem? (i := 474) rfl, List.forall_mem_cons.mpr ⟨List.mem_of_getElem? (i := 475) (by decide +kernel), List.forall_mem_cons.mpr ⟨List.mem_of_getElem? (i := 476) (by decide +kernel), fun _ h => absurd h List.not_mem_nil⟩⟩⟩⟩⟩⟩⟩⟩⟩⟩⟩⟩⟩⟩⟩⟩⟩⟩⟩⟩⟩⟩⟩⟩
set_option maxRecDepth 100000 in
theorem wsL_in_5 : ∀ w ∈ wsL_law_r5, w ∈ lw_tbl := List.forall_mem_cons.mpr ⟨List.mem_of_getElem? (i := 477) rfl, List.forall_mem_cons.mpr ⟨List.mem_of_getElem? (i := 478) (by decide +kernel), List.forall_mem_cons.mpr ⟨List.mem_of_getElem? (i := 480) (by decide +kernel), List.forall_mem_cons.mpr ⟨List.mem_of_getElem? (i := 12) (by decide +kernel), List.forall_mem_cons.mpr ⟨List.mem_of_getElem? (i := 481) rfl, List.forall_mem_cons.mpr ⟨List.mem_of_getElem? (i := 482) (by decide +kernel), List.forall_mem_cons.mpr ⟨List.mem_of_getElem? (i := 131) (by decide +kernel), List.forall_mem_cons.mpr ⟨List.mem_of_getElem? (i := 132) (by decide +kernel), List.forall_mem_cons.mpr ⟨List.mem_of_getElem? (i := 133) (by decide +kernel), List.forall_mem_cons.mpr ⟨List.mem_of_getElem? (i := 134) rfl, List.forall_mem_cons.mpr ⟨List.mem_of_getElem? (i := 483) (by decide +kernel), List.forall_mem_cons.mpr ⟨List.mem_of_getElem? (i := 484) (by decide +kernel), List.forall_mem_cons.mpr ⟨List.mem_of_getElem? (i := 485) (by decide +kernel), List.forall_mem_cons.mpr ⟨List.mem_of_getElem? (i := 486) rfl, List.forall_mem_cons.mpr ⟨List.mem_of_getElem? (i := 135) (by decide +kernel), List.forall_mem_cons.mpr ⟨List.mem_of_getElem? (i := 136) (by decide +kernel), List.forall_mem_cons.mpr ⟨List.mem_of_getElem? (i := 137) (by decide +kernel), List.forall_mem_cons.mpr ⟨List.mem_of_getElem? (i := 138) rfl, List.forall_mem_cons.mpr ⟨List.mem_of_getElem? (i := 487) (by decide +kernel), List.forall_mem_cons.mpr ⟨List.mem_of_getElem? (i := 488) (by decide +kernel), List.forall_mem_cons.mpr ⟨List.mem_of_getElem? (i := 489) (by decide +kernel), List.forall_mem_cons.mpr ⟨List.mem_of_getElem? (i := 490) rfl, List.forall_mem_cons.mpr ⟨List.mem_of_getElem? (i := 139) (by decide +kernel), List.forall_mem_cons.mpr ⟨List.mem_of_getElem? (i := 140) (by decide +kernel), fun _ h => absurd h List.not_mem_nil⟩⟩⟩⟩⟩⟩⟩⟩⟩⟩⟩⟩⟩⟩⟩⟩⟩⟩⟩⟩⟩⟩⟩⟩
set_option maxRecDepth 100000 in
theorem wsL_in_6 : ∀ w ∈ wsL_law_r6, w ∈ lw_tbl := List.forall_mem_cons.mpr ⟨List.mem_of_getElem? (i := 141) (by decide +kernel), List.forall_mem_cons.mpr ⟨List.mem_of_getElem? (i := 142) rfl, List.forall_mem_cons.mpr ⟨List.mem_of_getElem? (i := 491) (by decide +kernel), List.forall_mem_cons.mpr ⟨List.mem_of_getElem? (i := 492) (by decide +kernel), List.forall_mem_cons.mpr ⟨List.mem_of_getElem? (i := 493) (by decide +kernel), List.forall_mem_cons.mpr ⟨List.mem_of_getElem? (i := 494) rfl, List.forall_mem_cons.mpr ⟨List.mem_of_getElem? (i := 143) (by decide +kernel), List.forall_mem_cons.mpr ⟨List.mem_of_getElem? (i := 144) (by decide +kernel), List.forall_mem_cons.mpr ⟨List.mem_of_getElem? (i := 145) (by decide +kernel), List.forall_mem_cons.mpr ⟨List.mem_of_getElem? (i := 146) rfl, List.forall_mem_cons.mpr ⟨List.mem_of_getElem? (i := 108) (by decide +kernel), List.forall_mem_cons.mpr ⟨List.mem_of_getElem? (i := 495) (by decide +kernel), List.forall_mem_cons.mpr ⟨List.mem_of_getElem? (i := 496) (by decide +kernel), List.forall_mem_cons.mpr ⟨List.mem_of_getElem? (i := 497) (by decide +kernel), List.forall_mem_cons.mpr ⟨List.mem_of_getElem? (i := 498) rfl, List.forall_mem_cons.mpr ⟨List.mem_of_getElem? (i := 147) (by decide +kernel), List.forall_mem_cons.mpr ⟨List.mem_of_getElem? (i := 148) (by decide +kernel), List.forall_mem_cons.mpr ⟨List.mem_of_getElem? (i := 149) (by decide +kernel), List.forall_mem_cons.mpr ⟨List.mem_of_getElem? (i := 150) rfl, List.forall_mem_cons.mpr ⟨List.mem_of_getElem? (i := 151) (by decide +kernel), List.forall_mem_cons.mpr ⟨List.mem_of_getElem? (i := 152) (by decide +kernel), List.forall_mem_cons.mpr ⟨List.mem_of_getElem? (i := 153) (by decide +kernel), List.forall_mem_cons.mpr ⟨List.mem_of_getElem? (i := 154) rfl, List.forall_mem_cons.mpr ⟨List.mem_of_getElem? (i := 499) (by decide +kernel), fun _ h => absurd h List.not_mem_nil⟩⟩⟩⟩⟩⟩⟩⟩⟩⟩⟩⟩⟩⟩⟩⟩⟩⟩⟩⟩⟩⟩⟩⟩
set_option maxRecDepth 100000 in
theorem wsL_in_7 : ∀ w ∈ wsL_law_r7, w ∈ lw_tbl := List.forall_mem_cons.mpr ⟨List.mem_of_getElem? (i := 500) (by decide +kernel), List.forall_mem_cons.mpr ⟨List.mem_of_getElem? (i := 501) (by decide +kernel), List.forall_mem_cons.mpr ⟨List.mem_of_getElem? (i := 502) rfl, List.forall_mem_cons.mpr ⟨List.mem_of_getElem? (i := 503) (by decide +kernel), List.forall_mem_cons.mpr ⟨List.mem_of_getElem? (i := 504) (by decide +kernel), List.forall_mem_cons.mpr ⟨List.mem_of_getElem? (i := 505) (by decide +kernel), List.forall_mem_cons.mpr ⟨List.mem_of_getElem? (i := 506) rfl, List.forall_mem_cons.mpr ⟨List.mem_of_getElem? (i := 155) (by decide +kernel), List.forall_mem_cons.mpr ⟨List.mem_of_getElem? (i := 156) (by decide +kernel), List.forall_mem_cons.mpr ⟨List.mem_of_getElem? (i := 157) (by decide +kernel), List.forall_mem_cons.mpr ⟨List.mem_of_getElem? (i := 158) rfl, List.forall_mem_cons.mpr ⟨List.mem_of_getElem? (i := 167) (by decide +kernel), List.forall_mem_cons.mpr ⟨List.mem_of_getElem? (i := 168) (by decide +kernel), List.forall_mem_cons.mpr ⟨List.mem_of_getElem? (i := 110) (by decide +kernel), List.forall_mem_cons.mpr ⟨List.mem_of_getElem? (i := 159) (by decide +kernel), List.forall_mem_cons.mpr ⟨List.mem_of_getElem? (i := 160) (by decide +kernel), List.forall_mem_cons.mpr ⟨List.mem_of_getElem? (i := 161) rfl, List.forall_mem_cons.mpr ⟨List.mem_of_getElem? (i := 165) (by decide +kernel), List.forall_mem_cons.mpr ⟨List.mem_of_getElem? (i := 162) (by decide +kernel), List.forall_mem_cons.mpr ⟨List.mem_of_getElem? (i := 163) (by decide +kernel), List.forall_mem_cons.mpr ⟨List.mem_of_getElem? (i := 164) rfl, List.forall_mem_cons.mpr ⟨List.mem_of_getElem? (i := 170) (by decide +kernel), List.forall_mem_cons.mpr ⟨List.mem_of_getElem? (i := 171) (by decide +kernel), List.forall_mem_cons.mpr ⟨List.mem_of_getElem? (i := 172) rfl, fun _ h => absurd h List.not_mem_nil⟩⟩⟩⟩⟩⟩⟩⟩⟩⟩⟩⟩⟩⟩⟩⟩⟩⟩⟩⟩⟩⟩⟩⟩
set_option maxRecDepth 100000 in
theorem wsL_in_8 : ∀ w ∈ wsL_law_r8, w ∈ lw_tbl := List.forall_mem_cons.mpr ⟨List.mem_of_getElem? (i := 507) (by decide +kernel), List.forall_mem_cons.mpr ⟨List.mem_of_getElem? (i := 508) (by decide +kernel), List.forall_mem_cons.mpr ⟨List.mem_of_getElem? (i := 509) (by decide +kernel), List.forall_mem_cons.mpr ⟨List.mem_of_getElem? (i := 510) rfl, List.forall_mem_cons.mpr ⟨List.mem_of_getElem? (i := 517) (by decide +kernel), List.forall_mem_cons.mpr ⟨List.mem_of_getElem? (i := 522) (by decide +kernel), List.forall_mem_cons.mpr ⟨List.mem_of_getElem? (i := 511) (by decide +kernel), List.forall_mem_cons.mpr ⟨List.mem_of_getElem? (i := 512) (by decide +kernel), List.forall_mem_cons.mpr ⟨List.mem_of_getElem? (i := 513) rfl, List.forall_mem_cons.mpr ⟨List.mem_of_getElem? (i := 514) (by decide +kernel), List.forall_mem_cons.mpr ⟨List.mem_of_getElem? (i := 515) (by decide +kernel), List.forall_mem_cons.mpr ⟨List.mem_of_getElem? (i := 516) (by decide +kernel), List.forall_mem_cons.mpr ⟨List.mem_of_getElem? (i := 518) (by decide +kernel), List.forall_mem_cons.mpr ⟨List.mem_of_getElem? (i := 520) (by decide +kernel), List.forall_mem_cons.mpr ⟨List.mem_of_getElem? (i := 13) (by decide +kernel), List.forall_mem_cons.mpr ⟨List.mem_of_getElem? (i := 521) rfl, List.forall_mem_cons.mpr ⟨List.mem_of_getElem? (i := 173) (by decide +kernel), List.forall_mem_cons.mpr ⟨List.mem_of_getElem? (i := 174) (by decide +kernel), List.forall_mem_cons.mpr ⟨List.mem_of_getElem? (i := 175) (by decide +kernel), List.forall_mem_cons.mpr ⟨List.mem_of_getElem? (i := 176) rfl, List.forall_mem_cons.mpr ⟨List.mem_of_getElem? (i := 177) (by decide +kernel), List.forall_mem_cons.mpr ⟨List.mem_of_getElem? (i := 178) (by decide +kernel), List.forall_mem_cons.mpr ⟨List.mem_of_getElem? (i := 179) rfl, List.forall_mem_cons.mpr ⟨List.mem_of_getElem? (i := 180) (by decide +kernel), fun _ h => absurd h List.not_mem_nil⟩⟩⟩⟩⟩⟩⟩⟩⟩⟩⟩⟩⟩⟩⟩⟩⟩⟩⟩⟩⟩⟩⟩⟩
set_option maxRecDepth 100000 in
theorem wsL_in_9 : ∀ w ∈ wsL_law_r9, w ∈ lw_tbl := List.forall_mem_cons.mpr ⟨List.mem_of_getElem? (i := 181) (by decide +kernel), List.forall_mem_cons.mpr ⟨List.mem_of_getElem? (i := 182) rfl, List.forall_mem_cons.mpr ⟨List.mem_of_getElem? (i := 183) (by decide +kernel), List.forall_mem_cons.mpr ⟨List.mem_of_getElem? (i := 184) (by decide +kernel), List.forall_mem_cons.mpr ⟨List.mem_of_getElem? (i := 185) rfl, List.forall_mem_cons.mpr ⟨List.mem_of_getElem? (i := 186) (by decide +kernel), List.forall_mem_cons.mpr ⟨List.mem_of_getElem? (i := 187) (by decide +kernel), List.forall_mem_cons.mpr ⟨List.mem_of_getElem? (i := 188) (by decide +kernel), List.forall_mem_cons.mpr ⟨List.mem_of_getElem? (i := 189) (by decide +kernel), List.forall_mem_cons.mpr ⟨List.mem_of_getElem? (i := 190) (by decide +kernel), List.forall_mem_cons.mpr ⟨List.mem_of_getElem? (i := 191) rfl, List.forall_mem_cons.mpr ⟨List.mem_of_getElem? (i := 192) (by decide +kernel), List.forall_mem_cons.mpr ⟨List.mem_of_getElem? (i := 193) (by decide +kernel), List.forall_mem_cons.mpr ⟨List.mem_of_getElem? (i := 194) (by decide +kernel), List.forall_mem_cons.mpr ⟨List.mem_of_getElem? (i := 523) (by decide +kernel), List.forall_mem_cons.mpr ⟨List.mem_of_getElem? (i := 524) (by decide +kernel), List.forall_mem_cons.mpr ⟨List.mem_of_getElem? (i := 525) (by decide +kernel), List.forall_mem_cons.mpr ⟨List.mem_of_getElem? (i := 526) rfl, List.forall_mem_cons.mpr ⟨List.mem_of_getElem? (i := 527) (by decide +kernel), List.forall_mem_cons.mpr ⟨List.mem_of_getElem? (i := 528) (by decide +kernel), List.forall_mem_cons.mpr ⟨List.mem_of_getElem? (i := 529) rfl, List.forall_mem_cons.mpr ⟨List.mem_of_getElem? (i := 530) (by decide +kernel), List.forall_mem_cons.mpr ⟨List.mem_of_getElem? (i := 531) (by decide +kernel), List.forall_mem_cons.mpr ⟨List.mem_of_getElem? (i := 532) (by decide +kernel), fun _ h => absurd h List.not_mem_nil⟩⟩⟩⟩⟩⟩⟩⟩⟩⟩⟩⟩⟩⟩⟩⟩⟩⟩⟩⟩⟩⟩⟩⟩
set_option maxRecDepth 100000 in
theorem wsL_in_10 : ∀ w ∈ wsL_law_r10, w ∈ lw_tbl := List.forall_mem_cons.mpr ⟨List.mem_of_getElem? (i := 533) (by decide +kernel), List.forall_mem_cons.mpr ⟨List.mem_of_getElem? (i := 534) (by decide +kernel), List.forall_mem_cons.mpr ⟨List.mem_of_getElem? (i := 535) (by decide +kernel), List.forall_mem_cons.mpr ⟨List.mem_of_getElem? (i := 536) (by decide +kernel), List.forall_mem_cons.mpr ⟨List.mem_of_getElem? (i := 195) (by decide +kernel), List.forall_mem_cons.mpr ⟨List.mem_of_getElem? (i := 196) (by decide +kernel), List.forall_mem_cons.mpr ⟨List.mem_of_getElem? (i := 197) (by decide +kernel), List.forall_mem_cons.mpr ⟨List.mem_of_getElem? (i := 198) rfl, List.forall_mem_cons.mpr ⟨List.mem_of_getElem? (i := 199) (by decide +kernel), List.forall_mem_cons.mpr ⟨List.mem_of_getElem? (i := 200) (by decide +kernel), List.forall_mem_cons.mpr ⟨List.mem_of_getElem? (i := 201) rfl, List.forall_mem_cons.mpr ⟨List.mem_of_getElem? (i := 202) (by decide +kernel), List.forall_mem_cons.mpr ⟨List.mem_of_getElem? (i := 203) (by decide +kernel), List.forall_mem_cons.mpr ⟨List.mem_of_getElem? (i := 204) rfl, List.forall_mem_cons.mpr ⟨List.mem_of_getElem? (i := 205) (by decide +kernel), List.forall_mem_cons.mpr ⟨List.mem_of_getElem? (i := 206) (by decide +kernel), List.forall_mem_cons.mpr ⟨List.mem_of_getElem? (i := 207) (by decide +kernel), List.forall_mem_cons.mpr ⟨List.mem_of_getElem? (i := 208) rfl, List.forall_mem_cons.mpr ⟨List.mem_of_getElem? (i := 111) (by decide +kernel), List.forall_mem_cons.mpr ⟨List.mem_of_getElem? (i := 113) (by decide +kernel), List.forall_mem_cons.mpr ⟨List.mem_of_getElem? (i := 115) (by decide +kernel), List.forall_mem_cons.mpr ⟨List.mem_of_getElem? (i := 537) (by decide +kernel), List.forall_mem_cons.mpr ⟨List.mem_of_getElem? (i := 538) (by decide +kernel), List.forall_mem_cons.mpr ⟨List.mem_of_getElem? (i := 539) (by decide +kernel), fun _ h => absurd h List.not_mem_nil⟩⟩⟩⟩⟩⟩⟩⟩⟩⟩⟩⟩⟩⟩⟩⟩⟩⟩⟩⟩⟩⟩⟩⟩
set_option maxRecDepth 100000 in
theorem wsL_in_11 : ∀ w ∈ wsL_law_r11, w ∈ lw_tbl := List.forall_mem_cons.mpr ⟨List.mem_of_getElem? (i := 540) rfl, List.forall_mem_cons.mpr ⟨List.mem_of_getElem? (i := 541) (by decide +kernel), List.forall_mem_cons.mpr ⟨List.mem_of_getElem? (i := 542) (by decide +kernel), List.forall_mem_cons.mpr ⟨List.mem_of_getElem? (i := 543) rfl, List.forall_mem_cons.mpr ⟨List.mem_of_getElem? (i := 209) (by decide +kernel), List.forall_mem_cons.mpr ⟨List.mem_of_getElem? (i := 210) (by decide +kernel), List.forall_mem_cons.mpr ⟨List.mem_of_getElem? (i := 211) (by decide +kernel), List.forall_mem_cons.mpr ⟨List.mem_of_getElem? (i := 212) rfl, List.forall_mem_cons.mpr ⟨List.mem_of_getElem? (i := 213) (by decide +kernel), List.forall_mem_cons.mpr ⟨List.mem_of_getElem? (i := 214) (by decide +kernel), List.forall_mem_cons.mpr ⟨List.mem_of_getElem? (i := 215) (by decide +kernel), List.forall_mem_cons.mpr ⟨List.mem_of_getElem? (i := 216) rfl, List.forall_mem_cons.mpr ⟨List.mem_of_getElem? (i := 544) (by decide +kernel), List.forall_mem_cons.mpr ⟨List.mem_of_getElem? (i := 545) (by decide +kernel), List.forall_mem_cons.mpr ⟨List.mem_of_getElem? (i := 546) (by decide +kernel), List.forall_mem_cons.mpr ⟨List.mem_of_getElem? (i := 547) rfl, List.forall_mem_cons.mpr ⟨List.mem_of_getElem? (i := 217) (by decide +kernel), List.forall_mem_cons.mpr ⟨List.mem_of_getElem? (i := 218) (by decide +kernel), List.forall_mem_cons.mpr ⟨List.mem_of_getElem? (i := 219) (by decide +kernel), List.forall_mem_cons.mpr ⟨List.mem_of_getElem? (i := 220) rfl, List.forall_mem_cons.mpr ⟨List.mem_of_getElem? (i := 117) (by decide +kernel), List.forall_mem_cons.mpr ⟨List.mem_of_getElem? (i := 548) (by decide +kernel), List.forall_mem_cons.mpr ⟨List.mem_of_getElem? (i := 549) (by decide +kernel), List.forall_mem_cons.mpr ⟨List.mem_of_getElem? (i := 550) (by decide +kernel), fun _ h => absurd h List.not_mem_nil⟩⟩⟩⟩⟩⟩⟩⟩⟩⟩⟩⟩⟩⟩⟩⟩⟩⟩⟩⟩⟩⟩⟩⟩
set_option maxRecDepth 100000 in
theorem wsL_in_12 : ∀ w ∈ wsL_law_r12, w ∈ lw_tbl := List.forall_mem_cons.mpr ⟨List.mem_of_getElem? (i := 551) rfl, List.forall_mem_cons.mpr ⟨List.mem_of_getElem? (i := 221) (by decide +kernel), List.forall_mem_cons.mpr ⟨List.mem_of_getElem? (i := 222) (by decide +kernel), List.forall_mem_cons.mpr ⟨List.mem_of_getElem? (i := 223) (by decide +kernel), List.forall_mem_cons.mpr ⟨List.mem_of_getElem? (i := 224) rfl, List.forall_mem_cons.mpr ⟨List.mem_of_getElem? (i := 225) (by decide +kernel), List.forall_mem_cons.mpr ⟨List.mem_of_getElem? (i := 226) (by decide +kernel), List.forall_mem_cons.mpr ⟨List.mem_of_getElem? (i := 227) rfl, List.forall_mem_cons.mpr ⟨List.mem_of_getElem? (i := 552) (by decide +kernel), List.forall_mem_cons.mpr ⟨List.mem_of_getElem? (i := 553) (by decide +kernel), List.forall_mem_cons.mpr ⟨List.mem_of_getElem? (i := 554) (by decide +kernel), List.forall_mem_cons.mpr ⟨List.mem_of_getElem? (i := 555) rfl, List.forall_mem_cons.mpr ⟨List.mem_of_getElem? (i := 556) (by decide +kernel), List.forall_mem_cons.mpr ⟨List.mem_of_getElem? (i := 558) (by decide +kernel), List.forall_mem_cons.mpr ⟨List.mem_of_getElem? (i := 14) (by decide +kernel), List.forall_mem_cons.mpr ⟨List.mem_of_getElem? (i := 559) rfl, List.forall_mem_cons.mpr ⟨List.mem_of_getElem? (i := 228) (by decide +kernel), List.forall_mem_cons.mpr ⟨List.mem_of_getElem? (i := 229) (by decide +kernel), List.forall_mem_cons.mpr ⟨List.mem_of_getElem? (i := 230) (by decide +kernel), List.forall_mem_cons.mpr ⟨List.mem_of_getElem? (i := 231) rfl, List.forall_mem_cons.mpr ⟨List.mem_of_getElem? (i := 560) (by decide +kernel), List.forall_mem_cons.mpr ⟨List.mem_of_getElem? (i := 561) (by decide +kernel), List.forall_mem_cons.mpr ⟨List.mem_of_getElem? (i := 562) (by decide +kernel), List.forall_mem_cons.mpr ⟨List.mem_of_getElem? (i := 563) rfl, fun _ h => absurd h List.not_mem_nil⟩⟩⟩⟩⟩⟩⟩⟩⟩⟩⟩⟩⟩⟩⟩⟩⟩⟩⟩⟩⟩⟩⟩⟩
set_option maxRecDepth 100000 in
theorem wsL_in_13 : ∀ w ∈ wsL_law_r13, w ∈ lw_tbl := List.forall_mem_cons.mpr ⟨List.mem_of_getElem? (i := 232) (by decide +kernel), List.forall_mem_cons.mpr ⟨List.mem_of_getElem? (i := 233) (by decide +kernel), List.forall_mem_cons.mpr ⟨List.mem_of_getElem? (i := 234) (by decide +kernel), List.forall_mem_cons.mpr ⟨List.mem_of_getElem? (i := 235) rfl, List.forall_mem_cons.mpr ⟨List.mem_of_getElem? (i := 236) (by decide +kernel), List.forall_mem_cons.mpr ⟨List.mem_of_getElem? (i := 564) (by decide +kernel), List.forall_mem_cons.mpr ⟨List.mem_of_getElem? (i := 565) (by decide +kernel), List.forall_mem_cons.mpr ⟨List.mem_of_getElem? (i := 566) (by decide +kernel), List.forall_mem_cons.mpr ⟨List.mem_of_getElem? (i := 567) rfl, List.forall_mem_cons.mpr ⟨List.mem_of_getElem? (i := 568) (by decide +kernel), List.forall_mem_cons.mpr ⟨List.mem_of_getElem? (i := 238) (by decide +kernel), List.forall_mem_cons.mpr ⟨List.mem_of_getElem? (i := 239) (by decide +kernel), List.forall_mem_cons.mpr ⟨List.mem_of_getElem? (i := 240) (by decide +kernel), List.forall_mem_cons.mpr ⟨List.mem_of_getElem? (i := 241) rfl, List.forall_mem_cons.mpr ⟨List.mem_of_getElem? (i := 112) (by decide +kernel), List.forall_mem_cons.mpr ⟨List.mem_of_getElem? (i := 242) (by decide +kernel), List.forall_mem_cons.mpr ⟨List.mem_of_getElem? (i := 243) (by decide +kernel), List.forall_mem_cons.mpr ⟨List.mem_of_getElem? (i := 244) (by decide +kernel), List.forall_mem_cons.mpr ⟨List.mem_of_getElem? (i := 245) rfl, List.forall_mem_cons.mpr ⟨List.mem_of_getElem? (i := 246) (by decide +kernel), List.forall_mem_cons.mpr ⟨List.mem_of_getElem? (i := 247) (by decide +kernel), List.forall_mem_cons.mpr ⟨List.mem_of_getElem? (i := 248) (by decide +kernel), List.forall_mem_cons.mpr ⟨List.mem_of_getElem? (i := 249) rfl, List.forall_mem_cons.mpr ⟨List.mem_of_getElem? (i := 250) (by decide +kernel), fun _ h => absurd h List.not_mem_nil⟩⟩⟩⟩⟩⟩⟩⟩⟩⟩⟩⟩⟩⟩⟩⟩⟩⟩⟩⟩⟩⟩⟩⟩
set_option maxRecDepth 100000 in
theorem wsL_in_14 : ∀ w ∈ wsL_law_r14, w ∈ lw_tbl := List.forall_mem_cons.mpr ⟨List.mem_of_getElem? (i := 251) (by decide +kernel), List.forall_mem_cons.mpr ⟨List.mem_of_getElem? (i := 252) (by decide +kernel), List.forall_mem_cons.mpr ⟨List.mem_of_getElem? (i := 253) rfl, List.forall_mem_cons.mpr ⟨List.mem_of_getElem? (i := 254) (by decide +kernel), List.forall_mem_cons.mpr ⟨List.mem_of_getElem? (i := 255) (by decide +kernel), List.forall_mem_cons.mpr ⟨List.mem_of_getElem? (i := 256) (by decide +kernel), List.forall_mem_cons.mpr ⟨List.mem_of_getElem? (i := 257) rfl, List.forall_mem_cons.mpr ⟨List.mem_of_getElem? (i := 258) (by decide +kernel), List.forall_mem_cons.mpr ⟨List.mem_of_getElem? (i := 259) (by decide +kernel), List.forall_mem_cons.mpr ⟨List.mem_of_getElem? (i := 260) (by decide +kernel), List.forall_mem_cons.mpr ⟨List.mem_of_getElem? (i := 261) rfl, List.forall_mem_cons.mpr ⟨List.mem_of_getElem? (i := 569) (by decide +kernel), List.forall_mem_cons.mpr ⟨List.mem_of_getElem? (i := 570) (by decide +kernel), List.forall_mem_cons.mpr ⟨List.mem_of_getElem? (i := 571) (by decide +kernel), List.forall_mem_cons.mpr ⟨List.mem_of_getElem? (i := 572) rfl, List.forall_mem_cons.mpr ⟨List.mem_of_getElem? (i := 573) (by decide +kernel), List.forall_mem_cons.mpr ⟨List.mem_of_getElem? (i := 575) (by decide +kernel), List.forall_mem_cons.mpr ⟨List.mem_of_getElem? (i := 15) (by decide +kernel), List.forall_mem_cons.mpr ⟨List.mem_of_getElem? (i := 576) rfl, List.forall_mem_cons.mpr ⟨List.mem_of_getElem? (i := 577) (by decide +kernel), List.forall_mem_cons.mpr ⟨List.mem_of_getElem? (i := 579) (by decide +kernel), List.forall_mem_cons.mpr ⟨List.mem_of_getElem? (i := 16) (by decide +kernel), List.forall_mem_cons.mpr ⟨List.mem_of_getElem? (i := 580) rfl, List.forall_mem_cons.mpr ⟨List.mem_of_getElem? (i := 581) (by decide +kernel), fun _ h => absurd h List.not_mem_nil⟩⟩⟩⟩⟩⟩⟩⟩⟩⟩⟩⟩⟩⟩⟩⟩⟩⟩⟩⟩⟩⟩⟩⟩
set_option maxRecDepth 100000 in
theorem wsL_in_15 : ∀ w ∈ wsL_law_r15, w ∈ lw_tbl := List.forall_mem_cons.mpr ⟨List.mem_of_getElem? (i := 583) (by decide +kernel), List.forall_mem_cons.mpr ⟨List.mem_of_getElem? (i := 17) (by decide +kernel), List.forall_mem_cons.mpr ⟨List.mem_of_getElem? (i := 584) rfl, List.forall_mem_cons.mpr ⟨List.mem_of_getElem? (i := 262) (by decide +kernel), List.forall_mem_cons.mpr ⟨List.mem_of_getElem? (i := 263) (by decide +kernel), List.forall_mem_cons.mpr ⟨List.mem_of_getElem? (i := 264) (by decide +kernel), List.forall_mem_cons.mpr ⟨List.mem_of_getElem? (i := 265) rfl, List.forall_mem_cons.mpr ⟨List.mem_of_getElem? (i := 266) (by decide +kernel), List.forall_mem_cons.mpr ⟨List.mem_of_getElem? (i := 267) (by decide +kernel), List.forall_mem_cons.mpr ⟨List.mem_of_getElem? (i := 268) rfl, List.forall_mem_cons.mpr ⟨List.mem_of_getElem? (i := 585) (by decide +kernel), List.forall_mem_cons.mpr ⟨List.mem_of_getElem? (i := 586) (by decide +kernel), List.forall_mem_cons.mpr ⟨List.mem_of_getElem? (i := 587) (by decide +kernel), List.forall_mem_cons.mpr ⟨List.mem_of_getElem? (i := 588) rfl, List.forall_mem_cons.mpr ⟨List.mem_of_getElem? (i := 269) (by decide +kernel), List.forall_mem_cons.mpr ⟨List.mem_of_getElem? (i := 270) (by decide +kernel), List.forall_mem_cons.mpr ⟨List.mem_of_getElem? (i := 271) (by decide +kernel), List.forall_mem_cons.mpr ⟨List.mem_of_getElem? (i := 272) rfl, List.forall_mem_cons.mpr ⟨List.mem_of_getElem? (i := 65) (by decide +kernel), List.forall_mem_cons.mpr ⟨List.mem_of_getElem? (i := 589) (by decide +kernel), List.forall_mem_cons.mpr ⟨List.mem_of_getElem? (i := 590) (by decide +kernel), List.forall_mem_cons.mpr ⟨List.mem_of_getElem? (i := 591) (by decide +kernel), List.forall_mem_cons.mpr ⟨List.mem_of_getElem? (i := 592) rfl, List.forall_mem_cons.mpr ⟨List.mem_of_getElem? (i := 391) (by decide +kernel), fun _ h => absurd h List.not_mem_nil⟩⟩⟩⟩⟩⟩⟩⟩⟩⟩⟩⟩⟩⟩⟩⟩⟩⟩⟩⟩⟩⟩⟩⟩
set_option maxRecDepth 100000 in
theorem wsL_in_16 : ∀ w ∈ wsL_law_r16, w ∈ lw_tbl := List.forall_mem_cons.mpr ⟨List.mem_of_getElem? (i := 593) (by decide +kernel), List.forall_mem_cons.mpr ⟨List.mem_of_getElem? (i := 273) (by decide +kernel), List.forall_mem_cons.mpr ⟨List.mem_of_getElem? (i := 274) (by decide +kernel), List.forall_mem_cons.mpr ⟨List.mem_of_getElem? (i := 275) (by decide +kernel), List.forall_mem_cons.mpr ⟨List.mem_of_getElem? (i := 276) rfl, List.forall_mem_cons.mpr ⟨List.mem_of_getElem? (i := 594) (by decide +kernel), List.forall_mem_cons.mpr ⟨List.mem_of_getElem? (i := 595) (by decide +kernel), List.forall_mem_cons.mpr ⟨List.mem_of_getElem? (i := 596) (by decide +kernel), List.forall_mem_cons.mpr ⟨List.mem_of_getElem? (i := 597) rfl, List.forall_mem_cons.mpr ⟨List.mem_of_getElem? (i := 277) (by decide +kernel), List.forall_mem_cons.mpr ⟨List.mem_of_getElem? (i := 278) (by decide +kernel), List.forall_mem_cons.mpr ⟨List.mem_of_getElem? (i := 279) (by decide +kernel), List.forall_mem_cons.mpr ⟨List.mem_of_getElem? (i := 280) rfl, List.forall_mem_cons.mpr ⟨List.mem_of_getElem? (i := 52) (by decide +kernel), List.forall_mem_cons.mpr ⟨List.mem_of_getElem? (i := 281) (by decide +kernel), List.forall_mem_cons.mpr ⟨List.mem_of_getElem? (i := 283) (by decide +kernel), List.forall_mem_cons.mpr ⟨List.mem_of_getElem? (i := 0) (by decide +kernel), List.forall_mem_cons.mpr ⟨List.mem_of_getElem? (i := 284) rfl, List.forall_mem_cons.mpr ⟨List.mem_of_getElem? (i := 70) (by decide +kernel), List.forall_mem_cons.mpr ⟨List.mem_of_getElem? (i := 285) (by decide +kernel), List.forall_mem_cons.mpr ⟨List.mem_of_getElem? (i := 287) (by decide +kernel), List.forall_mem_cons.mpr ⟨List.mem_of_getElem? (i := 1) (by decide +kernel), List.forall_mem_cons.mpr ⟨List.mem_of_getElem? (i := 288) rfl, List.forall_mem_cons.mpr ⟨List.mem_of_getElem? (i := 114) (by decide +kernel), fun _ h => absurd h List.not_mem_nil⟩⟩⟩⟩⟩⟩⟩⟩⟩⟩⟩⟩⟩⟩⟩⟩⟩⟩⟩⟩⟩⟩⟩⟩
set_option maxRecDepth 100000 in
theorem wsL_in_17 : ∀ w ∈ wsL_law_r17, w ∈ lw_tbl := List.forall_mem_cons.mpr ⟨List.mem_of_getElem? (i := 116) (by decide +kernel), List.forall_mem_cons.mpr ⟨List.mem_of_getElem? (i := 289) (by decide +kernel), List.forall_mem_cons.mpr ⟨List.mem_of_getElem? (i := 291) (by decide +kernel), List.forall_mem_cons.mpr ⟨List.mem_of_getElem? (i := 2) (by decide +kernel), List.forall_mem_cons.mpr ⟨List.mem_of_getElem? (i := 292) rfl, List.forall_mem_cons.mpr ⟨List.mem_of_getElem? (i := 293) (by decide +kernel), List.forall_mem_cons.mpr ⟨List.mem_of_getElem? (i := 295) (by decide +kernel), List.forall_mem_cons.mpr ⟨List.mem_of_getElem? (i := 3) (by decide +kernel), List.forall_mem_cons.mpr ⟨List.mem_of_getElem? (i := 296) rfl, List.forall_mem_cons.mpr ⟨List.mem_of_getElem? (i := 297) (by decide +kernel), List.forall_mem_cons.mpr ⟨List.mem_of_getElem? (i := 299) (by decide +kernel), List.forall_mem_cons.mpr ⟨List.mem_of_getElem? (i := 4) (by decide +kernel), List.forall_mem_cons.mpr ⟨List.mem_of_getElem? (i := 300) rfl, List.forall_mem_cons.mpr ⟨List.mem_of_getElem? (i := 301) (by decide +kernel), List.forall_mem_cons.mpr ⟨List.mem_of_getElem? (i := 302) (by decide +kernel), List.forall_mem_cons.mpr ⟨List.mem_of_getElem? (i := 303) (by decide +kernel), List.forall_mem_cons.mpr ⟨List.mem_of_getElem? (i := 304) rfl, List.forall_mem_cons.mpr ⟨List.mem_of_getElem? (i := 51) (by decide +kernel), List.forall_mem_cons.mpr ⟨List.mem_of_getElem? (i := 305) (by decide +kernel), List.forall_mem_cons.mpr ⟨List.mem_of_getElem? (i := 307) (by decide +kernel), List.forall_mem_cons.mpr ⟨List.mem_of_getElem? (i := 5) (by decide +kernel), List.forall_mem_cons.mpr ⟨List.mem_of_getElem? (i := 308) rfl, List.forall_mem_cons.mpr ⟨List.mem_of_getElem? (i := 309) (by decide +kernel), List.forall_mem_cons.mpr ⟨List.mem_of_getElem? (i := 310) (by decide +kernel), fun _ h => absurd h List.not_mem_nil⟩⟩⟩⟩⟩⟩⟩⟩⟩⟩⟩⟩⟩⟩⟩⟩⟩⟩⟩⟩⟩⟩⟩⟩
set_option maxRecDepth 100000 in
theorem wsL_in_18 : ∀ w ∈ wsL_law_r18, w ∈ lw_tbl := List.forall_mem_cons.mpr ⟨List.mem_of_getElem? (i := 311) rfl, List.forall_mem_cons.mpr ⟨List.mem_of_getElem? (i := 598) (by decide +kernel), List.forall_mem_cons.mpr ⟨List.mem_of_getElem? (i := 599) (by decide +kernel), List.forall_mem_cons.mpr ⟨List.mem_of_getElem? (i := 600) (by decide +kernel), List.forall_mem_cons.mpr ⟨List.mem_of_getElem? (i := 601) rfl, List.forall_mem_cons.mpr ⟨List.mem_of_getElem? (i := 398) (by decide +kernel), List.forall_mem_cons.mpr ⟨List.mem_of_getElem? (i := 392) (by decide +kernel), List.forall_mem_cons.mpr ⟨List.mem_of_getElem? (i := 602) (by decide +kernel), List.forall_mem_cons.mpr ⟨List.mem_of_getElem? (i := 604) (by decide +kernel), List.forall_mem_cons.mpr ⟨List.mem_of_getElem? (i := 18) (by decide +kernel), List.forall_mem_cons.mpr ⟨List.mem_of_getElem? (i := 605) rfl, List.forall_mem_cons.mpr ⟨List.mem_of_getElem? (i := 396) (by decide +kernel), List.forall_mem_cons.mpr ⟨List.mem_of_getElem? (i := 402) (by decide +kernel), List.forall_mem_cons.mpr ⟨List.mem_of_getElem? (i := 606) (by decide +kernel), List.forall_mem_cons.mpr ⟨List.mem_of_getElem? (i := 608) (by decide +kernel), List.forall_mem_cons.mpr ⟨List.mem_of_getElem? (i := 19) (by decide +kernel), List.forall_mem_cons.mpr ⟨List.mem_of_getElem? (i := 609) rfl, List.forall_mem_cons.mpr ⟨List.mem_of_getElem? (i := 610) (by decide +kernel), List.forall_mem_cons.mpr ⟨List.mem_of_getElem? (i := 612) (by decide +kernel), List.forall_mem_cons.mpr ⟨List.mem_of_getElem? (i := 20) (by decide +kernel), List.forall_mem_cons.mpr ⟨List.mem_of_getElem? (i := 613) rfl, List.forall_mem_cons.mpr ⟨List.mem_of_getElem? (i := 614) (by decide +kernel), List.forall_mem_cons.mpr ⟨List.mem_of_getElem? (i := 616) (by decide +kernel), List.forall_mem_cons.mpr ⟨List.mem_of_getElem? (i := 21) (by decide +kernel), fun _ h => absurd h List.not_mem_nil⟩⟩⟩⟩⟩⟩⟩⟩⟩⟩⟩⟩⟩⟩⟩⟩⟩⟩⟩⟩⟩⟩⟩⟩
set_option maxRecDepth 100000 in
theorem wsL_in_19 : ∀ w ∈ wsL_law_r19, w ∈ lw_tbl := List.forall_mem_cons.mpr ⟨List.mem_of_getElem? (i := 617) rfl, List.forall_mem_cons.mpr ⟨List.mem_of_getElem? (i := 312) (by decide +kernel), List.forall_mem_cons.mpr ⟨List.mem_of_getElem? (i := 313) (by decide +kernel), List.forall_mem_cons.mpr ⟨List.mem_of_getElem? (i := 314) (by decide +kernel), List.forall_mem_cons.mpr ⟨List.mem_of_getElem? (i := 315) rfl, List.forall_mem_cons.mpr ⟨List.mem_of_getElem? (i := 46) (by decide +kernel), List.forall_mem_cons.mpr ⟨List.mem_of_getElem? (i := 48) (by decide +kernel), List.forall_mem_cons.mpr ⟨List.mem_of_getElem? (i := 50) (by decide +kernel), List.forall_mem_cons.mpr ⟨List.mem_of_getElem? (i := 316) (by decide +kernel), List.forall_mem_cons.mpr ⟨List.mem_of_getElem? (i := 317) (by decide +kernel), List.forall_mem_cons.mpr ⟨List.mem_of_getElem? (i := 318) (by decide +kernel), List.forall_mem_cons.mpr ⟨List.mem_of_getElem? (i := 319) rfl, List.forall_mem_cons.mpr ⟨List.mem_of_getElem? (i := 618) (by decide +kernel), List.forall_mem_cons.mpr ⟨List.mem_of_getElem? (i := 619) (by decide +kernel), List.forall_mem_cons.mpr ⟨List.mem_of_getElem? (i := 620) (by decide +kernel), List.forall_mem_cons.mpr ⟨List.mem_of_getElem? (i := 621) rfl, List.forall_mem_cons.mpr ⟨List.mem_of_getElem? (i := 320) (by decide +kernel), List.forall_mem_cons.mpr ⟨List.mem_of_getElem? (i := 321) (by decide +kernel), List.forall_mem_cons.mpr ⟨List.mem_of_getElem? (i := 322) (by decide +kernel), List.forall_mem_cons.mpr ⟨List.mem_of_getElem? (i := 323) rfl, List.forall_mem_cons.mpr ⟨List.mem_of_getElem? (i := 622) (by decide +kernel), List.forall_mem_cons.mpr ⟨List.mem_of_getElem? (i := 623) (by decide +kernel), List.forall_mem_cons.mpr ⟨List.mem_of_getElem? (i := 624) (by decide +kernel), List.forall_mem_cons.mpr ⟨List.mem_of_getElem? (i := 625) rfl, fun _ h => absurd h List.not_mem_nil⟩⟩⟩⟩⟩⟩⟩⟩⟩⟩⟩⟩⟩⟩⟩⟩⟩⟩⟩⟩⟩⟩⟩⟩
set_option maxRecDepth 100000 in
theorem wsL_in_20 : ∀ w ∈ wsL_law_r20, w ∈ lw_tbl := List.forall_mem_cons.mpr ⟨List.mem_of_getElem? (i := 324) (by decide +kernel), List.forall_mem_cons.mpr ⟨List.mem_of_getElem? (i := 325) (by decide +kernel), List.forall_mem_cons.mpr ⟨List.mem_of_getElem? (i := 326) (by decide +kernel), List.forall_mem_cons.mpr ⟨List.mem_of_getElem? (i := 327) rfl, List.forall_mem_cons.mpr ⟨List.mem_of_getElem? (i := 72) (by decide +kernel), List.forall_mem_cons.mpr ⟨List.mem_of_getElem? (i := 328) (by decide +kernel), List.forall_mem_cons.mpr ⟨List.mem_of_getElem? (i := 330) (by decide +kernel), List.forall_mem_cons.mpr ⟨List.mem_of_getElem? (i := 6) (by decide +kernel), List.forall_mem_cons.mpr ⟨List.mem_of_getElem? (i := 331) rfl, List.forall_mem_cons.mpr ⟨List.mem_of_getElem? (i := 332) (by decide +kernel), List.forall_mem_cons.mpr ⟨List.mem_of_getElem? (i := 333) (by decide +kernel), List.forall_mem_cons.mpr ⟨List.mem_of_getElem? (i := 334) (by decide +kernel), List.forall_mem_cons.mpr ⟨List.mem_of_getElem? (i := 335) rfl, List.forall_mem_cons.mpr ⟨List.mem_of_getElem? (i := 338) (by decide +kernel), List.forall_mem_cons.mpr ⟨List.mem_of_getElem? (i := 340) (by decide +kernel), List.forall_mem_cons.mpr ⟨List.mem_of_getElem? (i := 7) (by decide +kernel), List.forall_mem_cons.mpr ⟨List.mem_of_getElem? (i := 341) rfl, List.forall_mem_cons.mpr ⟨List.mem_of_getElem? (i := 342) (by decide +kernel), List.forall_mem_cons.mpr ⟨List.mem_of_getElem? (i := 344) (by decide +kernel), List.forall_mem_cons.mpr ⟨List.mem_of_getElem? (i := 8) (by decide +kernel), List.forall_mem_cons.mpr ⟨List.mem_of_getElem? (i := 345) rfl, List.forall_mem_cons.mpr ⟨List.mem_of_getElem? (i := 346) (by decide +kernel), List.forall_mem_cons.mpr ⟨List.mem_of_getElem? (i := 348) (by decide +kernel), List.forall_mem_cons.mpr ⟨List.mem_of_getElem? (i := 9) (by decide +kernel), fun _ h => absurd h List.not_mem_nil⟩⟩⟩⟩⟩⟩⟩⟩⟩⟩⟩⟩⟩⟩⟩⟩⟩⟩⟩⟩⟩⟩⟩⟩
set_option maxRecDepth 100000 in
theorem wsL_in_21 : ∀ w ∈ wsL_law_r21, w ∈ lw_tbl := List.forall_mem_cons.mpr ⟨List.mem_of_getElem? (i := 349) rfl, List.forall_mem_cons.mpr ⟨List.mem_of_getElem? (i := 354) (by decide +kernel), List.forall_mem_cons.mpr ⟨List.mem_of_getElem? (i := 350) (by decide +kernel), List.forall_mem_cons.mpr ⟨List.mem_of_getElem? (i := 352) (by decide +kernel), List.forall_mem_cons.mpr ⟨List.mem_of_getElem? (i := 10) (by decide +kernel), List.forall_mem_cons.mpr ⟨List.mem_of_getElem? (i := 353) rfl, List.forall_mem_cons.mpr ⟨List.mem_of_getElem? (i := 355) (by decide +kernel), List.forall_mem_cons.mpr ⟨List.mem_of_getElem? (i := 356) (by decide +kernel), List.forall_mem_cons.mpr ⟨List.mem_of_getElem? (i := 357) rfl, List.forall_mem_cons.mpr ⟨List.mem_of_getElem? (i := 626) (by decide +kernel), List.forall_mem_cons.mpr ⟨List.mem_of_getElem? (i := 627) (by decide +kernel), List.forall_mem_cons.mpr ⟨List.mem_of_getElem? (i := 628) (by decide +kernel), List.forall_mem_cons.mpr ⟨List.mem_of_getElem? (i := 629) rfl, List.forall_mem_cons.mpr ⟨List.mem_of_getElem? (i := 630) (by decide +kernel), List.forall_mem_cons.mpr ⟨List.mem_of_getElem? (i := 632) (by decide +kernel), List.forall_mem_cons.mpr ⟨List.mem_of_getElem? (i := 22) (by decide +kernel), List.forall_mem_cons.mpr ⟨List.mem_of_getElem? (i := 633) rfl, List.forall_mem_cons.mpr ⟨List.mem_of_getElem? (i := 358) (by decide +kernel), List.forall_mem_cons.mpr ⟨List.mem_of_getElem? (i := 359) (by decide +kernel), List.forall_mem_cons.mpr ⟨List.mem_of_getElem? (i := 360) (by decide +kernel), List.forall_mem_cons.mpr ⟨List.mem_of_getElem? (i := 361) rfl, List.forall_mem_cons.mpr ⟨List.mem_of_getElem? (i := 362) (by decide +kernel), List.forall_mem_cons.mpr ⟨List.mem_of_getElem? (i := 363) (by decide +kernel), List.forall_mem_cons.mpr ⟨List.mem_of_getElem? (i := 364) (by decide +kernel), fun _ h => absurd h List.not_mem_nil⟩⟩⟩⟩⟩⟩⟩⟩⟩⟩⟩⟩⟩⟩⟩⟩⟩⟩⟩⟩⟩⟩⟩⟩
set_option maxRecDepth 100000 in
theorem wsL_in_22 : ∀ w ∈ wsL_law_r22, w ∈ lw_tbl := List.forall_mem_cons.mpr ⟨List.mem_of_getElem? (i := 365) rfl, List.forall_mem_cons.mpr ⟨List.mem_of_getElem? (i := 634) (by decide +kernel), List.forall_mem_cons.mpr ⟨List.mem_of_getElem? (i := 635) (by decide +kernel), List.forall_mem_cons.mpr ⟨List.mem_of_getElem? (i := 636) (by decide +kernel), List.forall_mem_cons.mpr ⟨List.mem_of_getElem? (i := 637) rfl, List.forall_mem_cons.mpr ⟨List.mem_of_getElem? (i := 366) (by decide +kernel), List.forall_mem_cons.mpr ⟨List.mem_of_getElem? (i := 367) (by decide +kernel), List.forall_mem_cons.mpr ⟨List.mem_of_getElem? (i := 368) (by decide +kernel), List.forall_mem_cons.mpr ⟨List.mem_of_getElem? (i := 369) rfl, List.forall_mem_cons.mpr ⟨List.mem_of_getElem? (i := 370) (by decide +kernel), List.forall_mem_cons.mpr ⟨List.mem_of_getElem? (i := 371) (by decide +kernel), List.forall_mem_cons.mpr ⟨List.mem_of_getElem? (i := 372) rfl, List.forall_mem_cons.mpr ⟨List.mem_of_getElem? (i := 373) (by decide +kernel), List.forall_mem_cons.mpr ⟨List.mem_of_getElem? (i := 374) (by decide +kernel), List.forall_mem_cons.mpr ⟨List.mem_of_getElem? (i := 375) rfl, List.forall_mem_cons.mpr ⟨List.mem_of_getElem? (i := 638) (by decide +kernel), List.forall_mem_cons.mpr ⟨List.mem_of_getElem? (i := 639) (by decide +kernel), List.forall_mem_cons.mpr ⟨List.mem_of_getElem? (i := 640) (by decide +kernel), List.forall_mem_cons.mpr ⟨List.mem_of_getElem? (i := 641) rfl, List.forall_mem_cons.mpr ⟨List.mem_of_getElem? (i := 642) (by decide +kernel), List.forall_mem_cons.mpr ⟨List.mem_of_getElem? (i := 644) (by decide +kernel), List.forall_mem_cons.mpr ⟨List.mem_of_getElem? (i := 23) (by decide +kernel), List.forall_mem_cons.mpr ⟨List.mem_of_getElem? (i := 645) rfl, fun _ h => absurd h List.not_mem_nil⟩⟩⟩⟩⟩⟩⟩⟩⟩⟩⟩⟩⟩⟩⟩⟩⟩⟩⟩⟩⟩⟩⟩
set_option maxRecDepth 100000 in
theorem wsu_in_X2 : ∀ w ∈ wsX20, w ∈ lw_tbl := by decide +kernel
set_option maxRecDepth 100000 in
theorem wsu_in_X3 : ∀ w ∈ wsX30, w ∈ lw_tbl := by decide +kernel
set_option maxRecDepth 100000 in
theorem wsu_in_X0 : ∀ w ∈ wsX00, w ∈ lw_tbl := by decide +kernel
set_option maxRecDepth 100000 in
theorem wsu_in_X1 : ∀ w ∈ wsX10, w ∈ lw_tbl := by decide +kernel
theorem wsL_law_in : ∀ w ∈ wsL_law, w ∈ lw_tbl := (List.forall_mem_append.mpr ⟨(List.forall_mem_append.mpr ⟨(List.forall_mem_append.mpr ⟨(List.forall_mem_append.mpr ⟨(List.forall_mem_append.mpr ⟨(List.forall_mem_append.mpr ⟨wsL_in_1, (List.forall_mem_append.mpr ⟨wsL_in_2, (List.forall_mem_append.mpr ⟨wsL_in_3, (List.forall_mem_append.mpr ⟨wsL_in_4, (List.forall_mem_append.mpr ⟨wsL_in_5, (List.forall_mem_append.mpr ⟨wsL_in_6, (List.forall_mem_append.mpr ⟨wsL_in_7, (List.forall_mem_append.mpr ⟨wsL_in_8, (List.forall_mem_append.mpr ⟨wsL_in_9, (List.forall_mem_append.mpr ⟨wsL_in_10, (List.forall_mem_append.mpr ⟨wsL_in_11, (List.forall_mem_append.mpr ⟨wsL_in_12, (List.forall_mem_append.mpr ⟨wsL_in_13, (List.forall_mem_append.mpr ⟨wsL_in_14, (List.forall_mem_append.mpr ⟨wsL_in_15, (List.forall_mem_append.mpr ⟨wsL_in_16, (List.forall_mem_append.mpr ⟨wsL_in_17, (List.forall_mem_append.mpr ⟨wsL_in_18, (List.forall_mem_append.mpr ⟨wsL_in_19, (List.forall_mem_append.mpr ⟨wsL_in_20, (List.forall_mem_append.mpr ⟨wsL_in_21, wsL_in_22⟩)⟩)⟩)⟩)⟩)⟩)⟩)⟩)⟩)⟩)⟩)⟩)⟩)⟩)⟩)⟩)⟩)⟩)⟩)⟩)⟩), wsu_in_X2⟩), wsu_in_X3⟩), wsu_in_X0⟩), wsu_in_X1⟩), fun _ h => absurd h List.not_mem_nil⟩)
theorem inlX0 : ∀ w ∈ wsX00, w ∈ wsL_law := fun _ h => List.mem_append_left _ (List.mem_append_left _ (List.mem_append_right _ h))
theorem inX0 : ∀ w ∈ wsX00, w ∈ lw_tbl := fun w h => wsL_law_in w (inlX0 w h)
theorem inlX1 : ∀ w ∈ wsX10, w ∈ wsL_law := fun _ h => List.mem_append_left _ (List.mem_append_right _ h)
theorem inX1 : ∀ w ∈ wsX10, w ∈ lw_tbl := fun w h => wsL_law_in w (inlX1 w h)
theorem inlX2 : ∀ w ∈ wsX20, w ∈ wsL_law := fun _ h => List.mem_append_left _ (List.mem_append_left _ (List.mem_append_left _ (List.mem_append_left _ (List.mem_append_right _ h))))
theorem inX2 : ∀ w ∈ wsX20, w ∈ lw_tbl := fun w h => wsL_law_in w (inlX2 w h)
theorem inlX3 : ∀ w ∈ wsX30, w ∈ wsL_law := fun _ h => List.mem_append_left _ (List.mem_append_left _ (List.mem_append_left _ (List.mem_append_right _ h)))
theorem inX3 : ∀ w ∈ wsX30, w ∈ lw_tbl := fun w h => wsL_law_in w (inlX3 w h)
end
section
theorem dX0_init_0 : decode cX0_init 0 = .ok (.aload_n 0, 1) := by decide +kernel
theorem dX0_init_1 : decode cX0_init 1 = .ok (.invokespecial 3, 3) := by decide +kernel
theorem dX0_init_4 : decode cX0_init 4 = .ok (.aload_n 0, 1) := by decide +kernel
theorem dX0_init_5 : decode cX0_init 5 = .ok (.sipush 300, 3) := by decide +kernel
theorem dX0_init_8 : decode cX0_init 8 = .ok (.newarray .int, 2) := by decide +kernel
theorem dX0_init_10 : decode cX0_init 10 = .ok (.putfield 9, 3) := by decide +kernel
theorem dX0_init_13 : decode cX0_init 13 = .ok (.aload_n 0, 1) := by decide +kernel
theorem dX0_init_14 : decode cX0_init 14 = .ok (.sipush 300, 3) := by decide +kernel
theorem dX0_init_17 : decode cX0_init 17 = .ok (.newarray .int, 2) := by decide +kernel
theorem dX0_init_19 : decode cX0_init 19 = .ok (.putfield 15, 3) := by decide +kernel
theorem dX0_init_22 : decode cX0_init 22 = .ok (.aload_n 0, 1) := by decide +kernel
theorem dX0_init_23 : decode cX0_init 23 = .ok (.sipush 300, 3) := by decide +kernel
theorem dX0_init_26 : decode cX0_init 26 = .ok (.newarray .long, 2) := by decide +kernel
theorem dX0_init_28 : decode cX0_init 28 = .ok (.putfield 18, 3) := by decide +kernel
theorem dX0_init_31 : decode cX0_init 31 = .ok (.return_, 1) := by decide +kernel
theorem dX0_has_0 : decode cX0_has 0 = .ok (.iload_n 1, 1) := by decide +kernel
theorem dX0_has_1 : decode cX0_has 1 = .ok (.ifCond .lt 15, 3) := by decide +kernel
theorem dX0_has_4 : decode cX0_has 4 = .ok (.iload_n 1, 1) := by decide +kernel
theorem dX0_has_5 : decode cX0_has 5 = .ok (.aload_n 0, 1) := by decide +kernel
theorem dX0_has_6 : decode cX0_has 6 = .ok (.getfield 22, 3) := by decide +kernel
theorem dX0_has_9 : decode cX0_has 9 = .ok (.if_icmp .ge 7, 3) := by decide +kernel
theorem dX0_has_12 : decode cX0_has 12 = .ok (.iconst 1, 1) := by decide +kernel
theorem dX0_has_13 : decode cX0_has 13 = .ok (.goto 4, 3) := by decide +kernel
theorem dX0_has_16 : decode cX0_has 16 = .ok (.iconst 0, 1) := by decide +kernel
theorem dX0_has_17 : decode cX0_has 17 = .ok (.ireturn, 1) := by decide +kernel
theorem dX0_add_0 : decode cX0_add 0 = .ok (.aload_n 0, 1) := by decide +kernel
theorem dX0_add_1 : decode cX0_add 1 = .ok (.getfield 22, 3) := by decide +kernel
theorem dX0_add_4 : decode cX0_add 4 = .ok (.sipush 300, 3) := by decide +kernel
theorem dX0_add_7 : decode cX0_add 7 = .ok (.if_icmp .lt 5, 3) := by decide +kernel
theorem dX0_add_10 : decode cX0_add 10 = .ok (.iconst 0, 1) := by decide +kernel
theorem dX0_add_11 : decode cX0_add 11 = .ok (.ireturn, 1) := by decide +kernel
theorem dX0_add_12 : decode cX0_add 12 = .ok (.aload_n 0, 1) := by decide +kernel
theorem dX0_add_13 : decode cX0_add 13 = .ok (.getfield 9, 3) := by decide +kernel
theorem dX0_add_16 : decode cX0_add 16 = .ok (.aload_n 0, 1) := by decide +kernel
theorem dX0_add_17 : decode cX0_add 17 = .ok (.getfield 22, 3) := by decide +kernel
theorem dX0_add_20 : decode cX0_add 20 = .ok (.iload_n 1, 1) := by decide +kernel
theorem dX0_add_21 : decode cX0_add 21 = .ok (.iastore, 1) := by decide +kernel
theorem dX0_add_22 : decode cX0_add 22 = .ok (.aload_n 0, 1) := by decide +kernel
theorem dX0_add_23 : decode cX0_add 23 = .ok (.getfield 15, 3) := by decide +kernel
theorem dX0_add_26 : decode cX0_add 26 = .ok (.aload_n 0, 1) := by decide +kernel
theorem dX0_add_27 : decode cX0_add 27 = .ok (.getfield 22, 3) := by decide +kernel
theorem dX0_add_30 : decode cX0_add 30 = .ok (.iload_n 2, 1) := by decide +kernel
theorem dX0_add_31 : decode cX0_add 31 = .ok (.iastore, 1) := by decide +kernel
theorem dX0_add_32 : decode cX0_add 32 = .ok (.aload_n 0, 1) := by decide +kernel
theorem dX0_add_33 : decode cX0_add 33 = .ok (.getfield 18, 3) := by decide +kernel
theorem dX0_add_36 : decode cX0_add 36 = .ok (.aload_n 0, 1) := by decide +kernel
theorem dX0_add_37 : decode cX0_add 37 = .ok (.getfield 22, 3) := by decide +kernel
theorem dX0_add_40 : decode cX0_add 40 = .ok (.lload_n 3, 1) := by decide +kernel
theorem dX0_add_41 : decode cX0_add 41 = .ok (.lastore, 1) := by decide +kernel
theorem dX0_add_42 : decode cX0_add 42 = .ok (.aload_n 0, 1) := by decide +kernel
theorem dX0_add_43 : decode cX0_add 43 = .ok (.dup, 1) := by decide +kernel
theorem dX0_add_44 : decode cX0_add 44 = .ok (.getfield 22, 3) := by decide +kernel
theorem dX0_add_47 : decode cX0_add 47 = .ok (.iconst 1, 1) := by decide +kernel
theorem dX0_add_48 : decode cX0_add 48 = .ok (.iadd, 1) := by decide +kernel
theorem dX0_add_49 : decode cX0_add 49 = .ok (.putfield 22, 3) := by decide +kernel
theorem dX0_add_52 : decode cX0_add 52 = .ok (.iconst 1, 1) := by decide +kernel
theorem dX0_add_53 : decode cX0_add 53 = .ok (.ireturn, 1) := by decide +kernel
theorem dX0_sameAs_0 : decode cX0_sameAs 0 = .ok (.aload_n 0, 1) := by decide +kernel
theorem dX0_sameAs_1 : decode cX0_sameAs 1 = .ok (.getfield 22, 3) := by decide +kernel
theorem dX0_sameAs_4 : decode cX0_sameAs 4 = .ok (.aload_n 1, 1) := by decide +kernel
theorem dX0_sameAs_5 : decode cX0_sameAs 5 = .ok (.getfield 22, 3) := by decide +kernel
theorem dX0_sameAs_8 : decode cX0_sameAs 8 = .ok (.if_icmp .eq 5, 3) := by decide +kernel
theorem dX0_sameAs_11 : decode cX0_sameAs 11 = .ok (.iconst 0, 1) := by decide +kernel
theorem dX0_sameAs_12 : decode cX0_sameAs 12 = .ok (.ireturn, 1) := by decide +kernel
theorem dX0_sameAs_13 : decode cX0_sameAs 13 = .ok (.iconst 0, 1) := by decide +kernel
theorem dX0_sameAs_14 : decode cX0_sameAs 14 = .ok (.istore_n 2, 1) := by decide +kernel
theorem dX0_sameAs_15 : decode cX0_sameAs 15 = .ok (.iload_n 2, 1) := by decide +kernel
theorem dX0_sameAs_16 : decode cX0_sameAs 16 = .ok (.aload_n 0, 1) := by decide +kernel
theorem dX0_sameAs_17 : decode cX0_sameAs 17 = .ok (.getfield 22, 3) := by decide +kernel
theorem dX0_sameAs_20 : decode cX0_sameAs 20 = .ok (.if_icmp .ge 57, 3) := by decide +kernel
theorem dX0_sameAs_23 : decode cX0_sameAs 23 = .ok (.aload_n 0, 1) := by decide +kernel
theorem dX0_sameAs_24 : decode cX0_sameAs 24 = .ok (.getfield 9, 3) := by decide +kernel
theorem dX0_sameAs_27 : decode cX0_sameAs 27 = .ok (.iload_n 2, 1) := by decide +kernel
theorem dX0_sameAs_28 : decode cX0_sameAs 28 = .ok (.iaload, 1) := by decide +kernel
theorem dX0_sameAs_29 : decode cX0_sameAs 29 = .ok (.aload_n 1, 1) := by decide +kernel
theorem dX0_sameAs_30 : decode cX0_sameAs 30 = .ok (.getfield 9, 3) := by decide +kernel
theorem dX0_sameAs_33 : decode cX0_sameAs 33 = .ok (.iload_n 2, 1) := by decide +kernel
theorem dX0_sameAs_34 : decode cX0_sameAs 34 = .ok (.iaload, 1) := by decide +kernel
theorem dX0_sameAs_35 : decode cX0_sameAs 35 = .ok (.if_icmp .ne 34, 3) := by decide +kernel
theorem dX0_sameAs_38 : decode cX0_sameAs 38 = .ok (.aload_n 0, 1) := by decide +kernel
theorem dX0_sameAs_39 : decode cX0_sameAs 39 = .ok (.getfield 15, 3) := by decide +kernel
theorem dX0_sameAs_42 : decode cX0_sameAs 42 = .ok (.iload_n 2, 1) := by decide +kernel
theorem dX0_sameAs_43 : decode cX0_sameAs 43 = .ok (.iaload, 1) := by decide +kernel
theorem dX0_sameAs_44 : decode cX0_sameAs 44 = .ok (.aload_n 1, 1) := by decide +kernel
theorem dX0_sameAs_45 : decode cX0_sameAs 45 = .ok (.getfield 15, 3) := by decide +kernel
theorem dX0_sameAs_48 : decode cX0_sameAs 48 = .ok (.iload_n 2, 1) := by decide +kernel
theorem dX0_sameAs_49 : decode cX0_sameAs 49 = .ok (.iaload, 1) := by decide +kernel
theorem dX0_sameAs_50 : decode cX0_sameAs 50 = .ok (.if_icmp .ne 19, 3) := by decide +kernel
theorem dX0_sameAs_53 : decode cX0_sameAs 53 = .ok (.aload_n 0, 1) := by decide +kernel
theorem dX0_sameAs_54 : decode cX0_sameAs 54 = .ok (.getfield 18, 3) := by decide +kernel
theorem dX0_sameAs_57 : decode cX0_sameAs 57 = .ok (.iload_n 2, 1) := by decide +kernel
theorem dX0_sameAs_58 : decode cX0_sameAs 58 = .ok (.laload, 1) := by decide +kernel
theorem dX0_sameAs_59 : decode cX0_sameAs 59 = .ok (.aload_n 1, 1) := by decide +kernel
theorem dX0_sameAs_60 : decode cX0_sameAs 60 = .ok (.getfield 18, 3) := by decide +kernel
theorem dX0_sameAs_63 : decode cX0_sameAs 63 = .ok (.iload_n 2, 1) := by decide +kernel
theorem dX0_sameAs_64 : decode cX0_sameAs 64 = .ok (.laload, 1) := by decide +kernel
theorem dX0_sameAs_65 : decode cX0_sameAs 65 = .ok (.lcmp, 1) := by decide +kernel
theorem dX0_sameAs_66 : decode cX0_sameAs 66 = .ok (.ifCond .eq 5, 3) := by decide +kernel
theorem dX0_sameAs_69 : decode cX0_sameAs 69 = .ok (.iconst 0, 1) := by decide +kernel
theorem dX0_sameAs_70 : decode cX0_sameAs 70 = .ok (.ireturn, 1) := by decide +kernel
theorem dX0_sameAs_71 : decode cX0_sameAs 71 = .ok (.iinc 2 1, 3) := by decide +kernel
theorem dX0_sameAs_74 : decode cX0_sameAs 74 = .ok (.goto (-59), 3) := by decide +kernel
theorem dX0_sameAs_77 : decode cX0_sameAs 77 = .ok (.iconst 1, 1) := by decide +kernel
theorem dX0_sameAs_78 : decode cX0_sameAs 78 = .ok (.ireturn, 1) := by decide +kernel
set_option maxRecDepth 20000 in
theorem ggX0_toldToMaker_X2_isFinal : GoodIn wsX0_toldToMaker wsX2_isFinal := goodIn_r _ [6] (by decide +kernel) (by decide +kernel)
set_option maxRecDepth 20000 in
theorem gX0_toldToMaker_X2_isFinal_n26 : GoodIn wsX0_toldToMaker (wsX2_isFinal) := ggX0_toldToMaker_X2_isFinal
set_option maxRecDepth 20000 in
theorem ggX0_toldToMaker_X2_asTold : GoodIn wsX0_toldToMaker wsX2_asTold := goodIn_r _ [8, 9, 10, 11, 5, 12, 13, 14, 15, 16, 17, 18, 19, 20, 21] (by decide +kernel) (by decide +kernel)
set_option maxRecDepth 20000 in
theorem gX0_toldToMaker_X2_asTold_n30 : GoodIn wsX0_toldToMaker (wsX2_asTold) := ggX0_toldToMaker_X2_asTold
theorem dX0_toldToMaker_0 : decode cX0_toldToMaker 0 = .ok (.iload_n 1, 1) := by decide +kernel
theorem dX0_toldToMaker_1 : decode cX0_toldToMaker 1 = .ok (.iconst 1, 1) := by decide +kernel
theorem dX0_toldToMaker_2 : decode cX0_toldToMaker 2 = .ok (.iadd, 1) := by decide +kernel
theorem dX0_toldToMaker_3 : decode cX0_toldToMaker 3 = .ok (.istore_n 2, 1) := by decide +kernel
theorem dX0_toldToMaker_4 : decode cX0_toldToMaker 4 = .ok (.iload_n 2, 1) := by decide +kernel
theorem dX0_toldToMaker_5 : decode cX0_toldToMaker 5 = .ok (.aload_n 0, 1) := by decide +kernel
theorem dX0_toldToMaker_6 : decode cX0_toldToMaker 6 = .ok (.getfield 22, 3) := by decide +kernel
theorem dX0_toldToMaker_9 : decode cX0_toldToMaker 9 = .ok (.if_icmp .ge 48, 3) := by decide +kernel
theorem dX0_toldToMaker_12 : decode cX0_toldToMaker 12 = .ok (.aload_n 0, 1) := by decide +kernel
theorem dX0_toldToMaker_13 : decode cX0_toldToMaker 13 = .ok (.getfield 15, 3) := by decide +kernel
theorem dX0_toldToMaker_16 : decode cX0_toldToMaker 16 = .ok (.iload_n 2, 1) := by decide +kernel
theorem dX0_toldToMaker_17 : decode cX0_toldToMaker 17 = .ok (.iaload, 1) := by decide +kernel
theorem dX0_toldToMaker_18 : decode cX0_toldToMaker 18 = .ok (.iconst (-1), 1) := by decide +kernel
theorem dX0_toldToMaker_19 : decode cX0_toldToMaker 19 = .ok (.if_icmp .eq 38, 3) := by decide +kernel
theorem dX0_toldToMaker_22 : decode cX0_toldToMaker 22 = .ok (.aload_n 0, 1) := by decide +kernel
theorem dX0_toldToMaker_23 : decode cX0_toldToMaker 23 = .ok (.getfield 15, 3) := by decide +kernel
theorem dX0_toldToMaker_26 : decode cX0_toldToMaker 26 = .ok (.iload_n 2, 1) := by decide +kernel
theorem dX0_toldToMaker_27 : decode cX0_toldToMaker 27 = .ok (.iaload, 1) := by decide +kernel
theorem dX0_toldToMaker_28 : decode cX0_toldToMaker 28 = .ok (.invokestatic 26, 3) := by decide +kernel
theorem dX0_toldToMaker_31 : decode cX0_toldToMaker 31 = .ok (.ifCond .eq 20, 3) := by decide +kernel
theorem dX0_toldToMaker_34 : decode cX0_toldToMaker 34 = .ok (.aload_n 0, 1) := by decide +kernel
theorem dX0_toldToMaker_35 : decode cX0_toldToMaker 35 = .ok (.getfield 15, 3) := by decide +kernel
theorem dX0_toldToMaker_38 : decode cX0_toldToMaker 38 = .ok (.iload_n 2, 1) := by decide +kernel
theorem dX0_toldToMaker_39 : decode cX0_toldToMaker 39 = .ok (.iaload, 1) := by decide +kernel
theorem dX0_toldToMaker_40 : decode cX0_toldToMaker 40 = .ok (.aload_n 0, 1) := by decide +kernel
theorem dX0_toldToMaker_41 : decode cX0_toldToMaker 41 = .ok (.getfield 18, 3) := by decide +kernel
theorem dX0_toldToMaker_44 : decode cX0_toldToMaker 44 = .ok (.iload_n 2, 1) := by decide +kernel
theorem dX0_toldToMaker_45 : decode cX0_toldToMaker 45 = .ok (.laload, 1) := by decide +kernel
theorem dX0_toldToMaker_46 : decode cX0_toldToMaker 46 = .ok (.invokestatic 30, 3) := by decide +kernel
theorem dX0_toldToMaker_49 : decode cX0_toldToMaker 49 = .ok (.l2i, 1) := by decide +kernel
theorem dX0_toldToMaker_50 : decode cX0_toldToMaker 50 = .ok (.ireturn, 1) := by decide +kernel
theorem dX0_toldToMaker_51 : decode cX0_toldToMaker 51 = .ok (.iinc 2 1, 3) := by decide +kernel
theorem dX0_toldToMaker_54 : decode cX0_toldToMaker 54 = .ok (.goto (-50), 3) := by decide +kernel
theorem dX0_toldToMaker_57 : decode cX0_toldToMaker 57 = .ok (.iconst 0, 1) := by decide +kernel
theorem dX0_toldToMaker_58 : decode cX0_toldToMaker 58 = .ok (.ireturn, 1) := by decide +kernel
theorem dX1_init_0 : decode cX1_init 0 = .ok (.aload_n 0, 1) := by decide +kernel
theorem dX1_init_1 : decode cX1_init 1 = .ok (.invokespecial 3, 3) := by decide +kernel
theorem dX1_init_4 : decode cX1_init 4 = .ok (.aload_n 0, 1) := by decide +kernel
theorem dX1_init_5 : decode cX1_init 5 = .ok (.bipush 17, 2) := by decide +kernel
theorem dX1_init_7 : decode cX1_init 7 = .ok (.newarray .long, 2) := by decide +kernel
theorem dX1_init_9 : decode cX1_init 9 = .ok (.putfield 9, 3) := by decide +kernel
theorem dX1_init_12 : decode cX1_init 12 = .ok (.aload_n 0, 1) := by decide +kernel
theorem dX1_init_13 : decode cX1_init 13 = .ok (.iload_n 1, 1) := by decide +kernel
theorem dX1_init_14 : decode cX1_init 14 = .ok (.putfield 15, 3) := by decide +kernel
theorem dX1_init_17 : decode cX1_init 17 = .ok (.iload_n 1, 1) := by decide +kernel
theorem dX1_init_18 : decode cX1_init 18 = .ok (.iconst 2, 1) := by decide +kernel
theorem dX1_init_19 : decode cX1_init 19 = .ok (.if_icmp .ne 15, 3) := by decide +kernel
theorem dX1_init_22 : decode cX1_init 22 = .ok (.aload_n 0, 1) := by decide +kernel
theorem dX1_init_23 : decode cX1_init 23 = .ok (.getfield 9, 3) := by decide +kernel
theorem dX1_init_26 : decode cX1_init 26 = .ok (.bipush 13, 2) := by decide +kernel
theorem dX1_init_28 : decode cX1_init 28 = .ok (.iload_n 2, 1) := by decide +kernel
theorem dX1_init_29 : decode cX1_init 29 = .ok (.i2l, 1) := by decide +kernel
theorem dX1_init_30 : decode cX1_init 30 = .ok (.lastore, 1) := by decide +kernel
theorem dX1_init_31 : decode cX1_init 31 = .ok (.goto 17, 3) := by decide +kernel
theorem dX1_init_34 : decode cX1_init 34 = .ok (.iload_n 1, 1) := by decide +kernel
theorem dX1_init_35 : decode cX1_init 35 = .ok (.iconst 4, 1) := by decide +kernel
theorem dX1_init_36 : decode cX1_init 36 = .ok (.if_icmp .ne 12, 3) := by decide +kernel
theorem dX1_init_39 : decode cX1_init 39 = .ok (.aload_n 0, 1) := by decide +kernel
theorem dX1_init_40 : decode cX1_init 40 = .ok (.getfield 9, 3) := by decide +kernel
theorem dX1_init_43 : decode cX1_init 43 = .ok (.bipush 16, 2) := by decide +kernel
theorem dX1_init_45 : decode cX1_init 45 = .ok (.iload_n 2, 1) := by decide +kernel
theorem dX1_init_46 : decode cX1_init 46 = .ok (.i2l, 1) := by decide +kernel
theorem dX1_init_47 : decode cX1_init 47 = .ok (.lastore, 1) := by decide +kernel
theorem dX1_init_48 : decode cX1_init 48 = .ok (.return_, 1) := by decide +kernel
theorem dX1_isOf_0 : decode cX1_isOf 0 = .ok (.iload_n 1, 1) := by decide +kernel
theorem dX1_isOf_1 : decode cX1_isOf 1 = .ok (.iconst 5, 1) := by decide +kernel
theorem dX1_isOf_2 : decode cX1_isOf 2 = .ok (.if_icmp .ne 17, 3) := by decide +kernel
theorem dX1_isOf_5 : decode cX1_isOf 5 = .ok (.aload_n 0, 1) := by decide +kernel
theorem dX1_isOf_6 : decode cX1_isOf 6 = .ok (.getfield 15, 3) := by decide +kernel
theorem dX1_isOf_9 : decode cX1_isOf 9 = .ok (.iconst 4, 1) := by decide +kernel
theorem dX1_isOf_10 : decode cX1_isOf 10 = .ok (.if_icmp .eq 7, 3) := by decide +kernel
theorem dX1_isOf_13 : decode cX1_isOf 13 = .ok (.iconst 1, 1) := by decide +kernel
theorem dX1_isOf_14 : decode cX1_isOf 14 = .ok (.goto 4, 3) := by decide +kernel
theorem dX1_isOf_17 : decode cX1_isOf 17 = .ok (.iconst 0, 1) := by decide +kernel
theorem dX1_isOf_18 : decode cX1_isOf 18 = .ok (.ireturn, 1) := by decide +kernel
theorem dX1_isOf_19 : decode cX1_isOf 19 = .ok (.iload_n 1, 1) := by decide +kernel
theorem dX1_isOf_20 : decode cX1_isOf 20 = .ok (.iconst 2, 1) := by decide +kernel
theorem dX1_isOf_21 : decode cX1_isOf 21 = .ok (.if_icmp .gt 25, 3) := by decide +kernel
theorem dX1_isOf_24 : decode cX1_isOf 24 = .ok (.aload_n 0, 1) := by decide +kernel
theorem dX1_isOf_25 : decode cX1_isOf 25 = .ok (.getfield 15, 3) := by decide +kernel
theorem dX1_isOf_28 : decode cX1_isOf 28 = .ok (.iload_n 1, 1) := by decide +kernel
theorem dX1_isOf_29 : decode cX1_isOf 29 = .ok (.if_icmp .lt 15, 3) := by decide +kernel
theorem dX1_isOf_32 : decode cX1_isOf 32 = .ok (.aload_n 0, 1) := by decide +kernel
theorem dX1_isOf_33 : decode cX1_isOf 33 = .ok (.getfield 15, 3) := by decide +kernel
theorem dX1_isOf_36 : decode cX1_isOf 36 = .ok (.iconst 2, 1) := by decide +kernel
theorem dX1_isOf_37 : decode cX1_isOf 37 = .ok (.if_icmp .gt 7, 3) := by decide +kernel
theorem dX1_isOf_40 : decode cX1_isOf 40 = .ok (.iconst 1, 1) := by decide +kernel
theorem dX1_isOf_41 : decode cX1_isOf 41 = .ok (.goto 4, 3) := by decide +kernel
theorem dX1_isOf_44 : decode cX1_isOf 44 = .ok (.iconst 0, 1) := by decide +kernel
theorem dX1_isOf_45 : decode cX1_isOf 45 = .ok (.ireturn, 1) := by decide +kernel
theorem dX1_isOf_46 : decode cX1_isOf 46 = .ok (.aload_n 0, 1) := by decide +kernel
theorem dX1_isOf_47 : decode cX1_isOf 47 = .ok (.getfield 15, 3) := by decide +kernel
theorem dX1_isOf_50 : decode cX1_isOf 50 = .ok (.iload_n 1, 1) := by decide +kernel
theorem dX1_isOf_51 : decode cX1_isOf 51 = .ok (.if_icmp .ne 7, 3) := by decide +kernel
theorem dX1_isOf_54 : decode cX1_isOf 54 = .ok (.iconst 1, 1) := by decide +kernel
theorem dX1_isOf_55 : decode cX1_isOf 55 = .ok (.goto 4, 3) := by decide +kernel
theorem dX1_isOf_58 : decode cX1_isOf 58 = .ok (.iconst 0, 1) := by decide +kernel
theorem dX1_isOf_59 : decode cX1_isOf 59 = .ok (.ireturn, 1) := by decide +kernel
theorem dX1_held_0 : decode cX1_held 0 = .ok (.iload_n 1, 1) := by decide +kernel
theorem dX1_held_1 : decode cX1_held 1 = .ok (.lookupswitch 50 #[(8, 35), (11, 40), (15, 45)], 35) := by decide +kernel
theorem dX1_held_36 : decode cX1_held 36 = .ok (.aload_n 0, 1) := by decide +kernel
theorem dX1_held_37 : decode cX1_held 37 = .ok (.getfield 19, 3) := by decide +kernel
theorem dX1_held_40 : decode cX1_held 40 = .ok (.areturn, 1) := by decide +kernel
theorem dX1_held_41 : decode cX1_held 41 = .ok (.aload_n 0, 1) := by decide +kernel
theorem dX1_held_42 : decode cX1_held 42 = .ok (.getfield 23, 3) := by decide +kernel
theorem dX1_held_45 : decode cX1_held 45 = .ok (.areturn, 1) := by decide +kernel
theorem dX1_held_46 : decode cX1_held 46 = .ok (.aload_n 0, 1) := by decide +kernel
theorem dX1_held_47 : decode cX1_held 47 = .ok (.getfield 26, 3) := by decide +kernel
theorem dX1_held_50 : decode cX1_held 50 = .ok (.areturn, 1) := by decide +kernel
theorem dX1_held_51 : decode cX1_held 51 = .ok (.aconst_null, 1) := by decide +kernel
theorem dX1_held_52 : decode cX1_held 52 = .ok (.areturn, 1) := by decide +kernel
theorem dX1_hold_0 : decode cX1_hold 0 = .ok (.iload_n 1, 1) := by decide +kernel
theorem dX1_hold_1 : decode cX1_hold 1 = .ok (.lookupswitch 59 #[(8, 35), (11, 43), (15, 51)], 35) := by decide +kernel
theorem dX1_hold_36 : decode cX1_hold 36 = .ok (.aload_n 0, 1) := by decide +kernel
theorem dX1_hold_37 : decode cX1_hold 37 = .ok (.aload_n 2, 1) := by decide +kernel
theorem dX1_hold_38 : decode cX1_hold 38 = .ok (.putfield 19, 3) := by decide +kernel
theorem dX1_hold_41 : decode cX1_hold 41 = .ok (.goto 19, 3) := by decide +kernel
theorem dX1_hold_44 : decode cX1_hold 44 = .ok (.aload_n 0, 1) := by decide +kernel
theorem dX1_hold_45 : decode cX1_hold 45 = .ok (.aload_n 2, 1) := by decide +kernel
theorem dX1_hold_46 : decode cX1_hold 46 = .ok (.putfield 23, 3) := by decide +kernel
theorem dX1_hold_49 : decode cX1_hold 49 = .ok (.goto 11, 3) := by decide +kernel
theorem dX1_hold_52 : decode cX1_hold 52 = .ok (.aload_n 0, 1) := by decide +kernel
theorem dX1_hold_53 : decode cX1_hold 53 = .ok (.aload_n 2, 1) := by decide +kernel
theorem dX1_hold_54 : decode cX1_hold 54 = .ok (.putfield 26, 3) := by decide +kernel
theorem dX1_hold_57 : decode cX1_hold 57 = .ok (.goto 3, 3) := by decide +kernel
theorem dX1_hold_60 : decode cX1_hold 60 = .ok (.return_, 1) := by decide +kernel
theorem dX1_leadsTo_0 : decode cX1_leadsTo 0 = .ok (.aload_n 0, 1) := by decide +kernel
theorem dX1_leadsTo_1 : decode cX1_leadsTo 1 = .ok (.getfield 15, 3) := by decide +kernel
theorem dX1_leadsTo_4 : decode cX1_leadsTo 4 = .ok (.ifCond .ne 8, 3) := by decide +kernel
theorem dX1_leadsTo_7 : decode cX1_leadsTo 7 = .ok (.aload_n 0, 1) := by decide +kernel
theorem dX1_leadsTo_8 : decode cX1_leadsTo 8 = .ok (.getfield 19, 3) := by decide +kernel
theorem dX1_leadsTo_11 : decode cX1_leadsTo 11 = .ok (.areturn, 1) := by decide +kernel
theorem dX1_leadsTo_12 : decode cX1_leadsTo 12 = .ok (.aload_n 0, 1) := by decide +kernel
theorem dX1_leadsTo_13 : decode cX1_leadsTo 13 = .ok (.getfield 15, 3) := by decide +kernel
theorem dX1_leadsTo_16 : decode cX1_leadsTo 16 = .ok (.iconst 3, 1) := by decide +kernel
theorem dX1_leadsTo_17 : decode cX1_leadsTo 17 = .ok (.if_icmp .ne 10, 3) := by decide +kernel
theorem dX1_leadsTo_20 : decode cX1_leadsTo 20 = .ok (.aload_n 0, 1) := by decide +kernel
theorem dX1_leadsTo_21 : decode cX1_leadsTo 21 = .ok (.getfield 26, 3) := by decide +kernel
theorem dX1_leadsTo_24 : decode cX1_leadsTo 24 = .ok (.goto 7, 3) := by decide +kernel
theorem dX1_leadsTo_27 : decode cX1_leadsTo 27 = .ok (.aload_n 0, 1) := by decide +kernel
theorem dX1_leadsTo_28 : decode cX1_leadsTo 28 = .ok (.getfield 23, 3) := by decide +kernel
theorem dX1_leadsTo_31 : decode cX1_leadsTo 31 = .ok (.areturn, 1) := by decide +kernel
theorem dX1_name_0 : decode cX1_name 0 = .ok (.iconst 1, 1) := by decide +kernel
theorem dX1_name_1 : decode cX1_name 1 = .ok (.aload_n 0, 1) := by decide +kernel
theorem dX1_name_2 : decode cX1_name 2 = .ok (.getfield 9, 3) := by decide +kernel
theorem dX1_name_5 : decode cX1_name 5 = .ok (.iconst 4, 1) := by decide +kernel
theorem dX1_name_6 : decode cX1_name 6 = .ok (.laload, 1) := by decide +kernel
theorem dX1_name_7 : decode cX1_name 7 = .ok (.l2i, 1) := by decide +kernel
theorem dX1_name_8 : decode cX1_name 8 = .ok (.iadd, 1) := by decide +kernel
theorem dX1_name_9 : decode cX1_name 9 = .ok (.istore_n 1, 1) := by decide +kernel
theorem dX1_name_10 : decode cX1_name 10 = .ok (.aload_n 0, 1) := by decide +kernel
theorem dX1_name_11 : decode cX1_name 11 = .ok (.getfield 15, 3) := by decide +kernel
theorem dX1_name_14 : decode cX1_name 14 = .ok (.ifCond .ne 5, 3) := by decide +kernel
theorem dX1_name_17 : decode cX1_name 17 = .ok (.iload_n 1, 1) := by decide +kernel
theorem dX1_name_18 : decode cX1_name 18 = .ok (.ireturn, 1) := by decide +kernel
theorem dX1_name_19 : decode cX1_name 19 = .ok (.bipush 10, 2) := by decide +kernel
theorem dX1_name_21 : decode cX1_name 21 = .ok (.iload_n 1, 1) := by decide +kernel
theorem dX1_name_22 : decode cX1_name 22 = .ok (.imul, 1) := by decide +kernel
theorem dX1_name_23 : decode cX1_name 23 = .ok (.aload_n 0, 1) := by decide +kernel
theorem dX1_name_24 : decode cX1_name 24 = .ok (.getfield 9, 3) := by decide +kernel
theorem dX1_name_27 : decode cX1_name 27 = .ok (.bipush 10, 2) := by decide +kernel
theorem dX1_name_29 : decode cX1_name 29 = .ok (.laload, 1) := by decide +kernel
theorem dX1_name_30 : decode cX1_name 30 = .ok (.l2i, 1) := by decide +kernel
theorem dX1_name_31 : decode cX1_name 31 = .ok (.iadd, 1) := by decide +kernel
theorem dX1_name_32 : decode cX1_name 32 = .ok (.aload_n 0, 1) := by decide +kernel
theorem dX1_name_33 : decode cX1_name 33 = .ok (.getfield 9, 3) := by decide +kernel
theorem dX1_name_36 : decode cX1_name 36 = .ok (.bipush 13, 2) := by decide +kernel
theorem dX1_name_38 : decode cX1_name 38 = .ok (.laload, 1) := by decide +kernel
theorem dX1_name_39 : decode cX1_name 39 = .ok (.l2i, 1) := by decide +kernel
theorem dX1_name_40 : decode cX1_name 40 = .ok (.iadd, 1) := by decide +kernel
theorem dX1_name_41 : decode cX1_name 41 = .ok (.ireturn, 1) := by decide +kernel
theorem dX1_secret_0 : decode cX1_secret 0 = .ok (.aload_n 0, 1) := by decide +kernel
theorem dX1_secret_1 : decode cX1_secret 1 = .ok (.getfield 9, 3) := by decide +kernel
theorem dX1_secret_4 : decode cX1_secret 4 = .ok (.iconst 1, 1) := by decide +kernel
theorem dX1_secret_5 : decode cX1_secret 5 = .ok (.laload, 1) := by decide +kernel
theorem dX1_secret_6 : decode cX1_secret 6 = .ok (.l2i, 1) := by decide +kernel
theorem dX1_secret_7 : decode cX1_secret 7 = .ok (.aload_n 0, 1) := by decide +kernel
theorem dX1_secret_8 : decode cX1_secret 8 = .ok (.getfield 9, 3) := by decide +kernel
theorem dX1_secret_11 : decode cX1_secret 11 = .ok (.iconst 2, 1) := by decide +kernel
theorem dX1_secret_12 : decode cX1_secret 12 = .ok (.laload, 1) := by decide +kernel
theorem dX1_secret_13 : decode cX1_secret 13 = .ok (.l2i, 1) := by decide +kernel
theorem dX1_secret_14 : decode cX1_secret 14 = .ok (.iadd, 1) := by decide +kernel
theorem dX1_secret_15 : decode cX1_secret 15 = .ok (.ireturn, 1) := by decide +kernel
set_option maxRecDepth 20000 in
theorem ggX1_depth_X1_leadsTo : GoodIn wsX1_depth wsX1_leadsTo := goodIn_r _ [5, 6, 7, 8, 9, 10, 11, 12, 13, 14, 15] (by decide +kernel) (by decide +kernel)
set_option maxRecDepth 20000 in
theorem gX1_depth_X1_leadsTo : GoodIn wsX1_depth (wsV RX1 29 RX1 yX1_leadsTo wsX1_leadsTo) := goodIn_app (goodIn_of _ (by decide +kernel)) ggX1_depth_X1_leadsTo
theorem dX1_depth_0 : decode cX1_depth 0 = .ok (.iconst 0, 1) := by decide +kernel
theorem dX1_depth_1 : decode cX1_depth 1 = .ok (.istore_n 1, 1) := by decide +kernel
theorem dX1_depth_2 : decode cX1_depth 2 = .ok (.aload_n 0, 1) := by decide +kernel
theorem dX1_depth_3 : decode cX1_depth 3 = .ok (.invokevirtual 29, 3) := by decide +kernel
theorem dX1_depth_6 : decode cX1_depth 6 = .ok (.astore_n 2, 1) := by decide +kernel
theorem dX1_depth_7 : decode cX1_depth 7 = .ok (.aload_n 2, 1) := by decide +kernel
theorem dX1_depth_8 : decode cX1_depth 8 = .ok (.ifnull 20, 3) := by decide +kernel
theorem dX1_depth_11 : decode cX1_depth 11 = .ok (.iload_n 1, 1) := by decide +kernel
theorem dX1_depth_12 : decode cX1_depth 12 = .ok (.bipush 50, 2) := by decide +kernel
theorem dX1_depth_14 : decode cX1_depth 14 = .ok (.if_icmp .ge 14, 3) := by decide +kernel
theorem dX1_depth_17 : decode cX1_depth 17 = .ok (.iinc 1 1, 3) := by decide +kernel
theorem dX1_depth_20 : decode cX1_depth 20 = .ok (.aload_n 2, 1) := by decide +kernel
theorem dX1_depth_21 : decode cX1_depth 21 = .ok (.invokevirtual 29, 3) := by decide +kernel
theorem dX1_depth_24 : decode cX1_depth 24 = .ok (.astore_n 2, 1) := by decide +kernel
theorem dX1_depth_25 : decode cX1_depth 25 = .ok (.goto (-18), 3) := by decide +kernel
theorem dX1_depth_28 : decode cX1_depth 28 = .ok (.iload_n 1, 1) := by decide +kernel
theorem dX1_depth_29 : decode cX1_depth 29 = .ok (.ireturn, 1) := by decide +kernel
theorem dX1_kind_0 : decode cX1_kind 0 = .ok (.aload_n 0, 1) := by decide +kernel
theorem dX1_kind_1 : decode cX1_kind 1 = .ok (.getfield 15, 3) := by decide +kernel
theorem dX1_kind_4 : decode cX1_kind 4 = .ok (.iconst 3, 1) := by decide +kernel
theorem dX1_kind_5 : decode cX1_kind 5 = .ok (.if_icmp .ne 6, 3) := by decide +kernel
theorem dX1_kind_8 : decode cX1_kind 8 = .ok (.bipush 7, 2) := by decide +kernel
theorem dX1_kind_10 : decode cX1_kind 10 = .ok (.ireturn, 1) := by decide +kernel
theorem dX1_kind_11 : decode cX1_kind 11 = .ok (.iconst 0, 1) := by decide +kernel
theorem dX1_kind_12 : decode cX1_kind 12 = .ok (.istore_n 1, 1) := by decide +kernel
theorem dX1_kind_13 : decode cX1_kind 13 = .ok (.iconst 1, 1) := by decide +kernel
theorem dX1_kind_14 : decode cX1_kind 14 = .ok (.istore_n 2, 1) := by decide +kernel
theorem dX1_kind_15 : decode cX1_kind 15 = .ok (.aload_n 0, 1) := by decide +kernel
theorem dX1_kind_16 : decode cX1_kind 16 = .ok (.astore_n 3, 1) := by decide +kernel
theorem dX1_kind_17 : decode cX1_kind 17 = .ok (.iconst 0, 1) := by decide +kernel
theorem dX1_kind_18 : decode cX1_kind 18 = .ok (.istore 4, 2) := by decide +kernel
theorem dX1_kind_20 : decode cX1_kind 20 = .ok (.iload 4, 2) := by decide +kernel
theorem dX1_kind_22 : decode cX1_kind 22 = .ok (.bipush 8, 2) := by decide +kernel
theorem dX1_kind_24 : decode cX1_kind 24 = .ok (.if_icmp .ge 34, 3) := by decide +kernel
theorem dX1_kind_27 : decode cX1_kind 27 = .ok (.aload_n 3, 1) := by decide +kernel
theorem dX1_kind_28 : decode cX1_kind 28 = .ok (.ifnull 30, 3) := by decide +kernel
theorem dX1_kind_31 : decode cX1_kind 31 = .ok (.iload_n 1, 1) := by decide +kernel
theorem dX1_kind_32 : decode cX1_kind 32 = .ok (.iload_n 2, 1) := by decide +kernel
theorem dX1_kind_33 : decode cX1_kind 33 = .ok (.aload_n 3, 1) := by decide +kernel
theorem dX1_kind_34 : decode cX1_kind 34 = .ok (.getfield 15, 3) := by decide +kernel
theorem dX1_kind_37 : decode cX1_kind 37 = .ok (.iconst 1, 1) := by decide +kernel
theorem dX1_kind_38 : decode cX1_kind 38 = .ok (.iadd, 1) := by decide +kernel
theorem dX1_kind_39 : decode cX1_kind 39 = .ok (.imul, 1) := by decide +kernel
theorem dX1_kind_40 : decode cX1_kind 40 = .ok (.iadd, 1) := by decide +kernel
theorem dX1_kind_41 : decode cX1_kind 41 = .ok (.istore_n 1, 1) := by decide +kernel
theorem dX1_kind_42 : decode cX1_kind 42 = .ok (.iload_n 2, 1) := by decide +kernel
theorem dX1_kind_43 : decode cX1_kind 43 = .ok (.bipush 10, 2) := by decide +kernel
theorem dX1_kind_45 : decode cX1_kind 45 = .ok (.imul, 1) := by decide +kernel
theorem dX1_kind_46 : decode cX1_kind 46 = .ok (.istore_n 2, 1) := by decide +kernel
theorem dX1_kind_47 : decode cX1_kind 47 = .ok (.aload_n 3, 1) := by decide +kernel
theorem dX1_kind_48 : decode cX1_kind 48 = .ok (.getfield 19, 3) := by decide +kernel
theorem dX1_kind_51 : decode cX1_kind 51 = .ok (.astore_n 3, 1) := by decide +kernel
theorem dX1_kind_52 : decode cX1_kind 52 = .ok (.iinc 4 1, 3) := by decide +kernel
theorem dX1_kind_55 : decode cX1_kind 55 = .ok (.goto (-35), 3) := by decide +kernel
theorem dX1_kind_58 : decode cX1_kind 58 = .ok (.iload_n 1, 1) := by decide +kernel
theorem dX1_kind_59 : decode cX1_kind 59 = .ok (.ireturn, 1) := by decide +kernel
set_option maxRecDepth 20000 in
theorem ggX2_init_X0_init : GoodIn wsX2_init wsX0_init := goodIn_r _ [15, 16, 2, 3, 17, 18, 19, 20, 21, 31, 32, 33, 34] (by decide +kernel) (by decide +kernel)
set_option maxRecDepth 20000 in
theorem gX2_init_X0_init_n17 : GoodIn wsX2_init (wsX0_init) := ggX2_init_X0_init
end
section
theorem dX2_init_0 : decode cX2_init 0 = .ok (.aload_n 0, 1) := by decide +kernel
theorem dX2_init_1 : decode cX2_init 1 = .ok (.invokespecial 1, 3) := by decide +kernel
theorem dX2_init_4 : decode cX2_init 4 = .ok (.aload_n 0, 1) := by decide +kernel
theorem dX2_init_5 : decode cX2_init 5 = .ok (.bipush 12, 2) := by decide +kernel
theorem dX2_init_7 : decode cX2_init 7 = .ok (.anewarray 9, 3) := by decide +kernel
theorem dX2_init_10 : decode cX2_init 10 = .ok (.putfield 11, 3) := by decide +kernel
theorem dX2_init_13 : decode cX2_init 13 = .ok (.aload_n 0, 1) := by decide +kernel
theorem dX2_init_14 : decode cX2_init 14 = .ok (.new 15, 3) := by decide +kernel
theorem dX2_init_17 : decode cX2_init 17 = .ok (.dup, 1) := by decide +kernel
theorem dX2_init_18 : decode cX2_init 18 = .ok (.invokespecial 17, 3) := by decide +kernel
theorem dX2_init_21 : decode cX2_init 21 = .ok (.putfield 18, 3) := by decide +kernel
theorem dX2_init_24 : decode cX2_init 24 = .ok (.aload_n 0, 1) := by decide +kernel
theorem dX2_init_25 : decode cX2_init 25 = .ok (.new 15, 3) := by decide +kernel
theorem dX2_init_28 : decode cX2_init 28 = .ok (.dup, 1) := by decide +kernel
theorem dX2_init_29 : decode cX2_init 29 = .ok (.invokespecial 17, 3) := by decide +kernel
theorem dX2_init_32 : decode cX2_init 32 = .ok (.putfield 22, 3) := by decide +kernel
theorem dX2_init_35 : decode cX2_init 35 = .ok (.aload_n 0, 1) := by decide +kernel
theorem dX2_init_36 : decode cX2_init 36 = .ok (.new 15, 3) := by decide +kernel
theorem dX2_init_39 : decode cX2_init 39 = .ok (.dup, 1) := by decide +kernel
theorem dX2_init_40 : decode cX2_init 40 = .ok (.invokespecial 17, 3) := by decide +kernel
theorem dX2_init_43 : decode cX2_init 43 = .ok (.putfield 25, 3) := by decide +kernel
theorem dX2_init_46 : decode cX2_init 46 = .ok (.aload_n 0, 1) := by decide +kernel
theorem dX2_init_47 : decode cX2_init 47 = .ok (.bipush 24, 2) := by decide +kernel
theorem dX2_init_49 : decode cX2_init 49 = .ok (.anewarray 9, 3) := by decide +kernel
theorem dX2_init_52 : decode cX2_init 52 = .ok (.putfield 28, 3) := by decide +kernel
theorem dX2_init_55 : decode cX2_init 55 = .ok (.aload_n 0, 1) := by decide +kernel
theorem dX2_init_56 : decode cX2_init 56 = .ok (.bipush 24, 2) := by decide +kernel
theorem dX2_init_58 : decode cX2_init 58 = .ok (.anewarray 9, 3) := by decide +kernel
theorem dX2_init_61 : decode cX2_init 61 = .ok (.putfield 31, 3) := by decide +kernel
theorem dX2_init_64 : decode cX2_init 64 = .ok (.return_, 1) := by decide +kernel
set_option maxRecDepth 20000 in
theorem ggX2_make_X2_isSlot : GoodIn wsX2_make wsX2_isSlot := goodIn_r _ [8] (by decide +kernel) (by decide +kernel)
set_option maxRecDepth 20000 in
theorem gX2_make_X2_isSlot : GoodIn wsX2_make (va_wsS RX2 34 yX2_isSlot wsX2_isSlot) := goodIn_app (goodIn_of _ (by decide +kernel)) ggX2_make_X2_isSlot
set_option maxRecDepth 20000 in
theorem ggX2_make_X2_makerTakes : GoodIn wsX2_make wsX2_makerTakes := goodIn_r _ [11] (by decide +kernel) (by decide +kernel)
set_option maxRecDepth 20000 in
theorem gX2_make_X2_makerTakes : GoodIn wsX2_make (va_wsS RX2 38 yX2_makerTakes wsX2_makerTakes) := goodIn_app (goodIn_of _ (by decide +kernel)) ggX2_make_X2_makerTakes
set_option maxRecDepth 20000 in
theorem ggX2_make_X1_init : GoodIn wsX2_make wsX1_init := goodIn_r _ [14, 15, 16, 17, 18, 19, 20, 30, 31, 32, 33, 34, 35] (by decide +kernel) (by decide +kernel)
set_option maxRecDepth 20000 in
theorem gX2_make_X1_init : GoodIn wsX2_make (wsX1_init) := ggX2_make_X1_init
theorem dX2_make_0 : decode cX2_make 0 = .ok (.iload_n 1, 1) := by decide +kernel
theorem dX2_make_1 : decode cX2_make 1 = .ok (.invokestatic 34, 3) := by decide +kernel
theorem dX2_make_4 : decode cX2_make 4 = .ok (.ifCond .eq 12, 3) := by decide +kernel
theorem dX2_make_7 : decode cX2_make 7 = .ok (.iload_n 2, 1) := by decide +kernel
theorem dX2_make_8 : decode cX2_make 8 = .ok (.ifCond .lt 8, 3) := by decide +kernel
theorem dX2_make_11 : decode cX2_make 11 = .ok (.iload_n 2, 1) := by decide +kernel
theorem dX2_make_12 : decode cX2_make 12 = .ok (.iconst 4, 1) := by decide +kernel
theorem dX2_make_13 : decode cX2_make 13 = .ok (.if_icmp .le 5, 3) := by decide +kernel
theorem dX2_make_16 : decode cX2_make 16 = .ok (.iconst (-1), 1) := by decide +kernel
theorem dX2_make_17 : decode cX2_make 17 = .ok (.ireturn, 1) := by decide +kernel
theorem dX2_make_18 : decode cX2_make 18 = .ok (.iload_n 2, 1) := by decide +kernel
theorem dX2_make_19 : decode cX2_make 19 = .ok (.iload_n 3, 1) := by decide +kernel
theorem dX2_make_20 : decode cX2_make 20 = .ok (.invokestatic 38, 3) := by decide +kernel
theorem dX2_make_23 : decode cX2_make 23 = .ok (.ifCond .ne 6, 3) := by decide +kernel
theorem dX2_make_26 : decode cX2_make 26 = .ok (.bipush (-18), 2) := by decide +kernel
theorem dX2_make_28 : decode cX2_make 28 = .ok (.ireturn, 1) := by decide +kernel
theorem dX2_make_29 : decode cX2_make 29 = .ok (.aload_n 0, 1) := by decide +kernel
theorem dX2_make_30 : decode cX2_make 30 = .ok (.getfield 11, 3) := by decide +kernel
theorem dX2_make_33 : decode cX2_make 33 = .ok (.iload_n 1, 1) := by decide +kernel
theorem dX2_make_34 : decode cX2_make 34 = .ok (.new 9, 3) := by decide +kernel
theorem dX2_make_37 : decode cX2_make 37 = .ok (.dup, 1) := by decide +kernel
theorem dX2_make_38 : decode cX2_make 38 = .ok (.iload_n 2, 1) := by decide +kernel
theorem dX2_make_39 : decode cX2_make 39 = .ok (.iload_n 3, 1) := by decide +kernel
theorem dX2_make_40 : decode cX2_make 40 = .ok (.invokespecial 42, 3) := by decide +kernel
theorem dX2_make_43 : decode cX2_make 43 = .ok (.aastore, 1) := by decide +kernel
theorem dX2_make_44 : decode cX2_make 44 = .ok (.iconst 1, 1) := by decide +kernel
theorem dX2_make_45 : decode cX2_make 45 = .ok (.ireturn, 1) := by decide +kernel
set_option maxRecDepth 20000 in
theorem ggX2_clear_X2_isSlot : GoodIn wsX2_clear wsX2_isSlot := goodIn_r _ [5] (by decide +kernel) (by decide +kernel)
set_option maxRecDepth 20000 in
theorem gX2_clear_X2_isSlot : GoodIn wsX2_clear (va_wsS RX2 34 yX2_isSlot wsX2_isSlot) := goodIn_app (goodIn_of _ (by decide +kernel)) ggX2_clear_X2_isSlot
theorem dX2_clear_0 : decode cX2_clear 0 = .ok (.iload_n 1, 1) := by decide +kernel
theorem dX2_clear_1 : decode cX2_clear 1 = .ok (.invokestatic 34, 3) := by decide +kernel
theorem dX2_clear_4 : decode cX2_clear 4 = .ok (.ifCond .ne 5, 3) := by decide +kernel
theorem dX2_clear_7 : decode cX2_clear 7 = .ok (.iconst (-1), 1) := by decide +kernel
theorem dX2_clear_8 : decode cX2_clear 8 = .ok (.ireturn, 1) := by decide +kernel
theorem dX2_clear_9 : decode cX2_clear 9 = .ok (.aload_n 0, 1) := by decide +kernel
theorem dX2_clear_10 : decode cX2_clear 10 = .ok (.getfield 11, 3) := by decide +kernel
theorem dX2_clear_13 : decode cX2_clear 13 = .ok (.iload_n 1, 1) := by decide +kernel
theorem dX2_clear_14 : decode cX2_clear 14 = .ok (.aaload, 1) := by decide +kernel
theorem dX2_clear_15 : decode cX2_clear 15 = .ok (.ifnonnull 7, 3) := by decide +kernel
theorem dX2_clear_18 : decode cX2_clear 18 = .ok (.iconst 0, 1) := by decide +kernel
theorem dX2_clear_19 : decode cX2_clear 19 = .ok (.goto 4, 3) := by decide +kernel
theorem dX2_clear_22 : decode cX2_clear 22 = .ok (.iconst 1, 1) := by decide +kernel
theorem dX2_clear_23 : decode cX2_clear 23 = .ok (.istore_n 2, 1) := by decide +kernel
theorem dX2_clear_24 : decode cX2_clear 24 = .ok (.aload_n 0, 1) := by decide +kernel
theorem dX2_clear_25 : decode cX2_clear 25 = .ok (.getfield 11, 3) := by decide +kernel
theorem dX2_clear_28 : decode cX2_clear 28 = .ok (.iload_n 1, 1) := by decide +kernel
theorem dX2_clear_29 : decode cX2_clear 29 = .ok (.aconst_null, 1) := by decide +kernel
theorem dX2_clear_30 : decode cX2_clear 30 = .ok (.aastore, 1) := by decide +kernel
theorem dX2_clear_31 : decode cX2_clear 31 = .ok (.iload_n 2, 1) := by decide +kernel
theorem dX2_clear_32 : decode cX2_clear 32 = .ok (.ireturn, 1) := by decide +kernel
set_option maxRecDepth 20000 in
theorem ggX2_share_X2_isSlot : GoodIn wsX2_share wsX2_isSlot := goodIn_r _ [5] (by decide +kernel) (by decide +kernel)
set_option maxRecDepth 20000 in
theorem gX2_share_X2_isSlot : GoodIn wsX2_share (va_wsS RX2 34 yX2_isSlot wsX2_isSlot) := goodIn_app (goodIn_of _ (by decide +kernel)) ggX2_share_X2_isSlot
theorem dX2_share_0 : decode cX2_share 0 = .ok (.iload_n 1, 1) := by decide +kernel
theorem dX2_share_1 : decode cX2_share 1 = .ok (.invokestatic 34, 3) := by decide +kernel
theorem dX2_share_4 : decode cX2_share 4 = .ok (.ifCond .eq 10, 3) := by decide +kernel
theorem dX2_share_7 : decode cX2_share 7 = .ok (.iload_n 2, 1) := by decide +kernel
theorem dX2_share_8 : decode cX2_share 8 = .ok (.invokestatic 34, 3) := by decide +kernel
theorem dX2_share_11 : decode cX2_share 11 = .ok (.ifCond .ne 5, 3) := by decide +kernel
theorem dX2_share_14 : decode cX2_share 14 = .ok (.iconst (-1), 1) := by decide +kernel
theorem dX2_share_15 : decode cX2_share 15 = .ok (.ireturn, 1) := by decide +kernel
theorem dX2_share_16 : decode cX2_share 16 = .ok (.aload_n 0, 1) := by decide +kernel
theorem dX2_share_17 : decode cX2_share 17 = .ok (.getfield 11, 3) := by decide +kernel
theorem dX2_share_20 : decode cX2_share 20 = .ok (.iload_n 2, 1) := by decide +kernel
theorem dX2_share_21 : decode cX2_share 21 = .ok (.aload_n 0, 1) := by decide +kernel
theorem dX2_share_22 : decode cX2_share 22 = .ok (.getfield 11, 3) := by decide +kernel
theorem dX2_share_25 : decode cX2_share 25 = .ok (.iload_n 1, 1) := by decide +kernel
theorem dX2_share_26 : decode cX2_share 26 = .ok (.aaload, 1) := by decide +kernel
theorem dX2_share_27 : decode cX2_share 27 = .ok (.aastore, 1) := by decide +kernel
theorem dX2_share_28 : decode cX2_share 28 = .ok (.iconst 1, 1) := by decide +kernel
theorem dX2_share_29 : decode cX2_share 29 = .ok (.ireturn, 1) := by decide +kernel
set_option maxRecDepth 20000 in
theorem ggX2_same_X2_isSlot : GoodIn wsX2_same wsX2_isSlot := goodIn_r _ [5] (by decide +kernel) (by decide +kernel)
set_option maxRecDepth 20000 in
theorem gX2_same_X2_isSlot : GoodIn wsX2_same (va_wsS RX2 34 yX2_isSlot wsX2_isSlot) := goodIn_app (goodIn_of _ (by decide +kernel)) ggX2_same_X2_isSlot
theorem dX2_same_0 : decode cX2_same 0 = .ok (.iload_n 1, 1) := by decide +kernel
theorem dX2_same_1 : decode cX2_same 1 = .ok (.invokestatic 34, 3) := by decide +kernel
theorem dX2_same_4 : decode cX2_same 4 = .ok (.ifCond .eq 10, 3) := by decide +kernel
theorem dX2_same_7 : decode cX2_same 7 = .ok (.iload_n 2, 1) := by decide +kernel
theorem dX2_same_8 : decode cX2_same 8 = .ok (.invokestatic 34, 3) := by decide +kernel
theorem dX2_same_11 : decode cX2_same 11 = .ok (.ifCond .ne 5, 3) := by decide +kernel
theorem dX2_same_14 : decode cX2_same 14 = .ok (.iconst (-1), 1) := by decide +kernel
theorem dX2_same_15 : decode cX2_same 15 = .ok (.ireturn, 1) := by decide +kernel
theorem dX2_same_16 : decode cX2_same 16 = .ok (.aload_n 0, 1) := by decide +kernel
theorem dX2_same_17 : decode cX2_same 17 = .ok (.getfield 11, 3) := by decide +kernel
theorem dX2_same_20 : decode cX2_same 20 = .ok (.iload_n 1, 1) := by decide +kernel
theorem dX2_same_21 : decode cX2_same 21 = .ok (.aaload, 1) := by decide +kernel
theorem dX2_same_22 : decode cX2_same 22 = .ok (.aload_n 0, 1) := by decide +kernel
theorem dX2_same_23 : decode cX2_same 23 = .ok (.getfield 11, 3) := by decide +kernel
theorem dX2_same_26 : decode cX2_same 26 = .ok (.iload_n 2, 1) := by decide +kernel
theorem dX2_same_27 : decode cX2_same 27 = .ok (.aaload, 1) := by decide +kernel
theorem dX2_same_28 : decode cX2_same 28 = .ok (.if_acmp .ne 7, 3) := by decide +kernel
theorem dX2_same_31 : decode cX2_same 31 = .ok (.iconst 1, 1) := by decide +kernel
theorem dX2_same_32 : decode cX2_same 32 = .ok (.goto 4, 3) := by decide +kernel
theorem dX2_same_35 : decode cX2_same 35 = .ok (.iconst 0, 1) := by decide +kernel
theorem dX2_same_36 : decode cX2_same 36 = .ok (.ireturn, 1) := by decide +kernel
set_option maxRecDepth 20000 in
theorem ggX2_cls_X2_isSlot : GoodIn wsX2_cls wsX2_isSlot := goodIn_r _ [6] (by decide +kernel) (by decide +kernel)
set_option maxRecDepth 20000 in
theorem gX2_cls_X2_isSlot : GoodIn wsX2_cls (va_wsS RX2 34 yX2_isSlot wsX2_isSlot) := goodIn_app (goodIn_of _ (by decide +kernel)) ggX2_cls_X2_isSlot
theorem dX2_cls_0 : decode cX2_cls 0 = .ok (.iload_n 1, 1) := by decide +kernel
theorem dX2_cls_1 : decode cX2_cls 1 = .ok (.invokestatic 34, 3) := by decide +kernel
theorem dX2_cls_4 : decode cX2_cls 4 = .ok (.ifCond .ne 5, 3) := by decide +kernel
theorem dX2_cls_7 : decode cX2_cls 7 = .ok (.iconst (-1), 1) := by decide +kernel
theorem dX2_cls_8 : decode cX2_cls 8 = .ok (.ireturn, 1) := by decide +kernel
theorem dX2_cls_9 : decode cX2_cls 9 = .ok (.aload_n 0, 1) := by decide +kernel
theorem dX2_cls_10 : decode cX2_cls 10 = .ok (.getfield 11, 3) := by decide +kernel
theorem dX2_cls_13 : decode cX2_cls 13 = .ok (.iload_n 1, 1) := by decide +kernel
theorem dX2_cls_14 : decode cX2_cls 14 = .ok (.aaload, 1) := by decide +kernel
theorem dX2_cls_15 : decode cX2_cls 15 = .ok (.astore_n 2, 1) := by decide +kernel
theorem dX2_cls_16 : decode cX2_cls 16 = .ok (.aload_n 2, 1) := by decide +kernel
theorem dX2_cls_17 : decode cX2_cls 17 = .ok (.ifnonnull 8, 3) := by decide +kernel
theorem dX2_cls_20 : decode cX2_cls 20 = .ok (.bipush (-4), 2) := by decide +kernel
theorem dX2_cls_22 : decode cX2_cls 22 = .ok (.goto 7, 3) := by decide +kernel
theorem dX2_cls_25 : decode cX2_cls 25 = .ok (.aload_n 2, 1) := by decide +kernel
theorem dX2_cls_26 : decode cX2_cls 26 = .ok (.getfield 45, 3) := by decide +kernel
theorem dX2_cls_29 : decode cX2_cls 29 = .ok (.ireturn, 1) := by decide +kernel
set_option maxRecDepth 20000 in
theorem ggX2_is_X2_isSlot : GoodIn wsX2_is wsX2_isSlot := goodIn_r _ [5] (by decide +kernel) (by decide +kernel)
set_option maxRecDepth 20000 in
theorem gX2_is_X2_isSlot : GoodIn wsX2_is (va_wsS RX2 34 yX2_isSlot wsX2_isSlot) := goodIn_app (goodIn_of _ (by decide +kernel)) ggX2_is_X2_isSlot
set_option maxRecDepth 20000 in
theorem ggX2_is_X1_isOf : GoodIn wsX2_is wsX1_isOf := goodIn_r _ [10, 11, 21, 22, 23, 24, 25, 26] (by decide +kernel) (by decide +kernel)
set_option maxRecDepth 20000 in
theorem gX2_is_X1_isOf : GoodIn wsX2_is (wsV RX2 49 RX1 yX1_isOf wsX1_isOf) := goodIn_app (goodIn_of _ (by decide +kernel)) ggX2_is_X1_isOf
theorem dX2_is_0 : decode cX2_is 0 = .ok (.iload_n 1, 1) := by decide +kernel
theorem dX2_is_1 : decode cX2_is 1 = .ok (.invokestatic 34, 3) := by decide +kernel
theorem dX2_is_4 : decode cX2_is 4 = .ok (.ifCond .eq 12, 3) := by decide +kernel
theorem dX2_is_7 : decode cX2_is 7 = .ok (.iload_n 2, 1) := by decide +kernel
theorem dX2_is_8 : decode cX2_is 8 = .ok (.ifCond .lt 8, 3) := by decide +kernel
theorem dX2_is_11 : decode cX2_is 11 = .ok (.iload_n 2, 1) := by decide +kernel
theorem dX2_is_12 : decode cX2_is 12 = .ok (.iconst 5, 1) := by decide +kernel
theorem dX2_is_13 : decode cX2_is 13 = .ok (.if_icmp .le 5, 3) := by decide +kernel
theorem dX2_is_16 : decode cX2_is 16 = .ok (.iconst (-1), 1) := by decide +kernel
theorem dX2_is_17 : decode cX2_is 17 = .ok (.ireturn, 1) := by decide +kernel
theorem dX2_is_18 : decode cX2_is 18 = .ok (.aload_n 0, 1) := by decide +kernel
theorem dX2_is_19 : decode cX2_is 19 = .ok (.getfield 11, 3) := by decide +kernel
theorem dX2_is_22 : decode cX2_is 22 = .ok (.iload_n 1, 1) := by decide +kernel
theorem dX2_is_23 : decode cX2_is 23 = .ok (.aaload, 1) := by decide +kernel
theorem dX2_is_24 : decode cX2_is 24 = .ok (.astore_n 3, 1) := by decide +kernel
theorem dX2_is_25 : decode cX2_is 25 = .ok (.aload_n 3, 1) := by decide +kernel
theorem dX2_is_26 : decode cX2_is 26 = .ok (.ifnull 15, 3) := by decide +kernel
theorem dX2_is_29 : decode cX2_is 29 = .ok (.aload_n 3, 1) := by decide +kernel
theorem dX2_is_30 : decode cX2_is 30 = .ok (.iload_n 2, 1) := by decide +kernel
theorem dX2_is_31 : decode cX2_is 31 = .ok (.invokevirtual 49, 3) := by decide +kernel
theorem dX2_is_34 : decode cX2_is 34 = .ok (.ifCond .eq 7, 3) := by decide +kernel
theorem dX2_is_37 : decode cX2_is 37 = .ok (.iconst 1, 1) := by decide +kernel
theorem dX2_is_38 : decode cX2_is 38 = .ok (.goto 4, 3) := by decide +kernel
theorem dX2_is_41 : decode cX2_is 41 = .ok (.iconst 0, 1) := by decide +kernel
theorem dX2_is_42 : decode cX2_is 42 = .ok (.ireturn, 1) := by decide +kernel
set_option maxRecDepth 20000 in
theorem ggX2_get_X2_isSlot : GoodIn wsX2_get wsX2_isSlot := goodIn_r _ [8] (by decide +kernel) (by decide +kernel)
set_option maxRecDepth 20000 in
theorem gX2_get_X2_isSlot : GoodIn wsX2_get (va_wsS RX2 34 yX2_isSlot wsX2_isSlot) := goodIn_app (goodIn_of _ (by decide +kernel)) ggX2_get_X2_isSlot
set_option maxRecDepth 20000 in
theorem ggX2_get_X2_isValueField : GoodIn wsX2_get wsX2_isValueField := goodIn_r _ [11, 12, 13, 14, 7, 15] (by decide +kernel) (by decide +kernel)
set_option maxRecDepth 20000 in
theorem gX2_get_X2_isValueField : GoodIn wsX2_get (va_wsS RX2 52 yX2_isValueField wsX2_isValueField) := goodIn_app (goodIn_of _ (by decide +kernel)) ggX2_get_X2_isValueField
set_option maxRecDepth 20000 in
theorem ggX2_get_X2_failureAs : GoodIn wsX2_get wsX2_failureAs := goodIn_r _ [18, 19, 20, 21, 22, 23, 24, 34, 35, 36, 37, 38, 39] (by decide +kernel) (by decide +kernel)
set_option maxRecDepth 20000 in
theorem gX2_get_X2_failureAs : GoodIn wsX2_get (va_wsS RX2 61 yX2_failureAs wsX2_failureAs) := goodIn_app (goodIn_of _ (by decide +kernel)) ggX2_get_X2_failureAs
theorem dX2_get_0 : decode cX2_get 0 = .ok (.iload_n 1, 1) := by decide +kernel
theorem dX2_get_1 : decode cX2_get 1 = .ok (.invokestatic 34, 3) := by decide +kernel
theorem dX2_get_4 : decode cX2_get 4 = .ok (.ifCond .eq 10, 3) := by decide +kernel
theorem dX2_get_7 : decode cX2_get 7 = .ok (.iload_n 2, 1) := by decide +kernel
theorem dX2_get_8 : decode cX2_get 8 = .ok (.invokestatic 52, 3) := by decide +kernel
theorem dX2_get_11 : decode cX2_get 11 = .ok (.ifCond .ne 7, 3) := by decide +kernel
theorem dX2_get_14 : decode cX2_get 14 = .ok (.ldc2_w 55, 3) := by decide +kernel
theorem dX2_get_17 : decode cX2_get 17 = .ok (.lreturn, 1) := by decide +kernel
theorem dX2_get_18 : decode cX2_get 18 = .ok (.aload_n 0, 1) := by decide +kernel
theorem dX2_get_19 : decode cX2_get 19 = .ok (.getfield 11, 3) := by decide +kernel
theorem dX2_get_22 : decode cX2_get 22 = .ok (.iload_n 1, 1) := by decide +kernel
theorem dX2_get_23 : decode cX2_get 23 = .ok (.aaload, 1) := by decide +kernel
theorem dX2_get_24 : decode cX2_get 24 = .ok (.astore_n 3, 1) := by decide +kernel
theorem dX2_get_25 : decode cX2_get 25 = .ok (.aload_n 3, 1) := by decide +kernel
theorem dX2_get_26 : decode cX2_get 26 = .ok (.getstatic 57, 3) := by decide +kernel
theorem dX2_get_29 : decode cX2_get 29 = .ok (.iload_n 2, 1) := by decide +kernel
theorem dX2_get_30 : decode cX2_get 30 = .ok (.iaload, 1) := by decide +kernel
theorem dX2_get_31 : decode cX2_get 31 = .ok (.invokestatic 61, 3) := by decide +kernel
theorem dX2_get_34 : decode cX2_get 34 = .ok (.istore 4, 2) := by decide +kernel
theorem dX2_get_36 : decode cX2_get 36 = .ok (.iload 4, 2) := by decide +kernel
theorem dX2_get_38 : decode cX2_get 38 = .ok (.ifCond .eq 9, 3) := by decide +kernel
theorem dX2_get_41 : decode cX2_get 41 = .ok (.iload 4, 2) := by decide +kernel
theorem dX2_get_43 : decode cX2_get 43 = .ok (.i2l, 1) := by decide +kernel
theorem dX2_get_44 : decode cX2_get 44 = .ok (.goto 9, 3) := by decide +kernel
theorem dX2_get_47 : decode cX2_get 47 = .ok (.aload_n 3, 1) := by decide +kernel
theorem dX2_get_48 : decode cX2_get 48 = .ok (.getfield 65, 3) := by decide +kernel
theorem dX2_get_51 : decode cX2_get 51 = .ok (.iload_n 2, 1) := by decide +kernel
theorem dX2_get_52 : decode cX2_get 52 = .ok (.laload, 1) := by decide +kernel
theorem dX2_get_53 : decode cX2_get 53 = .ok (.lreturn, 1) := by decide +kernel
set_option maxRecDepth 20000 in
theorem ggX2_set_X2_isSlot : GoodIn wsX2_set wsX2_isSlot := goodIn_r _ [7] (by decide +kernel) (by decide +kernel)
set_option maxRecDepth 20000 in
theorem gX2_set_X2_isSlot : GoodIn wsX2_set (va_wsS RX2 34 yX2_isSlot wsX2_isSlot) := goodIn_app (goodIn_of _ (by decide +kernel)) ggX2_set_X2_isSlot
set_option maxRecDepth 20000 in
theorem ggX2_set_X2_isValueField : GoodIn wsX2_set wsX2_isValueField := goodIn_r _ [10, 11, 12, 13, 6, 14] (by decide +kernel) (by decide +kernel)
set_option maxRecDepth 20000 in
theorem gX2_set_X2_isValueField : GoodIn wsX2_set (va_wsS RX2 52 yX2_isValueField wsX2_isValueField) := goodIn_app (goodIn_of _ (by decide +kernel)) ggX2_set_X2_isValueField
set_option maxRecDepth 20000 in
theorem ggX2_set_X2_failureAs : GoodIn wsX2_set wsX2_failureAs := goodIn_r _ [17, 18, 19, 20, 21, 22, 23, 51, 52, 53, 54, 55, 56] (by decide +kernel) (by decide +kernel)
set_option maxRecDepth 20000 in
theorem gX2_set_X2_failureAs : GoodIn wsX2_set (va_wsS RX2 61 yX2_failureAs wsX2_failureAs) := goodIn_app (goodIn_of _ (by decide +kernel)) ggX2_set_X2_failureAs
set_option maxRecDepth 20000 in
theorem ggX2_set_X2_isFinal : GoodIn wsX2_set wsX2_isFinal := goodIn_r _ [26] (by decide +kernel) (by decide +kernel)
set_option maxRecDepth 20000 in
theorem gX2_set_X2_isFinal : GoodIn wsX2_set (va_wsS RX2 69 yX2_isFinal wsX2_isFinal) := goodIn_app (goodIn_of _ (by decide +kernel)) ggX2_set_X2_isFinal
set_option maxRecDepth 20000 in
theorem ggX2_set_X2_asTold : GoodIn wsX2_set wsX2_asTold := goodIn_r _ [29, 11, 30, 31, 6, 32, 33, 34, 35, 36, 37, 38, 39, 40, 41] (by decide +kernel) (by decide +kernel)
set_option maxRecDepth 20000 in
theorem gX2_set_X2_asTold : GoodIn wsX2_set (va_wsS RX2 72 yX2_asTold wsX2_asTold) := goodIn_app (goodIn_of _ (by decide +kernel)) ggX2_set_X2_asTold
theorem dX2_set_0 : decode cX2_set 0 = .ok (.iload_n 1, 1) := by decide +kernel
theorem dX2_set_1 : decode cX2_set 1 = .ok (.invokestatic 34, 3) := by decide +kernel
theorem dX2_set_4 : decode cX2_set 4 = .ok (.ifCond .eq 10, 3) := by decide +kernel
theorem dX2_set_7 : decode cX2_set 7 = .ok (.iload_n 2, 1) := by decide +kernel
theorem dX2_set_8 : decode cX2_set 8 = .ok (.invokestatic 52, 3) := by decide +kernel
theorem dX2_set_11 : decode cX2_set 11 = .ok (.ifCond .ne 5, 3) := by decide +kernel
theorem dX2_set_14 : decode cX2_set 14 = .ok (.iconst (-1), 1) := by decide +kernel
theorem dX2_set_15 : decode cX2_set 15 = .ok (.ireturn, 1) := by decide +kernel
theorem dX2_set_16 : decode cX2_set 16 = .ok (.aload_n 0, 1) := by decide +kernel
theorem dX2_set_17 : decode cX2_set 17 = .ok (.getfield 11, 3) := by decide +kernel
theorem dX2_set_20 : decode cX2_set 20 = .ok (.iload_n 1, 1) := by decide +kernel
theorem dX2_set_21 : decode cX2_set 21 = .ok (.aaload, 1) := by decide +kernel
theorem dX2_set_22 : decode cX2_set 22 = .ok (.astore 5, 2) := by decide +kernel
theorem dX2_set_24 : decode cX2_set 24 = .ok (.aload 5, 2) := by decide +kernel
theorem dX2_set_26 : decode cX2_set 26 = .ok (.getstatic 57, 3) := by decide +kernel
theorem dX2_set_29 : decode cX2_set 29 = .ok (.iload_n 2, 1) := by decide +kernel
theorem dX2_set_30 : decode cX2_set 30 = .ok (.iaload, 1) := by decide +kernel
theorem dX2_set_31 : decode cX2_set 31 = .ok (.invokestatic 61, 3) := by decide +kernel
theorem dX2_set_34 : decode cX2_set 34 = .ok (.istore 6, 2) := by decide +kernel
theorem dX2_set_36 : decode cX2_set 36 = .ok (.iload 6, 2) := by decide +kernel
theorem dX2_set_38 : decode cX2_set 38 = .ok (.ifCond .eq 6, 3) := by decide +kernel
theorem dX2_set_41 : decode cX2_set 41 = .ok (.iload 6, 2) := by decide +kernel
theorem dX2_set_43 : decode cX2_set 43 = .ok (.ireturn, 1) := by decide +kernel
theorem dX2_set_44 : decode cX2_set 44 = .ok (.iload_n 2, 1) := by decide +kernel
theorem dX2_set_45 : decode cX2_set 45 = .ok (.invokestatic 69, 3) := by decide +kernel
theorem dX2_set_48 : decode cX2_set 48 = .ok (.ifCond .eq 6, 3) := by decide +kernel
theorem dX2_set_51 : decode cX2_set 51 = .ok (.bipush (-17), 2) := by decide +kernel
theorem dX2_set_53 : decode cX2_set 53 = .ok (.ireturn, 1) := by decide +kernel
theorem dX2_set_54 : decode cX2_set 54 = .ok (.aload 5, 2) := by decide +kernel
theorem dX2_set_56 : decode cX2_set 56 = .ok (.getfield 65, 3) := by decide +kernel
theorem dX2_set_59 : decode cX2_set 59 = .ok (.iload_n 2, 1) := by decide +kernel
theorem dX2_set_60 : decode cX2_set 60 = .ok (.iload_n 2, 1) := by decide +kernel
theorem dX2_set_61 : decode cX2_set 61 = .ok (.lload_n 3, 1) := by decide +kernel
theorem dX2_set_62 : decode cX2_set 62 = .ok (.invokestatic 72, 3) := by decide +kernel
theorem dX2_set_65 : decode cX2_set 65 = .ok (.lastore, 1) := by decide +kernel
theorem dX2_set_66 : decode cX2_set 66 = .ok (.iconst 1, 1) := by decide +kernel
theorem dX2_set_67 : decode cX2_set 67 = .ok (.ireturn, 1) := by decide +kernel
set_option maxRecDepth 20000 in
theorem ggX2_link_X2_isSlot : GoodIn wsX2_link wsX2_isSlot := goodIn_r _ [6] (by decide +kernel) (by decide +kernel)
set_option maxRecDepth 20000 in
theorem gX2_link_X2_isSlot : GoodIn wsX2_link (va_wsS RX2 34 yX2_isSlot wsX2_isSlot) := goodIn_app (goodIn_of _ (by decide +kernel)) ggX2_link_X2_isSlot
set_option maxRecDepth 20000 in
theorem ggX2_link_X2_isLinkField : GoodIn wsX2_link wsX2_isLinkField := goodIn_r _ [9, 10, 11, 12, 5, 13] (by decide +kernel) (by decide +kernel)
set_option maxRecDepth 20000 in
theorem gX2_link_X2_isLinkField : GoodIn wsX2_link (va_wsS RX2 76 yX2_isLinkField wsX2_isLinkField) := goodIn_app (goodIn_of _ (by decide +kernel)) ggX2_link_X2_isLinkField
set_option maxRecDepth 20000 in
theorem ggX2_link_X1_isOf : GoodIn wsX2_link wsX1_isOf := goodIn_r _ [18, 19, 39, 40, 41, 42, 43, 44] (by decide +kernel) (by decide +kernel)
set_option maxRecDepth 20000 in
theorem gX2_link_X1_isOf : GoodIn wsX2_link (wsV RX2 49 RX1 yX1_isOf wsX1_isOf) := goodIn_app (goodIn_of _ (by decide +kernel)) ggX2_link_X1_isOf
set_option maxRecDepth 20000 in
theorem ggX2_link_X2_wantedIn : GoodIn wsX2_link wsX2_wantedIn := goodIn_r _ [22] (by decide +kernel) (by decide +kernel)
set_option maxRecDepth 20000 in
theorem gX2_link_X2_wantedIn : GoodIn wsX2_link (va_wsS RX2 79 yX2_wantedIn wsX2_wantedIn) := goodIn_app (goodIn_of _ (by decide +kernel)) ggX2_link_X2_wantedIn
set_option maxRecDepth 20000 in
theorem ggX2_link_X1_hold : GoodIn wsX2_link wsX1_hold := goodIn_r _ [26, 27, 28, 29, 39, 40, 41, 42, 43, 44] (by decide +kernel) (by decide +kernel)
set_option maxRecDepth 20000 in
theorem gX2_link_X1_hold : GoodIn wsX2_link (wsV RX2 83 RX1 yX1_hold wsX1_hold) := goodIn_app (goodIn_of _ (by decide +kernel)) ggX2_link_X1_hold
theorem dX2_link_0 : decode cX2_link 0 = .ok (.iload_n 1, 1) := by decide +kernel
theorem dX2_link_1 : decode cX2_link 1 = .ok (.invokestatic 34, 3) := by decide +kernel
theorem dX2_link_4 : decode cX2_link 4 = .ok (.ifCond .eq 17, 3) := by decide +kernel
theorem dX2_link_7 : decode cX2_link 7 = .ok (.iload_n 2, 1) := by decide +kernel
theorem dX2_link_8 : decode cX2_link 8 = .ok (.invokestatic 76, 3) := by decide +kernel
theorem dX2_link_11 : decode cX2_link 11 = .ok (.ifCond .eq 10, 3) := by decide +kernel
theorem dX2_link_14 : decode cX2_link 14 = .ok (.iload_n 3, 1) := by decide +kernel
theorem dX2_link_15 : decode cX2_link 15 = .ok (.invokestatic 34, 3) := by decide +kernel
theorem dX2_link_18 : decode cX2_link 18 = .ok (.ifCond .ne 5, 3) := by decide +kernel
theorem dX2_link_21 : decode cX2_link 21 = .ok (.iconst (-1), 1) := by decide +kernel
theorem dX2_link_22 : decode cX2_link 22 = .ok (.ireturn, 1) := by decide +kernel
theorem dX2_link_23 : decode cX2_link 23 = .ok (.aload_n 0, 1) := by decide +kernel
theorem dX2_link_24 : decode cX2_link 24 = .ok (.getfield 11, 3) := by decide +kernel
theorem dX2_link_27 : decode cX2_link 27 = .ok (.iload_n 1, 1) := by decide +kernel
theorem dX2_link_28 : decode cX2_link 28 = .ok (.aaload, 1) := by decide +kernel
theorem dX2_link_29 : decode cX2_link 29 = .ok (.astore 4, 2) := by decide +kernel
theorem dX2_link_31 : decode cX2_link 31 = .ok (.aload_n 0, 1) := by decide +kernel
theorem dX2_link_32 : decode cX2_link 32 = .ok (.getfield 11, 3) := by decide +kernel
theorem dX2_link_35 : decode cX2_link 35 = .ok (.iload_n 3, 1) := by decide +kernel
theorem dX2_link_36 : decode cX2_link 36 = .ok (.aaload, 1) := by decide +kernel
theorem dX2_link_37 : decode cX2_link 37 = .ok (.astore 5, 2) := by decide +kernel
theorem dX2_link_39 : decode cX2_link 39 = .ok (.aload 4, 2) := by decide +kernel
theorem dX2_link_41 : decode cX2_link 41 = .ok (.ifnull 19, 3) := by decide +kernel
theorem dX2_link_44 : decode cX2_link 44 = .ok (.aload 4, 2) := by decide +kernel
theorem dX2_link_46 : decode cX2_link 46 = .ok (.getstatic 57, 3) := by decide +kernel
theorem dX2_link_49 : decode cX2_link 49 = .ok (.iload_n 2, 1) := by decide +kernel
theorem dX2_link_50 : decode cX2_link 50 = .ok (.iaload, 1) := by decide +kernel
theorem dX2_link_51 : decode cX2_link 51 = .ok (.invokevirtual 49, 3) := by decide +kernel
theorem dX2_link_54 : decode cX2_link 54 = .ok (.ifCond .ne 6, 3) := by decide +kernel
theorem dX2_link_57 : decode cX2_link 57 = .ok (.bipush (-14), 2) := by decide +kernel
theorem dX2_link_59 : decode cX2_link 59 = .ok (.ireturn, 1) := by decide +kernel
theorem dX2_link_60 : decode cX2_link 60 = .ok (.aload 5, 2) := by decide +kernel
theorem dX2_link_62 : decode cX2_link 62 = .ok (.ifnull 18, 3) := by decide +kernel
theorem dX2_link_65 : decode cX2_link 65 = .ok (.aload 5, 2) := by decide +kernel
theorem dX2_link_67 : decode cX2_link 67 = .ok (.iload_n 2, 1) := by decide +kernel
theorem dX2_link_68 : decode cX2_link 68 = .ok (.invokestatic 79, 3) := by decide +kernel
theorem dX2_link_71 : decode cX2_link 71 = .ok (.invokevirtual 49, 3) := by decide +kernel
theorem dX2_link_74 : decode cX2_link 74 = .ok (.ifCond .ne 6, 3) := by decide +kernel
theorem dX2_link_77 : decode cX2_link 77 = .ok (.bipush (-14), 2) := by decide +kernel
theorem dX2_link_79 : decode cX2_link 79 = .ok (.ireturn, 1) := by decide +kernel
theorem dX2_link_80 : decode cX2_link 80 = .ok (.aload 4, 2) := by decide +kernel
theorem dX2_link_82 : decode cX2_link 82 = .ok (.ifnonnull 6, 3) := by decide +kernel
theorem dX2_link_85 : decode cX2_link 85 = .ok (.bipush (-11), 2) := by decide +kernel
theorem dX2_link_87 : decode cX2_link 87 = .ok (.ireturn, 1) := by decide +kernel
theorem dX2_link_88 : decode cX2_link 88 = .ok (.aload 4, 2) := by decide +kernel
theorem dX2_link_90 : decode cX2_link 90 = .ok (.iload_n 2, 1) := by decide +kernel
theorem dX2_link_91 : decode cX2_link 91 = .ok (.aload 5, 2) := by decide +kernel
theorem dX2_link_93 : decode cX2_link 93 = .ok (.invokevirtual 83, 3) := by decide +kernel
theorem dX2_link_96 : decode cX2_link 96 = .ok (.iconst 1, 1) := by decide +kernel
theorem dX2_link_97 : decode cX2_link 97 = .ok (.ireturn, 1) := by decide +kernel
set_option maxRecDepth 20000 in
theorem ggX2_follow_X2_isSlot : GoodIn wsX2_follow wsX2_isSlot := goodIn_r _ [6] (by decide +kernel) (by decide +kernel)
set_option maxRecDepth 20000 in
theorem gX2_follow_X2_isSlot : GoodIn wsX2_follow (va_wsS RX2 34 yX2_isSlot wsX2_isSlot) := goodIn_app (goodIn_of _ (by decide +kernel)) ggX2_follow_X2_isSlot
set_option maxRecDepth 20000 in
theorem ggX2_follow_X2_isLinkField : GoodIn wsX2_follow wsX2_isLinkField := goodIn_r _ [9, 10, 11, 12, 5, 13] (by decide +kernel) (by decide +kernel)
set_option maxRecDepth 20000 in
theorem gX2_follow_X2_isLinkField : GoodIn wsX2_follow (va_wsS RX2 76 yX2_isLinkField wsX2_isLinkField) := goodIn_app (goodIn_of _ (by decide +kernel)) ggX2_follow_X2_isLinkField
set_option maxRecDepth 20000 in
theorem ggX2_follow_X2_failureAs : GoodIn wsX2_follow wsX2_failureAs := goodIn_r _ [16, 17, 18, 19, 20, 21, 22, 39, 40, 41, 42, 43, 44] (by decide +kernel) (by decide +kernel)
set_option maxRecDepth 20000 in
theorem gX2_follow_X2_failureAs : GoodIn wsX2_follow (va_wsS RX2 61 yX2_failureAs wsX2_failureAs) := goodIn_app (goodIn_of _ (by decide +kernel)) ggX2_follow_X2_failureAs
set_option maxRecDepth 20000 in
theorem ggX2_follow_X1_held : GoodIn wsX2_follow wsX1_held := goodIn_r _ [26, 27, 28, 29, 39, 40, 41, 42, 43, 44] (by decide +kernel) (by decide +kernel)
set_option maxRecDepth 20000 in
theorem gX2_follow_X1_held : GoodIn wsX2_follow (wsV RX2 87 RX1 yX1_held wsX1_held) := goodIn_app (goodIn_of _ (by decide +kernel)) ggX2_follow_X1_held
theorem dX2_follow_0 : decode cX2_follow 0 = .ok (.iload_n 1, 1) := by decide +kernel
theorem dX2_follow_1 : decode cX2_follow 1 = .ok (.invokestatic 34, 3) := by decide +kernel
theorem dX2_follow_4 : decode cX2_follow 4 = .ok (.ifCond .eq 17, 3) := by decide +kernel
theorem dX2_follow_7 : decode cX2_follow 7 = .ok (.iload_n 2, 1) := by decide +kernel
theorem dX2_follow_8 : decode cX2_follow 8 = .ok (.invokestatic 76, 3) := by decide +kernel
theorem dX2_follow_11 : decode cX2_follow 11 = .ok (.ifCond .eq 10, 3) := by decide +kernel
theorem dX2_follow_14 : decode cX2_follow 14 = .ok (.iload_n 3, 1) := by decide +kernel
theorem dX2_follow_15 : decode cX2_follow 15 = .ok (.invokestatic 34, 3) := by decide +kernel
theorem dX2_follow_18 : decode cX2_follow 18 = .ok (.ifCond .ne 5, 3) := by decide +kernel
theorem dX2_follow_21 : decode cX2_follow 21 = .ok (.iconst (-1), 1) := by decide +kernel
theorem dX2_follow_22 : decode cX2_follow 22 = .ok (.ireturn, 1) := by decide +kernel
theorem dX2_follow_23 : decode cX2_follow 23 = .ok (.aload_n 0, 1) := by decide +kernel
theorem dX2_follow_24 : decode cX2_follow 24 = .ok (.getfield 11, 3) := by decide +kernel
theorem dX2_follow_27 : decode cX2_follow 27 = .ok (.iload_n 1, 1) := by decide +kernel
theorem dX2_follow_28 : decode cX2_follow 28 = .ok (.aaload, 1) := by decide +kernel
theorem dX2_follow_29 : decode cX2_follow 29 = .ok (.astore 4, 2) := by decide +kernel
theorem dX2_follow_31 : decode cX2_follow 31 = .ok (.aload 4, 2) := by decide +kernel
theorem dX2_follow_33 : decode cX2_follow 33 = .ok (.getstatic 57, 3) := by decide +kernel
theorem dX2_follow_36 : decode cX2_follow 36 = .ok (.iload_n 2, 1) := by decide +kernel
theorem dX2_follow_37 : decode cX2_follow 37 = .ok (.iaload, 1) := by decide +kernel
theorem dX2_follow_38 : decode cX2_follow 38 = .ok (.invokestatic 61, 3) := by decide +kernel
theorem dX2_follow_41 : decode cX2_follow 41 = .ok (.istore 5, 2) := by decide +kernel
theorem dX2_follow_43 : decode cX2_follow 43 = .ok (.iload 5, 2) := by decide +kernel
theorem dX2_follow_45 : decode cX2_follow 45 = .ok (.ifCond .eq 6, 3) := by decide +kernel
theorem dX2_follow_48 : decode cX2_follow 48 = .ok (.iload 5, 2) := by decide +kernel
theorem dX2_follow_50 : decode cX2_follow 50 = .ok (.ireturn, 1) := by decide +kernel
theorem dX2_follow_51 : decode cX2_follow 51 = .ok (.aload_n 0, 1) := by decide +kernel
theorem dX2_follow_52 : decode cX2_follow 52 = .ok (.getfield 11, 3) := by decide +kernel
theorem dX2_follow_55 : decode cX2_follow 55 = .ok (.iload_n 3, 1) := by decide +kernel
theorem dX2_follow_56 : decode cX2_follow 56 = .ok (.aload 4, 2) := by decide +kernel
theorem dX2_follow_58 : decode cX2_follow 58 = .ok (.iload_n 2, 1) := by decide +kernel
theorem dX2_follow_59 : decode cX2_follow 59 = .ok (.invokevirtual 87, 3) := by decide +kernel
theorem dX2_follow_62 : decode cX2_follow 62 = .ok (.aastore, 1) := by decide +kernel
theorem dX2_follow_63 : decode cX2_follow 63 = .ok (.iconst 1, 1) := by decide +kernel
theorem dX2_follow_64 : decode cX2_follow 64 = .ok (.ireturn, 1) := by decide +kernel
set_option maxRecDepth 20000 in
theorem ggX2_row_X2_isSlot : GoodIn wsX2_row wsX2_isSlot := goodIn_r _ [7] (by decide +kernel) (by decide +kernel)
set_option maxRecDepth 20000 in
theorem gX2_row_X2_isSlot : GoodIn wsX2_row (va_wsS RX2 34 yX2_isSlot wsX2_isSlot) := goodIn_app (goodIn_of _ (by decide +kernel)) ggX2_row_X2_isSlot
set_option maxRecDepth 20000 in
theorem ggX2_row_X1_isOf : GoodIn wsX2_row wsX1_isOf := goodIn_r _ [12, 13, 23, 24, 25, 26, 27, 28] (by decide +kernel) (by decide +kernel)
set_option maxRecDepth 20000 in
theorem gX2_row_X1_isOf : GoodIn wsX2_row (wsV RX2 49 RX1 yX1_isOf wsX1_isOf) := goodIn_app (goodIn_of _ (by decide +kernel)) ggX2_row_X1_isOf
theorem dX2_row_0 : decode cX2_row 0 = .ok (.iload_n 1, 1) := by decide +kernel
theorem dX2_row_1 : decode cX2_row 1 = .ok (.invokestatic 34, 3) := by decide +kernel
theorem dX2_row_4 : decode cX2_row 4 = .ok (.ifCond .eq 9, 3) := by decide +kernel
theorem dX2_row_7 : decode cX2_row 7 = .ok (.iload_n 2, 1) := by decide +kernel
theorem dX2_row_8 : decode cX2_row 8 = .ok (.bipush 20, 2) := by decide +kernel
theorem dX2_row_10 : decode cX2_row 10 = .ok (.if_icmp .le 5, 3) := by decide +kernel
theorem dX2_row_13 : decode cX2_row 13 = .ok (.iconst (-1), 1) := by decide +kernel
theorem dX2_row_14 : decode cX2_row 14 = .ok (.ireturn, 1) := by decide +kernel
theorem dX2_row_15 : decode cX2_row 15 = .ok (.aload_n 0, 1) := by decide +kernel
theorem dX2_row_16 : decode cX2_row 16 = .ok (.getfield 11, 3) := by decide +kernel
theorem dX2_row_19 : decode cX2_row 19 = .ok (.iload_n 1, 1) := by decide +kernel
theorem dX2_row_20 : decode cX2_row 20 = .ok (.aaload, 1) := by decide +kernel
theorem dX2_row_21 : decode cX2_row 21 = .ok (.astore_n 3, 1) := by decide +kernel
theorem dX2_row_22 : decode cX2_row 22 = .ok (.aload_n 3, 1) := by decide +kernel
theorem dX2_row_23 : decode cX2_row 23 = .ok (.ifnull 14, 3) := by decide +kernel
theorem dX2_row_26 : decode cX2_row 26 = .ok (.aload_n 3, 1) := by decide +kernel
theorem dX2_row_27 : decode cX2_row 27 = .ok (.iconst 0, 1) := by decide +kernel
theorem dX2_row_28 : decode cX2_row 28 = .ok (.invokevirtual 49, 3) := by decide +kernel
theorem dX2_row_31 : decode cX2_row 31 = .ok (.ifCond .ne 6, 3) := by decide +kernel
theorem dX2_row_34 : decode cX2_row 34 = .ok (.bipush (-14), 2) := by decide +kernel
theorem dX2_row_36 : decode cX2_row 36 = .ok (.ireturn, 1) := by decide +kernel
theorem dX2_row_37 : decode cX2_row 37 = .ok (.iload_n 2, 1) := by decide +kernel
theorem dX2_row_38 : decode cX2_row 38 = .ok (.ifCond .ge 12, 3) := by decide +kernel
theorem dX2_row_41 : decode cX2_row 41 = .ok (.iload_n 2, 1) := by decide +kernel
theorem dX2_row_42 : decode cX2_row 42 = .ok (.bipush (-4), 2) := by decide +kernel
theorem dX2_row_44 : decode cX2_row 44 = .ok (.if_icmp .eq 6, 3) := by decide +kernel
theorem dX2_row_47 : decode cX2_row 47 = .ok (.bipush (-13), 2) := by decide +kernel
theorem dX2_row_49 : decode cX2_row 49 = .ok (.ireturn, 1) := by decide +kernel
theorem dX2_row_50 : decode cX2_row 50 = .ok (.aload_n 3, 1) := by decide +kernel
theorem dX2_row_51 : decode cX2_row 51 = .ok (.ifnonnull 6, 3) := by decide +kernel
theorem dX2_row_54 : decode cX2_row 54 = .ok (.bipush (-11), 2) := by decide +kernel
theorem dX2_row_56 : decode cX2_row 56 = .ok (.ireturn, 1) := by decide +kernel
theorem dX2_row_57 : decode cX2_row 57 = .ok (.aload_n 3, 1) := by decide +kernel
theorem dX2_row_58 : decode cX2_row 58 = .ok (.iload_n 2, 1) := by decide +kernel
theorem dX2_row_59 : decode cX2_row 59 = .ok (.bipush (-4), 2) := by decide +kernel
theorem dX2_row_61 : decode cX2_row 61 = .ok (.if_icmp .ne 7, 3) := by decide +kernel
theorem dX2_row_64 : decode cX2_row 64 = .ok (.aconst_null, 1) := by decide +kernel
theorem dX2_row_65 : decode cX2_row 65 = .ok (.goto 6, 3) := by decide +kernel
theorem dX2_row_68 : decode cX2_row 68 = .ok (.iload_n 2, 1) := by decide +kernel
theorem dX2_row_69 : decode cX2_row 69 = .ok (.newarray .int, 2) := by decide +kernel
theorem dX2_row_71 : decode cX2_row 71 = .ok (.putfield 91, 3) := by decide +kernel
theorem dX2_row_74 : decode cX2_row 74 = .ok (.iload_n 2, 1) := by decide +kernel
theorem dX2_row_75 : decode cX2_row 75 = .ok (.ireturn, 1) := by decide +kernel
set_option maxRecDepth 20000 in
theorem ggX2_put_X2_isSlot : GoodIn wsX2_put wsX2_isSlot := goodIn_r _ [6] (by decide +kernel) (by decide +kernel)
set_option maxRecDepth 20000 in
theorem gX2_put_X2_isSlot : GoodIn wsX2_put (va_wsS RX2 34 yX2_isSlot wsX2_isSlot) := goodIn_app (goodIn_of _ (by decide +kernel)) ggX2_put_X2_isSlot
set_option maxRecDepth 20000 in
theorem ggX2_put_X2_failureOfRow : GoodIn wsX2_put wsX2_failureOfRow := goodIn_r _ [9, 2, 10, 11, 5, 12, 13, 14, 15, 16, 17, 18, 28, 29, 30, 31, 32, 33] (by decide +kernel) (by decide +kernel)
set_option maxRecDepth 20000 in
theorem gX2_put_X2_failureOfRow : GoodIn wsX2_put (va_wsS RX2 94 yX2_failureOfRow wsX2_failureOfRow) := goodIn_app (goodIn_of _ (by decide +kernel)) ggX2_put_X2_failureOfRow
theorem dX2_put_0 : decode cX2_put 0 = .ok (.iload_n 1, 1) := by decide +kernel
theorem dX2_put_1 : decode cX2_put 1 = .ok (.invokestatic 34, 3) := by decide +kernel
theorem dX2_put_4 : decode cX2_put 4 = .ok (.ifCond .ne 5, 3) := by decide +kernel
theorem dX2_put_7 : decode cX2_put 7 = .ok (.iconst (-1), 1) := by decide +kernel
theorem dX2_put_8 : decode cX2_put 8 = .ok (.ireturn, 1) := by decide +kernel
theorem dX2_put_9 : decode cX2_put 9 = .ok (.aload_n 0, 1) := by decide +kernel
theorem dX2_put_10 : decode cX2_put 10 = .ok (.getfield 11, 3) := by decide +kernel
theorem dX2_put_13 : decode cX2_put 13 = .ok (.iload_n 1, 1) := by decide +kernel
theorem dX2_put_14 : decode cX2_put 14 = .ok (.aaload, 1) := by decide +kernel
theorem dX2_put_15 : decode cX2_put 15 = .ok (.astore 4, 2) := by decide +kernel
theorem dX2_put_17 : decode cX2_put 17 = .ok (.aload 4, 2) := by decide +kernel
theorem dX2_put_19 : decode cX2_put 19 = .ok (.invokestatic 94, 3) := by decide +kernel
theorem dX2_put_22 : decode cX2_put 22 = .ok (.istore 5, 2) := by decide +kernel
theorem dX2_put_24 : decode cX2_put 24 = .ok (.iload 5, 2) := by decide +kernel
theorem dX2_put_26 : decode cX2_put 26 = .ok (.ifCond .eq 6, 3) := by decide +kernel
theorem dX2_put_29 : decode cX2_put 29 = .ok (.iload 5, 2) := by decide +kernel
theorem dX2_put_31 : decode cX2_put 31 = .ok (.ireturn, 1) := by decide +kernel
theorem dX2_put_32 : decode cX2_put 32 = .ok (.iload_n 2, 1) := by decide +kernel
theorem dX2_put_33 : decode cX2_put 33 = .ok (.ifCond .lt 13, 3) := by decide +kernel
theorem dX2_put_36 : decode cX2_put 36 = .ok (.iload_n 2, 1) := by decide +kernel
theorem dX2_put_37 : decode cX2_put 37 = .ok (.aload 4, 2) := by decide +kernel
theorem dX2_put_39 : decode cX2_put 39 = .ok (.getfield 91, 3) := by decide +kernel
theorem dX2_put_42 : decode cX2_put 42 = .ok (.arraylength, 1) := by decide +kernel
theorem dX2_put_43 : decode cX2_put 43 = .ok (.if_icmp .lt 6, 3) := by decide +kernel
theorem dX2_put_46 : decode cX2_put 46 = .ok (.bipush (-12), 2) := by decide +kernel
theorem dX2_put_48 : decode cX2_put 48 = .ok (.ireturn, 1) := by decide +kernel
theorem dX2_put_49 : decode cX2_put 49 = .ok (.aload 4, 2) := by decide +kernel
theorem dX2_put_51 : decode cX2_put 51 = .ok (.getfield 91, 3) := by decide +kernel
theorem dX2_put_54 : decode cX2_put 54 = .ok (.iload_n 2, 1) := by decide +kernel
theorem dX2_put_55 : decode cX2_put 55 = .ok (.iaload, 1) := by decide +kernel
theorem dX2_put_56 : decode cX2_put 56 = .ok (.istore 6, 2) := by decide +kernel
theorem dX2_put_58 : decode cX2_put 58 = .ok (.aload 4, 2) := by decide +kernel
theorem dX2_put_60 : decode cX2_put 60 = .ok (.getfield 91, 3) := by decide +kernel
theorem dX2_put_63 : decode cX2_put 63 = .ok (.iload_n 2, 1) := by decide +kernel
theorem dX2_put_64 : decode cX2_put 64 = .ok (.iload_n 3, 1) := by decide +kernel
theorem dX2_put_65 : decode cX2_put 65 = .ok (.iastore, 1) := by decide +kernel
theorem dX2_put_66 : decode cX2_put 66 = .ok (.iload 6, 2) := by decide +kernel
theorem dX2_put_68 : decode cX2_put 68 = .ok (.ireturn, 1) := by decide +kernel
set_option maxRecDepth 20000 in
theorem ggX2_length_X2_isSlot : GoodIn wsX2_length wsX2_isSlot := goodIn_r _ [6] (by decide +kernel) (by decide +kernel)
set_option maxRecDepth 20000 in
theorem gX2_length_X2_isSlot : GoodIn wsX2_length (va_wsS RX2 34 yX2_isSlot wsX2_isSlot) := goodIn_app (goodIn_of _ (by decide +kernel)) ggX2_length_X2_isSlot
set_option maxRecDepth 20000 in
theorem ggX2_length_X2_failureOfRow : GoodIn wsX2_length wsX2_failureOfRow := goodIn_r _ [9, 2, 10, 11, 5, 12, 13, 14, 15, 16, 17, 18, 28, 29, 30, 31, 32, 33] (by decide +kernel) (by decide +kernel)
set_option maxRecDepth 20000 in
theorem gX2_length_X2_failureOfRow : GoodIn wsX2_length (va_wsS RX2 94 yX2_failureOfRow wsX2_failureOfRow) := goodIn_app (goodIn_of _ (by decide +kernel)) ggX2_length_X2_failureOfRow
theorem dX2_length_0 : decode cX2_length 0 = .ok (.iload_n 1, 1) := by decide +kernel
theorem dX2_length_1 : decode cX2_length 1 = .ok (.invokestatic 34, 3) := by decide +kernel
theorem dX2_length_4 : decode cX2_length 4 = .ok (.ifCond .ne 5, 3) := by decide +kernel
theorem dX2_length_7 : decode cX2_length 7 = .ok (.iconst (-1), 1) := by decide +kernel
theorem dX2_length_8 : decode cX2_length 8 = .ok (.ireturn, 1) := by decide +kernel
theorem dX2_length_9 : decode cX2_length 9 = .ok (.aload_n 0, 1) := by decide +kernel
theorem dX2_length_10 : decode cX2_length 10 = .ok (.getfield 11, 3) := by decide +kernel
theorem dX2_length_13 : decode cX2_length 13 = .ok (.iload_n 1, 1) := by decide +kernel
theorem dX2_length_14 : decode cX2_length 14 = .ok (.aaload, 1) := by decide +kernel
theorem dX2_length_15 : decode cX2_length 15 = .ok (.astore_n 2, 1) := by decide +kernel
theorem dX2_length_16 : decode cX2_length 16 = .ok (.aload_n 2, 1) := by decide +kernel
theorem dX2_length_17 : decode cX2_length 17 = .ok (.invokestatic 94, 3) := by decide +kernel
theorem dX2_length_20 : decode cX2_length 20 = .ok (.istore_n 3, 1) := by decide +kernel
theorem dX2_length_21 : decode cX2_length 21 = .ok (.iload_n 3, 1) := by decide +kernel
theorem dX2_length_22 : decode cX2_length 22 = .ok (.ifCond .eq 7, 3) := by decide +kernel
theorem dX2_length_25 : decode cX2_length 25 = .ok (.iload_n 3, 1) := by decide +kernel
theorem dX2_length_26 : decode cX2_length 26 = .ok (.goto 8, 3) := by decide +kernel
theorem dX2_length_29 : decode cX2_length 29 = .ok (.aload_n 2, 1) := by decide +kernel
theorem dX2_length_30 : decode cX2_length 30 = .ok (.getfield 91, 3) := by decide +kernel
theorem dX2_length_33 : decode cX2_length 33 = .ok (.arraylength, 1) := by decide +kernel
theorem dX2_length_34 : decode cX2_length 34 = .ok (.ireturn, 1) := by decide +kernel
set_option maxRecDepth 20000 in
theorem ggX2_count_X2_isSlot : GoodIn wsX2_count wsX2_isSlot := goodIn_r _ [8] (by decide +kernel) (by decide +kernel)
set_option maxRecDepth 20000 in
theorem gX2_count_X2_isSlot : GoodIn wsX2_count (va_wsS RX2 34 yX2_isSlot wsX2_isSlot) := goodIn_app (goodIn_of _ (by decide +kernel)) ggX2_count_X2_isSlot
set_option maxRecDepth 20000 in
theorem ggX2_count_X2_failureAs : GoodIn wsX2_count wsX2_failureAs := goodIn_r _ [11, 12, 13, 14, 15, 16, 17, 27, 28, 29, 30, 31, 32] (by decide +kernel) (by decide +kernel)
set_option maxRecDepth 20000 in
theorem gX2_count_X2_failureAs : GoodIn wsX2_count (va_wsS RX2 61 yX2_failureAs wsX2_failureAs) := goodIn_app (goodIn_of _ (by decide +kernel)) ggX2_count_X2_failureAs
theorem dX2_count_0 : decode cX2_count 0 = .ok (.iload_n 1, 1) := by decide +kernel
theorem dX2_count_1 : decode cX2_count 1 = .ok (.invokestatic 34, 3) := by decide +kernel
theorem dX2_count_4 : decode cX2_count 4 = .ok (.ifCond .eq 12, 3) := by decide +kernel
theorem dX2_count_7 : decode cX2_count 7 = .ok (.iload_n 2, 1) := by decide +kernel
theorem dX2_count_8 : decode cX2_count 8 = .ok (.ifCond .lt 8, 3) := by decide +kernel
theorem dX2_count_11 : decode cX2_count 11 = .ok (.iload_n 2, 1) := by decide +kernel
theorem dX2_count_12 : decode cX2_count 12 = .ok (.iconst 2, 1) := by decide +kernel
theorem dX2_count_13 : decode cX2_count 13 = .ok (.if_icmp .le 7, 3) := by decide +kernel
theorem dX2_count_16 : decode cX2_count 16 = .ok (.ldc2_w 55, 3) := by decide +kernel
theorem dX2_count_19 : decode cX2_count 19 = .ok (.lreturn, 1) := by decide +kernel
theorem dX2_count_20 : decode cX2_count 20 = .ok (.aload_n 0, 1) := by decide +kernel
theorem dX2_count_21 : decode cX2_count 21 = .ok (.getfield 11, 3) := by decide +kernel
theorem dX2_count_24 : decode cX2_count 24 = .ok (.iload_n 1, 1) := by decide +kernel
theorem dX2_count_25 : decode cX2_count 25 = .ok (.aaload, 1) := by decide +kernel
theorem dX2_count_26 : decode cX2_count 26 = .ok (.astore_n 3, 1) := by decide +kernel
theorem dX2_count_27 : decode cX2_count 27 = .ok (.aload_n 3, 1) := by decide +kernel
theorem dX2_count_28 : decode cX2_count 28 = .ok (.iload_n 2, 1) := by decide +kernel
theorem dX2_count_29 : decode cX2_count 29 = .ok (.invokestatic 61, 3) := by decide +kernel
theorem dX2_count_32 : decode cX2_count 32 = .ok (.istore 4, 2) := by decide +kernel
theorem dX2_count_34 : decode cX2_count 34 = .ok (.iload 4, 2) := by decide +kernel
theorem dX2_count_36 : decode cX2_count 36 = .ok (.ifCond .eq 9, 3) := by decide +kernel
theorem dX2_count_39 : decode cX2_count 39 = .ok (.iload 4, 2) := by decide +kernel
theorem dX2_count_41 : decode cX2_count 41 = .ok (.i2l, 1) := by decide +kernel
theorem dX2_count_42 : decode cX2_count 42 = .ok (.goto 13, 3) := by decide +kernel
theorem dX2_count_45 : decode cX2_count 45 = .ok (.aload_n 3, 1) := by decide +kernel
theorem dX2_count_46 : decode cX2_count 46 = .ok (.getfield 65, 3) := by decide +kernel
theorem dX2_count_49 : decode cX2_count 49 = .ok (.getstatic 98, 3) := by decide +kernel
theorem dX2_count_52 : decode cX2_count 52 = .ok (.iload_n 2, 1) := by decide +kernel
theorem dX2_count_53 : decode cX2_count 53 = .ok (.iaload, 1) := by decide +kernel
theorem dX2_count_54 : decode cX2_count 54 = .ok (.laload, 1) := by decide +kernel
theorem dX2_count_55 : decode cX2_count 55 = .ok (.lreturn, 1) := by decide +kernel
set_option maxRecDepth 20000 in
theorem ggX2_call_X2_isSlot : GoodIn wsX2_call wsX2_isSlot := goodIn_r _ [6] (by decide +kernel) (by decide +kernel)
set_option maxRecDepth 20000 in
theorem gX2_call_X2_isSlot : GoodIn wsX2_call (va_wsS RX2 34 yX2_isSlot wsX2_isSlot) := goodIn_app (goodIn_of _ (by decide +kernel)) ggX2_call_X2_isSlot
set_option maxRecDepth 20000 in
theorem ggX2_call_X2_failureAs : GoodIn wsX2_call wsX2_failureAs := goodIn_r _ [9, 10, 11, 12, 13, 14, 15, 49, 50, 51, 52, 53, 54] (by decide +kernel) (by decide +kernel)
set_option maxRecDepth 20000 in
theorem gX2_call_X2_failureAs : GoodIn wsX2_call (va_wsS RX2 61 yX2_failureAs wsX2_failureAs) := goodIn_app (goodIn_of _ (by decide +kernel)) ggX2_call_X2_failureAs
set_option maxRecDepth 20000 in
theorem ggX2_call_X1_name : GoodIn wsX2_call wsX1_name := goodIn_r _ [19, 20, 15, 49, 50, 51, 52, 53, 54] (by decide +kernel) (by decide +kernel)
set_option maxRecDepth 20000 in
theorem gX2_call_X1_name : GoodIn wsX2_call (wsV RX2 101 RX1 yX1_name wsX1_name) := goodIn_app (goodIn_of _ (by decide +kernel)) ggX2_call_X1_name
set_option maxRecDepth 20000 in
theorem ggX2_call_X1_secret : GoodIn wsX2_call wsX1_secret := goodIn_r _ [24, 20, 49, 50, 51, 52, 53, 54] (by decide +kernel) (by decide +kernel)
set_option maxRecDepth 20000 in
theorem gX2_call_X1_secret : GoodIn wsX2_call (wsV RX2 105 RX1 yX1_secret wsX1_secret) := goodIn_app (goodIn_of _ (by decide +kernel)) ggX2_call_X1_secret
set_option maxRecDepth 20000 in
theorem ggX2_call_X1_depth : GoodIn wsX2_call wsX1_depth := goodIn_r _ [28, 29, 30, 31, 13, 32, 15, 33, 34, 35, 49, 50, 51, 52, 53, 54] (by decide +kernel) (by decide +kernel)
set_option maxRecDepth 20000 in
theorem gX2_call_X1_depth : GoodIn wsX2_call (wsV RX2 108 RX1 yX1_depth wsX1_depth) := goodIn_app (goodIn_of _ (by decide +kernel)) ggX2_call_X1_depth
set_option maxRecDepth 20000 in
theorem ggX2_call_X1_kind : GoodIn wsX2_call wsX1_kind := goodIn_r _ [39, 15, 33, 49, 50, 51, 52, 53, 54] (by decide +kernel) (by decide +kernel)
set_option maxRecDepth 20000 in
theorem gX2_call_X1_kind : GoodIn wsX2_call (wsV RX2 111 RX1 yX1_kind wsX1_kind) := goodIn_app (goodIn_of _ (by decide +kernel)) ggX2_call_X1_kind
end
section
theorem dX2_call_0 : decode cX2_call 0 = .ok (.iload_n 1, 1) := by decide +kernel
theorem dX2_call_1 : decode cX2_call 1 = .ok (.invokestatic 34, 3) := by decide +kernel
theorem dX2_call_4 : decode cX2_call 4 = .ok (.ifCond .eq 12, 3) := by decide +kernel
theorem dX2_call_7 : decode cX2_call 7 = .ok (.iload_n 2, 1) := by decide +kernel
theorem dX2_call_8 : decode cX2_call 8 = .ok (.ifCond .lt 8, 3) := by decide +kernel
theorem dX2_call_11 : decode cX2_call 11 = .ok (.iload_n 2, 1) := by decide +kernel
theorem dX2_call_12 : decode cX2_call 12 = .ok (.iconst 4, 1) := by decide +kernel
theorem dX2_call_13 : decode cX2_call 13 = .ok (.if_icmp .le 5, 3) := by decide +kernel
theorem dX2_call_16 : decode cX2_call 16 = .ok (.iconst (-1), 1) := by decide +kernel
theorem dX2_call_17 : decode cX2_call 17 = .ok (.ireturn, 1) := by decide +kernel
theorem dX2_call_18 : decode cX2_call 18 = .ok (.aload_n 0, 1) := by decide +kernel
theorem dX2_call_19 : decode cX2_call 19 = .ok (.getfield 11, 3) := by decide +kernel
theorem dX2_call_22 : decode cX2_call 22 = .ok (.iload_n 1, 1) := by decide +kernel
theorem dX2_call_23 : decode cX2_call 23 = .ok (.aaload, 1) := by decide +kernel
theorem dX2_call_24 : decode cX2_call 24 = .ok (.astore_n 3, 1) := by decide +kernel
theorem dX2_call_25 : decode cX2_call 25 = .ok (.aload_n 3, 1) := by decide +kernel
theorem dX2_call_26 : decode cX2_call 26 = .ok (.iload_n 2, 1) := by decide +kernel
theorem dX2_call_27 : decode cX2_call 27 = .ok (.iconst 2, 1) := by decide +kernel
theorem dX2_call_28 : decode cX2_call 28 = .ok (.if_icmp .eq 8, 3) := by decide +kernel
theorem dX2_call_31 : decode cX2_call 31 = .ok (.iload_n 2, 1) := by decide +kernel
theorem dX2_call_32 : decode cX2_call 32 = .ok (.iconst 3, 1) := by decide +kernel
theorem dX2_call_33 : decode cX2_call 33 = .ok (.if_icmp .ne 7, 3) := by decide +kernel
theorem dX2_call_36 : decode cX2_call 36 = .ok (.iconst 5, 1) := by decide +kernel
theorem dX2_call_37 : decode cX2_call 37 = .ok (.goto 4, 3) := by decide +kernel
theorem dX2_call_40 : decode cX2_call 40 = .ok (.iconst 0, 1) := by decide +kernel
theorem dX2_call_41 : decode cX2_call 41 = .ok (.invokestatic 61, 3) := by decide +kernel
theorem dX2_call_44 : decode cX2_call 44 = .ok (.istore 4, 2) := by decide +kernel
theorem dX2_call_46 : decode cX2_call 46 = .ok (.iload 4, 2) := by decide +kernel
theorem dX2_call_48 : decode cX2_call 48 = .ok (.ifCond .eq 6, 3) := by decide +kernel
theorem dX2_call_51 : decode cX2_call 51 = .ok (.iload 4, 2) := by decide +kernel
theorem dX2_call_53 : decode cX2_call 53 = .ok (.ireturn, 1) := by decide +kernel
theorem dX2_call_54 : decode cX2_call 54 = .ok (.iload_n 2, 1) := by decide +kernel
theorem dX2_call_55 : decode cX2_call 55 = .ok (.tableswitch 49 0 3 #[29, 34, 39, 44], 29) := by decide +kernel
theorem dX2_call_84 : decode cX2_call 84 = .ok (.aload_n 3, 1) := by decide +kernel
theorem dX2_call_85 : decode cX2_call 85 = .ok (.invokevirtual 101, 3) := by decide +kernel
theorem dX2_call_88 : decode cX2_call 88 = .ok (.ireturn, 1) := by decide +kernel
theorem dX2_call_89 : decode cX2_call 89 = .ok (.aload_n 3, 1) := by decide +kernel
theorem dX2_call_90 : decode cX2_call 90 = .ok (.invokevirtual 105, 3) := by decide +kernel
theorem dX2_call_93 : decode cX2_call 93 = .ok (.ireturn, 1) := by decide +kernel
theorem dX2_call_94 : decode cX2_call 94 = .ok (.aload_n 3, 1) := by decide +kernel
theorem dX2_call_95 : decode cX2_call 95 = .ok (.invokevirtual 108, 3) := by decide +kernel
theorem dX2_call_98 : decode cX2_call 98 = .ok (.ireturn, 1) := by decide +kernel
theorem dX2_call_99 : decode cX2_call 99 = .ok (.aload_n 3, 1) := by decide +kernel
theorem dX2_call_100 : decode cX2_call 100 = .ok (.invokevirtual 111, 3) := by decide +kernel
theorem dX2_call_103 : decode cX2_call 103 = .ok (.ireturn, 1) := by decide +kernel
theorem dX2_call_104 : decode cX2_call 104 = .ok (.aload_n 3, 1) := by decide +kernel
theorem dX2_call_105 : decode cX2_call 105 = .ok (.getfield 114, 3) := by decide +kernel
theorem dX2_call_108 : decode cX2_call 108 = .ok (.ifnonnull 8, 3) := by decide +kernel
theorem dX2_call_111 : decode cX2_call 111 = .ok (.bipush (-11), 2) := by decide +kernel
theorem dX2_call_113 : decode cX2_call 113 = .ok (.goto 10, 3) := by decide +kernel
theorem dX2_call_116 : decode cX2_call 116 = .ok (.aload_n 3, 1) := by decide +kernel
theorem dX2_call_117 : decode cX2_call 117 = .ok (.getfield 114, 3) := by decide +kernel
theorem dX2_call_120 : decode cX2_call 120 = .ok (.invokevirtual 101, 3) := by decide +kernel
theorem dX2_call_123 : decode cX2_call 123 = .ok (.ireturn, 1) := by decide +kernel
set_option maxRecDepth 20000 in
theorem ggX2_raise_X2_isSlot : GoodIn wsX2_raise wsX2_isSlot := goodIn_r _ [5] (by decide +kernel) (by decide +kernel)
set_option maxRecDepth 20000 in
theorem gX2_raise_X2_isSlot : GoodIn wsX2_raise (va_wsS RX2 34 yX2_isSlot wsX2_isSlot) := goodIn_app (goodIn_of _ (by decide +kernel)) ggX2_raise_X2_isSlot
set_option maxRecDepth 20000 in
theorem ggX2_raise_X2_thrown : GoodIn wsX2_raise wsX2_thrown := goodIn_r _ [8, 9, 10, 11, 4, 12, 13, 14, 15, 16, 17, 18, 28, 29, 30, 31, 32, 33] (by decide +kernel) (by decide +kernel)
set_option maxRecDepth 20000 in
theorem gX2_raise_X2_thrown : GoodIn wsX2_raise (va_wsS RX2 118 yX2_thrown wsX2_thrown) := goodIn_app (goodIn_of _ (by decide +kernel)) ggX2_raise_X2_thrown
theorem dX2_raise_0 : decode cX2_raise 0 = .ok (.iload_n 1, 1) := by decide +kernel
theorem dX2_raise_1 : decode cX2_raise 1 = .ok (.invokestatic 34, 3) := by decide +kernel
theorem dX2_raise_4 : decode cX2_raise 4 = .ok (.ifCond .eq 15, 3) := by decide +kernel
theorem dX2_raise_7 : decode cX2_raise 7 = .ok (.aload_n 0, 1) := by decide +kernel
theorem dX2_raise_8 : decode cX2_raise 8 = .ok (.getfield 11, 3) := by decide +kernel
theorem dX2_raise_11 : decode cX2_raise 11 = .ok (.iload_n 1, 1) := by decide +kernel
theorem dX2_raise_12 : decode cX2_raise 12 = .ok (.aaload, 1) := by decide +kernel
theorem dX2_raise_13 : decode cX2_raise 13 = .ok (.invokestatic 118, 3) := by decide +kernel
theorem dX2_raise_16 : decode cX2_raise 16 = .ok (.goto 4, 3) := by decide +kernel
theorem dX2_raise_19 : decode cX2_raise 19 = .ok (.iconst (-1), 1) := by decide +kernel
theorem dX2_raise_20 : decode cX2_raise 20 = .ok (.ireturn, 1) := by decide +kernel
set_option maxRecDepth 20000 in
theorem ggX2_passes_X2_isSlot : GoodIn wsX2_passes wsX2_isSlot := goodIn_r _ [6] (by decide +kernel) (by decide +kernel)
set_option maxRecDepth 20000 in
theorem gX2_passes_X2_isSlot : GoodIn wsX2_passes (va_wsS RX2 34 yX2_isSlot wsX2_isSlot) := goodIn_app (goodIn_of _ (by decide +kernel)) ggX2_passes_X2_isSlot
set_option maxRecDepth 20000 in
theorem ggX2_passes_X2_thrown : GoodIn wsX2_passes wsX2_thrown := goodIn_r _ [9, 10, 11, 12, 5, 13, 14, 15, 16, 17, 18, 19, 29, 30, 31, 32, 33, 34] (by decide +kernel) (by decide +kernel)
set_option maxRecDepth 20000 in
theorem gX2_passes_X2_thrown : GoodIn wsX2_passes (va_wsS RX2 118 yX2_thrown wsX2_thrown) := goodIn_app (goodIn_of _ (by decide +kernel)) ggX2_passes_X2_thrown
theorem dX2_passes_0 : decode cX2_passes 0 = .ok (.iload_n 1, 1) := by decide +kernel
theorem dX2_passes_1 : decode cX2_passes 1 = .ok (.invokestatic 34, 3) := by decide +kernel
theorem dX2_passes_4 : decode cX2_passes 4 = .ok (.ifCond .eq 14, 3) := by decide +kernel
theorem dX2_passes_7 : decode cX2_passes 7 = .ok (.iload_n 2, 1) := by decide +kernel
theorem dX2_passes_8 : decode cX2_passes 8 = .ok (.iconst 1, 1) := by decide +kernel
theorem dX2_passes_9 : decode cX2_passes 9 = .ok (.if_icmp .lt 9, 3) := by decide +kernel
theorem dX2_passes_12 : decode cX2_passes 12 = .ok (.iload_n 2, 1) := by decide +kernel
theorem dX2_passes_13 : decode cX2_passes 13 = .ok (.bipush 12, 2) := by decide +kernel
theorem dX2_passes_15 : decode cX2_passes 15 = .ok (.if_icmp .le 5, 3) := by decide +kernel
theorem dX2_passes_18 : decode cX2_passes 18 = .ok (.iconst (-1), 1) := by decide +kernel
theorem dX2_passes_19 : decode cX2_passes 19 = .ok (.ireturn, 1) := by decide +kernel
theorem dX2_passes_20 : decode cX2_passes 20 = .ok (.aload_n 0, 1) := by decide +kernel
theorem dX2_passes_21 : decode cX2_passes 21 = .ok (.iload_n 2, 1) := by decide +kernel
theorem dX2_passes_22 : decode cX2_passes 22 = .ok (.putfield 121, 3) := by decide +kernel
theorem dX2_passes_25 : decode cX2_passes 25 = .ok (.aload_n 0, 1) := by decide +kernel
theorem dX2_passes_26 : decode cX2_passes 26 = .ok (.getfield 11, 3) := by decide +kernel
theorem dX2_passes_29 : decode cX2_passes 29 = .ok (.iload_n 1, 1) := by decide +kernel
theorem dX2_passes_30 : decode cX2_passes 30 = .ok (.aaload, 1) := by decide +kernel
theorem dX2_passes_31 : decode cX2_passes 31 = .ok (.invokestatic 118, 3) := by decide +kernel
theorem dX2_passes_34 : decode cX2_passes 34 = .ok (.ireturn, 1) := by decide +kernel
theorem dX2_passed_0 : decode cX2_passed 0 = .ok (.aload_n 0, 1) := by decide +kernel
theorem dX2_passed_1 : decode cX2_passed 1 = .ok (.getfield 121, 3) := by decide +kernel
theorem dX2_passed_4 : decode cX2_passed 4 = .ok (.ireturn, 1) := by decide +kernel
set_option maxRecDepth 20000 in
theorem ggX2_leaves_X2_isSlot : GoodIn wsX2_leaves wsX2_isSlot := goodIn_r _ [8] (by decide +kernel) (by decide +kernel)
set_option maxRecDepth 20000 in
theorem gX2_leaves_X2_isSlot : GoodIn wsX2_leaves (va_wsS RX2 34 yX2_isSlot wsX2_isSlot) := goodIn_app (goodIn_of _ (by decide +kernel)) ggX2_leaves_X2_isSlot
set_option maxRecDepth 20000 in
theorem ggX2_leaves_X2_tell : GoodIn wsX2_leaves wsX2_tell := goodIn_r _ [12, 4, 13, 14, 15, 16, 7, 17, 18, 19, 20, 21, 22, 23, 24, 25, 26, 27, 28, 29, 30, 31, 32, 33, 34, 35, 36, 37, 38, 39, 40, 41, 42, 43, 44, 45, 46, 47, 48, 49, 50, 51, 52, 53, 54, 55, 56, 57, 58, 59, 60, 61, 71, 72, 73, 74, 62, 63, 64, 65, 66, 67, 68, 69, 70, 75, 76, 77, 78, 79, 80] (by decide +kernel) (by decide +kernel)
set_option maxRecDepth 20000 in
theorem gX2_leaves_X2_tell : GoodIn wsX2_leaves (wsV RX2 124 RX2 yX2_tell wsX2_tell) := goodIn_app (goodIn_of _ (by decide +kernel)) ggX2_leaves_X2_tell
theorem dX2_leaves_0 : decode cX2_leaves 0 = .ok (.iload_n 1, 1) := by decide +kernel
theorem dX2_leaves_1 : decode cX2_leaves 1 = .ok (.invokestatic 34, 3) := by decide +kernel
theorem dX2_leaves_4 : decode cX2_leaves 4 = .ok (.ifCond .ne 5, 3) := by decide +kernel
theorem dX2_leaves_7 : decode cX2_leaves 7 = .ok (.iconst (-1), 1) := by decide +kernel
theorem dX2_leaves_8 : decode cX2_leaves 8 = .ok (.ireturn, 1) := by decide +kernel
theorem dX2_leaves_9 : decode cX2_leaves 9 = .ok (.aload_n 0, 1) := by decide +kernel
theorem dX2_leaves_10 : decode cX2_leaves 10 = .ok (.getfield 11, 3) := by decide +kernel
theorem dX2_leaves_13 : decode cX2_leaves 13 = .ok (.iload_n 1, 1) := by decide +kernel
theorem dX2_leaves_14 : decode cX2_leaves 14 = .ok (.aaload, 1) := by decide +kernel
theorem dX2_leaves_15 : decode cX2_leaves 15 = .ok (.astore_n 2, 1) := by decide +kernel
theorem dX2_leaves_16 : decode cX2_leaves 16 = .ok (.aload_n 2, 1) := by decide +kernel
theorem dX2_leaves_17 : decode cX2_leaves 17 = .ok (.ifnonnull 6, 3) := by decide +kernel
theorem dX2_leaves_20 : decode cX2_leaves 20 = .ok (.bipush (-11), 2) := by decide +kernel
theorem dX2_leaves_22 : decode cX2_leaves 22 = .ok (.ireturn, 1) := by decide +kernel
theorem dX2_leaves_23 : decode cX2_leaves 23 = .ok (.aload_n 0, 1) := by decide +kernel
theorem dX2_leaves_24 : decode cX2_leaves 24 = .ok (.aload_n 2, 1) := by decide +kernel
theorem dX2_leaves_25 : decode cX2_leaves 25 = .ok (.aload_n 0, 1) := by decide +kernel
theorem dX2_leaves_26 : decode cX2_leaves 26 = .ok (.getfield 22, 3) := by decide +kernel
theorem dX2_leaves_29 : decode cX2_leaves 29 = .ok (.invokevirtual 124, 3) := by decide +kernel
theorem dX2_leaves_32 : decode cX2_leaves 32 = .ok (.ifCond .ne 6, 3) := by decide +kernel
theorem dX2_leaves_35 : decode cX2_leaves 35 = .ok (.bipush (-3), 2) := by decide +kernel
theorem dX2_leaves_37 : decode cX2_leaves 37 = .ok (.ireturn, 1) := by decide +kernel
theorem dX2_leaves_38 : decode cX2_leaves 38 = .ok (.aload_n 0, 1) := by decide +kernel
theorem dX2_leaves_39 : decode cX2_leaves 39 = .ok (.getfield 18, 3) := by decide +kernel
theorem dX2_leaves_42 : decode cX2_leaves 42 = .ok (.astore_n 3, 1) := by decide +kernel
theorem dX2_leaves_43 : decode cX2_leaves 43 = .ok (.aload_n 0, 1) := by decide +kernel
theorem dX2_leaves_44 : decode cX2_leaves 44 = .ok (.aload_n 0, 1) := by decide +kernel
theorem dX2_leaves_45 : decode cX2_leaves 45 = .ok (.getfield 22, 3) := by decide +kernel
theorem dX2_leaves_48 : decode cX2_leaves 48 = .ok (.putfield 18, 3) := by decide +kernel
theorem dX2_leaves_51 : decode cX2_leaves 51 = .ok (.aload_n 0, 1) := by decide +kernel
theorem dX2_leaves_52 : decode cX2_leaves 52 = .ok (.aload_n 3, 1) := by decide +kernel
theorem dX2_leaves_53 : decode cX2_leaves 53 = .ok (.putfield 22, 3) := by decide +kernel
theorem dX2_leaves_56 : decode cX2_leaves 56 = .ok (.aload_n 0, 1) := by decide +kernel
theorem dX2_leaves_57 : decode cX2_leaves 57 = .ok (.getfield 18, 3) := by decide +kernel
theorem dX2_leaves_60 : decode cX2_leaves 60 = .ok (.getfield 128, 3) := by decide +kernel
theorem dX2_leaves_63 : decode cX2_leaves 63 = .ok (.ireturn, 1) := by decide +kernel
set_option maxRecDepth 20000 in
theorem ggX2_leaf_X0_has : GoodIn wsX2_leaf wsX0_has := goodIn_r _ [10, 11, 21, 22, 23, 24] (by decide +kernel) (by decide +kernel)
set_option maxRecDepth 20000 in
theorem gX2_leaf_X0_has : GoodIn wsX2_leaf (wsV RX2 131 RX0 yX0_has wsX0_has) := goodIn_app (goodIn_of _ (by decide +kernel)) ggX2_leaf_X0_has
theorem dX2_leaf_0 : decode cX2_leaf 0 = .ok (.aload_n 0, 1) := by decide +kernel
theorem dX2_leaf_1 : decode cX2_leaf 1 = .ok (.getfield 18, 3) := by decide +kernel
theorem dX2_leaf_4 : decode cX2_leaf 4 = .ok (.iload_n 1, 1) := by decide +kernel
theorem dX2_leaf_5 : decode cX2_leaf 5 = .ok (.invokevirtual 131, 3) := by decide +kernel
theorem dX2_leaf_8 : decode cX2_leaf 8 = .ok (.ifCond .eq 12, 3) := by decide +kernel
theorem dX2_leaf_11 : decode cX2_leaf 11 = .ok (.iload_n 2, 1) := by decide +kernel
theorem dX2_leaf_12 : decode cX2_leaf 12 = .ok (.ifCond .lt 8, 3) := by decide +kernel
theorem dX2_leaf_15 : decode cX2_leaf 15 = .ok (.iload_n 2, 1) := by decide +kernel
theorem dX2_leaf_16 : decode cX2_leaf 16 = .ok (.iconst 2, 1) := by decide +kernel
theorem dX2_leaf_17 : decode cX2_leaf 17 = .ok (.if_icmp .le 7, 3) := by decide +kernel
theorem dX2_leaf_20 : decode cX2_leaf 20 = .ok (.ldc2_w 55, 3) := by decide +kernel
theorem dX2_leaf_23 : decode cX2_leaf 23 = .ok (.lreturn, 1) := by decide +kernel
theorem dX2_leaf_24 : decode cX2_leaf 24 = .ok (.iload_n 2, 1) := by decide +kernel
theorem dX2_leaf_25 : decode cX2_leaf 25 = .ok (.ifCond .ne 14, 3) := by decide +kernel
theorem dX2_leaf_28 : decode cX2_leaf 28 = .ok (.aload_n 0, 1) := by decide +kernel
theorem dX2_leaf_29 : decode cX2_leaf 29 = .ok (.getfield 18, 3) := by decide +kernel
theorem dX2_leaf_32 : decode cX2_leaf 32 = .ok (.getfield 134, 3) := by decide +kernel
theorem dX2_leaf_35 : decode cX2_leaf 35 = .ok (.iload_n 1, 1) := by decide +kernel
theorem dX2_leaf_36 : decode cX2_leaf 36 = .ok (.iaload, 1) := by decide +kernel
theorem dX2_leaf_37 : decode cX2_leaf 37 = .ok (.i2l, 1) := by decide +kernel
theorem dX2_leaf_38 : decode cX2_leaf 38 = .ok (.lreturn, 1) := by decide +kernel
theorem dX2_leaf_39 : decode cX2_leaf 39 = .ok (.iload_n 2, 1) := by decide +kernel
theorem dX2_leaf_40 : decode cX2_leaf 40 = .ok (.iconst 1, 1) := by decide +kernel
theorem dX2_leaf_41 : decode cX2_leaf 41 = .ok (.if_icmp .ne 16, 3) := by decide +kernel
theorem dX2_leaf_44 : decode cX2_leaf 44 = .ok (.aload_n 0, 1) := by decide +kernel
theorem dX2_leaf_45 : decode cX2_leaf 45 = .ok (.getfield 18, 3) := by decide +kernel
theorem dX2_leaf_48 : decode cX2_leaf 48 = .ok (.getfield 137, 3) := by decide +kernel
theorem dX2_leaf_51 : decode cX2_leaf 51 = .ok (.iload_n 1, 1) := by decide +kernel
theorem dX2_leaf_52 : decode cX2_leaf 52 = .ok (.iaload, 1) := by decide +kernel
theorem dX2_leaf_53 : decode cX2_leaf 53 = .ok (.i2l, 1) := by decide +kernel
theorem dX2_leaf_54 : decode cX2_leaf 54 = .ok (.goto 12, 3) := by decide +kernel
theorem dX2_leaf_57 : decode cX2_leaf 57 = .ok (.aload_n 0, 1) := by decide +kernel
theorem dX2_leaf_58 : decode cX2_leaf 58 = .ok (.getfield 18, 3) := by decide +kernel
theorem dX2_leaf_61 : decode cX2_leaf 61 = .ok (.getfield 140, 3) := by decide +kernel
theorem dX2_leaf_64 : decode cX2_leaf 64 = .ok (.iload_n 1, 1) := by decide +kernel
theorem dX2_leaf_65 : decode cX2_leaf 65 = .ok (.laload, 1) := by decide +kernel
theorem dX2_leaf_66 : decode cX2_leaf 66 = .ok (.lreturn, 1) := by decide +kernel
set_option maxRecDepth 20000 in
theorem ggX2_alter_X0_has : GoodIn wsX2_alter wsX0_has := goodIn_r _ [8, 9, 19, 20, 21, 22] (by decide +kernel) (by decide +kernel)
set_option maxRecDepth 20000 in
theorem gX2_alter_X0_has : GoodIn wsX2_alter (wsV RX2 131 RX0 yX0_has wsX0_has) := goodIn_app (goodIn_of _ (by decide +kernel)) ggX2_alter_X0_has
theorem dX2_alter_0 : decode cX2_alter 0 = .ok (.aload_n 0, 1) := by decide +kernel
theorem dX2_alter_1 : decode cX2_alter 1 = .ok (.getfield 18, 3) := by decide +kernel
theorem dX2_alter_4 : decode cX2_alter 4 = .ok (.iload_n 1, 1) := by decide +kernel
theorem dX2_alter_5 : decode cX2_alter 5 = .ok (.invokevirtual 131, 3) := by decide +kernel
theorem dX2_alter_8 : decode cX2_alter 8 = .ok (.ifCond .eq 30, 3) := by decide +kernel
theorem dX2_alter_11 : decode cX2_alter 11 = .ok (.aload_n 0, 1) := by decide +kernel
theorem dX2_alter_12 : decode cX2_alter 12 = .ok (.getfield 18, 3) := by decide +kernel
theorem dX2_alter_15 : decode cX2_alter 15 = .ok (.getfield 137, 3) := by decide +kernel
theorem dX2_alter_18 : decode cX2_alter 18 = .ok (.iload_n 1, 1) := by decide +kernel
theorem dX2_alter_19 : decode cX2_alter 19 = .ok (.iaload, 1) := by decide +kernel
theorem dX2_alter_20 : decode cX2_alter 20 = .ok (.iconst (-1), 1) := by decide +kernel
theorem dX2_alter_21 : decode cX2_alter 21 = .ok (.if_icmp .eq 17, 3) := by decide +kernel
theorem dX2_alter_24 : decode cX2_alter 24 = .ok (.aload_n 0, 1) := by decide +kernel
theorem dX2_alter_25 : decode cX2_alter 25 = .ok (.getfield 18, 3) := by decide +kernel
theorem dX2_alter_28 : decode cX2_alter 28 = .ok (.getfield 137, 3) := by decide +kernel
theorem dX2_alter_31 : decode cX2_alter 31 = .ok (.iload_n 1, 1) := by decide +kernel
theorem dX2_alter_32 : decode cX2_alter 32 = .ok (.iaload, 1) := by decide +kernel
theorem dX2_alter_33 : decode cX2_alter 33 = .ok (.bipush 9, 2) := by decide +kernel
theorem dX2_alter_35 : decode cX2_alter 35 = .ok (.if_icmp .ne 5, 3) := by decide +kernel
theorem dX2_alter_38 : decode cX2_alter 38 = .ok (.iconst (-1), 1) := by decide +kernel
theorem dX2_alter_39 : decode cX2_alter 39 = .ok (.ireturn, 1) := by decide +kernel
theorem dX2_alter_40 : decode cX2_alter 40 = .ok (.aload_n 0, 1) := by decide +kernel
theorem dX2_alter_41 : decode cX2_alter 41 = .ok (.getfield 18, 3) := by decide +kernel
theorem dX2_alter_44 : decode cX2_alter 44 = .ok (.getfield 140, 3) := by decide +kernel
theorem dX2_alter_47 : decode cX2_alter 47 = .ok (.iload_n 1, 1) := by decide +kernel
theorem dX2_alter_48 : decode cX2_alter 48 = .ok (.lload_n 2, 1) := by decide +kernel
theorem dX2_alter_49 : decode cX2_alter 49 = .ok (.lastore, 1) := by decide +kernel
theorem dX2_alter_50 : decode cX2_alter 50 = .ok (.iconst 1, 1) := by decide +kernel
theorem dX2_alter_51 : decode cX2_alter 51 = .ok (.ireturn, 1) := by decide +kernel
set_option maxRecDepth 20000 in
theorem ggX2_back_X2_isSlot : GoodIn wsX2_back wsX2_isSlot := goodIn_r _ [9] (by decide +kernel) (by decide +kernel)
set_option maxRecDepth 20000 in
theorem gX2_back_X2_isSlot : GoodIn wsX2_back (va_wsS RX2 34 yX2_isSlot wsX2_isSlot) := goodIn_app (goodIn_of _ (by decide +kernel)) ggX2_back_X2_isSlot
set_option maxRecDepth 20000 in
theorem ggX2_back_X2_makeFromLeaves : GoodIn wsX2_back wsX2_makeFromLeaves := goodIn_r _ [13, 5, 1, 2, 14, 15, 4, 16, 17, 18, 19, 20, 21, 22, 23, 24, 25, 26, 27, 8, 28, 29, 30, 31, 32, 33, 34, 35, 36, 37, 38, 39, 40, 41, 42, 43, 44, 45, 46, 47, 48, 49, 50, 51, 52, 53, 54, 55, 105, 106, 107, 108, 109, 110, 111, 112, 113, 114, 115, 116, 117, 118, 119, 120, 121, 122, 123] (by decide +kernel) (by decide +kernel)
set_option maxRecDepth 20000 in
theorem gX2_back_X2_makeFromLeaves : GoodIn wsX2_back (wsV RX2 141 RX2 yX2_makeFromLeaves wsX2_makeFromLeaves) := goodIn_app (goodIn_of _ (by decide +kernel)) ggX2_back_X2_makeFromLeaves
set_option maxRecDepth 20000 in
theorem ggX2_back_X2_fillFromLeaves : GoodIn wsX2_back wsX2_fillFromLeaves := goodIn_r _ [59, 1, 2, 60, 14, 15, 61, 62, 63, 8, 64, 5, 4, 65, 66, 67, 68, 69, 70, 71, 72, 73, 74, 75, 31, 76, 77, 78, 79, 80, 81, 82, 83, 84, 85, 86, 87, 88, 18, 89, 55, 90, 91, 92, 93, 94, 95, 96, 97, 98, 99, 100, 101, 102, 103, 27, 28, 104, 29, 30, 32, 33, 34, 35, 36, 37, 38, 39, 40, 41, 42, 43, 105, 106, 107, 108, 109, 110, 111, 112, 113, 114, 115, 116, 117, 118, 119, 120, 121, 122, 123] (by decide +kernel) (by decide +kernel)
set_option maxRecDepth 20000 in
theorem gX2_back_X2_fillFromLeaves : GoodIn wsX2_back (wsV RX2 144 RX2 yX2_fillFromLeaves wsX2_fillFromLeaves) := goodIn_app (goodIn_of _ (by decide +kernel)) ggX2_back_X2_fillFromLeaves
theorem dX2_back_0 : decode cX2_back 0 = .ok (.iload_n 1, 1) := by decide +kernel
theorem dX2_back_1 : decode cX2_back 1 = .ok (.invokestatic 34, 3) := by decide +kernel
theorem dX2_back_4 : decode cX2_back 4 = .ok (.ifCond .ne 5, 3) := by decide +kernel
theorem dX2_back_7 : decode cX2_back 7 = .ok (.iconst (-1), 1) := by decide +kernel
theorem dX2_back_8 : decode cX2_back 8 = .ok (.ireturn, 1) := by decide +kernel
theorem dX2_back_9 : decode cX2_back 9 = .ok (.aload_n 0, 1) := by decide +kernel
theorem dX2_back_10 : decode cX2_back 10 = .ok (.getfield 18, 3) := by decide +kernel
theorem dX2_back_13 : decode cX2_back 13 = .ok (.getfield 128, 3) := by decide +kernel
theorem dX2_back_16 : decode cX2_back 16 = .ok (.ifCond .ne 6, 3) := by decide +kernel
theorem dX2_back_19 : decode cX2_back 19 = .ok (.bipush (-3), 2) := by decide +kernel
theorem dX2_back_21 : decode cX2_back 21 = .ok (.ireturn, 1) := by decide +kernel
theorem dX2_back_22 : decode cX2_back 22 = .ok (.aload_n 0, 1) := by decide +kernel
theorem dX2_back_23 : decode cX2_back 23 = .ok (.invokevirtual 141, 3) := by decide +kernel
theorem dX2_back_26 : decode cX2_back 26 = .ok (.istore_n 2, 1) := by decide +kernel
theorem dX2_back_27 : decode cX2_back 27 = .ok (.iload_n 2, 1) := by decide +kernel
theorem dX2_back_28 : decode cX2_back 28 = .ok (.ifCond .ne 8, 3) := by decide +kernel
theorem dX2_back_31 : decode cX2_back 31 = .ok (.aload_n 0, 1) := by decide +kernel
theorem dX2_back_32 : decode cX2_back 32 = .ok (.invokevirtual 144, 3) := by decide +kernel
theorem dX2_back_35 : decode cX2_back 35 = .ok (.istore_n 2, 1) := by decide +kernel
theorem dX2_back_36 : decode cX2_back 36 = .ok (.iload_n 2, 1) := by decide +kernel
theorem dX2_back_37 : decode cX2_back 37 = .ok (.ifCond .eq 5, 3) := by decide +kernel
theorem dX2_back_40 : decode cX2_back 40 = .ok (.iload_n 2, 1) := by decide +kernel
theorem dX2_back_41 : decode cX2_back 41 = .ok (.ireturn, 1) := by decide +kernel
theorem dX2_back_42 : decode cX2_back 42 = .ok (.aload_n 0, 1) := by decide +kernel
theorem dX2_back_43 : decode cX2_back 43 = .ok (.getfield 11, 3) := by decide +kernel
theorem dX2_back_46 : decode cX2_back 46 = .ok (.iload_n 1, 1) := by decide +kernel
theorem dX2_back_47 : decode cX2_back 47 = .ok (.aload_n 0, 1) := by decide +kernel
theorem dX2_back_48 : decode cX2_back 48 = .ok (.getfield 31, 3) := by decide +kernel
theorem dX2_back_51 : decode cX2_back 51 = .ok (.iconst 0, 1) := by decide +kernel
theorem dX2_back_52 : decode cX2_back 52 = .ok (.aaload, 1) := by decide +kernel
theorem dX2_back_53 : decode cX2_back 53 = .ok (.aastore, 1) := by decide +kernel
theorem dX2_back_54 : decode cX2_back 54 = .ok (.aload_n 0, 1) := by decide +kernel
theorem dX2_back_55 : decode cX2_back 55 = .ok (.getfield 147, 3) := by decide +kernel
theorem dX2_back_58 : decode cX2_back 58 = .ok (.ireturn, 1) := by decide +kernel
set_option maxRecDepth 20000 in
theorem ggX2_equal_X2_isSlot : GoodIn wsX2_equal wsX2_isSlot := goodIn_r _ [7] (by decide +kernel) (by decide +kernel)
set_option maxRecDepth 20000 in
theorem gX2_equal_X2_isSlot : GoodIn wsX2_equal (va_wsS RX2 34 yX2_isSlot wsX2_isSlot) := goodIn_app (goodIn_of _ (by decide +kernel)) ggX2_equal_X2_isSlot
set_option maxRecDepth 20000 in
theorem ggX2_equal_X2_tell : GoodIn wsX2_equal wsX2_tell := goodIn_r _ [11, 12, 13, 14, 15, 16, 6, 17, 18, 19, 20, 21, 22, 23, 24, 25, 26, 27, 28, 29, 30, 31, 32, 33, 34, 35, 36, 37, 38, 39, 40, 41, 42, 43, 44, 45, 46, 47, 48, 49, 50, 51, 52, 53, 54, 55, 56, 57, 58, 59, 60, 61, 75, 76, 77, 78, 66, 67, 68, 69, 70, 71, 72, 73, 74, 79, 80, 81, 82, 83, 84] (by decide +kernel) (by decide +kernel)
set_option maxRecDepth 20000 in
theorem gX2_equal_X2_tell : GoodIn wsX2_equal (wsV RX2 124 RX2 yX2_tell wsX2_tell) := goodIn_app (goodIn_of _ (by decide +kernel)) ggX2_equal_X2_tell
set_option maxRecDepth 20000 in
theorem ggX2_equal_X0_sameAs : GoodIn wsX2_equal wsX0_sameAs := goodIn_r _ [65, 40, 41, 42, 43, 75, 76, 77, 78] (by decide +kernel) (by decide +kernel)
set_option maxRecDepth 20000 in
theorem gX2_equal_X0_sameAs : GoodIn wsX2_equal (wsV RX2 150 RX0 yX0_sameAs wsX0_sameAs) := goodIn_app (goodIn_of _ (by decide +kernel)) ggX2_equal_X0_sameAs
theorem dX2_equal_0 : decode cX2_equal 0 = .ok (.iload_n 1, 1) := by decide +kernel
theorem dX2_equal_1 : decode cX2_equal 1 = .ok (.invokestatic 34, 3) := by decide +kernel
theorem dX2_equal_4 : decode cX2_equal 4 = .ok (.ifCond .eq 10, 3) := by decide +kernel
theorem dX2_equal_7 : decode cX2_equal 7 = .ok (.iload_n 2, 1) := by decide +kernel
theorem dX2_equal_8 : decode cX2_equal 8 = .ok (.invokestatic 34, 3) := by decide +kernel
theorem dX2_equal_11 : decode cX2_equal 11 = .ok (.ifCond .ne 5, 3) := by decide +kernel
theorem dX2_equal_14 : decode cX2_equal 14 = .ok (.iconst (-1), 1) := by decide +kernel
theorem dX2_equal_15 : decode cX2_equal 15 = .ok (.ireturn, 1) := by decide +kernel
theorem dX2_equal_16 : decode cX2_equal 16 = .ok (.aload_n 0, 1) := by decide +kernel
theorem dX2_equal_17 : decode cX2_equal 17 = .ok (.getfield 11, 3) := by decide +kernel
theorem dX2_equal_20 : decode cX2_equal 20 = .ok (.iload_n 1, 1) := by decide +kernel
theorem dX2_equal_21 : decode cX2_equal 21 = .ok (.aaload, 1) := by decide +kernel
theorem dX2_equal_22 : decode cX2_equal 22 = .ok (.astore_n 3, 1) := by decide +kernel
theorem dX2_equal_23 : decode cX2_equal 23 = .ok (.aload_n 0, 1) := by decide +kernel
theorem dX2_equal_24 : decode cX2_equal 24 = .ok (.getfield 11, 3) := by decide +kernel
theorem dX2_equal_27 : decode cX2_equal 27 = .ok (.iload_n 2, 1) := by decide +kernel
theorem dX2_equal_28 : decode cX2_equal 28 = .ok (.aaload, 1) := by decide +kernel
theorem dX2_equal_29 : decode cX2_equal 29 = .ok (.astore 4, 2) := by decide +kernel
theorem dX2_equal_31 : decode cX2_equal 31 = .ok (.aload_n 3, 1) := by decide +kernel
theorem dX2_equal_32 : decode cX2_equal 32 = .ok (.ifnull 15, 3) := by decide +kernel
theorem dX2_equal_35 : decode cX2_equal 35 = .ok (.aload_n 0, 1) := by decide +kernel
theorem dX2_equal_36 : decode cX2_equal 36 = .ok (.aload_n 3, 1) := by decide +kernel
theorem dX2_equal_37 : decode cX2_equal 37 = .ok (.aload_n 0, 1) := by decide +kernel
theorem dX2_equal_38 : decode cX2_equal 38 = .ok (.getfield 22, 3) := by decide +kernel
theorem dX2_equal_41 : decode cX2_equal 41 = .ok (.invokevirtual 124, 3) := by decide +kernel
theorem dX2_equal_44 : decode cX2_equal 44 = .ok (.ifCond .eq 21, 3) := by decide +kernel
theorem dX2_equal_47 : decode cX2_equal 47 = .ok (.aload 4, 2) := by decide +kernel
theorem dX2_equal_49 : decode cX2_equal 49 = .ok (.ifnull 19, 3) := by decide +kernel
theorem dX2_equal_52 : decode cX2_equal 52 = .ok (.aload_n 0, 1) := by decide +kernel
theorem dX2_equal_53 : decode cX2_equal 53 = .ok (.aload 4, 2) := by decide +kernel
theorem dX2_equal_55 : decode cX2_equal 55 = .ok (.aload_n 0, 1) := by decide +kernel
theorem dX2_equal_56 : decode cX2_equal 56 = .ok (.getfield 25, 3) := by decide +kernel
theorem dX2_equal_59 : decode cX2_equal 59 = .ok (.invokevirtual 124, 3) := by decide +kernel
theorem dX2_equal_62 : decode cX2_equal 62 = .ok (.ifCond .ne 6, 3) := by decide +kernel
theorem dX2_equal_65 : decode cX2_equal 65 = .ok (.bipush (-3), 2) := by decide +kernel
theorem dX2_equal_67 : decode cX2_equal 67 = .ok (.ireturn, 1) := by decide +kernel
theorem dX2_equal_68 : decode cX2_equal 68 = .ok (.aload_n 3, 1) := by decide +kernel
theorem dX2_equal_69 : decode cX2_equal 69 = .ok (.ifnull 8, 3) := by decide +kernel
theorem dX2_equal_72 : decode cX2_equal 72 = .ok (.aload 4, 2) := by decide +kernel
theorem dX2_equal_74 : decode cX2_equal 74 = .ok (.ifnonnull 15, 3) := by decide +kernel
theorem dX2_equal_77 : decode cX2_equal 77 = .ok (.aload_n 3, 1) := by decide +kernel
theorem dX2_equal_78 : decode cX2_equal 78 = .ok (.aload 4, 2) := by decide +kernel
theorem dX2_equal_80 : decode cX2_equal 80 = .ok (.if_acmp .ne 7, 3) := by decide +kernel
theorem dX2_equal_83 : decode cX2_equal 83 = .ok (.iconst 1, 1) := by decide +kernel
theorem dX2_equal_84 : decode cX2_equal 84 = .ok (.goto 4, 3) := by decide +kernel
theorem dX2_equal_87 : decode cX2_equal 87 = .ok (.iconst 0, 1) := by decide +kernel
theorem dX2_equal_88 : decode cX2_equal 88 = .ok (.ireturn, 1) := by decide +kernel
theorem dX2_equal_89 : decode cX2_equal 89 = .ok (.aload_n 0, 1) := by decide +kernel
theorem dX2_equal_90 : decode cX2_equal 90 = .ok (.getfield 22, 3) := by decide +kernel
theorem dX2_equal_93 : decode cX2_equal 93 = .ok (.aload_n 0, 1) := by decide +kernel
theorem dX2_equal_94 : decode cX2_equal 94 = .ok (.getfield 25, 3) := by decide +kernel
theorem dX2_equal_97 : decode cX2_equal 97 = .ok (.invokevirtual 150, 3) := by decide +kernel
theorem dX2_equal_100 : decode cX2_equal 100 = .ok (.ifCond .eq 7, 3) := by decide +kernel
theorem dX2_equal_103 : decode cX2_equal 103 = .ok (.iconst 1, 1) := by decide +kernel
theorem dX2_equal_104 : decode cX2_equal 104 = .ok (.goto 4, 3) := by decide +kernel
theorem dX2_equal_107 : decode cX2_equal 107 = .ok (.iconst 0, 1) := by decide +kernel
theorem dX2_equal_108 : decode cX2_equal 108 = .ok (.ireturn, 1) := by decide +kernel
set_option maxRecDepth 20000 in
theorem ggX2_changed_X2_isSlot : GoodIn wsX2_changed wsX2_isSlot := goodIn_r _ [6] (by decide +kernel) (by decide +kernel)
set_option maxRecDepth 20000 in
theorem gX2_changed_X2_isSlot : GoodIn wsX2_changed (va_wsS RX2 34 yX2_isSlot wsX2_isSlot) := goodIn_app (goodIn_of _ (by decide +kernel)) ggX2_changed_X2_isSlot
set_option maxRecDepth 20000 in
theorem ggX2_changed_X2_differ : GoodIn wsX2_changed wsX2_differ := goodIn_r _ [9, 10, 11, 12, 13, 14, 15, 16, 17, 18, 19, 20, 21, 22, 5, 23, 33, 34, 35, 36, 37, 38] (by decide +kernel) (by decide +kernel)
set_option maxRecDepth 20000 in
theorem gX2_changed_X2_differ : GoodIn wsX2_changed (va_wsS RX2 154 yX2_differ wsX2_differ) := goodIn_app (goodIn_of _ (by decide +kernel)) ggX2_changed_X2_differ
theorem dX2_changed_0 : decode cX2_changed 0 = .ok (.iload_n 1, 1) := by decide +kernel
theorem dX2_changed_1 : decode cX2_changed 1 = .ok (.invokestatic 34, 3) := by decide +kernel
theorem dX2_changed_4 : decode cX2_changed 4 = .ok (.ifCond .eq 14, 3) := by decide +kernel
theorem dX2_changed_7 : decode cX2_changed 7 = .ok (.iload_n 2, 1) := by decide +kernel
theorem dX2_changed_8 : decode cX2_changed 8 = .ok (.invokestatic 34, 3) := by decide +kernel
theorem dX2_changed_11 : decode cX2_changed 11 = .ok (.ifCond .eq 7, 3) := by decide +kernel
theorem dX2_changed_14 : decode cX2_changed 14 = .ok (.iload_n 3, 1) := by decide +kernel
theorem dX2_changed_15 : decode cX2_changed 15 = .ok (.ifCond .ge 5, 3) := by decide +kernel
theorem dX2_changed_18 : decode cX2_changed 18 = .ok (.iconst (-1), 1) := by decide +kernel
theorem dX2_changed_19 : decode cX2_changed 19 = .ok (.ireturn, 1) := by decide +kernel
theorem dX2_changed_20 : decode cX2_changed 20 = .ok (.aload_n 0, 1) := by decide +kernel
theorem dX2_changed_21 : decode cX2_changed 21 = .ok (.getfield 11, 3) := by decide +kernel
theorem dX2_changed_24 : decode cX2_changed 24 = .ok (.iload_n 1, 1) := by decide +kernel
theorem dX2_changed_25 : decode cX2_changed 25 = .ok (.aaload, 1) := by decide +kernel
theorem dX2_changed_26 : decode cX2_changed 26 = .ok (.astore 4, 2) := by decide +kernel
theorem dX2_changed_28 : decode cX2_changed 28 = .ok (.aload_n 0, 1) := by decide +kernel
theorem dX2_changed_29 : decode cX2_changed 29 = .ok (.getfield 11, 3) := by decide +kernel
theorem dX2_changed_32 : decode cX2_changed 32 = .ok (.iload_n 2, 1) := by decide +kernel
theorem dX2_changed_33 : decode cX2_changed 33 = .ok (.aaload, 1) := by decide +kernel
theorem dX2_changed_34 : decode cX2_changed 34 = .ok (.astore 5, 2) := by decide +kernel
theorem dX2_changed_36 : decode cX2_changed 36 = .ok (.aload 4, 2) := by decide +kernel
theorem dX2_changed_38 : decode cX2_changed 38 = .ok (.ifnull 8, 3) := by decide +kernel
theorem dX2_changed_41 : decode cX2_changed 41 = .ok (.aload 5, 2) := by decide +kernel
theorem dX2_changed_43 : decode cX2_changed 43 = .ok (.ifnonnull 6, 3) := by decide +kernel
theorem dX2_changed_46 : decode cX2_changed 46 = .ok (.bipush (-11), 2) := by decide +kernel
theorem dX2_changed_48 : decode cX2_changed 48 = .ok (.ireturn, 1) := by decide +kernel
theorem dX2_changed_49 : decode cX2_changed 49 = .ok (.aload 4, 2) := by decide +kernel
theorem dX2_changed_51 : decode cX2_changed 51 = .ok (.getfield 45, 3) := by decide +kernel
theorem dX2_changed_54 : decode cX2_changed 54 = .ok (.aload 5, 2) := by decide +kernel
theorem dX2_changed_56 : decode cX2_changed 56 = .ok (.getfield 45, 3) := by decide +kernel
theorem dX2_changed_59 : decode cX2_changed 59 = .ok (.if_icmp .eq 6, 3) := by decide +kernel
theorem dX2_changed_62 : decode cX2_changed 62 = .ok (.bipush (-14), 2) := by decide +kernel
theorem dX2_changed_64 : decode cX2_changed 64 = .ok (.ireturn, 1) := by decide +kernel
theorem dX2_changed_65 : decode cX2_changed 65 = .ok (.iconst 0, 1) := by decide +kernel
theorem dX2_changed_66 : decode cX2_changed 66 = .ok (.istore 6, 2) := by decide +kernel
theorem dX2_changed_68 : decode cX2_changed 68 = .ok (.iconst 0, 1) := by decide +kernel
theorem dX2_changed_69 : decode cX2_changed 69 = .ok (.istore 7, 2) := by decide +kernel
theorem dX2_changed_71 : decode cX2_changed 71 = .ok (.iload 7, 2) := by decide +kernel
theorem dX2_changed_73 : decode cX2_changed 73 = .ok (.bipush 17, 2) := by decide +kernel
theorem dX2_changed_75 : decode cX2_changed 75 = .ok (.if_icmp .ge 33, 3) := by decide +kernel
theorem dX2_changed_78 : decode cX2_changed 78 = .ok (.aload 4, 2) := by decide +kernel
theorem dX2_changed_80 : decode cX2_changed 80 = .ok (.aload 5, 2) := by decide +kernel
theorem dX2_changed_82 : decode cX2_changed 82 = .ok (.iload 7, 2) := by decide +kernel
theorem dX2_changed_84 : decode cX2_changed 84 = .ok (.invokestatic 154, 3) := by decide +kernel
theorem dX2_changed_87 : decode cX2_changed 87 = .ok (.ifCond .eq 15, 3) := by decide +kernel
theorem dX2_changed_90 : decode cX2_changed 90 = .ok (.iload 6, 2) := by decide +kernel
theorem dX2_changed_92 : decode cX2_changed 92 = .ok (.iload_n 3, 1) := by decide +kernel
theorem dX2_changed_93 : decode cX2_changed 93 = .ok (.if_icmp .ne 6, 3) := by decide +kernel
theorem dX2_changed_96 : decode cX2_changed 96 = .ok (.iload 7, 2) := by decide +kernel
theorem dX2_changed_98 : decode cX2_changed 98 = .ok (.ireturn, 1) := by decide +kernel
theorem dX2_changed_99 : decode cX2_changed 99 = .ok (.iinc 6 1, 3) := by decide +kernel
theorem dX2_changed_102 : decode cX2_changed 102 = .ok (.iinc 7 1, 3) := by decide +kernel
theorem dX2_changed_105 : decode cX2_changed 105 = .ok (.goto (-34), 3) := by decide +kernel
theorem dX2_changed_108 : decode cX2_changed 108 = .ok (.bipush (-4), 2) := by decide +kernel
theorem dX2_changed_110 : decode cX2_changed 110 = .ok (.ireturn, 1) := by decide +kernel
theorem dX2_isSlot_0 : decode cX2_isSlot 0 = .ok (.iload_n 0, 1) := by decide +kernel
theorem dX2_isSlot_1 : decode cX2_isSlot 1 = .ok (.ifCond .lt 13, 3) := by decide +kernel
theorem dX2_isSlot_4 : decode cX2_isSlot 4 = .ok (.iload_n 0, 1) := by decide +kernel
theorem dX2_isSlot_5 : decode cX2_isSlot 5 = .ok (.bipush 12, 2) := by decide +kernel
theorem dX2_isSlot_7 : decode cX2_isSlot 7 = .ok (.if_icmp .ge 7, 3) := by decide +kernel
theorem dX2_isSlot_10 : decode cX2_isSlot 10 = .ok (.iconst 1, 1) := by decide +kernel
theorem dX2_isSlot_11 : decode cX2_isSlot 11 = .ok (.goto 4, 3) := by decide +kernel
theorem dX2_isSlot_14 : decode cX2_isSlot 14 = .ok (.iconst 0, 1) := by decide +kernel
theorem dX2_isSlot_15 : decode cX2_isSlot 15 = .ok (.ireturn, 1) := by decide +kernel
theorem dX2_isField_0 : decode cX2_isField 0 = .ok (.iload_n 0, 1) := by decide +kernel
theorem dX2_isField_1 : decode cX2_isField 1 = .ok (.ifCond .lt 13, 3) := by decide +kernel
theorem dX2_isField_4 : decode cX2_isField 4 = .ok (.iload_n 0, 1) := by decide +kernel
theorem dX2_isField_5 : decode cX2_isField 5 = .ok (.bipush 17, 2) := by decide +kernel
theorem dX2_isField_7 : decode cX2_isField 7 = .ok (.if_icmp .ge 7, 3) := by decide +kernel
theorem dX2_isField_10 : decode cX2_isField 10 = .ok (.iconst 1, 1) := by decide +kernel
theorem dX2_isField_11 : decode cX2_isField 11 = .ok (.goto 4, 3) := by decide +kernel
theorem dX2_isField_14 : decode cX2_isField 14 = .ok (.iconst 0, 1) := by decide +kernel
theorem dX2_isField_15 : decode cX2_isField 15 = .ok (.ireturn, 1) := by decide +kernel
set_option maxRecDepth 20000 in
theorem ggX2_isLinkField_X2_isField : GoodIn wsX2_isLinkField wsX2_isField := goodIn_r _ [5] (by decide +kernel) (by decide +kernel)
set_option maxRecDepth 20000 in
theorem gX2_isLinkField_X2_isField : GoodIn wsX2_isLinkField (va_wsS RX2 158 yX2_isField wsX2_isField) := goodIn_app (goodIn_of _ (by decide +kernel)) ggX2_isLinkField_X2_isField
theorem dX2_isLinkField_0 : decode cX2_isLinkField 0 = .ok (.iload_n 0, 1) := by decide +kernel
theorem dX2_isLinkField_1 : decode cX2_isLinkField 1 = .ok (.invokestatic 158, 3) := by decide +kernel
theorem dX2_isLinkField_4 : decode cX2_isLinkField 4 = .ok (.ifCond .eq 17, 3) := by decide +kernel
theorem dX2_isLinkField_7 : decode cX2_isLinkField 7 = .ok (.getstatic 161, 3) := by decide +kernel
theorem dX2_isLinkField_10 : decode cX2_isLinkField 10 = .ok (.iload_n 0, 1) := by decide +kernel
theorem dX2_isLinkField_11 : decode cX2_isLinkField 11 = .ok (.iaload, 1) := by decide +kernel
theorem dX2_isLinkField_12 : decode cX2_isLinkField 12 = .ok (.bipush 8, 2) := by decide +kernel
theorem dX2_isLinkField_14 : decode cX2_isLinkField 14 = .ok (.if_icmp .ne 7, 3) := by decide +kernel
theorem dX2_isLinkField_17 : decode cX2_isLinkField 17 = .ok (.iconst 1, 1) := by decide +kernel
theorem dX2_isLinkField_18 : decode cX2_isLinkField 18 = .ok (.goto 4, 3) := by decide +kernel
theorem dX2_isLinkField_21 : decode cX2_isLinkField 21 = .ok (.iconst 0, 1) := by decide +kernel
theorem dX2_isLinkField_22 : decode cX2_isLinkField 22 = .ok (.ireturn, 1) := by decide +kernel
set_option maxRecDepth 20000 in
theorem ggX2_isValueField_X2_isField : GoodIn wsX2_isValueField wsX2_isField := goodIn_r _ [5] (by decide +kernel) (by decide +kernel)
set_option maxRecDepth 20000 in
theorem gX2_isValueField_X2_isField : GoodIn wsX2_isValueField (va_wsS RX2 158 yX2_isField wsX2_isField) := goodIn_app (goodIn_of _ (by decide +kernel)) ggX2_isValueField_X2_isField
theorem dX2_isValueField_0 : decode cX2_isValueField 0 = .ok (.iload_n 0, 1) := by decide +kernel
theorem dX2_isValueField_1 : decode cX2_isValueField 1 = .ok (.invokestatic 158, 3) := by decide +kernel
theorem dX2_isValueField_4 : decode cX2_isValueField 4 = .ok (.ifCond .eq 27, 3) := by decide +kernel
theorem dX2_isValueField_7 : decode cX2_isValueField 7 = .ok (.getstatic 161, 3) := by decide +kernel
theorem dX2_isValueField_10 : decode cX2_isValueField 10 = .ok (.iload_n 0, 1) := by decide +kernel
theorem dX2_isValueField_11 : decode cX2_isValueField 11 = .ok (.iaload, 1) := by decide +kernel
theorem dX2_isValueField_12 : decode cX2_isValueField 12 = .ok (.bipush 8, 2) := by decide +kernel
theorem dX2_isValueField_14 : decode cX2_isValueField 14 = .ok (.if_icmp .eq 17, 3) := by decide +kernel
theorem dX2_isValueField_17 : decode cX2_isValueField 17 = .ok (.getstatic 161, 3) := by decide +kernel
theorem dX2_isValueField_20 : decode cX2_isValueField 20 = .ok (.iload_n 0, 1) := by decide +kernel
theorem dX2_isValueField_21 : decode cX2_isValueField 21 = .ok (.iaload, 1) := by decide +kernel
theorem dX2_isValueField_22 : decode cX2_isValueField 22 = .ok (.bipush 9, 2) := by decide +kernel
theorem dX2_isValueField_24 : decode cX2_isValueField 24 = .ok (.if_icmp .eq 7, 3) := by decide +kernel
theorem dX2_isValueField_27 : decode cX2_isValueField 27 = .ok (.iconst 1, 1) := by decide +kernel
theorem dX2_isValueField_28 : decode cX2_isValueField 28 = .ok (.goto 4, 3) := by decide +kernel
theorem dX2_isValueField_31 : decode cX2_isValueField 31 = .ok (.iconst 0, 1) := by decide +kernel
theorem dX2_isValueField_32 : decode cX2_isValueField 32 = .ok (.ireturn, 1) := by decide +kernel
theorem dX2_isFinal_0 : decode cX2_isFinal 0 = .ok (.iload_n 0, 1) := by decide +kernel
theorem dX2_isFinal_1 : decode cX2_isFinal 1 = .ok (.bipush 13, 2) := by decide +kernel
theorem dX2_isFinal_3 : decode cX2_isFinal 3 = .ok (.if_icmp .eq 9, 3) := by decide +kernel
theorem dX2_isFinal_6 : decode cX2_isFinal 6 = .ok (.iload_n 0, 1) := by decide +kernel
theorem dX2_isFinal_7 : decode cX2_isFinal 7 = .ok (.bipush 16, 2) := by decide +kernel
theorem dX2_isFinal_9 : decode cX2_isFinal 9 = .ok (.if_icmp .ne 7, 3) := by decide +kernel
theorem dX2_isFinal_12 : decode cX2_isFinal 12 = .ok (.iconst 1, 1) := by decide +kernel
theorem dX2_isFinal_13 : decode cX2_isFinal 13 = .ok (.goto 4, 3) := by decide +kernel
theorem dX2_isFinal_16 : decode cX2_isFinal 16 = .ok (.iconst 0, 1) := by decide +kernel
theorem dX2_isFinal_17 : decode cX2_isFinal 17 = .ok (.ireturn, 1) := by decide +kernel
theorem dX2_makerTakes_0 : decode cX2_makerTakes 0 = .ok (.iload_n 0, 1) := by decide +kernel
theorem dX2_makerTakes_1 : decode cX2_makerTakes 1 = .ok (.iconst 2, 1) := by decide +kernel
theorem dX2_makerTakes_2 : decode cX2_makerTakes 2 = .ok (.if_icmp .ne 14, 3) := by decide +kernel
theorem dX2_makerTakes_5 : decode cX2_makerTakes 5 = .ok (.iload_n 1, 1) := by decide +kernel
theorem dX2_makerTakes_6 : decode cX2_makerTakes 6 = .ok (.ifCond .lt 14, 3) := by decide +kernel
theorem dX2_makerTakes_9 : decode cX2_makerTakes 9 = .ok (.iload_n 1, 1) := by decide +kernel
theorem dX2_makerTakes_10 : decode cX2_makerTakes 10 = .ok (.sipush 1000, 3) := by decide +kernel
theorem dX2_makerTakes_13 : decode cX2_makerTakes 13 = .ok (.if_icmp .gt 7, 3) := by decide +kernel
theorem dX2_makerTakes_16 : decode cX2_makerTakes 16 = .ok (.iconst 1, 1) := by decide +kernel
theorem dX2_makerTakes_17 : decode cX2_makerTakes 17 = .ok (.goto 4, 3) := by decide +kernel
theorem dX2_makerTakes_20 : decode cX2_makerTakes 20 = .ok (.iconst 0, 1) := by decide +kernel
theorem dX2_makerTakes_21 : decode cX2_makerTakes 21 = .ok (.ireturn, 1) := by decide +kernel
theorem dX2_wantedIn_0 : decode cX2_wantedIn 0 = .ok (.iload_n 0, 1) := by decide +kernel
theorem dX2_wantedIn_1 : decode cX2_wantedIn 1 = .ok (.bipush 8, 2) := by decide +kernel
theorem dX2_wantedIn_3 : decode cX2_wantedIn 3 = .ok (.if_icmp .ne 5, 3) := by decide +kernel
theorem dX2_wantedIn_6 : decode cX2_wantedIn 6 = .ok (.iconst 0, 1) := by decide +kernel
theorem dX2_wantedIn_7 : decode cX2_wantedIn 7 = .ok (.ireturn, 1) := by decide +kernel
theorem dX2_wantedIn_8 : decode cX2_wantedIn 8 = .ok (.iload_n 0, 1) := by decide +kernel
theorem dX2_wantedIn_9 : decode cX2_wantedIn 9 = .ok (.bipush 11, 2) := by decide +kernel
theorem dX2_wantedIn_11 : decode cX2_wantedIn 11 = .ok (.if_icmp .ne 7, 3) := by decide +kernel
theorem dX2_wantedIn_14 : decode cX2_wantedIn 14 = .ok (.iconst 1, 1) := by decide +kernel
theorem dX2_wantedIn_15 : decode cX2_wantedIn 15 = .ok (.goto 4, 3) := by decide +kernel
theorem dX2_wantedIn_18 : decode cX2_wantedIn 18 = .ok (.iconst 5, 1) := by decide +kernel
theorem dX2_wantedIn_19 : decode cX2_wantedIn 19 = .ok (.ireturn, 1) := by decide +kernel
set_option maxRecDepth 20000 in
theorem ggX2_failureAs_X1_isOf : GoodIn wsX2_failureAs wsX1_isOf := goodIn_r _ [5, 6, 7, 8, 9, 10, 11, 12] (by decide +kernel) (by decide +kernel)
set_option maxRecDepth 20000 in
theorem gX2_failureAs_X1_isOf : GoodIn wsX2_failureAs (wsV RX2 49 RX1 yX1_isOf wsX1_isOf) := goodIn_app (goodIn_of _ (by decide +kernel)) ggX2_failureAs_X1_isOf
theorem dX2_failureAs_0 : decode cX2_failureAs 0 = .ok (.aload_n 0, 1) := by decide +kernel
theorem dX2_failureAs_1 : decode cX2_failureAs 1 = .ok (.ifnonnull 6, 3) := by decide +kernel
theorem dX2_failureAs_4 : decode cX2_failureAs 4 = .ok (.bipush (-11), 2) := by decide +kernel
theorem dX2_failureAs_6 : decode cX2_failureAs 6 = .ok (.ireturn, 1) := by decide +kernel
theorem dX2_failureAs_7 : decode cX2_failureAs 7 = .ok (.aload_n 0, 1) := by decide +kernel
theorem dX2_failureAs_8 : decode cX2_failureAs 8 = .ok (.iload_n 1, 1) := by decide +kernel
theorem dX2_failureAs_9 : decode cX2_failureAs 9 = .ok (.invokevirtual 49, 3) := by decide +kernel
theorem dX2_failureAs_12 : decode cX2_failureAs 12 = .ok (.ifCond .eq 7, 3) := by decide +kernel
theorem dX2_failureAs_15 : decode cX2_failureAs 15 = .ok (.iconst 0, 1) := by decide +kernel
theorem dX2_failureAs_16 : decode cX2_failureAs 16 = .ok (.goto 5, 3) := by decide +kernel
theorem dX2_failureAs_19 : decode cX2_failureAs 19 = .ok (.bipush (-14), 2) := by decide +kernel
theorem dX2_failureAs_21 : decode cX2_failureAs 21 = .ok (.ireturn, 1) := by decide +kernel
set_option maxRecDepth 20000 in
theorem ggX2_failureOfRow_X2_failureAs : GoodIn wsX2_failureOfRow wsX2_failureAs := goodIn_r _ [5, 6, 7, 8, 9, 10, 11, 12, 13, 14, 15, 16, 17] (by decide +kernel) (by decide +kernel)
set_option maxRecDepth 20000 in
theorem gX2_failureOfRow_X2_failureAs : GoodIn wsX2_failureOfRow (va_wsS RX2 61 yX2_failureAs wsX2_failureAs) := goodIn_app (goodIn_of _ (by decide +kernel)) ggX2_failureOfRow_X2_failureAs
theorem dX2_failureOfRow_0 : decode cX2_failureOfRow 0 = .ok (.aload_n 0, 1) := by decide +kernel
theorem dX2_failureOfRow_1 : decode cX2_failureOfRow 1 = .ok (.iconst 0, 1) := by decide +kernel
theorem dX2_failureOfRow_2 : decode cX2_failureOfRow 2 = .ok (.invokestatic 61, 3) := by decide +kernel
theorem dX2_failureOfRow_5 : decode cX2_failureOfRow 5 = .ok (.istore_n 1, 1) := by decide +kernel
theorem dX2_failureOfRow_6 : decode cX2_failureOfRow 6 = .ok (.iload_n 1, 1) := by decide +kernel
theorem dX2_failureOfRow_7 : decode cX2_failureOfRow 7 = .ok (.ifCond .eq 5, 3) := by decide +kernel
theorem dX2_failureOfRow_10 : decode cX2_failureOfRow 10 = .ok (.iload_n 1, 1) := by decide +kernel
theorem dX2_failureOfRow_11 : decode cX2_failureOfRow 11 = .ok (.ireturn, 1) := by decide +kernel
theorem dX2_failureOfRow_12 : decode cX2_failureOfRow 12 = .ok (.aload_n 0, 1) := by decide +kernel
theorem dX2_failureOfRow_13 : decode cX2_failureOfRow 13 = .ok (.getfield 91, 3) := by decide +kernel
theorem dX2_failureOfRow_16 : decode cX2_failureOfRow 16 = .ok (.ifnonnull 8, 3) := by decide +kernel
theorem dX2_failureOfRow_19 : decode cX2_failureOfRow 19 = .ok (.bipush (-11), 2) := by decide +kernel
theorem dX2_failureOfRow_21 : decode cX2_failureOfRow 21 = .ok (.goto 4, 3) := by decide +kernel
theorem dX2_failureOfRow_24 : decode cX2_failureOfRow 24 = .ok (.iconst 0, 1) := by decide +kernel
theorem dX2_failureOfRow_25 : decode cX2_failureOfRow 25 = .ok (.ireturn, 1) := by decide +kernel
set_option maxRecDepth 20000 in
theorem ggX2_thrown_X2_failureAs : GoodIn wsX2_thrown wsX2_failureAs := goodIn_r _ [5, 6, 7, 8, 9, 10, 11, 12, 13, 14, 15, 16, 17] (by decide +kernel) (by decide +kernel)
set_option maxRecDepth 20000 in
theorem gX2_thrown_X2_failureAs : GoodIn wsX2_thrown (va_wsS RX2 61 yX2_failureAs wsX2_failureAs) := goodIn_app (goodIn_of _ (by decide +kernel)) ggX2_thrown_X2_failureAs
theorem dX2_thrown_0 : decode cX2_thrown 0 = .ok (.aload_n 0, 1) := by decide +kernel
theorem dX2_thrown_1 : decode cX2_thrown 1 = .ok (.iconst 4, 1) := by decide +kernel
theorem dX2_thrown_2 : decode cX2_thrown 2 = .ok (.invokestatic 61, 3) := by decide +kernel
theorem dX2_thrown_5 : decode cX2_thrown 5 = .ok (.istore_n 1, 1) := by decide +kernel
theorem dX2_thrown_6 : decode cX2_thrown 6 = .ok (.iload_n 1, 1) := by decide +kernel
theorem dX2_thrown_7 : decode cX2_thrown 7 = .ok (.ifCond .eq 7, 3) := by decide +kernel
theorem dX2_thrown_10 : decode cX2_thrown 10 = .ok (.iload_n 1, 1) := by decide +kernel
theorem dX2_thrown_11 : decode cX2_thrown 11 = .ok (.goto 11, 3) := by decide +kernel
theorem dX2_thrown_14 : decode cX2_thrown 14 = .ok (.aload_n 0, 1) := by decide +kernel
theorem dX2_thrown_15 : decode cX2_thrown 15 = .ok (.getfield 65, 3) := by decide +kernel
theorem dX2_thrown_18 : decode cX2_thrown 18 = .ok (.bipush 16, 2) := by decide +kernel
theorem dX2_thrown_20 : decode cX2_thrown 20 = .ok (.laload, 1) := by decide +kernel
theorem dX2_thrown_21 : decode cX2_thrown 21 = .ok (.l2i, 1) := by decide +kernel
theorem dX2_thrown_22 : decode cX2_thrown 22 = .ok (.ireturn, 1) := by decide +kernel
set_option maxRecDepth 20000 in
theorem ggX2_asTold_X2_floatAsTold : GoodIn wsX2_asTold wsX2_floatAsTold := goodIn_r _ [5, 6, 7, 8] (by decide +kernel) (by decide +kernel)
set_option maxRecDepth 20000 in
theorem gX2_asTold_X2_floatAsTold : GoodIn wsX2_asTold (va_wsS RX2 164 yX2_floatAsTold wsX2_floatAsTold) := goodIn_app (goodIn_of _ (by decide +kernel)) ggX2_asTold_X2_floatAsTold
set_option maxRecDepth 20000 in
theorem ggX2_asTold_X2_doubleAsTold : GoodIn wsX2_asTold wsX2_doubleAsTold := goodIn_r _ [11, 12, 13, 14] (by decide +kernel) (by decide +kernel)
set_option maxRecDepth 20000 in
theorem gX2_asTold_X2_doubleAsTold : GoodIn wsX2_asTold (va_wsS RX2 167 yX2_doubleAsTold wsX2_doubleAsTold) := goodIn_app (goodIn_of _ (by decide +kernel)) ggX2_asTold_X2_doubleAsTold
theorem dX2_asTold_0 : decode cX2_asTold 0 = .ok (.getstatic 161, 3) := by decide +kernel
theorem dX2_asTold_3 : decode cX2_asTold 3 = .ok (.iload_n 0, 1) := by decide +kernel
theorem dX2_asTold_4 : decode cX2_asTold 4 = .ok (.iaload, 1) := by decide +kernel
theorem dX2_asTold_5 : decode cX2_asTold 5 = .ok (.tableswitch 82 0 7 #[47, 51, 56, 61, 66, 82, 70, 77], 47) := by decide +kernel
theorem dX2_asTold_52 : decode cX2_asTold 52 = .ok (.lload_n 1, 1) := by decide +kernel
theorem dX2_asTold_53 : decode cX2_asTold 53 = .ok (.lconst 1, 1) := by decide +kernel
theorem dX2_asTold_54 : decode cX2_asTold 54 = .ok (.land, 1) := by decide +kernel
theorem dX2_asTold_55 : decode cX2_asTold 55 = .ok (.lreturn, 1) := by decide +kernel
theorem dX2_asTold_56 : decode cX2_asTold 56 = .ok (.lload_n 1, 1) := by decide +kernel
theorem dX2_asTold_57 : decode cX2_asTold 57 = .ok (.l2i, 1) := by decide +kernel
theorem dX2_asTold_58 : decode cX2_asTold 58 = .ok (.i2b, 1) := by decide +kernel
theorem dX2_asTold_59 : decode cX2_asTold 59 = .ok (.i2l, 1) := by decide +kernel
theorem dX2_asTold_60 : decode cX2_asTold 60 = .ok (.lreturn, 1) := by decide +kernel
theorem dX2_asTold_61 : decode cX2_asTold 61 = .ok (.lload_n 1, 1) := by decide +kernel
theorem dX2_asTold_62 : decode cX2_asTold 62 = .ok (.l2i, 1) := by decide +kernel
theorem dX2_asTold_63 : decode cX2_asTold 63 = .ok (.i2s, 1) := by decide +kernel
theorem dX2_asTold_64 : decode cX2_asTold 64 = .ok (.i2l, 1) := by decide +kernel
theorem dX2_asTold_65 : decode cX2_asTold 65 = .ok (.lreturn, 1) := by decide +kernel
theorem dX2_asTold_66 : decode cX2_asTold 66 = .ok (.lload_n 1, 1) := by decide +kernel
theorem dX2_asTold_67 : decode cX2_asTold 67 = .ok (.l2i, 1) := by decide +kernel
theorem dX2_asTold_68 : decode cX2_asTold 68 = .ok (.i2c, 1) := by decide +kernel
theorem dX2_asTold_69 : decode cX2_asTold 69 = .ok (.i2l, 1) := by decide +kernel
theorem dX2_asTold_70 : decode cX2_asTold 70 = .ok (.lreturn, 1) := by decide +kernel
theorem dX2_asTold_71 : decode cX2_asTold 71 = .ok (.lload_n 1, 1) := by decide +kernel
theorem dX2_asTold_72 : decode cX2_asTold 72 = .ok (.l2i, 1) := by decide +kernel
theorem dX2_asTold_73 : decode cX2_asTold 73 = .ok (.i2l, 1) := by decide +kernel
theorem dX2_asTold_74 : decode cX2_asTold 74 = .ok (.lreturn, 1) := by decide +kernel
theorem dX2_asTold_75 : decode cX2_asTold 75 = .ok (.lload_n 1, 1) := by decide +kernel
theorem dX2_asTold_76 : decode cX2_asTold 76 = .ok (.l2i, 1) := by decide +kernel
theorem dX2_asTold_77 : decode cX2_asTold 77 = .ok (.invokestatic 164, 3) := by decide +kernel
theorem dX2_asTold_80 : decode cX2_asTold 80 = .ok (.i2l, 1) := by decide +kernel
theorem dX2_asTold_81 : decode cX2_asTold 81 = .ok (.lreturn, 1) := by decide +kernel
theorem dX2_asTold_82 : decode cX2_asTold 82 = .ok (.lload_n 1, 1) := by decide +kernel
theorem dX2_asTold_83 : decode cX2_asTold 83 = .ok (.invokestatic 167, 3) := by decide +kernel
theorem dX2_asTold_86 : decode cX2_asTold 86 = .ok (.lreturn, 1) := by decide +kernel
theorem dX2_asTold_87 : decode cX2_asTold 87 = .ok (.lload_n 1, 1) := by decide +kernel
theorem dX2_asTold_88 : decode cX2_asTold 88 = .ok (.lreturn, 1) := by decide +kernel
theorem dX2_floatAsTold_0 : decode cX2_floatAsTold 0 = .ok (.iload_n 0, 1) := by decide +kernel
theorem dX2_floatAsTold_1 : decode cX2_floatAsTold 1 = .ok (.ldc 171, 2) := by decide +kernel
theorem dX2_floatAsTold_3 : decode cX2_floatAsTold 3 = .ok (.iand, 1) := by decide +kernel
theorem dX2_floatAsTold_4 : decode cX2_floatAsTold 4 = .ok (.ldc 172, 2) := by decide +kernel
theorem dX2_floatAsTold_6 : decode cX2_floatAsTold 6 = .ok (.if_icmp .le 8, 3) := by decide +kernel
theorem dX2_floatAsTold_9 : decode cX2_floatAsTold 9 = .ok (.ldc 173, 2) := by decide +kernel
theorem dX2_floatAsTold_11 : decode cX2_floatAsTold 11 = .ok (.goto 4, 3) := by decide +kernel
theorem dX2_floatAsTold_14 : decode cX2_floatAsTold 14 = .ok (.iload_n 0, 1) := by decide +kernel
theorem dX2_floatAsTold_15 : decode cX2_floatAsTold 15 = .ok (.ireturn, 1) := by decide +kernel
theorem dX2_doubleAsTold_0 : decode cX2_doubleAsTold 0 = .ok (.lload_n 0, 1) := by decide +kernel
theorem dX2_doubleAsTold_1 : decode cX2_doubleAsTold 1 = .ok (.ldc2_w 174, 3) := by decide +kernel
theorem dX2_doubleAsTold_4 : decode cX2_doubleAsTold 4 = .ok (.land, 1) := by decide +kernel
theorem dX2_doubleAsTold_5 : decode cX2_doubleAsTold 5 = .ok (.ldc2_w 176, 3) := by decide +kernel
theorem dX2_doubleAsTold_8 : decode cX2_doubleAsTold 8 = .ok (.lcmp, 1) := by decide +kernel
theorem dX2_doubleAsTold_9 : decode cX2_doubleAsTold 9 = .ok (.ifCond .le 9, 3) := by decide +kernel
theorem dX2_doubleAsTold_12 : decode cX2_doubleAsTold 12 = .ok (.ldc2_w 178, 3) := by decide +kernel
theorem dX2_doubleAsTold_15 : decode cX2_doubleAsTold 15 = .ok (.goto 4, 3) := by decide +kernel
theorem dX2_doubleAsTold_18 : decode cX2_doubleAsTold 18 = .ok (.lload_n 0, 1) := by decide +kernel
theorem dX2_doubleAsTold_19 : decode cX2_doubleAsTold 19 = .ok (.lreturn, 1) := by decide +kernel
set_option maxRecDepth 20000 in
theorem ggX2_differ_X1_held : GoodIn wsX2_differ wsX1_held := goodIn_r _ [8, 9, 10, 11, 16, 17, 18, 19, 20, 21] (by decide +kernel) (by decide +kernel)
set_option maxRecDepth 20000 in
theorem gX2_differ_X1_held : GoodIn wsX2_differ (wsV RX2 87 RX1 yX1_held wsX1_held) := goodIn_app (goodIn_of _ (by decide +kernel)) ggX2_differ_X1_held
set_option maxRecDepth 20000 in
theorem ggX2_differ_X2_differInInts : GoodIn wsX2_differ wsX2_differInInts := goodIn_r _ [15] (by decide +kernel) (by decide +kernel)
set_option maxRecDepth 20000 in
theorem gX2_differ_X2_differInInts : GoodIn wsX2_differ (va_wsS RX2 180 yX2_differInInts wsX2_differInInts) := goodIn_app (goodIn_of _ (by decide +kernel)) ggX2_differ_X2_differInInts
end
section
theorem dX2_differ_0 : decode cX2_differ 0 = .ok (.getstatic 161, 3) := by decide +kernel
theorem dX2_differ_3 : decode cX2_differ 3 = .ok (.iload_n 2, 1) := by decide +kernel
theorem dX2_differ_4 : decode cX2_differ 4 = .ok (.iaload, 1) := by decide +kernel
theorem dX2_differ_5 : decode cX2_differ 5 = .ok (.bipush 8, 2) := by decide +kernel
theorem dX2_differ_7 : decode cX2_differ 7 = .ok (.if_icmp .ne 22, 3) := by decide +kernel
theorem dX2_differ_10 : decode cX2_differ 10 = .ok (.aload_n 0, 1) := by decide +kernel
theorem dX2_differ_11 : decode cX2_differ 11 = .ok (.iload_n 2, 1) := by decide +kernel
theorem dX2_differ_12 : decode cX2_differ 12 = .ok (.invokevirtual 87, 3) := by decide +kernel
theorem dX2_differ_15 : decode cX2_differ 15 = .ok (.aload_n 1, 1) := by decide +kernel
theorem dX2_differ_16 : decode cX2_differ 16 = .ok (.iload_n 2, 1) := by decide +kernel
theorem dX2_differ_17 : decode cX2_differ 17 = .ok (.invokevirtual 87, 3) := by decide +kernel
theorem dX2_differ_20 : decode cX2_differ 20 = .ok (.if_acmp .eq 7, 3) := by decide +kernel
theorem dX2_differ_23 : decode cX2_differ 23 = .ok (.iconst 1, 1) := by decide +kernel
theorem dX2_differ_24 : decode cX2_differ 24 = .ok (.goto 4, 3) := by decide +kernel
theorem dX2_differ_27 : decode cX2_differ 27 = .ok (.iconst 0, 1) := by decide +kernel
theorem dX2_differ_28 : decode cX2_differ 28 = .ok (.ireturn, 1) := by decide +kernel
theorem dX2_differ_29 : decode cX2_differ 29 = .ok (.getstatic 161, 3) := by decide +kernel
theorem dX2_differ_32 : decode cX2_differ 32 = .ok (.iload_n 2, 1) := by decide +kernel
theorem dX2_differ_33 : decode cX2_differ 33 = .ok (.iaload, 1) := by decide +kernel
theorem dX2_differ_34 : decode cX2_differ 34 = .ok (.bipush 9, 2) := by decide +kernel
theorem dX2_differ_36 : decode cX2_differ 36 = .ok (.if_icmp .ne 15, 3) := by decide +kernel
theorem dX2_differ_39 : decode cX2_differ 39 = .ok (.aload_n 0, 1) := by decide +kernel
theorem dX2_differ_40 : decode cX2_differ 40 = .ok (.getfield 91, 3) := by decide +kernel
theorem dX2_differ_43 : decode cX2_differ 43 = .ok (.aload_n 1, 1) := by decide +kernel
theorem dX2_differ_44 : decode cX2_differ 44 = .ok (.getfield 91, 3) := by decide +kernel
theorem dX2_differ_47 : decode cX2_differ 47 = .ok (.invokestatic 180, 3) := by decide +kernel
theorem dX2_differ_50 : decode cX2_differ 50 = .ok (.ireturn, 1) := by decide +kernel
theorem dX2_differ_51 : decode cX2_differ 51 = .ok (.aload_n 0, 1) := by decide +kernel
theorem dX2_differ_52 : decode cX2_differ 52 = .ok (.getfield 65, 3) := by decide +kernel
theorem dX2_differ_55 : decode cX2_differ 55 = .ok (.iload_n 2, 1) := by decide +kernel
theorem dX2_differ_56 : decode cX2_differ 56 = .ok (.laload, 1) := by decide +kernel
theorem dX2_differ_57 : decode cX2_differ 57 = .ok (.aload_n 1, 1) := by decide +kernel
theorem dX2_differ_58 : decode cX2_differ 58 = .ok (.getfield 65, 3) := by decide +kernel
theorem dX2_differ_61 : decode cX2_differ 61 = .ok (.iload_n 2, 1) := by decide +kernel
theorem dX2_differ_62 : decode cX2_differ 62 = .ok (.laload, 1) := by decide +kernel
theorem dX2_differ_63 : decode cX2_differ 63 = .ok (.lcmp, 1) := by decide +kernel
theorem dX2_differ_64 : decode cX2_differ 64 = .ok (.ifCond .eq 7, 3) := by decide +kernel
theorem dX2_differ_67 : decode cX2_differ 67 = .ok (.iconst 1, 1) := by decide +kernel
theorem dX2_differ_68 : decode cX2_differ 68 = .ok (.goto 4, 3) := by decide +kernel
theorem dX2_differ_71 : decode cX2_differ 71 = .ok (.iconst 0, 1) := by decide +kernel
theorem dX2_differ_72 : decode cX2_differ 72 = .ok (.ireturn, 1) := by decide +kernel
theorem dX2_differInInts_0 : decode cX2_differInInts 0 = .ok (.aload_n 0, 1) := by decide +kernel
theorem dX2_differInInts_1 : decode cX2_differInInts 1 = .ok (.ifnull 7, 3) := by decide +kernel
theorem dX2_differInInts_4 : decode cX2_differInInts 4 = .ok (.aload_n 1, 1) := by decide +kernel
theorem dX2_differInInts_5 : decode cX2_differInInts 5 = .ok (.ifnonnull 17, 3) := by decide +kernel
theorem dX2_differInInts_8 : decode cX2_differInInts 8 = .ok (.aload_n 0, 1) := by decide +kernel
theorem dX2_differInInts_9 : decode cX2_differInInts 9 = .ok (.ifnonnull 7, 3) := by decide +kernel
theorem dX2_differInInts_12 : decode cX2_differInInts 12 = .ok (.aload_n 1, 1) := by decide +kernel
theorem dX2_differInInts_13 : decode cX2_differInInts 13 = .ok (.ifnull 7, 3) := by decide +kernel
theorem dX2_differInInts_16 : decode cX2_differInInts 16 = .ok (.iconst 1, 1) := by decide +kernel
theorem dX2_differInInts_17 : decode cX2_differInInts 17 = .ok (.goto 4, 3) := by decide +kernel
theorem dX2_differInInts_20 : decode cX2_differInInts 20 = .ok (.iconst 0, 1) := by decide +kernel
theorem dX2_differInInts_21 : decode cX2_differInInts 21 = .ok (.ireturn, 1) := by decide +kernel
theorem dX2_differInInts_22 : decode cX2_differInInts 22 = .ok (.aload_n 0, 1) := by decide +kernel
theorem dX2_differInInts_23 : decode cX2_differInInts 23 = .ok (.arraylength, 1) := by decide +kernel
theorem dX2_differInInts_24 : decode cX2_differInInts 24 = .ok (.aload_n 1, 1) := by decide +kernel
theorem dX2_differInInts_25 : decode cX2_differInInts 25 = .ok (.arraylength, 1) := by decide +kernel
theorem dX2_differInInts_26 : decode cX2_differInInts 26 = .ok (.if_icmp .eq 5, 3) := by decide +kernel
theorem dX2_differInInts_29 : decode cX2_differInInts 29 = .ok (.iconst 1, 1) := by decide +kernel
theorem dX2_differInInts_30 : decode cX2_differInInts 30 = .ok (.ireturn, 1) := by decide +kernel
theorem dX2_differInInts_31 : decode cX2_differInInts 31 = .ok (.iconst 0, 1) := by decide +kernel
theorem dX2_differInInts_32 : decode cX2_differInInts 32 = .ok (.istore_n 2, 1) := by decide +kernel
theorem dX2_differInInts_33 : decode cX2_differInInts 33 = .ok (.iload_n 2, 1) := by decide +kernel
theorem dX2_differInInts_34 : decode cX2_differInInts 34 = .ok (.aload_n 0, 1) := by decide +kernel
theorem dX2_differInInts_35 : decode cX2_differInInts 35 = .ok (.arraylength, 1) := by decide +kernel
theorem dX2_differInInts_36 : decode cX2_differInInts 36 = .ok (.if_icmp .ge 20, 3) := by decide +kernel
theorem dX2_differInInts_39 : decode cX2_differInInts 39 = .ok (.aload_n 0, 1) := by decide +kernel
theorem dX2_differInInts_40 : decode cX2_differInInts 40 = .ok (.iload_n 2, 1) := by decide +kernel
theorem dX2_differInInts_41 : decode cX2_differInInts 41 = .ok (.iaload, 1) := by decide +kernel
theorem dX2_differInInts_42 : decode cX2_differInInts 42 = .ok (.aload_n 1, 1) := by decide +kernel
theorem dX2_differInInts_43 : decode cX2_differInInts 43 = .ok (.iload_n 2, 1) := by decide +kernel
theorem dX2_differInInts_44 : decode cX2_differInInts 44 = .ok (.iaload, 1) := by decide +kernel
theorem dX2_differInInts_45 : decode cX2_differInInts 45 = .ok (.if_icmp .eq 5, 3) := by decide +kernel
theorem dX2_differInInts_48 : decode cX2_differInInts 48 = .ok (.iconst 1, 1) := by decide +kernel
theorem dX2_differInInts_49 : decode cX2_differInInts 49 = .ok (.ireturn, 1) := by decide +kernel
theorem dX2_differInInts_50 : decode cX2_differInInts 50 = .ok (.iinc 2 1, 3) := by decide +kernel
theorem dX2_differInInts_53 : decode cX2_differInInts 53 = .ok (.goto (-20), 3) := by decide +kernel
theorem dX2_differInInts_56 : decode cX2_differInInts 56 = .ok (.iconst 0, 1) := by decide +kernel
theorem dX2_differInInts_57 : decode cX2_differInInts 57 = .ok (.ireturn, 1) := by decide +kernel
set_option maxRecDepth 20000 in
theorem ggX2_tell_X2_findFrom : GoodIn wsX2_tell wsX2_findFrom := goodIn_r _ [7, 8, 2, 9, 10, 11, 12, 13, 14, 6, 15, 16, 17, 18, 19, 56, 57, 58, 59, 60, 61, 62, 63, 64, 65, 66, 67, 68, 69, 70] (by decide +kernel) (by decide +kernel)
set_option maxRecDepth 20000 in
theorem gX2_tell_X2_findFrom : GoodIn wsX2_tell (wsV RX2 184 RX2 yX2_findFrom wsX2_findFrom) := goodIn_app (goodIn_of _ (by decide +kernel)) ggX2_tell_X2_findFrom
set_option maxRecDepth 20000 in
theorem ggX2_tell_X2_tellObject : GoodIn wsX2_tell wsX2_tellObject := goodIn_r _ [23, 8, 24, 25, 26, 27, 28, 29, 30, 31, 32, 33, 34, 35, 36, 6, 37, 38, 39, 40, 41, 42, 43, 44, 45, 46, 47, 48, 16, 17, 18, 19, 2, 49, 50, 51, 56, 57, 58, 59, 60, 61, 62, 63, 64, 65, 66, 67, 68, 69, 70, 52, 53, 54, 55] (by decide +kernel) (by decide +kernel)
set_option maxRecDepth 20000 in
theorem gX2_tell_X2_tellObject : GoodIn wsX2_tell (wsV RX2 191 RX2 yX2_tellObject wsX2_tellObject) := goodIn_app (goodIn_of _ (by decide +kernel)) ggX2_tell_X2_tellObject
theorem dX2_tell_0 : decode cX2_tell 0 = .ok (.aload_n 2, 1) := by decide +kernel
theorem dX2_tell_1 : decode cX2_tell 1 = .ok (.iconst 0, 1) := by decide +kernel
theorem dX2_tell_2 : decode cX2_tell 2 = .ok (.putfield 128, 3) := by decide +kernel
theorem dX2_tell_5 : decode cX2_tell 5 = .ok (.aload_n 0, 1) := by decide +kernel
theorem dX2_tell_6 : decode cX2_tell 6 = .ok (.aload_n 1, 1) := by decide +kernel
theorem dX2_tell_7 : decode cX2_tell 7 = .ok (.invokevirtual 184, 3) := by decide +kernel
theorem dX2_tell_10 : decode cX2_tell 10 = .ok (.ifCond .ne 5, 3) := by decide +kernel
theorem dX2_tell_13 : decode cX2_tell 13 = .ok (.iconst 0, 1) := by decide +kernel
theorem dX2_tell_14 : decode cX2_tell 14 = .ok (.ireturn, 1) := by decide +kernel
theorem dX2_tell_15 : decode cX2_tell 15 = .ok (.iconst 0, 1) := by decide +kernel
theorem dX2_tell_16 : decode cX2_tell 16 = .ok (.istore_n 3, 1) := by decide +kernel
theorem dX2_tell_17 : decode cX2_tell 17 = .ok (.iload_n 3, 1) := by decide +kernel
theorem dX2_tell_18 : decode cX2_tell 18 = .ok (.aload_n 0, 1) := by decide +kernel
theorem dX2_tell_19 : decode cX2_tell 19 = .ok (.getfield 188, 3) := by decide +kernel
theorem dX2_tell_22 : decode cX2_tell 22 = .ok (.if_icmp .ge 20, 3) := by decide +kernel
theorem dX2_tell_25 : decode cX2_tell 25 = .ok (.aload_n 0, 1) := by decide +kernel
theorem dX2_tell_26 : decode cX2_tell 26 = .ok (.iload_n 3, 1) := by decide +kernel
theorem dX2_tell_27 : decode cX2_tell 27 = .ok (.aload_n 2, 1) := by decide +kernel
theorem dX2_tell_28 : decode cX2_tell 28 = .ok (.invokevirtual 191, 3) := by decide +kernel
theorem dX2_tell_31 : decode cX2_tell 31 = .ok (.ifCond .ne 5, 3) := by decide +kernel
theorem dX2_tell_34 : decode cX2_tell 34 = .ok (.iconst 0, 1) := by decide +kernel
theorem dX2_tell_35 : decode cX2_tell 35 = .ok (.ireturn, 1) := by decide +kernel
theorem dX2_tell_36 : decode cX2_tell 36 = .ok (.iinc 3 1, 3) := by decide +kernel
theorem dX2_tell_39 : decode cX2_tell 39 = .ok (.goto (-22), 3) := by decide +kernel
theorem dX2_tell_42 : decode cX2_tell 42 = .ok (.iconst 1, 1) := by decide +kernel
theorem dX2_tell_43 : decode cX2_tell 43 = .ok (.ireturn, 1) := by decide +kernel
set_option maxRecDepth 20000 in
theorem ggX2_findFrom_X2_addFound : GoodIn wsX2_findFrom wsX2_addFound := goodIn_r _ [10, 2, 1, 11, 12, 13, 9, 14, 15, 16, 17, 18, 19, 20, 21, 22, 23] (by decide +kernel) (by decide +kernel)
set_option maxRecDepth 20000 in
theorem gX2_findFrom_X2_addFound : GoodIn wsX2_findFrom (wsV RX2 195 RX2 yX2_addFound wsX2_addFound) := goodIn_app (goodIn_of _ (by decide +kernel)) ggX2_findFrom_X2_addFound
theorem dX2_findFrom_0 : decode cX2_findFrom 0 = .ok (.aload_n 0, 1) := by decide +kernel
theorem dX2_findFrom_1 : decode cX2_findFrom 1 = .ok (.getfield 28, 3) := by decide +kernel
theorem dX2_findFrom_4 : decode cX2_findFrom 4 = .ok (.iconst 0, 1) := by decide +kernel
theorem dX2_findFrom_5 : decode cX2_findFrom 5 = .ok (.aload_n 1, 1) := by decide +kernel
theorem dX2_findFrom_6 : decode cX2_findFrom 6 = .ok (.aastore, 1) := by decide +kernel
theorem dX2_findFrom_7 : decode cX2_findFrom 7 = .ok (.aload_n 0, 1) := by decide +kernel
theorem dX2_findFrom_8 : decode cX2_findFrom 8 = .ok (.iconst 1, 1) := by decide +kernel
theorem dX2_findFrom_9 : decode cX2_findFrom 9 = .ok (.putfield 188, 3) := by decide +kernel
theorem dX2_findFrom_12 : decode cX2_findFrom 12 = .ok (.iconst 0, 1) := by decide +kernel
theorem dX2_findFrom_13 : decode cX2_findFrom 13 = .ok (.istore_n 2, 1) := by decide +kernel
theorem dX2_findFrom_14 : decode cX2_findFrom 14 = .ok (.iload_n 2, 1) := by decide +kernel
theorem dX2_findFrom_15 : decode cX2_findFrom 15 = .ok (.aload_n 0, 1) := by decide +kernel
theorem dX2_findFrom_16 : decode cX2_findFrom 16 = .ok (.getfield 188, 3) := by decide +kernel
theorem dX2_findFrom_19 : decode cX2_findFrom 19 = .ok (.if_icmp .ge 57, 3) := by decide +kernel
theorem dX2_findFrom_22 : decode cX2_findFrom 22 = .ok (.iload_n 2, 1) := by decide +kernel
theorem dX2_findFrom_23 : decode cX2_findFrom 23 = .ok (.bipush 24, 2) := by decide +kernel
theorem dX2_findFrom_25 : decode cX2_findFrom 25 = .ok (.if_icmp .ge 51, 3) := by decide +kernel
theorem dX2_findFrom_28 : decode cX2_findFrom 28 = .ok (.aload_n 0, 1) := by decide +kernel
theorem dX2_findFrom_29 : decode cX2_findFrom 29 = .ok (.getfield 28, 3) := by decide +kernel
theorem dX2_findFrom_32 : decode cX2_findFrom 32 = .ok (.iload_n 2, 1) := by decide +kernel
theorem dX2_findFrom_33 : decode cX2_findFrom 33 = .ok (.aaload, 1) := by decide +kernel
theorem dX2_findFrom_34 : decode cX2_findFrom 34 = .ok (.astore_n 3, 1) := by decide +kernel
theorem dX2_findFrom_35 : decode cX2_findFrom 35 = .ok (.aload_n 0, 1) := by decide +kernel
theorem dX2_findFrom_36 : decode cX2_findFrom 36 = .ok (.aload_n 3, 1) := by decide +kernel
theorem dX2_findFrom_37 : decode cX2_findFrom 37 = .ok (.getfield 114, 3) := by decide +kernel
theorem dX2_findFrom_40 : decode cX2_findFrom 40 = .ok (.invokevirtual 195, 3) := by decide +kernel
theorem dX2_findFrom_43 : decode cX2_findFrom 43 = .ok (.ifCond .eq 25, 3) := by decide +kernel
theorem dX2_findFrom_46 : decode cX2_findFrom 46 = .ok (.aload_n 0, 1) := by decide +kernel
theorem dX2_findFrom_47 : decode cX2_findFrom 47 = .ok (.aload_n 3, 1) := by decide +kernel
theorem dX2_findFrom_48 : decode cX2_findFrom 48 = .ok (.getfield 198, 3) := by decide +kernel
theorem dX2_findFrom_51 : decode cX2_findFrom 51 = .ok (.invokevirtual 195, 3) := by decide +kernel
theorem dX2_findFrom_54 : decode cX2_findFrom 54 = .ok (.ifCond .eq 14, 3) := by decide +kernel
theorem dX2_findFrom_57 : decode cX2_findFrom 57 = .ok (.aload_n 0, 1) := by decide +kernel
theorem dX2_findFrom_58 : decode cX2_findFrom 58 = .ok (.aload_n 3, 1) := by decide +kernel
theorem dX2_findFrom_59 : decode cX2_findFrom 59 = .ok (.getfield 201, 3) := by decide +kernel
theorem dX2_findFrom_62 : decode cX2_findFrom 62 = .ok (.invokevirtual 195, 3) := by decide +kernel
theorem dX2_findFrom_65 : decode cX2_findFrom 65 = .ok (.ifCond .ne 5, 3) := by decide +kernel
theorem dX2_findFrom_68 : decode cX2_findFrom 68 = .ok (.iconst 0, 1) := by decide +kernel
theorem dX2_findFrom_69 : decode cX2_findFrom 69 = .ok (.ireturn, 1) := by decide +kernel
theorem dX2_findFrom_70 : decode cX2_findFrom 70 = .ok (.iinc 2 1, 3) := by decide +kernel
theorem dX2_findFrom_73 : decode cX2_findFrom 73 = .ok (.goto (-59), 3) := by decide +kernel
theorem dX2_findFrom_76 : decode cX2_findFrom 76 = .ok (.iconst 1, 1) := by decide +kernel
theorem dX2_findFrom_77 : decode cX2_findFrom 77 = .ok (.ireturn, 1) := by decide +kernel
set_option maxRecDepth 20000 in
theorem ggX2_addFound_X2_numberOf : GoodIn wsX2_addFound wsX2_numberOf := goodIn_r _ [7, 1, 2, 8, 9, 10, 11, 12, 13, 14, 15, 16] (by decide +kernel) (by decide +kernel)
set_option maxRecDepth 20000 in
theorem gX2_addFound_X2_numberOf : GoodIn wsX2_addFound (wsV RX2 204 RX2 yX2_numberOf wsX2_numberOf) := goodIn_app (goodIn_of _ (by decide +kernel)) ggX2_addFound_X2_numberOf
theorem dX2_addFound_0 : decode cX2_addFound 0 = .ok (.aload_n 1, 1) := by decide +kernel
theorem dX2_addFound_1 : decode cX2_addFound 1 = .ok (.ifnull 11, 3) := by decide +kernel
theorem dX2_addFound_4 : decode cX2_addFound 4 = .ok (.aload_n 0, 1) := by decide +kernel
theorem dX2_addFound_5 : decode cX2_addFound 5 = .ok (.aload_n 1, 1) := by decide +kernel
theorem dX2_addFound_6 : decode cX2_addFound 6 = .ok (.invokevirtual 204, 3) := by decide +kernel
theorem dX2_addFound_9 : decode cX2_addFound 9 = .ok (.ifCond .lt 5, 3) := by decide +kernel
theorem dX2_addFound_12 : decode cX2_addFound 12 = .ok (.iconst 1, 1) := by decide +kernel
theorem dX2_addFound_13 : decode cX2_addFound 13 = .ok (.ireturn, 1) := by decide +kernel
theorem dX2_addFound_14 : decode cX2_addFound 14 = .ok (.aload_n 0, 1) := by decide +kernel
theorem dX2_addFound_15 : decode cX2_addFound 15 = .ok (.getfield 188, 3) := by decide +kernel
theorem dX2_addFound_18 : decode cX2_addFound 18 = .ok (.bipush 24, 2) := by decide +kernel
theorem dX2_addFound_20 : decode cX2_addFound 20 = .ok (.if_icmp .lt 5, 3) := by decide +kernel
theorem dX2_addFound_23 : decode cX2_addFound 23 = .ok (.iconst 0, 1) := by decide +kernel
theorem dX2_addFound_24 : decode cX2_addFound 24 = .ok (.ireturn, 1) := by decide +kernel
theorem dX2_addFound_25 : decode cX2_addFound 25 = .ok (.aload_n 0, 1) := by decide +kernel
theorem dX2_addFound_26 : decode cX2_addFound 26 = .ok (.getfield 28, 3) := by decide +kernel
theorem dX2_addFound_29 : decode cX2_addFound 29 = .ok (.aload_n 0, 1) := by decide +kernel
theorem dX2_addFound_30 : decode cX2_addFound 30 = .ok (.getfield 188, 3) := by decide +kernel
theorem dX2_addFound_33 : decode cX2_addFound 33 = .ok (.aload_n 1, 1) := by decide +kernel
theorem dX2_addFound_34 : decode cX2_addFound 34 = .ok (.aastore, 1) := by decide +kernel
theorem dX2_addFound_35 : decode cX2_addFound 35 = .ok (.aload_n 0, 1) := by decide +kernel
theorem dX2_addFound_36 : decode cX2_addFound 36 = .ok (.dup, 1) := by decide +kernel
theorem dX2_addFound_37 : decode cX2_addFound 37 = .ok (.getfield 188, 3) := by decide +kernel
theorem dX2_addFound_40 : decode cX2_addFound 40 = .ok (.iconst 1, 1) := by decide +kernel
theorem dX2_addFound_41 : decode cX2_addFound 41 = .ok (.iadd, 1) := by decide +kernel
theorem dX2_addFound_42 : decode cX2_addFound 42 = .ok (.putfield 188, 3) := by decide +kernel
theorem dX2_addFound_45 : decode cX2_addFound 45 = .ok (.iconst 1, 1) := by decide +kernel
theorem dX2_addFound_46 : decode cX2_addFound 46 = .ok (.ireturn, 1) := by decide +kernel
theorem dX2_numberOf_0 : decode cX2_numberOf 0 = .ok (.iconst 0, 1) := by decide +kernel
theorem dX2_numberOf_1 : decode cX2_numberOf 1 = .ok (.istore_n 2, 1) := by decide +kernel
theorem dX2_numberOf_2 : decode cX2_numberOf 2 = .ok (.iload_n 2, 1) := by decide +kernel
theorem dX2_numberOf_3 : decode cX2_numberOf 3 = .ok (.aload_n 0, 1) := by decide +kernel
theorem dX2_numberOf_4 : decode cX2_numberOf 4 = .ok (.getfield 188, 3) := by decide +kernel
theorem dX2_numberOf_7 : decode cX2_numberOf 7 = .ok (.if_icmp .ge 21, 3) := by decide +kernel
theorem dX2_numberOf_10 : decode cX2_numberOf 10 = .ok (.aload_n 0, 1) := by decide +kernel
theorem dX2_numberOf_11 : decode cX2_numberOf 11 = .ok (.getfield 28, 3) := by decide +kernel
theorem dX2_numberOf_14 : decode cX2_numberOf 14 = .ok (.iload_n 2, 1) := by decide +kernel
theorem dX2_numberOf_15 : decode cX2_numberOf 15 = .ok (.aaload, 1) := by decide +kernel
theorem dX2_numberOf_16 : decode cX2_numberOf 16 = .ok (.aload_n 1, 1) := by decide +kernel
theorem dX2_numberOf_17 : decode cX2_numberOf 17 = .ok (.if_acmp .ne 5, 3) := by decide +kernel
theorem dX2_numberOf_20 : decode cX2_numberOf 20 = .ok (.iload_n 2, 1) := by decide +kernel
theorem dX2_numberOf_21 : decode cX2_numberOf 21 = .ok (.ireturn, 1) := by decide +kernel
theorem dX2_numberOf_22 : decode cX2_numberOf 22 = .ok (.iinc 2 1, 3) := by decide +kernel
theorem dX2_numberOf_25 : decode cX2_numberOf 25 = .ok (.goto (-23), 3) := by decide +kernel
theorem dX2_numberOf_28 : decode cX2_numberOf 28 = .ok (.iconst (-1), 1) := by decide +kernel
theorem dX2_numberOf_29 : decode cX2_numberOf 29 = .ok (.ireturn, 1) := by decide +kernel
set_option maxRecDepth 20000 in
theorem ggX2_tellObject_X0_add : GoodIn wsX2_tellObject wsX0_add := goodIn_r _ [7, 8, 9, 10, 11, 51, 52, 53, 54] (by decide +kernel) (by decide +kernel)
set_option maxRecDepth 20000 in
theorem gX2_tellObject_X0_add : GoodIn wsX2_tellObject (wsV RX2 207 RX0 yX0_add wsX0_add) := goodIn_app (goodIn_of _ (by decide +kernel)) ggX2_tellObject_X0_add
set_option maxRecDepth 20000 in
theorem ggX2_tellObject_X2_tellField : GoodIn wsX2_tellObject wsX2_tellField := goodIn_r _ [16, 1, 17, 18, 19, 20, 21, 22, 23, 24, 25, 26, 27, 28, 29, 30, 15, 31, 32, 3, 4, 5, 6, 7, 8, 9, 10, 11, 33, 34, 35, 36, 37, 38, 39, 40, 41, 42, 43, 44, 45, 46, 47, 48, 49, 50, 51, 52, 53, 54] (by decide +kernel) (by decide +kernel)
set_option maxRecDepth 20000 in
theorem gX2_tellObject_X2_tellField : GoodIn wsX2_tellObject (wsV RX2 211 RX2 yX2_tellField wsX2_tellField) := goodIn_app (goodIn_of _ (by decide +kernel)) ggX2_tellObject_X2_tellField
theorem dX2_tellObject_0 : decode cX2_tellObject 0 = .ok (.aload_n 0, 1) := by decide +kernel
theorem dX2_tellObject_1 : decode cX2_tellObject 1 = .ok (.getfield 28, 3) := by decide +kernel
theorem dX2_tellObject_4 : decode cX2_tellObject 4 = .ok (.iload_n 1, 1) := by decide +kernel
theorem dX2_tellObject_5 : decode cX2_tellObject 5 = .ok (.aaload, 1) := by decide +kernel
theorem dX2_tellObject_6 : decode cX2_tellObject 6 = .ok (.astore_n 3, 1) := by decide +kernel
theorem dX2_tellObject_7 : decode cX2_tellObject 7 = .ok (.aload_n 2, 1) := by decide +kernel
theorem dX2_tellObject_8 : decode cX2_tellObject 8 = .ok (.iload_n 1, 1) := by decide +kernel
theorem dX2_tellObject_9 : decode cX2_tellObject 9 = .ok (.iconst (-1), 1) := by decide +kernel
theorem dX2_tellObject_10 : decode cX2_tellObject 10 = .ok (.aload_n 3, 1) := by decide +kernel
theorem dX2_tellObject_11 : decode cX2_tellObject 11 = .ok (.getfield 45, 3) := by decide +kernel
theorem dX2_tellObject_14 : decode cX2_tellObject 14 = .ok (.i2l, 1) := by decide +kernel
theorem dX2_tellObject_15 : decode cX2_tellObject 15 = .ok (.invokevirtual 207, 3) := by decide +kernel
theorem dX2_tellObject_18 : decode cX2_tellObject 18 = .ok (.istore 4, 2) := by decide +kernel
theorem dX2_tellObject_20 : decode cX2_tellObject 20 = .ok (.iconst 0, 1) := by decide +kernel
theorem dX2_tellObject_21 : decode cX2_tellObject 21 = .ok (.istore 5, 2) := by decide +kernel
theorem dX2_tellObject_23 : decode cX2_tellObject 23 = .ok (.iload 5, 2) := by decide +kernel
theorem dX2_tellObject_25 : decode cX2_tellObject 25 = .ok (.bipush 17, 2) := by decide +kernel
theorem dX2_tellObject_27 : decode cX2_tellObject 27 = .ok (.if_icmp .ge 24, 3) := by decide +kernel
theorem dX2_tellObject_30 : decode cX2_tellObject 30 = .ok (.iload 4, 2) := by decide +kernel
theorem dX2_tellObject_32 : decode cX2_tellObject 32 = .ok (.ifCond .eq 19, 3) := by decide +kernel
theorem dX2_tellObject_35 : decode cX2_tellObject 35 = .ok (.aload_n 0, 1) := by decide +kernel
theorem dX2_tellObject_36 : decode cX2_tellObject 36 = .ok (.iload_n 1, 1) := by decide +kernel
theorem dX2_tellObject_37 : decode cX2_tellObject 37 = .ok (.iload 5, 2) := by decide +kernel
theorem dX2_tellObject_39 : decode cX2_tellObject 39 = .ok (.aload_n 2, 1) := by decide +kernel
theorem dX2_tellObject_40 : decode cX2_tellObject 40 = .ok (.invokevirtual 211, 3) := by decide +kernel
theorem dX2_tellObject_43 : decode cX2_tellObject 43 = .ok (.istore 4, 2) := by decide +kernel
theorem dX2_tellObject_45 : decode cX2_tellObject 45 = .ok (.iinc 5 1, 3) := by decide +kernel
theorem dX2_tellObject_48 : decode cX2_tellObject 48 = .ok (.goto (-25), 3) := by decide +kernel
theorem dX2_tellObject_51 : decode cX2_tellObject 51 = .ok (.iload 4, 2) := by decide +kernel
theorem dX2_tellObject_53 : decode cX2_tellObject 53 = .ok (.ireturn, 1) := by decide +kernel
set_option maxRecDepth 20000 in
theorem ggX2_tellField_X1_held : GoodIn wsX2_tellField wsX1_held := goodIn_r _ [9, 10, 11, 12, 40, 41, 42, 43, 44, 45] (by decide +kernel) (by decide +kernel)
set_option maxRecDepth 20000 in
theorem gX2_tellField_X1_held : GoodIn wsX2_tellField (wsV RX2 87 RX1 yX1_held wsX1_held) := goodIn_app (goodIn_of _ (by decide +kernel)) ggX2_tellField_X1_held
set_option maxRecDepth 20000 in
theorem ggX2_tellField_X2_numberOf : GoodIn wsX2_tellField wsX2_numberOf := goodIn_r _ [17, 18, 1, 31, 32, 33, 34, 35, 36, 37, 38, 39] (by decide +kernel) (by decide +kernel)
set_option maxRecDepth 20000 in
theorem gX2_tellField_X2_numberOf : GoodIn wsX2_tellField (wsV RX2 204 RX2 yX2_numberOf wsX2_numberOf) := goodIn_app (goodIn_of _ (by decide +kernel)) ggX2_tellField_X2_numberOf
set_option maxRecDepth 20000 in
theorem ggX2_tellField_X0_add : GoodIn wsX2_tellField wsX0_add := goodIn_r _ [23, 24, 25, 26, 27, 46, 47, 48, 49] (by decide +kernel) (by decide +kernel)
set_option maxRecDepth 20000 in
theorem gX2_tellField_X0_add : GoodIn wsX2_tellField (wsV RX2 207 RX0 yX0_add wsX0_add) := goodIn_app (goodIn_of _ (by decide +kernel)) ggX2_tellField_X0_add
set_option maxRecDepth 20000 in
theorem ggX2_tellField_X2_tellRow : GoodIn wsX2_tellField wsX2_tellRow := goodIn_r _ [30, 19, 20, 21, 22, 23, 24, 25, 26, 27, 46, 47, 48, 49] (by decide +kernel) (by decide +kernel)
set_option maxRecDepth 20000 in
theorem gX2_tellField_X2_tellRow : GoodIn wsX2_tellField (va_wsS RX2 215 yX2_tellRow wsX2_tellRow) := goodIn_app (goodIn_of _ (by decide +kernel)) ggX2_tellField_X2_tellRow
theorem dX2_tellField_0 : decode cX2_tellField 0 = .ok (.aload_n 0, 1) := by decide +kernel
theorem dX2_tellField_1 : decode cX2_tellField 1 = .ok (.getfield 28, 3) := by decide +kernel
theorem dX2_tellField_4 : decode cX2_tellField 4 = .ok (.iload_n 1, 1) := by decide +kernel
theorem dX2_tellField_5 : decode cX2_tellField 5 = .ok (.aaload, 1) := by decide +kernel
theorem dX2_tellField_6 : decode cX2_tellField 6 = .ok (.astore 4, 2) := by decide +kernel
theorem dX2_tellField_8 : decode cX2_tellField 8 = .ok (.getstatic 161, 3) := by decide +kernel
theorem dX2_tellField_11 : decode cX2_tellField 11 = .ok (.iload_n 2, 1) := by decide +kernel
theorem dX2_tellField_12 : decode cX2_tellField 12 = .ok (.iaload, 1) := by decide +kernel
theorem dX2_tellField_13 : decode cX2_tellField 13 = .ok (.bipush 8, 2) := by decide +kernel
theorem dX2_tellField_15 : decode cX2_tellField 15 = .ok (.if_icmp .ne 38, 3) := by decide +kernel
theorem dX2_tellField_18 : decode cX2_tellField 18 = .ok (.aload 4, 2) := by decide +kernel
theorem dX2_tellField_20 : decode cX2_tellField 20 = .ok (.iload_n 2, 1) := by decide +kernel
theorem dX2_tellField_21 : decode cX2_tellField 21 = .ok (.invokevirtual 87, 3) := by decide +kernel
theorem dX2_tellField_24 : decode cX2_tellField 24 = .ok (.astore 5, 2) := by decide +kernel
theorem dX2_tellField_26 : decode cX2_tellField 26 = .ok (.aload 5, 2) := by decide +kernel
theorem dX2_tellField_28 : decode cX2_tellField 28 = .ok (.ifnull 19, 3) := by decide +kernel
theorem dX2_tellField_31 : decode cX2_tellField 31 = .ok (.aload_n 3, 1) := by decide +kernel
theorem dX2_tellField_32 : decode cX2_tellField 32 = .ok (.iload_n 1, 1) := by decide +kernel
theorem dX2_tellField_33 : decode cX2_tellField 33 = .ok (.iload_n 2, 1) := by decide +kernel
theorem dX2_tellField_34 : decode cX2_tellField 34 = .ok (.aload_n 0, 1) := by decide +kernel
theorem dX2_tellField_35 : decode cX2_tellField 35 = .ok (.aload 5, 2) := by decide +kernel
theorem dX2_tellField_37 : decode cX2_tellField 37 = .ok (.invokevirtual 204, 3) := by decide +kernel
theorem dX2_tellField_40 : decode cX2_tellField 40 = .ok (.i2l, 1) := by decide +kernel
theorem dX2_tellField_41 : decode cX2_tellField 41 = .ok (.invokevirtual 207, 3) := by decide +kernel
theorem dX2_tellField_44 : decode cX2_tellField 44 = .ok (.ifCond .eq 7, 3) := by decide +kernel
theorem dX2_tellField_47 : decode cX2_tellField 47 = .ok (.iconst 1, 1) := by decide +kernel
theorem dX2_tellField_48 : decode cX2_tellField 48 = .ok (.goto 4, 3) := by decide +kernel
theorem dX2_tellField_51 : decode cX2_tellField 51 = .ok (.iconst 0, 1) := by decide +kernel
theorem dX2_tellField_52 : decode cX2_tellField 52 = .ok (.ireturn, 1) := by decide +kernel
theorem dX2_tellField_53 : decode cX2_tellField 53 = .ok (.getstatic 161, 3) := by decide +kernel
theorem dX2_tellField_56 : decode cX2_tellField 56 = .ok (.iload_n 2, 1) := by decide +kernel
theorem dX2_tellField_57 : decode cX2_tellField 57 = .ok (.iaload, 1) := by decide +kernel
theorem dX2_tellField_58 : decode cX2_tellField 58 = .ok (.bipush 9, 2) := by decide +kernel
theorem dX2_tellField_60 : decode cX2_tellField 60 = .ok (.if_icmp .ne 30, 3) := by decide +kernel
theorem dX2_tellField_63 : decode cX2_tellField 63 = .ok (.aload 4, 2) := by decide +kernel
theorem dX2_tellField_65 : decode cX2_tellField 65 = .ok (.getfield 91, 3) := by decide +kernel
theorem dX2_tellField_68 : decode cX2_tellField 68 = .ok (.ifnull 16, 3) := by decide +kernel
theorem dX2_tellField_71 : decode cX2_tellField 71 = .ok (.iload_n 1, 1) := by decide +kernel
theorem dX2_tellField_72 : decode cX2_tellField 72 = .ok (.aload 4, 2) := by decide +kernel
theorem dX2_tellField_74 : decode cX2_tellField 74 = .ok (.getfield 91, 3) := by decide +kernel
theorem dX2_tellField_77 : decode cX2_tellField 77 = .ok (.aload_n 3, 1) := by decide +kernel
theorem dX2_tellField_78 : decode cX2_tellField 78 = .ok (.invokestatic 215, 3) := by decide +kernel
theorem dX2_tellField_81 : decode cX2_tellField 81 = .ok (.ifCond .eq 7, 3) := by decide +kernel
theorem dX2_tellField_84 : decode cX2_tellField 84 = .ok (.iconst 1, 1) := by decide +kernel
theorem dX2_tellField_85 : decode cX2_tellField 85 = .ok (.goto 4, 3) := by decide +kernel
theorem dX2_tellField_88 : decode cX2_tellField 88 = .ok (.iconst 0, 1) := by decide +kernel
theorem dX2_tellField_89 : decode cX2_tellField 89 = .ok (.ireturn, 1) := by decide +kernel
theorem dX2_tellField_90 : decode cX2_tellField 90 = .ok (.aload 4, 2) := by decide +kernel
theorem dX2_tellField_92 : decode cX2_tellField 92 = .ok (.getfield 65, 3) := by decide +kernel
theorem dX2_tellField_95 : decode cX2_tellField 95 = .ok (.iload_n 2, 1) := by decide +kernel
theorem dX2_tellField_96 : decode cX2_tellField 96 = .ok (.laload, 1) := by decide +kernel
theorem dX2_tellField_97 : decode cX2_tellField 97 = .ok (.lconst 0, 1) := by decide +kernel
theorem dX2_tellField_98 : decode cX2_tellField 98 = .ok (.lcmp, 1) := by decide +kernel
theorem dX2_tellField_99 : decode cX2_tellField 99 = .ok (.ifCond .eq 19, 3) := by decide +kernel
theorem dX2_tellField_102 : decode cX2_tellField 102 = .ok (.aload_n 3, 1) := by decide +kernel
theorem dX2_tellField_103 : decode cX2_tellField 103 = .ok (.iload_n 1, 1) := by decide +kernel
theorem dX2_tellField_104 : decode cX2_tellField 104 = .ok (.iload_n 2, 1) := by decide +kernel
theorem dX2_tellField_105 : decode cX2_tellField 105 = .ok (.aload 4, 2) := by decide +kernel
theorem dX2_tellField_107 : decode cX2_tellField 107 = .ok (.getfield 65, 3) := by decide +kernel
theorem dX2_tellField_110 : decode cX2_tellField 110 = .ok (.iload_n 2, 1) := by decide +kernel
theorem dX2_tellField_111 : decode cX2_tellField 111 = .ok (.laload, 1) := by decide +kernel
theorem dX2_tellField_112 : decode cX2_tellField 112 = .ok (.invokevirtual 207, 3) := by decide +kernel
theorem dX2_tellField_115 : decode cX2_tellField 115 = .ok (.ifCond .eq 7, 3) := by decide +kernel
theorem dX2_tellField_118 : decode cX2_tellField 118 = .ok (.iconst 1, 1) := by decide +kernel
theorem dX2_tellField_119 : decode cX2_tellField 119 = .ok (.goto 4, 3) := by decide +kernel
theorem dX2_tellField_122 : decode cX2_tellField 122 = .ok (.iconst 0, 1) := by decide +kernel
theorem dX2_tellField_123 : decode cX2_tellField 123 = .ok (.ireturn, 1) := by decide +kernel
set_option maxRecDepth 20000 in
theorem ggX2_tellRow_X0_add : GoodIn wsX2_tellRow wsX0_add := goodIn_r _ [5, 6, 7, 8, 9, 10, 11, 12, 13] (by decide +kernel) (by decide +kernel)
set_option maxRecDepth 20000 in
theorem gX2_tellRow_X0_add : GoodIn wsX2_tellRow (wsV RX2 207 RX0 yX0_add wsX0_add) := goodIn_app (goodIn_of _ (by decide +kernel)) ggX2_tellRow_X0_add
theorem dX2_tellRow_0 : decode cX2_tellRow 0 = .ok (.aload_n 2, 1) := by decide +kernel
theorem dX2_tellRow_1 : decode cX2_tellRow 1 = .ok (.iload_n 0, 1) := by decide +kernel
theorem dX2_tellRow_2 : decode cX2_tellRow 2 = .ok (.bipush 9, 2) := by decide +kernel
theorem dX2_tellRow_4 : decode cX2_tellRow 4 = .ok (.aload_n 1, 1) := by decide +kernel
theorem dX2_tellRow_5 : decode cX2_tellRow 5 = .ok (.arraylength, 1) := by decide +kernel
theorem dX2_tellRow_6 : decode cX2_tellRow 6 = .ok (.i2l, 1) := by decide +kernel
theorem dX2_tellRow_7 : decode cX2_tellRow 7 = .ok (.invokevirtual 207, 3) := by decide +kernel
theorem dX2_tellRow_10 : decode cX2_tellRow 10 = .ok (.istore_n 3, 1) := by decide +kernel
theorem dX2_tellRow_11 : decode cX2_tellRow 11 = .ok (.iconst 0, 1) := by decide +kernel
theorem dX2_tellRow_12 : decode cX2_tellRow 12 = .ok (.istore 4, 2) := by decide +kernel
theorem dX2_tellRow_14 : decode cX2_tellRow 14 = .ok (.iload 4, 2) := by decide +kernel
theorem dX2_tellRow_16 : decode cX2_tellRow 16 = .ok (.aload_n 1, 1) := by decide +kernel
theorem dX2_tellRow_17 : decode cX2_tellRow 17 = .ok (.arraylength, 1) := by decide +kernel
theorem dX2_tellRow_18 : decode cX2_tellRow 18 = .ok (.if_icmp .ge 29, 3) := by decide +kernel
theorem dX2_tellRow_21 : decode cX2_tellRow 21 = .ok (.iload_n 3, 1) := by decide +kernel
theorem dX2_tellRow_22 : decode cX2_tellRow 22 = .ok (.ifCond .eq 25, 3) := by decide +kernel
theorem dX2_tellRow_25 : decode cX2_tellRow 25 = .ok (.aload_n 2, 1) := by decide +kernel
theorem dX2_tellRow_26 : decode cX2_tellRow 26 = .ok (.iload_n 0, 1) := by decide +kernel
theorem dX2_tellRow_27 : decode cX2_tellRow 27 = .ok (.bipush 100, 2) := by decide +kernel
theorem dX2_tellRow_29 : decode cX2_tellRow 29 = .ok (.iload 4, 2) := by decide +kernel
theorem dX2_tellRow_31 : decode cX2_tellRow 31 = .ok (.iadd, 1) := by decide +kernel
theorem dX2_tellRow_32 : decode cX2_tellRow 32 = .ok (.aload_n 1, 1) := by decide +kernel
theorem dX2_tellRow_33 : decode cX2_tellRow 33 = .ok (.iload 4, 2) := by decide +kernel
theorem dX2_tellRow_35 : decode cX2_tellRow 35 = .ok (.iaload, 1) := by decide +kernel
theorem dX2_tellRow_36 : decode cX2_tellRow 36 = .ok (.i2l, 1) := by decide +kernel
theorem dX2_tellRow_37 : decode cX2_tellRow 37 = .ok (.invokevirtual 207, 3) := by decide +kernel
theorem dX2_tellRow_40 : decode cX2_tellRow 40 = .ok (.istore_n 3, 1) := by decide +kernel
theorem dX2_tellRow_41 : decode cX2_tellRow 41 = .ok (.iinc 4 1, 3) := by decide +kernel
theorem dX2_tellRow_44 : decode cX2_tellRow 44 = .ok (.goto (-30), 3) := by decide +kernel
theorem dX2_tellRow_47 : decode cX2_tellRow 47 = .ok (.iload_n 3, 1) := by decide +kernel
theorem dX2_tellRow_48 : decode cX2_tellRow 48 = .ok (.ireturn, 1) := by decide +kernel
set_option maxRecDepth 20000 in
theorem ggX2_makeFromLeaves_X0_toldToMaker : GoodIn wsX2_makeFromLeaves wsX0_toldToMaker := goodIn_r _ [14, 15, 16, 17, 18, 19, 20, 21, 22, 23, 24, 25, 26, 27, 28, 29, 30, 31, 32, 33, 34, 35, 57, 58, 59, 60] (by decide +kernel) (by decide +kernel)
set_option maxRecDepth 20000 in
theorem gX2_makeFromLeaves_X0_toldToMaker : GoodIn wsX2_makeFromLeaves (wsV RX2 219 RX0 yX0_toldToMaker wsX0_toldToMaker) := goodIn_app (goodIn_of _ (by decide +kernel)) ggX2_makeFromLeaves_X0_toldToMaker
set_option maxRecDepth 20000 in
theorem ggX2_makeFromLeaves_X2_makerTakes : GoodIn wsX2_makeFromLeaves wsX2_makerTakes := goodIn_r _ [38] (by decide +kernel) (by decide +kernel)
set_option maxRecDepth 20000 in
theorem gX2_makeFromLeaves_X2_makerTakes : GoodIn wsX2_makeFromLeaves (va_wsS RX2 38 yX2_makerTakes wsX2_makerTakes) := goodIn_app (goodIn_of _ (by decide +kernel)) ggX2_makeFromLeaves_X2_makerTakes
set_option maxRecDepth 20000 in
theorem ggX2_makeFromLeaves_X1_init : GoodIn wsX2_makeFromLeaves wsX1_init := goodIn_r _ [41, 42, 43, 44, 45, 46, 47, 61, 62, 63, 64, 65, 66] (by decide +kernel) (by decide +kernel)
set_option maxRecDepth 20000 in
theorem gX2_makeFromLeaves_X1_init : GoodIn wsX2_makeFromLeaves (wsX1_init) := ggX2_makeFromLeaves_X1_init
theorem dX2_makeFromLeaves_0 : decode cX2_makeFromLeaves 0 = .ok (.aload_n 0, 1) := by decide +kernel
theorem dX2_makeFromLeaves_1 : decode cX2_makeFromLeaves 1 = .ok (.iconst 0, 1) := by decide +kernel
theorem dX2_makeFromLeaves_2 : decode cX2_makeFromLeaves 2 = .ok (.putfield 147, 3) := by decide +kernel
theorem dX2_makeFromLeaves_5 : decode cX2_makeFromLeaves 5 = .ok (.iconst 0, 1) := by decide +kernel
theorem dX2_makeFromLeaves_6 : decode cX2_makeFromLeaves 6 = .ok (.istore_n 1, 1) := by decide +kernel
theorem dX2_makeFromLeaves_7 : decode cX2_makeFromLeaves 7 = .ok (.iload_n 1, 1) := by decide +kernel
theorem dX2_makeFromLeaves_8 : decode cX2_makeFromLeaves 8 = .ok (.aload_n 0, 1) := by decide +kernel
theorem dX2_makeFromLeaves_9 : decode cX2_makeFromLeaves 9 = .ok (.getfield 18, 3) := by decide +kernel
theorem dX2_makeFromLeaves_12 : decode cX2_makeFromLeaves 12 = .ok (.getfield 128, 3) := by decide +kernel
theorem dX2_makeFromLeaves_15 : decode cX2_makeFromLeaves 15 = .ok (.if_icmp .ge 90, 3) := by decide +kernel
theorem dX2_makeFromLeaves_18 : decode cX2_makeFromLeaves 18 = .ok (.aload_n 0, 1) := by decide +kernel
theorem dX2_makeFromLeaves_19 : decode cX2_makeFromLeaves 19 = .ok (.getfield 147, 3) := by decide +kernel
theorem dX2_makeFromLeaves_22 : decode cX2_makeFromLeaves 22 = .ok (.bipush 24, 2) := by decide +kernel
theorem dX2_makeFromLeaves_24 : decode cX2_makeFromLeaves 24 = .ok (.if_icmp .ge 81, 3) := by decide +kernel
theorem dX2_makeFromLeaves_27 : decode cX2_makeFromLeaves 27 = .ok (.aload_n 0, 1) := by decide +kernel
theorem dX2_makeFromLeaves_28 : decode cX2_makeFromLeaves 28 = .ok (.getfield 18, 3) := by decide +kernel
theorem dX2_makeFromLeaves_31 : decode cX2_makeFromLeaves 31 = .ok (.getfield 137, 3) := by decide +kernel
theorem dX2_makeFromLeaves_34 : decode cX2_makeFromLeaves 34 = .ok (.iload_n 1, 1) := by decide +kernel
theorem dX2_makeFromLeaves_35 : decode cX2_makeFromLeaves 35 = .ok (.iaload, 1) := by decide +kernel
theorem dX2_makeFromLeaves_36 : decode cX2_makeFromLeaves 36 = .ok (.iconst (-1), 1) := by decide +kernel
theorem dX2_makeFromLeaves_37 : decode cX2_makeFromLeaves 37 = .ok (.if_icmp .ne 62, 3) := by decide +kernel
theorem dX2_makeFromLeaves_40 : decode cX2_makeFromLeaves 40 = .ok (.aload_n 0, 1) := by decide +kernel
theorem dX2_makeFromLeaves_41 : decode cX2_makeFromLeaves 41 = .ok (.getfield 18, 3) := by decide +kernel
theorem dX2_makeFromLeaves_44 : decode cX2_makeFromLeaves 44 = .ok (.getfield 140, 3) := by decide +kernel
theorem dX2_makeFromLeaves_47 : decode cX2_makeFromLeaves 47 = .ok (.iload_n 1, 1) := by decide +kernel
theorem dX2_makeFromLeaves_48 : decode cX2_makeFromLeaves 48 = .ok (.laload, 1) := by decide +kernel
theorem dX2_makeFromLeaves_49 : decode cX2_makeFromLeaves 49 = .ok (.l2i, 1) := by decide +kernel
theorem dX2_makeFromLeaves_50 : decode cX2_makeFromLeaves 50 = .ok (.istore_n 2, 1) := by decide +kernel
theorem dX2_makeFromLeaves_51 : decode cX2_makeFromLeaves 51 = .ok (.aload_n 0, 1) := by decide +kernel
theorem dX2_makeFromLeaves_52 : decode cX2_makeFromLeaves 52 = .ok (.getfield 18, 3) := by decide +kernel
theorem dX2_makeFromLeaves_55 : decode cX2_makeFromLeaves 55 = .ok (.iload_n 1, 1) := by decide +kernel
theorem dX2_makeFromLeaves_56 : decode cX2_makeFromLeaves 56 = .ok (.invokevirtual 219, 3) := by decide +kernel
theorem dX2_makeFromLeaves_59 : decode cX2_makeFromLeaves 59 = .ok (.istore_n 3, 1) := by decide +kernel
theorem dX2_makeFromLeaves_60 : decode cX2_makeFromLeaves 60 = .ok (.iload_n 2, 1) := by decide +kernel
theorem dX2_makeFromLeaves_61 : decode cX2_makeFromLeaves 61 = .ok (.iload_n 3, 1) := by decide +kernel
theorem dX2_makeFromLeaves_62 : decode cX2_makeFromLeaves 62 = .ok (.invokestatic 38, 3) := by decide +kernel
theorem dX2_makeFromLeaves_65 : decode cX2_makeFromLeaves 65 = .ok (.ifCond .ne 6, 3) := by decide +kernel
theorem dX2_makeFromLeaves_68 : decode cX2_makeFromLeaves 68 = .ok (.bipush (-18), 2) := by decide +kernel
theorem dX2_makeFromLeaves_70 : decode cX2_makeFromLeaves 70 = .ok (.ireturn, 1) := by decide +kernel
theorem dX2_makeFromLeaves_71 : decode cX2_makeFromLeaves 71 = .ok (.aload_n 0, 1) := by decide +kernel
theorem dX2_makeFromLeaves_72 : decode cX2_makeFromLeaves 72 = .ok (.getfield 31, 3) := by decide +kernel
theorem dX2_makeFromLeaves_75 : decode cX2_makeFromLeaves 75 = .ok (.aload_n 0, 1) := by decide +kernel
theorem dX2_makeFromLeaves_76 : decode cX2_makeFromLeaves 76 = .ok (.getfield 147, 3) := by decide +kernel
theorem dX2_makeFromLeaves_79 : decode cX2_makeFromLeaves 79 = .ok (.new 9, 3) := by decide +kernel
theorem dX2_makeFromLeaves_82 : decode cX2_makeFromLeaves 82 = .ok (.dup, 1) := by decide +kernel
theorem dX2_makeFromLeaves_83 : decode cX2_makeFromLeaves 83 = .ok (.iload_n 2, 1) := by decide +kernel
theorem dX2_makeFromLeaves_84 : decode cX2_makeFromLeaves 84 = .ok (.iload_n 3, 1) := by decide +kernel
theorem dX2_makeFromLeaves_85 : decode cX2_makeFromLeaves 85 = .ok (.invokespecial 42, 3) := by decide +kernel
theorem dX2_makeFromLeaves_88 : decode cX2_makeFromLeaves 88 = .ok (.aastore, 1) := by decide +kernel
theorem dX2_makeFromLeaves_89 : decode cX2_makeFromLeaves 89 = .ok (.aload_n 0, 1) := by decide +kernel
theorem dX2_makeFromLeaves_90 : decode cX2_makeFromLeaves 90 = .ok (.dup, 1) := by decide +kernel
theorem dX2_makeFromLeaves_91 : decode cX2_makeFromLeaves 91 = .ok (.getfield 147, 3) := by decide +kernel
theorem dX2_makeFromLeaves_94 : decode cX2_makeFromLeaves 94 = .ok (.iconst 1, 1) := by decide +kernel
theorem dX2_makeFromLeaves_95 : decode cX2_makeFromLeaves 95 = .ok (.iadd, 1) := by decide +kernel
theorem dX2_makeFromLeaves_96 : decode cX2_makeFromLeaves 96 = .ok (.putfield 147, 3) := by decide +kernel
theorem dX2_makeFromLeaves_99 : decode cX2_makeFromLeaves 99 = .ok (.iinc 1 1, 3) := by decide +kernel
theorem dX2_makeFromLeaves_102 : decode cX2_makeFromLeaves 102 = .ok (.goto (-95), 3) := by decide +kernel
theorem dX2_makeFromLeaves_105 : decode cX2_makeFromLeaves 105 = .ok (.iconst 0, 1) := by decide +kernel
theorem dX2_makeFromLeaves_106 : decode cX2_makeFromLeaves 106 = .ok (.ireturn, 1) := by decide +kernel
set_option maxRecDepth 20000 in
theorem ggX2_fillFromLeaves_X2_madeAs : GoodIn wsX2_fillFromLeaves wsX2_madeAs := goodIn_r _ [10, 11, 12, 72, 73, 74, 75, 76, 77, 78, 79, 80] (by decide +kernel) (by decide +kernel)
set_option maxRecDepth 20000 in
theorem gX2_fillFromLeaves_X2_madeAs : GoodIn wsX2_fillFromLeaves (wsV RX2 222 RX2 yX2_madeAs wsX2_madeAs) := goodIn_app (goodIn_of _ (by decide +kernel)) ggX2_fillFromLeaves_X2_madeAs
set_option maxRecDepth 20000 in
theorem ggX2_fillFromLeaves_X2_fillField : GoodIn wsX2_fillFromLeaves wsX2_fillField := goodIn_r _ [16, 17, 18, 19, 20, 21, 22, 9, 23, 24, 25, 26, 27, 28, 29, 30, 31, 6, 7, 8, 10, 11, 12, 32, 33, 34, 35, 36, 37, 38, 39, 40, 41, 42, 43, 44, 45, 46, 47, 48, 49, 50, 51, 52, 53, 54, 55, 56, 57, 58, 59, 60, 61, 62, 63, 64, 65, 66, 67, 68, 69, 70, 71, 85, 86, 87, 88, 89, 90, 72, 73, 74, 75, 76, 77, 78, 79, 80] (by decide +kernel) (by decide +kernel)
set_option maxRecDepth 20000 in
theorem gX2_fillFromLeaves_X2_fillField : GoodIn wsX2_fillFromLeaves (wsV RX2 226 RX2 yX2_fillField wsX2_fillField) := goodIn_app (goodIn_of _ (by decide +kernel)) ggX2_fillFromLeaves_X2_fillField
theorem dX2_fillFromLeaves_0 : decode cX2_fillFromLeaves 0 = .ok (.iconst 0, 1) := by decide +kernel
theorem dX2_fillFromLeaves_1 : decode cX2_fillFromLeaves 1 = .ok (.istore_n 1, 1) := by decide +kernel
theorem dX2_fillFromLeaves_2 : decode cX2_fillFromLeaves 2 = .ok (.iload_n 1, 1) := by decide +kernel
theorem dX2_fillFromLeaves_3 : decode cX2_fillFromLeaves 3 = .ok (.aload_n 0, 1) := by decide +kernel
theorem dX2_fillFromLeaves_4 : decode cX2_fillFromLeaves 4 = .ok (.getfield 18, 3) := by decide +kernel
theorem dX2_fillFromLeaves_7 : decode cX2_fillFromLeaves 7 = .ok (.getfield 128, 3) := by decide +kernel
theorem dX2_fillFromLeaves_10 : decode cX2_fillFromLeaves 10 = .ok (.if_icmp .ge 61, 3) := by decide +kernel
theorem dX2_fillFromLeaves_13 : decode cX2_fillFromLeaves 13 = .ok (.aload_n 0, 1) := by decide +kernel
theorem dX2_fillFromLeaves_14 : decode cX2_fillFromLeaves 14 = .ok (.aload_n 0, 1) := by decide +kernel
theorem dX2_fillFromLeaves_15 : decode cX2_fillFromLeaves 15 = .ok (.getfield 18, 3) := by decide +kernel
theorem dX2_fillFromLeaves_18 : decode cX2_fillFromLeaves 18 = .ok (.getfield 134, 3) := by decide +kernel
theorem dX2_fillFromLeaves_21 : decode cX2_fillFromLeaves 21 = .ok (.iload_n 1, 1) := by decide +kernel
theorem dX2_fillFromLeaves_22 : decode cX2_fillFromLeaves 22 = .ok (.iaload, 1) := by decide +kernel
theorem dX2_fillFromLeaves_23 : decode cX2_fillFromLeaves 23 = .ok (.i2l, 1) := by decide +kernel
theorem dX2_fillFromLeaves_24 : decode cX2_fillFromLeaves 24 = .ok (.invokevirtual 222, 3) := by decide +kernel
theorem dX2_fillFromLeaves_27 : decode cX2_fillFromLeaves 27 = .ok (.astore_n 2, 1) := by decide +kernel
theorem dX2_fillFromLeaves_28 : decode cX2_fillFromLeaves 28 = .ok (.aload_n 2, 1) := by decide +kernel
theorem dX2_fillFromLeaves_29 : decode cX2_fillFromLeaves 29 = .ok (.ifnonnull 6, 3) := by decide +kernel
theorem dX2_fillFromLeaves_32 : decode cX2_fillFromLeaves 32 = .ok (.bipush (-12), 2) := by decide +kernel
theorem dX2_fillFromLeaves_34 : decode cX2_fillFromLeaves 34 = .ok (.ireturn, 1) := by decide +kernel
theorem dX2_fillFromLeaves_35 : decode cX2_fillFromLeaves 35 = .ok (.aload_n 0, 1) := by decide +kernel
theorem dX2_fillFromLeaves_36 : decode cX2_fillFromLeaves 36 = .ok (.aload_n 2, 1) := by decide +kernel
theorem dX2_fillFromLeaves_37 : decode cX2_fillFromLeaves 37 = .ok (.aload_n 0, 1) := by decide +kernel
theorem dX2_fillFromLeaves_38 : decode cX2_fillFromLeaves 38 = .ok (.getfield 18, 3) := by decide +kernel
theorem dX2_fillFromLeaves_41 : decode cX2_fillFromLeaves 41 = .ok (.getfield 137, 3) := by decide +kernel
theorem dX2_fillFromLeaves_44 : decode cX2_fillFromLeaves 44 = .ok (.iload_n 1, 1) := by decide +kernel
theorem dX2_fillFromLeaves_45 : decode cX2_fillFromLeaves 45 = .ok (.iaload, 1) := by decide +kernel
theorem dX2_fillFromLeaves_46 : decode cX2_fillFromLeaves 46 = .ok (.aload_n 0, 1) := by decide +kernel
theorem dX2_fillFromLeaves_47 : decode cX2_fillFromLeaves 47 = .ok (.getfield 18, 3) := by decide +kernel
theorem dX2_fillFromLeaves_50 : decode cX2_fillFromLeaves 50 = .ok (.getfield 140, 3) := by decide +kernel
theorem dX2_fillFromLeaves_53 : decode cX2_fillFromLeaves 53 = .ok (.iload_n 1, 1) := by decide +kernel
theorem dX2_fillFromLeaves_54 : decode cX2_fillFromLeaves 54 = .ok (.laload, 1) := by decide +kernel
theorem dX2_fillFromLeaves_55 : decode cX2_fillFromLeaves 55 = .ok (.invokevirtual 226, 3) := by decide +kernel
theorem dX2_fillFromLeaves_58 : decode cX2_fillFromLeaves 58 = .ok (.istore_n 3, 1) := by decide +kernel
theorem dX2_fillFromLeaves_59 : decode cX2_fillFromLeaves 59 = .ok (.iload_n 3, 1) := by decide +kernel
theorem dX2_fillFromLeaves_60 : decode cX2_fillFromLeaves 60 = .ok (.ifCond .eq 5, 3) := by decide +kernel
theorem dX2_fillFromLeaves_63 : decode cX2_fillFromLeaves 63 = .ok (.iload_n 3, 1) := by decide +kernel
theorem dX2_fillFromLeaves_64 : decode cX2_fillFromLeaves 64 = .ok (.ireturn, 1) := by decide +kernel
theorem dX2_fillFromLeaves_65 : decode cX2_fillFromLeaves 65 = .ok (.iinc 1 1, 3) := by decide +kernel
theorem dX2_fillFromLeaves_68 : decode cX2_fillFromLeaves 68 = .ok (.goto (-66), 3) := by decide +kernel
theorem dX2_fillFromLeaves_71 : decode cX2_fillFromLeaves 71 = .ok (.iconst 0, 1) := by decide +kernel
theorem dX2_fillFromLeaves_72 : decode cX2_fillFromLeaves 72 = .ok (.ireturn, 1) := by decide +kernel
theorem dX2_madeAs_0 : decode cX2_madeAs 0 = .ok (.lload_n 1, 1) := by decide +kernel
theorem dX2_madeAs_1 : decode cX2_madeAs 1 = .ok (.lconst 0, 1) := by decide +kernel
theorem dX2_madeAs_2 : decode cX2_madeAs 2 = .ok (.lcmp, 1) := by decide +kernel
theorem dX2_madeAs_3 : decode cX2_madeAs 3 = .ok (.ifCond .lt 13, 3) := by decide +kernel
theorem dX2_madeAs_6 : decode cX2_madeAs 6 = .ok (.lload_n 1, 1) := by decide +kernel
theorem dX2_madeAs_7 : decode cX2_madeAs 7 = .ok (.aload_n 0, 1) := by decide +kernel
theorem dX2_madeAs_8 : decode cX2_madeAs 8 = .ok (.getfield 147, 3) := by decide +kernel
theorem dX2_madeAs_11 : decode cX2_madeAs 11 = .ok (.i2l, 1) := by decide +kernel
theorem dX2_madeAs_12 : decode cX2_madeAs 12 = .ok (.lcmp, 1) := by decide +kernel
theorem dX2_madeAs_13 : decode cX2_madeAs 13 = .ok (.ifCond .lt 7, 3) := by decide +kernel
theorem dX2_madeAs_16 : decode cX2_madeAs 16 = .ok (.aconst_null, 1) := by decide +kernel
theorem dX2_madeAs_17 : decode cX2_madeAs 17 = .ok (.goto 10, 3) := by decide +kernel
theorem dX2_madeAs_20 : decode cX2_madeAs 20 = .ok (.aload_n 0, 1) := by decide +kernel
theorem dX2_madeAs_21 : decode cX2_madeAs 21 = .ok (.getfield 31, 3) := by decide +kernel
theorem dX2_madeAs_24 : decode cX2_madeAs 24 = .ok (.lload_n 1, 1) := by decide +kernel
theorem dX2_madeAs_25 : decode cX2_madeAs 25 = .ok (.l2i, 1) := by decide +kernel
theorem dX2_madeAs_26 : decode cX2_madeAs 26 = .ok (.aaload, 1) := by decide +kernel
theorem dX2_madeAs_27 : decode cX2_madeAs 27 = .ok (.areturn, 1) := by decide +kernel
set_option maxRecDepth 20000 in
theorem ggX2_fillField_X2_isLinkField : GoodIn wsX2_fillField wsX2_isLinkField := goodIn_r _ [8, 9, 10, 11, 7, 12] (by decide +kernel) (by decide +kernel)
set_option maxRecDepth 20000 in
theorem gX2_fillField_X2_isLinkField : GoodIn wsX2_fillField (va_wsS RX2 76 yX2_isLinkField wsX2_isLinkField) := goodIn_app (goodIn_of _ (by decide +kernel)) ggX2_fillField_X2_isLinkField
set_option maxRecDepth 20000 in
theorem ggX2_fillField_X2_fillLink : GoodIn wsX2_fillField wsX2_fillLink := goodIn_r _ [16, 17, 18, 19, 7, 20, 21, 22, 23, 24, 25, 26, 27, 28, 29, 30, 31, 32, 33, 34, 35, 36, 37, 38, 69, 70, 71, 72, 73, 74, 75, 76, 77, 63, 64, 65, 66, 67, 68] (by decide +kernel) (by decide +kernel)
set_option maxRecDepth 20000 in
theorem gX2_fillField_X2_fillLink : GoodIn wsX2_fillField (wsV RX2 230 RX2 yX2_fillLink wsX2_fillLink) := goodIn_app (goodIn_of _ (by decide +kernel)) ggX2_fillField_X2_fillLink
set_option maxRecDepth 20000 in
theorem ggX2_fillField_X2_fillPlace : GoodIn wsX2_fillField wsX2_fillPlace := goodIn_r _ [41] (by decide +kernel) (by decide +kernel)
set_option maxRecDepth 20000 in
theorem gX2_fillField_X2_fillPlace : GoodIn wsX2_fillField (va_wsS RX2 235 yX2_fillPlace wsX2_fillPlace) := goodIn_app (goodIn_of _ (by decide +kernel)) ggX2_fillField_X2_fillPlace
set_option maxRecDepth 20000 in
theorem ggX2_fillField_X2_isValueField : GoodIn wsX2_fillField wsX2_isValueField := goodIn_r _ [44, 9, 10, 11, 7, 12] (by decide +kernel) (by decide +kernel)
set_option maxRecDepth 20000 in
theorem gX2_fillField_X2_isValueField : GoodIn wsX2_fillField (va_wsS RX2 52 yX2_isValueField wsX2_isValueField) := goodIn_app (goodIn_of _ (by decide +kernel)) ggX2_fillField_X2_isValueField
set_option maxRecDepth 20000 in
theorem ggX2_fillField_X2_isFinal : GoodIn wsX2_fillField wsX2_isFinal := goodIn_r _ [47] (by decide +kernel) (by decide +kernel)
set_option maxRecDepth 20000 in
theorem gX2_fillField_X2_isFinal : GoodIn wsX2_fillField (va_wsS RX2 69 yX2_isFinal wsX2_isFinal) := goodIn_app (goodIn_of _ (by decide +kernel)) ggX2_fillField_X2_isFinal
set_option maxRecDepth 20000 in
theorem ggX2_fillField_X2_asTold : GoodIn wsX2_fillField wsX2_asTold := goodIn_r _ [50, 9, 51, 52, 7, 53, 54, 55, 56, 57, 58, 59, 60, 61, 62] (by decide +kernel) (by decide +kernel)
set_option maxRecDepth 20000 in
theorem gX2_fillField_X2_asTold : GoodIn wsX2_fillField (va_wsS RX2 72 yX2_asTold wsX2_asTold) := goodIn_app (goodIn_of _ (by decide +kernel)) ggX2_fillField_X2_asTold
theorem dX2_fillField_0 : decode cX2_fillField 0 = .ok (.iload_n 2, 1) := by decide +kernel
theorem dX2_fillField_1 : decode cX2_fillField 1 = .ok (.invokestatic 76, 3) := by decide +kernel
theorem dX2_fillField_4 : decode cX2_fillField 4 = .ok (.ifCond .eq 11, 3) := by decide +kernel
theorem dX2_fillField_7 : decode cX2_fillField 7 = .ok (.aload_n 0, 1) := by decide +kernel
theorem dX2_fillField_8 : decode cX2_fillField 8 = .ok (.aload_n 1, 1) := by decide +kernel
theorem dX2_fillField_9 : decode cX2_fillField 9 = .ok (.iload_n 2, 1) := by decide +kernel
theorem dX2_fillField_10 : decode cX2_fillField 10 = .ok (.lload_n 3, 1) := by decide +kernel
theorem dX2_fillField_11 : decode cX2_fillField 11 = .ok (.invokevirtual 230, 3) := by decide +kernel
theorem dX2_fillField_14 : decode cX2_fillField 14 = .ok (.ireturn, 1) := by decide +kernel
theorem dX2_fillField_15 : decode cX2_fillField 15 = .ok (.iload_n 2, 1) := by decide +kernel
theorem dX2_fillField_16 : decode cX2_fillField 16 = .ok (.bipush 9, 2) := by decide +kernel
theorem dX2_fillField_18 : decode cX2_fillField 18 = .ok (.if_icmp .ne 32, 3) := by decide +kernel
theorem dX2_fillField_21 : decode cX2_fillField 21 = .ok (.aload_n 1, 1) := by decide +kernel
theorem dX2_fillField_22 : decode cX2_fillField 22 = .ok (.lload_n 3, 1) := by decide +kernel
theorem dX2_fillField_23 : decode cX2_fillField 23 = .ok (.lconst 0, 1) := by decide +kernel
theorem dX2_fillField_24 : decode cX2_fillField 24 = .ok (.lcmp, 1) := by decide +kernel
theorem dX2_fillField_25 : decode cX2_fillField 25 = .ok (.ifCond .lt 18, 3) := by decide +kernel
theorem dX2_fillField_28 : decode cX2_fillField 28 = .ok (.lload_n 3, 1) := by decide +kernel
theorem dX2_fillField_29 : decode cX2_fillField 29 = .ok (.ldc2_w 233, 3) := by decide +kernel
theorem dX2_fillField_32 : decode cX2_fillField 32 = .ok (.lcmp, 1) := by decide +kernel
theorem dX2_fillField_33 : decode cX2_fillField 33 = .ok (.ifCond .gt 10, 3) := by decide +kernel
theorem dX2_fillField_36 : decode cX2_fillField 36 = .ok (.lload_n 3, 1) := by decide +kernel
theorem dX2_fillField_37 : decode cX2_fillField 37 = .ok (.l2i, 1) := by decide +kernel
theorem dX2_fillField_38 : decode cX2_fillField 38 = .ok (.newarray .int, 2) := by decide +kernel
theorem dX2_fillField_40 : decode cX2_fillField 40 = .ok (.goto 4, 3) := by decide +kernel
theorem dX2_fillField_43 : decode cX2_fillField 43 = .ok (.aconst_null, 1) := by decide +kernel
theorem dX2_fillField_44 : decode cX2_fillField 44 = .ok (.putfield 91, 3) := by decide +kernel
theorem dX2_fillField_47 : decode cX2_fillField 47 = .ok (.goto 50, 3) := by decide +kernel
theorem dX2_fillField_50 : decode cX2_fillField 50 = .ok (.iload_n 2, 1) := by decide +kernel
theorem dX2_fillField_51 : decode cX2_fillField 51 = .ok (.bipush 100, 2) := by decide +kernel
theorem dX2_fillField_53 : decode cX2_fillField 53 = .ok (.if_icmp .lt 19, 3) := by decide +kernel
theorem dX2_fillField_56 : decode cX2_fillField 56 = .ok (.aload_n 1, 1) := by decide +kernel
theorem dX2_fillField_57 : decode cX2_fillField 57 = .ok (.getfield 91, 3) := by decide +kernel
theorem dX2_fillField_60 : decode cX2_fillField 60 = .ok (.iload_n 2, 1) := by decide +kernel
theorem dX2_fillField_61 : decode cX2_fillField 61 = .ok (.bipush 100, 2) := by decide +kernel
theorem dX2_fillField_63 : decode cX2_fillField 63 = .ok (.isub, 1) := by decide +kernel
theorem dX2_fillField_64 : decode cX2_fillField 64 = .ok (.lload_n 3, 1) := by decide +kernel
theorem dX2_fillField_65 : decode cX2_fillField 65 = .ok (.l2i, 1) := by decide +kernel
theorem dX2_fillField_66 : decode cX2_fillField 66 = .ok (.invokestatic 235, 3) := by decide +kernel
theorem dX2_fillField_69 : decode cX2_fillField 69 = .ok (.goto 28, 3) := by decide +kernel
theorem dX2_fillField_72 : decode cX2_fillField 72 = .ok (.iload_n 2, 1) := by decide +kernel
theorem dX2_fillField_73 : decode cX2_fillField 73 = .ok (.invokestatic 52, 3) := by decide +kernel
theorem dX2_fillField_76 : decode cX2_fillField 76 = .ok (.ifCond .eq 21, 3) := by decide +kernel
theorem dX2_fillField_79 : decode cX2_fillField 79 = .ok (.iload_n 2, 1) := by decide +kernel
theorem dX2_fillField_80 : decode cX2_fillField 80 = .ok (.invokestatic 69, 3) := by decide +kernel
theorem dX2_fillField_83 : decode cX2_fillField 83 = .ok (.ifCond .ne 14, 3) := by decide +kernel
theorem dX2_fillField_86 : decode cX2_fillField 86 = .ok (.aload_n 1, 1) := by decide +kernel
theorem dX2_fillField_87 : decode cX2_fillField 87 = .ok (.getfield 65, 3) := by decide +kernel
theorem dX2_fillField_90 : decode cX2_fillField 90 = .ok (.iload_n 2, 1) := by decide +kernel
theorem dX2_fillField_91 : decode cX2_fillField 91 = .ok (.iload_n 2, 1) := by decide +kernel
theorem dX2_fillField_92 : decode cX2_fillField 92 = .ok (.lload_n 3, 1) := by decide +kernel
theorem dX2_fillField_93 : decode cX2_fillField 93 = .ok (.invokestatic 72, 3) := by decide +kernel
theorem dX2_fillField_96 : decode cX2_fillField 96 = .ok (.lastore, 1) := by decide +kernel
theorem dX2_fillField_97 : decode cX2_fillField 97 = .ok (.iconst 0, 1) := by decide +kernel
theorem dX2_fillField_98 : decode cX2_fillField 98 = .ok (.ireturn, 1) := by decide +kernel
set_option maxRecDepth 20000 in
theorem ggX2_fillLink_X2_madeAs : GoodIn wsX2_fillLink wsX2_madeAs := goodIn_r _ [5, 6, 7, 24, 25, 26, 27, 28, 29, 30, 31, 32] (by decide +kernel) (by decide +kernel)
set_option maxRecDepth 20000 in
theorem gX2_fillLink_X2_madeAs : GoodIn wsX2_fillLink (wsV RX2 222 RX2 yX2_madeAs wsX2_madeAs) := goodIn_app (goodIn_of _ (by decide +kernel)) ggX2_fillLink_X2_madeAs
set_option maxRecDepth 20000 in
theorem ggX2_fillLink_X2_wantedIn : GoodIn wsX2_fillLink wsX2_wantedIn := goodIn_r _ [10] (by decide +kernel) (by decide +kernel)
set_option maxRecDepth 20000 in
theorem gX2_fillLink_X2_wantedIn : GoodIn wsX2_fillLink (va_wsS RX2 79 yX2_wantedIn wsX2_wantedIn) := goodIn_app (goodIn_of _ (by decide +kernel)) ggX2_fillLink_X2_wantedIn
set_option maxRecDepth 20000 in
theorem ggX2_fillLink_X1_isOf : GoodIn wsX2_fillLink wsX1_isOf := goodIn_r _ [15, 16, 33, 34, 35, 36, 37, 38] (by decide +kernel) (by decide +kernel)
set_option maxRecDepth 20000 in
theorem gX2_fillLink_X1_isOf : GoodIn wsX2_fillLink (wsV RX2 49 RX1 yX1_isOf wsX1_isOf) := goodIn_app (goodIn_of _ (by decide +kernel)) ggX2_fillLink_X1_isOf
set_option maxRecDepth 20000 in
theorem ggX2_fillLink_X1_hold : GoodIn wsX2_fillLink wsX1_hold := goodIn_r _ [20, 21, 22, 23, 33, 34, 35, 36, 37, 38] (by decide +kernel) (by decide +kernel)
set_option maxRecDepth 20000 in
theorem gX2_fillLink_X1_hold : GoodIn wsX2_fillLink (wsV RX2 83 RX1 yX1_hold wsX1_hold) := goodIn_app (goodIn_of _ (by decide +kernel)) ggX2_fillLink_X1_hold
theorem dX2_fillLink_0 : decode cX2_fillLink 0 = .ok (.aload_n 0, 1) := by decide +kernel
theorem dX2_fillLink_1 : decode cX2_fillLink 1 = .ok (.lload_n 3, 1) := by decide +kernel
theorem dX2_fillLink_2 : decode cX2_fillLink 2 = .ok (.invokevirtual 222, 3) := by decide +kernel
theorem dX2_fillLink_5 : decode cX2_fillLink 5 = .ok (.astore 5, 2) := by decide +kernel
theorem dX2_fillLink_7 : decode cX2_fillLink 7 = .ok (.aload 5, 2) := by decide +kernel
theorem dX2_fillLink_9 : decode cX2_fillLink 9 = .ok (.ifnonnull 6, 3) := by decide +kernel
theorem dX2_fillLink_12 : decode cX2_fillLink 12 = .ok (.bipush (-12), 2) := by decide +kernel
theorem dX2_fillLink_14 : decode cX2_fillLink 14 = .ok (.ireturn, 1) := by decide +kernel
theorem dX2_fillLink_15 : decode cX2_fillLink 15 = .ok (.aload 5, 2) := by decide +kernel
theorem dX2_fillLink_17 : decode cX2_fillLink 17 = .ok (.iload_n 2, 1) := by decide +kernel
theorem dX2_fillLink_18 : decode cX2_fillLink 18 = .ok (.invokestatic 79, 3) := by decide +kernel
theorem dX2_fillLink_21 : decode cX2_fillLink 21 = .ok (.invokevirtual 49, 3) := by decide +kernel
theorem dX2_fillLink_24 : decode cX2_fillLink 24 = .ok (.ifCond .ne 6, 3) := by decide +kernel
theorem dX2_fillLink_27 : decode cX2_fillLink 27 = .ok (.bipush (-14), 2) := by decide +kernel
theorem dX2_fillLink_29 : decode cX2_fillLink 29 = .ok (.ireturn, 1) := by decide +kernel
theorem dX2_fillLink_30 : decode cX2_fillLink 30 = .ok (.aload_n 1, 1) := by decide +kernel
theorem dX2_fillLink_31 : decode cX2_fillLink 31 = .ok (.iload_n 2, 1) := by decide +kernel
theorem dX2_fillLink_32 : decode cX2_fillLink 32 = .ok (.aload 5, 2) := by decide +kernel
theorem dX2_fillLink_34 : decode cX2_fillLink 34 = .ok (.invokevirtual 83, 3) := by decide +kernel
theorem dX2_fillLink_37 : decode cX2_fillLink 37 = .ok (.iconst 0, 1) := by decide +kernel
theorem dX2_fillLink_38 : decode cX2_fillLink 38 = .ok (.ireturn, 1) := by decide +kernel
theorem dX2_fillPlace_0 : decode cX2_fillPlace 0 = .ok (.aload_n 0, 1) := by decide +kernel
theorem dX2_fillPlace_1 : decode cX2_fillPlace 1 = .ok (.ifnull 13, 3) := by decide +kernel
theorem dX2_fillPlace_4 : decode cX2_fillPlace 4 = .ok (.iload_n 1, 1) := by decide +kernel
theorem dX2_fillPlace_5 : decode cX2_fillPlace 5 = .ok (.aload_n 0, 1) := by decide +kernel
theorem dX2_fillPlace_6 : decode cX2_fillPlace 6 = .ok (.arraylength, 1) := by decide +kernel
theorem dX2_fillPlace_7 : decode cX2_fillPlace 7 = .ok (.if_icmp .ge 7, 3) := by decide +kernel
theorem dX2_fillPlace_10 : decode cX2_fillPlace 10 = .ok (.aload_n 0, 1) := by decide +kernel
theorem dX2_fillPlace_11 : decode cX2_fillPlace 11 = .ok (.iload_n 1, 1) := by decide +kernel
theorem dX2_fillPlace_12 : decode cX2_fillPlace 12 = .ok (.iload_n 2, 1) := by decide +kernel
theorem dX2_fillPlace_13 : decode cX2_fillPlace 13 = .ok (.iastore, 1) := by decide +kernel
theorem dX2_fillPlace_14 : decode cX2_fillPlace 14 = .ok (.return_, 1) := by decide +kernel
end
section
theorem dX3_init_0 : decode cX3_init 0 = .ok (.aload_n 0, 1) := by decide +kernel
theorem dX3_init_1 : decode cX3_init 1 = .ok (.invokespecial 1, 3) := by decide +kernel
theorem dX3_init_4 : decode cX3_init 4 = .ok (.aload_n 0, 1) := by decide +kernel
theorem dX3_init_5 : decode cX3_init 5 = .ok (.bipush 12, 2) := by decide +kernel
theorem dX3_init_7 : decode cX3_init 7 = .ok (.newarray .int, 2) := by decide +kernel
theorem dX3_init_9 : decode cX3_init 9 = .ok (.putfield 7, 3) := by decide +kernel
theorem dX3_init_12 : decode cX3_init 12 = .ok (.aload_n 0, 1) := by decide +kernel
theorem dX3_init_13 : decode cX3_init 13 = .ok (.sipush 6400, 3) := by decide +kernel
theorem dX3_init_16 : decode cX3_init 16 = .ok (.newarray .int, 2) := by decide +kernel
theorem dX3_init_18 : decode cX3_init 18 = .ok (.putfield 13, 3) := by decide +kernel
theorem dX3_init_21 : decode cX3_init 21 = .ok (.aload_n 0, 1) := by decide +kernel
theorem dX3_init_22 : decode cX3_init 22 = .ok (.ldc 16, 2) := by decide +kernel
theorem dX3_init_24 : decode cX3_init 24 = .ok (.newarray .long, 2) := by decide +kernel
theorem dX3_init_26 : decode cX3_init 26 = .ok (.putfield 17, 3) := by decide +kernel
theorem dX3_init_29 : decode cX3_init 29 = .ok (.aload_n 0, 1) := by decide +kernel
theorem dX3_init_30 : decode cX3_init 30 = .ok (.sipush 6400, 3) := by decide +kernel
theorem dX3_init_33 : decode cX3_init 33 = .ok (.newarray .int, 2) := by decide +kernel
theorem dX3_init_35 : decode cX3_init 35 = .ok (.putfield 21, 3) := by decide +kernel
theorem dX3_init_38 : decode cX3_init 38 = .ok (.aload_n 0, 1) := by decide +kernel
theorem dX3_init_39 : decode cX3_init 39 = .ok (.ldc 24, 2) := by decide +kernel
theorem dX3_init_41 : decode cX3_init 41 = .ok (.newarray .int, 2) := by decide +kernel
theorem dX3_init_43 : decode cX3_init 43 = .ok (.putfield 25, 3) := by decide +kernel
theorem dX3_init_46 : decode cX3_init 46 = .ok (.aload_n 0, 1) := by decide +kernel
theorem dX3_init_47 : decode cX3_init 47 = .ok (.sipush 6400, 3) := by decide +kernel
theorem dX3_init_50 : decode cX3_init 50 = .ok (.newarray .boolean, 2) := by decide +kernel
theorem dX3_init_52 : decode cX3_init 52 = .ok (.putfield 28, 3) := by decide +kernel
theorem dX3_init_55 : decode cX3_init 55 = .ok (.aload_n 0, 1) := by decide +kernel
theorem dX3_init_56 : decode cX3_init 56 = .ok (.sipush 6400, 3) := by decide +kernel
theorem dX3_init_59 : decode cX3_init 59 = .ok (.newarray .int, 2) := by decide +kernel
theorem dX3_init_61 : decode cX3_init 61 = .ok (.putfield 32, 3) := by decide +kernel
theorem dX3_init_64 : decode cX3_init 64 = .ok (.aload_n 0, 1) := by decide +kernel
theorem dX3_init_65 : decode cX3_init 65 = .ok (.sipush 300, 3) := by decide +kernel
theorem dX3_init_68 : decode cX3_init 68 = .ok (.newarray .int, 2) := by decide +kernel
theorem dX3_init_70 : decode cX3_init 70 = .ok (.putfield 35, 3) := by decide +kernel
theorem dX3_init_73 : decode cX3_init 73 = .ok (.aload_n 0, 1) := by decide +kernel
theorem dX3_init_74 : decode cX3_init 74 = .ok (.sipush 300, 3) := by decide +kernel
theorem dX3_init_77 : decode cX3_init 77 = .ok (.newarray .int, 2) := by decide +kernel
theorem dX3_init_79 : decode cX3_init 79 = .ok (.putfield 38, 3) := by decide +kernel
theorem dX3_init_82 : decode cX3_init 82 = .ok (.aload_n 0, 1) := by decide +kernel
theorem dX3_init_83 : decode cX3_init 83 = .ok (.sipush 300, 3) := by decide +kernel
theorem dX3_init_86 : decode cX3_init 86 = .ok (.newarray .long, 2) := by decide +kernel
theorem dX3_init_88 : decode cX3_init 88 = .ok (.putfield 41, 3) := by decide +kernel
theorem dX3_init_91 : decode cX3_init 91 = .ok (.aload_n 0, 1) := by decide +kernel
theorem dX3_init_92 : decode cX3_init 92 = .ok (.bipush 25, 2) := by decide +kernel
theorem dX3_init_94 : decode cX3_init 94 = .ok (.newarray .int, 2) := by decide +kernel
theorem dX3_init_96 : decode cX3_init 96 = .ok (.putfield 44, 3) := by decide +kernel
theorem dX3_init_99 : decode cX3_init 99 = .ok (.aload_n 0, 1) := by decide +kernel
theorem dX3_init_100 : decode cX3_init 100 = .ok (.sipush 300, 3) := by decide +kernel
theorem dX3_init_103 : decode cX3_init 103 = .ok (.newarray .int, 2) := by decide +kernel
theorem dX3_init_105 : decode cX3_init 105 = .ok (.putfield 47, 3) := by decide +kernel
theorem dX3_init_108 : decode cX3_init 108 = .ok (.aload_n 0, 1) := by decide +kernel
theorem dX3_init_109 : decode cX3_init 109 = .ok (.sipush 300, 3) := by decide +kernel
theorem dX3_init_112 : decode cX3_init 112 = .ok (.newarray .int, 2) := by decide +kernel
theorem dX3_init_114 : decode cX3_init 114 = .ok (.putfield 50, 3) := by decide +kernel
theorem dX3_init_117 : decode cX3_init 117 = .ok (.aload_n 0, 1) := by decide +kernel
theorem dX3_init_118 : decode cX3_init 118 = .ok (.sipush 300, 3) := by decide +kernel
theorem dX3_init_121 : decode cX3_init 121 = .ok (.newarray .long, 2) := by decide +kernel
theorem dX3_init_123 : decode cX3_init 123 = .ok (.putfield 53, 3) := by decide +kernel
theorem dX3_init_126 : decode cX3_init 126 = .ok (.aload_n 0, 1) := by decide +kernel
theorem dX3_init_127 : decode cX3_init 127 = .ok (.bipush 24, 2) := by decide +kernel
theorem dX3_init_129 : decode cX3_init 129 = .ok (.newarray .int, 2) := by decide +kernel
theorem dX3_init_131 : decode cX3_init 131 = .ok (.putfield 56, 3) := by decide +kernel
theorem dX3_init_134 : decode cX3_init 134 = .ok (.aload_n 0, 1) := by decide +kernel
theorem dX3_init_135 : decode cX3_init 135 = .ok (.sipush 300, 3) := by decide +kernel
theorem dX3_init_138 : decode cX3_init 138 = .ok (.newarray .int, 2) := by decide +kernel
theorem dX3_init_140 : decode cX3_init 140 = .ok (.putfield 59, 3) := by decide +kernel
theorem dX3_init_143 : decode cX3_init 143 = .ok (.aload_n 0, 1) := by decide +kernel
theorem dX3_init_144 : decode cX3_init 144 = .ok (.sipush 300, 3) := by decide +kernel
theorem dX3_init_147 : decode cX3_init 147 = .ok (.newarray .int, 2) := by decide +kernel
theorem dX3_init_149 : decode cX3_init 149 = .ok (.putfield 62, 3) := by decide +kernel
theorem dX3_init_152 : decode cX3_init 152 = .ok (.aload_n 0, 1) := by decide +kernel
theorem dX3_init_153 : decode cX3_init 153 = .ok (.sipush 300, 3) := by decide +kernel
theorem dX3_init_156 : decode cX3_init 156 = .ok (.newarray .long, 2) := by decide +kernel
theorem dX3_init_158 : decode cX3_init 158 = .ok (.putfield 65, 3) := by decide +kernel
theorem dX3_init_161 : decode cX3_init 161 = .ok (.iconst 0, 1) := by decide +kernel
theorem dX3_init_162 : decode cX3_init 162 = .ok (.istore_n 1, 1) := by decide +kernel
theorem dX3_init_163 : decode cX3_init 163 = .ok (.iload_n 1, 1) := by decide +kernel
theorem dX3_init_164 : decode cX3_init 164 = .ok (.bipush 12, 2) := by decide +kernel
theorem dX3_init_166 : decode cX3_init 166 = .ok (.if_icmp .ge 16, 3) := by decide +kernel
theorem dX3_init_169 : decode cX3_init 169 = .ok (.aload_n 0, 1) := by decide +kernel
theorem dX3_init_170 : decode cX3_init 170 = .ok (.getfield 7, 3) := by decide +kernel
theorem dX3_init_173 : decode cX3_init 173 = .ok (.iload_n 1, 1) := by decide +kernel
theorem dX3_init_174 : decode cX3_init 174 = .ok (.iconst (-1), 1) := by decide +kernel
theorem dX3_init_175 : decode cX3_init 175 = .ok (.iastore, 1) := by decide +kernel
theorem dX3_init_176 : decode cX3_init 176 = .ok (.iinc 1 1, 3) := by decide +kernel
theorem dX3_init_179 : decode cX3_init 179 = .ok (.goto (-16), 3) := by decide +kernel
theorem dX3_init_182 : decode cX3_init 182 = .ok (.return_, 1) := by decide +kernel
theorem dX3_in_0 : decode cX3_in 0 = .ok (.lload_n 0, 1) := by decide +kernel
theorem dX3_in_1 : decode cX3_in 1 = .ok (.lload_n 2, 1) := by decide +kernel
theorem dX3_in_2 : decode cX3_in 2 = .ok (.lcmp, 1) := by decide +kernel
theorem dX3_in_3 : decode cX3_in 3 = .ok (.ifCond .lt 14, 3) := by decide +kernel
theorem dX3_in_6 : decode cX3_in 6 = .ok (.lload_n 0, 1) := by decide +kernel
theorem dX3_in_7 : decode cX3_in 7 = .ok (.lload 4, 2) := by decide +kernel
theorem dX3_in_9 : decode cX3_in 9 = .ok (.lcmp, 1) := by decide +kernel
theorem dX3_in_10 : decode cX3_in 10 = .ok (.ifCond .gt 7, 3) := by decide +kernel
theorem dX3_in_13 : decode cX3_in 13 = .ok (.iconst 1, 1) := by decide +kernel
theorem dX3_in_14 : decode cX3_in 14 = .ok (.goto 4, 3) := by decide +kernel
theorem dX3_in_17 : decode cX3_in 17 = .ok (.iconst 0, 1) := by decide +kernel
theorem dX3_in_18 : decode cX3_in 18 = .ok (.ireturn, 1) := by decide +kernel
set_option maxRecDepth 20000 in
theorem ggX3_isSlot_X3_in : GoodIn wsX3_isSlot wsX3_in := goodIn_r _ [5] (by decide +kernel) (by decide +kernel)
set_option maxRecDepth 20000 in
theorem gX3_isSlot_X3_in : GoodIn wsX3_isSlot (va_wsS RX3 70 yX3_in wsX3_in) := goodIn_app (goodIn_of _ (by decide +kernel)) ggX3_isSlot_X3_in
theorem dX3_isSlot_0 : decode cX3_isSlot 0 = .ok (.iload_n 0, 1) := by decide +kernel
theorem dX3_isSlot_1 : decode cX3_isSlot 1 = .ok (.i2l, 1) := by decide +kernel
theorem dX3_isSlot_2 : decode cX3_isSlot 2 = .ok (.lconst 0, 1) := by decide +kernel
theorem dX3_isSlot_3 : decode cX3_isSlot 3 = .ok (.ldc2_w 68, 3) := by decide +kernel
theorem dX3_isSlot_6 : decode cX3_isSlot 6 = .ok (.invokestatic 70, 3) := by decide +kernel
theorem dX3_isSlot_9 : decode cX3_isSlot 9 = .ok (.ireturn, 1) := by decide +kernel
theorem dX3_isLink_0 : decode cX3_isLink 0 = .ok (.iload_n 0, 1) := by decide +kernel
theorem dX3_isLink_1 : decode cX3_isLink 1 = .ok (.bipush 8, 2) := by decide +kernel
theorem dX3_isLink_3 : decode cX3_isLink 3 = .ok (.if_icmp .eq 15, 3) := by decide +kernel
theorem dX3_isLink_6 : decode cX3_isLink 6 = .ok (.iload_n 0, 1) := by decide +kernel
theorem dX3_isLink_7 : decode cX3_isLink 7 = .ok (.bipush 11, 2) := by decide +kernel
theorem dX3_isLink_9 : decode cX3_isLink 9 = .ok (.if_icmp .eq 9, 3) := by decide +kernel
theorem dX3_isLink_12 : decode cX3_isLink 12 = .ok (.iload_n 0, 1) := by decide +kernel
theorem dX3_isLink_13 : decode cX3_isLink 13 = .ok (.bipush 15, 2) := by decide +kernel
theorem dX3_isLink_15 : decode cX3_isLink 15 = .ok (.if_icmp .ne 7, 3) := by decide +kernel
theorem dX3_isLink_18 : decode cX3_isLink 18 = .ok (.iconst 1, 1) := by decide +kernel
theorem dX3_isLink_19 : decode cX3_isLink 19 = .ok (.goto 4, 3) := by decide +kernel
theorem dX3_isLink_22 : decode cX3_isLink 22 = .ok (.iconst 0, 1) := by decide +kernel
theorem dX3_isLink_23 : decode cX3_isLink 23 = .ok (.ireturn, 1) := by decide +kernel
theorem dX3_has_0 : decode cX3_has 0 = .ok (.iload_n 0, 1) := by decide +kernel
theorem dX3_has_1 : decode cX3_has 1 = .ok (.ifCond .ne 17, 3) := by decide +kernel
theorem dX3_has_4 : decode cX3_has 4 = .ok (.iload_n 1, 1) := by decide +kernel
theorem dX3_has_5 : decode cX3_has 5 = .ok (.bipush 10, 2) := by decide +kernel
theorem dX3_has_7 : decode cX3_has 7 = .ok (.if_icmp .ge 7, 3) := by decide +kernel
theorem dX3_has_10 : decode cX3_has 10 = .ok (.iconst 1, 1) := by decide +kernel
theorem dX3_has_11 : decode cX3_has 11 = .ok (.goto 81, 3) := by decide +kernel
theorem dX3_has_14 : decode cX3_has 14 = .ok (.iconst 0, 1) := by decide +kernel
theorem dX3_has_15 : decode cX3_has 15 = .ok (.goto 77, 3) := by decide +kernel
theorem dX3_has_18 : decode cX3_has 18 = .ok (.iload_n 0, 1) := by decide +kernel
theorem dX3_has_19 : decode cX3_has 19 = .ok (.iconst 1, 1) := by decide +kernel
theorem dX3_has_20 : decode cX3_has 20 = .ok (.if_icmp .ne 17, 3) := by decide +kernel
theorem dX3_has_23 : decode cX3_has 23 = .ok (.iload_n 1, 1) := by decide +kernel
theorem dX3_has_24 : decode cX3_has 24 = .ok (.bipush 12, 2) := by decide +kernel
theorem dX3_has_26 : decode cX3_has 26 = .ok (.if_icmp .ge 7, 3) := by decide +kernel
theorem dX3_has_29 : decode cX3_has 29 = .ok (.iconst 1, 1) := by decide +kernel
theorem dX3_has_30 : decode cX3_has 30 = .ok (.goto 62, 3) := by decide +kernel
theorem dX3_has_33 : decode cX3_has 33 = .ok (.iconst 0, 1) := by decide +kernel
theorem dX3_has_34 : decode cX3_has 34 = .ok (.goto 58, 3) := by decide +kernel
theorem dX3_has_37 : decode cX3_has 37 = .ok (.iload_n 0, 1) := by decide +kernel
theorem dX3_has_38 : decode cX3_has 38 = .ok (.iconst 2, 1) := by decide +kernel
theorem dX3_has_39 : decode cX3_has 39 = .ok (.if_icmp .ne 17, 3) := by decide +kernel
theorem dX3_has_42 : decode cX3_has 42 = .ok (.iload_n 1, 1) := by decide +kernel
theorem dX3_has_43 : decode cX3_has 43 = .ok (.bipush 14, 2) := by decide +kernel
theorem dX3_has_45 : decode cX3_has 45 = .ok (.if_icmp .ge 7, 3) := by decide +kernel
theorem dX3_has_48 : decode cX3_has 48 = .ok (.iconst 1, 1) := by decide +kernel
theorem dX3_has_49 : decode cX3_has 49 = .ok (.goto 43, 3) := by decide +kernel
theorem dX3_has_52 : decode cX3_has 52 = .ok (.iconst 0, 1) := by decide +kernel
theorem dX3_has_53 : decode cX3_has 53 = .ok (.goto 39, 3) := by decide +kernel
theorem dX3_has_56 : decode cX3_has 56 = .ok (.iload_n 0, 1) := by decide +kernel
theorem dX3_has_57 : decode cX3_has 57 = .ok (.iconst 3, 1) := by decide +kernel
theorem dX3_has_58 : decode cX3_has 58 = .ok (.if_icmp .ne 23, 3) := by decide +kernel
theorem dX3_has_61 : decode cX3_has 61 = .ok (.iload_n 1, 1) := by decide +kernel
theorem dX3_has_62 : decode cX3_has 62 = .ok (.bipush 14, 2) := by decide +kernel
theorem dX3_has_64 : decode cX3_has 64 = .ok (.if_icmp .eq 9, 3) := by decide +kernel
theorem dX3_has_67 : decode cX3_has 67 = .ok (.iload_n 1, 1) := by decide +kernel
theorem dX3_has_68 : decode cX3_has 68 = .ok (.bipush 15, 2) := by decide +kernel
theorem dX3_has_70 : decode cX3_has 70 = .ok (.if_icmp .ne 7, 3) := by decide +kernel
theorem dX3_has_73 : decode cX3_has 73 = .ok (.iconst 1, 1) := by decide +kernel
theorem dX3_has_74 : decode cX3_has 74 = .ok (.goto 18, 3) := by decide +kernel
theorem dX3_has_77 : decode cX3_has 77 = .ok (.iconst 0, 1) := by decide +kernel
theorem dX3_has_78 : decode cX3_has 78 = .ok (.goto 14, 3) := by decide +kernel
theorem dX3_has_81 : decode cX3_has 81 = .ok (.iload_n 1, 1) := by decide +kernel
theorem dX3_has_82 : decode cX3_has 82 = .ok (.bipush 16, 2) := by decide +kernel
theorem dX3_has_84 : decode cX3_has 84 = .ok (.if_icmp .ne 7, 3) := by decide +kernel
theorem dX3_has_87 : decode cX3_has 87 = .ok (.iconst 1, 1) := by decide +kernel
theorem dX3_has_88 : decode cX3_has 88 = .ok (.goto 4, 3) := by decide +kernel
theorem dX3_has_91 : decode cX3_has 91 = .ok (.iconst 0, 1) := by decide +kernel
theorem dX3_has_92 : decode cX3_has 92 = .ok (.ireturn, 1) := by decide +kernel
theorem dX3_isBelow_0 : decode cX3_isBelow 0 = .ok (.iload_n 1, 1) := by decide +kernel
theorem dX3_isBelow_1 : decode cX3_isBelow 1 = .ok (.iconst 5, 1) := by decide +kernel
theorem dX3_isBelow_2 : decode cX3_isBelow 2 = .ok (.if_icmp .ne 16, 3) := by decide +kernel
theorem dX3_isBelow_5 : decode cX3_isBelow 5 = .ok (.iload_n 0, 1) := by decide +kernel
theorem dX3_isBelow_6 : decode cX3_isBelow 6 = .ok (.iconst 4, 1) := by decide +kernel
theorem dX3_isBelow_7 : decode cX3_isBelow 7 = .ok (.if_icmp .ge 7, 3) := by decide +kernel
theorem dX3_isBelow_10 : decode cX3_isBelow 10 = .ok (.iconst 1, 1) := by decide +kernel
theorem dX3_isBelow_11 : decode cX3_isBelow 11 = .ok (.goto 27, 3) := by decide +kernel
theorem dX3_isBelow_14 : decode cX3_isBelow 14 = .ok (.iconst 0, 1) := by decide +kernel
theorem dX3_isBelow_15 : decode cX3_isBelow 15 = .ok (.goto 23, 3) := by decide +kernel
theorem dX3_isBelow_18 : decode cX3_isBelow 18 = .ok (.iload_n 0, 1) := by decide +kernel
theorem dX3_isBelow_19 : decode cX3_isBelow 19 = .ok (.iload_n 1, 1) := by decide +kernel
theorem dX3_isBelow_20 : decode cX3_isBelow 20 = .ok (.if_icmp .eq 13, 3) := by decide +kernel
theorem dX3_isBelow_23 : decode cX3_isBelow 23 = .ok (.iload_n 1, 1) := by decide +kernel
theorem dX3_isBelow_24 : decode cX3_isBelow 24 = .ok (.iload_n 0, 1) := by decide +kernel
theorem dX3_isBelow_25 : decode cX3_isBelow 25 = .ok (.if_icmp .ge 12, 3) := by decide +kernel
theorem dX3_isBelow_28 : decode cX3_isBelow 28 = .ok (.iload_n 0, 1) := by decide +kernel
theorem dX3_isBelow_29 : decode cX3_isBelow 29 = .ok (.iconst 3, 1) := by decide +kernel
theorem dX3_isBelow_30 : decode cX3_isBelow 30 = .ok (.if_icmp .ge 7, 3) := by decide +kernel
theorem dX3_isBelow_33 : decode cX3_isBelow 33 = .ok (.iconst 1, 1) := by decide +kernel
theorem dX3_isBelow_34 : decode cX3_isBelow 34 = .ok (.goto 4, 3) := by decide +kernel
theorem dX3_isBelow_37 : decode cX3_isBelow 37 = .ok (.iconst 0, 1) := by decide +kernel
theorem dX3_isBelow_38 : decode cX3_isBelow 38 = .ok (.ireturn, 1) := by decide +kernel
theorem dX3_mayBeIn_0 : decode cX3_mayBeIn 0 = .ok (.iload_n 1, 1) := by decide +kernel
theorem dX3_mayBeIn_1 : decode cX3_mayBeIn 1 = .ok (.bipush 8, 2) := by decide +kernel
theorem dX3_mayBeIn_3 : decode cX3_mayBeIn 3 = .ok (.if_icmp .ne 16, 3) := by decide +kernel
theorem dX3_mayBeIn_6 : decode cX3_mayBeIn 6 = .ok (.iload_n 0, 1) := by decide +kernel
theorem dX3_mayBeIn_7 : decode cX3_mayBeIn 7 = .ok (.iconst 3, 1) := by decide +kernel
theorem dX3_mayBeIn_8 : decode cX3_mayBeIn 8 = .ok (.if_icmp .ge 7, 3) := by decide +kernel
theorem dX3_mayBeIn_11 : decode cX3_mayBeIn 11 = .ok (.iconst 1, 1) := by decide +kernel
theorem dX3_mayBeIn_12 : decode cX3_mayBeIn 12 = .ok (.goto 41, 3) := by decide +kernel
theorem dX3_mayBeIn_15 : decode cX3_mayBeIn 15 = .ok (.iconst 0, 1) := by decide +kernel
theorem dX3_mayBeIn_16 : decode cX3_mayBeIn 16 = .ok (.goto 37, 3) := by decide +kernel
theorem dX3_mayBeIn_19 : decode cX3_mayBeIn 19 = .ok (.iload_n 1, 1) := by decide +kernel
theorem dX3_mayBeIn_20 : decode cX3_mayBeIn 20 = .ok (.bipush 11, 2) := by decide +kernel
theorem dX3_mayBeIn_22 : decode cX3_mayBeIn 22 = .ok (.if_icmp .ne 21, 3) := by decide +kernel
theorem dX3_mayBeIn_25 : decode cX3_mayBeIn 25 = .ok (.iload_n 0, 1) := by decide +kernel
theorem dX3_mayBeIn_26 : decode cX3_mayBeIn 26 = .ok (.iconst 1, 1) := by decide +kernel
theorem dX3_mayBeIn_27 : decode cX3_mayBeIn 27 = .ok (.if_icmp .eq 8, 3) := by decide +kernel
theorem dX3_mayBeIn_30 : decode cX3_mayBeIn 30 = .ok (.iload_n 0, 1) := by decide +kernel
theorem dX3_mayBeIn_31 : decode cX3_mayBeIn 31 = .ok (.iconst 2, 1) := by decide +kernel
theorem dX3_mayBeIn_32 : decode cX3_mayBeIn 32 = .ok (.if_icmp .ne 7, 3) := by decide +kernel
theorem dX3_mayBeIn_35 : decode cX3_mayBeIn 35 = .ok (.iconst 1, 1) := by decide +kernel
theorem dX3_mayBeIn_36 : decode cX3_mayBeIn 36 = .ok (.goto 17, 3) := by decide +kernel
theorem dX3_mayBeIn_39 : decode cX3_mayBeIn 39 = .ok (.iconst 0, 1) := by decide +kernel
theorem dX3_mayBeIn_40 : decode cX3_mayBeIn 40 = .ok (.goto 13, 3) := by decide +kernel
theorem dX3_mayBeIn_43 : decode cX3_mayBeIn 43 = .ok (.iload_n 0, 1) := by decide +kernel
theorem dX3_mayBeIn_44 : decode cX3_mayBeIn 44 = .ok (.iconst 4, 1) := by decide +kernel
theorem dX3_mayBeIn_45 : decode cX3_mayBeIn 45 = .ok (.if_icmp .ge 7, 3) := by decide +kernel
theorem dX3_mayBeIn_48 : decode cX3_mayBeIn 48 = .ok (.iconst 1, 1) := by decide +kernel
theorem dX3_mayBeIn_49 : decode cX3_mayBeIn 49 = .ok (.goto 4, 3) := by decide +kernel
theorem dX3_mayBeIn_52 : decode cX3_mayBeIn 52 = .ok (.iconst 0, 1) := by decide +kernel
theorem dX3_mayBeIn_53 : decode cX3_mayBeIn 53 = .ok (.ireturn, 1) := by decide +kernel
set_option maxRecDepth 20000 in
theorem ggX3_lookWhatIsHeld_X3_isLink : GoodIn wsX3_lookWhatIsHeld wsX3_isLink := goodIn_r _ [9] (by decide +kernel) (by decide +kernel)
set_option maxRecDepth 20000 in
theorem gX3_lookWhatIsHeld_X3_isLink : GoodIn wsX3_lookWhatIsHeld (va_wsS RX3 74 yX3_isLink wsX3_isLink) := goodIn_app (goodIn_of _ (by decide +kernel)) ggX3_lookWhatIsHeld_X3_isLink
set_option maxRecDepth 20000 in
theorem ggX3_lookWhatIsHeld_X3_has : GoodIn wsX3_lookWhatIsHeld wsX3_has := goodIn_r _ [12] (by decide +kernel) (by decide +kernel)
set_option maxRecDepth 20000 in
theorem gX3_lookWhatIsHeld_X3_has : GoodIn wsX3_lookWhatIsHeld (va_wsS RX3 78 yX3_has wsX3_has) := goodIn_app (goodIn_of _ (by decide +kernel)) ggX3_lookWhatIsHeld_X3_has
theorem dX3_lookWhatIsHeld_0 : decode cX3_lookWhatIsHeld 0 = .ok (.iconst 0, 1) := by decide +kernel
theorem dX3_lookWhatIsHeld_1 : decode cX3_lookWhatIsHeld 1 = .ok (.istore_n 1, 1) := by decide +kernel
theorem dX3_lookWhatIsHeld_2 : decode cX3_lookWhatIsHeld 2 = .ok (.iload_n 1, 1) := by decide +kernel
theorem dX3_lookWhatIsHeld_3 : decode cX3_lookWhatIsHeld 3 = .ok (.sipush 6400, 3) := by decide +kernel
theorem dX3_lookWhatIsHeld_6 : decode cX3_lookWhatIsHeld 6 = .ok (.if_icmp .ge 16, 3) := by decide +kernel
theorem dX3_lookWhatIsHeld_9 : decode cX3_lookWhatIsHeld 9 = .ok (.aload_n 0, 1) := by decide +kernel
theorem dX3_lookWhatIsHeld_10 : decode cX3_lookWhatIsHeld 10 = .ok (.getfield 28, 3) := by decide +kernel
theorem dX3_lookWhatIsHeld_13 : decode cX3_lookWhatIsHeld 13 = .ok (.iload_n 1, 1) := by decide +kernel
theorem dX3_lookWhatIsHeld_14 : decode cX3_lookWhatIsHeld 14 = .ok (.iconst 0, 1) := by decide +kernel
theorem dX3_lookWhatIsHeld_15 : decode cX3_lookWhatIsHeld 15 = .ok (.bastore, 1) := by decide +kernel
theorem dX3_lookWhatIsHeld_16 : decode cX3_lookWhatIsHeld 16 = .ok (.iinc 1 1, 3) := by decide +kernel
theorem dX3_lookWhatIsHeld_19 : decode cX3_lookWhatIsHeld 19 = .ok (.goto (-17), 3) := by decide +kernel
theorem dX3_lookWhatIsHeld_22 : decode cX3_lookWhatIsHeld 22 = .ok (.iconst 0, 1) := by decide +kernel
theorem dX3_lookWhatIsHeld_23 : decode cX3_lookWhatIsHeld 23 = .ok (.istore_n 1, 1) := by decide +kernel
theorem dX3_lookWhatIsHeld_24 : decode cX3_lookWhatIsHeld 24 = .ok (.iconst 0, 1) := by decide +kernel
theorem dX3_lookWhatIsHeld_25 : decode cX3_lookWhatIsHeld 25 = .ok (.istore_n 2, 1) := by decide +kernel
theorem dX3_lookWhatIsHeld_26 : decode cX3_lookWhatIsHeld 26 = .ok (.iload_n 2, 1) := by decide +kernel
theorem dX3_lookWhatIsHeld_27 : decode cX3_lookWhatIsHeld 27 = .ok (.bipush 12, 2) := by decide +kernel
theorem dX3_lookWhatIsHeld_29 : decode cX3_lookWhatIsHeld 29 = .ok (.if_icmp .ge 60, 3) := by decide +kernel
theorem dX3_lookWhatIsHeld_32 : decode cX3_lookWhatIsHeld 32 = .ok (.aload_n 0, 1) := by decide +kernel
theorem dX3_lookWhatIsHeld_33 : decode cX3_lookWhatIsHeld 33 = .ok (.getfield 7, 3) := by decide +kernel
theorem dX3_lookWhatIsHeld_36 : decode cX3_lookWhatIsHeld 36 = .ok (.iload_n 2, 1) := by decide +kernel
theorem dX3_lookWhatIsHeld_37 : decode cX3_lookWhatIsHeld 37 = .ok (.iaload, 1) := by decide +kernel
theorem dX3_lookWhatIsHeld_38 : decode cX3_lookWhatIsHeld 38 = .ok (.iconst (-1), 1) := by decide +kernel
theorem dX3_lookWhatIsHeld_39 : decode cX3_lookWhatIsHeld 39 = .ok (.if_icmp .eq 44, 3) := by decide +kernel
theorem dX3_lookWhatIsHeld_42 : decode cX3_lookWhatIsHeld 42 = .ok (.aload_n 0, 1) := by decide +kernel
theorem dX3_lookWhatIsHeld_43 : decode cX3_lookWhatIsHeld 43 = .ok (.getfield 28, 3) := by decide +kernel
theorem dX3_lookWhatIsHeld_46 : decode cX3_lookWhatIsHeld 46 = .ok (.aload_n 0, 1) := by decide +kernel
theorem dX3_lookWhatIsHeld_47 : decode cX3_lookWhatIsHeld 47 = .ok (.getfield 7, 3) := by decide +kernel
theorem dX3_lookWhatIsHeld_50 : decode cX3_lookWhatIsHeld 50 = .ok (.iload_n 2, 1) := by decide +kernel
theorem dX3_lookWhatIsHeld_51 : decode cX3_lookWhatIsHeld 51 = .ok (.iaload, 1) := by decide +kernel
theorem dX3_lookWhatIsHeld_52 : decode cX3_lookWhatIsHeld 52 = .ok (.baload, 1) := by decide +kernel
theorem dX3_lookWhatIsHeld_53 : decode cX3_lookWhatIsHeld 53 = .ok (.ifCond .ne 30, 3) := by decide +kernel
theorem dX3_lookWhatIsHeld_56 : decode cX3_lookWhatIsHeld 56 = .ok (.aload_n 0, 1) := by decide +kernel
theorem dX3_lookWhatIsHeld_57 : decode cX3_lookWhatIsHeld 57 = .ok (.getfield 28, 3) := by decide +kernel
theorem dX3_lookWhatIsHeld_60 : decode cX3_lookWhatIsHeld 60 = .ok (.aload_n 0, 1) := by decide +kernel
theorem dX3_lookWhatIsHeld_61 : decode cX3_lookWhatIsHeld 61 = .ok (.getfield 7, 3) := by decide +kernel
theorem dX3_lookWhatIsHeld_64 : decode cX3_lookWhatIsHeld 64 = .ok (.iload_n 2, 1) := by decide +kernel
theorem dX3_lookWhatIsHeld_65 : decode cX3_lookWhatIsHeld 65 = .ok (.iaload, 1) := by decide +kernel
theorem dX3_lookWhatIsHeld_66 : decode cX3_lookWhatIsHeld 66 = .ok (.iconst 1, 1) := by decide +kernel
theorem dX3_lookWhatIsHeld_67 : decode cX3_lookWhatIsHeld 67 = .ok (.bastore, 1) := by decide +kernel
theorem dX3_lookWhatIsHeld_68 : decode cX3_lookWhatIsHeld 68 = .ok (.aload_n 0, 1) := by decide +kernel
theorem dX3_lookWhatIsHeld_69 : decode cX3_lookWhatIsHeld 69 = .ok (.getfield 32, 3) := by decide +kernel
theorem dX3_lookWhatIsHeld_72 : decode cX3_lookWhatIsHeld 72 = .ok (.iload_n 1, 1) := by decide +kernel
theorem dX3_lookWhatIsHeld_73 : decode cX3_lookWhatIsHeld 73 = .ok (.aload_n 0, 1) := by decide +kernel
theorem dX3_lookWhatIsHeld_74 : decode cX3_lookWhatIsHeld 74 = .ok (.getfield 7, 3) := by decide +kernel
theorem dX3_lookWhatIsHeld_77 : decode cX3_lookWhatIsHeld 77 = .ok (.iload_n 2, 1) := by decide +kernel
theorem dX3_lookWhatIsHeld_78 : decode cX3_lookWhatIsHeld 78 = .ok (.iaload, 1) := by decide +kernel
theorem dX3_lookWhatIsHeld_79 : decode cX3_lookWhatIsHeld 79 = .ok (.iastore, 1) := by decide +kernel
theorem dX3_lookWhatIsHeld_80 : decode cX3_lookWhatIsHeld 80 = .ok (.iinc 1 1, 3) := by decide +kernel
theorem dX3_lookWhatIsHeld_83 : decode cX3_lookWhatIsHeld 83 = .ok (.iinc 2 1, 3) := by decide +kernel
theorem dX3_lookWhatIsHeld_86 : decode cX3_lookWhatIsHeld 86 = .ok (.goto (-60), 3) := by decide +kernel
theorem dX3_lookWhatIsHeld_89 : decode cX3_lookWhatIsHeld 89 = .ok (.iload_n 1, 1) := by decide +kernel
theorem dX3_lookWhatIsHeld_90 : decode cX3_lookWhatIsHeld 90 = .ok (.ifCond .le 100, 3) := by decide +kernel
theorem dX3_lookWhatIsHeld_93 : decode cX3_lookWhatIsHeld 93 = .ok (.iinc 1 (-1), 3) := by decide +kernel
theorem dX3_lookWhatIsHeld_96 : decode cX3_lookWhatIsHeld 96 = .ok (.aload_n 0, 1) := by decide +kernel
theorem dX3_lookWhatIsHeld_97 : decode cX3_lookWhatIsHeld 97 = .ok (.getfield 32, 3) := by decide +kernel
theorem dX3_lookWhatIsHeld_100 : decode cX3_lookWhatIsHeld 100 = .ok (.iload_n 1, 1) := by decide +kernel
theorem dX3_lookWhatIsHeld_101 : decode cX3_lookWhatIsHeld 101 = .ok (.iaload, 1) := by decide +kernel
theorem dX3_lookWhatIsHeld_102 : decode cX3_lookWhatIsHeld 102 = .ok (.istore_n 2, 1) := by decide +kernel
theorem dX3_lookWhatIsHeld_103 : decode cX3_lookWhatIsHeld 103 = .ok (.bipush 8, 2) := by decide +kernel
theorem dX3_lookWhatIsHeld_105 : decode cX3_lookWhatIsHeld 105 = .ok (.istore_n 3, 1) := by decide +kernel
theorem dX3_lookWhatIsHeld_106 : decode cX3_lookWhatIsHeld 106 = .ok (.iload_n 3, 1) := by decide +kernel
theorem dX3_lookWhatIsHeld_107 : decode cX3_lookWhatIsHeld 107 = .ok (.bipush 16, 2) := by decide +kernel
theorem dX3_lookWhatIsHeld_109 : decode cX3_lookWhatIsHeld 109 = .ok (.if_icmp .ge 78, 3) := by decide +kernel
theorem dX3_lookWhatIsHeld_112 : decode cX3_lookWhatIsHeld 112 = .ok (.iload_n 3, 1) := by decide +kernel
theorem dX3_lookWhatIsHeld_113 : decode cX3_lookWhatIsHeld 113 = .ok (.invokestatic 74, 3) := by decide +kernel
theorem dX3_lookWhatIsHeld_116 : decode cX3_lookWhatIsHeld 116 = .ok (.ifCond .eq 65, 3) := by decide +kernel
theorem dX3_lookWhatIsHeld_119 : decode cX3_lookWhatIsHeld 119 = .ok (.aload_n 0, 1) := by decide +kernel
theorem dX3_lookWhatIsHeld_120 : decode cX3_lookWhatIsHeld 120 = .ok (.getfield 13, 3) := by decide +kernel
theorem dX3_lookWhatIsHeld_123 : decode cX3_lookWhatIsHeld 123 = .ok (.iload_n 2, 1) := by decide +kernel
theorem dX3_lookWhatIsHeld_124 : decode cX3_lookWhatIsHeld 124 = .ok (.iaload, 1) := by decide +kernel
theorem dX3_lookWhatIsHeld_125 : decode cX3_lookWhatIsHeld 125 = .ok (.iload_n 3, 1) := by decide +kernel
theorem dX3_lookWhatIsHeld_126 : decode cX3_lookWhatIsHeld 126 = .ok (.invokestatic 78, 3) := by decide +kernel
theorem dX3_lookWhatIsHeld_129 : decode cX3_lookWhatIsHeld 129 = .ok (.ifCond .eq 52, 3) := by decide +kernel
theorem dX3_lookWhatIsHeld_132 : decode cX3_lookWhatIsHeld 132 = .ok (.aload_n 0, 1) := by decide +kernel
theorem dX3_lookWhatIsHeld_133 : decode cX3_lookWhatIsHeld 133 = .ok (.getfield 17, 3) := by decide +kernel
theorem dX3_lookWhatIsHeld_136 : decode cX3_lookWhatIsHeld 136 = .ok (.bipush 17, 2) := by decide +kernel
theorem dX3_lookWhatIsHeld_138 : decode cX3_lookWhatIsHeld 138 = .ok (.iload_n 2, 1) := by decide +kernel
theorem dX3_lookWhatIsHeld_139 : decode cX3_lookWhatIsHeld 139 = .ok (.imul, 1) := by decide +kernel
theorem dX3_lookWhatIsHeld_140 : decode cX3_lookWhatIsHeld 140 = .ok (.iload_n 3, 1) := by decide +kernel
theorem dX3_lookWhatIsHeld_141 : decode cX3_lookWhatIsHeld 141 = .ok (.iadd, 1) := by decide +kernel
theorem dX3_lookWhatIsHeld_142 : decode cX3_lookWhatIsHeld 142 = .ok (.laload, 1) := by decide +kernel
theorem dX3_lookWhatIsHeld_143 : decode cX3_lookWhatIsHeld 143 = .ok (.l2i, 1) := by decide +kernel
theorem dX3_lookWhatIsHeld_144 : decode cX3_lookWhatIsHeld 144 = .ok (.istore 4, 2) := by decide +kernel
theorem dX3_lookWhatIsHeld_146 : decode cX3_lookWhatIsHeld 146 = .ok (.iload 4, 2) := by decide +kernel
theorem dX3_lookWhatIsHeld_148 : decode cX3_lookWhatIsHeld 148 = .ok (.iconst (-1), 1) := by decide +kernel
theorem dX3_lookWhatIsHeld_149 : decode cX3_lookWhatIsHeld 149 = .ok (.if_icmp .eq 32, 3) := by decide +kernel
theorem dX3_lookWhatIsHeld_152 : decode cX3_lookWhatIsHeld 152 = .ok (.aload_n 0, 1) := by decide +kernel
theorem dX3_lookWhatIsHeld_153 : decode cX3_lookWhatIsHeld 153 = .ok (.getfield 28, 3) := by decide +kernel
theorem dX3_lookWhatIsHeld_156 : decode cX3_lookWhatIsHeld 156 = .ok (.iload 4, 2) := by decide +kernel
theorem dX3_lookWhatIsHeld_158 : decode cX3_lookWhatIsHeld 158 = .ok (.baload, 1) := by decide +kernel
theorem dX3_lookWhatIsHeld_159 : decode cX3_lookWhatIsHeld 159 = .ok (.ifCond .ne 22, 3) := by decide +kernel
theorem dX3_lookWhatIsHeld_162 : decode cX3_lookWhatIsHeld 162 = .ok (.aload_n 0, 1) := by decide +kernel
theorem dX3_lookWhatIsHeld_163 : decode cX3_lookWhatIsHeld 163 = .ok (.getfield 28, 3) := by decide +kernel
theorem dX3_lookWhatIsHeld_166 : decode cX3_lookWhatIsHeld 166 = .ok (.iload 4, 2) := by decide +kernel
theorem dX3_lookWhatIsHeld_168 : decode cX3_lookWhatIsHeld 168 = .ok (.iconst 1, 1) := by decide +kernel
theorem dX3_lookWhatIsHeld_169 : decode cX3_lookWhatIsHeld 169 = .ok (.bastore, 1) := by decide +kernel
theorem dX3_lookWhatIsHeld_170 : decode cX3_lookWhatIsHeld 170 = .ok (.aload_n 0, 1) := by decide +kernel
theorem dX3_lookWhatIsHeld_171 : decode cX3_lookWhatIsHeld 171 = .ok (.getfield 32, 3) := by decide +kernel
theorem dX3_lookWhatIsHeld_174 : decode cX3_lookWhatIsHeld 174 = .ok (.iload_n 1, 1) := by decide +kernel
theorem dX3_lookWhatIsHeld_175 : decode cX3_lookWhatIsHeld 175 = .ok (.iload 4, 2) := by decide +kernel
theorem dX3_lookWhatIsHeld_177 : decode cX3_lookWhatIsHeld 177 = .ok (.iastore, 1) := by decide +kernel
theorem dX3_lookWhatIsHeld_178 : decode cX3_lookWhatIsHeld 178 = .ok (.iinc 1 1, 3) := by decide +kernel
theorem dX3_lookWhatIsHeld_181 : decode cX3_lookWhatIsHeld 181 = .ok (.iinc 3 1, 3) := by decide +kernel
theorem dX3_lookWhatIsHeld_184 : decode cX3_lookWhatIsHeld 184 = .ok (.goto (-78), 3) := by decide +kernel
theorem dX3_lookWhatIsHeld_187 : decode cX3_lookWhatIsHeld 187 = .ok (.goto (-98), 3) := by decide +kernel
theorem dX3_lookWhatIsHeld_190 : decode cX3_lookWhatIsHeld 190 = .ok (.return_, 1) := by decide +kernel
set_option maxRecDepth 20000 in
theorem ggX3_born_X3_isLink : GoodIn wsX3_born wsX3_isLink := goodIn_r _ [9] (by decide +kernel) (by decide +kernel)
set_option maxRecDepth 20000 in
theorem gX3_born_X3_isLink : GoodIn wsX3_born (va_wsS RX3 74 yX3_isLink wsX3_isLink) := goodIn_app (goodIn_of _ (by decide +kernel)) ggX3_born_X3_isLink
theorem dX3_born_0 : decode cX3_born 0 = .ok (.iconst 0, 1) := by decide +kernel
theorem dX3_born_1 : decode cX3_born 1 = .ok (.istore_n 3, 1) := by decide +kernel
theorem dX3_born_2 : decode cX3_born 2 = .ok (.aload_n 0, 1) := by decide +kernel
theorem dX3_born_3 : decode cX3_born 3 = .ok (.getfield 28, 3) := by decide +kernel
theorem dX3_born_6 : decode cX3_born 6 = .ok (.iload_n 3, 1) := by decide +kernel
theorem dX3_born_7 : decode cX3_born 7 = .ok (.baload, 1) := by decide +kernel
theorem dX3_born_8 : decode cX3_born 8 = .ok (.ifCond .eq 9, 3) := by decide +kernel
theorem dX3_born_11 : decode cX3_born 11 = .ok (.iinc 3 1, 3) := by decide +kernel
theorem dX3_born_14 : decode cX3_born 14 = .ok (.goto (-12), 3) := by decide +kernel
theorem dX3_born_17 : decode cX3_born 17 = .ok (.aload_n 0, 1) := by decide +kernel
theorem dX3_born_18 : decode cX3_born 18 = .ok (.getfield 28, 3) := by decide +kernel
theorem dX3_born_21 : decode cX3_born 21 = .ok (.iload_n 3, 1) := by decide +kernel
theorem dX3_born_22 : decode cX3_born 22 = .ok (.iconst 1, 1) := by decide +kernel
theorem dX3_born_23 : decode cX3_born 23 = .ok (.bastore, 1) := by decide +kernel
theorem dX3_born_24 : decode cX3_born 24 = .ok (.aload_n 0, 1) := by decide +kernel
theorem dX3_born_25 : decode cX3_born 25 = .ok (.getfield 13, 3) := by decide +kernel
theorem dX3_born_28 : decode cX3_born 28 = .ok (.iload_n 3, 1) := by decide +kernel
theorem dX3_born_29 : decode cX3_born 29 = .ok (.iload_n 1, 1) := by decide +kernel
theorem dX3_born_30 : decode cX3_born 30 = .ok (.iastore, 1) := by decide +kernel
theorem dX3_born_31 : decode cX3_born 31 = .ok (.iconst 0, 1) := by decide +kernel
theorem dX3_born_32 : decode cX3_born 32 = .ok (.istore 4, 2) := by decide +kernel
theorem dX3_born_34 : decode cX3_born 34 = .ok (.iload 4, 2) := by decide +kernel
theorem dX3_born_36 : decode cX3_born 36 = .ok (.bipush 17, 2) := by decide +kernel
theorem dX3_born_38 : decode cX3_born 38 = .ok (.if_icmp .ge 36, 3) := by decide +kernel
theorem dX3_born_41 : decode cX3_born 41 = .ok (.aload_n 0, 1) := by decide +kernel
theorem dX3_born_42 : decode cX3_born 42 = .ok (.getfield 17, 3) := by decide +kernel
theorem dX3_born_45 : decode cX3_born 45 = .ok (.bipush 17, 2) := by decide +kernel
theorem dX3_born_47 : decode cX3_born 47 = .ok (.iload_n 3, 1) := by decide +kernel
theorem dX3_born_48 : decode cX3_born 48 = .ok (.imul, 1) := by decide +kernel
theorem dX3_born_49 : decode cX3_born 49 = .ok (.iload 4, 2) := by decide +kernel
theorem dX3_born_51 : decode cX3_born 51 = .ok (.iadd, 1) := by decide +kernel
theorem dX3_born_52 : decode cX3_born 52 = .ok (.iload 4, 2) := by decide +kernel
theorem dX3_born_54 : decode cX3_born 54 = .ok (.invokestatic 74, 3) := by decide +kernel
theorem dX3_born_57 : decode cX3_born 57 = .ok (.ifCond .eq 9, 3) := by decide +kernel
theorem dX3_born_60 : decode cX3_born 60 = .ok (.ldc2_w 82, 3) := by decide +kernel
theorem dX3_born_63 : decode cX3_born 63 = .ok (.goto 4, 3) := by decide +kernel
theorem dX3_born_66 : decode cX3_born 66 = .ok (.lconst 0, 1) := by decide +kernel
theorem dX3_born_67 : decode cX3_born 67 = .ok (.lastore, 1) := by decide +kernel
theorem dX3_born_68 : decode cX3_born 68 = .ok (.iinc 4 1, 3) := by decide +kernel
theorem dX3_born_71 : decode cX3_born 71 = .ok (.goto (-37), 3) := by decide +kernel
theorem dX3_born_74 : decode cX3_born 74 = .ok (.aload_n 0, 1) := by decide +kernel
theorem dX3_born_75 : decode cX3_born 75 = .ok (.getfield 21, 3) := by decide +kernel
theorem dX3_born_78 : decode cX3_born 78 = .ok (.iload_n 3, 1) := by decide +kernel
theorem dX3_born_79 : decode cX3_born 79 = .ok (.iconst (-1), 1) := by decide +kernel
theorem dX3_born_80 : decode cX3_born 80 = .ok (.iastore, 1) := by decide +kernel
theorem dX3_born_81 : decode cX3_born 81 = .ok (.iload_n 1, 1) := by decide +kernel
theorem dX3_born_82 : decode cX3_born 82 = .ok (.iconst 2, 1) := by decide +kernel
theorem dX3_born_83 : decode cX3_born 83 = .ok (.if_icmp .ne 17, 3) := by decide +kernel
theorem dX3_born_86 : decode cX3_born 86 = .ok (.aload_n 0, 1) := by decide +kernel
theorem dX3_born_87 : decode cX3_born 87 = .ok (.getfield 17, 3) := by decide +kernel
theorem dX3_born_90 : decode cX3_born 90 = .ok (.bipush 17, 2) := by decide +kernel
theorem dX3_born_92 : decode cX3_born 92 = .ok (.iload_n 3, 1) := by decide +kernel
theorem dX3_born_93 : decode cX3_born 93 = .ok (.imul, 1) := by decide +kernel
theorem dX3_born_94 : decode cX3_born 94 = .ok (.bipush 13, 2) := by decide +kernel
theorem dX3_born_96 : decode cX3_born 96 = .ok (.iadd, 1) := by decide +kernel
theorem dX3_born_97 : decode cX3_born 97 = .ok (.iload_n 2, 1) := by decide +kernel
theorem dX3_born_98 : decode cX3_born 98 = .ok (.i2l, 1) := by decide +kernel
theorem dX3_born_99 : decode cX3_born 99 = .ok (.lastore, 1) := by decide +kernel
theorem dX3_born_100 : decode cX3_born 100 = .ok (.iload_n 1, 1) := by decide +kernel
theorem dX3_born_101 : decode cX3_born 101 = .ok (.iconst 4, 1) := by decide +kernel
theorem dX3_born_102 : decode cX3_born 102 = .ok (.if_icmp .ne 17, 3) := by decide +kernel
theorem dX3_born_105 : decode cX3_born 105 = .ok (.aload_n 0, 1) := by decide +kernel
theorem dX3_born_106 : decode cX3_born 106 = .ok (.getfield 17, 3) := by decide +kernel
theorem dX3_born_109 : decode cX3_born 109 = .ok (.bipush 17, 2) := by decide +kernel
theorem dX3_born_111 : decode cX3_born 111 = .ok (.iload_n 3, 1) := by decide +kernel
theorem dX3_born_112 : decode cX3_born 112 = .ok (.imul, 1) := by decide +kernel
theorem dX3_born_113 : decode cX3_born 113 = .ok (.bipush 16, 2) := by decide +kernel
theorem dX3_born_115 : decode cX3_born 115 = .ok (.iadd, 1) := by decide +kernel
theorem dX3_born_116 : decode cX3_born 116 = .ok (.iload_n 2, 1) := by decide +kernel
theorem dX3_born_117 : decode cX3_born 117 = .ok (.i2l, 1) := by decide +kernel
theorem dX3_born_118 : decode cX3_born 118 = .ok (.lastore, 1) := by decide +kernel
theorem dX3_born_119 : decode cX3_born 119 = .ok (.iload_n 3, 1) := by decide +kernel
theorem dX3_born_120 : decode cX3_born 120 = .ok (.ireturn, 1) := by decide +kernel
set_option maxRecDepth 20000 in
theorem ggX3_make_X3_isSlot : GoodIn wsX3_make wsX3_isSlot := goodIn_r _ [7, 8, 9, 10, 6, 11] (by decide +kernel) (by decide +kernel)
set_option maxRecDepth 20000 in
theorem gX3_make_X3_isSlot : GoodIn wsX3_make (va_wsS RX3 84 yX3_isSlot wsX3_isSlot) := goodIn_app (goodIn_of _ (by decide +kernel)) ggX3_make_X3_isSlot
set_option maxRecDepth 20000 in
theorem ggX3_make_X3_in : GoodIn wsX3_make wsX3_in := goodIn_r _ [11] (by decide +kernel) (by decide +kernel)
set_option maxRecDepth 20000 in
theorem gX3_make_X3_in : GoodIn wsX3_make (va_wsS RX3 70 yX3_in wsX3_in) := goodIn_app (goodIn_of _ (by decide +kernel)) ggX3_make_X3_in
set_option maxRecDepth 20000 in
theorem ggX3_make_X3_lookWhatIsHeld : GoodIn wsX3_make wsX3_lookWhatIsHeld := goodIn_r _ [15, 16, 3, 17, 18, 19, 20, 21, 6, 22, 23, 24, 25, 32, 33, 34, 35, 36, 37, 38, 39, 40, 41, 42, 43, 44, 45, 46, 47, 48, 49, 50, 51, 52, 53, 54] (by decide +kernel) (by decide +kernel)
set_option maxRecDepth 20000 in
theorem gX3_make_X3_lookWhatIsHeld : GoodIn wsX3_make (wsV RX3 91 RX3 yX3_lookWhatIsHeld wsX3_lookWhatIsHeld) := goodIn_app (goodIn_of _ (by decide +kernel)) ggX3_make_X3_lookWhatIsHeld
set_option maxRecDepth 20000 in
theorem ggX3_make_X3_born : GoodIn wsX3_make wsX3_born := goodIn_r _ [29, 16, 18, 19, 30, 31, 20, 21, 6, 22, 32, 33, 34, 35, 36, 37, 38, 39, 40, 41, 42, 43, 44, 45, 46, 47, 48, 49, 50, 51, 52, 53, 54] (by decide +kernel) (by decide +kernel)
set_option maxRecDepth 20000 in
theorem gX3_make_X3_born : GoodIn wsX3_make (wsV RX3 94 RX3 yX3_born wsX3_born) := goodIn_app (goodIn_of _ (by decide +kernel)) ggX3_make_X3_born
theorem dX3_make_0 : decode cX3_make 0 = .ok (.iload_n 1, 1) := by decide +kernel
theorem dX3_make_1 : decode cX3_make 1 = .ok (.invokestatic 84, 3) := by decide +kernel
theorem dX3_make_4 : decode cX3_make 4 = .ok (.ifCond .eq 15, 3) := by decide +kernel
theorem dX3_make_7 : decode cX3_make 7 = .ok (.iload_n 2, 1) := by decide +kernel
theorem dX3_make_8 : decode cX3_make 8 = .ok (.i2l, 1) := by decide +kernel
theorem dX3_make_9 : decode cX3_make 9 = .ok (.lconst 0, 1) := by decide +kernel
theorem dX3_make_10 : decode cX3_make 10 = .ok (.ldc2_w 87, 3) := by decide +kernel
theorem dX3_make_13 : decode cX3_make 13 = .ok (.invokestatic 70, 3) := by decide +kernel
theorem dX3_make_16 : decode cX3_make 16 = .ok (.ifCond .ne 5, 3) := by decide +kernel
theorem dX3_make_19 : decode cX3_make 19 = .ok (.iconst (-1), 1) := by decide +kernel
theorem dX3_make_20 : decode cX3_make 20 = .ok (.ireturn, 1) := by decide +kernel
theorem dX3_make_21 : decode cX3_make 21 = .ok (.iload_n 2, 1) := by decide +kernel
theorem dX3_make_22 : decode cX3_make 22 = .ok (.iconst 2, 1) := by decide +kernel
theorem dX3_make_23 : decode cX3_make 23 = .ok (.if_icmp .ne 18, 3) := by decide +kernel
theorem dX3_make_26 : decode cX3_make 26 = .ok (.iload_n 3, 1) := by decide +kernel
theorem dX3_make_27 : decode cX3_make 27 = .ok (.i2l, 1) := by decide +kernel
theorem dX3_make_28 : decode cX3_make 28 = .ok (.lconst 0, 1) := by decide +kernel
theorem dX3_make_29 : decode cX3_make 29 = .ok (.ldc2_w 89, 3) := by decide +kernel
theorem dX3_make_32 : decode cX3_make 32 = .ok (.invokestatic 70, 3) := by decide +kernel
theorem dX3_make_35 : decode cX3_make 35 = .ok (.ifCond .ne 6, 3) := by decide +kernel
theorem dX3_make_38 : decode cX3_make 38 = .ok (.bipush (-18), 2) := by decide +kernel
theorem dX3_make_40 : decode cX3_make 40 = .ok (.ireturn, 1) := by decide +kernel
theorem dX3_make_41 : decode cX3_make 41 = .ok (.aload_n 0, 1) := by decide +kernel
theorem dX3_make_42 : decode cX3_make 42 = .ok (.invokevirtual 91, 3) := by decide +kernel
theorem dX3_make_45 : decode cX3_make 45 = .ok (.aload_n 0, 1) := by decide +kernel
theorem dX3_make_46 : decode cX3_make 46 = .ok (.getfield 7, 3) := by decide +kernel
theorem dX3_make_49 : decode cX3_make 49 = .ok (.iload_n 1, 1) := by decide +kernel
theorem dX3_make_50 : decode cX3_make 50 = .ok (.aload_n 0, 1) := by decide +kernel
theorem dX3_make_51 : decode cX3_make 51 = .ok (.iload_n 2, 1) := by decide +kernel
theorem dX3_make_52 : decode cX3_make 52 = .ok (.iload_n 3, 1) := by decide +kernel
theorem dX3_make_53 : decode cX3_make 53 = .ok (.invokevirtual 94, 3) := by decide +kernel
theorem dX3_make_56 : decode cX3_make 56 = .ok (.iastore, 1) := by decide +kernel
theorem dX3_make_57 : decode cX3_make 57 = .ok (.iconst 1, 1) := by decide +kernel
theorem dX3_make_58 : decode cX3_make 58 = .ok (.ireturn, 1) := by decide +kernel
set_option maxRecDepth 20000 in
theorem ggX3_clear_X3_isSlot : GoodIn wsX3_clear wsX3_isSlot := goodIn_r _ [5, 6, 7, 8, 4, 9] (by decide +kernel) (by decide +kernel)
set_option maxRecDepth 20000 in
theorem gX3_clear_X3_isSlot : GoodIn wsX3_clear (va_wsS RX3 84 yX3_isSlot wsX3_isSlot) := goodIn_app (goodIn_of _ (by decide +kernel)) ggX3_clear_X3_isSlot
theorem dX3_clear_0 : decode cX3_clear 0 = .ok (.iload_n 1, 1) := by decide +kernel
theorem dX3_clear_1 : decode cX3_clear 1 = .ok (.invokestatic 84, 3) := by decide +kernel
theorem dX3_clear_4 : decode cX3_clear 4 = .ok (.ifCond .ne 5, 3) := by decide +kernel
theorem dX3_clear_7 : decode cX3_clear 7 = .ok (.iconst (-1), 1) := by decide +kernel
theorem dX3_clear_8 : decode cX3_clear 8 = .ok (.ireturn, 1) := by decide +kernel
theorem dX3_clear_9 : decode cX3_clear 9 = .ok (.aload_n 0, 1) := by decide +kernel
theorem dX3_clear_10 : decode cX3_clear 10 = .ok (.getfield 7, 3) := by decide +kernel
theorem dX3_clear_13 : decode cX3_clear 13 = .ok (.iload_n 1, 1) := by decide +kernel
theorem dX3_clear_14 : decode cX3_clear 14 = .ok (.iaload, 1) := by decide +kernel
theorem dX3_clear_15 : decode cX3_clear 15 = .ok (.iconst (-1), 1) := by decide +kernel
theorem dX3_clear_16 : decode cX3_clear 16 = .ok (.if_icmp .ne 7, 3) := by decide +kernel
theorem dX3_clear_19 : decode cX3_clear 19 = .ok (.iconst 0, 1) := by decide +kernel
theorem dX3_clear_20 : decode cX3_clear 20 = .ok (.goto 4, 3) := by decide +kernel
theorem dX3_clear_23 : decode cX3_clear 23 = .ok (.iconst 1, 1) := by decide +kernel
theorem dX3_clear_24 : decode cX3_clear 24 = .ok (.istore_n 2, 1) := by decide +kernel
theorem dX3_clear_25 : decode cX3_clear 25 = .ok (.aload_n 0, 1) := by decide +kernel
theorem dX3_clear_26 : decode cX3_clear 26 = .ok (.getfield 7, 3) := by decide +kernel
theorem dX3_clear_29 : decode cX3_clear 29 = .ok (.iload_n 1, 1) := by decide +kernel
theorem dX3_clear_30 : decode cX3_clear 30 = .ok (.iconst (-1), 1) := by decide +kernel
theorem dX3_clear_31 : decode cX3_clear 31 = .ok (.iastore, 1) := by decide +kernel
theorem dX3_clear_32 : decode cX3_clear 32 = .ok (.iload_n 2, 1) := by decide +kernel
theorem dX3_clear_33 : decode cX3_clear 33 = .ok (.ireturn, 1) := by decide +kernel
set_option maxRecDepth 20000 in
theorem ggX3_share_X3_isSlot : GoodIn wsX3_share wsX3_isSlot := goodIn_r _ [5, 6, 7, 8, 4, 9] (by decide +kernel) (by decide +kernel)
set_option maxRecDepth 20000 in
theorem gX3_share_X3_isSlot : GoodIn wsX3_share (va_wsS RX3 84 yX3_isSlot wsX3_isSlot) := goodIn_app (goodIn_of _ (by decide +kernel)) ggX3_share_X3_isSlot
theorem dX3_share_0 : decode cX3_share 0 = .ok (.iload_n 1, 1) := by decide +kernel
theorem dX3_share_1 : decode cX3_share 1 = .ok (.invokestatic 84, 3) := by decide +kernel
theorem dX3_share_4 : decode cX3_share 4 = .ok (.ifCond .eq 10, 3) := by decide +kernel
theorem dX3_share_7 : decode cX3_share 7 = .ok (.iload_n 2, 1) := by decide +kernel
theorem dX3_share_8 : decode cX3_share 8 = .ok (.invokestatic 84, 3) := by decide +kernel
theorem dX3_share_11 : decode cX3_share 11 = .ok (.ifCond .ne 5, 3) := by decide +kernel
theorem dX3_share_14 : decode cX3_share 14 = .ok (.iconst (-1), 1) := by decide +kernel
theorem dX3_share_15 : decode cX3_share 15 = .ok (.ireturn, 1) := by decide +kernel
theorem dX3_share_16 : decode cX3_share 16 = .ok (.aload_n 0, 1) := by decide +kernel
theorem dX3_share_17 : decode cX3_share 17 = .ok (.getfield 7, 3) := by decide +kernel
theorem dX3_share_20 : decode cX3_share 20 = .ok (.iload_n 2, 1) := by decide +kernel
theorem dX3_share_21 : decode cX3_share 21 = .ok (.aload_n 0, 1) := by decide +kernel
theorem dX3_share_22 : decode cX3_share 22 = .ok (.getfield 7, 3) := by decide +kernel
theorem dX3_share_25 : decode cX3_share 25 = .ok (.iload_n 1, 1) := by decide +kernel
theorem dX3_share_26 : decode cX3_share 26 = .ok (.iaload, 1) := by decide +kernel
theorem dX3_share_27 : decode cX3_share 27 = .ok (.iastore, 1) := by decide +kernel
theorem dX3_share_28 : decode cX3_share 28 = .ok (.iconst 1, 1) := by decide +kernel
theorem dX3_share_29 : decode cX3_share 29 = .ok (.ireturn, 1) := by decide +kernel
set_option maxRecDepth 20000 in
theorem ggX3_same_X3_isSlot : GoodIn wsX3_same wsX3_isSlot := goodIn_r _ [5, 6, 7, 8, 4, 9] (by decide +kernel) (by decide +kernel)
set_option maxRecDepth 20000 in
theorem gX3_same_X3_isSlot : GoodIn wsX3_same (va_wsS RX3 84 yX3_isSlot wsX3_isSlot) := goodIn_app (goodIn_of _ (by decide +kernel)) ggX3_same_X3_isSlot
theorem dX3_same_0 : decode cX3_same 0 = .ok (.iload_n 1, 1) := by decide +kernel
theorem dX3_same_1 : decode cX3_same 1 = .ok (.invokestatic 84, 3) := by decide +kernel
theorem dX3_same_4 : decode cX3_same 4 = .ok (.ifCond .eq 10, 3) := by decide +kernel
theorem dX3_same_7 : decode cX3_same 7 = .ok (.iload_n 2, 1) := by decide +kernel
theorem dX3_same_8 : decode cX3_same 8 = .ok (.invokestatic 84, 3) := by decide +kernel
theorem dX3_same_11 : decode cX3_same 11 = .ok (.ifCond .ne 7, 3) := by decide +kernel
theorem dX3_same_14 : decode cX3_same 14 = .ok (.iconst (-1), 1) := by decide +kernel
theorem dX3_same_15 : decode cX3_same 15 = .ok (.goto 23, 3) := by decide +kernel
theorem dX3_same_18 : decode cX3_same 18 = .ok (.aload_n 0, 1) := by decide +kernel
theorem dX3_same_19 : decode cX3_same 19 = .ok (.getfield 7, 3) := by decide +kernel
theorem dX3_same_22 : decode cX3_same 22 = .ok (.iload_n 1, 1) := by decide +kernel
theorem dX3_same_23 : decode cX3_same 23 = .ok (.iaload, 1) := by decide +kernel
theorem dX3_same_24 : decode cX3_same 24 = .ok (.aload_n 0, 1) := by decide +kernel
theorem dX3_same_25 : decode cX3_same 25 = .ok (.getfield 7, 3) := by decide +kernel
theorem dX3_same_28 : decode cX3_same 28 = .ok (.iload_n 2, 1) := by decide +kernel
theorem dX3_same_29 : decode cX3_same 29 = .ok (.iaload, 1) := by decide +kernel
theorem dX3_same_30 : decode cX3_same 30 = .ok (.if_icmp .ne 7, 3) := by decide +kernel
theorem dX3_same_33 : decode cX3_same 33 = .ok (.iconst 1, 1) := by decide +kernel
theorem dX3_same_34 : decode cX3_same 34 = .ok (.goto 4, 3) := by decide +kernel
theorem dX3_same_37 : decode cX3_same 37 = .ok (.iconst 0, 1) := by decide +kernel
theorem dX3_same_38 : decode cX3_same 38 = .ok (.ireturn, 1) := by decide +kernel
set_option maxRecDepth 20000 in
theorem ggX3_cls_X3_isSlot : GoodIn wsX3_cls wsX3_isSlot := goodIn_r _ [6, 7, 8, 9, 5, 10] (by decide +kernel) (by decide +kernel)
set_option maxRecDepth 20000 in
theorem gX3_cls_X3_isSlot : GoodIn wsX3_cls (va_wsS RX3 84 yX3_isSlot wsX3_isSlot) := goodIn_app (goodIn_of _ (by decide +kernel)) ggX3_cls_X3_isSlot
theorem dX3_cls_0 : decode cX3_cls 0 = .ok (.iload_n 1, 1) := by decide +kernel
theorem dX3_cls_1 : decode cX3_cls 1 = .ok (.invokestatic 84, 3) := by decide +kernel
theorem dX3_cls_4 : decode cX3_cls 4 = .ok (.ifCond .ne 7, 3) := by decide +kernel
theorem dX3_cls_7 : decode cX3_cls 7 = .ok (.iconst (-1), 1) := by decide +kernel
theorem dX3_cls_8 : decode cX3_cls 8 = .ok (.goto 29, 3) := by decide +kernel
theorem dX3_cls_11 : decode cX3_cls 11 = .ok (.aload_n 0, 1) := by decide +kernel
theorem dX3_cls_12 : decode cX3_cls 12 = .ok (.getfield 7, 3) := by decide +kernel
theorem dX3_cls_15 : decode cX3_cls 15 = .ok (.iload_n 1, 1) := by decide +kernel
theorem dX3_cls_16 : decode cX3_cls 16 = .ok (.iaload, 1) := by decide +kernel
theorem dX3_cls_17 : decode cX3_cls 17 = .ok (.iconst (-1), 1) := by decide +kernel
theorem dX3_cls_18 : decode cX3_cls 18 = .ok (.if_icmp .ne 8, 3) := by decide +kernel
theorem dX3_cls_21 : decode cX3_cls 21 = .ok (.bipush (-4), 2) := by decide +kernel
theorem dX3_cls_23 : decode cX3_cls 23 = .ok (.goto 14, 3) := by decide +kernel
theorem dX3_cls_26 : decode cX3_cls 26 = .ok (.aload_n 0, 1) := by decide +kernel
theorem dX3_cls_27 : decode cX3_cls 27 = .ok (.getfield 13, 3) := by decide +kernel
theorem dX3_cls_30 : decode cX3_cls 30 = .ok (.aload_n 0, 1) := by decide +kernel
theorem dX3_cls_31 : decode cX3_cls 31 = .ok (.getfield 7, 3) := by decide +kernel
theorem dX3_cls_34 : decode cX3_cls 34 = .ok (.iload_n 1, 1) := by decide +kernel
theorem dX3_cls_35 : decode cX3_cls 35 = .ok (.iaload, 1) := by decide +kernel
theorem dX3_cls_36 : decode cX3_cls 36 = .ok (.iaload, 1) := by decide +kernel
theorem dX3_cls_37 : decode cX3_cls 37 = .ok (.ireturn, 1) := by decide +kernel
set_option maxRecDepth 20000 in
theorem ggX3_is_X3_isSlot : GoodIn wsX3_is wsX3_isSlot := goodIn_r _ [7, 8, 9, 10, 6, 11] (by decide +kernel) (by decide +kernel)
set_option maxRecDepth 20000 in
theorem gX3_is_X3_isSlot : GoodIn wsX3_is (va_wsS RX3 84 yX3_isSlot wsX3_isSlot) := goodIn_app (goodIn_of _ (by decide +kernel)) ggX3_is_X3_isSlot
set_option maxRecDepth 20000 in
theorem ggX3_is_X3_in : GoodIn wsX3_is wsX3_in := goodIn_r _ [11] (by decide +kernel) (by decide +kernel)
set_option maxRecDepth 20000 in
theorem gX3_is_X3_in : GoodIn wsX3_is (va_wsS RX3 70 yX3_in wsX3_in) := goodIn_app (goodIn_of _ (by decide +kernel)) ggX3_is_X3_in
set_option maxRecDepth 20000 in
theorem ggX3_is_X3_isBelow : GoodIn wsX3_is wsX3_isBelow := goodIn_r _ [14] (by decide +kernel) (by decide +kernel)
set_option maxRecDepth 20000 in
theorem gX3_is_X3_isBelow : GoodIn wsX3_is (va_wsS RX3 100 yX3_isBelow wsX3_isBelow) := goodIn_app (goodIn_of _ (by decide +kernel)) ggX3_is_X3_isBelow
theorem dX3_is_0 : decode cX3_is 0 = .ok (.iload_n 1, 1) := by decide +kernel
theorem dX3_is_1 : decode cX3_is 1 = .ok (.invokestatic 84, 3) := by decide +kernel
theorem dX3_is_4 : decode cX3_is 4 = .ok (.ifCond .eq 15, 3) := by decide +kernel
theorem dX3_is_7 : decode cX3_is 7 = .ok (.iload_n 2, 1) := by decide +kernel
theorem dX3_is_8 : decode cX3_is 8 = .ok (.i2l, 1) := by decide +kernel
theorem dX3_is_9 : decode cX3_is 9 = .ok (.lconst 0, 1) := by decide +kernel
theorem dX3_is_10 : decode cX3_is 10 = .ok (.ldc2_w 98, 3) := by decide +kernel
theorem dX3_is_13 : decode cX3_is 13 = .ok (.invokestatic 70, 3) := by decide +kernel
theorem dX3_is_16 : decode cX3_is 16 = .ok (.ifCond .ne 5, 3) := by decide +kernel
theorem dX3_is_19 : decode cX3_is 19 = .ok (.iconst (-1), 1) := by decide +kernel
theorem dX3_is_20 : decode cX3_is 20 = .ok (.ireturn, 1) := by decide +kernel
theorem dX3_is_21 : decode cX3_is 21 = .ok (.aload_n 0, 1) := by decide +kernel
theorem dX3_is_22 : decode cX3_is 22 = .ok (.getfield 7, 3) := by decide +kernel
theorem dX3_is_25 : decode cX3_is 25 = .ok (.iload_n 1, 1) := by decide +kernel
theorem dX3_is_26 : decode cX3_is 26 = .ok (.iaload, 1) := by decide +kernel
theorem dX3_is_27 : decode cX3_is 27 = .ok (.iconst (-1), 1) := by decide +kernel
theorem dX3_is_28 : decode cX3_is 28 = .ok (.if_icmp .eq 25, 3) := by decide +kernel
theorem dX3_is_31 : decode cX3_is 31 = .ok (.aload_n 0, 1) := by decide +kernel
theorem dX3_is_32 : decode cX3_is 32 = .ok (.getfield 13, 3) := by decide +kernel
theorem dX3_is_35 : decode cX3_is 35 = .ok (.aload_n 0, 1) := by decide +kernel
theorem dX3_is_36 : decode cX3_is 36 = .ok (.getfield 7, 3) := by decide +kernel
theorem dX3_is_39 : decode cX3_is 39 = .ok (.iload_n 1, 1) := by decide +kernel
theorem dX3_is_40 : decode cX3_is 40 = .ok (.iaload, 1) := by decide +kernel
theorem dX3_is_41 : decode cX3_is 41 = .ok (.iaload, 1) := by decide +kernel
theorem dX3_is_42 : decode cX3_is 42 = .ok (.iload_n 2, 1) := by decide +kernel
theorem dX3_is_43 : decode cX3_is 43 = .ok (.invokestatic 100, 3) := by decide +kernel
theorem dX3_is_46 : decode cX3_is 46 = .ok (.ifCond .eq 7, 3) := by decide +kernel
theorem dX3_is_49 : decode cX3_is 49 = .ok (.iconst 1, 1) := by decide +kernel
theorem dX3_is_50 : decode cX3_is 50 = .ok (.goto 4, 3) := by decide +kernel
theorem dX3_is_53 : decode cX3_is 53 = .ok (.iconst 0, 1) := by decide +kernel
theorem dX3_is_54 : decode cX3_is 54 = .ok (.ireturn, 1) := by decide +kernel
set_option maxRecDepth 20000 in
theorem ggX3_isPlain_X3_in : GoodIn wsX3_isPlain wsX3_in := goodIn_r _ [7] (by decide +kernel) (by decide +kernel)
set_option maxRecDepth 20000 in
theorem gX3_isPlain_X3_in : GoodIn wsX3_isPlain (va_wsS RX3 70 yX3_in wsX3_in) := goodIn_app (goodIn_of _ (by decide +kernel)) ggX3_isPlain_X3_in
theorem dX3_isPlain_0 : decode cX3_isPlain 0 = .ok (.iload_n 0, 1) := by decide +kernel
theorem dX3_isPlain_1 : decode cX3_isPlain 1 = .ok (.i2l, 1) := by decide +kernel
theorem dX3_isPlain_2 : decode cX3_isPlain 2 = .ok (.lconst 0, 1) := by decide +kernel
theorem dX3_isPlain_3 : decode cX3_isPlain 3 = .ok (.ldc2_w 103, 3) := by decide +kernel
theorem dX3_isPlain_6 : decode cX3_isPlain 6 = .ok (.invokestatic 70, 3) := by decide +kernel
theorem dX3_isPlain_9 : decode cX3_isPlain 9 = .ok (.ifCond .ne 29, 3) := by decide +kernel
theorem dX3_isPlain_12 : decode cX3_isPlain 12 = .ok (.iload_n 0, 1) := by decide +kernel
theorem dX3_isPlain_13 : decode cX3_isPlain 13 = .ok (.bipush 10, 2) := by decide +kernel
theorem dX3_isPlain_15 : decode cX3_isPlain 15 = .ok (.if_icmp .eq 23, 3) := by decide +kernel
theorem dX3_isPlain_18 : decode cX3_isPlain 18 = .ok (.iload_n 0, 1) := by decide +kernel
theorem dX3_isPlain_19 : decode cX3_isPlain 19 = .ok (.i2l, 1) := by decide +kernel
theorem dX3_isPlain_20 : decode cX3_isPlain 20 = .ok (.ldc2_w 105, 3) := by decide +kernel
theorem dX3_isPlain_23 : decode cX3_isPlain 23 = .ok (.ldc2_w 107, 3) := by decide +kernel
theorem dX3_isPlain_26 : decode cX3_isPlain 26 = .ok (.invokestatic 70, 3) := by decide +kernel
theorem dX3_isPlain_29 : decode cX3_isPlain 29 = .ok (.ifCond .ne 9, 3) := by decide +kernel
theorem dX3_isPlain_32 : decode cX3_isPlain 32 = .ok (.iload_n 0, 1) := by decide +kernel
theorem dX3_isPlain_33 : decode cX3_isPlain 33 = .ok (.bipush 16, 2) := by decide +kernel
theorem dX3_isPlain_35 : decode cX3_isPlain 35 = .ok (.if_icmp .ne 7, 3) := by decide +kernel
theorem dX3_isPlain_38 : decode cX3_isPlain 38 = .ok (.iconst 1, 1) := by decide +kernel
theorem dX3_isPlain_39 : decode cX3_isPlain 39 = .ok (.goto 4, 3) := by decide +kernel
theorem dX3_isPlain_42 : decode cX3_isPlain 42 = .ok (.iconst 0, 1) := by decide +kernel
theorem dX3_isPlain_43 : decode cX3_isPlain 43 = .ok (.ireturn, 1) := by decide +kernel
theorem dX3_valueOf_0 : decode cX3_valueOf 0 = .ok (.iload_n 0, 1) := by decide +kernel
theorem dX3_valueOf_1 : decode cX3_valueOf 1 = .ok (.tableswitch 147 0 14 #[75, 79, 89, 99, 147, 105, 107, 127, 147, 147, 147, 147, 105, 147, 127], 75) := by decide +kernel
theorem dX3_valueOf_76 : decode cX3_valueOf 76 = .ok (.lload_n 1, 1) := by decide +kernel
theorem dX3_valueOf_77 : decode cX3_valueOf 77 = .ok (.lconst 1, 1) := by decide +kernel
theorem dX3_valueOf_78 : decode cX3_valueOf 78 = .ok (.land, 1) := by decide +kernel
theorem dX3_valueOf_79 : decode cX3_valueOf 79 = .ok (.lreturn, 1) := by decide +kernel
theorem dX3_valueOf_80 : decode cX3_valueOf 80 = .ok (.lload_n 1, 1) := by decide +kernel
theorem dX3_valueOf_81 : decode cX3_valueOf 81 = .ok (.l2i, 1) := by decide +kernel
theorem dX3_valueOf_82 : decode cX3_valueOf 82 = .ok (.bipush 24, 2) := by decide +kernel
theorem dX3_valueOf_84 : decode cX3_valueOf 84 = .ok (.ishl, 1) := by decide +kernel
theorem dX3_valueOf_85 : decode cX3_valueOf 85 = .ok (.bipush 24, 2) := by decide +kernel
theorem dX3_valueOf_87 : decode cX3_valueOf 87 = .ok (.ishr, 1) := by decide +kernel
theorem dX3_valueOf_88 : decode cX3_valueOf 88 = .ok (.i2l, 1) := by decide +kernel
theorem dX3_valueOf_89 : decode cX3_valueOf 89 = .ok (.lreturn, 1) := by decide +kernel
theorem dX3_valueOf_90 : decode cX3_valueOf 90 = .ok (.lload_n 1, 1) := by decide +kernel
theorem dX3_valueOf_91 : decode cX3_valueOf 91 = .ok (.l2i, 1) := by decide +kernel
theorem dX3_valueOf_92 : decode cX3_valueOf 92 = .ok (.bipush 16, 2) := by decide +kernel
theorem dX3_valueOf_94 : decode cX3_valueOf 94 = .ok (.ishl, 1) := by decide +kernel
theorem dX3_valueOf_95 : decode cX3_valueOf 95 = .ok (.bipush 16, 2) := by decide +kernel
theorem dX3_valueOf_97 : decode cX3_valueOf 97 = .ok (.ishr, 1) := by decide +kernel
theorem dX3_valueOf_98 : decode cX3_valueOf 98 = .ok (.i2l, 1) := by decide +kernel
theorem dX3_valueOf_99 : decode cX3_valueOf 99 = .ok (.lreturn, 1) := by decide +kernel
theorem dX3_valueOf_100 : decode cX3_valueOf 100 = .ok (.lload_n 1, 1) := by decide +kernel
theorem dX3_valueOf_101 : decode cX3_valueOf 101 = .ok (.ldc2_w 109, 3) := by decide +kernel
theorem dX3_valueOf_104 : decode cX3_valueOf 104 = .ok (.land, 1) := by decide +kernel
theorem dX3_valueOf_105 : decode cX3_valueOf 105 = .ok (.lreturn, 1) := by decide +kernel
theorem dX3_valueOf_106 : decode cX3_valueOf 106 = .ok (.lload_n 1, 1) := by decide +kernel
theorem dX3_valueOf_107 : decode cX3_valueOf 107 = .ok (.lreturn, 1) := by decide +kernel
theorem dX3_valueOf_108 : decode cX3_valueOf 108 = .ok (.lload_n 1, 1) := by decide +kernel
theorem dX3_valueOf_109 : decode cX3_valueOf 109 = .ok (.l2i, 1) := by decide +kernel
theorem dX3_valueOf_110 : decode cX3_valueOf 110 = .ok (.ldc 111, 2) := by decide +kernel
theorem dX3_valueOf_112 : decode cX3_valueOf 112 = .ok (.iand, 1) := by decide +kernel
theorem dX3_valueOf_113 : decode cX3_valueOf 113 = .ok (.ldc 112, 2) := by decide +kernel
theorem dX3_valueOf_115 : decode cX3_valueOf 115 = .ok (.if_icmp .le 9, 3) := by decide +kernel
theorem dX3_valueOf_118 : decode cX3_valueOf 118 = .ok (.ldc2_w 113, 3) := by decide +kernel
theorem dX3_valueOf_121 : decode cX3_valueOf 121 = .ok (.goto 6, 3) := by decide +kernel
theorem dX3_valueOf_124 : decode cX3_valueOf 124 = .ok (.lload_n 1, 1) := by decide +kernel
theorem dX3_valueOf_125 : decode cX3_valueOf 125 = .ok (.l2i, 1) := by decide +kernel
theorem dX3_valueOf_126 : decode cX3_valueOf 126 = .ok (.i2l, 1) := by decide +kernel
theorem dX3_valueOf_127 : decode cX3_valueOf 127 = .ok (.lreturn, 1) := by decide +kernel
theorem dX3_valueOf_128 : decode cX3_valueOf 128 = .ok (.lload_n 1, 1) := by decide +kernel
theorem dX3_valueOf_129 : decode cX3_valueOf 129 = .ok (.ldc2_w 115, 3) := by decide +kernel
theorem dX3_valueOf_132 : decode cX3_valueOf 132 = .ok (.land, 1) := by decide +kernel
theorem dX3_valueOf_133 : decode cX3_valueOf 133 = .ok (.ldc2_w 117, 3) := by decide +kernel
theorem dX3_valueOf_136 : decode cX3_valueOf 136 = .ok (.lcmp, 1) := by decide +kernel
theorem dX3_valueOf_137 : decode cX3_valueOf 137 = .ok (.ifCond .le 9, 3) := by decide +kernel
theorem dX3_valueOf_140 : decode cX3_valueOf 140 = .ok (.ldc2_w 119, 3) := by decide +kernel
theorem dX3_valueOf_143 : decode cX3_valueOf 143 = .ok (.goto 4, 3) := by decide +kernel
theorem dX3_valueOf_146 : decode cX3_valueOf 146 = .ok (.lload_n 1, 1) := by decide +kernel
theorem dX3_valueOf_147 : decode cX3_valueOf 147 = .ok (.lreturn, 1) := by decide +kernel
theorem dX3_valueOf_148 : decode cX3_valueOf 148 = .ok (.lload_n 1, 1) := by decide +kernel
theorem dX3_valueOf_149 : decode cX3_valueOf 149 = .ok (.l2i, 1) := by decide +kernel
theorem dX3_valueOf_150 : decode cX3_valueOf 150 = .ok (.i2l, 1) := by decide +kernel
theorem dX3_valueOf_151 : decode cX3_valueOf 151 = .ok (.lreturn, 1) := by decide +kernel
set_option maxRecDepth 20000 in
theorem ggX3_isOther_X3_has : GoodIn wsX3_isOther wsX3_has := goodIn_r _ [6] (by decide +kernel) (by decide +kernel)
set_option maxRecDepth 20000 in
theorem gX3_isOther_X3_has : GoodIn wsX3_isOther (va_wsS RX3 78 yX3_has wsX3_has) := goodIn_app (goodIn_of _ (by decide +kernel)) ggX3_isOther_X3_has
theorem dX3_isOther_0 : decode cX3_isOther 0 = .ok (.aload_n 0, 1) := by decide +kernel
theorem dX3_isOther_1 : decode cX3_isOther 1 = .ok (.getfield 7, 3) := by decide +kernel
theorem dX3_isOther_4 : decode cX3_isOther 4 = .ok (.iload_n 1, 1) := by decide +kernel
theorem dX3_isOther_5 : decode cX3_isOther 5 = .ok (.iaload, 1) := by decide +kernel
theorem dX3_isOther_6 : decode cX3_isOther 6 = .ok (.iconst (-1), 1) := by decide +kernel
theorem dX3_isOther_7 : decode cX3_isOther 7 = .ok (.if_icmp .eq 25, 3) := by decide +kernel
theorem dX3_isOther_10 : decode cX3_isOther 10 = .ok (.aload_n 0, 1) := by decide +kernel
theorem dX3_isOther_11 : decode cX3_isOther 11 = .ok (.getfield 13, 3) := by decide +kernel
theorem dX3_isOther_14 : decode cX3_isOther 14 = .ok (.aload_n 0, 1) := by decide +kernel
theorem dX3_isOther_15 : decode cX3_isOther 15 = .ok (.getfield 7, 3) := by decide +kernel
theorem dX3_isOther_18 : decode cX3_isOther 18 = .ok (.iload_n 1, 1) := by decide +kernel
theorem dX3_isOther_19 : decode cX3_isOther 19 = .ok (.iaload, 1) := by decide +kernel
theorem dX3_isOther_20 : decode cX3_isOther 20 = .ok (.iaload, 1) := by decide +kernel
theorem dX3_isOther_21 : decode cX3_isOther 21 = .ok (.iload_n 2, 1) := by decide +kernel
theorem dX3_isOther_22 : decode cX3_isOther 22 = .ok (.invokestatic 78, 3) := by decide +kernel
theorem dX3_isOther_25 : decode cX3_isOther 25 = .ok (.ifCond .ne 7, 3) := by decide +kernel
theorem dX3_isOther_28 : decode cX3_isOther 28 = .ok (.iconst 1, 1) := by decide +kernel
theorem dX3_isOther_29 : decode cX3_isOther 29 = .ok (.goto 4, 3) := by decide +kernel
theorem dX3_isOther_32 : decode cX3_isOther 32 = .ok (.iconst 0, 1) := by decide +kernel
theorem dX3_isOther_33 : decode cX3_isOther 33 = .ok (.ireturn, 1) := by decide +kernel
set_option maxRecDepth 20000 in
theorem ggX3_get_X3_isSlot : GoodIn wsX3_get wsX3_isSlot := goodIn_r _ [9, 10, 11, 12, 8, 13] (by decide +kernel) (by decide +kernel)
set_option maxRecDepth 20000 in
theorem gX3_get_X3_isSlot : GoodIn wsX3_get (va_wsS RX3 84 yX3_isSlot wsX3_isSlot) := goodIn_app (goodIn_of _ (by decide +kernel)) ggX3_get_X3_isSlot
set_option maxRecDepth 20000 in
theorem ggX3_get_X3_isPlain : GoodIn wsX3_get wsX3_isPlain := goodIn_r _ [16, 17, 18, 19, 11, 12, 8, 13] (by decide +kernel) (by decide +kernel)
set_option maxRecDepth 20000 in
theorem gX3_get_X3_isPlain : GoodIn wsX3_get (va_wsS RX3 121 yX3_isPlain wsX3_isPlain) := goodIn_app (goodIn_of _ (by decide +kernel)) ggX3_get_X3_isPlain
set_option maxRecDepth 20000 in
theorem ggX3_get_X3_isOther : GoodIn wsX3_get wsX3_isOther := goodIn_r _ [23, 2, 24, 25, 26, 8, 27, 28, 29, 30, 31, 32, 33, 34, 35, 36, 37, 38, 39, 40, 41, 42, 43, 44, 45, 46, 47, 48, 49, 50] (by decide +kernel) (by decide +kernel)
set_option maxRecDepth 20000 in
theorem gX3_get_X3_isOther : GoodIn wsX3_get (wsV RX3 126 RX3 yX3_isOther wsX3_isOther) := goodIn_app (goodIn_of _ (by decide +kernel)) ggX3_get_X3_isOther
theorem dX3_get_0 : decode cX3_get 0 = .ok (.iload_n 1, 1) := by decide +kernel
theorem dX3_get_1 : decode cX3_get 1 = .ok (.invokestatic 84, 3) := by decide +kernel
theorem dX3_get_4 : decode cX3_get 4 = .ok (.ifCond .eq 10, 3) := by decide +kernel
theorem dX3_get_7 : decode cX3_get 7 = .ok (.iload_n 2, 1) := by decide +kernel
theorem dX3_get_8 : decode cX3_get 8 = .ok (.invokestatic 121, 3) := by decide +kernel
theorem dX3_get_11 : decode cX3_get 11 = .ok (.ifCond .ne 7, 3) := by decide +kernel
theorem dX3_get_14 : decode cX3_get 14 = .ok (.ldc2_w 82, 3) := by decide +kernel
theorem dX3_get_17 : decode cX3_get 17 = .ok (.lreturn, 1) := by decide +kernel
theorem dX3_get_18 : decode cX3_get 18 = .ok (.aload_n 0, 1) := by decide +kernel
theorem dX3_get_19 : decode cX3_get 19 = .ok (.getfield 7, 3) := by decide +kernel
theorem dX3_get_22 : decode cX3_get 22 = .ok (.iload_n 1, 1) := by decide +kernel
theorem dX3_get_23 : decode cX3_get 23 = .ok (.iaload, 1) := by decide +kernel
theorem dX3_get_24 : decode cX3_get 24 = .ok (.iconst (-1), 1) := by decide +kernel
theorem dX3_get_25 : decode cX3_get 25 = .ok (.if_icmp .ne 9, 3) := by decide +kernel
theorem dX3_get_28 : decode cX3_get 28 = .ok (.ldc2_w 124, 3) := by decide +kernel
theorem dX3_get_31 : decode cX3_get 31 = .ok (.goto 34, 3) := by decide +kernel
theorem dX3_get_34 : decode cX3_get 34 = .ok (.aload_n 0, 1) := by decide +kernel
theorem dX3_get_35 : decode cX3_get 35 = .ok (.iload_n 1, 1) := by decide +kernel
theorem dX3_get_36 : decode cX3_get 36 = .ok (.iload_n 2, 1) := by decide +kernel
theorem dX3_get_37 : decode cX3_get 37 = .ok (.invokevirtual 126, 3) := by decide +kernel
theorem dX3_get_40 : decode cX3_get 40 = .ok (.ifCond .eq 9, 3) := by decide +kernel
theorem dX3_get_43 : decode cX3_get 43 = .ok (.ldc2_w 129, 3) := by decide +kernel
theorem dX3_get_46 : decode cX3_get 46 = .ok (.goto 19, 3) := by decide +kernel
theorem dX3_get_49 : decode cX3_get 49 = .ok (.aload_n 0, 1) := by decide +kernel
theorem dX3_get_50 : decode cX3_get 50 = .ok (.getfield 17, 3) := by decide +kernel
theorem dX3_get_53 : decode cX3_get 53 = .ok (.bipush 17, 2) := by decide +kernel
theorem dX3_get_55 : decode cX3_get 55 = .ok (.aload_n 0, 1) := by decide +kernel
theorem dX3_get_56 : decode cX3_get 56 = .ok (.getfield 7, 3) := by decide +kernel
theorem dX3_get_59 : decode cX3_get 59 = .ok (.iload_n 1, 1) := by decide +kernel
theorem dX3_get_60 : decode cX3_get 60 = .ok (.iaload, 1) := by decide +kernel
theorem dX3_get_61 : decode cX3_get 61 = .ok (.imul, 1) := by decide +kernel
theorem dX3_get_62 : decode cX3_get 62 = .ok (.iload_n 2, 1) := by decide +kernel
theorem dX3_get_63 : decode cX3_get 63 = .ok (.iadd, 1) := by decide +kernel
theorem dX3_get_64 : decode cX3_get 64 = .ok (.laload, 1) := by decide +kernel
theorem dX3_get_65 : decode cX3_get 65 = .ok (.lreturn, 1) := by decide +kernel
set_option maxRecDepth 20000 in
theorem ggX3_set_X3_isSlot : GoodIn wsX3_set wsX3_isSlot := goodIn_r _ [6, 7, 8, 9, 5, 10] (by decide +kernel) (by decide +kernel)
set_option maxRecDepth 20000 in
theorem gX3_set_X3_isSlot : GoodIn wsX3_set (va_wsS RX3 84 yX3_isSlot wsX3_isSlot) := goodIn_app (goodIn_of _ (by decide +kernel)) ggX3_set_X3_isSlot
set_option maxRecDepth 20000 in
theorem ggX3_set_X3_isPlain : GoodIn wsX3_set wsX3_isPlain := goodIn_r _ [13, 14, 15, 16, 8, 9, 5, 10] (by decide +kernel) (by decide +kernel)
set_option maxRecDepth 20000 in
theorem gX3_set_X3_isPlain : GoodIn wsX3_set (va_wsS RX3 121 yX3_isPlain wsX3_isPlain) := goodIn_app (goodIn_of _ (by decide +kernel)) ggX3_set_X3_isPlain
set_option maxRecDepth 20000 in
theorem ggX3_set_X3_isOther : GoodIn wsX3_set wsX3_isOther := goodIn_r _ [20, 1, 21, 22, 23, 5, 24, 35, 36, 37, 38, 39, 40, 41, 42, 43, 44, 45, 46, 47, 48, 49, 50, 51, 52, 53, 54, 55, 56, 57] (by decide +kernel) (by decide +kernel)
set_option maxRecDepth 20000 in
theorem gX3_set_X3_isOther : GoodIn wsX3_set (wsV RX3 126 RX3 yX3_isOther wsX3_isOther) := goodIn_app (goodIn_of _ (by decide +kernel)) ggX3_set_X3_isOther
set_option maxRecDepth 20000 in
theorem ggX3_set_X3_valueOf : GoodIn wsX3_set wsX3_valueOf := goodIn_r _ [27, 28, 29, 30, 31, 32, 33, 34] (by decide +kernel) (by decide +kernel)
set_option maxRecDepth 20000 in
theorem gX3_set_X3_valueOf : GoodIn wsX3_set (va_wsS RX3 131 yX3_valueOf wsX3_valueOf) := goodIn_app (goodIn_of _ (by decide +kernel)) ggX3_set_X3_valueOf
theorem dX3_set_0 : decode cX3_set 0 = .ok (.iload_n 1, 1) := by decide +kernel
theorem dX3_set_1 : decode cX3_set 1 = .ok (.invokestatic 84, 3) := by decide +kernel
theorem dX3_set_4 : decode cX3_set 4 = .ok (.ifCond .eq 10, 3) := by decide +kernel
theorem dX3_set_7 : decode cX3_set 7 = .ok (.iload_n 2, 1) := by decide +kernel
theorem dX3_set_8 : decode cX3_set 8 = .ok (.invokestatic 121, 3) := by decide +kernel
theorem dX3_set_11 : decode cX3_set 11 = .ok (.ifCond .ne 5, 3) := by decide +kernel
theorem dX3_set_14 : decode cX3_set 14 = .ok (.iconst (-1), 1) := by decide +kernel
theorem dX3_set_15 : decode cX3_set 15 = .ok (.ireturn, 1) := by decide +kernel
theorem dX3_set_16 : decode cX3_set 16 = .ok (.aload_n 0, 1) := by decide +kernel
theorem dX3_set_17 : decode cX3_set 17 = .ok (.iload_n 1, 1) := by decide +kernel
theorem dX3_set_18 : decode cX3_set 18 = .ok (.iload_n 2, 1) := by decide +kernel
theorem dX3_set_19 : decode cX3_set 19 = .ok (.invokevirtual 126, 3) := by decide +kernel
theorem dX3_set_22 : decode cX3_set 22 = .ok (.ifCond .ne 13, 3) := by decide +kernel
theorem dX3_set_25 : decode cX3_set 25 = .ok (.aload_n 0, 1) := by decide +kernel
theorem dX3_set_26 : decode cX3_set 26 = .ok (.getfield 7, 3) := by decide +kernel
theorem dX3_set_29 : decode cX3_set 29 = .ok (.iload_n 1, 1) := by decide +kernel
theorem dX3_set_30 : decode cX3_set 30 = .ok (.iaload, 1) := by decide +kernel
theorem dX3_set_31 : decode cX3_set 31 = .ok (.iconst (-1), 1) := by decide +kernel
theorem dX3_set_32 : decode cX3_set 32 = .ok (.if_icmp .ne 21, 3) := by decide +kernel
theorem dX3_set_35 : decode cX3_set 35 = .ok (.aload_n 0, 1) := by decide +kernel
theorem dX3_set_36 : decode cX3_set 36 = .ok (.getfield 7, 3) := by decide +kernel
theorem dX3_set_39 : decode cX3_set 39 = .ok (.iload_n 1, 1) := by decide +kernel
theorem dX3_set_40 : decode cX3_set 40 = .ok (.iaload, 1) := by decide +kernel
theorem dX3_set_41 : decode cX3_set 41 = .ok (.iconst (-1), 1) := by decide +kernel
theorem dX3_set_42 : decode cX3_set 42 = .ok (.if_icmp .ne 8, 3) := by decide +kernel
theorem dX3_set_45 : decode cX3_set 45 = .ok (.bipush (-11), 2) := by decide +kernel
theorem dX3_set_47 : decode cX3_set 47 = .ok (.goto 5, 3) := by decide +kernel
theorem dX3_set_50 : decode cX3_set 50 = .ok (.bipush (-14), 2) := by decide +kernel
theorem dX3_set_52 : decode cX3_set 52 = .ok (.ireturn, 1) := by decide +kernel
theorem dX3_set_53 : decode cX3_set 53 = .ok (.iload_n 2, 1) := by decide +kernel
theorem dX3_set_54 : decode cX3_set 54 = .ok (.bipush 13, 2) := by decide +kernel
theorem dX3_set_56 : decode cX3_set 56 = .ok (.if_icmp .eq 9, 3) := by decide +kernel
theorem dX3_set_59 : decode cX3_set 59 = .ok (.iload_n 2, 1) := by decide +kernel
theorem dX3_set_60 : decode cX3_set 60 = .ok (.bipush 16, 2) := by decide +kernel
theorem dX3_set_62 : decode cX3_set 62 = .ok (.if_icmp .ne 6, 3) := by decide +kernel
theorem dX3_set_65 : decode cX3_set 65 = .ok (.bipush (-17), 2) := by decide +kernel
theorem dX3_set_67 : decode cX3_set 67 = .ok (.ireturn, 1) := by decide +kernel
theorem dX3_set_68 : decode cX3_set 68 = .ok (.aload_n 0, 1) := by decide +kernel
theorem dX3_set_69 : decode cX3_set 69 = .ok (.getfield 17, 3) := by decide +kernel
theorem dX3_set_72 : decode cX3_set 72 = .ok (.bipush 17, 2) := by decide +kernel
theorem dX3_set_74 : decode cX3_set 74 = .ok (.aload_n 0, 1) := by decide +kernel
theorem dX3_set_75 : decode cX3_set 75 = .ok (.getfield 7, 3) := by decide +kernel
theorem dX3_set_78 : decode cX3_set 78 = .ok (.iload_n 1, 1) := by decide +kernel
theorem dX3_set_79 : decode cX3_set 79 = .ok (.iaload, 1) := by decide +kernel
theorem dX3_set_80 : decode cX3_set 80 = .ok (.imul, 1) := by decide +kernel
theorem dX3_set_81 : decode cX3_set 81 = .ok (.iload_n 2, 1) := by decide +kernel
theorem dX3_set_82 : decode cX3_set 82 = .ok (.iadd, 1) := by decide +kernel
theorem dX3_set_83 : decode cX3_set 83 = .ok (.iload_n 2, 1) := by decide +kernel
theorem dX3_set_84 : decode cX3_set 84 = .ok (.lload_n 3, 1) := by decide +kernel
theorem dX3_set_85 : decode cX3_set 85 = .ok (.invokestatic 131, 3) := by decide +kernel
theorem dX3_set_88 : decode cX3_set 88 = .ok (.lastore, 1) := by decide +kernel
theorem dX3_set_89 : decode cX3_set 89 = .ok (.iconst 1, 1) := by decide +kernel
theorem dX3_set_90 : decode cX3_set 90 = .ok (.ireturn, 1) := by decide +kernel
set_option maxRecDepth 20000 in
theorem ggX3_link_X3_isSlot : GoodIn wsX3_link wsX3_isSlot := goodIn_r _ [7, 8, 9, 10, 6, 11] (by decide +kernel) (by decide +kernel)
set_option maxRecDepth 20000 in
theorem gX3_link_X3_isSlot : GoodIn wsX3_link (va_wsS RX3 84 yX3_isSlot wsX3_isSlot) := goodIn_app (goodIn_of _ (by decide +kernel)) ggX3_link_X3_isSlot
set_option maxRecDepth 20000 in
theorem ggX3_link_X3_isLink : GoodIn wsX3_link wsX3_isLink := goodIn_r _ [14] (by decide +kernel) (by decide +kernel)
set_option maxRecDepth 20000 in
theorem gX3_link_X3_isLink : GoodIn wsX3_link (va_wsS RX3 74 yX3_isLink wsX3_isLink) := goodIn_app (goodIn_of _ (by decide +kernel)) ggX3_link_X3_isLink
set_option maxRecDepth 20000 in
theorem ggX3_link_X3_isOther : GoodIn wsX3_link wsX3_isOther := goodIn_r _ [18, 1, 2, 19, 20, 6, 21, 25, 26, 27, 28, 29, 30, 31, 32, 33, 34, 35, 36, 37, 38, 39, 40, 41, 42, 43, 44, 45, 46, 47] (by decide +kernel) (by decide +kernel)
set_option maxRecDepth 20000 in
theorem gX3_link_X3_isOther : GoodIn wsX3_link (wsV RX3 126 RX3 yX3_isOther wsX3_isOther) := goodIn_app (goodIn_of _ (by decide +kernel)) ggX3_link_X3_isOther
set_option maxRecDepth 20000 in
theorem ggX3_link_X3_mayBeIn : GoodIn wsX3_link wsX3_mayBeIn := goodIn_r _ [24] (by decide +kernel) (by decide +kernel)
set_option maxRecDepth 20000 in
theorem gX3_link_X3_mayBeIn : GoodIn wsX3_link (va_wsS RX3 135 yX3_mayBeIn wsX3_mayBeIn) := goodIn_app (goodIn_of _ (by decide +kernel)) ggX3_link_X3_mayBeIn
end
section
theorem dX3_link_0 : decode cX3_link 0 = .ok (.iload_n 1, 1) := by decide +kernel
theorem dX3_link_1 : decode cX3_link 1 = .ok (.invokestatic 84, 3) := by decide +kernel
theorem dX3_link_4 : decode cX3_link 4 = .ok (.ifCond .eq 17, 3) := by decide +kernel
theorem dX3_link_7 : decode cX3_link 7 = .ok (.iload_n 2, 1) := by decide +kernel
theorem dX3_link_8 : decode cX3_link 8 = .ok (.invokestatic 74, 3) := by decide +kernel
theorem dX3_link_11 : decode cX3_link 11 = .ok (.ifCond .eq 10, 3) := by decide +kernel
theorem dX3_link_14 : decode cX3_link 14 = .ok (.iload_n 3, 1) := by decide +kernel
theorem dX3_link_15 : decode cX3_link 15 = .ok (.invokestatic 84, 3) := by decide +kernel
theorem dX3_link_18 : decode cX3_link 18 = .ok (.ifCond .ne 5, 3) := by decide +kernel
theorem dX3_link_21 : decode cX3_link 21 = .ok (.iconst (-1), 1) := by decide +kernel
theorem dX3_link_22 : decode cX3_link 22 = .ok (.ireturn, 1) := by decide +kernel
theorem dX3_link_23 : decode cX3_link 23 = .ok (.aload_n 0, 1) := by decide +kernel
theorem dX3_link_24 : decode cX3_link 24 = .ok (.iload_n 1, 1) := by decide +kernel
theorem dX3_link_25 : decode cX3_link 25 = .ok (.iload_n 2, 1) := by decide +kernel
theorem dX3_link_26 : decode cX3_link 26 = .ok (.invokevirtual 126, 3) := by decide +kernel
theorem dX3_link_29 : decode cX3_link 29 = .ok (.ifCond .ne 31, 3) := by decide +kernel
theorem dX3_link_32 : decode cX3_link 32 = .ok (.aload_n 0, 1) := by decide +kernel
theorem dX3_link_33 : decode cX3_link 33 = .ok (.getfield 7, 3) := by decide +kernel
theorem dX3_link_36 : decode cX3_link 36 = .ok (.iload_n 3, 1) := by decide +kernel
theorem dX3_link_37 : decode cX3_link 37 = .ok (.iaload, 1) := by decide +kernel
theorem dX3_link_38 : decode cX3_link 38 = .ok (.iconst (-1), 1) := by decide +kernel
theorem dX3_link_39 : decode cX3_link 39 = .ok (.if_icmp .eq 24, 3) := by decide +kernel
theorem dX3_link_42 : decode cX3_link 42 = .ok (.aload_n 0, 1) := by decide +kernel
theorem dX3_link_43 : decode cX3_link 43 = .ok (.getfield 13, 3) := by decide +kernel
theorem dX3_link_46 : decode cX3_link 46 = .ok (.aload_n 0, 1) := by decide +kernel
theorem dX3_link_47 : decode cX3_link 47 = .ok (.getfield 7, 3) := by decide +kernel
theorem dX3_link_50 : decode cX3_link 50 = .ok (.iload_n 3, 1) := by decide +kernel
theorem dX3_link_51 : decode cX3_link 51 = .ok (.iaload, 1) := by decide +kernel
theorem dX3_link_52 : decode cX3_link 52 = .ok (.iaload, 1) := by decide +kernel
theorem dX3_link_53 : decode cX3_link 53 = .ok (.iload_n 2, 1) := by decide +kernel
theorem dX3_link_54 : decode cX3_link 54 = .ok (.invokestatic 135, 3) := by decide +kernel
theorem dX3_link_57 : decode cX3_link 57 = .ok (.ifCond .ne 6, 3) := by decide +kernel
theorem dX3_link_60 : decode cX3_link 60 = .ok (.bipush (-14), 2) := by decide +kernel
theorem dX3_link_62 : decode cX3_link 62 = .ok (.ireturn, 1) := by decide +kernel
theorem dX3_link_63 : decode cX3_link 63 = .ok (.aload_n 0, 1) := by decide +kernel
theorem dX3_link_64 : decode cX3_link 64 = .ok (.getfield 7, 3) := by decide +kernel
theorem dX3_link_67 : decode cX3_link 67 = .ok (.iload_n 1, 1) := by decide +kernel
theorem dX3_link_68 : decode cX3_link 68 = .ok (.iaload, 1) := by decide +kernel
theorem dX3_link_69 : decode cX3_link 69 = .ok (.iconst (-1), 1) := by decide +kernel
theorem dX3_link_70 : decode cX3_link 70 = .ok (.if_icmp .ne 6, 3) := by decide +kernel
theorem dX3_link_73 : decode cX3_link 73 = .ok (.bipush (-11), 2) := by decide +kernel
theorem dX3_link_75 : decode cX3_link 75 = .ok (.ireturn, 1) := by decide +kernel
theorem dX3_link_76 : decode cX3_link 76 = .ok (.aload_n 0, 1) := by decide +kernel
theorem dX3_link_77 : decode cX3_link 77 = .ok (.getfield 17, 3) := by decide +kernel
theorem dX3_link_80 : decode cX3_link 80 = .ok (.bipush 17, 2) := by decide +kernel
theorem dX3_link_82 : decode cX3_link 82 = .ok (.aload_n 0, 1) := by decide +kernel
theorem dX3_link_83 : decode cX3_link 83 = .ok (.getfield 7, 3) := by decide +kernel
theorem dX3_link_86 : decode cX3_link 86 = .ok (.iload_n 1, 1) := by decide +kernel
theorem dX3_link_87 : decode cX3_link 87 = .ok (.iaload, 1) := by decide +kernel
theorem dX3_link_88 : decode cX3_link 88 = .ok (.imul, 1) := by decide +kernel
theorem dX3_link_89 : decode cX3_link 89 = .ok (.iload_n 2, 1) := by decide +kernel
theorem dX3_link_90 : decode cX3_link 90 = .ok (.iadd, 1) := by decide +kernel
theorem dX3_link_91 : decode cX3_link 91 = .ok (.aload_n 0, 1) := by decide +kernel
theorem dX3_link_92 : decode cX3_link 92 = .ok (.getfield 7, 3) := by decide +kernel
theorem dX3_link_95 : decode cX3_link 95 = .ok (.iload_n 3, 1) := by decide +kernel
theorem dX3_link_96 : decode cX3_link 96 = .ok (.iaload, 1) := by decide +kernel
theorem dX3_link_97 : decode cX3_link 97 = .ok (.i2l, 1) := by decide +kernel
theorem dX3_link_98 : decode cX3_link 98 = .ok (.lastore, 1) := by decide +kernel
theorem dX3_link_99 : decode cX3_link 99 = .ok (.iconst 1, 1) := by decide +kernel
theorem dX3_link_100 : decode cX3_link 100 = .ok (.ireturn, 1) := by decide +kernel
set_option maxRecDepth 20000 in
theorem ggX3_follow_X3_isSlot : GoodIn wsX3_follow wsX3_isSlot := goodIn_r _ [6, 7, 8, 9, 5, 10] (by decide +kernel) (by decide +kernel)
set_option maxRecDepth 20000 in
theorem gX3_follow_X3_isSlot : GoodIn wsX3_follow (va_wsS RX3 84 yX3_isSlot wsX3_isSlot) := goodIn_app (goodIn_of _ (by decide +kernel)) ggX3_follow_X3_isSlot
set_option maxRecDepth 20000 in
theorem ggX3_follow_X3_isLink : GoodIn wsX3_follow wsX3_isLink := goodIn_r _ [13] (by decide +kernel) (by decide +kernel)
set_option maxRecDepth 20000 in
theorem gX3_follow_X3_isLink : GoodIn wsX3_follow (va_wsS RX3 74 yX3_isLink wsX3_isLink) := goodIn_app (goodIn_of _ (by decide +kernel)) ggX3_follow_X3_isLink
set_option maxRecDepth 20000 in
theorem ggX3_follow_X3_isOther : GoodIn wsX3_follow wsX3_isOther := goodIn_r _ [17, 1, 18, 19, 20, 5, 21, 22, 23, 24, 25, 26, 27, 28, 29, 30, 31, 32, 33, 34, 35, 36, 37, 38, 39, 40, 41, 42, 43, 44] (by decide +kernel) (by decide +kernel)
set_option maxRecDepth 20000 in
theorem gX3_follow_X3_isOther : GoodIn wsX3_follow (wsV RX3 126 RX3 yX3_isOther wsX3_isOther) := goodIn_app (goodIn_of _ (by decide +kernel)) ggX3_follow_X3_isOther
theorem dX3_follow_0 : decode cX3_follow 0 = .ok (.iload_n 1, 1) := by decide +kernel
theorem dX3_follow_1 : decode cX3_follow 1 = .ok (.invokestatic 84, 3) := by decide +kernel
theorem dX3_follow_4 : decode cX3_follow 4 = .ok (.ifCond .eq 17, 3) := by decide +kernel
theorem dX3_follow_7 : decode cX3_follow 7 = .ok (.iload_n 2, 1) := by decide +kernel
theorem dX3_follow_8 : decode cX3_follow 8 = .ok (.invokestatic 74, 3) := by decide +kernel
theorem dX3_follow_11 : decode cX3_follow 11 = .ok (.ifCond .eq 10, 3) := by decide +kernel
theorem dX3_follow_14 : decode cX3_follow 14 = .ok (.iload_n 3, 1) := by decide +kernel
theorem dX3_follow_15 : decode cX3_follow 15 = .ok (.invokestatic 84, 3) := by decide +kernel
theorem dX3_follow_18 : decode cX3_follow 18 = .ok (.ifCond .ne 5, 3) := by decide +kernel
theorem dX3_follow_21 : decode cX3_follow 21 = .ok (.iconst (-1), 1) := by decide +kernel
theorem dX3_follow_22 : decode cX3_follow 22 = .ok (.ireturn, 1) := by decide +kernel
theorem dX3_follow_23 : decode cX3_follow 23 = .ok (.aload_n 0, 1) := by decide +kernel
theorem dX3_follow_24 : decode cX3_follow 24 = .ok (.getfield 7, 3) := by decide +kernel
theorem dX3_follow_27 : decode cX3_follow 27 = .ok (.iload_n 1, 1) := by decide +kernel
theorem dX3_follow_28 : decode cX3_follow 28 = .ok (.iaload, 1) := by decide +kernel
theorem dX3_follow_29 : decode cX3_follow 29 = .ok (.iconst (-1), 1) := by decide +kernel
theorem dX3_follow_30 : decode cX3_follow 30 = .ok (.if_icmp .eq 12, 3) := by decide +kernel
theorem dX3_follow_33 : decode cX3_follow 33 = .ok (.aload_n 0, 1) := by decide +kernel
theorem dX3_follow_34 : decode cX3_follow 34 = .ok (.iload_n 1, 1) := by decide +kernel
theorem dX3_follow_35 : decode cX3_follow 35 = .ok (.iload_n 2, 1) := by decide +kernel
theorem dX3_follow_36 : decode cX3_follow 36 = .ok (.invokevirtual 126, 3) := by decide +kernel
theorem dX3_follow_39 : decode cX3_follow 39 = .ok (.ifCond .eq 21, 3) := by decide +kernel
theorem dX3_follow_42 : decode cX3_follow 42 = .ok (.aload_n 0, 1) := by decide +kernel
theorem dX3_follow_43 : decode cX3_follow 43 = .ok (.getfield 7, 3) := by decide +kernel
theorem dX3_follow_46 : decode cX3_follow 46 = .ok (.iload_n 1, 1) := by decide +kernel
theorem dX3_follow_47 : decode cX3_follow 47 = .ok (.iaload, 1) := by decide +kernel
theorem dX3_follow_48 : decode cX3_follow 48 = .ok (.iconst (-1), 1) := by decide +kernel
theorem dX3_follow_49 : decode cX3_follow 49 = .ok (.if_icmp .ne 8, 3) := by decide +kernel
theorem dX3_follow_52 : decode cX3_follow 52 = .ok (.bipush (-11), 2) := by decide +kernel
theorem dX3_follow_54 : decode cX3_follow 54 = .ok (.goto 5, 3) := by decide +kernel
theorem dX3_follow_57 : decode cX3_follow 57 = .ok (.bipush (-14), 2) := by decide +kernel
theorem dX3_follow_59 : decode cX3_follow 59 = .ok (.ireturn, 1) := by decide +kernel
theorem dX3_follow_60 : decode cX3_follow 60 = .ok (.aload_n 0, 1) := by decide +kernel
theorem dX3_follow_61 : decode cX3_follow 61 = .ok (.getfield 7, 3) := by decide +kernel
theorem dX3_follow_64 : decode cX3_follow 64 = .ok (.iload_n 3, 1) := by decide +kernel
theorem dX3_follow_65 : decode cX3_follow 65 = .ok (.aload_n 0, 1) := by decide +kernel
theorem dX3_follow_66 : decode cX3_follow 66 = .ok (.getfield 17, 3) := by decide +kernel
theorem dX3_follow_69 : decode cX3_follow 69 = .ok (.bipush 17, 2) := by decide +kernel
theorem dX3_follow_71 : decode cX3_follow 71 = .ok (.aload_n 0, 1) := by decide +kernel
theorem dX3_follow_72 : decode cX3_follow 72 = .ok (.getfield 7, 3) := by decide +kernel
theorem dX3_follow_75 : decode cX3_follow 75 = .ok (.iload_n 1, 1) := by decide +kernel
theorem dX3_follow_76 : decode cX3_follow 76 = .ok (.iaload, 1) := by decide +kernel
theorem dX3_follow_77 : decode cX3_follow 77 = .ok (.imul, 1) := by decide +kernel
theorem dX3_follow_78 : decode cX3_follow 78 = .ok (.iload_n 2, 1) := by decide +kernel
theorem dX3_follow_79 : decode cX3_follow 79 = .ok (.iadd, 1) := by decide +kernel
theorem dX3_follow_80 : decode cX3_follow 80 = .ok (.laload, 1) := by decide +kernel
theorem dX3_follow_81 : decode cX3_follow 81 = .ok (.l2i, 1) := by decide +kernel
theorem dX3_follow_82 : decode cX3_follow 82 = .ok (.iastore, 1) := by decide +kernel
theorem dX3_follow_83 : decode cX3_follow 83 = .ok (.iconst 1, 1) := by decide +kernel
theorem dX3_follow_84 : decode cX3_follow 84 = .ok (.ireturn, 1) := by decide +kernel
set_option maxRecDepth 20000 in
theorem ggX3_row_X3_isSlot : GoodIn wsX3_row wsX3_isSlot := goodIn_r _ [7, 8, 9, 10, 6, 11] (by decide +kernel) (by decide +kernel)
set_option maxRecDepth 20000 in
theorem gX3_row_X3_isSlot : GoodIn wsX3_row (va_wsS RX3 84 yX3_isSlot wsX3_isSlot) := goodIn_app (goodIn_of _ (by decide +kernel)) ggX3_row_X3_isSlot
set_option maxRecDepth 20000 in
theorem ggX3_row_X3_isOther : GoodIn wsX3_row wsX3_isOther := goodIn_r _ [15, 1, 16, 17, 18, 6, 19, 20, 21, 22, 23, 24, 25, 26, 27, 28, 29, 30, 31, 32, 33, 34, 35, 36, 37, 38, 39, 40, 41, 42] (by decide +kernel) (by decide +kernel)
set_option maxRecDepth 20000 in
theorem gX3_row_X3_isOther : GoodIn wsX3_row (wsV RX3 126 RX3 yX3_isOther wsX3_isOther) := goodIn_app (goodIn_of _ (by decide +kernel)) ggX3_row_X3_isOther
theorem dX3_row_0 : decode cX3_row 0 = .ok (.iload_n 1, 1) := by decide +kernel
theorem dX3_row_1 : decode cX3_row 1 = .ok (.invokestatic 84, 3) := by decide +kernel
theorem dX3_row_4 : decode cX3_row 4 = .ok (.ifCond .eq 9, 3) := by decide +kernel
theorem dX3_row_7 : decode cX3_row 7 = .ok (.iload_n 2, 1) := by decide +kernel
theorem dX3_row_8 : decode cX3_row 8 = .ok (.bipush 20, 2) := by decide +kernel
theorem dX3_row_10 : decode cX3_row 10 = .ok (.if_icmp .le 5, 3) := by decide +kernel
theorem dX3_row_13 : decode cX3_row 13 = .ok (.iconst (-1), 1) := by decide +kernel
theorem dX3_row_14 : decode cX3_row 14 = .ok (.ireturn, 1) := by decide +kernel
theorem dX3_row_15 : decode cX3_row 15 = .ok (.aload_n 0, 1) := by decide +kernel
theorem dX3_row_16 : decode cX3_row 16 = .ok (.iload_n 1, 1) := by decide +kernel
theorem dX3_row_17 : decode cX3_row 17 = .ok (.bipush 9, 2) := by decide +kernel
theorem dX3_row_19 : decode cX3_row 19 = .ok (.invokevirtual 126, 3) := by decide +kernel
theorem dX3_row_22 : decode cX3_row 22 = .ok (.ifCond .eq 6, 3) := by decide +kernel
theorem dX3_row_25 : decode cX3_row 25 = .ok (.bipush (-14), 2) := by decide +kernel
theorem dX3_row_27 : decode cX3_row 27 = .ok (.ireturn, 1) := by decide +kernel
theorem dX3_row_28 : decode cX3_row 28 = .ok (.iload_n 2, 1) := by decide +kernel
theorem dX3_row_29 : decode cX3_row 29 = .ok (.ifCond .ge 12, 3) := by decide +kernel
theorem dX3_row_32 : decode cX3_row 32 = .ok (.iload_n 2, 1) := by decide +kernel
theorem dX3_row_33 : decode cX3_row 33 = .ok (.bipush (-4), 2) := by decide +kernel
theorem dX3_row_35 : decode cX3_row 35 = .ok (.if_icmp .eq 6, 3) := by decide +kernel
theorem dX3_row_38 : decode cX3_row 38 = .ok (.bipush (-13), 2) := by decide +kernel
theorem dX3_row_40 : decode cX3_row 40 = .ok (.ireturn, 1) := by decide +kernel
theorem dX3_row_41 : decode cX3_row 41 = .ok (.aload_n 0, 1) := by decide +kernel
theorem dX3_row_42 : decode cX3_row 42 = .ok (.getfield 7, 3) := by decide +kernel
theorem dX3_row_45 : decode cX3_row 45 = .ok (.iload_n 1, 1) := by decide +kernel
theorem dX3_row_46 : decode cX3_row 46 = .ok (.iaload, 1) := by decide +kernel
theorem dX3_row_47 : decode cX3_row 47 = .ok (.iconst (-1), 1) := by decide +kernel
theorem dX3_row_48 : decode cX3_row 48 = .ok (.if_icmp .ne 6, 3) := by decide +kernel
theorem dX3_row_51 : decode cX3_row 51 = .ok (.bipush (-11), 2) := by decide +kernel
theorem dX3_row_53 : decode cX3_row 53 = .ok (.ireturn, 1) := by decide +kernel
theorem dX3_row_54 : decode cX3_row 54 = .ok (.aload_n 0, 1) := by decide +kernel
theorem dX3_row_55 : decode cX3_row 55 = .ok (.getfield 21, 3) := by decide +kernel
theorem dX3_row_58 : decode cX3_row 58 = .ok (.aload_n 0, 1) := by decide +kernel
theorem dX3_row_59 : decode cX3_row 59 = .ok (.getfield 7, 3) := by decide +kernel
theorem dX3_row_62 : decode cX3_row 62 = .ok (.iload_n 1, 1) := by decide +kernel
theorem dX3_row_63 : decode cX3_row 63 = .ok (.iaload, 1) := by decide +kernel
theorem dX3_row_64 : decode cX3_row 64 = .ok (.iload_n 2, 1) := by decide +kernel
theorem dX3_row_65 : decode cX3_row 65 = .ok (.bipush (-4), 2) := by decide +kernel
theorem dX3_row_67 : decode cX3_row 67 = .ok (.if_icmp .ne 7, 3) := by decide +kernel
theorem dX3_row_70 : decode cX3_row 70 = .ok (.iconst (-1), 1) := by decide +kernel
theorem dX3_row_71 : decode cX3_row 71 = .ok (.goto 4, 3) := by decide +kernel
theorem dX3_row_74 : decode cX3_row 74 = .ok (.iload_n 2, 1) := by decide +kernel
theorem dX3_row_75 : decode cX3_row 75 = .ok (.iastore, 1) := by decide +kernel
theorem dX3_row_76 : decode cX3_row 76 = .ok (.iconst 0, 1) := by decide +kernel
theorem dX3_row_77 : decode cX3_row 77 = .ok (.istore_n 3, 1) := by decide +kernel
theorem dX3_row_78 : decode cX3_row 78 = .ok (.iload_n 3, 1) := by decide +kernel
theorem dX3_row_79 : decode cX3_row 79 = .ok (.iload_n 2, 1) := by decide +kernel
theorem dX3_row_80 : decode cX3_row 80 = .ok (.if_icmp .ge 26, 3) := by decide +kernel
theorem dX3_row_83 : decode cX3_row 83 = .ok (.aload_n 0, 1) := by decide +kernel
theorem dX3_row_84 : decode cX3_row 84 = .ok (.getfield 25, 3) := by decide +kernel
theorem dX3_row_87 : decode cX3_row 87 = .ok (.bipush 20, 2) := by decide +kernel
theorem dX3_row_89 : decode cX3_row 89 = .ok (.aload_n 0, 1) := by decide +kernel
theorem dX3_row_90 : decode cX3_row 90 = .ok (.getfield 7, 3) := by decide +kernel
theorem dX3_row_93 : decode cX3_row 93 = .ok (.iload_n 1, 1) := by decide +kernel
theorem dX3_row_94 : decode cX3_row 94 = .ok (.iaload, 1) := by decide +kernel
theorem dX3_row_95 : decode cX3_row 95 = .ok (.imul, 1) := by decide +kernel
theorem dX3_row_96 : decode cX3_row 96 = .ok (.iload_n 3, 1) := by decide +kernel
theorem dX3_row_97 : decode cX3_row 97 = .ok (.iadd, 1) := by decide +kernel
theorem dX3_row_98 : decode cX3_row 98 = .ok (.iconst 0, 1) := by decide +kernel
theorem dX3_row_99 : decode cX3_row 99 = .ok (.iastore, 1) := by decide +kernel
theorem dX3_row_100 : decode cX3_row 100 = .ok (.iinc 3 1, 3) := by decide +kernel
theorem dX3_row_103 : decode cX3_row 103 = .ok (.goto (-25), 3) := by decide +kernel
theorem dX3_row_106 : decode cX3_row 106 = .ok (.iload_n 2, 1) := by decide +kernel
theorem dX3_row_107 : decode cX3_row 107 = .ok (.ireturn, 1) := by decide +kernel
set_option maxRecDepth 20000 in
theorem ggX3_rowless_X3_isOther : GoodIn wsX3_rowless wsX3_isOther := goodIn_r _ [7, 1, 8, 9, 10, 6, 11, 12, 13, 14, 15, 16, 17, 18, 19, 20, 21, 22, 23, 24, 25, 26, 27, 28, 29, 30, 31, 32, 33, 34] (by decide +kernel) (by decide +kernel)
set_option maxRecDepth 20000 in
theorem gX3_rowless_X3_isOther : GoodIn wsX3_rowless (wsV RX3 126 RX3 yX3_isOther wsX3_isOther) := goodIn_app (goodIn_of _ (by decide +kernel)) ggX3_rowless_X3_isOther
theorem dX3_rowless_0 : decode cX3_rowless 0 = .ok (.aload_n 0, 1) := by decide +kernel
theorem dX3_rowless_1 : decode cX3_rowless 1 = .ok (.iload_n 1, 1) := by decide +kernel
theorem dX3_rowless_2 : decode cX3_rowless 2 = .ok (.bipush 9, 2) := by decide +kernel
theorem dX3_rowless_4 : decode cX3_rowless 4 = .ok (.invokevirtual 126, 3) := by decide +kernel
theorem dX3_rowless_7 : decode cX3_rowless 7 = .ok (.ifCond .eq 8, 3) := by decide +kernel
theorem dX3_rowless_10 : decode cX3_rowless 10 = .ok (.bipush (-14), 2) := by decide +kernel
theorem dX3_rowless_12 : decode cX3_rowless 12 = .ok (.goto 34, 3) := by decide +kernel
theorem dX3_rowless_15 : decode cX3_rowless 15 = .ok (.aload_n 0, 1) := by decide +kernel
theorem dX3_rowless_16 : decode cX3_rowless 16 = .ok (.getfield 7, 3) := by decide +kernel
theorem dX3_rowless_19 : decode cX3_rowless 19 = .ok (.iload_n 1, 1) := by decide +kernel
theorem dX3_rowless_20 : decode cX3_rowless 20 = .ok (.iaload, 1) := by decide +kernel
theorem dX3_rowless_21 : decode cX3_rowless 21 = .ok (.iconst (-1), 1) := by decide +kernel
theorem dX3_rowless_22 : decode cX3_rowless 22 = .ok (.if_icmp .eq 18, 3) := by decide +kernel
theorem dX3_rowless_25 : decode cX3_rowless 25 = .ok (.aload_n 0, 1) := by decide +kernel
theorem dX3_rowless_26 : decode cX3_rowless 26 = .ok (.getfield 21, 3) := by decide +kernel
theorem dX3_rowless_29 : decode cX3_rowless 29 = .ok (.aload_n 0, 1) := by decide +kernel
theorem dX3_rowless_30 : decode cX3_rowless 30 = .ok (.getfield 7, 3) := by decide +kernel
theorem dX3_rowless_33 : decode cX3_rowless 33 = .ok (.iload_n 1, 1) := by decide +kernel
theorem dX3_rowless_34 : decode cX3_rowless 34 = .ok (.iaload, 1) := by decide +kernel
theorem dX3_rowless_35 : decode cX3_rowless 35 = .ok (.iaload, 1) := by decide +kernel
theorem dX3_rowless_36 : decode cX3_rowless 36 = .ok (.iconst (-1), 1) := by decide +kernel
theorem dX3_rowless_37 : decode cX3_rowless 37 = .ok (.if_icmp .ne 8, 3) := by decide +kernel
theorem dX3_rowless_40 : decode cX3_rowless 40 = .ok (.bipush (-11), 2) := by decide +kernel
theorem dX3_rowless_42 : decode cX3_rowless 42 = .ok (.goto 4, 3) := by decide +kernel
theorem dX3_rowless_45 : decode cX3_rowless 45 = .ok (.iconst 0, 1) := by decide +kernel
theorem dX3_rowless_46 : decode cX3_rowless 46 = .ok (.ireturn, 1) := by decide +kernel
set_option maxRecDepth 20000 in
theorem ggX3_put_X3_isSlot : GoodIn wsX3_put wsX3_isSlot := goodIn_r _ [7, 8, 9, 10, 6, 11] (by decide +kernel) (by decide +kernel)
set_option maxRecDepth 20000 in
theorem gX3_put_X3_isSlot : GoodIn wsX3_put (va_wsS RX3 84 yX3_isSlot wsX3_isSlot) := goodIn_app (goodIn_of _ (by decide +kernel)) ggX3_put_X3_isSlot
set_option maxRecDepth 20000 in
theorem ggX3_put_X3_rowless : GoodIn wsX3_put wsX3_rowless := goodIn_r _ [15, 2, 1, 16, 17, 18, 6, 19, 20, 21, 22, 23, 24, 25, 26, 27, 28, 29, 30, 31, 32, 33, 34, 35, 36, 37, 38, 39, 40, 41, 42, 43, 44, 45, 46] (by decide +kernel) (by decide +kernel)
set_option maxRecDepth 20000 in
theorem gX3_put_X3_rowless : GoodIn wsX3_put (wsV RX3 138 RX3 yX3_rowless wsX3_rowless) := goodIn_app (goodIn_of _ (by decide +kernel)) ggX3_put_X3_rowless
set_option maxRecDepth 20000 in
theorem ggX3_put_X3_in : GoodIn wsX3_put wsX3_in := goodIn_r _ [11] (by decide +kernel) (by decide +kernel)
set_option maxRecDepth 20000 in
theorem gX3_put_X3_in : GoodIn wsX3_put (va_wsS RX3 70 yX3_in wsX3_in) := goodIn_app (goodIn_of _ (by decide +kernel)) ggX3_put_X3_in
theorem dX3_put_0 : decode cX3_put 0 = .ok (.iload_n 1, 1) := by decide +kernel
theorem dX3_put_1 : decode cX3_put 1 = .ok (.invokestatic 84, 3) := by decide +kernel
theorem dX3_put_4 : decode cX3_put 4 = .ok (.ifCond .ne 5, 3) := by decide +kernel
theorem dX3_put_7 : decode cX3_put 7 = .ok (.iconst (-1), 1) := by decide +kernel
theorem dX3_put_8 : decode cX3_put 8 = .ok (.ireturn, 1) := by decide +kernel
theorem dX3_put_9 : decode cX3_put 9 = .ok (.aload_n 0, 1) := by decide +kernel
theorem dX3_put_10 : decode cX3_put 10 = .ok (.iload_n 1, 1) := by decide +kernel
theorem dX3_put_11 : decode cX3_put 11 = .ok (.invokevirtual 138, 3) := by decide +kernel
theorem dX3_put_14 : decode cX3_put 14 = .ok (.istore 4, 2) := by decide +kernel
theorem dX3_put_16 : decode cX3_put 16 = .ok (.iload 4, 2) := by decide +kernel
theorem dX3_put_18 : decode cX3_put 18 = .ok (.ifCond .eq 6, 3) := by decide +kernel
theorem dX3_put_21 : decode cX3_put 21 = .ok (.iload 4, 2) := by decide +kernel
theorem dX3_put_23 : decode cX3_put 23 = .ok (.ireturn, 1) := by decide +kernel
theorem dX3_put_24 : decode cX3_put 24 = .ok (.iload_n 2, 1) := by decide +kernel
theorem dX3_put_25 : decode cX3_put 25 = .ok (.i2l, 1) := by decide +kernel
theorem dX3_put_26 : decode cX3_put 26 = .ok (.lconst 0, 1) := by decide +kernel
theorem dX3_put_27 : decode cX3_put 27 = .ok (.aload_n 0, 1) := by decide +kernel
theorem dX3_put_28 : decode cX3_put 28 = .ok (.getfield 21, 3) := by decide +kernel
theorem dX3_put_31 : decode cX3_put 31 = .ok (.aload_n 0, 1) := by decide +kernel
theorem dX3_put_32 : decode cX3_put 32 = .ok (.getfield 7, 3) := by decide +kernel
theorem dX3_put_35 : decode cX3_put 35 = .ok (.iload_n 1, 1) := by decide +kernel
theorem dX3_put_36 : decode cX3_put 36 = .ok (.iaload, 1) := by decide +kernel
theorem dX3_put_37 : decode cX3_put 37 = .ok (.iaload, 1) := by decide +kernel
theorem dX3_put_38 : decode cX3_put 38 = .ok (.iconst 1, 1) := by decide +kernel
theorem dX3_put_39 : decode cX3_put 39 = .ok (.isub, 1) := by decide +kernel
theorem dX3_put_40 : decode cX3_put 40 = .ok (.i2l, 1) := by decide +kernel
theorem dX3_put_41 : decode cX3_put 41 = .ok (.invokestatic 70, 3) := by decide +kernel
theorem dX3_put_44 : decode cX3_put 44 = .ok (.ifCond .ne 6, 3) := by decide +kernel
theorem dX3_put_47 : decode cX3_put 47 = .ok (.bipush (-12), 2) := by decide +kernel
theorem dX3_put_49 : decode cX3_put 49 = .ok (.ireturn, 1) := by decide +kernel
theorem dX3_put_50 : decode cX3_put 50 = .ok (.aload_n 0, 1) := by decide +kernel
theorem dX3_put_51 : decode cX3_put 51 = .ok (.getfield 25, 3) := by decide +kernel
theorem dX3_put_54 : decode cX3_put 54 = .ok (.bipush 20, 2) := by decide +kernel
theorem dX3_put_56 : decode cX3_put 56 = .ok (.aload_n 0, 1) := by decide +kernel
theorem dX3_put_57 : decode cX3_put 57 = .ok (.getfield 7, 3) := by decide +kernel
theorem dX3_put_60 : decode cX3_put 60 = .ok (.iload_n 1, 1) := by decide +kernel
theorem dX3_put_61 : decode cX3_put 61 = .ok (.iaload, 1) := by decide +kernel
theorem dX3_put_62 : decode cX3_put 62 = .ok (.imul, 1) := by decide +kernel
theorem dX3_put_63 : decode cX3_put 63 = .ok (.iload_n 2, 1) := by decide +kernel
theorem dX3_put_64 : decode cX3_put 64 = .ok (.iadd, 1) := by decide +kernel
theorem dX3_put_65 : decode cX3_put 65 = .ok (.iaload, 1) := by decide +kernel
theorem dX3_put_66 : decode cX3_put 66 = .ok (.istore 5, 2) := by decide +kernel
theorem dX3_put_68 : decode cX3_put 68 = .ok (.aload_n 0, 1) := by decide +kernel
theorem dX3_put_69 : decode cX3_put 69 = .ok (.getfield 25, 3) := by decide +kernel
theorem dX3_put_72 : decode cX3_put 72 = .ok (.bipush 20, 2) := by decide +kernel
theorem dX3_put_74 : decode cX3_put 74 = .ok (.aload_n 0, 1) := by decide +kernel
theorem dX3_put_75 : decode cX3_put 75 = .ok (.getfield 7, 3) := by decide +kernel
theorem dX3_put_78 : decode cX3_put 78 = .ok (.iload_n 1, 1) := by decide +kernel
theorem dX3_put_79 : decode cX3_put 79 = .ok (.iaload, 1) := by decide +kernel
theorem dX3_put_80 : decode cX3_put 80 = .ok (.imul, 1) := by decide +kernel
theorem dX3_put_81 : decode cX3_put 81 = .ok (.iload_n 2, 1) := by decide +kernel
theorem dX3_put_82 : decode cX3_put 82 = .ok (.iadd, 1) := by decide +kernel
theorem dX3_put_83 : decode cX3_put 83 = .ok (.iload_n 3, 1) := by decide +kernel
theorem dX3_put_84 : decode cX3_put 84 = .ok (.iastore, 1) := by decide +kernel
theorem dX3_put_85 : decode cX3_put 85 = .ok (.iload 5, 2) := by decide +kernel
theorem dX3_put_87 : decode cX3_put 87 = .ok (.ireturn, 1) := by decide +kernel
set_option maxRecDepth 20000 in
theorem ggX3_length_X3_isSlot : GoodIn wsX3_length wsX3_isSlot := goodIn_r _ [6, 7, 8, 9, 5, 10] (by decide +kernel) (by decide +kernel)
set_option maxRecDepth 20000 in
theorem gX3_length_X3_isSlot : GoodIn wsX3_length (va_wsS RX3 84 yX3_isSlot wsX3_isSlot) := goodIn_app (goodIn_of _ (by decide +kernel)) ggX3_length_X3_isSlot
set_option maxRecDepth 20000 in
theorem ggX3_length_X3_rowless : GoodIn wsX3_length wsX3_rowless := goodIn_r _ [14, 2, 1, 15, 16, 17, 5, 18, 19, 20, 21, 22, 23, 24, 25, 26, 27, 28, 29, 30, 31, 32, 33, 34, 35, 36, 37, 38, 39, 40, 41, 42, 43, 44, 45] (by decide +kernel) (by decide +kernel)
set_option maxRecDepth 20000 in
theorem gX3_length_X3_rowless : GoodIn wsX3_length (wsV RX3 138 RX3 yX3_rowless wsX3_rowless) := goodIn_app (goodIn_of _ (by decide +kernel)) ggX3_length_X3_rowless
theorem dX3_length_0 : decode cX3_length 0 = .ok (.iload_n 1, 1) := by decide +kernel
theorem dX3_length_1 : decode cX3_length 1 = .ok (.invokestatic 84, 3) := by decide +kernel
theorem dX3_length_4 : decode cX3_length 4 = .ok (.ifCond .ne 5, 3) := by decide +kernel
theorem dX3_length_7 : decode cX3_length 7 = .ok (.iconst (-1), 1) := by decide +kernel
theorem dX3_length_8 : decode cX3_length 8 = .ok (.ireturn, 1) := by decide +kernel
theorem dX3_length_9 : decode cX3_length 9 = .ok (.aload_n 0, 1) := by decide +kernel
theorem dX3_length_10 : decode cX3_length 10 = .ok (.iload_n 1, 1) := by decide +kernel
theorem dX3_length_11 : decode cX3_length 11 = .ok (.invokevirtual 138, 3) := by decide +kernel
theorem dX3_length_14 : decode cX3_length 14 = .ok (.istore_n 2, 1) := by decide +kernel
theorem dX3_length_15 : decode cX3_length 15 = .ok (.iload_n 2, 1) := by decide +kernel
theorem dX3_length_16 : decode cX3_length 16 = .ok (.ifCond .eq 7, 3) := by decide +kernel
theorem dX3_length_19 : decode cX3_length 19 = .ok (.iload_n 2, 1) := by decide +kernel
theorem dX3_length_20 : decode cX3_length 20 = .ok (.goto 14, 3) := by decide +kernel
theorem dX3_length_23 : decode cX3_length 23 = .ok (.aload_n 0, 1) := by decide +kernel
theorem dX3_length_24 : decode cX3_length 24 = .ok (.getfield 21, 3) := by decide +kernel
theorem dX3_length_27 : decode cX3_length 27 = .ok (.aload_n 0, 1) := by decide +kernel
theorem dX3_length_28 : decode cX3_length 28 = .ok (.getfield 7, 3) := by decide +kernel
theorem dX3_length_31 : decode cX3_length 31 = .ok (.iload_n 1, 1) := by decide +kernel
theorem dX3_length_32 : decode cX3_length 32 = .ok (.iaload, 1) := by decide +kernel
theorem dX3_length_33 : decode cX3_length 33 = .ok (.iaload, 1) := by decide +kernel
theorem dX3_length_34 : decode cX3_length 34 = .ok (.ireturn, 1) := by decide +kernel
set_option maxRecDepth 20000 in
theorem ggX3_count_X3_isSlot : GoodIn wsX3_count wsX3_isSlot := goodIn_r _ [11, 12, 13, 14, 10, 15] (by decide +kernel) (by decide +kernel)
set_option maxRecDepth 20000 in
theorem gX3_count_X3_isSlot : GoodIn wsX3_count (va_wsS RX3 84 yX3_isSlot wsX3_isSlot) := goodIn_app (goodIn_of _ (by decide +kernel)) ggX3_count_X3_isSlot
set_option maxRecDepth 20000 in
theorem ggX3_count_X3_in : GoodIn wsX3_count wsX3_in := goodIn_r _ [15] (by decide +kernel) (by decide +kernel)
set_option maxRecDepth 20000 in
theorem gX3_count_X3_in : GoodIn wsX3_count (va_wsS RX3 70 yX3_in wsX3_in) := goodIn_app (goodIn_of _ (by decide +kernel)) ggX3_count_X3_in
set_option maxRecDepth 20000 in
theorem ggX3_count_X3_isBelow : GoodIn wsX3_count wsX3_isBelow := goodIn_r _ [18] (by decide +kernel) (by decide +kernel)
set_option maxRecDepth 20000 in
theorem gX3_count_X3_isBelow : GoodIn wsX3_count (va_wsS RX3 100 yX3_isBelow wsX3_isBelow) := goodIn_app (goodIn_of _ (by decide +kernel)) ggX3_count_X3_isBelow
theorem dX3_count_0 : decode cX3_count 0 = .ok (.iload_n 1, 1) := by decide +kernel
theorem dX3_count_1 : decode cX3_count 1 = .ok (.invokestatic 84, 3) := by decide +kernel
theorem dX3_count_4 : decode cX3_count 4 = .ok (.ifCond .eq 15, 3) := by decide +kernel
theorem dX3_count_7 : decode cX3_count 7 = .ok (.iload_n 2, 1) := by decide +kernel
theorem dX3_count_8 : decode cX3_count 8 = .ok (.i2l, 1) := by decide +kernel
theorem dX3_count_9 : decode cX3_count 9 = .ok (.lconst 0, 1) := by decide +kernel
theorem dX3_count_10 : decode cX3_count 10 = .ok (.ldc2_w 142, 3) := by decide +kernel
theorem dX3_count_13 : decode cX3_count 13 = .ok (.invokestatic 70, 3) := by decide +kernel
theorem dX3_count_16 : decode cX3_count 16 = .ok (.ifCond .ne 7, 3) := by decide +kernel
theorem dX3_count_19 : decode cX3_count 19 = .ok (.ldc2_w 82, 3) := by decide +kernel
theorem dX3_count_22 : decode cX3_count 22 = .ok (.lreturn, 1) := by decide +kernel
theorem dX3_count_23 : decode cX3_count 23 = .ok (.aload_n 0, 1) := by decide +kernel
theorem dX3_count_24 : decode cX3_count 24 = .ok (.getfield 7, 3) := by decide +kernel
theorem dX3_count_27 : decode cX3_count 27 = .ok (.iload_n 1, 1) := by decide +kernel
theorem dX3_count_28 : decode cX3_count 28 = .ok (.iaload, 1) := by decide +kernel
theorem dX3_count_29 : decode cX3_count 29 = .ok (.iconst (-1), 1) := by decide +kernel
theorem dX3_count_30 : decode cX3_count 30 = .ok (.if_icmp .ne 7, 3) := by decide +kernel
theorem dX3_count_33 : decode cX3_count 33 = .ok (.ldc2_w 124, 3) := by decide +kernel
theorem dX3_count_36 : decode cX3_count 36 = .ok (.lreturn, 1) := by decide +kernel
theorem dX3_count_37 : decode cX3_count 37 = .ok (.aload_n 0, 1) := by decide +kernel
theorem dX3_count_38 : decode cX3_count 38 = .ok (.getfield 13, 3) := by decide +kernel
theorem dX3_count_41 : decode cX3_count 41 = .ok (.aload_n 0, 1) := by decide +kernel
theorem dX3_count_42 : decode cX3_count 42 = .ok (.getfield 7, 3) := by decide +kernel
theorem dX3_count_45 : decode cX3_count 45 = .ok (.iload_n 1, 1) := by decide +kernel
theorem dX3_count_46 : decode cX3_count 46 = .ok (.iaload, 1) := by decide +kernel
theorem dX3_count_47 : decode cX3_count 47 = .ok (.iaload, 1) := by decide +kernel
theorem dX3_count_48 : decode cX3_count 48 = .ok (.iload_n 2, 1) := by decide +kernel
theorem dX3_count_49 : decode cX3_count 49 = .ok (.invokestatic 100, 3) := by decide +kernel
theorem dX3_count_52 : decode cX3_count 52 = .ok (.ifCond .eq 41, 3) := by decide +kernel
theorem dX3_count_55 : decode cX3_count 55 = .ok (.aload_n 0, 1) := by decide +kernel
theorem dX3_count_56 : decode cX3_count 56 = .ok (.getfield 17, 3) := by decide +kernel
theorem dX3_count_59 : decode cX3_count 59 = .ok (.bipush 17, 2) := by decide +kernel
theorem dX3_count_61 : decode cX3_count 61 = .ok (.aload_n 0, 1) := by decide +kernel
theorem dX3_count_62 : decode cX3_count 62 = .ok (.getfield 7, 3) := by decide +kernel
theorem dX3_count_65 : decode cX3_count 65 = .ok (.iload_n 1, 1) := by decide +kernel
theorem dX3_count_66 : decode cX3_count 66 = .ok (.iaload, 1) := by decide +kernel
theorem dX3_count_67 : decode cX3_count 67 = .ok (.imul, 1) := by decide +kernel
theorem dX3_count_68 : decode cX3_count 68 = .ok (.iload_n 2, 1) := by decide +kernel
theorem dX3_count_69 : decode cX3_count 69 = .ok (.ifCond .ne 7, 3) := by decide +kernel
theorem dX3_count_72 : decode cX3_count 72 = .ok (.iconst 4, 1) := by decide +kernel
theorem dX3_count_73 : decode cX3_count 73 = .ok (.goto 15, 3) := by decide +kernel
theorem dX3_count_76 : decode cX3_count 76 = .ok (.iload_n 2, 1) := by decide +kernel
theorem dX3_count_77 : decode cX3_count 77 = .ok (.iconst 1, 1) := by decide +kernel
theorem dX3_count_78 : decode cX3_count 78 = .ok (.if_icmp .ne 8, 3) := by decide +kernel
theorem dX3_count_81 : decode cX3_count 81 = .ok (.bipush 10, 2) := by decide +kernel
theorem dX3_count_83 : decode cX3_count 83 = .ok (.goto 5, 3) := by decide +kernel
theorem dX3_count_86 : decode cX3_count 86 = .ok (.bipush 12, 2) := by decide +kernel
theorem dX3_count_88 : decode cX3_count 88 = .ok (.iadd, 1) := by decide +kernel
theorem dX3_count_89 : decode cX3_count 89 = .ok (.laload, 1) := by decide +kernel
theorem dX3_count_90 : decode cX3_count 90 = .ok (.goto 6, 3) := by decide +kernel
theorem dX3_count_93 : decode cX3_count 93 = .ok (.ldc2_w 129, 3) := by decide +kernel
theorem dX3_count_96 : decode cX3_count 96 = .ok (.lreturn, 1) := by decide +kernel
theorem dX3_nameOf_0 : decode cX3_nameOf 0 = .ok (.bipush 17, 2) := by decide +kernel
theorem dX3_nameOf_2 : decode cX3_nameOf 2 = .ok (.iload_n 1, 1) := by decide +kernel
theorem dX3_nameOf_3 : decode cX3_nameOf 3 = .ok (.imul, 1) := by decide +kernel
theorem dX3_nameOf_4 : decode cX3_nameOf 4 = .ok (.istore_n 2, 1) := by decide +kernel
theorem dX3_nameOf_5 : decode cX3_nameOf 5 = .ok (.iconst 1, 1) := by decide +kernel
theorem dX3_nameOf_6 : decode cX3_nameOf 6 = .ok (.aload_n 0, 1) := by decide +kernel
theorem dX3_nameOf_7 : decode cX3_nameOf 7 = .ok (.getfield 17, 3) := by decide +kernel
theorem dX3_nameOf_10 : decode cX3_nameOf 10 = .ok (.iload_n 2, 1) := by decide +kernel
theorem dX3_nameOf_11 : decode cX3_nameOf 11 = .ok (.iconst 4, 1) := by decide +kernel
theorem dX3_nameOf_12 : decode cX3_nameOf 12 = .ok (.iadd, 1) := by decide +kernel
theorem dX3_nameOf_13 : decode cX3_nameOf 13 = .ok (.laload, 1) := by decide +kernel
theorem dX3_nameOf_14 : decode cX3_nameOf 14 = .ok (.l2i, 1) := by decide +kernel
theorem dX3_nameOf_15 : decode cX3_nameOf 15 = .ok (.iadd, 1) := by decide +kernel
theorem dX3_nameOf_16 : decode cX3_nameOf 16 = .ok (.istore_n 3, 1) := by decide +kernel
theorem dX3_nameOf_17 : decode cX3_nameOf 17 = .ok (.aload_n 0, 1) := by decide +kernel
theorem dX3_nameOf_18 : decode cX3_nameOf 18 = .ok (.getfield 13, 3) := by decide +kernel
theorem dX3_nameOf_21 : decode cX3_nameOf 21 = .ok (.iload_n 1, 1) := by decide +kernel
theorem dX3_nameOf_22 : decode cX3_nameOf 22 = .ok (.iaload, 1) := by decide +kernel
theorem dX3_nameOf_23 : decode cX3_nameOf 23 = .ok (.ifCond .le 19, 3) := by decide +kernel
theorem dX3_nameOf_26 : decode cX3_nameOf 26 = .ok (.bipush 10, 2) := by decide +kernel
theorem dX3_nameOf_28 : decode cX3_nameOf 28 = .ok (.iload_n 3, 1) := by decide +kernel
theorem dX3_nameOf_29 : decode cX3_nameOf 29 = .ok (.imul, 1) := by decide +kernel
theorem dX3_nameOf_30 : decode cX3_nameOf 30 = .ok (.aload_n 0, 1) := by decide +kernel
theorem dX3_nameOf_31 : decode cX3_nameOf 31 = .ok (.getfield 17, 3) := by decide +kernel
theorem dX3_nameOf_34 : decode cX3_nameOf 34 = .ok (.iload_n 2, 1) := by decide +kernel
theorem dX3_nameOf_35 : decode cX3_nameOf 35 = .ok (.bipush 10, 2) := by decide +kernel
theorem dX3_nameOf_37 : decode cX3_nameOf 37 = .ok (.iadd, 1) := by decide +kernel
theorem dX3_nameOf_38 : decode cX3_nameOf 38 = .ok (.laload, 1) := by decide +kernel
theorem dX3_nameOf_39 : decode cX3_nameOf 39 = .ok (.l2i, 1) := by decide +kernel
theorem dX3_nameOf_40 : decode cX3_nameOf 40 = .ok (.iadd, 1) := by decide +kernel
theorem dX3_nameOf_41 : decode cX3_nameOf 41 = .ok (.istore_n 3, 1) := by decide +kernel
theorem dX3_nameOf_42 : decode cX3_nameOf 42 = .ok (.aload_n 0, 1) := by decide +kernel
theorem dX3_nameOf_43 : decode cX3_nameOf 43 = .ok (.getfield 13, 3) := by decide +kernel
theorem dX3_nameOf_46 : decode cX3_nameOf 46 = .ok (.iload_n 1, 1) := by decide +kernel
theorem dX3_nameOf_47 : decode cX3_nameOf 47 = .ok (.iaload, 1) := by decide +kernel
theorem dX3_nameOf_48 : decode cX3_nameOf 48 = .ok (.iconst 2, 1) := by decide +kernel
theorem dX3_nameOf_49 : decode cX3_nameOf 49 = .ok (.if_icmp .ne 18, 3) := by decide +kernel
theorem dX3_nameOf_52 : decode cX3_nameOf 52 = .ok (.iload_n 3, 1) := by decide +kernel
theorem dX3_nameOf_53 : decode cX3_nameOf 53 = .ok (.aload_n 0, 1) := by decide +kernel
theorem dX3_nameOf_54 : decode cX3_nameOf 54 = .ok (.getfield 17, 3) := by decide +kernel
theorem dX3_nameOf_57 : decode cX3_nameOf 57 = .ok (.iload_n 2, 1) := by decide +kernel
theorem dX3_nameOf_58 : decode cX3_nameOf 58 = .ok (.bipush 13, 2) := by decide +kernel
theorem dX3_nameOf_60 : decode cX3_nameOf 60 = .ok (.iadd, 1) := by decide +kernel
theorem dX3_nameOf_61 : decode cX3_nameOf 61 = .ok (.laload, 1) := by decide +kernel
theorem dX3_nameOf_62 : decode cX3_nameOf 62 = .ok (.l2i, 1) := by decide +kernel
theorem dX3_nameOf_63 : decode cX3_nameOf 63 = .ok (.iadd, 1) := by decide +kernel
theorem dX3_nameOf_64 : decode cX3_nameOf 64 = .ok (.goto 4, 3) := by decide +kernel
theorem dX3_nameOf_67 : decode cX3_nameOf 67 = .ok (.iload_n 3, 1) := by decide +kernel
theorem dX3_nameOf_68 : decode cX3_nameOf 68 = .ok (.ireturn, 1) := by decide +kernel
theorem dX3_depthOf_0 : decode cX3_depthOf 0 = .ok (.iconst (-1), 1) := by decide +kernel
theorem dX3_depthOf_1 : decode cX3_depthOf 1 = .ok (.istore_n 2, 1) := by decide +kernel
theorem dX3_depthOf_2 : decode cX3_depthOf 2 = .ok (.iload_n 1, 1) := by decide +kernel
theorem dX3_depthOf_3 : decode cX3_depthOf 3 = .ok (.istore_n 3, 1) := by decide +kernel
theorem dX3_depthOf_4 : decode cX3_depthOf 4 = .ok (.iload_n 3, 1) := by decide +kernel
theorem dX3_depthOf_5 : decode cX3_depthOf 5 = .ok (.iconst (-1), 1) := by decide +kernel
theorem dX3_depthOf_6 : decode cX3_depthOf 6 = .ok (.if_icmp .eq 58, 3) := by decide +kernel
theorem dX3_depthOf_9 : decode cX3_depthOf 9 = .ok (.iload_n 2, 1) := by decide +kernel
theorem dX3_depthOf_10 : decode cX3_depthOf 10 = .ok (.bipush 50, 2) := by decide +kernel
theorem dX3_depthOf_12 : decode cX3_depthOf 12 = .ok (.if_icmp .ge 52, 3) := by decide +kernel
theorem dX3_depthOf_15 : decode cX3_depthOf 15 = .ok (.iinc 2 1, 3) := by decide +kernel
theorem dX3_depthOf_18 : decode cX3_depthOf 18 = .ok (.aload_n 0, 1) := by decide +kernel
theorem dX3_depthOf_19 : decode cX3_depthOf 19 = .ok (.getfield 13, 3) := by decide +kernel
theorem dX3_depthOf_22 : decode cX3_depthOf 22 = .ok (.iload_n 3, 1) := by decide +kernel
theorem dX3_depthOf_23 : decode cX3_depthOf 23 = .ok (.iaload, 1) := by decide +kernel
theorem dX3_depthOf_24 : decode cX3_depthOf 24 = .ok (.istore 4, 2) := by decide +kernel
theorem dX3_depthOf_26 : decode cX3_depthOf 26 = .ok (.aload_n 0, 1) := by decide +kernel
theorem dX3_depthOf_27 : decode cX3_depthOf 27 = .ok (.getfield 17, 3) := by decide +kernel
theorem dX3_depthOf_30 : decode cX3_depthOf 30 = .ok (.bipush 17, 2) := by decide +kernel
theorem dX3_depthOf_32 : decode cX3_depthOf 32 = .ok (.iload_n 3, 1) := by decide +kernel
theorem dX3_depthOf_33 : decode cX3_depthOf 33 = .ok (.imul, 1) := by decide +kernel
theorem dX3_depthOf_34 : decode cX3_depthOf 34 = .ok (.iload 4, 2) := by decide +kernel
theorem dX3_depthOf_36 : decode cX3_depthOf 36 = .ok (.ifCond .ne 8, 3) := by decide +kernel
theorem dX3_depthOf_39 : decode cX3_depthOf 39 = .ok (.bipush 8, 2) := by decide +kernel
theorem dX3_depthOf_41 : decode cX3_depthOf 41 = .ok (.goto 16, 3) := by decide +kernel
theorem dX3_depthOf_44 : decode cX3_depthOf 44 = .ok (.iload 4, 2) := by decide +kernel
theorem dX3_depthOf_46 : decode cX3_depthOf 46 = .ok (.iconst 3, 1) := by decide +kernel
theorem dX3_depthOf_47 : decode cX3_depthOf 47 = .ok (.if_icmp .ne 8, 3) := by decide +kernel
theorem dX3_depthOf_50 : decode cX3_depthOf 50 = .ok (.bipush 15, 2) := by decide +kernel
theorem dX3_depthOf_52 : decode cX3_depthOf 52 = .ok (.goto 5, 3) := by decide +kernel
theorem dX3_depthOf_55 : decode cX3_depthOf 55 = .ok (.bipush 11, 2) := by decide +kernel
theorem dX3_depthOf_57 : decode cX3_depthOf 57 = .ok (.iadd, 1) := by decide +kernel
theorem dX3_depthOf_58 : decode cX3_depthOf 58 = .ok (.laload, 1) := by decide +kernel
theorem dX3_depthOf_59 : decode cX3_depthOf 59 = .ok (.l2i, 1) := by decide +kernel
theorem dX3_depthOf_60 : decode cX3_depthOf 60 = .ok (.istore_n 3, 1) := by decide +kernel
theorem dX3_depthOf_61 : decode cX3_depthOf 61 = .ok (.goto (-57), 3) := by decide +kernel
theorem dX3_depthOf_64 : decode cX3_depthOf 64 = .ok (.iload_n 2, 1) := by decide +kernel
theorem dX3_depthOf_65 : decode cX3_depthOf 65 = .ok (.ireturn, 1) := by decide +kernel
theorem dX3_kindOf_0 : decode cX3_kindOf 0 = .ok (.iconst 0, 1) := by decide +kernel
theorem dX3_kindOf_1 : decode cX3_kindOf 1 = .ok (.istore_n 2, 1) := by decide +kernel
theorem dX3_kindOf_2 : decode cX3_kindOf 2 = .ok (.iconst 1, 1) := by decide +kernel
theorem dX3_kindOf_3 : decode cX3_kindOf 3 = .ok (.istore_n 3, 1) := by decide +kernel
theorem dX3_kindOf_4 : decode cX3_kindOf 4 = .ok (.iload_n 1, 1) := by decide +kernel
theorem dX3_kindOf_5 : decode cX3_kindOf 5 = .ok (.istore 4, 2) := by decide +kernel
theorem dX3_kindOf_7 : decode cX3_kindOf 7 = .ok (.iconst 0, 1) := by decide +kernel
theorem dX3_kindOf_8 : decode cX3_kindOf 8 = .ok (.istore 5, 2) := by decide +kernel
theorem dX3_kindOf_10 : decode cX3_kindOf 10 = .ok (.iload 5, 2) := by decide +kernel
theorem dX3_kindOf_12 : decode cX3_kindOf 12 = .ok (.bipush 8, 2) := by decide +kernel
theorem dX3_kindOf_14 : decode cX3_kindOf 14 = .ok (.if_icmp .ge 81, 3) := by decide +kernel
theorem dX3_kindOf_17 : decode cX3_kindOf 17 = .ok (.iload 4, 2) := by decide +kernel
theorem dX3_kindOf_19 : decode cX3_kindOf 19 = .ok (.iconst (-1), 1) := by decide +kernel
theorem dX3_kindOf_20 : decode cX3_kindOf 20 = .ok (.if_icmp .eq 75, 3) := by decide +kernel
theorem dX3_kindOf_23 : decode cX3_kindOf 23 = .ok (.iload_n 2, 1) := by decide +kernel
theorem dX3_kindOf_24 : decode cX3_kindOf 24 = .ok (.iload_n 3, 1) := by decide +kernel
theorem dX3_kindOf_25 : decode cX3_kindOf 25 = .ok (.aload_n 0, 1) := by decide +kernel
theorem dX3_kindOf_26 : decode cX3_kindOf 26 = .ok (.getfield 13, 3) := by decide +kernel
theorem dX3_kindOf_29 : decode cX3_kindOf 29 = .ok (.iload 4, 2) := by decide +kernel
theorem dX3_kindOf_31 : decode cX3_kindOf 31 = .ok (.iaload, 1) := by decide +kernel
theorem dX3_kindOf_32 : decode cX3_kindOf 32 = .ok (.iconst 3, 1) := by decide +kernel
theorem dX3_kindOf_33 : decode cX3_kindOf 33 = .ok (.if_icmp .ne 8, 3) := by decide +kernel
theorem dX3_kindOf_36 : decode cX3_kindOf 36 = .ok (.bipush 7, 2) := by decide +kernel
theorem dX3_kindOf_38 : decode cX3_kindOf 38 = .ok (.goto 12, 3) := by decide +kernel
theorem dX3_kindOf_41 : decode cX3_kindOf 41 = .ok (.aload_n 0, 1) := by decide +kernel
theorem dX3_kindOf_42 : decode cX3_kindOf 42 = .ok (.getfield 13, 3) := by decide +kernel
theorem dX3_kindOf_45 : decode cX3_kindOf 45 = .ok (.iload 4, 2) := by decide +kernel
theorem dX3_kindOf_47 : decode cX3_kindOf 47 = .ok (.iaload, 1) := by decide +kernel
theorem dX3_kindOf_48 : decode cX3_kindOf 48 = .ok (.iconst 1, 1) := by decide +kernel
theorem dX3_kindOf_49 : decode cX3_kindOf 49 = .ok (.iadd, 1) := by decide +kernel
theorem dX3_kindOf_50 : decode cX3_kindOf 50 = .ok (.imul, 1) := by decide +kernel
theorem dX3_kindOf_51 : decode cX3_kindOf 51 = .ok (.iadd, 1) := by decide +kernel
theorem dX3_kindOf_52 : decode cX3_kindOf 52 = .ok (.istore_n 2, 1) := by decide +kernel
theorem dX3_kindOf_53 : decode cX3_kindOf 53 = .ok (.iload_n 3, 1) := by decide +kernel
theorem dX3_kindOf_54 : decode cX3_kindOf 54 = .ok (.bipush 10, 2) := by decide +kernel
theorem dX3_kindOf_56 : decode cX3_kindOf 56 = .ok (.imul, 1) := by decide +kernel
theorem dX3_kindOf_57 : decode cX3_kindOf 57 = .ok (.istore_n 3, 1) := by decide +kernel
theorem dX3_kindOf_58 : decode cX3_kindOf 58 = .ok (.aload_n 0, 1) := by decide +kernel
theorem dX3_kindOf_59 : decode cX3_kindOf 59 = .ok (.getfield 13, 3) := by decide +kernel
theorem dX3_kindOf_62 : decode cX3_kindOf 62 = .ok (.iload 4, 2) := by decide +kernel
theorem dX3_kindOf_64 : decode cX3_kindOf 64 = .ok (.iaload, 1) := by decide +kernel
theorem dX3_kindOf_65 : decode cX3_kindOf 65 = .ok (.iconst 3, 1) := by decide +kernel
theorem dX3_kindOf_66 : decode cX3_kindOf 66 = .ok (.if_icmp .ne 7, 3) := by decide +kernel
theorem dX3_kindOf_69 : decode cX3_kindOf 69 = .ok (.iconst (-1), 1) := by decide +kernel
theorem dX3_kindOf_70 : decode cX3_kindOf 70 = .ok (.goto 17, 3) := by decide +kernel
theorem dX3_kindOf_73 : decode cX3_kindOf 73 = .ok (.aload_n 0, 1) := by decide +kernel
theorem dX3_kindOf_74 : decode cX3_kindOf 74 = .ok (.getfield 17, 3) := by decide +kernel
theorem dX3_kindOf_77 : decode cX3_kindOf 77 = .ok (.bipush 17, 2) := by decide +kernel
theorem dX3_kindOf_79 : decode cX3_kindOf 79 = .ok (.iload 4, 2) := by decide +kernel
theorem dX3_kindOf_81 : decode cX3_kindOf 81 = .ok (.imul, 1) := by decide +kernel
theorem dX3_kindOf_82 : decode cX3_kindOf 82 = .ok (.bipush 8, 2) := by decide +kernel
theorem dX3_kindOf_84 : decode cX3_kindOf 84 = .ok (.iadd, 1) := by decide +kernel
theorem dX3_kindOf_85 : decode cX3_kindOf 85 = .ok (.laload, 1) := by decide +kernel
theorem dX3_kindOf_86 : decode cX3_kindOf 86 = .ok (.l2i, 1) := by decide +kernel
theorem dX3_kindOf_87 : decode cX3_kindOf 87 = .ok (.istore 4, 2) := by decide +kernel
theorem dX3_kindOf_89 : decode cX3_kindOf 89 = .ok (.iinc 5 1, 3) := by decide +kernel
theorem dX3_kindOf_92 : decode cX3_kindOf 92 = .ok (.goto (-82), 3) := by decide +kernel
theorem dX3_kindOf_95 : decode cX3_kindOf 95 = .ok (.iload_n 2, 1) := by decide +kernel
theorem dX3_kindOf_96 : decode cX3_kindOf 96 = .ok (.ireturn, 1) := by decide +kernel
set_option maxRecDepth 20000 in
theorem ggX3_call_X3_isSlot : GoodIn wsX3_call wsX3_isSlot := goodIn_r _ [8, 9, 10, 11, 7, 12] (by decide +kernel) (by decide +kernel)
set_option maxRecDepth 20000 in
theorem gX3_call_X3_isSlot : GoodIn wsX3_call (va_wsS RX3 84 yX3_isSlot wsX3_isSlot) := goodIn_app (goodIn_of _ (by decide +kernel)) ggX3_call_X3_isSlot
set_option maxRecDepth 20000 in
theorem ggX3_call_X3_in : GoodIn wsX3_call wsX3_in := goodIn_r _ [12] (by decide +kernel) (by decide +kernel)
set_option maxRecDepth 20000 in
theorem gX3_call_X3_in : GoodIn wsX3_call (va_wsS RX3 70 yX3_in wsX3_in) := goodIn_app (goodIn_of _ (by decide +kernel)) ggX3_call_X3_in
set_option maxRecDepth 20000 in
theorem ggX3_call_X3_isBelow : GoodIn wsX3_call wsX3_isBelow := goodIn_r _ [15] (by decide +kernel) (by decide +kernel)
set_option maxRecDepth 20000 in
theorem gX3_call_X3_isBelow : GoodIn wsX3_call (va_wsS RX3 100 yX3_isBelow wsX3_isBelow) := goodIn_app (goodIn_of _ (by decide +kernel)) ggX3_call_X3_isBelow
set_option maxRecDepth 20000 in
theorem ggX3_call_X3_nameOf : GoodIn wsX3_call wsX3_nameOf := goodIn_r _ [19, 4, 3, 28, 29, 30, 31, 32, 33, 34, 35, 36, 37, 38, 39, 40, 41, 42, 43, 44, 45, 46, 47, 48, 49, 50] (by decide +kernel) (by decide +kernel)
set_option maxRecDepth 20000 in
theorem gX3_call_X3_nameOf : GoodIn wsX3_call (wsV RX3 144 RX3 yX3_nameOf wsX3_nameOf) := goodIn_app (goodIn_of _ (by decide +kernel)) ggX3_call_X3_nameOf
set_option maxRecDepth 20000 in
theorem ggX3_call_X3_depthOf : GoodIn wsX3_call wsX3_depthOf := goodIn_r _ [23, 3, 4, 28, 29, 30, 31, 32, 33, 34, 35, 36, 37, 38, 39, 40, 41, 42, 43, 44, 45, 46, 47, 48, 49, 50] (by decide +kernel) (by decide +kernel)
set_option maxRecDepth 20000 in
theorem gX3_call_X3_depthOf : GoodIn wsX3_call (wsV RX3 147 RX3 yX3_depthOf wsX3_depthOf) := goodIn_app (goodIn_of _ (by decide +kernel)) ggX3_call_X3_depthOf
set_option maxRecDepth 20000 in
theorem ggX3_call_X3_kindOf : GoodIn wsX3_call wsX3_kindOf := goodIn_r _ [27, 3, 4, 28, 29, 30, 31, 32, 33, 34, 35, 36, 37, 38, 39, 40, 41, 42, 43, 44, 45, 46, 47, 48, 49, 50] (by decide +kernel) (by decide +kernel)
set_option maxRecDepth 20000 in
theorem gX3_call_X3_kindOf : GoodIn wsX3_call (wsV RX3 150 RX3 yX3_kindOf wsX3_kindOf) := goodIn_app (goodIn_of _ (by decide +kernel)) ggX3_call_X3_kindOf
theorem dX3_call_0 : decode cX3_call 0 = .ok (.iload_n 1, 1) := by decide +kernel
theorem dX3_call_1 : decode cX3_call 1 = .ok (.invokestatic 84, 3) := by decide +kernel
theorem dX3_call_4 : decode cX3_call 4 = .ok (.ifCond .eq 15, 3) := by decide +kernel
theorem dX3_call_7 : decode cX3_call 7 = .ok (.iload_n 2, 1) := by decide +kernel
theorem dX3_call_8 : decode cX3_call 8 = .ok (.i2l, 1) := by decide +kernel
theorem dX3_call_9 : decode cX3_call 9 = .ok (.lconst 0, 1) := by decide +kernel
theorem dX3_call_10 : decode cX3_call 10 = .ok (.ldc2_w 87, 3) := by decide +kernel
theorem dX3_call_13 : decode cX3_call 13 = .ok (.invokestatic 70, 3) := by decide +kernel
theorem dX3_call_16 : decode cX3_call 16 = .ok (.ifCond .ne 5, 3) := by decide +kernel
theorem dX3_call_19 : decode cX3_call 19 = .ok (.iconst (-1), 1) := by decide +kernel
theorem dX3_call_20 : decode cX3_call 20 = .ok (.ireturn, 1) := by decide +kernel
theorem dX3_call_21 : decode cX3_call 21 = .ok (.aload_n 0, 1) := by decide +kernel
theorem dX3_call_22 : decode cX3_call 22 = .ok (.getfield 7, 3) := by decide +kernel
theorem dX3_call_25 : decode cX3_call 25 = .ok (.iload_n 1, 1) := by decide +kernel
theorem dX3_call_26 : decode cX3_call 26 = .ok (.iaload, 1) := by decide +kernel
theorem dX3_call_27 : decode cX3_call 27 = .ok (.istore_n 3, 1) := by decide +kernel
theorem dX3_call_28 : decode cX3_call 28 = .ok (.iload_n 3, 1) := by decide +kernel
theorem dX3_call_29 : decode cX3_call 29 = .ok (.iconst (-1), 1) := by decide +kernel
theorem dX3_call_30 : decode cX3_call 30 = .ok (.if_icmp .ne 6, 3) := by decide +kernel
theorem dX3_call_33 : decode cX3_call 33 = .ok (.bipush (-11), 2) := by decide +kernel
theorem dX3_call_35 : decode cX3_call 35 = .ok (.ireturn, 1) := by decide +kernel
theorem dX3_call_36 : decode cX3_call 36 = .ok (.aload_n 0, 1) := by decide +kernel
theorem dX3_call_37 : decode cX3_call 37 = .ok (.getfield 13, 3) := by decide +kernel
theorem dX3_call_40 : decode cX3_call 40 = .ok (.iload_n 3, 1) := by decide +kernel
theorem dX3_call_41 : decode cX3_call 41 = .ok (.iaload, 1) := by decide +kernel
theorem dX3_call_42 : decode cX3_call 42 = .ok (.iload_n 2, 1) := by decide +kernel
theorem dX3_call_43 : decode cX3_call 43 = .ok (.iconst 2, 1) := by decide +kernel
theorem dX3_call_44 : decode cX3_call 44 = .ok (.if_icmp .eq 8, 3) := by decide +kernel
theorem dX3_call_47 : decode cX3_call 47 = .ok (.iload_n 2, 1) := by decide +kernel
theorem dX3_call_48 : decode cX3_call 48 = .ok (.iconst 3, 1) := by decide +kernel
theorem dX3_call_49 : decode cX3_call 49 = .ok (.if_icmp .ne 7, 3) := by decide +kernel
theorem dX3_call_52 : decode cX3_call 52 = .ok (.iconst 5, 1) := by decide +kernel
theorem dX3_call_53 : decode cX3_call 53 = .ok (.goto 4, 3) := by decide +kernel
theorem dX3_call_56 : decode cX3_call 56 = .ok (.iconst 0, 1) := by decide +kernel
theorem dX3_call_57 : decode cX3_call 57 = .ok (.invokestatic 100, 3) := by decide +kernel
theorem dX3_call_60 : decode cX3_call 60 = .ok (.ifCond .ne 6, 3) := by decide +kernel
theorem dX3_call_63 : decode cX3_call 63 = .ok (.bipush (-14), 2) := by decide +kernel
theorem dX3_call_65 : decode cX3_call 65 = .ok (.ireturn, 1) := by decide +kernel
theorem dX3_call_66 : decode cX3_call 66 = .ok (.iload_n 2, 1) := by decide +kernel
theorem dX3_call_67 : decode cX3_call 67 = .ok (.tableswitch 72 0 3 #[29, 35, 60, 66], 29) := by decide +kernel
theorem dX3_call_96 : decode cX3_call 96 = .ok (.aload_n 0, 1) := by decide +kernel
theorem dX3_call_97 : decode cX3_call 97 = .ok (.iload_n 3, 1) := by decide +kernel
theorem dX3_call_98 : decode cX3_call 98 = .ok (.invokevirtual 144, 3) := by decide +kernel
theorem dX3_call_101 : decode cX3_call 101 = .ok (.ireturn, 1) := by decide +kernel
theorem dX3_call_102 : decode cX3_call 102 = .ok (.aload_n 0, 1) := by decide +kernel
theorem dX3_call_103 : decode cX3_call 103 = .ok (.getfield 17, 3) := by decide +kernel
theorem dX3_call_106 : decode cX3_call 106 = .ok (.bipush 17, 2) := by decide +kernel
theorem dX3_call_108 : decode cX3_call 108 = .ok (.iload_n 3, 1) := by decide +kernel
theorem dX3_call_109 : decode cX3_call 109 = .ok (.imul, 1) := by decide +kernel
theorem dX3_call_110 : decode cX3_call 110 = .ok (.iconst 1, 1) := by decide +kernel
theorem dX3_call_111 : decode cX3_call 111 = .ok (.iadd, 1) := by decide +kernel
theorem dX3_call_112 : decode cX3_call 112 = .ok (.laload, 1) := by decide +kernel
theorem dX3_call_113 : decode cX3_call 113 = .ok (.aload_n 0, 1) := by decide +kernel
theorem dX3_call_114 : decode cX3_call 114 = .ok (.getfield 17, 3) := by decide +kernel
theorem dX3_call_117 : decode cX3_call 117 = .ok (.bipush 17, 2) := by decide +kernel
theorem dX3_call_119 : decode cX3_call 119 = .ok (.iload_n 3, 1) := by decide +kernel
theorem dX3_call_120 : decode cX3_call 120 = .ok (.imul, 1) := by decide +kernel
theorem dX3_call_121 : decode cX3_call 121 = .ok (.iconst 2, 1) := by decide +kernel
theorem dX3_call_122 : decode cX3_call 122 = .ok (.iadd, 1) := by decide +kernel
theorem dX3_call_123 : decode cX3_call 123 = .ok (.laload, 1) := by decide +kernel
theorem dX3_call_124 : decode cX3_call 124 = .ok (.ladd, 1) := by decide +kernel
theorem dX3_call_125 : decode cX3_call 125 = .ok (.l2i, 1) := by decide +kernel
theorem dX3_call_126 : decode cX3_call 126 = .ok (.ireturn, 1) := by decide +kernel
theorem dX3_call_127 : decode cX3_call 127 = .ok (.aload_n 0, 1) := by decide +kernel
theorem dX3_call_128 : decode cX3_call 128 = .ok (.iload_n 3, 1) := by decide +kernel
theorem dX3_call_129 : decode cX3_call 129 = .ok (.invokevirtual 147, 3) := by decide +kernel
theorem dX3_call_132 : decode cX3_call 132 = .ok (.ireturn, 1) := by decide +kernel
theorem dX3_call_133 : decode cX3_call 133 = .ok (.aload_n 0, 1) := by decide +kernel
theorem dX3_call_134 : decode cX3_call 134 = .ok (.iload_n 3, 1) := by decide +kernel
theorem dX3_call_135 : decode cX3_call 135 = .ok (.invokevirtual 150, 3) := by decide +kernel
theorem dX3_call_138 : decode cX3_call 138 = .ok (.ireturn, 1) := by decide +kernel
theorem dX3_call_139 : decode cX3_call 139 = .ok (.aload_n 0, 1) := by decide +kernel
theorem dX3_call_140 : decode cX3_call 140 = .ok (.getfield 17, 3) := by decide +kernel
theorem dX3_call_143 : decode cX3_call 143 = .ok (.bipush 17, 2) := by decide +kernel
theorem dX3_call_145 : decode cX3_call 145 = .ok (.iload_n 3, 1) := by decide +kernel
theorem dX3_call_146 : decode cX3_call 146 = .ok (.imul, 1) := by decide +kernel
theorem dX3_call_147 : decode cX3_call 147 = .ok (.bipush 8, 2) := by decide +kernel
theorem dX3_call_149 : decode cX3_call 149 = .ok (.iadd, 1) := by decide +kernel
theorem dX3_call_150 : decode cX3_call 150 = .ok (.laload, 1) := by decide +kernel
theorem dX3_call_151 : decode cX3_call 151 = .ok (.l2i, 1) := by decide +kernel
theorem dX3_call_152 : decode cX3_call 152 = .ok (.istore 4, 2) := by decide +kernel
theorem dX3_call_154 : decode cX3_call 154 = .ok (.iload 4, 2) := by decide +kernel
theorem dX3_call_156 : decode cX3_call 156 = .ok (.iconst (-1), 1) := by decide +kernel
theorem dX3_call_157 : decode cX3_call 157 = .ok (.if_icmp .ne 8, 3) := by decide +kernel
theorem dX3_call_160 : decode cX3_call 160 = .ok (.bipush (-11), 2) := by decide +kernel
theorem dX3_call_162 : decode cX3_call 162 = .ok (.goto 9, 3) := by decide +kernel
theorem dX3_call_165 : decode cX3_call 165 = .ok (.aload_n 0, 1) := by decide +kernel
theorem dX3_call_166 : decode cX3_call 166 = .ok (.iload 4, 2) := by decide +kernel
theorem dX3_call_168 : decode cX3_call 168 = .ok (.invokevirtual 144, 3) := by decide +kernel
theorem dX3_call_171 : decode cX3_call 171 = .ok (.ireturn, 1) := by decide +kernel
set_option maxRecDepth 20000 in
theorem ggX3_raise_X3_isSlot : GoodIn wsX3_raise wsX3_isSlot := goodIn_r _ [7, 8, 9, 10, 6, 11] (by decide +kernel) (by decide +kernel)
set_option maxRecDepth 20000 in
theorem gX3_raise_X3_isSlot : GoodIn wsX3_raise (va_wsS RX3 84 yX3_isSlot wsX3_isSlot) := goodIn_app (goodIn_of _ (by decide +kernel)) ggX3_raise_X3_isSlot
theorem dX3_raise_0 : decode cX3_raise 0 = .ok (.iload_n 1, 1) := by decide +kernel
theorem dX3_raise_1 : decode cX3_raise 1 = .ok (.invokestatic 84, 3) := by decide +kernel
theorem dX3_raise_4 : decode cX3_raise 4 = .ok (.ifCond .ne 5, 3) := by decide +kernel
theorem dX3_raise_7 : decode cX3_raise 7 = .ok (.iconst (-1), 1) := by decide +kernel
theorem dX3_raise_8 : decode cX3_raise 8 = .ok (.ireturn, 1) := by decide +kernel
theorem dX3_raise_9 : decode cX3_raise 9 = .ok (.aload_n 0, 1) := by decide +kernel
theorem dX3_raise_10 : decode cX3_raise 10 = .ok (.getfield 7, 3) := by decide +kernel
theorem dX3_raise_13 : decode cX3_raise 13 = .ok (.iload_n 1, 1) := by decide +kernel
theorem dX3_raise_14 : decode cX3_raise 14 = .ok (.iaload, 1) := by decide +kernel
theorem dX3_raise_15 : decode cX3_raise 15 = .ok (.istore_n 2, 1) := by decide +kernel
theorem dX3_raise_16 : decode cX3_raise 16 = .ok (.iload_n 2, 1) := by decide +kernel
theorem dX3_raise_17 : decode cX3_raise 17 = .ok (.iconst (-1), 1) := by decide +kernel
theorem dX3_raise_18 : decode cX3_raise 18 = .ok (.if_icmp .ne 8, 3) := by decide +kernel
theorem dX3_raise_21 : decode cX3_raise 21 = .ok (.bipush (-11), 2) := by decide +kernel
theorem dX3_raise_23 : decode cX3_raise 23 = .ok (.goto 31, 3) := by decide +kernel
theorem dX3_raise_26 : decode cX3_raise 26 = .ok (.aload_n 0, 1) := by decide +kernel
theorem dX3_raise_27 : decode cX3_raise 27 = .ok (.getfield 13, 3) := by decide +kernel
theorem dX3_raise_30 : decode cX3_raise 30 = .ok (.iload_n 2, 1) := by decide +kernel
theorem dX3_raise_31 : decode cX3_raise 31 = .ok (.iaload, 1) := by decide +kernel
theorem dX3_raise_32 : decode cX3_raise 32 = .ok (.iconst 4, 1) := by decide +kernel
theorem dX3_raise_33 : decode cX3_raise 33 = .ok (.if_icmp .eq 8, 3) := by decide +kernel
theorem dX3_raise_36 : decode cX3_raise 36 = .ok (.bipush (-14), 2) := by decide +kernel
theorem dX3_raise_38 : decode cX3_raise 38 = .ok (.goto 16, 3) := by decide +kernel
theorem dX3_raise_41 : decode cX3_raise 41 = .ok (.aload_n 0, 1) := by decide +kernel
theorem dX3_raise_42 : decode cX3_raise 42 = .ok (.getfield 17, 3) := by decide +kernel
theorem dX3_raise_45 : decode cX3_raise 45 = .ok (.bipush 17, 2) := by decide +kernel
theorem dX3_raise_47 : decode cX3_raise 47 = .ok (.iload_n 2, 1) := by decide +kernel
theorem dX3_raise_48 : decode cX3_raise 48 = .ok (.imul, 1) := by decide +kernel
theorem dX3_raise_49 : decode cX3_raise 49 = .ok (.bipush 16, 2) := by decide +kernel
theorem dX3_raise_51 : decode cX3_raise 51 = .ok (.iadd, 1) := by decide +kernel
theorem dX3_raise_52 : decode cX3_raise 52 = .ok (.laload, 1) := by decide +kernel
theorem dX3_raise_53 : decode cX3_raise 53 = .ok (.l2i, 1) := by decide +kernel
theorem dX3_raise_54 : decode cX3_raise 54 = .ok (.ireturn, 1) := by decide +kernel
set_option maxRecDepth 20000 in
theorem ggX3_passes_X3_isSlot : GoodIn wsX3_passes wsX3_isSlot := goodIn_r _ [6, 7, 8, 9, 5, 10] (by decide +kernel) (by decide +kernel)
set_option maxRecDepth 20000 in
theorem gX3_passes_X3_isSlot : GoodIn wsX3_passes (va_wsS RX3 84 yX3_isSlot wsX3_isSlot) := goodIn_app (goodIn_of _ (by decide +kernel)) ggX3_passes_X3_isSlot
set_option maxRecDepth 20000 in
theorem ggX3_passes_X3_in : GoodIn wsX3_passes wsX3_in := goodIn_r _ [10] (by decide +kernel) (by decide +kernel)
set_option maxRecDepth 20000 in
theorem gX3_passes_X3_in : GoodIn wsX3_passes (va_wsS RX3 70 yX3_in wsX3_in) := goodIn_app (goodIn_of _ (by decide +kernel)) ggX3_passes_X3_in
set_option maxRecDepth 20000 in
theorem ggX3_passes_X3_raise : GoodIn wsX3_passes wsX3_raise := goodIn_r _ [14, 15, 16, 17, 3, 4, 5, 6, 7, 8, 9, 10, 18, 19, 20, 21, 22, 23, 24, 25, 26, 27, 28, 29, 30, 31, 32, 33, 34, 35, 36, 37, 38, 39, 40] (by decide +kernel) (by decide +kernel)
set_option maxRecDepth 20000 in
theorem gX3_passes_X3_raise : GoodIn wsX3_passes (wsV RX3 157 RX3 yX3_raise wsX3_raise) := goodIn_app (goodIn_of _ (by decide +kernel)) ggX3_passes_X3_raise
theorem dX3_passes_0 : decode cX3_passes 0 = .ok (.iload_n 1, 1) := by decide +kernel
theorem dX3_passes_1 : decode cX3_passes 1 = .ok (.invokestatic 84, 3) := by decide +kernel
theorem dX3_passes_4 : decode cX3_passes 4 = .ok (.ifCond .eq 15, 3) := by decide +kernel
theorem dX3_passes_7 : decode cX3_passes 7 = .ok (.iload_n 2, 1) := by decide +kernel
theorem dX3_passes_8 : decode cX3_passes 8 = .ok (.i2l, 1) := by decide +kernel
theorem dX3_passes_9 : decode cX3_passes 9 = .ok (.lconst 1, 1) := by decide +kernel
theorem dX3_passes_10 : decode cX3_passes 10 = .ok (.ldc2_w 105, 3) := by decide +kernel
theorem dX3_passes_13 : decode cX3_passes 13 = .ok (.invokestatic 70, 3) := by decide +kernel
theorem dX3_passes_16 : decode cX3_passes 16 = .ok (.ifCond .ne 5, 3) := by decide +kernel
theorem dX3_passes_19 : decode cX3_passes 19 = .ok (.iconst (-1), 1) := by decide +kernel
theorem dX3_passes_20 : decode cX3_passes 20 = .ok (.ireturn, 1) := by decide +kernel
theorem dX3_passes_21 : decode cX3_passes 21 = .ok (.aload_n 0, 1) := by decide +kernel
theorem dX3_passes_22 : decode cX3_passes 22 = .ok (.iload_n 2, 1) := by decide +kernel
theorem dX3_passes_23 : decode cX3_passes 23 = .ok (.putfield 153, 3) := by decide +kernel
theorem dX3_passes_26 : decode cX3_passes 26 = .ok (.aload_n 0, 1) := by decide +kernel
theorem dX3_passes_27 : decode cX3_passes 27 = .ok (.iload_n 1, 1) := by decide +kernel
theorem dX3_passes_28 : decode cX3_passes 28 = .ok (.invokevirtual 157, 3) := by decide +kernel
theorem dX3_passes_31 : decode cX3_passes 31 = .ok (.ireturn, 1) := by decide +kernel
theorem dX3_passed_0 : decode cX3_passed 0 = .ok (.aload_n 0, 1) := by decide +kernel
theorem dX3_passed_1 : decode cX3_passed 1 = .ok (.getfield 153, 3) := by decide +kernel
theorem dX3_passed_4 : decode cX3_passed 4 = .ok (.ireturn, 1) := by decide +kernel
theorem dX3_tell_0 : decode cX3_tell 0 = .ok (.aload_n 0, 1) := by decide +kernel
theorem dX3_tell_1 : decode cX3_tell 1 = .ok (.getfield 160, 3) := by decide +kernel
theorem dX3_tell_4 : decode cX3_tell 4 = .ok (.sipush 300, 3) := by decide +kernel
theorem dX3_tell_7 : decode cX3_tell 7 = .ok (.if_icmp .ne 9, 3) := by decide +kernel
theorem dX3_tell_10 : decode cX3_tell 10 = .ok (.aload_n 0, 1) := by decide +kernel
theorem dX3_tell_11 : decode cX3_tell 11 = .ok (.iconst 0, 1) := by decide +kernel
theorem dX3_tell_12 : decode cX3_tell 12 = .ok (.putfield 163, 3) := by decide +kernel
theorem dX3_tell_15 : decode cX3_tell 15 = .ok (.return_, 1) := by decide +kernel
theorem dX3_tell_16 : decode cX3_tell 16 = .ok (.aload_n 0, 1) := by decide +kernel
theorem dX3_tell_17 : decode cX3_tell 17 = .ok (.getfield 47, 3) := by decide +kernel
theorem dX3_tell_20 : decode cX3_tell 20 = .ok (.aload_n 0, 1) := by decide +kernel
theorem dX3_tell_21 : decode cX3_tell 21 = .ok (.getfield 160, 3) := by decide +kernel
theorem dX3_tell_24 : decode cX3_tell 24 = .ok (.iload_n 1, 1) := by decide +kernel
theorem dX3_tell_25 : decode cX3_tell 25 = .ok (.iastore, 1) := by decide +kernel
theorem dX3_tell_26 : decode cX3_tell 26 = .ok (.aload_n 0, 1) := by decide +kernel
theorem dX3_tell_27 : decode cX3_tell 27 = .ok (.getfield 50, 3) := by decide +kernel
theorem dX3_tell_30 : decode cX3_tell 30 = .ok (.aload_n 0, 1) := by decide +kernel
theorem dX3_tell_31 : decode cX3_tell 31 = .ok (.getfield 160, 3) := by decide +kernel
theorem dX3_tell_34 : decode cX3_tell 34 = .ok (.iload_n 2, 1) := by decide +kernel
theorem dX3_tell_35 : decode cX3_tell 35 = .ok (.iastore, 1) := by decide +kernel
theorem dX3_tell_36 : decode cX3_tell 36 = .ok (.aload_n 0, 1) := by decide +kernel
theorem dX3_tell_37 : decode cX3_tell 37 = .ok (.getfield 53, 3) := by decide +kernel
theorem dX3_tell_40 : decode cX3_tell 40 = .ok (.aload_n 0, 1) := by decide +kernel
theorem dX3_tell_41 : decode cX3_tell 41 = .ok (.getfield 160, 3) := by decide +kernel
theorem dX3_tell_44 : decode cX3_tell 44 = .ok (.lload_n 3, 1) := by decide +kernel
theorem dX3_tell_45 : decode cX3_tell 45 = .ok (.lastore, 1) := by decide +kernel
theorem dX3_tell_46 : decode cX3_tell 46 = .ok (.aload_n 0, 1) := by decide +kernel
theorem dX3_tell_47 : decode cX3_tell 47 = .ok (.dup, 1) := by decide +kernel
theorem dX3_tell_48 : decode cX3_tell 48 = .ok (.getfield 160, 3) := by decide +kernel
theorem dX3_tell_51 : decode cX3_tell 51 = .ok (.iconst 1, 1) := by decide +kernel
theorem dX3_tell_52 : decode cX3_tell 52 = .ok (.iadd, 1) := by decide +kernel
theorem dX3_tell_53 : decode cX3_tell 53 = .ok (.putfield 160, 3) := by decide +kernel
theorem dX3_tell_56 : decode cX3_tell 56 = .ok (.return_, 1) := by decide +kernel
theorem dX3_numberOf_0 : decode cX3_numberOf 0 = .ok (.iconst 0, 1) := by decide +kernel
theorem dX3_numberOf_1 : decode cX3_numberOf 1 = .ok (.istore_n 2, 1) := by decide +kernel
theorem dX3_numberOf_2 : decode cX3_numberOf 2 = .ok (.iload_n 2, 1) := by decide +kernel
theorem dX3_numberOf_3 : decode cX3_numberOf 3 = .ok (.aload_n 0, 1) := by decide +kernel
theorem dX3_numberOf_4 : decode cX3_numberOf 4 = .ok (.getfield 167, 3) := by decide +kernel
theorem dX3_numberOf_7 : decode cX3_numberOf 7 = .ok (.if_icmp .ge 21, 3) := by decide +kernel
theorem dX3_numberOf_10 : decode cX3_numberOf 10 = .ok (.aload_n 0, 1) := by decide +kernel
theorem dX3_numberOf_11 : decode cX3_numberOf 11 = .ok (.getfield 44, 3) := by decide +kernel
theorem dX3_numberOf_14 : decode cX3_numberOf 14 = .ok (.iload_n 2, 1) := by decide +kernel
theorem dX3_numberOf_15 : decode cX3_numberOf 15 = .ok (.iaload, 1) := by decide +kernel
theorem dX3_numberOf_16 : decode cX3_numberOf 16 = .ok (.iload_n 1, 1) := by decide +kernel
theorem dX3_numberOf_17 : decode cX3_numberOf 17 = .ok (.if_icmp .ne 5, 3) := by decide +kernel
theorem dX3_numberOf_20 : decode cX3_numberOf 20 = .ok (.iload_n 2, 1) := by decide +kernel
theorem dX3_numberOf_21 : decode cX3_numberOf 21 = .ok (.ireturn, 1) := by decide +kernel
theorem dX3_numberOf_22 : decode cX3_numberOf 22 = .ok (.iinc 2 1, 3) := by decide +kernel
theorem dX3_numberOf_25 : decode cX3_numberOf 25 = .ok (.goto (-23), 3) := by decide +kernel
theorem dX3_numberOf_28 : decode cX3_numberOf 28 = .ok (.bipush (-4), 2) := by decide +kernel
theorem dX3_numberOf_30 : decode cX3_numberOf 30 = .ok (.ireturn, 1) := by decide +kernel
set_option maxRecDepth 20000 in
theorem ggX3_find_X3_isLink : GoodIn wsX3_find wsX3_isLink := goodIn_r _ [10] (by decide +kernel) (by decide +kernel)
set_option maxRecDepth 20000 in
theorem gX3_find_X3_isLink : GoodIn wsX3_find (va_wsS RX3 74 yX3_isLink wsX3_isLink) := goodIn_app (goodIn_of _ (by decide +kernel)) ggX3_find_X3_isLink
set_option maxRecDepth 20000 in
theorem ggX3_find_X3_has : GoodIn wsX3_find wsX3_has := goodIn_r _ [13] (by decide +kernel) (by decide +kernel)
set_option maxRecDepth 20000 in
theorem gX3_find_X3_has : GoodIn wsX3_find (va_wsS RX3 78 yX3_has wsX3_has) := goodIn_app (goodIn_of _ (by decide +kernel)) ggX3_find_X3_has
set_option maxRecDepth 20000 in
theorem ggX3_find_X3_numberOf : GoodIn wsX3_find wsX3_numberOf := goodIn_r _ [17, 1, 2, 32, 33, 34, 35, 36, 37, 38, 39, 40, 41, 42, 43, 44, 45, 46, 47, 48, 49, 50, 51, 52, 53, 54] (by decide +kernel) (by decide +kernel)
set_option maxRecDepth 20000 in
theorem gX3_find_X3_numberOf : GoodIn wsX3_find (wsV RX3 170 RX3 yX3_numberOf wsX3_numberOf) := goodIn_app (goodIn_of _ (by decide +kernel)) ggX3_find_X3_numberOf
set_option maxRecDepth 20000 in
theorem ggX3_find_X3_tellObject : GoodIn wsX3_find wsX3_tellObject := goodIn_r _ [21, 5, 6, 22, 23, 24, 25, 26, 27, 9, 28, 3, 4, 29, 30, 31, 11, 12, 13, 7, 8, 10, 14, 15, 16, 17, 1, 2, 32, 33, 34, 35, 36, 37, 38, 39, 40, 41, 42, 43, 44, 45, 46, 47, 48, 49, 50, 51, 52, 53, 54] (by decide +kernel) (by decide +kernel)
set_option maxRecDepth 20000 in
theorem gX3_find_X3_tellObject : GoodIn wsX3_find (wsV RX3 173 RX3 yX3_tellObject wsX3_tellObject) := goodIn_app (goodIn_of _ (by decide +kernel)) ggX3_find_X3_tellObject
theorem dX3_find_0 : decode cX3_find 0 = .ok (.aload_n 0, 1) := by decide +kernel
theorem dX3_find_1 : decode cX3_find 1 = .ok (.iconst 1, 1) := by decide +kernel
theorem dX3_find_2 : decode cX3_find 2 = .ok (.putfield 167, 3) := by decide +kernel
theorem dX3_find_5 : decode cX3_find 5 = .ok (.aload_n 0, 1) := by decide +kernel
theorem dX3_find_6 : decode cX3_find 6 = .ok (.getfield 44, 3) := by decide +kernel
theorem dX3_find_9 : decode cX3_find 9 = .ok (.iconst 0, 1) := by decide +kernel
theorem dX3_find_10 : decode cX3_find 10 = .ok (.iload_n 1, 1) := by decide +kernel
theorem dX3_find_11 : decode cX3_find 11 = .ok (.iastore, 1) := by decide +kernel
theorem dX3_find_12 : decode cX3_find 12 = .ok (.aload_n 0, 1) := by decide +kernel
theorem dX3_find_13 : decode cX3_find 13 = .ok (.iconst 0, 1) := by decide +kernel
theorem dX3_find_14 : decode cX3_find 14 = .ok (.putfield 160, 3) := by decide +kernel
theorem dX3_find_17 : decode cX3_find 17 = .ok (.aload_n 0, 1) := by decide +kernel
theorem dX3_find_18 : decode cX3_find 18 = .ok (.iconst 1, 1) := by decide +kernel
theorem dX3_find_19 : decode cX3_find 19 = .ok (.putfield 163, 3) := by decide +kernel
theorem dX3_find_22 : decode cX3_find 22 = .ok (.iconst 0, 1) := by decide +kernel
theorem dX3_find_23 : decode cX3_find 23 = .ok (.istore_n 2, 1) := by decide +kernel
theorem dX3_find_24 : decode cX3_find 24 = .ok (.iload_n 2, 1) := by decide +kernel
theorem dX3_find_25 : decode cX3_find 25 = .ok (.aload_n 0, 1) := by decide +kernel
theorem dX3_find_26 : decode cX3_find 26 = .ok (.getfield 167, 3) := by decide +kernel
theorem dX3_find_29 : decode cX3_find 29 = .ok (.if_icmp .ge 171, 3) := by decide +kernel
theorem dX3_find_32 : decode cX3_find 32 = .ok (.aload_n 0, 1) := by decide +kernel
theorem dX3_find_33 : decode cX3_find 33 = .ok (.getfield 163, 3) := by decide +kernel
theorem dX3_find_36 : decode cX3_find 36 = .ok (.ifCond .eq 164, 3) := by decide +kernel
theorem dX3_find_39 : decode cX3_find 39 = .ok (.aload_n 0, 1) := by decide +kernel
theorem dX3_find_40 : decode cX3_find 40 = .ok (.getfield 44, 3) := by decide +kernel
theorem dX3_find_43 : decode cX3_find 43 = .ok (.iload_n 2, 1) := by decide +kernel
theorem dX3_find_44 : decode cX3_find 44 = .ok (.iaload, 1) := by decide +kernel
theorem dX3_find_45 : decode cX3_find 45 = .ok (.istore_n 3, 1) := by decide +kernel
theorem dX3_find_46 : decode cX3_find 46 = .ok (.bipush 8, 2) := by decide +kernel
theorem dX3_find_48 : decode cX3_find 48 = .ok (.istore 4, 2) := by decide +kernel
theorem dX3_find_50 : decode cX3_find 50 = .ok (.iload 4, 2) := by decide +kernel
theorem dX3_find_52 : decode cX3_find 52 = .ok (.bipush 16, 2) := by decide +kernel
theorem dX3_find_54 : decode cX3_find 54 = .ok (.if_icmp .ge 140, 3) := by decide +kernel
theorem dX3_find_57 : decode cX3_find 57 = .ok (.iload 4, 2) := by decide +kernel
theorem dX3_find_59 : decode cX3_find 59 = .ok (.invokestatic 74, 3) := by decide +kernel
theorem dX3_find_62 : decode cX3_find 62 = .ok (.ifCond .eq 33, 3) := by decide +kernel
theorem dX3_find_65 : decode cX3_find 65 = .ok (.aload_n 0, 1) := by decide +kernel
theorem dX3_find_66 : decode cX3_find 66 = .ok (.getfield 13, 3) := by decide +kernel
theorem dX3_find_69 : decode cX3_find 69 = .ok (.iload_n 3, 1) := by decide +kernel
theorem dX3_find_70 : decode cX3_find 70 = .ok (.iaload, 1) := by decide +kernel
theorem dX3_find_71 : decode cX3_find 71 = .ok (.iload 4, 2) := by decide +kernel
theorem dX3_find_73 : decode cX3_find 73 = .ok (.invokestatic 78, 3) := by decide +kernel
theorem dX3_find_76 : decode cX3_find 76 = .ok (.ifCond .eq 19, 3) := by decide +kernel
theorem dX3_find_79 : decode cX3_find 79 = .ok (.aload_n 0, 1) := by decide +kernel
theorem dX3_find_80 : decode cX3_find 80 = .ok (.getfield 17, 3) := by decide +kernel
theorem dX3_find_83 : decode cX3_find 83 = .ok (.bipush 17, 2) := by decide +kernel
theorem dX3_find_85 : decode cX3_find 85 = .ok (.iload_n 3, 1) := by decide +kernel
theorem dX3_find_86 : decode cX3_find 86 = .ok (.imul, 1) := by decide +kernel
theorem dX3_find_87 : decode cX3_find 87 = .ok (.iload 4, 2) := by decide +kernel
theorem dX3_find_89 : decode cX3_find 89 = .ok (.iadd, 1) := by decide +kernel
theorem dX3_find_90 : decode cX3_find 90 = .ok (.laload, 1) := by decide +kernel
theorem dX3_find_91 : decode cX3_find 91 = .ok (.l2i, 1) := by decide +kernel
theorem dX3_find_92 : decode cX3_find 92 = .ok (.goto 4, 3) := by decide +kernel
theorem dX3_find_95 : decode cX3_find 95 = .ok (.iconst (-1), 1) := by decide +kernel
theorem dX3_find_96 : decode cX3_find 96 = .ok (.istore 5, 2) := by decide +kernel
theorem dX3_find_98 : decode cX3_find 98 = .ok (.iload 5, 2) := by decide +kernel
theorem dX3_find_100 : decode cX3_find 100 = .ok (.iconst (-1), 1) := by decide +kernel
theorem dX3_find_101 : decode cX3_find 101 = .ok (.if_icmp .eq 87, 3) := by decide +kernel
theorem dX3_find_104 : decode cX3_find 104 = .ok (.aload_n 0, 1) := by decide +kernel
theorem dX3_find_105 : decode cX3_find 105 = .ok (.iload 5, 2) := by decide +kernel
theorem dX3_find_107 : decode cX3_find 107 = .ok (.invokevirtual 170, 3) := by decide +kernel
theorem dX3_find_110 : decode cX3_find 110 = .ok (.bipush (-4), 2) := by decide +kernel
theorem dX3_find_112 : decode cX3_find 112 = .ok (.if_icmp .ne 76, 3) := by decide +kernel
theorem dX3_find_115 : decode cX3_find 115 = .ok (.aload_n 0, 1) := by decide +kernel
theorem dX3_find_116 : decode cX3_find 116 = .ok (.aload_n 0, 1) := by decide +kernel
theorem dX3_find_117 : decode cX3_find 117 = .ok (.getfield 163, 3) := by decide +kernel
theorem dX3_find_120 : decode cX3_find 120 = .ok (.ifCond .eq 16, 3) := by decide +kernel
theorem dX3_find_123 : decode cX3_find 123 = .ok (.aload_n 0, 1) := by decide +kernel
theorem dX3_find_124 : decode cX3_find 124 = .ok (.getfield 167, 3) := by decide +kernel
theorem dX3_find_127 : decode cX3_find 127 = .ok (.bipush 24, 2) := by decide +kernel
theorem dX3_find_129 : decode cX3_find 129 = .ok (.if_icmp .ge 7, 3) := by decide +kernel
theorem dX3_find_132 : decode cX3_find 132 = .ok (.iconst 1, 1) := by decide +kernel
theorem dX3_find_133 : decode cX3_find 133 = .ok (.goto 4, 3) := by decide +kernel
theorem dX3_find_136 : decode cX3_find 136 = .ok (.iconst 0, 1) := by decide +kernel
theorem dX3_find_137 : decode cX3_find 137 = .ok (.putfield 163, 3) := by decide +kernel
theorem dX3_find_140 : decode cX3_find 140 = .ok (.aload_n 0, 1) := by decide +kernel
theorem dX3_find_141 : decode cX3_find 141 = .ok (.getfield 44, 3) := by decide +kernel
theorem dX3_find_144 : decode cX3_find 144 = .ok (.aload_n 0, 1) := by decide +kernel
theorem dX3_find_145 : decode cX3_find 145 = .ok (.getfield 167, 3) := by decide +kernel
theorem dX3_find_148 : decode cX3_find 148 = .ok (.bipush 24, 2) := by decide +kernel
theorem dX3_find_150 : decode cX3_find 150 = .ok (.if_icmp .ge 10, 3) := by decide +kernel
theorem dX3_find_153 : decode cX3_find 153 = .ok (.aload_n 0, 1) := by decide +kernel
theorem dX3_find_154 : decode cX3_find 154 = .ok (.getfield 167, 3) := by decide +kernel
theorem dX3_find_157 : decode cX3_find 157 = .ok (.goto 5, 3) := by decide +kernel
theorem dX3_find_160 : decode cX3_find 160 = .ok (.bipush 24, 2) := by decide +kernel
theorem dX3_find_162 : decode cX3_find 162 = .ok (.iload 5, 2) := by decide +kernel
theorem dX3_find_164 : decode cX3_find 164 = .ok (.iastore, 1) := by decide +kernel
theorem dX3_find_165 : decode cX3_find 165 = .ok (.aload_n 0, 1) := by decide +kernel
theorem dX3_find_166 : decode cX3_find 166 = .ok (.dup, 1) := by decide +kernel
theorem dX3_find_167 : decode cX3_find 167 = .ok (.getfield 167, 3) := by decide +kernel
theorem dX3_find_170 : decode cX3_find 170 = .ok (.aload_n 0, 1) := by decide +kernel
theorem dX3_find_171 : decode cX3_find 171 = .ok (.getfield 167, 3) := by decide +kernel
theorem dX3_find_174 : decode cX3_find 174 = .ok (.bipush 24, 2) := by decide +kernel
theorem dX3_find_176 : decode cX3_find 176 = .ok (.if_icmp .ge 7, 3) := by decide +kernel
theorem dX3_find_179 : decode cX3_find 179 = .ok (.iconst 1, 1) := by decide +kernel
theorem dX3_find_180 : decode cX3_find 180 = .ok (.goto 4, 3) := by decide +kernel
theorem dX3_find_183 : decode cX3_find 183 = .ok (.iconst 0, 1) := by decide +kernel
theorem dX3_find_184 : decode cX3_find 184 = .ok (.iadd, 1) := by decide +kernel
theorem dX3_find_185 : decode cX3_find 185 = .ok (.putfield 167, 3) := by decide +kernel
theorem dX3_find_188 : decode cX3_find 188 = .ok (.iinc 4 1, 3) := by decide +kernel
theorem dX3_find_191 : decode cX3_find 191 = .ok (.goto (-141), 3) := by decide +kernel
theorem dX3_find_194 : decode cX3_find 194 = .ok (.iinc 2 1, 3) := by decide +kernel
theorem dX3_find_197 : decode cX3_find 197 = .ok (.goto (-173), 3) := by decide +kernel
theorem dX3_find_200 : decode cX3_find 200 = .ok (.iconst 0, 1) := by decide +kernel
theorem dX3_find_201 : decode cX3_find 201 = .ok (.istore_n 2, 1) := by decide +kernel
theorem dX3_find_202 : decode cX3_find 202 = .ok (.iload_n 2, 1) := by decide +kernel
theorem dX3_find_203 : decode cX3_find 203 = .ok (.aload_n 0, 1) := by decide +kernel
theorem dX3_find_204 : decode cX3_find 204 = .ok (.getfield 167, 3) := by decide +kernel
theorem dX3_find_207 : decode cX3_find 207 = .ok (.if_icmp .ge 27, 3) := by decide +kernel
theorem dX3_find_210 : decode cX3_find 210 = .ok (.aload_n 0, 1) := by decide +kernel
theorem dX3_find_211 : decode cX3_find 211 = .ok (.getfield 163, 3) := by decide +kernel
theorem dX3_find_214 : decode cX3_find 214 = .ok (.ifCond .eq 20, 3) := by decide +kernel
theorem dX3_find_217 : decode cX3_find 217 = .ok (.aload_n 0, 1) := by decide +kernel
theorem dX3_find_218 : decode cX3_find 218 = .ok (.iload_n 2, 1) := by decide +kernel
theorem dX3_find_219 : decode cX3_find 219 = .ok (.aload_n 0, 1) := by decide +kernel
theorem dX3_find_220 : decode cX3_find 220 = .ok (.getfield 44, 3) := by decide +kernel
theorem dX3_find_223 : decode cX3_find 223 = .ok (.iload_n 2, 1) := by decide +kernel
theorem dX3_find_224 : decode cX3_find 224 = .ok (.iaload, 1) := by decide +kernel
theorem dX3_find_225 : decode cX3_find 225 = .ok (.invokevirtual 173, 3) := by decide +kernel
theorem dX3_find_228 : decode cX3_find 228 = .ok (.iinc 2 1, 3) := by decide +kernel
theorem dX3_find_231 : decode cX3_find 231 = .ok (.goto (-29), 3) := by decide +kernel
theorem dX3_find_234 : decode cX3_find 234 = .ok (.aload_n 0, 1) := by decide +kernel
theorem dX3_find_235 : decode cX3_find 235 = .ok (.getfield 163, 3) := by decide +kernel
theorem dX3_find_238 : decode cX3_find 238 = .ok (.ireturn, 1) := by decide +kernel
set_option maxRecDepth 20000 in
theorem ggX3_tellObject_X3_tell : GoodIn wsX3_tellObject wsX3_tell := goodIn_r _ [10, 11, 12, 13, 14, 15, 28, 29, 30, 31, 32, 33, 34, 35, 36, 37, 38, 39, 40, 41, 42, 43, 44, 45, 46, 47, 48, 49, 50] (by decide +kernel) (by decide +kernel)
set_option maxRecDepth 20000 in
theorem gX3_tellObject_X3_tell : GoodIn wsX3_tellObject (wsV RX3 177 RX3 yX3_tell wsX3_tell) := goodIn_app (goodIn_of _ (by decide +kernel)) ggX3_tellObject_X3_tell
set_option maxRecDepth 20000 in
theorem ggX3_tellObject_X3_has : GoodIn wsX3_tellObject wsX3_has := goodIn_r _ [18] (by decide +kernel) (by decide +kernel)
set_option maxRecDepth 20000 in
theorem gX3_tellObject_X3_has : GoodIn wsX3_tellObject (va_wsS RX3 78 yX3_has wsX3_has) := goodIn_app (goodIn_of _ (by decide +kernel)) ggX3_tellObject_X3_has
set_option maxRecDepth 20000 in
theorem ggX3_tellObject_X3_isLink : GoodIn wsX3_tellObject wsX3_isLink := goodIn_r _ [21] (by decide +kernel) (by decide +kernel)
set_option maxRecDepth 20000 in
theorem gX3_tellObject_X3_isLink : GoodIn wsX3_tellObject (va_wsS RX3 74 yX3_isLink wsX3_isLink) := goodIn_app (goodIn_of _ (by decide +kernel)) ggX3_tellObject_X3_isLink
set_option maxRecDepth 20000 in
theorem ggX3_tellObject_X3_numberOf : GoodIn wsX3_tellObject wsX3_numberOf := goodIn_r _ [25, 26, 27, 28, 29, 30, 31, 32, 33, 34, 35, 36, 37, 38, 39, 40, 41, 42, 43, 44, 45, 46, 47, 48, 49, 50] (by decide +kernel) (by decide +kernel)
set_option maxRecDepth 20000 in
theorem gX3_tellObject_X3_numberOf : GoodIn wsX3_tellObject (wsV RX3 170 RX3 yX3_numberOf wsX3_numberOf) := goodIn_app (goodIn_of _ (by decide +kernel)) ggX3_tellObject_X3_numberOf
end
section
theorem dX3_tellObject_0 : decode cX3_tellObject 0 = .ok (.aload_n 0, 1) := by decide +kernel
theorem dX3_tellObject_1 : decode cX3_tellObject 1 = .ok (.iload_n 1, 1) := by decide +kernel
theorem dX3_tellObject_2 : decode cX3_tellObject 2 = .ok (.iconst (-1), 1) := by decide +kernel
theorem dX3_tellObject_3 : decode cX3_tellObject 3 = .ok (.aload_n 0, 1) := by decide +kernel
theorem dX3_tellObject_4 : decode cX3_tellObject 4 = .ok (.getfield 13, 3) := by decide +kernel
theorem dX3_tellObject_7 : decode cX3_tellObject 7 = .ok (.iload_n 2, 1) := by decide +kernel
theorem dX3_tellObject_8 : decode cX3_tellObject 8 = .ok (.iaload, 1) := by decide +kernel
theorem dX3_tellObject_9 : decode cX3_tellObject 9 = .ok (.i2l, 1) := by decide +kernel
theorem dX3_tellObject_10 : decode cX3_tellObject 10 = .ok (.invokevirtual 177, 3) := by decide +kernel
theorem dX3_tellObject_13 : decode cX3_tellObject 13 = .ok (.iconst 0, 1) := by decide +kernel
theorem dX3_tellObject_14 : decode cX3_tellObject 14 = .ok (.istore_n 3, 1) := by decide +kernel
theorem dX3_tellObject_15 : decode cX3_tellObject 15 = .ok (.iload_n 3, 1) := by decide +kernel
theorem dX3_tellObject_16 : decode cX3_tellObject 16 = .ok (.bipush 17, 2) := by decide +kernel
theorem dX3_tellObject_18 : decode cX3_tellObject 18 = .ok (.if_icmp .ge 162, 3) := by decide +kernel
theorem dX3_tellObject_21 : decode cX3_tellObject 21 = .ok (.aload_n 0, 1) := by decide +kernel
theorem dX3_tellObject_22 : decode cX3_tellObject 22 = .ok (.getfield 13, 3) := by decide +kernel
theorem dX3_tellObject_25 : decode cX3_tellObject 25 = .ok (.iload_n 2, 1) := by decide +kernel
theorem dX3_tellObject_26 : decode cX3_tellObject 26 = .ok (.iaload, 1) := by decide +kernel
theorem dX3_tellObject_27 : decode cX3_tellObject 27 = .ok (.iload_n 3, 1) := by decide +kernel
theorem dX3_tellObject_28 : decode cX3_tellObject 28 = .ok (.invokestatic 78, 3) := by decide +kernel
theorem dX3_tellObject_31 : decode cX3_tellObject 31 = .ok (.ifCond .ne 6, 3) := by decide +kernel
theorem dX3_tellObject_34 : decode cX3_tellObject 34 = .ok (.goto 140, 3) := by decide +kernel
theorem dX3_tellObject_37 : decode cX3_tellObject 37 = .ok (.aload_n 0, 1) := by decide +kernel
theorem dX3_tellObject_38 : decode cX3_tellObject 38 = .ok (.getfield 17, 3) := by decide +kernel
theorem dX3_tellObject_41 : decode cX3_tellObject 41 = .ok (.bipush 17, 2) := by decide +kernel
theorem dX3_tellObject_43 : decode cX3_tellObject 43 = .ok (.iload_n 2, 1) := by decide +kernel
theorem dX3_tellObject_44 : decode cX3_tellObject 44 = .ok (.imul, 1) := by decide +kernel
theorem dX3_tellObject_45 : decode cX3_tellObject 45 = .ok (.iload_n 3, 1) := by decide +kernel
theorem dX3_tellObject_46 : decode cX3_tellObject 46 = .ok (.iadd, 1) := by decide +kernel
theorem dX3_tellObject_47 : decode cX3_tellObject 47 = .ok (.laload, 1) := by decide +kernel
theorem dX3_tellObject_48 : decode cX3_tellObject 48 = .ok (.lstore 4, 2) := by decide +kernel
theorem dX3_tellObject_50 : decode cX3_tellObject 50 = .ok (.iload_n 3, 1) := by decide +kernel
theorem dX3_tellObject_51 : decode cX3_tellObject 51 = .ok (.bipush 9, 2) := by decide +kernel
theorem dX3_tellObject_53 : decode cX3_tellObject 53 = .ok (.if_icmp .ne 73, 3) := by decide +kernel
theorem dX3_tellObject_56 : decode cX3_tellObject 56 = .ok (.aload_n 0, 1) := by decide +kernel
theorem dX3_tellObject_57 : decode cX3_tellObject 57 = .ok (.getfield 21, 3) := by decide +kernel
theorem dX3_tellObject_60 : decode cX3_tellObject 60 = .ok (.iload_n 2, 1) := by decide +kernel
theorem dX3_tellObject_61 : decode cX3_tellObject 61 = .ok (.iaload, 1) := by decide +kernel
theorem dX3_tellObject_62 : decode cX3_tellObject 62 = .ok (.iconst (-1), 1) := by decide +kernel
theorem dX3_tellObject_63 : decode cX3_tellObject 63 = .ok (.if_icmp .eq 111, 3) := by decide +kernel
theorem dX3_tellObject_66 : decode cX3_tellObject 66 = .ok (.aload_n 0, 1) := by decide +kernel
theorem dX3_tellObject_67 : decode cX3_tellObject 67 = .ok (.iload_n 1, 1) := by decide +kernel
theorem dX3_tellObject_68 : decode cX3_tellObject 68 = .ok (.bipush 9, 2) := by decide +kernel
theorem dX3_tellObject_70 : decode cX3_tellObject 70 = .ok (.aload_n 0, 1) := by decide +kernel
theorem dX3_tellObject_71 : decode cX3_tellObject 71 = .ok (.getfield 21, 3) := by decide +kernel
theorem dX3_tellObject_74 : decode cX3_tellObject 74 = .ok (.iload_n 2, 1) := by decide +kernel
theorem dX3_tellObject_75 : decode cX3_tellObject 75 = .ok (.iaload, 1) := by decide +kernel
theorem dX3_tellObject_76 : decode cX3_tellObject 76 = .ok (.i2l, 1) := by decide +kernel
theorem dX3_tellObject_77 : decode cX3_tellObject 77 = .ok (.invokevirtual 177, 3) := by decide +kernel
theorem dX3_tellObject_80 : decode cX3_tellObject 80 = .ok (.iconst 0, 1) := by decide +kernel
theorem dX3_tellObject_81 : decode cX3_tellObject 81 = .ok (.istore 6, 2) := by decide +kernel
theorem dX3_tellObject_83 : decode cX3_tellObject 83 = .ok (.iload 6, 2) := by decide +kernel
theorem dX3_tellObject_85 : decode cX3_tellObject 85 = .ok (.aload_n 0, 1) := by decide +kernel
theorem dX3_tellObject_86 : decode cX3_tellObject 86 = .ok (.getfield 21, 3) := by decide +kernel
theorem dX3_tellObject_89 : decode cX3_tellObject 89 = .ok (.iload_n 2, 1) := by decide +kernel
theorem dX3_tellObject_90 : decode cX3_tellObject 90 = .ok (.iaload, 1) := by decide +kernel
theorem dX3_tellObject_91 : decode cX3_tellObject 91 = .ok (.if_icmp .ge 32, 3) := by decide +kernel
theorem dX3_tellObject_94 : decode cX3_tellObject 94 = .ok (.aload_n 0, 1) := by decide +kernel
theorem dX3_tellObject_95 : decode cX3_tellObject 95 = .ok (.iload_n 1, 1) := by decide +kernel
theorem dX3_tellObject_96 : decode cX3_tellObject 96 = .ok (.bipush 100, 2) := by decide +kernel
theorem dX3_tellObject_98 : decode cX3_tellObject 98 = .ok (.iload 6, 2) := by decide +kernel
theorem dX3_tellObject_100 : decode cX3_tellObject 100 = .ok (.iadd, 1) := by decide +kernel
theorem dX3_tellObject_101 : decode cX3_tellObject 101 = .ok (.aload_n 0, 1) := by decide +kernel
theorem dX3_tellObject_102 : decode cX3_tellObject 102 = .ok (.getfield 25, 3) := by decide +kernel
theorem dX3_tellObject_105 : decode cX3_tellObject 105 = .ok (.bipush 20, 2) := by decide +kernel
theorem dX3_tellObject_107 : decode cX3_tellObject 107 = .ok (.iload_n 2, 1) := by decide +kernel
theorem dX3_tellObject_108 : decode cX3_tellObject 108 = .ok (.imul, 1) := by decide +kernel
theorem dX3_tellObject_109 : decode cX3_tellObject 109 = .ok (.iload 6, 2) := by decide +kernel
theorem dX3_tellObject_111 : decode cX3_tellObject 111 = .ok (.iadd, 1) := by decide +kernel
theorem dX3_tellObject_112 : decode cX3_tellObject 112 = .ok (.iaload, 1) := by decide +kernel
theorem dX3_tellObject_113 : decode cX3_tellObject 113 = .ok (.i2l, 1) := by decide +kernel
theorem dX3_tellObject_114 : decode cX3_tellObject 114 = .ok (.invokevirtual 177, 3) := by decide +kernel
theorem dX3_tellObject_117 : decode cX3_tellObject 117 = .ok (.iinc 6 1, 3) := by decide +kernel
theorem dX3_tellObject_120 : decode cX3_tellObject 120 = .ok (.goto (-37), 3) := by decide +kernel
theorem dX3_tellObject_123 : decode cX3_tellObject 123 = .ok (.goto 51, 3) := by decide +kernel
theorem dX3_tellObject_126 : decode cX3_tellObject 126 = .ok (.iload_n 3, 1) := by decide +kernel
theorem dX3_tellObject_127 : decode cX3_tellObject 127 = .ok (.invokestatic 74, 3) := by decide +kernel
theorem dX3_tellObject_130 : decode cX3_tellObject 130 = .ok (.ifCond .eq 29, 3) := by decide +kernel
theorem dX3_tellObject_133 : decode cX3_tellObject 133 = .ok (.lload 4, 2) := by decide +kernel
theorem dX3_tellObject_135 : decode cX3_tellObject 135 = .ok (.ldc2_w 82, 3) := by decide +kernel
theorem dX3_tellObject_138 : decode cX3_tellObject 138 = .ok (.lcmp, 1) := by decide +kernel
theorem dX3_tellObject_139 : decode cX3_tellObject 139 = .ok (.ifCond .eq 35, 3) := by decide +kernel
theorem dX3_tellObject_142 : decode cX3_tellObject 142 = .ok (.aload_n 0, 1) := by decide +kernel
theorem dX3_tellObject_143 : decode cX3_tellObject 143 = .ok (.iload_n 1, 1) := by decide +kernel
theorem dX3_tellObject_144 : decode cX3_tellObject 144 = .ok (.iload_n 3, 1) := by decide +kernel
theorem dX3_tellObject_145 : decode cX3_tellObject 145 = .ok (.aload_n 0, 1) := by decide +kernel
theorem dX3_tellObject_146 : decode cX3_tellObject 146 = .ok (.lload 4, 2) := by decide +kernel
theorem dX3_tellObject_148 : decode cX3_tellObject 148 = .ok (.l2i, 1) := by decide +kernel
theorem dX3_tellObject_149 : decode cX3_tellObject 149 = .ok (.invokevirtual 170, 3) := by decide +kernel
theorem dX3_tellObject_152 : decode cX3_tellObject 152 = .ok (.i2l, 1) := by decide +kernel
theorem dX3_tellObject_153 : decode cX3_tellObject 153 = .ok (.invokevirtual 177, 3) := by decide +kernel
theorem dX3_tellObject_156 : decode cX3_tellObject 156 = .ok (.goto 18, 3) := by decide +kernel
theorem dX3_tellObject_159 : decode cX3_tellObject 159 = .ok (.lload 4, 2) := by decide +kernel
theorem dX3_tellObject_161 : decode cX3_tellObject 161 = .ok (.lconst 0, 1) := by decide +kernel
theorem dX3_tellObject_162 : decode cX3_tellObject 162 = .ok (.lcmp, 1) := by decide +kernel
theorem dX3_tellObject_163 : decode cX3_tellObject 163 = .ok (.ifCond .eq 11, 3) := by decide +kernel
theorem dX3_tellObject_166 : decode cX3_tellObject 166 = .ok (.aload_n 0, 1) := by decide +kernel
theorem dX3_tellObject_167 : decode cX3_tellObject 167 = .ok (.iload_n 1, 1) := by decide +kernel
theorem dX3_tellObject_168 : decode cX3_tellObject 168 = .ok (.iload_n 3, 1) := by decide +kernel
theorem dX3_tellObject_169 : decode cX3_tellObject 169 = .ok (.lload 4, 2) := by decide +kernel
theorem dX3_tellObject_171 : decode cX3_tellObject 171 = .ok (.invokevirtual 177, 3) := by decide +kernel
theorem dX3_tellObject_174 : decode cX3_tellObject 174 = .ok (.iinc 3 1, 3) := by decide +kernel
theorem dX3_tellObject_177 : decode cX3_tellObject 177 = .ok (.goto (-162), 3) := by decide +kernel
theorem dX3_tellObject_180 : decode cX3_tellObject 180 = .ok (.return_, 1) := by decide +kernel
set_option maxRecDepth 20000 in
theorem ggX3_leaves_X3_isSlot : GoodIn wsX3_leaves wsX3_isSlot := goodIn_r _ [13, 14, 15, 16, 12, 17] (by decide +kernel) (by decide +kernel)
set_option maxRecDepth 20000 in
theorem gX3_leaves_X3_isSlot : GoodIn wsX3_leaves (va_wsS RX3 84 yX3_isSlot wsX3_isSlot) := goodIn_app (goodIn_of _ (by decide +kernel)) ggX3_leaves_X3_isSlot
set_option maxRecDepth 20000 in
theorem ggX3_leaves_X3_find : GoodIn wsX3_leaves wsX3_find := goodIn_r _ [21, 22, 23, 2, 24, 25, 26, 27, 28, 12, 29, 30, 31, 32, 33, 34, 35, 36, 37, 38, 39, 40, 41, 42, 43, 44, 45, 46, 47, 5, 7, 9, 48, 49, 50, 51, 52, 53, 54, 55, 56, 57, 58, 59, 60, 61, 62, 63, 64, 65, 66, 67, 68, 69, 70] (by decide +kernel) (by decide +kernel)
set_option maxRecDepth 20000 in
theorem gX3_leaves_X3_find : GoodIn wsX3_leaves (wsV RX3 181 RX3 yX3_find wsX3_find) := goodIn_app (goodIn_of _ (by decide +kernel)) ggX3_leaves_X3_find
theorem dX3_leaves_0 : decode cX3_leaves 0 = .ok (.iload_n 1, 1) := by decide +kernel
theorem dX3_leaves_1 : decode cX3_leaves 1 = .ok (.invokestatic 84, 3) := by decide +kernel
theorem dX3_leaves_4 : decode cX3_leaves 4 = .ok (.ifCond .ne 5, 3) := by decide +kernel
theorem dX3_leaves_7 : decode cX3_leaves 7 = .ok (.iconst (-1), 1) := by decide +kernel
theorem dX3_leaves_8 : decode cX3_leaves 8 = .ok (.ireturn, 1) := by decide +kernel
theorem dX3_leaves_9 : decode cX3_leaves 9 = .ok (.aload_n 0, 1) := by decide +kernel
theorem dX3_leaves_10 : decode cX3_leaves 10 = .ok (.getfield 7, 3) := by decide +kernel
theorem dX3_leaves_13 : decode cX3_leaves 13 = .ok (.iload_n 1, 1) := by decide +kernel
theorem dX3_leaves_14 : decode cX3_leaves 14 = .ok (.iaload, 1) := by decide +kernel
theorem dX3_leaves_15 : decode cX3_leaves 15 = .ok (.iconst (-1), 1) := by decide +kernel
theorem dX3_leaves_16 : decode cX3_leaves 16 = .ok (.if_icmp .ne 6, 3) := by decide +kernel
theorem dX3_leaves_19 : decode cX3_leaves 19 = .ok (.bipush (-11), 2) := by decide +kernel
theorem dX3_leaves_21 : decode cX3_leaves 21 = .ok (.ireturn, 1) := by decide +kernel
theorem dX3_leaves_22 : decode cX3_leaves 22 = .ok (.aload_n 0, 1) := by decide +kernel
theorem dX3_leaves_23 : decode cX3_leaves 23 = .ok (.aload_n 0, 1) := by decide +kernel
theorem dX3_leaves_24 : decode cX3_leaves 24 = .ok (.getfield 7, 3) := by decide +kernel
theorem dX3_leaves_27 : decode cX3_leaves 27 = .ok (.iload_n 1, 1) := by decide +kernel
theorem dX3_leaves_28 : decode cX3_leaves 28 = .ok (.iaload, 1) := by decide +kernel
theorem dX3_leaves_29 : decode cX3_leaves 29 = .ok (.invokevirtual 181, 3) := by decide +kernel
theorem dX3_leaves_32 : decode cX3_leaves 32 = .ok (.ifCond .ne 6, 3) := by decide +kernel
theorem dX3_leaves_35 : decode cX3_leaves 35 = .ok (.bipush (-3), 2) := by decide +kernel
theorem dX3_leaves_37 : decode cX3_leaves 37 = .ok (.ireturn, 1) := by decide +kernel
theorem dX3_leaves_38 : decode cX3_leaves 38 = .ok (.aload_n 0, 1) := by decide +kernel
theorem dX3_leaves_39 : decode cX3_leaves 39 = .ok (.aload_n 0, 1) := by decide +kernel
theorem dX3_leaves_40 : decode cX3_leaves 40 = .ok (.getfield 160, 3) := by decide +kernel
theorem dX3_leaves_43 : decode cX3_leaves 43 = .ok (.putfield 184, 3) := by decide +kernel
theorem dX3_leaves_46 : decode cX3_leaves 46 = .ok (.iconst 0, 1) := by decide +kernel
theorem dX3_leaves_47 : decode cX3_leaves 47 = .ok (.istore_n 2, 1) := by decide +kernel
theorem dX3_leaves_48 : decode cX3_leaves 48 = .ok (.iload_n 2, 1) := by decide +kernel
theorem dX3_leaves_49 : decode cX3_leaves 49 = .ok (.aload_n 0, 1) := by decide +kernel
theorem dX3_leaves_50 : decode cX3_leaves 50 = .ok (.getfield 160, 3) := by decide +kernel
theorem dX3_leaves_53 : decode cX3_leaves 53 = .ok (.if_icmp .ge 45, 3) := by decide +kernel
theorem dX3_leaves_56 : decode cX3_leaves 56 = .ok (.aload_n 0, 1) := by decide +kernel
theorem dX3_leaves_57 : decode cX3_leaves 57 = .ok (.getfield 35, 3) := by decide +kernel
theorem dX3_leaves_60 : decode cX3_leaves 60 = .ok (.iload_n 2, 1) := by decide +kernel
theorem dX3_leaves_61 : decode cX3_leaves 61 = .ok (.aload_n 0, 1) := by decide +kernel
theorem dX3_leaves_62 : decode cX3_leaves 62 = .ok (.getfield 47, 3) := by decide +kernel
theorem dX3_leaves_65 : decode cX3_leaves 65 = .ok (.iload_n 2, 1) := by decide +kernel
theorem dX3_leaves_66 : decode cX3_leaves 66 = .ok (.iaload, 1) := by decide +kernel
theorem dX3_leaves_67 : decode cX3_leaves 67 = .ok (.iastore, 1) := by decide +kernel
theorem dX3_leaves_68 : decode cX3_leaves 68 = .ok (.aload_n 0, 1) := by decide +kernel
theorem dX3_leaves_69 : decode cX3_leaves 69 = .ok (.getfield 38, 3) := by decide +kernel
theorem dX3_leaves_72 : decode cX3_leaves 72 = .ok (.iload_n 2, 1) := by decide +kernel
theorem dX3_leaves_73 : decode cX3_leaves 73 = .ok (.aload_n 0, 1) := by decide +kernel
theorem dX3_leaves_74 : decode cX3_leaves 74 = .ok (.getfield 50, 3) := by decide +kernel
theorem dX3_leaves_77 : decode cX3_leaves 77 = .ok (.iload_n 2, 1) := by decide +kernel
theorem dX3_leaves_78 : decode cX3_leaves 78 = .ok (.iaload, 1) := by decide +kernel
theorem dX3_leaves_79 : decode cX3_leaves 79 = .ok (.iastore, 1) := by decide +kernel
theorem dX3_leaves_80 : decode cX3_leaves 80 = .ok (.aload_n 0, 1) := by decide +kernel
theorem dX3_leaves_81 : decode cX3_leaves 81 = .ok (.getfield 41, 3) := by decide +kernel
theorem dX3_leaves_84 : decode cX3_leaves 84 = .ok (.iload_n 2, 1) := by decide +kernel
theorem dX3_leaves_85 : decode cX3_leaves 85 = .ok (.aload_n 0, 1) := by decide +kernel
theorem dX3_leaves_86 : decode cX3_leaves 86 = .ok (.getfield 53, 3) := by decide +kernel
theorem dX3_leaves_89 : decode cX3_leaves 89 = .ok (.iload_n 2, 1) := by decide +kernel
theorem dX3_leaves_90 : decode cX3_leaves 90 = .ok (.laload, 1) := by decide +kernel
theorem dX3_leaves_91 : decode cX3_leaves 91 = .ok (.lastore, 1) := by decide +kernel
theorem dX3_leaves_92 : decode cX3_leaves 92 = .ok (.iinc 2 1, 3) := by decide +kernel
theorem dX3_leaves_95 : decode cX3_leaves 95 = .ok (.goto (-47), 3) := by decide +kernel
theorem dX3_leaves_98 : decode cX3_leaves 98 = .ok (.aload_n 0, 1) := by decide +kernel
theorem dX3_leaves_99 : decode cX3_leaves 99 = .ok (.getfield 184, 3) := by decide +kernel
theorem dX3_leaves_102 : decode cX3_leaves 102 = .ok (.ireturn, 1) := by decide +kernel
set_option maxRecDepth 20000 in
theorem ggX3_leaf_X3_in : GoodIn wsX3_leaf wsX3_in := goodIn_r _ [10] (by decide +kernel) (by decide +kernel)
set_option maxRecDepth 20000 in
theorem gX3_leaf_X3_in : GoodIn wsX3_leaf (va_wsS RX3 70 yX3_in wsX3_in) := goodIn_app (goodIn_of _ (by decide +kernel)) ggX3_leaf_X3_in
theorem dX3_leaf_0 : decode cX3_leaf 0 = .ok (.iload_n 1, 1) := by decide +kernel
theorem dX3_leaf_1 : decode cX3_leaf 1 = .ok (.i2l, 1) := by decide +kernel
theorem dX3_leaf_2 : decode cX3_leaf 2 = .ok (.lconst 0, 1) := by decide +kernel
theorem dX3_leaf_3 : decode cX3_leaf 3 = .ok (.aload_n 0, 1) := by decide +kernel
theorem dX3_leaf_4 : decode cX3_leaf 4 = .ok (.getfield 184, 3) := by decide +kernel
theorem dX3_leaf_7 : decode cX3_leaf 7 = .ok (.iconst 1, 1) := by decide +kernel
theorem dX3_leaf_8 : decode cX3_leaf 8 = .ok (.isub, 1) := by decide +kernel
theorem dX3_leaf_9 : decode cX3_leaf 9 = .ok (.i2l, 1) := by decide +kernel
theorem dX3_leaf_10 : decode cX3_leaf 10 = .ok (.invokestatic 70, 3) := by decide +kernel
theorem dX3_leaf_13 : decode cX3_leaf 13 = .ok (.ifCond .eq 15, 3) := by decide +kernel
theorem dX3_leaf_16 : decode cX3_leaf 16 = .ok (.iload_n 2, 1) := by decide +kernel
theorem dX3_leaf_17 : decode cX3_leaf 17 = .ok (.i2l, 1) := by decide +kernel
theorem dX3_leaf_18 : decode cX3_leaf 18 = .ok (.lconst 0, 1) := by decide +kernel
theorem dX3_leaf_19 : decode cX3_leaf 19 = .ok (.ldc2_w 142, 3) := by decide +kernel
theorem dX3_leaf_22 : decode cX3_leaf 22 = .ok (.invokestatic 70, 3) := by decide +kernel
theorem dX3_leaf_25 : decode cX3_leaf 25 = .ok (.ifCond .ne 7, 3) := by decide +kernel
theorem dX3_leaf_28 : decode cX3_leaf 28 = .ok (.ldc2_w 82, 3) := by decide +kernel
theorem dX3_leaf_31 : decode cX3_leaf 31 = .ok (.lreturn, 1) := by decide +kernel
theorem dX3_leaf_32 : decode cX3_leaf 32 = .ok (.iload_n 2, 1) := by decide +kernel
theorem dX3_leaf_33 : decode cX3_leaf 33 = .ok (.ifCond .ne 13, 3) := by decide +kernel
theorem dX3_leaf_36 : decode cX3_leaf 36 = .ok (.aload_n 0, 1) := by decide +kernel
theorem dX3_leaf_37 : decode cX3_leaf 37 = .ok (.getfield 35, 3) := by decide +kernel
theorem dX3_leaf_40 : decode cX3_leaf 40 = .ok (.iload_n 1, 1) := by decide +kernel
theorem dX3_leaf_41 : decode cX3_leaf 41 = .ok (.iaload, 1) := by decide +kernel
theorem dX3_leaf_42 : decode cX3_leaf 42 = .ok (.i2l, 1) := by decide +kernel
theorem dX3_leaf_43 : decode cX3_leaf 43 = .ok (.goto 24, 3) := by decide +kernel
theorem dX3_leaf_46 : decode cX3_leaf 46 = .ok (.iload_n 2, 1) := by decide +kernel
theorem dX3_leaf_47 : decode cX3_leaf 47 = .ok (.iconst 1, 1) := by decide +kernel
theorem dX3_leaf_48 : decode cX3_leaf 48 = .ok (.if_icmp .ne 13, 3) := by decide +kernel
theorem dX3_leaf_51 : decode cX3_leaf 51 = .ok (.aload_n 0, 1) := by decide +kernel
theorem dX3_leaf_52 : decode cX3_leaf 52 = .ok (.getfield 38, 3) := by decide +kernel
theorem dX3_leaf_55 : decode cX3_leaf 55 = .ok (.iload_n 1, 1) := by decide +kernel
theorem dX3_leaf_56 : decode cX3_leaf 56 = .ok (.iaload, 1) := by decide +kernel
theorem dX3_leaf_57 : decode cX3_leaf 57 = .ok (.i2l, 1) := by decide +kernel
theorem dX3_leaf_58 : decode cX3_leaf 58 = .ok (.goto 9, 3) := by decide +kernel
theorem dX3_leaf_61 : decode cX3_leaf 61 = .ok (.aload_n 0, 1) := by decide +kernel
theorem dX3_leaf_62 : decode cX3_leaf 62 = .ok (.getfield 41, 3) := by decide +kernel
theorem dX3_leaf_65 : decode cX3_leaf 65 = .ok (.iload_n 1, 1) := by decide +kernel
theorem dX3_leaf_66 : decode cX3_leaf 66 = .ok (.laload, 1) := by decide +kernel
theorem dX3_leaf_67 : decode cX3_leaf 67 = .ok (.lreturn, 1) := by decide +kernel
set_option maxRecDepth 20000 in
theorem ggX3_alter_X3_in : GoodIn wsX3_alter wsX3_in := goodIn_r _ [7] (by decide +kernel) (by decide +kernel)
set_option maxRecDepth 20000 in
theorem gX3_alter_X3_in : GoodIn wsX3_alter (va_wsS RX3 70 yX3_in wsX3_in) := goodIn_app (goodIn_of _ (by decide +kernel)) ggX3_alter_X3_in
theorem dX3_alter_0 : decode cX3_alter 0 = .ok (.iload_n 1, 1) := by decide +kernel
theorem dX3_alter_1 : decode cX3_alter 1 = .ok (.i2l, 1) := by decide +kernel
theorem dX3_alter_2 : decode cX3_alter 2 = .ok (.lconst 0, 1) := by decide +kernel
theorem dX3_alter_3 : decode cX3_alter 3 = .ok (.aload_n 0, 1) := by decide +kernel
theorem dX3_alter_4 : decode cX3_alter 4 = .ok (.getfield 184, 3) := by decide +kernel
theorem dX3_alter_7 : decode cX3_alter 7 = .ok (.iconst 1, 1) := by decide +kernel
theorem dX3_alter_8 : decode cX3_alter 8 = .ok (.isub, 1) := by decide +kernel
theorem dX3_alter_9 : decode cX3_alter 9 = .ok (.i2l, 1) := by decide +kernel
theorem dX3_alter_10 : decode cX3_alter 10 = .ok (.invokestatic 70, 3) := by decide +kernel
theorem dX3_alter_13 : decode cX3_alter 13 = .ok (.ifCond .eq 24, 3) := by decide +kernel
theorem dX3_alter_16 : decode cX3_alter 16 = .ok (.aload_n 0, 1) := by decide +kernel
theorem dX3_alter_17 : decode cX3_alter 17 = .ok (.getfield 38, 3) := by decide +kernel
theorem dX3_alter_20 : decode cX3_alter 20 = .ok (.iload_n 1, 1) := by decide +kernel
theorem dX3_alter_21 : decode cX3_alter 21 = .ok (.iaload, 1) := by decide +kernel
theorem dX3_alter_22 : decode cX3_alter 22 = .ok (.iconst (-1), 1) := by decide +kernel
theorem dX3_alter_23 : decode cX3_alter 23 = .ok (.if_icmp .eq 14, 3) := by decide +kernel
theorem dX3_alter_26 : decode cX3_alter 26 = .ok (.aload_n 0, 1) := by decide +kernel
theorem dX3_alter_27 : decode cX3_alter 27 = .ok (.getfield 38, 3) := by decide +kernel
theorem dX3_alter_30 : decode cX3_alter 30 = .ok (.iload_n 1, 1) := by decide +kernel
theorem dX3_alter_31 : decode cX3_alter 31 = .ok (.iaload, 1) := by decide +kernel
theorem dX3_alter_32 : decode cX3_alter 32 = .ok (.bipush 9, 2) := by decide +kernel
theorem dX3_alter_34 : decode cX3_alter 34 = .ok (.if_icmp .ne 5, 3) := by decide +kernel
theorem dX3_alter_37 : decode cX3_alter 37 = .ok (.iconst (-1), 1) := by decide +kernel
theorem dX3_alter_38 : decode cX3_alter 38 = .ok (.ireturn, 1) := by decide +kernel
theorem dX3_alter_39 : decode cX3_alter 39 = .ok (.aload_n 0, 1) := by decide +kernel
theorem dX3_alter_40 : decode cX3_alter 40 = .ok (.getfield 41, 3) := by decide +kernel
theorem dX3_alter_43 : decode cX3_alter 43 = .ok (.iload_n 1, 1) := by decide +kernel
theorem dX3_alter_44 : decode cX3_alter 44 = .ok (.lload_n 2, 1) := by decide +kernel
theorem dX3_alter_45 : decode cX3_alter 45 = .ok (.lastore, 1) := by decide +kernel
theorem dX3_alter_46 : decode cX3_alter 46 = .ok (.iconst 1, 1) := by decide +kernel
theorem dX3_alter_47 : decode cX3_alter 47 = .ok (.ireturn, 1) := by decide +kernel
theorem dX3_told_0 : decode cX3_told 0 = .ok (.iconst 0, 1) := by decide +kernel
theorem dX3_told_1 : decode cX3_told 1 = .ok (.istore_n 3, 1) := by decide +kernel
theorem dX3_told_2 : decode cX3_told 2 = .ok (.iload_n 3, 1) := by decide +kernel
theorem dX3_told_3 : decode cX3_told 3 = .ok (.aload_n 0, 1) := by decide +kernel
theorem dX3_told_4 : decode cX3_told 4 = .ok (.getfield 184, 3) := by decide +kernel
theorem dX3_told_7 : decode cX3_told 7 = .ok (.if_icmp .ge 36, 3) := by decide +kernel
theorem dX3_told_10 : decode cX3_told 10 = .ok (.aload_n 0, 1) := by decide +kernel
theorem dX3_told_11 : decode cX3_told 11 = .ok (.getfield 35, 3) := by decide +kernel
theorem dX3_told_14 : decode cX3_told 14 = .ok (.iload_n 3, 1) := by decide +kernel
theorem dX3_told_15 : decode cX3_told 15 = .ok (.iaload, 1) := by decide +kernel
theorem dX3_told_16 : decode cX3_told 16 = .ok (.iload_n 1, 1) := by decide +kernel
theorem dX3_told_17 : decode cX3_told 17 = .ok (.if_icmp .ne 20, 3) := by decide +kernel
theorem dX3_told_20 : decode cX3_told 20 = .ok (.aload_n 0, 1) := by decide +kernel
theorem dX3_told_21 : decode cX3_told 21 = .ok (.getfield 38, 3) := by decide +kernel
theorem dX3_told_24 : decode cX3_told 24 = .ok (.iload_n 3, 1) := by decide +kernel
theorem dX3_told_25 : decode cX3_told 25 = .ok (.iaload, 1) := by decide +kernel
theorem dX3_told_26 : decode cX3_told 26 = .ok (.iload_n 2, 1) := by decide +kernel
theorem dX3_told_27 : decode cX3_told 27 = .ok (.if_icmp .ne 10, 3) := by decide +kernel
theorem dX3_told_30 : decode cX3_told 30 = .ok (.aload_n 0, 1) := by decide +kernel
theorem dX3_told_31 : decode cX3_told 31 = .ok (.getfield 41, 3) := by decide +kernel
theorem dX3_told_34 : decode cX3_told 34 = .ok (.iload_n 3, 1) := by decide +kernel
theorem dX3_told_35 : decode cX3_told 35 = .ok (.laload, 1) := by decide +kernel
theorem dX3_told_36 : decode cX3_told 36 = .ok (.lreturn, 1) := by decide +kernel
theorem dX3_told_37 : decode cX3_told 37 = .ok (.iinc 3 1, 3) := by decide +kernel
theorem dX3_told_40 : decode cX3_told 40 = .ok (.goto (-38), 3) := by decide +kernel
theorem dX3_told_43 : decode cX3_told 43 = .ok (.lconst 0, 1) := by decide +kernel
theorem dX3_told_44 : decode cX3_told 44 = .ok (.lreturn, 1) := by decide +kernel
set_option maxRecDepth 20000 in
theorem ggX3_back_X3_isSlot : GoodIn wsX3_back wsX3_isSlot := goodIn_r _ [16, 17, 18, 19, 15, 20] (by decide +kernel) (by decide +kernel)
set_option maxRecDepth 20000 in
theorem gX3_back_X3_isSlot : GoodIn wsX3_back (va_wsS RX3 84 yX3_isSlot wsX3_isSlot) := goodIn_app (goodIn_of _ (by decide +kernel)) ggX3_back_X3_isSlot
set_option maxRecDepth 20000 in
theorem ggX3_back_X3_told : GoodIn wsX3_back wsX3_told := goodIn_r _ [24, 1, 2, 6, 7, 55, 56, 57, 58, 59, 60, 61, 62, 63, 64, 65, 66, 67, 68, 69, 70, 71, 72, 73, 74, 75, 76, 77] (by decide +kernel) (by decide +kernel)
set_option maxRecDepth 20000 in
theorem gX3_back_X3_told : GoodIn wsX3_back (wsV RX3 187 RX3 yX3_told wsX3_told) := goodIn_app (goodIn_of _ (by decide +kernel)) ggX3_back_X3_told
set_option maxRecDepth 20000 in
theorem ggX3_back_X3_in : GoodIn wsX3_back wsX3_in := goodIn_r _ [20] (by decide +kernel) (by decide +kernel)
set_option maxRecDepth 20000 in
theorem gX3_back_X3_in : GoodIn wsX3_back (va_wsS RX3 70 yX3_in wsX3_in) := goodIn_app (goodIn_of _ (by decide +kernel)) ggX3_back_X3_in
set_option maxRecDepth 20000 in
theorem ggX3_back_X3_lookWhatIsHeld : GoodIn wsX3_back wsX3_lookWhatIsHeld := goodIn_r _ [28, 29, 12, 30, 10, 11, 31, 32, 15, 33, 34, 35, 36, 55, 56, 57, 58, 59, 60, 61, 62, 63, 64, 65, 66, 67, 68, 69, 70, 71, 72, 73, 74, 75, 76, 77] (by decide +kernel) (by decide +kernel)
set_option maxRecDepth 20000 in
theorem gX3_back_X3_lookWhatIsHeld : GoodIn wsX3_back (wsV RX3 91 RX3 yX3_lookWhatIsHeld wsX3_lookWhatIsHeld) := goodIn_app (goodIn_of _ (by decide +kernel)) ggX3_back_X3_lookWhatIsHeld
set_option maxRecDepth 20000 in
theorem ggX3_back_X3_born : GoodIn wsX3_back wsX3_born := goodIn_r _ [40, 29, 10, 11, 41, 9, 31, 32, 15, 33, 55, 56, 57, 58, 59, 60, 61, 62, 63, 64, 65, 66, 67, 68, 69, 70, 71, 72, 73, 74, 75, 76, 77] (by decide +kernel) (by decide +kernel)
set_option maxRecDepth 20000 in
theorem gX3_back_X3_born : GoodIn wsX3_back (wsV RX3 94 RX3 yX3_born wsX3_born) := goodIn_app (goodIn_of _ (by decide +kernel)) ggX3_back_X3_born
set_option maxRecDepth 20000 in
theorem ggX3_back_X3_isLink : GoodIn wsX3_back wsX3_isLink := goodIn_r _ [33] (by decide +kernel) (by decide +kernel)
set_option maxRecDepth 20000 in
theorem gX3_back_X3_isLink : GoodIn wsX3_back (va_wsS RX3 74 yX3_isLink wsX3_isLink) := goodIn_app (goodIn_of _ (by decide +kernel)) ggX3_back_X3_isLink
set_option maxRecDepth 20000 in
theorem ggX3_back_X3_mayBeIn : GoodIn wsX3_back wsX3_mayBeIn := goodIn_r _ [44] (by decide +kernel) (by decide +kernel)
set_option maxRecDepth 20000 in
theorem gX3_back_X3_mayBeIn : GoodIn wsX3_back (va_wsS RX3 135 yX3_mayBeIn wsX3_mayBeIn) := goodIn_app (goodIn_of _ (by decide +kernel)) ggX3_back_X3_mayBeIn
set_option maxRecDepth 20000 in
theorem ggX3_back_X3_valueOf : GoodIn wsX3_back wsX3_valueOf := goodIn_r _ [47, 48, 49, 50, 51, 52, 53, 54] (by decide +kernel) (by decide +kernel)
set_option maxRecDepth 20000 in
theorem gX3_back_X3_valueOf : GoodIn wsX3_back (va_wsS RX3 131 yX3_valueOf wsX3_valueOf) := goodIn_app (goodIn_of _ (by decide +kernel)) ggX3_back_X3_valueOf
theorem dX3_back_0 : decode cX3_back 0 = .ok (.iload_n 1, 1) := by decide +kernel
theorem dX3_back_1 : decode cX3_back 1 = .ok (.invokestatic 84, 3) := by decide +kernel
theorem dX3_back_4 : decode cX3_back 4 = .ok (.ifCond .ne 5, 3) := by decide +kernel
theorem dX3_back_7 : decode cX3_back 7 = .ok (.iconst (-1), 1) := by decide +kernel
theorem dX3_back_8 : decode cX3_back 8 = .ok (.ireturn, 1) := by decide +kernel
theorem dX3_back_9 : decode cX3_back 9 = .ok (.aload_n 0, 1) := by decide +kernel
theorem dX3_back_10 : decode cX3_back 10 = .ok (.getfield 184, 3) := by decide +kernel
theorem dX3_back_13 : decode cX3_back 13 = .ok (.ifCond .ne 6, 3) := by decide +kernel
theorem dX3_back_16 : decode cX3_back 16 = .ok (.bipush (-3), 2) := by decide +kernel
theorem dX3_back_18 : decode cX3_back 18 = .ok (.ireturn, 1) := by decide +kernel
theorem dX3_back_19 : decode cX3_back 19 = .ok (.aload_n 0, 1) := by decide +kernel
theorem dX3_back_20 : decode cX3_back 20 = .ok (.getfield 35, 3) := by decide +kernel
theorem dX3_back_23 : decode cX3_back 23 = .ok (.aload_n 0, 1) := by decide +kernel
theorem dX3_back_24 : decode cX3_back 24 = .ok (.getfield 184, 3) := by decide +kernel
theorem dX3_back_27 : decode cX3_back 27 = .ok (.iconst 1, 1) := by decide +kernel
theorem dX3_back_28 : decode cX3_back 28 = .ok (.isub, 1) := by decide +kernel
theorem dX3_back_29 : decode cX3_back 29 = .ok (.iaload, 1) := by decide +kernel
theorem dX3_back_30 : decode cX3_back 30 = .ok (.iconst 1, 1) := by decide +kernel
theorem dX3_back_31 : decode cX3_back 31 = .ok (.iadd, 1) := by decide +kernel
theorem dX3_back_32 : decode cX3_back 32 = .ok (.istore_n 2, 1) := by decide +kernel
theorem dX3_back_33 : decode cX3_back 33 = .ok (.iconst 0, 1) := by decide +kernel
theorem dX3_back_34 : decode cX3_back 34 = .ok (.istore_n 3, 1) := by decide +kernel
theorem dX3_back_35 : decode cX3_back 35 = .ok (.iload_n 3, 1) := by decide +kernel
theorem dX3_back_36 : decode cX3_back 36 = .ok (.iload_n 2, 1) := by decide +kernel
theorem dX3_back_37 : decode cX3_back 37 = .ok (.if_icmp .ge 44, 3) := by decide +kernel
theorem dX3_back_40 : decode cX3_back 40 = .ok (.aload_n 0, 1) := by decide +kernel
theorem dX3_back_41 : decode cX3_back 41 = .ok (.iload_n 3, 1) := by decide +kernel
theorem dX3_back_42 : decode cX3_back 42 = .ok (.iconst (-1), 1) := by decide +kernel
theorem dX3_back_43 : decode cX3_back 43 = .ok (.invokevirtual 187, 3) := by decide +kernel
theorem dX3_back_46 : decode cX3_back 46 = .ok (.ldc2_w 142, 3) := by decide +kernel
theorem dX3_back_49 : decode cX3_back 49 = .ok (.lcmp, 1) := by decide +kernel
theorem dX3_back_50 : decode cX3_back 50 = .ok (.ifCond .ne 25, 3) := by decide +kernel
theorem dX3_back_53 : decode cX3_back 53 = .ok (.aload_n 0, 1) := by decide +kernel
theorem dX3_back_54 : decode cX3_back 54 = .ok (.iload_n 3, 1) := by decide +kernel
theorem dX3_back_55 : decode cX3_back 55 = .ok (.bipush 13, 2) := by decide +kernel
theorem dX3_back_57 : decode cX3_back 57 = .ok (.invokevirtual 187, 3) := by decide +kernel
theorem dX3_back_60 : decode cX3_back 60 = .ok (.l2i, 1) := by decide +kernel
theorem dX3_back_61 : decode cX3_back 61 = .ok (.i2l, 1) := by decide +kernel
theorem dX3_back_62 : decode cX3_back 62 = .ok (.lconst 0, 1) := by decide +kernel
theorem dX3_back_63 : decode cX3_back 63 = .ok (.ldc2_w 89, 3) := by decide +kernel
theorem dX3_back_66 : decode cX3_back 66 = .ok (.invokestatic 70, 3) := by decide +kernel
theorem dX3_back_69 : decode cX3_back 69 = .ok (.ifCond .ne 6, 3) := by decide +kernel
theorem dX3_back_72 : decode cX3_back 72 = .ok (.bipush (-18), 2) := by decide +kernel
theorem dX3_back_74 : decode cX3_back 74 = .ok (.ireturn, 1) := by decide +kernel
theorem dX3_back_75 : decode cX3_back 75 = .ok (.iinc 3 1, 3) := by decide +kernel
theorem dX3_back_78 : decode cX3_back 78 = .ok (.goto (-43), 3) := by decide +kernel
theorem dX3_back_81 : decode cX3_back 81 = .ok (.aload_n 0, 1) := by decide +kernel
theorem dX3_back_82 : decode cX3_back 82 = .ok (.invokevirtual 91, 3) := by decide +kernel
theorem dX3_back_85 : decode cX3_back 85 = .ok (.iconst 0, 1) := by decide +kernel
theorem dX3_back_86 : decode cX3_back 86 = .ok (.istore_n 3, 1) := by decide +kernel
theorem dX3_back_87 : decode cX3_back 87 = .ok (.iload_n 3, 1) := by decide +kernel
theorem dX3_back_88 : decode cX3_back 88 = .ok (.iload_n 2, 1) := by decide +kernel
theorem dX3_back_89 : decode cX3_back 89 = .ok (.if_icmp .ge 49, 3) := by decide +kernel
theorem dX3_back_92 : decode cX3_back 92 = .ok (.aload_n 0, 1) := by decide +kernel
theorem dX3_back_93 : decode cX3_back 93 = .ok (.iload_n 3, 1) := by decide +kernel
theorem dX3_back_94 : decode cX3_back 94 = .ok (.iconst (-1), 1) := by decide +kernel
theorem dX3_back_95 : decode cX3_back 95 = .ok (.invokevirtual 187, 3) := by decide +kernel
theorem dX3_back_98 : decode cX3_back 98 = .ok (.l2i, 1) := by decide +kernel
theorem dX3_back_99 : decode cX3_back 99 = .ok (.istore 4, 2) := by decide +kernel
theorem dX3_back_101 : decode cX3_back 101 = .ok (.aload_n 0, 1) := by decide +kernel
theorem dX3_back_102 : decode cX3_back 102 = .ok (.getfield 56, 3) := by decide +kernel
theorem dX3_back_105 : decode cX3_back 105 = .ok (.iload_n 3, 1) := by decide +kernel
theorem dX3_back_106 : decode cX3_back 106 = .ok (.aload_n 0, 1) := by decide +kernel
theorem dX3_back_107 : decode cX3_back 107 = .ok (.iload 4, 2) := by decide +kernel
theorem dX3_back_109 : decode cX3_back 109 = .ok (.aload_n 0, 1) := by decide +kernel
theorem dX3_back_110 : decode cX3_back 110 = .ok (.iload_n 3, 1) := by decide +kernel
theorem dX3_back_111 : decode cX3_back 111 = .ok (.iload 4, 2) := by decide +kernel
theorem dX3_back_113 : decode cX3_back 113 = .ok (.iconst 2, 1) := by decide +kernel
theorem dX3_back_114 : decode cX3_back 114 = .ok (.if_icmp .ne 8, 3) := by decide +kernel
theorem dX3_back_117 : decode cX3_back 117 = .ok (.bipush 13, 2) := by decide +kernel
theorem dX3_back_119 : decode cX3_back 119 = .ok (.goto 5, 3) := by decide +kernel
theorem dX3_back_122 : decode cX3_back 122 = .ok (.bipush 16, 2) := by decide +kernel
theorem dX3_back_124 : decode cX3_back 124 = .ok (.invokevirtual 187, 3) := by decide +kernel
theorem dX3_back_127 : decode cX3_back 127 = .ok (.l2i, 1) := by decide +kernel
theorem dX3_back_128 : decode cX3_back 128 = .ok (.invokevirtual 94, 3) := by decide +kernel
theorem dX3_back_131 : decode cX3_back 131 = .ok (.iastore, 1) := by decide +kernel
theorem dX3_back_132 : decode cX3_back 132 = .ok (.iinc 3 1, 3) := by decide +kernel
theorem dX3_back_135 : decode cX3_back 135 = .ok (.goto (-48), 3) := by decide +kernel
theorem dX3_back_138 : decode cX3_back 138 = .ok (.iconst 0, 1) := by decide +kernel
theorem dX3_back_139 : decode cX3_back 139 = .ok (.istore_n 3, 1) := by decide +kernel
theorem dX3_back_140 : decode cX3_back 140 = .ok (.iload_n 3, 1) := by decide +kernel
theorem dX3_back_141 : decode cX3_back 141 = .ok (.aload_n 0, 1) := by decide +kernel
theorem dX3_back_142 : decode cX3_back 142 = .ok (.getfield 184, 3) := by decide +kernel
theorem dX3_back_145 : decode cX3_back 145 = .ok (.if_icmp .ge 190, 3) := by decide +kernel
theorem dX3_back_148 : decode cX3_back 148 = .ok (.aload_n 0, 1) := by decide +kernel
theorem dX3_back_149 : decode cX3_back 149 = .ok (.getfield 56, 3) := by decide +kernel
theorem dX3_back_152 : decode cX3_back 152 = .ok (.aload_n 0, 1) := by decide +kernel
theorem dX3_back_153 : decode cX3_back 153 = .ok (.getfield 35, 3) := by decide +kernel
theorem dX3_back_156 : decode cX3_back 156 = .ok (.iload_n 3, 1) := by decide +kernel
theorem dX3_back_157 : decode cX3_back 157 = .ok (.iaload, 1) := by decide +kernel
theorem dX3_back_158 : decode cX3_back 158 = .ok (.iaload, 1) := by decide +kernel
theorem dX3_back_159 : decode cX3_back 159 = .ok (.istore 4, 2) := by decide +kernel
theorem dX3_back_161 : decode cX3_back 161 = .ok (.aload_n 0, 1) := by decide +kernel
theorem dX3_back_162 : decode cX3_back 162 = .ok (.getfield 38, 3) := by decide +kernel
theorem dX3_back_165 : decode cX3_back 165 = .ok (.iload_n 3, 1) := by decide +kernel
theorem dX3_back_166 : decode cX3_back 166 = .ok (.iaload, 1) := by decide +kernel
theorem dX3_back_167 : decode cX3_back 167 = .ok (.istore 5, 2) := by decide +kernel
theorem dX3_back_169 : decode cX3_back 169 = .ok (.aload_n 0, 1) := by decide +kernel
theorem dX3_back_170 : decode cX3_back 170 = .ok (.getfield 41, 3) := by decide +kernel
theorem dX3_back_173 : decode cX3_back 173 = .ok (.iload_n 3, 1) := by decide +kernel
theorem dX3_back_174 : decode cX3_back 174 = .ok (.laload, 1) := by decide +kernel
theorem dX3_back_175 : decode cX3_back 175 = .ok (.lstore 6, 2) := by decide +kernel
theorem dX3_back_177 : decode cX3_back 177 = .ok (.iload 5, 2) := by decide +kernel
theorem dX3_back_179 : decode cX3_back 179 = .ok (.bipush 100, 2) := by decide +kernel
theorem dX3_back_181 : decode cX3_back 181 = .ok (.if_icmp .lt 25, 3) := by decide +kernel
theorem dX3_back_184 : decode cX3_back 184 = .ok (.aload_n 0, 1) := by decide +kernel
theorem dX3_back_185 : decode cX3_back 185 = .ok (.getfield 25, 3) := by decide +kernel
theorem dX3_back_188 : decode cX3_back 188 = .ok (.bipush 20, 2) := by decide +kernel
theorem dX3_back_190 : decode cX3_back 190 = .ok (.iload 4, 2) := by decide +kernel
theorem dX3_back_192 : decode cX3_back 192 = .ok (.imul, 1) := by decide +kernel
theorem dX3_back_193 : decode cX3_back 193 = .ok (.iload 5, 2) := by decide +kernel
theorem dX3_back_195 : decode cX3_back 195 = .ok (.iadd, 1) := by decide +kernel
theorem dX3_back_196 : decode cX3_back 196 = .ok (.bipush 100, 2) := by decide +kernel
theorem dX3_back_198 : decode cX3_back 198 = .ok (.isub, 1) := by decide +kernel
theorem dX3_back_199 : decode cX3_back 199 = .ok (.lload 6, 2) := by decide +kernel
theorem dX3_back_201 : decode cX3_back 201 = .ok (.l2i, 1) := by decide +kernel
theorem dX3_back_202 : decode cX3_back 202 = .ok (.iastore, 1) := by decide +kernel
theorem dX3_back_203 : decode cX3_back 203 = .ok (.goto 126, 3) := by decide +kernel
theorem dX3_back_206 : decode cX3_back 206 = .ok (.iload 5, 2) := by decide +kernel
theorem dX3_back_208 : decode cX3_back 208 = .ok (.bipush 9, 2) := by decide +kernel
theorem dX3_back_210 : decode cX3_back 210 = .ok (.if_icmp .ne 16, 3) := by decide +kernel
theorem dX3_back_213 : decode cX3_back 213 = .ok (.aload_n 0, 1) := by decide +kernel
theorem dX3_back_214 : decode cX3_back 214 = .ok (.getfield 21, 3) := by decide +kernel
theorem dX3_back_217 : decode cX3_back 217 = .ok (.iload 4, 2) := by decide +kernel
theorem dX3_back_219 : decode cX3_back 219 = .ok (.lload 6, 2) := by decide +kernel
theorem dX3_back_221 : decode cX3_back 221 = .ok (.l2i, 1) := by decide +kernel
theorem dX3_back_222 : decode cX3_back 222 = .ok (.iastore, 1) := by decide +kernel
theorem dX3_back_223 : decode cX3_back 223 = .ok (.goto 106, 3) := by decide +kernel
theorem dX3_back_226 : decode cX3_back 226 = .ok (.iload 5, 2) := by decide +kernel
theorem dX3_back_228 : decode cX3_back 228 = .ok (.ifCond .lt 76, 3) := by decide +kernel
theorem dX3_back_231 : decode cX3_back 231 = .ok (.iload 5, 2) := by decide +kernel
theorem dX3_back_233 : decode cX3_back 233 = .ok (.invokestatic 74, 3) := by decide +kernel
theorem dX3_back_236 : decode cX3_back 236 = .ok (.ifCond .eq 68, 3) := by decide +kernel
theorem dX3_back_239 : decode cX3_back 239 = .ok (.lload 6, 2) := by decide +kernel
theorem dX3_back_241 : decode cX3_back 241 = .ok (.lconst 0, 1) := by decide +kernel
theorem dX3_back_242 : decode cX3_back 242 = .ok (.iload_n 2, 1) := by decide +kernel
theorem dX3_back_243 : decode cX3_back 243 = .ok (.iconst 1, 1) := by decide +kernel
theorem dX3_back_244 : decode cX3_back 244 = .ok (.isub, 1) := by decide +kernel
theorem dX3_back_245 : decode cX3_back 245 = .ok (.i2l, 1) := by decide +kernel
theorem dX3_back_246 : decode cX3_back 246 = .ok (.invokestatic 70, 3) := by decide +kernel
theorem dX3_back_249 : decode cX3_back 249 = .ok (.ifCond .ne 6, 3) := by decide +kernel
theorem dX3_back_252 : decode cX3_back 252 = .ok (.bipush (-12), 2) := by decide +kernel
theorem dX3_back_254 : decode cX3_back 254 = .ok (.ireturn, 1) := by decide +kernel
theorem dX3_back_255 : decode cX3_back 255 = .ok (.aload_n 0, 1) := by decide +kernel
theorem dX3_back_256 : decode cX3_back 256 = .ok (.getfield 13, 3) := by decide +kernel
theorem dX3_back_259 : decode cX3_back 259 = .ok (.aload_n 0, 1) := by decide +kernel
theorem dX3_back_260 : decode cX3_back 260 = .ok (.getfield 56, 3) := by decide +kernel
theorem dX3_back_263 : decode cX3_back 263 = .ok (.lload 6, 2) := by decide +kernel
theorem dX3_back_265 : decode cX3_back 265 = .ok (.l2i, 1) := by decide +kernel
theorem dX3_back_266 : decode cX3_back 266 = .ok (.iaload, 1) := by decide +kernel
theorem dX3_back_267 : decode cX3_back 267 = .ok (.iaload, 1) := by decide +kernel
theorem dX3_back_268 : decode cX3_back 268 = .ok (.iload 5, 2) := by decide +kernel
theorem dX3_back_270 : decode cX3_back 270 = .ok (.invokestatic 135, 3) := by decide +kernel
theorem dX3_back_273 : decode cX3_back 273 = .ok (.ifCond .ne 6, 3) := by decide +kernel
theorem dX3_back_276 : decode cX3_back 276 = .ok (.bipush (-14), 2) := by decide +kernel
theorem dX3_back_278 : decode cX3_back 278 = .ok (.ireturn, 1) := by decide +kernel
theorem dX3_back_279 : decode cX3_back 279 = .ok (.aload_n 0, 1) := by decide +kernel
theorem dX3_back_280 : decode cX3_back 280 = .ok (.getfield 17, 3) := by decide +kernel
theorem dX3_back_283 : decode cX3_back 283 = .ok (.bipush 17, 2) := by decide +kernel
theorem dX3_back_285 : decode cX3_back 285 = .ok (.iload 4, 2) := by decide +kernel
theorem dX3_back_287 : decode cX3_back 287 = .ok (.imul, 1) := by decide +kernel
theorem dX3_back_288 : decode cX3_back 288 = .ok (.iload 5, 2) := by decide +kernel
theorem dX3_back_290 : decode cX3_back 290 = .ok (.iadd, 1) := by decide +kernel
theorem dX3_back_291 : decode cX3_back 291 = .ok (.aload_n 0, 1) := by decide +kernel
theorem dX3_back_292 : decode cX3_back 292 = .ok (.getfield 56, 3) := by decide +kernel
theorem dX3_back_295 : decode cX3_back 295 = .ok (.lload 6, 2) := by decide +kernel
theorem dX3_back_297 : decode cX3_back 297 = .ok (.l2i, 1) := by decide +kernel
theorem dX3_back_298 : decode cX3_back 298 = .ok (.iaload, 1) := by decide +kernel
theorem dX3_back_299 : decode cX3_back 299 = .ok (.i2l, 1) := by decide +kernel
theorem dX3_back_300 : decode cX3_back 300 = .ok (.lastore, 1) := by decide +kernel
theorem dX3_back_301 : decode cX3_back 301 = .ok (.goto 28, 3) := by decide +kernel
theorem dX3_back_304 : decode cX3_back 304 = .ok (.iload 5, 2) := by decide +kernel
theorem dX3_back_306 : decode cX3_back 306 = .ok (.ifCond .lt 23, 3) := by decide +kernel
theorem dX3_back_309 : decode cX3_back 309 = .ok (.aload_n 0, 1) := by decide +kernel
theorem dX3_back_310 : decode cX3_back 310 = .ok (.getfield 17, 3) := by decide +kernel
theorem dX3_back_313 : decode cX3_back 313 = .ok (.bipush 17, 2) := by decide +kernel
theorem dX3_back_315 : decode cX3_back 315 = .ok (.iload 4, 2) := by decide +kernel
theorem dX3_back_317 : decode cX3_back 317 = .ok (.imul, 1) := by decide +kernel
theorem dX3_back_318 : decode cX3_back 318 = .ok (.iload 5, 2) := by decide +kernel
theorem dX3_back_320 : decode cX3_back 320 = .ok (.iadd, 1) := by decide +kernel
theorem dX3_back_321 : decode cX3_back 321 = .ok (.iload 5, 2) := by decide +kernel
theorem dX3_back_323 : decode cX3_back 323 = .ok (.lload 6, 2) := by decide +kernel
theorem dX3_back_325 : decode cX3_back 325 = .ok (.invokestatic 131, 3) := by decide +kernel
theorem dX3_back_328 : decode cX3_back 328 = .ok (.lastore, 1) := by decide +kernel
theorem dX3_back_329 : decode cX3_back 329 = .ok (.iinc 3 1, 3) := by decide +kernel
theorem dX3_back_332 : decode cX3_back 332 = .ok (.goto (-192), 3) := by decide +kernel
theorem dX3_back_335 : decode cX3_back 335 = .ok (.aload_n 0, 1) := by decide +kernel
theorem dX3_back_336 : decode cX3_back 336 = .ok (.getfield 7, 3) := by decide +kernel
theorem dX3_back_339 : decode cX3_back 339 = .ok (.iload_n 1, 1) := by decide +kernel
theorem dX3_back_340 : decode cX3_back 340 = .ok (.aload_n 0, 1) := by decide +kernel
theorem dX3_back_341 : decode cX3_back 341 = .ok (.getfield 56, 3) := by decide +kernel
theorem dX3_back_344 : decode cX3_back 344 = .ok (.iconst 0, 1) := by decide +kernel
theorem dX3_back_345 : decode cX3_back 345 = .ok (.iaload, 1) := by decide +kernel
theorem dX3_back_346 : decode cX3_back 346 = .ok (.iastore, 1) := by decide +kernel
theorem dX3_back_347 : decode cX3_back 347 = .ok (.iload_n 2, 1) := by decide +kernel
theorem dX3_back_348 : decode cX3_back 348 = .ok (.ireturn, 1) := by decide +kernel
set_option maxRecDepth 20000 in
theorem ggX3_equal_X3_isSlot : GoodIn wsX3_equal wsX3_isSlot := goodIn_r _ [12, 13, 14, 15, 11, 16] (by decide +kernel) (by decide +kernel)
set_option maxRecDepth 20000 in
theorem gX3_equal_X3_isSlot : GoodIn wsX3_equal (va_wsS RX3 84 yX3_isSlot wsX3_isSlot) := goodIn_app (goodIn_of _ (by decide +kernel)) ggX3_equal_X3_isSlot
set_option maxRecDepth 20000 in
theorem ggX3_equal_X3_find : GoodIn wsX3_equal wsX3_find := goodIn_r _ [20, 21, 22, 2, 23, 24, 25, 26, 27, 11, 28, 29, 30, 31, 32, 33, 34, 35, 36, 37, 38, 39, 40, 41, 42, 43, 44, 45, 46, 4, 6, 8, 47, 48, 49, 50, 51, 52, 53, 54, 55, 56, 57, 58, 59, 60, 61, 62, 63, 64, 65, 66, 67, 68, 69] (by decide +kernel) (by decide +kernel)
set_option maxRecDepth 20000 in
theorem gX3_equal_X3_find : GoodIn wsX3_equal (wsV RX3 181 RX3 yX3_find wsX3_find) := goodIn_app (goodIn_of _ (by decide +kernel)) ggX3_equal_X3_find
theorem dX3_equal_0 : decode cX3_equal 0 = .ok (.iload_n 1, 1) := by decide +kernel
theorem dX3_equal_1 : decode cX3_equal 1 = .ok (.invokestatic 84, 3) := by decide +kernel
theorem dX3_equal_4 : decode cX3_equal 4 = .ok (.ifCond .eq 10, 3) := by decide +kernel
theorem dX3_equal_7 : decode cX3_equal 7 = .ok (.iload_n 2, 1) := by decide +kernel
theorem dX3_equal_8 : decode cX3_equal 8 = .ok (.invokestatic 84, 3) := by decide +kernel
theorem dX3_equal_11 : decode cX3_equal 11 = .ok (.ifCond .ne 5, 3) := by decide +kernel
theorem dX3_equal_14 : decode cX3_equal 14 = .ok (.iconst (-1), 1) := by decide +kernel
theorem dX3_equal_15 : decode cX3_equal 15 = .ok (.ireturn, 1) := by decide +kernel
theorem dX3_equal_16 : decode cX3_equal 16 = .ok (.aload_n 0, 1) := by decide +kernel
theorem dX3_equal_17 : decode cX3_equal 17 = .ok (.getfield 7, 3) := by decide +kernel
theorem dX3_equal_20 : decode cX3_equal 20 = .ok (.iload_n 1, 1) := by decide +kernel
theorem dX3_equal_21 : decode cX3_equal 21 = .ok (.iaload, 1) := by decide +kernel
theorem dX3_equal_22 : decode cX3_equal 22 = .ok (.iconst (-1), 1) := by decide +kernel
theorem dX3_equal_23 : decode cX3_equal 23 = .ok (.if_icmp .eq 13, 3) := by decide +kernel
theorem dX3_equal_26 : decode cX3_equal 26 = .ok (.aload_n 0, 1) := by decide +kernel
theorem dX3_equal_27 : decode cX3_equal 27 = .ok (.getfield 7, 3) := by decide +kernel
theorem dX3_equal_30 : decode cX3_equal 30 = .ok (.iload_n 2, 1) := by decide +kernel
theorem dX3_equal_31 : decode cX3_equal 31 = .ok (.iaload, 1) := by decide +kernel
theorem dX3_equal_32 : decode cX3_equal 32 = .ok (.iconst (-1), 1) := by decide +kernel
theorem dX3_equal_33 : decode cX3_equal 33 = .ok (.if_icmp .ne 24, 3) := by decide +kernel
theorem dX3_equal_36 : decode cX3_equal 36 = .ok (.aload_n 0, 1) := by decide +kernel
theorem dX3_equal_37 : decode cX3_equal 37 = .ok (.getfield 7, 3) := by decide +kernel
theorem dX3_equal_40 : decode cX3_equal 40 = .ok (.iload_n 1, 1) := by decide +kernel
theorem dX3_equal_41 : decode cX3_equal 41 = .ok (.iaload, 1) := by decide +kernel
theorem dX3_equal_42 : decode cX3_equal 42 = .ok (.aload_n 0, 1) := by decide +kernel
theorem dX3_equal_43 : decode cX3_equal 43 = .ok (.getfield 7, 3) := by decide +kernel
theorem dX3_equal_46 : decode cX3_equal 46 = .ok (.iload_n 2, 1) := by decide +kernel
theorem dX3_equal_47 : decode cX3_equal 47 = .ok (.iaload, 1) := by decide +kernel
theorem dX3_equal_48 : decode cX3_equal 48 = .ok (.if_icmp .ne 7, 3) := by decide +kernel
theorem dX3_equal_51 : decode cX3_equal 51 = .ok (.iconst 1, 1) := by decide +kernel
theorem dX3_equal_52 : decode cX3_equal 52 = .ok (.goto 4, 3) := by decide +kernel
theorem dX3_equal_55 : decode cX3_equal 55 = .ok (.iconst 0, 1) := by decide +kernel
theorem dX3_equal_56 : decode cX3_equal 56 = .ok (.ireturn, 1) := by decide +kernel
theorem dX3_equal_57 : decode cX3_equal 57 = .ok (.aload_n 0, 1) := by decide +kernel
theorem dX3_equal_58 : decode cX3_equal 58 = .ok (.aload_n 0, 1) := by decide +kernel
theorem dX3_equal_59 : decode cX3_equal 59 = .ok (.getfield 7, 3) := by decide +kernel
theorem dX3_equal_62 : decode cX3_equal 62 = .ok (.iload_n 1, 1) := by decide +kernel
theorem dX3_equal_63 : decode cX3_equal 63 = .ok (.iaload, 1) := by decide +kernel
theorem dX3_equal_64 : decode cX3_equal 64 = .ok (.invokevirtual 181, 3) := by decide +kernel
theorem dX3_equal_67 : decode cX3_equal 67 = .ok (.ifCond .ne 6, 3) := by decide +kernel
theorem dX3_equal_70 : decode cX3_equal 70 = .ok (.bipush (-3), 2) := by decide +kernel
theorem dX3_equal_72 : decode cX3_equal 72 = .ok (.ireturn, 1) := by decide +kernel
theorem dX3_equal_73 : decode cX3_equal 73 = .ok (.aload_n 0, 1) := by decide +kernel
theorem dX3_equal_74 : decode cX3_equal 74 = .ok (.getfield 160, 3) := by decide +kernel
theorem dX3_equal_77 : decode cX3_equal 77 = .ok (.istore_n 3, 1) := by decide +kernel
theorem dX3_equal_78 : decode cX3_equal 78 = .ok (.iconst 0, 1) := by decide +kernel
theorem dX3_equal_79 : decode cX3_equal 79 = .ok (.istore 4, 2) := by decide +kernel
theorem dX3_equal_81 : decode cX3_equal 81 = .ok (.iload 4, 2) := by decide +kernel
theorem dX3_equal_83 : decode cX3_equal 83 = .ok (.iload_n 3, 1) := by decide +kernel
theorem dX3_equal_84 : decode cX3_equal 84 = .ok (.if_icmp .ge 51, 3) := by decide +kernel
theorem dX3_equal_87 : decode cX3_equal 87 = .ok (.aload_n 0, 1) := by decide +kernel
theorem dX3_equal_88 : decode cX3_equal 88 = .ok (.getfield 59, 3) := by decide +kernel
theorem dX3_equal_91 : decode cX3_equal 91 = .ok (.iload 4, 2) := by decide +kernel
theorem dX3_equal_93 : decode cX3_equal 93 = .ok (.aload_n 0, 1) := by decide +kernel
theorem dX3_equal_94 : decode cX3_equal 94 = .ok (.getfield 47, 3) := by decide +kernel
theorem dX3_equal_97 : decode cX3_equal 97 = .ok (.iload 4, 2) := by decide +kernel
theorem dX3_equal_99 : decode cX3_equal 99 = .ok (.iaload, 1) := by decide +kernel
theorem dX3_equal_100 : decode cX3_equal 100 = .ok (.iastore, 1) := by decide +kernel
theorem dX3_equal_101 : decode cX3_equal 101 = .ok (.aload_n 0, 1) := by decide +kernel
theorem dX3_equal_102 : decode cX3_equal 102 = .ok (.getfield 62, 3) := by decide +kernel
theorem dX3_equal_105 : decode cX3_equal 105 = .ok (.iload 4, 2) := by decide +kernel
theorem dX3_equal_107 : decode cX3_equal 107 = .ok (.aload_n 0, 1) := by decide +kernel
theorem dX3_equal_108 : decode cX3_equal 108 = .ok (.getfield 50, 3) := by decide +kernel
theorem dX3_equal_111 : decode cX3_equal 111 = .ok (.iload 4, 2) := by decide +kernel
theorem dX3_equal_113 : decode cX3_equal 113 = .ok (.iaload, 1) := by decide +kernel
theorem dX3_equal_114 : decode cX3_equal 114 = .ok (.iastore, 1) := by decide +kernel
theorem dX3_equal_115 : decode cX3_equal 115 = .ok (.aload_n 0, 1) := by decide +kernel
theorem dX3_equal_116 : decode cX3_equal 116 = .ok (.getfield 65, 3) := by decide +kernel
theorem dX3_equal_119 : decode cX3_equal 119 = .ok (.iload 4, 2) := by decide +kernel
theorem dX3_equal_121 : decode cX3_equal 121 = .ok (.aload_n 0, 1) := by decide +kernel
theorem dX3_equal_122 : decode cX3_equal 122 = .ok (.getfield 53, 3) := by decide +kernel
theorem dX3_equal_125 : decode cX3_equal 125 = .ok (.iload 4, 2) := by decide +kernel
theorem dX3_equal_127 : decode cX3_equal 127 = .ok (.laload, 1) := by decide +kernel
theorem dX3_equal_128 : decode cX3_equal 128 = .ok (.lastore, 1) := by decide +kernel
theorem dX3_equal_129 : decode cX3_equal 129 = .ok (.iinc 4 1, 3) := by decide +kernel
theorem dX3_equal_132 : decode cX3_equal 132 = .ok (.goto (-51), 3) := by decide +kernel
theorem dX3_equal_135 : decode cX3_equal 135 = .ok (.aload_n 0, 1) := by decide +kernel
theorem dX3_equal_136 : decode cX3_equal 136 = .ok (.aload_n 0, 1) := by decide +kernel
theorem dX3_equal_137 : decode cX3_equal 137 = .ok (.getfield 7, 3) := by decide +kernel
theorem dX3_equal_140 : decode cX3_equal 140 = .ok (.iload_n 2, 1) := by decide +kernel
theorem dX3_equal_141 : decode cX3_equal 141 = .ok (.iaload, 1) := by decide +kernel
theorem dX3_equal_142 : decode cX3_equal 142 = .ok (.invokevirtual 181, 3) := by decide +kernel
theorem dX3_equal_145 : decode cX3_equal 145 = .ok (.ifCond .ne 6, 3) := by decide +kernel
theorem dX3_equal_148 : decode cX3_equal 148 = .ok (.bipush (-3), 2) := by decide +kernel
theorem dX3_equal_150 : decode cX3_equal 150 = .ok (.ireturn, 1) := by decide +kernel
theorem dX3_equal_151 : decode cX3_equal 151 = .ok (.iload_n 3, 1) := by decide +kernel
theorem dX3_equal_152 : decode cX3_equal 152 = .ok (.aload_n 0, 1) := by decide +kernel
theorem dX3_equal_153 : decode cX3_equal 153 = .ok (.getfield 160, 3) := by decide +kernel
theorem dX3_equal_156 : decode cX3_equal 156 = .ok (.if_icmp .ne 7, 3) := by decide +kernel
theorem dX3_equal_159 : decode cX3_equal 159 = .ok (.iconst 1, 1) := by decide +kernel
theorem dX3_equal_160 : decode cX3_equal 160 = .ok (.goto 4, 3) := by decide +kernel
theorem dX3_equal_163 : decode cX3_equal 163 = .ok (.iconst 0, 1) := by decide +kernel
theorem dX3_equal_164 : decode cX3_equal 164 = .ok (.istore 4, 2) := by decide +kernel
theorem dX3_equal_166 : decode cX3_equal 166 = .ok (.iconst 0, 1) := by decide +kernel
theorem dX3_equal_167 : decode cX3_equal 167 = .ok (.istore 5, 2) := by decide +kernel
theorem dX3_equal_169 : decode cX3_equal 169 = .ok (.iload 5, 2) := by decide +kernel
theorem dX3_equal_171 : decode cX3_equal 171 = .ok (.iload_n 3, 1) := by decide +kernel
theorem dX3_equal_172 : decode cX3_equal 172 = .ok (.if_icmp .ge 73, 3) := by decide +kernel
theorem dX3_equal_175 : decode cX3_equal 175 = .ok (.iload 4, 2) := by decide +kernel
theorem dX3_equal_177 : decode cX3_equal 177 = .ok (.ifCond .eq 68, 3) := by decide +kernel
theorem dX3_equal_180 : decode cX3_equal 180 = .ok (.aload_n 0, 1) := by decide +kernel
theorem dX3_equal_181 : decode cX3_equal 181 = .ok (.getfield 59, 3) := by decide +kernel
theorem dX3_equal_184 : decode cX3_equal 184 = .ok (.iload 5, 2) := by decide +kernel
theorem dX3_equal_186 : decode cX3_equal 186 = .ok (.iaload, 1) := by decide +kernel
theorem dX3_equal_187 : decode cX3_equal 187 = .ok (.aload_n 0, 1) := by decide +kernel
theorem dX3_equal_188 : decode cX3_equal 188 = .ok (.getfield 47, 3) := by decide +kernel
theorem dX3_equal_191 : decode cX3_equal 191 = .ok (.iload 5, 2) := by decide +kernel
theorem dX3_equal_193 : decode cX3_equal 193 = .ok (.iaload, 1) := by decide +kernel
theorem dX3_equal_194 : decode cX3_equal 194 = .ok (.if_icmp .ne 42, 3) := by decide +kernel
theorem dX3_equal_197 : decode cX3_equal 197 = .ok (.aload_n 0, 1) := by decide +kernel
theorem dX3_equal_198 : decode cX3_equal 198 = .ok (.getfield 62, 3) := by decide +kernel
theorem dX3_equal_201 : decode cX3_equal 201 = .ok (.iload 5, 2) := by decide +kernel
theorem dX3_equal_203 : decode cX3_equal 203 = .ok (.iaload, 1) := by decide +kernel
theorem dX3_equal_204 : decode cX3_equal 204 = .ok (.aload_n 0, 1) := by decide +kernel
theorem dX3_equal_205 : decode cX3_equal 205 = .ok (.getfield 50, 3) := by decide +kernel
theorem dX3_equal_208 : decode cX3_equal 208 = .ok (.iload 5, 2) := by decide +kernel
theorem dX3_equal_210 : decode cX3_equal 210 = .ok (.iaload, 1) := by decide +kernel
theorem dX3_equal_211 : decode cX3_equal 211 = .ok (.if_icmp .ne 25, 3) := by decide +kernel
theorem dX3_equal_214 : decode cX3_equal 214 = .ok (.aload_n 0, 1) := by decide +kernel
theorem dX3_equal_215 : decode cX3_equal 215 = .ok (.getfield 65, 3) := by decide +kernel
theorem dX3_equal_218 : decode cX3_equal 218 = .ok (.iload 5, 2) := by decide +kernel
theorem dX3_equal_220 : decode cX3_equal 220 = .ok (.laload, 1) := by decide +kernel
theorem dX3_equal_221 : decode cX3_equal 221 = .ok (.aload_n 0, 1) := by decide +kernel
theorem dX3_equal_222 : decode cX3_equal 222 = .ok (.getfield 53, 3) := by decide +kernel
theorem dX3_equal_225 : decode cX3_equal 225 = .ok (.iload 5, 2) := by decide +kernel
theorem dX3_equal_227 : decode cX3_equal 227 = .ok (.laload, 1) := by decide +kernel
theorem dX3_equal_228 : decode cX3_equal 228 = .ok (.lcmp, 1) := by decide +kernel
theorem dX3_equal_229 : decode cX3_equal 229 = .ok (.ifCond .ne 7, 3) := by decide +kernel
theorem dX3_equal_232 : decode cX3_equal 232 = .ok (.iconst 1, 1) := by decide +kernel
theorem dX3_equal_233 : decode cX3_equal 233 = .ok (.goto 4, 3) := by decide +kernel
theorem dX3_equal_236 : decode cX3_equal 236 = .ok (.iconst 0, 1) := by decide +kernel
theorem dX3_equal_237 : decode cX3_equal 237 = .ok (.istore 4, 2) := by decide +kernel
theorem dX3_equal_239 : decode cX3_equal 239 = .ok (.iinc 5 1, 3) := by decide +kernel
theorem dX3_equal_242 : decode cX3_equal 242 = .ok (.goto (-73), 3) := by decide +kernel
theorem dX3_equal_245 : decode cX3_equal 245 = .ok (.iload 4, 2) := by decide +kernel
theorem dX3_equal_247 : decode cX3_equal 247 = .ok (.ifCond .eq 7, 3) := by decide +kernel
theorem dX3_equal_250 : decode cX3_equal 250 = .ok (.iconst 1, 1) := by decide +kernel
theorem dX3_equal_251 : decode cX3_equal 251 = .ok (.goto 4, 3) := by decide +kernel
theorem dX3_equal_254 : decode cX3_equal 254 = .ok (.iconst 0, 1) := by decide +kernel
theorem dX3_equal_255 : decode cX3_equal 255 = .ok (.ireturn, 1) := by decide +kernel
theorem dX3_isChanged_0 : decode cX3_isChanged 0 = .ok (.iload_n 3, 1) := by decide +kernel
theorem dX3_isChanged_1 : decode cX3_isChanged 1 = .ok (.bipush 9, 2) := by decide +kernel
theorem dX3_isChanged_3 : decode cX3_isChanged 3 = .ok (.if_icmp .eq 35, 3) := by decide +kernel
theorem dX3_isChanged_6 : decode cX3_isChanged 6 = .ok (.aload_n 0, 1) := by decide +kernel
theorem dX3_isChanged_7 : decode cX3_isChanged 7 = .ok (.getfield 17, 3) := by decide +kernel
theorem dX3_isChanged_10 : decode cX3_isChanged 10 = .ok (.bipush 17, 2) := by decide +kernel
theorem dX3_isChanged_12 : decode cX3_isChanged 12 = .ok (.iload_n 1, 1) := by decide +kernel
theorem dX3_isChanged_13 : decode cX3_isChanged 13 = .ok (.imul, 1) := by decide +kernel
theorem dX3_isChanged_14 : decode cX3_isChanged 14 = .ok (.iload_n 3, 1) := by decide +kernel
theorem dX3_isChanged_15 : decode cX3_isChanged 15 = .ok (.iadd, 1) := by decide +kernel
theorem dX3_isChanged_16 : decode cX3_isChanged 16 = .ok (.laload, 1) := by decide +kernel
theorem dX3_isChanged_17 : decode cX3_isChanged 17 = .ok (.aload_n 0, 1) := by decide +kernel
theorem dX3_isChanged_18 : decode cX3_isChanged 18 = .ok (.getfield 17, 3) := by decide +kernel
theorem dX3_isChanged_21 : decode cX3_isChanged 21 = .ok (.bipush 17, 2) := by decide +kernel
theorem dX3_isChanged_23 : decode cX3_isChanged 23 = .ok (.iload_n 2, 1) := by decide +kernel
theorem dX3_isChanged_24 : decode cX3_isChanged 24 = .ok (.imul, 1) := by decide +kernel
theorem dX3_isChanged_25 : decode cX3_isChanged 25 = .ok (.iload_n 3, 1) := by decide +kernel
theorem dX3_isChanged_26 : decode cX3_isChanged 26 = .ok (.iadd, 1) := by decide +kernel
theorem dX3_isChanged_27 : decode cX3_isChanged 27 = .ok (.laload, 1) := by decide +kernel
theorem dX3_isChanged_28 : decode cX3_isChanged 28 = .ok (.lcmp, 1) := by decide +kernel
theorem dX3_isChanged_29 : decode cX3_isChanged 29 = .ok (.ifCond .eq 7, 3) := by decide +kernel
theorem dX3_isChanged_32 : decode cX3_isChanged 32 = .ok (.iconst 1, 1) := by decide +kernel
theorem dX3_isChanged_33 : decode cX3_isChanged 33 = .ok (.goto 4, 3) := by decide +kernel
theorem dX3_isChanged_36 : decode cX3_isChanged 36 = .ok (.iconst 0, 1) := by decide +kernel
theorem dX3_isChanged_37 : decode cX3_isChanged 37 = .ok (.ireturn, 1) := by decide +kernel
theorem dX3_isChanged_38 : decode cX3_isChanged 38 = .ok (.aload_n 0, 1) := by decide +kernel
theorem dX3_isChanged_39 : decode cX3_isChanged 39 = .ok (.getfield 21, 3) := by decide +kernel
theorem dX3_isChanged_42 : decode cX3_isChanged 42 = .ok (.iload_n 1, 1) := by decide +kernel
theorem dX3_isChanged_43 : decode cX3_isChanged 43 = .ok (.iaload, 1) := by decide +kernel
theorem dX3_isChanged_44 : decode cX3_isChanged 44 = .ok (.aload_n 0, 1) := by decide +kernel
theorem dX3_isChanged_45 : decode cX3_isChanged 45 = .ok (.getfield 21, 3) := by decide +kernel
theorem dX3_isChanged_48 : decode cX3_isChanged 48 = .ok (.iload_n 2, 1) := by decide +kernel
theorem dX3_isChanged_49 : decode cX3_isChanged 49 = .ok (.iaload, 1) := by decide +kernel
theorem dX3_isChanged_50 : decode cX3_isChanged 50 = .ok (.if_icmp .eq 7, 3) := by decide +kernel
theorem dX3_isChanged_53 : decode cX3_isChanged 53 = .ok (.iconst 1, 1) := by decide +kernel
theorem dX3_isChanged_54 : decode cX3_isChanged 54 = .ok (.goto 4, 3) := by decide +kernel
theorem dX3_isChanged_57 : decode cX3_isChanged 57 = .ok (.iconst 0, 1) := by decide +kernel
theorem dX3_isChanged_58 : decode cX3_isChanged 58 = .ok (.istore 4, 2) := by decide +kernel
theorem dX3_isChanged_60 : decode cX3_isChanged 60 = .ok (.iconst 0, 1) := by decide +kernel
theorem dX3_isChanged_61 : decode cX3_isChanged 61 = .ok (.istore 5, 2) := by decide +kernel
theorem dX3_isChanged_63 : decode cX3_isChanged 63 = .ok (.iload 5, 2) := by decide +kernel
theorem dX3_isChanged_65 : decode cX3_isChanged 65 = .ok (.aload_n 0, 1) := by decide +kernel
theorem dX3_isChanged_66 : decode cX3_isChanged 66 = .ok (.getfield 21, 3) := by decide +kernel
theorem dX3_isChanged_69 : decode cX3_isChanged 69 = .ok (.iload_n 1, 1) := by decide +kernel
theorem dX3_isChanged_70 : decode cX3_isChanged 70 = .ok (.iaload, 1) := by decide +kernel
theorem dX3_isChanged_71 : decode cX3_isChanged 71 = .ok (.if_icmp .ge 48, 3) := by decide +kernel
theorem dX3_isChanged_74 : decode cX3_isChanged 74 = .ok (.iload 4, 2) := by decide +kernel
theorem dX3_isChanged_76 : decode cX3_isChanged 76 = .ok (.ifCond .ne 43, 3) := by decide +kernel
theorem dX3_isChanged_79 : decode cX3_isChanged 79 = .ok (.aload_n 0, 1) := by decide +kernel
theorem dX3_isChanged_80 : decode cX3_isChanged 80 = .ok (.getfield 25, 3) := by decide +kernel
theorem dX3_isChanged_83 : decode cX3_isChanged 83 = .ok (.bipush 20, 2) := by decide +kernel
theorem dX3_isChanged_85 : decode cX3_isChanged 85 = .ok (.iload_n 1, 1) := by decide +kernel
theorem dX3_isChanged_86 : decode cX3_isChanged 86 = .ok (.imul, 1) := by decide +kernel
theorem dX3_isChanged_87 : decode cX3_isChanged 87 = .ok (.iload 5, 2) := by decide +kernel
theorem dX3_isChanged_89 : decode cX3_isChanged 89 = .ok (.iadd, 1) := by decide +kernel
theorem dX3_isChanged_90 : decode cX3_isChanged 90 = .ok (.iaload, 1) := by decide +kernel
theorem dX3_isChanged_91 : decode cX3_isChanged 91 = .ok (.aload_n 0, 1) := by decide +kernel
theorem dX3_isChanged_92 : decode cX3_isChanged 92 = .ok (.getfield 25, 3) := by decide +kernel
theorem dX3_isChanged_95 : decode cX3_isChanged 95 = .ok (.bipush 20, 2) := by decide +kernel
theorem dX3_isChanged_97 : decode cX3_isChanged 97 = .ok (.iload_n 2, 1) := by decide +kernel
theorem dX3_isChanged_98 : decode cX3_isChanged 98 = .ok (.imul, 1) := by decide +kernel
theorem dX3_isChanged_99 : decode cX3_isChanged 99 = .ok (.iload 5, 2) := by decide +kernel
theorem dX3_isChanged_101 : decode cX3_isChanged 101 = .ok (.iadd, 1) := by decide +kernel
theorem dX3_isChanged_102 : decode cX3_isChanged 102 = .ok (.iaload, 1) := by decide +kernel
theorem dX3_isChanged_103 : decode cX3_isChanged 103 = .ok (.if_icmp .eq 7, 3) := by decide +kernel
theorem dX3_isChanged_106 : decode cX3_isChanged 106 = .ok (.iconst 1, 1) := by decide +kernel
theorem dX3_isChanged_107 : decode cX3_isChanged 107 = .ok (.goto 4, 3) := by decide +kernel
theorem dX3_isChanged_110 : decode cX3_isChanged 110 = .ok (.iconst 0, 1) := by decide +kernel
theorem dX3_isChanged_111 : decode cX3_isChanged 111 = .ok (.istore 4, 2) := by decide +kernel
theorem dX3_isChanged_113 : decode cX3_isChanged 113 = .ok (.iinc 5 1, 3) := by decide +kernel
theorem dX3_isChanged_116 : decode cX3_isChanged 116 = .ok (.goto (-53), 3) := by decide +kernel
theorem dX3_isChanged_119 : decode cX3_isChanged 119 = .ok (.iload 4, 2) := by decide +kernel
theorem dX3_isChanged_121 : decode cX3_isChanged 121 = .ok (.ireturn, 1) := by decide +kernel
set_option maxRecDepth 20000 in
theorem ggX3_changed_X3_isSlot : GoodIn wsX3_changed wsX3_isSlot := goodIn_r _ [6, 7, 8, 9, 5, 10] (by decide +kernel) (by decide +kernel)
set_option maxRecDepth 20000 in
theorem gX3_changed_X3_isSlot : GoodIn wsX3_changed (va_wsS RX3 84 yX3_isSlot wsX3_isSlot) := goodIn_app (goodIn_of _ (by decide +kernel)) ggX3_changed_X3_isSlot
set_option maxRecDepth 20000 in
theorem ggX3_changed_X3_has : GoodIn wsX3_changed wsX3_has := goodIn_r _ [13] (by decide +kernel) (by decide +kernel)
set_option maxRecDepth 20000 in
theorem gX3_changed_X3_has : GoodIn wsX3_changed (va_wsS RX3 78 yX3_has wsX3_has) := goodIn_app (goodIn_of _ (by decide +kernel)) ggX3_changed_X3_has
set_option maxRecDepth 20000 in
theorem ggX3_changed_X3_isChanged : GoodIn wsX3_changed wsX3_isChanged := goodIn_r _ [17, 18, 19, 20, 21, 22, 23, 24, 25, 26, 27, 28, 29, 30, 31, 32, 33, 34, 35, 36, 37, 38, 39, 40, 41, 42, 43] (by decide +kernel) (by decide +kernel)
set_option maxRecDepth 20000 in
theorem gX3_changed_X3_isChanged : GoodIn wsX3_changed (wsV RX3 191 RX3 yX3_isChanged wsX3_isChanged) := goodIn_app (goodIn_of _ (by decide +kernel)) ggX3_changed_X3_isChanged
theorem dX3_changed_0 : decode cX3_changed 0 = .ok (.iload_n 1, 1) := by decide +kernel
theorem dX3_changed_1 : decode cX3_changed 1 = .ok (.invokestatic 84, 3) := by decide +kernel
theorem dX3_changed_4 : decode cX3_changed 4 = .ok (.ifCond .eq 14, 3) := by decide +kernel
theorem dX3_changed_7 : decode cX3_changed 7 = .ok (.iload_n 2, 1) := by decide +kernel
theorem dX3_changed_8 : decode cX3_changed 8 = .ok (.invokestatic 84, 3) := by decide +kernel
theorem dX3_changed_11 : decode cX3_changed 11 = .ok (.ifCond .eq 7, 3) := by decide +kernel
theorem dX3_changed_14 : decode cX3_changed 14 = .ok (.iload_n 3, 1) := by decide +kernel
theorem dX3_changed_15 : decode cX3_changed 15 = .ok (.ifCond .ge 5, 3) := by decide +kernel
theorem dX3_changed_18 : decode cX3_changed 18 = .ok (.iconst (-1), 1) := by decide +kernel
theorem dX3_changed_19 : decode cX3_changed 19 = .ok (.ireturn, 1) := by decide +kernel
theorem dX3_changed_20 : decode cX3_changed 20 = .ok (.aload_n 0, 1) := by decide +kernel
theorem dX3_changed_21 : decode cX3_changed 21 = .ok (.getfield 7, 3) := by decide +kernel
theorem dX3_changed_24 : decode cX3_changed 24 = .ok (.iload_n 1, 1) := by decide +kernel
theorem dX3_changed_25 : decode cX3_changed 25 = .ok (.iaload, 1) := by decide +kernel
theorem dX3_changed_26 : decode cX3_changed 26 = .ok (.istore 4, 2) := by decide +kernel
theorem dX3_changed_28 : decode cX3_changed 28 = .ok (.aload_n 0, 1) := by decide +kernel
theorem dX3_changed_29 : decode cX3_changed 29 = .ok (.getfield 7, 3) := by decide +kernel
theorem dX3_changed_32 : decode cX3_changed 32 = .ok (.iload_n 2, 1) := by decide +kernel
theorem dX3_changed_33 : decode cX3_changed 33 = .ok (.iaload, 1) := by decide +kernel
theorem dX3_changed_34 : decode cX3_changed 34 = .ok (.istore 5, 2) := by decide +kernel
theorem dX3_changed_36 : decode cX3_changed 36 = .ok (.iload 4, 2) := by decide +kernel
theorem dX3_changed_38 : decode cX3_changed 38 = .ok (.iconst (-1), 1) := by decide +kernel
theorem dX3_changed_39 : decode cX3_changed 39 = .ok (.if_icmp .eq 9, 3) := by decide +kernel
theorem dX3_changed_42 : decode cX3_changed 42 = .ok (.iload 5, 2) := by decide +kernel
theorem dX3_changed_44 : decode cX3_changed 44 = .ok (.iconst (-1), 1) := by decide +kernel
theorem dX3_changed_45 : decode cX3_changed 45 = .ok (.if_icmp .ne 6, 3) := by decide +kernel
theorem dX3_changed_48 : decode cX3_changed 48 = .ok (.bipush (-11), 2) := by decide +kernel
theorem dX3_changed_50 : decode cX3_changed 50 = .ok (.ireturn, 1) := by decide +kernel
theorem dX3_changed_51 : decode cX3_changed 51 = .ok (.aload_n 0, 1) := by decide +kernel
theorem dX3_changed_52 : decode cX3_changed 52 = .ok (.getfield 13, 3) := by decide +kernel
theorem dX3_changed_55 : decode cX3_changed 55 = .ok (.iload 4, 2) := by decide +kernel
theorem dX3_changed_57 : decode cX3_changed 57 = .ok (.iaload, 1) := by decide +kernel
theorem dX3_changed_58 : decode cX3_changed 58 = .ok (.aload_n 0, 1) := by decide +kernel
theorem dX3_changed_59 : decode cX3_changed 59 = .ok (.getfield 13, 3) := by decide +kernel
theorem dX3_changed_62 : decode cX3_changed 62 = .ok (.iload 5, 2) := by decide +kernel
theorem dX3_changed_64 : decode cX3_changed 64 = .ok (.iaload, 1) := by decide +kernel
theorem dX3_changed_65 : decode cX3_changed 65 = .ok (.if_icmp .eq 6, 3) := by decide +kernel
theorem dX3_changed_68 : decode cX3_changed 68 = .ok (.bipush (-14), 2) := by decide +kernel
theorem dX3_changed_70 : decode cX3_changed 70 = .ok (.ireturn, 1) := by decide +kernel
theorem dX3_changed_71 : decode cX3_changed 71 = .ok (.iload_n 3, 1) := by decide +kernel
theorem dX3_changed_72 : decode cX3_changed 72 = .ok (.istore 6, 2) := by decide +kernel
theorem dX3_changed_74 : decode cX3_changed 74 = .ok (.iconst 0, 1) := by decide +kernel
theorem dX3_changed_75 : decode cX3_changed 75 = .ok (.istore 7, 2) := by decide +kernel
theorem dX3_changed_77 : decode cX3_changed 77 = .ok (.iload 7, 2) := by decide +kernel
theorem dX3_changed_79 : decode cX3_changed 79 = .ok (.bipush 17, 2) := by decide +kernel
theorem dX3_changed_81 : decode cX3_changed 81 = .ok (.if_icmp .ge 48, 3) := by decide +kernel
theorem dX3_changed_84 : decode cX3_changed 84 = .ok (.aload_n 0, 1) := by decide +kernel
theorem dX3_changed_85 : decode cX3_changed 85 = .ok (.getfield 13, 3) := by decide +kernel
theorem dX3_changed_88 : decode cX3_changed 88 = .ok (.iload 4, 2) := by decide +kernel
theorem dX3_changed_90 : decode cX3_changed 90 = .ok (.iaload, 1) := by decide +kernel
theorem dX3_changed_91 : decode cX3_changed 91 = .ok (.iload 7, 2) := by decide +kernel
theorem dX3_changed_93 : decode cX3_changed 93 = .ok (.invokestatic 78, 3) := by decide +kernel
theorem dX3_changed_96 : decode cX3_changed 96 = .ok (.ifCond .eq 27, 3) := by decide +kernel
theorem dX3_changed_99 : decode cX3_changed 99 = .ok (.aload_n 0, 1) := by decide +kernel
theorem dX3_changed_100 : decode cX3_changed 100 = .ok (.iload 4, 2) := by decide +kernel
theorem dX3_changed_102 : decode cX3_changed 102 = .ok (.iload 5, 2) := by decide +kernel
theorem dX3_changed_104 : decode cX3_changed 104 = .ok (.iload 7, 2) := by decide +kernel
theorem dX3_changed_106 : decode cX3_changed 106 = .ok (.invokevirtual 191, 3) := by decide +kernel
theorem dX3_changed_109 : decode cX3_changed 109 = .ok (.ifCond .eq 14, 3) := by decide +kernel
theorem dX3_changed_112 : decode cX3_changed 112 = .ok (.iload 6, 2) := by decide +kernel
theorem dX3_changed_114 : decode cX3_changed 114 = .ok (.ifCond .ne 6, 3) := by decide +kernel
theorem dX3_changed_117 : decode cX3_changed 117 = .ok (.iload 7, 2) := by decide +kernel
theorem dX3_changed_119 : decode cX3_changed 119 = .ok (.ireturn, 1) := by decide +kernel
theorem dX3_changed_120 : decode cX3_changed 120 = .ok (.iinc 6 (-1), 3) := by decide +kernel
theorem dX3_changed_123 : decode cX3_changed 123 = .ok (.iinc 7 1, 3) := by decide +kernel
theorem dX3_changed_126 : decode cX3_changed 126 = .ok (.goto (-49), 3) := by decide +kernel
theorem dX3_changed_129 : decode cX3_changed 129 = .ok (.bipush (-4), 2) := by decide +kernel
theorem dX3_changed_131 : decode cX3_changed 131 = .ok (.ireturn, 1) := by decide +kernel
end
section
set_option maxRecDepth 20000 in
theorem ggL_law_X2_init : GoodIn wsL_law wsX2_init := goodIn_r _ [9, 10, 11, 12, 13, 14, 15, 16, 17, 18, 19, 20, 21, 22, 23, 24, 25, 26, 27, 28, 29, 30, 527, 528, 529, 530, 531, 532, 533, 534, 535, 559, 560, 561, 562] (by decide +kernel) (by decide +kernel)
set_option maxRecDepth 20000 in
theorem gL_law_X2_init : GoodIn wsL_law (wsX2_init) := ggL_law_X2_init
set_option maxRecDepth 20000 in
theorem ggL_law_X3_init : GoodIn wsL_law wsX3_init := goodIn_r _ [33, 34, 11, 12, 26, 35, 36, 37, 29, 38, 39, 40, 41, 42, 43, 44, 45, 46, 47, 48, 49, 50, 51, 52, 53, 54, 55, 536, 537, 538, 539, 540, 541, 542, 543, 544, 545, 546, 547, 548, 549, 550, 551, 552, 553, 554, 555, 556, 557, 558] (by decide +kernel) (by decide +kernel)
set_option maxRecDepth 20000 in
theorem gL_law_X3_init : GoodIn wsL_law (wsX3_init) := ggL_law_X3_init
set_option maxRecDepth 20000 in
theorem ggL_law_X2_make : GoodIn wsL_law wsX2_make := goodIn_r _ [59, 14, 13, 60, 61, 62, 63, 2, 64, 65, 66, 67, 68, 69, 70, 71, 11, 12, 29, 72, 73, 527, 528, 529, 530, 531, 532, 533, 534, 535, 563, 564, 565, 566, 567, 568] (by decide +kernel) (by decide +kernel)
set_option maxRecDepth 20000 in
theorem gL_law_X2_make : GoodIn wsL_law (wsV RL 13 RX2 yX2_make wsX2_make) := goodIn_app (goodIn_of _ (by decide +kernel)) ggL_law_X2_make
set_option maxRecDepth 20000 in
theorem ggL_law_X3_make : GoodIn wsL_law wsX3_make := goodIn_r _ [77, 78, 79, 35, 80, 81, 5, 82, 83, 84, 85, 86, 87, 88, 89, 90, 43, 44, 36, 38, 91, 92, 93, 94, 95, 96, 97, 98, 99, 100, 101, 39, 536, 537, 538, 539, 540, 541, 542, 543, 544, 545, 546, 547, 548, 549, 550, 551, 552, 553, 554, 555, 556, 557, 558] (by decide +kernel) (by decide +kernel)
set_option maxRecDepth 20000 in
theorem gL_law_X3_make : GoodIn wsL_law (wsV RL 17 RX3 yX3_make wsX3_make) := goodIn_app (goodIn_of _ (by decide +kernel)) ggL_law_X3_make
set_option maxRecDepth 20000 in
theorem ggL_law_X2_clear : GoodIn wsL_law wsX2_clear := goodIn_r _ [105, 14, 62, 63, 2, 64, 527, 528, 529, 530, 531, 532, 533, 534, 535] (by decide +kernel) (by decide +kernel)
set_option maxRecDepth 20000 in
theorem gL_law_X2_clear : GoodIn wsL_law (wsV RL 18 RX2 yX2_clear wsX2_clear) := goodIn_app (goodIn_of _ (by decide +kernel)) ggL_law_X2_clear
set_option maxRecDepth 20000 in
theorem ggL_law_X3_clear : GoodIn wsL_law wsX3_clear := goodIn_r _ [109, 35, 80, 81, 5, 82, 83, 84, 85, 86, 536, 537, 538, 539, 540, 541, 542, 543, 544, 545, 546, 547, 548, 549, 550, 551, 552, 553, 554, 555, 556, 557, 558] (by decide +kernel) (by decide +kernel)
set_option maxRecDepth 20000 in
theorem gL_law_X3_clear : GoodIn wsL_law (wsV RL 22 RX3 yX3_clear wsX3_clear) := goodIn_app (goodIn_of _ (by decide +kernel)) ggL_law_X3_clear
set_option maxRecDepth 20000 in
theorem ggL_law_X2_share : GoodIn wsL_law wsX2_share := goodIn_r _ [113, 14, 62, 63, 2, 64, 527, 528, 529, 530, 531, 532, 533, 534, 535] (by decide +kernel) (by decide +kernel)
set_option maxRecDepth 20000 in
theorem gL_law_X2_share : GoodIn wsL_law (wsV RL 23 RX2 yX2_share wsX2_share) := goodIn_app (goodIn_of _ (by decide +kernel)) ggL_law_X2_share
set_option maxRecDepth 20000 in
theorem ggL_law_X3_share : GoodIn wsL_law wsX3_share := goodIn_r _ [117, 35, 80, 81, 5, 82, 83, 84, 85, 86, 536, 537, 538, 539, 540, 541, 542, 543, 544, 545, 546, 547, 548, 549, 550, 551, 552, 553, 554, 555, 556, 557, 558] (by decide +kernel) (by decide +kernel)
set_option maxRecDepth 20000 in
theorem gL_law_X3_share : GoodIn wsL_law (wsV RL 27 RX3 yX3_share wsX3_share) := goodIn_app (goodIn_of _ (by decide +kernel)) ggL_law_X3_share
set_option maxRecDepth 20000 in
theorem ggL_law_X2_same : GoodIn wsL_law wsX2_same := goodIn_r _ [121, 14, 62, 63, 2, 64, 527, 528, 529, 530, 531, 532, 533, 534, 535] (by decide +kernel) (by decide +kernel)
set_option maxRecDepth 20000 in
theorem gL_law_X2_same : GoodIn wsL_law (wsV RL 28 RX2 yX2_same wsX2_same) := goodIn_app (goodIn_of _ (by decide +kernel)) ggL_law_X2_same
set_option maxRecDepth 20000 in
theorem ggL_law_X3_same : GoodIn wsL_law wsX3_same := goodIn_r _ [125, 35, 80, 81, 5, 82, 83, 84, 85, 86, 536, 537, 538, 539, 540, 541, 542, 543, 544, 545, 546, 547, 548, 549, 550, 551, 552, 553, 554, 555, 556, 557, 558] (by decide +kernel) (by decide +kernel)
set_option maxRecDepth 20000 in
theorem gL_law_X3_same : GoodIn wsL_law (wsV RL 31 RX3 yX3_same wsX3_same) := goodIn_app (goodIn_of _ (by decide +kernel)) ggL_law_X3_same
set_option maxRecDepth 20000 in
theorem ggL_law_X2_cls : GoodIn wsL_law wsX2_cls := goodIn_r _ [129, 14, 130, 62, 63, 2, 64, 527, 528, 529, 530, 531, 532, 533, 534, 535, 563, 564, 565, 566, 567, 568] (by decide +kernel) (by decide +kernel)
set_option maxRecDepth 20000 in
theorem gL_law_X2_cls : GoodIn wsL_law (wsV RL 32 RX2 yX2_cls wsX2_cls) := goodIn_app (goodIn_of _ (by decide +kernel)) ggL_law_X2_cls
set_option maxRecDepth 20000 in
theorem ggL_law_X3_cls : GoodIn wsL_law wsX3_cls := goodIn_r _ [134, 35, 36, 80, 81, 5, 82, 83, 84, 85, 86, 536, 537, 538, 539, 540, 541, 542, 543, 544, 545, 546, 547, 548, 549, 550, 551, 552, 553, 554, 555, 556, 557, 558] (by decide +kernel) (by decide +kernel)
set_option maxRecDepth 20000 in
theorem gL_law_X3_cls : GoodIn wsL_law (wsV RL 35 RX3 yX3_cls wsX3_cls) := goodIn_app (goodIn_of _ (by decide +kernel)) ggL_law_X3_cls
end
section
set_option maxRecDepth 20000 in
theorem ggL_law_X2_is : GoodIn wsL_law wsX2_is := goodIn_r _ [138, 14, 62, 63, 2, 64, 139, 140, 141, 61, 142, 73, 527, 528, 529, 530, 531, 532, 533, 534, 535, 563, 564, 565, 566, 567, 568] (by decide +kernel) (by decide +kernel)
set_option maxRecDepth 20000 in
theorem gL_law_X2_is : GoodIn wsL_law (wsV RL 36 RX2 yX2_is wsX2_is) := goodIn_app (goodIn_of _ (by decide +kernel)) ggL_law_X2_is
set_option maxRecDepth 20000 in
theorem ggL_law_X3_is : GoodIn wsL_law wsX3_is := goodIn_r _ [146, 147, 35, 36, 80, 81, 5, 82, 83, 84, 85, 86, 148, 149, 150, 536, 537, 538, 539, 540, 541, 542, 543, 544, 545, 546, 547, 548, 549, 550, 551, 552, 553, 554, 555, 556, 557, 558] (by decide +kernel) (by decide +kernel)
set_option maxRecDepth 20000 in
theorem gL_law_X3_is : GoodIn wsL_law (wsV RL 39 RX3 yX3_is wsX3_is) := goodIn_app (goodIn_of _ (by decide +kernel)) ggL_law_X3_is
set_option maxRecDepth 20000 in
theorem ggL_law_X2_get : GoodIn wsL_law wsX2_get := goodIn_r _ [154, 155, 14, 156, 157, 62, 63, 2, 64, 158, 159, 160, 161, 162, 163, 164, 165, 166, 167, 139, 140, 141, 61, 142, 73, 527, 528, 529, 530, 531, 532, 533, 534, 535, 563, 564, 565, 566, 567, 568] (by decide +kernel) (by decide +kernel)
set_option maxRecDepth 20000 in
theorem gL_law_X2_get : GoodIn wsL_law (wsV RL 40 RX2 yX2_get wsX2_get) := goodIn_app (goodIn_of _ (by decide +kernel)) ggL_law_X2_get
set_option maxRecDepth 20000 in
theorem ggL_law_X3_get : GoodIn wsL_law wsX3_get := goodIn_r _ [171, 101, 35, 172, 173, 38, 80, 81, 5, 82, 83, 84, 85, 86, 174, 175, 176, 177, 178, 179, 180, 181, 182, 183, 36, 94, 95, 96, 536, 537, 538, 539, 540, 541, 542, 543, 544, 545, 546, 547, 548, 549, 550, 551, 552, 553, 554, 555, 556, 557, 558] (by decide +kernel) (by decide +kernel)
set_option maxRecDepth 20000 in
theorem gL_law_X3_get : GoodIn wsL_law (wsV RL 44 RX3 yX3_get wsX3_get) := goodIn_app (goodIn_of _ (by decide +kernel)) ggL_law_X3_get
set_option maxRecDepth 20000 in
theorem ggL_law_X2_set : GoodIn wsL_law wsX2_set := goodIn_r _ [187, 14, 156, 157, 62, 63, 2, 64, 158, 159, 160, 161, 162, 163, 164, 165, 166, 167, 139, 140, 141, 61, 142, 73, 188, 189, 190, 191, 192, 193, 194, 195, 196, 197, 198, 199, 200, 201, 202, 203, 204, 205, 527, 528, 529, 530, 531, 532, 533, 534, 535, 563, 564, 565, 566, 567, 568] (by decide +kernel) (by decide +kernel)
set_option maxRecDepth 20000 in
theorem gL_law_X2_set : GoodIn wsL_law (wsV RL 47 RX2 yX2_set wsX2_set) := goodIn_app (goodIn_of _ (by decide +kernel)) ggL_law_X2_set
set_option maxRecDepth 20000 in
theorem ggL_law_X3_set : GoodIn wsL_law wsX3_set := goodIn_r _ [209, 35, 38, 80, 81, 5, 82, 83, 84, 85, 86, 174, 175, 176, 177, 178, 179, 180, 181, 182, 183, 36, 94, 95, 96, 210, 211, 212, 213, 214, 215, 216, 217, 218, 219, 536, 537, 538, 539, 540, 541, 542, 543, 544, 545, 546, 547, 548, 549, 550, 551, 552, 553, 554, 555, 556, 557, 558] (by decide +kernel) (by decide +kernel)
set_option maxRecDepth 20000 in
theorem gL_law_X3_set : GoodIn wsL_law (wsV RL 51 RX3 yX3_set wsX3_set) := goodIn_app (goodIn_of _ (by decide +kernel)) ggL_law_X3_set
set_option maxRecDepth 20000 in
theorem ggL_law_X2_link : GoodIn wsL_law wsX2_link := goodIn_r _ [223, 14, 156, 62, 63, 2, 64, 224, 225, 226, 161, 162, 163, 164, 139, 140, 141, 61, 142, 73, 227, 228, 229, 230, 231, 232, 233, 234, 235, 236, 527, 528, 529, 530, 531, 532, 533, 534, 535, 563, 564, 565, 566, 567, 568] (by decide +kernel) (by decide +kernel)
set_option maxRecDepth 20000 in
theorem gL_law_X2_link : GoodIn wsL_law (wsV RL 52 RX2 yX2_link wsX2_link) := goodIn_app (goodIn_of _ (by decide +kernel)) ggL_law_X2_link
set_option maxRecDepth 20000 in
theorem ggL_law_X3_link : GoodIn wsL_law wsX3_link := goodIn_r _ [240, 35, 36, 38, 80, 81, 5, 82, 83, 84, 85, 86, 91, 92, 93, 180, 181, 182, 183, 94, 95, 96, 241, 242, 243, 536, 537, 538, 539, 540, 541, 542, 543, 544, 545, 546, 547, 548, 549, 550, 551, 552, 553, 554, 555, 556, 557, 558] (by decide +kernel) (by decide +kernel)
set_option maxRecDepth 20000 in
theorem gL_law_X3_link : GoodIn wsL_law (wsV RL 55 RX3 yX3_link wsX3_link) := goodIn_app (goodIn_of _ (by decide +kernel)) ggL_law_X3_link
set_option maxRecDepth 20000 in
theorem ggL_law_X2_follow : GoodIn wsL_law wsX2_follow := goodIn_r _ [247, 14, 156, 62, 63, 2, 64, 224, 225, 226, 161, 162, 163, 164, 165, 166, 167, 139, 140, 141, 61, 142, 73, 248, 249, 250, 251, 234, 235, 236, 527, 528, 529, 530, 531, 532, 533, 534, 535, 563, 564, 565, 566, 567, 568] (by decide +kernel) (by decide +kernel)
set_option maxRecDepth 20000 in
theorem gL_law_X2_follow : GoodIn wsL_law (wsV RL 56 RX2 yX2_follow wsX2_follow) := goodIn_app (goodIn_of _ (by decide +kernel)) ggL_law_X2_follow
set_option maxRecDepth 20000 in
theorem ggL_law_X3_follow : GoodIn wsL_law wsX3_follow := goodIn_r _ [255, 35, 38, 80, 81, 5, 82, 83, 84, 85, 86, 91, 92, 93, 180, 181, 182, 183, 36, 94, 95, 96, 536, 537, 538, 539, 540, 541, 542, 543, 544, 545, 546, 547, 548, 549, 550, 551, 552, 553, 554, 555, 556, 557, 558] (by decide +kernel) (by decide +kernel)
set_option maxRecDepth 20000 in
theorem gL_law_X3_follow : GoodIn wsL_law (wsV RL 59 RX3 yX3_follow wsX3_follow) := goodIn_app (goodIn_of _ (by decide +kernel)) ggL_law_X3_follow
set_option maxRecDepth 20000 in
theorem ggL_law_X2_row : GoodIn wsL_law wsX2_row := goodIn_r _ [259, 14, 26, 260, 62, 63, 2, 64, 139, 140, 141, 61, 142, 73, 527, 528, 529, 530, 531, 532, 533, 534, 535, 563, 564, 565, 566, 567, 568] (by decide +kernel) (by decide +kernel)
set_option maxRecDepth 20000 in
theorem gL_law_X2_row : GoodIn wsL_law (wsV RL 60 RX2 yX2_row wsX2_row) := goodIn_app (goodIn_of _ (by decide +kernel)) ggL_law_X2_row
set_option maxRecDepth 20000 in
theorem ggL_law_X3_row : GoodIn wsL_law wsX3_row := goodIn_r _ [264, 35, 39, 41, 80, 81, 5, 82, 83, 84, 85, 86, 180, 181, 182, 183, 36, 94, 95, 96, 536, 537, 538, 539, 540, 541, 542, 543, 544, 545, 546, 547, 548, 549, 550, 551, 552, 553, 554, 555, 556, 557, 558] (by decide +kernel) (by decide +kernel)
set_option maxRecDepth 20000 in
theorem gL_law_X3_row : GoodIn wsL_law (wsV RL 63 RX3 yX3_row wsX3_row) := goodIn_app (goodIn_of _ (by decide +kernel)) ggL_law_X3_row
set_option maxRecDepth 20000 in
theorem ggL_law_X2_put : GoodIn wsL_law wsX2_put := goodIn_r _ [268, 14, 260, 62, 63, 2, 64, 269, 270, 271, 165, 166, 167, 139, 140, 141, 61, 142, 73, 527, 528, 529, 530, 531, 532, 533, 534, 535, 563, 564, 565, 566, 567, 568] (by decide +kernel) (by decide +kernel)
set_option maxRecDepth 20000 in
theorem gL_law_X2_put : GoodIn wsL_law (wsV RL 64 RX2 yX2_put wsX2_put) := goodIn_app (goodIn_of _ (by decide +kernel)) ggL_law_X2_put
end
section
set_option maxRecDepth 20000 in
theorem ggL_law_X3_put : GoodIn wsL_law wsX3_put := goodIn_r _ [275, 39, 35, 41, 80, 81, 5, 82, 83, 84, 85, 86, 276, 277, 278, 279, 180, 181, 182, 183, 36, 94, 95, 96, 536, 537, 538, 539, 540, 541, 542, 543, 544, 545, 546, 547, 548, 549, 550, 551, 552, 553, 554, 555, 556, 557, 558] (by decide +kernel) (by decide +kernel)
set_option maxRecDepth 20000 in
theorem gL_law_X3_put : GoodIn wsL_law (wsV RL 67 RX3 yX3_put wsX3_put) := goodIn_app (goodIn_of _ (by decide +kernel)) ggL_law_X3_put
set_option maxRecDepth 20000 in
theorem ggL_law_X2_length : GoodIn wsL_law wsX2_length := goodIn_r _ [283, 14, 260, 62, 63, 2, 64, 269, 270, 271, 165, 166, 167, 139, 140, 141, 61, 142, 73, 527, 528, 529, 530, 531, 532, 533, 534, 535, 563, 564, 565, 566, 567, 568] (by decide +kernel) (by decide +kernel)
set_option maxRecDepth 20000 in
theorem gL_law_X2_length : GoodIn wsL_law (wsV RL 68 RX2 yX2_length wsX2_length) := goodIn_app (goodIn_of _ (by decide +kernel)) ggL_law_X2_length
set_option maxRecDepth 20000 in
theorem ggL_law_X3_length : GoodIn wsL_law wsX3_length := goodIn_r _ [287, 39, 35, 80, 81, 5, 82, 83, 84, 85, 86, 276, 277, 278, 279, 180, 181, 182, 183, 36, 94, 95, 96, 536, 537, 538, 539, 540, 541, 542, 543, 544, 545, 546, 547, 548, 549, 550, 551, 552, 553, 554, 555, 556, 557, 558] (by decide +kernel) (by decide +kernel)
set_option maxRecDepth 20000 in
theorem gL_law_X3_length : GoodIn wsL_law (wsV RL 71 RX3 yX3_length wsX3_length) := goodIn_app (goodIn_of _ (by decide +kernel)) ggL_law_X3_length
set_option maxRecDepth 20000 in
theorem ggL_law_X2_count : GoodIn wsL_law wsX2_count := goodIn_r _ [291, 155, 14, 157, 292, 62, 63, 2, 64, 165, 166, 167, 139, 140, 141, 61, 142, 73, 527, 528, 529, 530, 531, 532, 533, 534, 535, 563, 564, 565, 566, 567, 568] (by decide +kernel) (by decide +kernel)
set_option maxRecDepth 20000 in
theorem gL_law_X2_count : GoodIn wsL_law (wsV RL 72 RX2 yX2_count wsX2_count) := goodIn_app (goodIn_of _ (by decide +kernel)) ggL_law_X2_count
set_option maxRecDepth 20000 in
theorem ggL_law_X3_count : GoodIn wsL_law wsX3_count := goodIn_r _ [296, 297, 101, 35, 172, 36, 38, 173, 80, 81, 5, 82, 83, 84, 85, 86, 148, 149, 150, 536, 537, 538, 539, 540, 541, 542, 543, 544, 545, 546, 547, 548, 549, 550, 551, 552, 553, 554, 555, 556, 557, 558] (by decide +kernel) (by decide +kernel)
set_option maxRecDepth 20000 in
theorem gL_law_X3_count : GoodIn wsL_law (wsV RL 75 RX3 yX3_count wsX3_count) := goodIn_app (goodIn_of _ (by decide +kernel)) ggL_law_X3_count
set_option maxRecDepth 20000 in
theorem ggL_law_X2_call : GoodIn wsL_law wsX2_call := goodIn_r _ [301, 14, 302, 62, 63, 2, 64, 165, 166, 167, 139, 140, 141, 61, 142, 73, 303, 304, 305, 306, 72, 307, 308, 309, 310, 311, 312, 313, 314, 315, 316, 317, 318, 234, 236, 235, 319, 320, 321, 322, 527, 528, 529, 530, 531, 532, 533, 534, 535, 563, 564, 565, 566, 567, 568] (by decide +kernel) (by decide +kernel)
set_option maxRecDepth 20000 in
theorem gL_law_X2_call : GoodIn wsL_law (wsV RL 76 RX2 yX2_call wsX2_call) := goodIn_app (goodIn_of _ (by decide +kernel)) ggL_law_X2_call
set_option maxRecDepth 20000 in
theorem ggL_law_X3_call : GoodIn wsL_law wsX3_call := goodIn_r _ [326, 78, 35, 36, 38, 80, 81, 5, 82, 83, 84, 85, 86, 148, 149, 150, 327, 328, 329, 330, 331, 332, 333, 334, 335, 336, 337, 338, 536, 537, 538, 539, 540, 541, 542, 543, 544, 545, 546, 547, 548, 549, 550, 551, 552, 553, 554, 555, 556, 557, 558] (by decide +kernel) (by decide +kernel)
set_option maxRecDepth 20000 in
theorem gL_law_X3_call : GoodIn wsL_law (wsV RL 79 RX3 yX3_call wsX3_call) := goodIn_app (goodIn_of _ (by decide +kernel)) ggL_law_X3_call
set_option maxRecDepth 20000 in
theorem ggL_law_X2_raise : GoodIn wsL_law wsX2_raise := goodIn_r _ [342, 14, 62, 63, 2, 64, 343, 344, 345, 157, 165, 166, 167, 139, 140, 141, 61, 142, 73, 527, 528, 529, 530, 531, 532, 533, 534, 535, 563, 564, 565, 566, 567, 568] (by decide +kernel) (by decide +kernel)
set_option maxRecDepth 20000 in
theorem gL_law_X2_raise : GoodIn wsL_law (wsV RL 80 RX2 yX2_raise wsX2_raise) := goodIn_app (goodIn_of _ (by decide +kernel)) ggL_law_X2_raise
set_option maxRecDepth 20000 in
theorem ggL_law_X3_raise : GoodIn wsL_law wsX3_raise := goodIn_r _ [349, 35, 36, 38, 80, 81, 5, 82, 83, 84, 85, 86, 536, 537, 538, 539, 540, 541, 542, 543, 544, 545, 546, 547, 548, 549, 550, 551, 552, 553, 554, 555, 556, 557, 558] (by decide +kernel) (by decide +kernel)
set_option maxRecDepth 20000 in
theorem gL_law_X3_raise : GoodIn wsL_law (wsV RL 83 RX3 yX3_raise wsX3_raise) := goodIn_app (goodIn_of _ (by decide +kernel)) ggL_law_X3_raise
set_option maxRecDepth 20000 in
theorem ggL_law_X2_passes : GoodIn wsL_law wsX2_passes := goodIn_r _ [353, 354, 14, 62, 63, 2, 64, 343, 344, 345, 157, 165, 166, 167, 139, 140, 141, 61, 142, 73, 527, 528, 529, 530, 531, 532, 533, 534, 535, 563, 564, 565, 566, 567, 568] (by decide +kernel) (by decide +kernel)
set_option maxRecDepth 20000 in
theorem gL_law_X2_passes : GoodIn wsL_law (wsV RL 84 RX2 yX2_passes wsX2_passes) := goodIn_app (goodIn_of _ (by decide +kernel)) ggL_law_X2_passes
set_option maxRecDepth 20000 in
theorem ggL_law_X3_passes : GoodIn wsL_law wsX3_passes := goodIn_r _ [358, 178, 359, 80, 81, 5, 82, 83, 84, 85, 86, 360, 347, 348, 349, 35, 36, 38, 536, 537, 538, 539, 540, 541, 542, 543, 544, 545, 546, 547, 548, 549, 550, 551, 552, 553, 554, 555, 556, 557, 558] (by decide +kernel) (by decide +kernel)
set_option maxRecDepth 20000 in
theorem gL_law_X3_passes : GoodIn wsL_law (wsV RL 87 RX3 yX3_passes wsX3_passes) := goodIn_app (goodIn_of _ (by decide +kernel)) ggL_law_X3_passes
set_option maxRecDepth 20000 in
theorem ggL_law_X2_passed : GoodIn wsL_law wsX2_passed := goodIn_r _ [364, 354, 527, 528, 529, 530, 531, 532, 533, 534, 535] (by decide +kernel) (by decide +kernel)
set_option maxRecDepth 20000 in
theorem gL_law_X2_passed : GoodIn wsL_law (wsV RL 88 RX2 yX2_passed wsX2_passed) := goodIn_app (goodIn_of _ (by decide +kernel)) ggL_law_X2_passed
end
section
set_option maxRecDepth 20000 in
theorem ggL_law_X3_passed : GoodIn wsL_law wsX3_passed := goodIn_r _ [368, 359, 536, 537, 538, 539, 540, 541, 542, 543, 544, 545, 546, 547, 548, 549, 550, 551, 552, 553, 554, 555, 556, 557, 558] (by decide +kernel) (by decide +kernel)
set_option maxRecDepth 20000 in
theorem gL_law_X3_passed : GoodIn wsL_law (wsV RL 92 RX3 yX3_passed wsX3_passed) := goodIn_app (goodIn_of _ (by decide +kernel)) ggL_law_X3_passed
set_option maxRecDepth 20000 in
theorem ggL_law_X2_leaves : GoodIn wsL_law wsX2_leaves := goodIn_r _ [372, 14, 19, 18, 373, 62, 63, 2, 64, 374, 375, 376, 377, 378, 379, 380, 381, 382, 21, 302, 383, 384, 385, 386, 387, 388, 389, 390, 391, 392, 393, 394, 395, 396, 130, 397, 398, 399, 17, 400, 401, 27, 28, 30, 402, 403, 404, 405, 161, 260, 157, 248, 249, 250, 61, 251, 234, 235, 236, 406, 407, 408, 527, 528, 529, 530, 531, 532, 533, 534, 535, 559, 560, 561, 562, 563, 564, 565, 566, 567, 568] (by decide +kernel) (by decide +kernel)
set_option maxRecDepth 20000 in
theorem gL_law_X2_leaves : GoodIn wsL_law (wsV RL 93 RX2 yX2_leaves wsX2_leaves) := goodIn_app (goodIn_of _ (by decide +kernel)) ggL_law_X2_leaves
set_option maxRecDepth 20000 in
theorem ggL_law_X3_leaves : GoodIn wsL_law wsX3_leaves := goodIn_r _ [412, 35, 413, 414, 45, 49, 46, 50, 47, 51, 80, 81, 5, 82, 83, 84, 85, 86, 415, 416, 417, 418, 419, 48, 420, 36, 38, 91, 92, 93, 94, 95, 96, 421, 422, 423, 424, 425, 426, 427, 428, 39, 41, 101, 429, 430, 431, 432, 536, 537, 538, 539, 540, 541, 542, 543, 544, 545, 546, 547, 548, 549, 550, 551, 552, 553, 554, 555, 556, 557, 558] (by decide +kernel) (by decide +kernel)
set_option maxRecDepth 20000 in
theorem gL_law_X3_leaves : GoodIn wsL_law (wsV RL 96 RX3 yX3_leaves wsX3_leaves) := goodIn_app (goodIn_of _ (by decide +kernel)) ggL_law_X3_leaves
set_option maxRecDepth 20000 in
theorem ggL_law_X2_leaf : GoodIn wsL_law wsX2_leaf := goodIn_r _ [436, 18, 155, 437, 438, 439, 440, 441, 442, 17, 443, 401, 527, 528, 529, 530, 531, 532, 533, 534, 535, 559, 560, 561, 562] (by decide +kernel) (by decide +kernel)
set_option maxRecDepth 20000 in
theorem gL_law_X2_leaf : GoodIn wsL_law (wsV RL 97 RX2 yX2_leaf wsX2_leaf) := goodIn_app (goodIn_of _ (by decide +kernel)) ggL_law_X2_leaf
set_option maxRecDepth 20000 in
theorem ggL_law_X3_leaf : GoodIn wsL_law wsX3_leaf := goodIn_r _ [447, 414, 297, 101, 45, 46, 47, 84, 85, 5, 86, 536, 537, 538, 539, 540, 541, 542, 543, 544, 545, 546, 547, 548, 549, 550, 551, 552, 553, 554, 555, 556, 557, 558] (by decide +kernel) (by decide +kernel)
set_option maxRecDepth 20000 in
theorem gL_law_X3_leaf : GoodIn wsL_law (wsV RL 100 RX3 yX3_leaf wsX3_leaf) := goodIn_app (goodIn_of _ (by decide +kernel)) ggL_law_X3_leaf
set_option maxRecDepth 20000 in
theorem ggL_law_X2_alter : GoodIn wsL_law wsX2_alter := goodIn_r _ [451, 18, 438, 439, 440, 441, 442, 17, 443, 401, 527, 528, 529, 530, 531, 532, 533, 534, 535, 559, 560, 561, 562] (by decide +kernel) (by decide +kernel)
set_option maxRecDepth 20000 in
theorem gL_law_X2_alter : GoodIn wsL_law (wsV RL 101 RX2 yX2_alter wsX2_alter) := goodIn_app (goodIn_of _ (by decide +kernel)) ggL_law_X2_alter
set_option maxRecDepth 20000 in
theorem ggL_law_X3_alter : GoodIn wsL_law wsX3_alter := goodIn_r _ [455, 414, 46, 47, 84, 85, 5, 86, 536, 537, 538, 539, 540, 541, 542, 543, 544, 545, 546, 547, 548, 549, 550, 551, 552, 553, 554, 555, 556, 557, 558] (by decide +kernel) (by decide +kernel)
set_option maxRecDepth 20000 in
theorem gL_law_X3_alter : GoodIn wsL_law (wsV RL 105 RX3 yX3_alter wsX3_alter) := goodIn_app (goodIn_of _ (by decide +kernel)) ggL_law_X3_alter
set_option maxRecDepth 20000 in
theorem ggL_law_X2_back : GoodIn wsL_law wsX2_back := goodIn_r _ [459, 18, 373, 14, 22, 460, 62, 63, 2, 64, 461, 462, 463, 464, 438, 439, 13, 60, 61, 465, 466, 467, 17, 468, 401, 28, 30, 189, 190, 192, 193, 161, 194, 195, 196, 197, 198, 199, 200, 201, 202, 203, 204, 205, 65, 66, 67, 68, 69, 70, 71, 11, 12, 29, 72, 73, 469, 470, 471, 472, 437, 473, 474, 475, 476, 477, 478, 479, 480, 481, 26, 260, 157, 224, 225, 226, 162, 163, 164, 482, 483, 484, 485, 227, 228, 229, 139, 140, 141, 142, 230, 231, 232, 233, 234, 235, 236, 486, 487, 488, 158, 159, 160, 188, 191, 527, 528, 529, 530, 531, 532, 533, 534, 535, 559, 560, 561, 562, 563, 564, 565, 566, 567, 568] (by decide +kernel) (by decide +kernel)
set_option maxRecDepth 20000 in
theorem gL_law_X2_back : GoodIn wsL_law (wsV RL 106 RX2 yX2_back wsX2_back) := goodIn_app (goodIn_of _ (by decide +kernel)) ggL_law_X2_back
set_option maxRecDepth 20000 in
theorem ggL_law_X3_back : GoodIn wsL_law wsX3_back := goodIn_r _ [492, 414, 45, 297, 79, 52, 46, 47, 41, 39, 36, 38, 35, 80, 81, 5, 82, 83, 84, 85, 86, 493, 494, 495, 496, 87, 88, 89, 90, 43, 44, 91, 92, 93, 94, 95, 96, 97, 98, 99, 100, 101, 241, 242, 243, 210, 211, 212, 213, 214, 215, 216, 217, 218, 219, 536, 537, 538, 539, 540, 541, 542, 543, 544, 545, 546, 547, 548, 549, 550, 551, 552, 553, 554, 555, 556, 557, 558] (by decide +kernel) (by decide +kernel)
set_option maxRecDepth 20000 in
theorem gL_law_X3_back : GoodIn wsL_law (wsV RL 109 RX3 yX3_back wsX3_back) := goodIn_app (goodIn_of _ (by decide +kernel)) ggL_law_X3_back
set_option maxRecDepth 20000 in
theorem ggL_law_X2_equal : GoodIn wsL_law wsX2_equal := goodIn_r _ [500, 14, 19, 20, 62, 63, 2, 64, 374, 375, 376, 377, 373, 378, 379, 380, 381, 382, 21, 302, 383, 384, 385, 386, 387, 388, 389, 390, 391, 392, 393, 394, 395, 396, 130, 397, 398, 399, 17, 400, 401, 27, 28, 30, 402, 403, 404, 405, 161, 260, 157, 248, 249, 250, 61, 251, 234, 235, 236, 406, 407, 408, 501, 502, 503, 504, 527, 528, 529, 530, 531, 532, 533, 534, 535, 559, 560, 561, 562, 563, 564, 565, 566, 567, 568] (by decide +kernel) (by decide +kernel)
set_option maxRecDepth 20000 in
theorem gL_law_X2_equal : GoodIn wsL_law (wsV RL 110 RX2 yX2_equal wsX2_equal) := goodIn_app (goodIn_of _ (by decide +kernel)) ggL_law_X2_equal
set_option maxRecDepth 20000 in
theorem ggL_law_X3_equal : GoodIn wsL_law wsX3_equal := goodIn_r _ [508, 35, 413, 53, 49, 54, 50, 55, 51, 80, 81, 5, 82, 83, 84, 85, 86, 415, 416, 417, 418, 419, 48, 420, 36, 38, 91, 92, 93, 94, 95, 96, 421, 422, 423, 424, 425, 426, 427, 428, 39, 41, 101, 429, 430, 431, 432, 536, 537, 538, 539, 540, 541, 542, 543, 544, 545, 546, 547, 548, 549, 550, 551, 552, 553, 554, 555, 556, 557, 558] (by decide +kernel) (by decide +kernel)
set_option maxRecDepth 20000 in
theorem gL_law_X3_equal : GoodIn wsL_law (wsV RL 113 RX3 yX3_equal wsX3_equal) := goodIn_app (goodIn_of _ (by decide +kernel)) ggL_law_X3_equal
set_option maxRecDepth 20000 in
theorem ggL_law_X2_changed : GoodIn wsL_law wsX2_changed := goodIn_r _ [512, 14, 130, 62, 63, 2, 64, 513, 514, 515, 161, 260, 157, 248, 249, 250, 61, 251, 234, 235, 236, 516, 517, 518, 527, 528, 529, 530, 531, 532, 533, 534, 535, 563, 564, 565, 566, 567, 568] (by decide +kernel) (by decide +kernel)
set_option maxRecDepth 20000 in
theorem gL_law_X2_changed : GoodIn wsL_law (wsV RL 114 RX2 yX2_changed wsX2_changed) := goodIn_app (goodIn_of _ (by decide +kernel)) ggL_law_X2_changed
set_option maxRecDepth 20000 in
theorem ggL_law_X3_changed : GoodIn wsL_law wsX3_changed := goodIn_r _ [522, 35, 36, 80, 81, 5, 82, 83, 84, 85, 86, 94, 95, 96, 523, 524, 525, 526, 38, 39, 41, 536, 537, 538, 539, 540, 541, 542, 543, 544, 545, 546, 547, 548, 549, 550, 551, 552, 553, 554, 555, 556, 557, 558] (by decide +kernel) (by decide +kernel)
set_option maxRecDepth 20000 in
theorem gL_law_X3_changed : GoodIn wsL_law (wsV RL 117 RX3 yX3_changed wsX3_changed) := goodIn_app (goodIn_of _ (by decide +kernel)) ggL_law_X3_changed
end
section
theorem dL_law_0 : decode cL_law 0 = .ok (.new 7, 3) := by decide +kernel
theorem dL_law_3 : decode cL_law 3 = .ok (.dup, 1) := by decide +kernel
theorem dL_law_4 : decode cL_law 4 = .ok (.invokespecial 9, 3) := by decide +kernel
theorem dL_law_7 : decode cL_law 7 = .ok (.astore_n 1, 1) := by decide +kernel
theorem dL_law_8 : decode cL_law 8 = .ok (.new 10, 3) := by decide +kernel
theorem dL_law_11 : decode cL_law 11 = .ok (.dup, 1) := by decide +kernel
theorem dL_law_12 : decode cL_law 12 = .ok (.invokespecial 12, 3) := by decide +kernel
theorem dL_law_15 : decode cL_law 15 = .ok (.astore_n 2, 1) := by decide +kernel
theorem dL_law_16 : decode cL_law 16 = .ok (.iconst 0, 1) := by decide +kernel
theorem dL_law_17 : decode cL_law 17 = .ok (.istore_n 3, 1) := by decide +kernel
theorem dL_law_18 : decode cL_law 18 = .ok (.iload_n 3, 1) := by decide +kernel
theorem dL_law_19 : decode cL_law 19 = .ok (.aload_n 0, 1) := by decide +kernel
theorem dL_law_20 : decode cL_law 20 = .ok (.arraylength, 1) := by decide +kernel
theorem dL_law_21 : decode cL_law 21 = .ok (.iconst 5, 1) := by decide +kernel
theorem dL_law_22 : decode cL_law 22 = .ok (.isub, 1) := by decide +kernel
theorem dL_law_23 : decode cL_law 23 = .ok (.if_icmp .gt 959, 3) := by decide +kernel
theorem dL_law_26 : decode cL_law 26 = .ok (.aload_n 0, 1) := by decide +kernel
theorem dL_law_27 : decode cL_law 27 = .ok (.iload_n 3, 1) := by decide +kernel
theorem dL_law_28 : decode cL_law 28 = .ok (.iaload, 1) := by decide +kernel
theorem dL_law_29 : decode cL_law 29 = .ok (.bipush 31, 2) := by decide +kernel
theorem dL_law_31 : decode cL_law 31 = .ok (.iand, 1) := by decide +kernel
theorem dL_law_32 : decode cL_law 32 = .ok (.tableswitch 944 0 23 #[112, 155, 178, 211, 244, 267, 300, 333, 406, 449, 492, 525, 568, 591, 624, 657, 680, 713, 726, 749, 782, 845, 868, 901], 112) := by decide +kernel
theorem dL_law_144 : decode cL_law 144 = .ok (.aload_n 1, 1) := by decide +kernel
theorem dL_law_145 : decode cL_law 145 = .ok (.aload_n 0, 1) := by decide +kernel
theorem dL_law_146 : decode cL_law 146 = .ok (.iload_n 3, 1) := by decide +kernel
theorem dL_law_147 : decode cL_law 147 = .ok (.iconst 1, 1) := by decide +kernel
theorem dL_law_148 : decode cL_law 148 = .ok (.iadd, 1) := by decide +kernel
theorem dL_law_149 : decode cL_law 149 = .ok (.iaload, 1) := by decide +kernel
theorem dL_law_150 : decode cL_law 150 = .ok (.aload_n 0, 1) := by decide +kernel
theorem dL_law_151 : decode cL_law 151 = .ok (.iload_n 3, 1) := by decide +kernel
theorem dL_law_152 : decode cL_law 152 = .ok (.iconst 2, 1) := by decide +kernel
theorem dL_law_153 : decode cL_law 153 = .ok (.iadd, 1) := by decide +kernel
theorem dL_law_154 : decode cL_law 154 = .ok (.iaload, 1) := by decide +kernel
theorem dL_law_155 : decode cL_law 155 = .ok (.aload_n 0, 1) := by decide +kernel
theorem dL_law_156 : decode cL_law 156 = .ok (.iload_n 3, 1) := by decide +kernel
theorem dL_law_157 : decode cL_law 157 = .ok (.iconst 3, 1) := by decide +kernel
theorem dL_law_158 : decode cL_law 158 = .ok (.iadd, 1) := by decide +kernel
theorem dL_law_159 : decode cL_law 159 = .ok (.iaload, 1) := by decide +kernel
theorem dL_law_160 : decode cL_law 160 = .ok (.invokevirtual 13, 3) := by decide +kernel
theorem dL_law_163 : decode cL_law 163 = .ok (.aload_n 2, 1) := by decide +kernel
theorem dL_law_164 : decode cL_law 164 = .ok (.aload_n 0, 1) := by decide +kernel
theorem dL_law_165 : decode cL_law 165 = .ok (.iload_n 3, 1) := by decide +kernel
theorem dL_law_166 : decode cL_law 166 = .ok (.iconst 1, 1) := by decide +kernel
theorem dL_law_167 : decode cL_law 167 = .ok (.iadd, 1) := by decide +kernel
theorem dL_law_168 : decode cL_law 168 = .ok (.iaload, 1) := by decide +kernel
theorem dL_law_169 : decode cL_law 169 = .ok (.aload_n 0, 1) := by decide +kernel
theorem dL_law_170 : decode cL_law 170 = .ok (.iload_n 3, 1) := by decide +kernel
theorem dL_law_171 : decode cL_law 171 = .ok (.iconst 2, 1) := by decide +kernel
theorem dL_law_172 : decode cL_law 172 = .ok (.iadd, 1) := by decide +kernel
theorem dL_law_173 : decode cL_law 173 = .ok (.iaload, 1) := by decide +kernel
theorem dL_law_174 : decode cL_law 174 = .ok (.aload_n 0, 1) := by decide +kernel
theorem dL_law_175 : decode cL_law 175 = .ok (.iload_n 3, 1) := by decide +kernel
theorem dL_law_176 : decode cL_law 176 = .ok (.iconst 3, 1) := by decide +kernel
theorem dL_law_177 : decode cL_law 177 = .ok (.iadd, 1) := by decide +kernel
theorem dL_law_178 : decode cL_law 178 = .ok (.iaload, 1) := by decide +kernel
theorem dL_law_179 : decode cL_law 179 = .ok (.invokevirtual 17, 3) := by decide +kernel
theorem dL_law_182 : decode cL_law 182 = .ok (.if_icmp .eq 794, 3) := by decide +kernel
theorem dL_law_185 : decode cL_law 185 = .ok (.iconst 0, 1) := by decide +kernel
theorem dL_law_186 : decode cL_law 186 = .ok (.ireturn, 1) := by decide +kernel
theorem dL_law_187 : decode cL_law 187 = .ok (.aload_n 1, 1) := by decide +kernel
theorem dL_law_188 : decode cL_law 188 = .ok (.aload_n 0, 1) := by decide +kernel
theorem dL_law_189 : decode cL_law 189 = .ok (.iload_n 3, 1) := by decide +kernel
theorem dL_law_190 : decode cL_law 190 = .ok (.iconst 1, 1) := by decide +kernel
theorem dL_law_191 : decode cL_law 191 = .ok (.iadd, 1) := by decide +kernel
theorem dL_law_192 : decode cL_law 192 = .ok (.iaload, 1) := by decide +kernel
theorem dL_law_193 : decode cL_law 193 = .ok (.invokevirtual 18, 3) := by decide +kernel
theorem dL_law_196 : decode cL_law 196 = .ok (.pop, 1) := by decide +kernel
theorem dL_law_197 : decode cL_law 197 = .ok (.aload_n 2, 1) := by decide +kernel
theorem dL_law_198 : decode cL_law 198 = .ok (.aload_n 0, 1) := by decide +kernel
theorem dL_law_199 : decode cL_law 199 = .ok (.iload_n 3, 1) := by decide +kernel
theorem dL_law_200 : decode cL_law 200 = .ok (.iconst 1, 1) := by decide +kernel
theorem dL_law_201 : decode cL_law 201 = .ok (.iadd, 1) := by decide +kernel
theorem dL_law_202 : decode cL_law 202 = .ok (.iaload, 1) := by decide +kernel
theorem dL_law_203 : decode cL_law 203 = .ok (.invokevirtual 22, 3) := by decide +kernel
theorem dL_law_206 : decode cL_law 206 = .ok (.pop, 1) := by decide +kernel
theorem dL_law_207 : decode cL_law 207 = .ok (.goto 769, 3) := by decide +kernel
theorem dL_law_210 : decode cL_law 210 = .ok (.aload_n 1, 1) := by decide +kernel
theorem dL_law_211 : decode cL_law 211 = .ok (.aload_n 0, 1) := by decide +kernel
theorem dL_law_212 : decode cL_law 212 = .ok (.iload_n 3, 1) := by decide +kernel
theorem dL_law_213 : decode cL_law 213 = .ok (.iconst 1, 1) := by decide +kernel
theorem dL_law_214 : decode cL_law 214 = .ok (.iadd, 1) := by decide +kernel
theorem dL_law_215 : decode cL_law 215 = .ok (.iaload, 1) := by decide +kernel
theorem dL_law_216 : decode cL_law 216 = .ok (.aload_n 0, 1) := by decide +kernel
theorem dL_law_217 : decode cL_law 217 = .ok (.iload_n 3, 1) := by decide +kernel
theorem dL_law_218 : decode cL_law 218 = .ok (.iconst 2, 1) := by decide +kernel
theorem dL_law_219 : decode cL_law 219 = .ok (.iadd, 1) := by decide +kernel
theorem dL_law_220 : decode cL_law 220 = .ok (.iaload, 1) := by decide +kernel
theorem dL_law_221 : decode cL_law 221 = .ok (.invokevirtual 23, 3) := by decide +kernel
theorem dL_law_224 : decode cL_law 224 = .ok (.pop, 1) := by decide +kernel
theorem dL_law_225 : decode cL_law 225 = .ok (.aload_n 2, 1) := by decide +kernel
theorem dL_law_226 : decode cL_law 226 = .ok (.aload_n 0, 1) := by decide +kernel
theorem dL_law_227 : decode cL_law 227 = .ok (.iload_n 3, 1) := by decide +kernel
theorem dL_law_228 : decode cL_law 228 = .ok (.iconst 1, 1) := by decide +kernel
theorem dL_law_229 : decode cL_law 229 = .ok (.iadd, 1) := by decide +kernel
theorem dL_law_230 : decode cL_law 230 = .ok (.iaload, 1) := by decide +kernel
theorem dL_law_231 : decode cL_law 231 = .ok (.aload_n 0, 1) := by decide +kernel
theorem dL_law_232 : decode cL_law 232 = .ok (.iload_n 3, 1) := by decide +kernel
theorem dL_law_233 : decode cL_law 233 = .ok (.iconst 2, 1) := by decide +kernel
theorem dL_law_234 : decode cL_law 234 = .ok (.iadd, 1) := by decide +kernel
theorem dL_law_235 : decode cL_law 235 = .ok (.iaload, 1) := by decide +kernel
theorem dL_law_236 : decode cL_law 236 = .ok (.invokevirtual 27, 3) := by decide +kernel
theorem dL_law_239 : decode cL_law 239 = .ok (.pop, 1) := by decide +kernel
theorem dL_law_240 : decode cL_law 240 = .ok (.goto 736, 3) := by decide +kernel
theorem dL_law_243 : decode cL_law 243 = .ok (.aload_n 1, 1) := by decide +kernel
theorem dL_law_244 : decode cL_law 244 = .ok (.aload_n 0, 1) := by decide +kernel
theorem dL_law_245 : decode cL_law 245 = .ok (.iload_n 3, 1) := by decide +kernel
theorem dL_law_246 : decode cL_law 246 = .ok (.iconst 1, 1) := by decide +kernel
theorem dL_law_247 : decode cL_law 247 = .ok (.iadd, 1) := by decide +kernel
theorem dL_law_248 : decode cL_law 248 = .ok (.iaload, 1) := by decide +kernel
theorem dL_law_249 : decode cL_law 249 = .ok (.aload_n 0, 1) := by decide +kernel
theorem dL_law_250 : decode cL_law 250 = .ok (.iload_n 3, 1) := by decide +kernel
theorem dL_law_251 : decode cL_law 251 = .ok (.iconst 2, 1) := by decide +kernel
theorem dL_law_252 : decode cL_law 252 = .ok (.iadd, 1) := by decide +kernel
theorem dL_law_253 : decode cL_law 253 = .ok (.iaload, 1) := by decide +kernel
theorem dL_law_254 : decode cL_law 254 = .ok (.invokevirtual 28, 3) := by decide +kernel
theorem dL_law_257 : decode cL_law 257 = .ok (.pop, 1) := by decide +kernel
theorem dL_law_258 : decode cL_law 258 = .ok (.aload_n 2, 1) := by decide +kernel
theorem dL_law_259 : decode cL_law 259 = .ok (.aload_n 0, 1) := by decide +kernel
theorem dL_law_260 : decode cL_law 260 = .ok (.iload_n 3, 1) := by decide +kernel
theorem dL_law_261 : decode cL_law 261 = .ok (.iconst 1, 1) := by decide +kernel
theorem dL_law_262 : decode cL_law 262 = .ok (.iadd, 1) := by decide +kernel
theorem dL_law_263 : decode cL_law 263 = .ok (.iaload, 1) := by decide +kernel
theorem dL_law_264 : decode cL_law 264 = .ok (.aload_n 0, 1) := by decide +kernel
theorem dL_law_265 : decode cL_law 265 = .ok (.iload_n 3, 1) := by decide +kernel
theorem dL_law_266 : decode cL_law 266 = .ok (.iconst 2, 1) := by decide +kernel
theorem dL_law_267 : decode cL_law 267 = .ok (.iadd, 1) := by decide +kernel
theorem dL_law_268 : decode cL_law 268 = .ok (.iaload, 1) := by decide +kernel
theorem dL_law_269 : decode cL_law 269 = .ok (.invokevirtual 31, 3) := by decide +kernel
theorem dL_law_272 : decode cL_law 272 = .ok (.pop, 1) := by decide +kernel
theorem dL_law_273 : decode cL_law 273 = .ok (.goto 703, 3) := by decide +kernel
theorem dL_law_276 : decode cL_law 276 = .ok (.aload_n 1, 1) := by decide +kernel
theorem dL_law_277 : decode cL_law 277 = .ok (.aload_n 0, 1) := by decide +kernel
theorem dL_law_278 : decode cL_law 278 = .ok (.iload_n 3, 1) := by decide +kernel
theorem dL_law_279 : decode cL_law 279 = .ok (.iconst 1, 1) := by decide +kernel
theorem dL_law_280 : decode cL_law 280 = .ok (.iadd, 1) := by decide +kernel
theorem dL_law_281 : decode cL_law 281 = .ok (.iaload, 1) := by decide +kernel
theorem dL_law_282 : decode cL_law 282 = .ok (.invokevirtual 32, 3) := by decide +kernel
theorem dL_law_285 : decode cL_law 285 = .ok (.pop, 1) := by decide +kernel
theorem dL_law_286 : decode cL_law 286 = .ok (.aload_n 2, 1) := by decide +kernel
theorem dL_law_287 : decode cL_law 287 = .ok (.aload_n 0, 1) := by decide +kernel
theorem dL_law_288 : decode cL_law 288 = .ok (.iload_n 3, 1) := by decide +kernel
theorem dL_law_289 : decode cL_law 289 = .ok (.iconst 1, 1) := by decide +kernel
theorem dL_law_290 : decode cL_law 290 = .ok (.iadd, 1) := by decide +kernel
theorem dL_law_291 : decode cL_law 291 = .ok (.iaload, 1) := by decide +kernel
theorem dL_law_292 : decode cL_law 292 = .ok (.invokevirtual 35, 3) := by decide +kernel
theorem dL_law_295 : decode cL_law 295 = .ok (.pop, 1) := by decide +kernel
theorem dL_law_296 : decode cL_law 296 = .ok (.goto 680, 3) := by decide +kernel
theorem dL_law_299 : decode cL_law 299 = .ok (.aload_n 1, 1) := by decide +kernel
theorem dL_law_300 : decode cL_law 300 = .ok (.aload_n 0, 1) := by decide +kernel
theorem dL_law_301 : decode cL_law 301 = .ok (.iload_n 3, 1) := by decide +kernel
theorem dL_law_302 : decode cL_law 302 = .ok (.iconst 1, 1) := by decide +kernel
theorem dL_law_303 : decode cL_law 303 = .ok (.iadd, 1) := by decide +kernel
theorem dL_law_304 : decode cL_law 304 = .ok (.iaload, 1) := by decide +kernel
theorem dL_law_305 : decode cL_law 305 = .ok (.aload_n 0, 1) := by decide +kernel
theorem dL_law_306 : decode cL_law 306 = .ok (.iload_n 3, 1) := by decide +kernel
theorem dL_law_307 : decode cL_law 307 = .ok (.iconst 2, 1) := by decide +kernel
theorem dL_law_308 : decode cL_law 308 = .ok (.iadd, 1) := by decide +kernel
theorem dL_law_309 : decode cL_law 309 = .ok (.iaload, 1) := by decide +kernel
theorem dL_law_310 : decode cL_law 310 = .ok (.invokevirtual 36, 3) := by decide +kernel
theorem dL_law_313 : decode cL_law 313 = .ok (.pop, 1) := by decide +kernel
theorem dL_law_314 : decode cL_law 314 = .ok (.aload_n 2, 1) := by decide +kernel
theorem dL_law_315 : decode cL_law 315 = .ok (.aload_n 0, 1) := by decide +kernel
theorem dL_law_316 : decode cL_law 316 = .ok (.iload_n 3, 1) := by decide +kernel
theorem dL_law_317 : decode cL_law 317 = .ok (.iconst 1, 1) := by decide +kernel
theorem dL_law_318 : decode cL_law 318 = .ok (.iadd, 1) := by decide +kernel
theorem dL_law_319 : decode cL_law 319 = .ok (.iaload, 1) := by decide +kernel
theorem dL_law_320 : decode cL_law 320 = .ok (.aload_n 0, 1) := by decide +kernel
theorem dL_law_321 : decode cL_law 321 = .ok (.iload_n 3, 1) := by decide +kernel
theorem dL_law_322 : decode cL_law 322 = .ok (.iconst 2, 1) := by decide +kernel
theorem dL_law_323 : decode cL_law 323 = .ok (.iadd, 1) := by decide +kernel
theorem dL_law_324 : decode cL_law 324 = .ok (.iaload, 1) := by decide +kernel
theorem dL_law_325 : decode cL_law 325 = .ok (.invokevirtual 39, 3) := by decide +kernel
theorem dL_law_328 : decode cL_law 328 = .ok (.pop, 1) := by decide +kernel
theorem dL_law_329 : decode cL_law 329 = .ok (.goto 647, 3) := by decide +kernel
theorem dL_law_332 : decode cL_law 332 = .ok (.aload_n 1, 1) := by decide +kernel
theorem dL_law_333 : decode cL_law 333 = .ok (.aload_n 0, 1) := by decide +kernel
theorem dL_law_334 : decode cL_law 334 = .ok (.iload_n 3, 1) := by decide +kernel
theorem dL_law_335 : decode cL_law 335 = .ok (.iconst 1, 1) := by decide +kernel
theorem dL_law_336 : decode cL_law 336 = .ok (.iadd, 1) := by decide +kernel
theorem dL_law_337 : decode cL_law 337 = .ok (.iaload, 1) := by decide +kernel
theorem dL_law_338 : decode cL_law 338 = .ok (.aload_n 0, 1) := by decide +kernel
theorem dL_law_339 : decode cL_law 339 = .ok (.iload_n 3, 1) := by decide +kernel
theorem dL_law_340 : decode cL_law 340 = .ok (.iconst 2, 1) := by decide +kernel
theorem dL_law_341 : decode cL_law 341 = .ok (.iadd, 1) := by decide +kernel
theorem dL_law_342 : decode cL_law 342 = .ok (.iaload, 1) := by decide +kernel
theorem dL_law_343 : decode cL_law 343 = .ok (.invokevirtual 40, 3) := by decide +kernel
theorem dL_law_346 : decode cL_law 346 = .ok (.pop2, 1) := by decide +kernel
theorem dL_law_347 : decode cL_law 347 = .ok (.aload_n 2, 1) := by decide +kernel
theorem dL_law_348 : decode cL_law 348 = .ok (.aload_n 0, 1) := by decide +kernel
theorem dL_law_349 : decode cL_law 349 = .ok (.iload_n 3, 1) := by decide +kernel
theorem dL_law_350 : decode cL_law 350 = .ok (.iconst 1, 1) := by decide +kernel
theorem dL_law_351 : decode cL_law 351 = .ok (.iadd, 1) := by decide +kernel
theorem dL_law_352 : decode cL_law 352 = .ok (.iaload, 1) := by decide +kernel
theorem dL_law_353 : decode cL_law 353 = .ok (.aload_n 0, 1) := by decide +kernel
theorem dL_law_354 : decode cL_law 354 = .ok (.iload_n 3, 1) := by decide +kernel
theorem dL_law_355 : decode cL_law 355 = .ok (.iconst 2, 1) := by decide +kernel
theorem dL_law_356 : decode cL_law 356 = .ok (.iadd, 1) := by decide +kernel
theorem dL_law_357 : decode cL_law 357 = .ok (.iaload, 1) := by decide +kernel
theorem dL_law_358 : decode cL_law 358 = .ok (.invokevirtual 44, 3) := by decide +kernel
theorem dL_law_361 : decode cL_law 361 = .ok (.pop2, 1) := by decide +kernel
theorem dL_law_362 : decode cL_law 362 = .ok (.goto 614, 3) := by decide +kernel
theorem dL_law_365 : decode cL_law 365 = .ok (.aload_n 1, 1) := by decide +kernel
theorem dL_law_366 : decode cL_law 366 = .ok (.aload_n 0, 1) := by decide +kernel
theorem dL_law_367 : decode cL_law 367 = .ok (.iload_n 3, 1) := by decide +kernel
theorem dL_law_368 : decode cL_law 368 = .ok (.iconst 1, 1) := by decide +kernel
theorem dL_law_369 : decode cL_law 369 = .ok (.iadd, 1) := by decide +kernel
theorem dL_law_370 : decode cL_law 370 = .ok (.iaload, 1) := by decide +kernel
theorem dL_law_371 : decode cL_law 371 = .ok (.aload_n 0, 1) := by decide +kernel
theorem dL_law_372 : decode cL_law 372 = .ok (.iload_n 3, 1) := by decide +kernel
theorem dL_law_373 : decode cL_law 373 = .ok (.iconst 2, 1) := by decide +kernel
theorem dL_law_374 : decode cL_law 374 = .ok (.iadd, 1) := by decide +kernel
theorem dL_law_375 : decode cL_law 375 = .ok (.iaload, 1) := by decide +kernel
theorem dL_law_376 : decode cL_law 376 = .ok (.aload_n 0, 1) := by decide +kernel
theorem dL_law_377 : decode cL_law 377 = .ok (.iload_n 3, 1) := by decide +kernel
theorem dL_law_378 : decode cL_law 378 = .ok (.iconst 3, 1) := by decide +kernel
theorem dL_law_379 : decode cL_law 379 = .ok (.iadd, 1) := by decide +kernel
theorem dL_law_380 : decode cL_law 380 = .ok (.iaload, 1) := by decide +kernel
theorem dL_law_381 : decode cL_law 381 = .ok (.i2l, 1) := by decide +kernel
theorem dL_law_382 : decode cL_law 382 = .ok (.bipush 32, 2) := by decide +kernel
theorem dL_law_384 : decode cL_law 384 = .ok (.lshl, 1) := by decide +kernel
theorem dL_law_385 : decode cL_law 385 = .ok (.aload_n 0, 1) := by decide +kernel
theorem dL_law_386 : decode cL_law 386 = .ok (.iload_n 3, 1) := by decide +kernel
theorem dL_law_387 : decode cL_law 387 = .ok (.iconst 4, 1) := by decide +kernel
theorem dL_law_388 : decode cL_law 388 = .ok (.iadd, 1) := by decide +kernel
theorem dL_law_389 : decode cL_law 389 = .ok (.iaload, 1) := by decide +kernel
theorem dL_law_390 : decode cL_law 390 = .ok (.i2l, 1) := by decide +kernel
theorem dL_law_391 : decode cL_law 391 = .ok (.ldc2_w 45, 3) := by decide +kernel
theorem dL_law_394 : decode cL_law 394 = .ok (.land, 1) := by decide +kernel
theorem dL_law_395 : decode cL_law 395 = .ok (.lor, 1) := by decide +kernel
theorem dL_law_396 : decode cL_law 396 = .ok (.invokevirtual 47, 3) := by decide +kernel
theorem dL_law_399 : decode cL_law 399 = .ok (.pop, 1) := by decide +kernel
theorem dL_law_400 : decode cL_law 400 = .ok (.aload_n 2, 1) := by decide +kernel
theorem dL_law_401 : decode cL_law 401 = .ok (.aload_n 0, 1) := by decide +kernel
theorem dL_law_402 : decode cL_law 402 = .ok (.iload_n 3, 1) := by decide +kernel
end
section
theorem dL_law_403 : decode cL_law 403 = .ok (.iconst 1, 1) := by decide +kernel
theorem dL_law_404 : decode cL_law 404 = .ok (.iadd, 1) := by decide +kernel
theorem dL_law_405 : decode cL_law 405 = .ok (.iaload, 1) := by decide +kernel
theorem dL_law_406 : decode cL_law 406 = .ok (.aload_n 0, 1) := by decide +kernel
theorem dL_law_407 : decode cL_law 407 = .ok (.iload_n 3, 1) := by decide +kernel
theorem dL_law_408 : decode cL_law 408 = .ok (.iconst 2, 1) := by decide +kernel
theorem dL_law_409 : decode cL_law 409 = .ok (.iadd, 1) := by decide +kernel
theorem dL_law_410 : decode cL_law 410 = .ok (.iaload, 1) := by decide +kernel
theorem dL_law_411 : decode cL_law 411 = .ok (.aload_n 0, 1) := by decide +kernel
theorem dL_law_412 : decode cL_law 412 = .ok (.iload_n 3, 1) := by decide +kernel
theorem dL_law_413 : decode cL_law 413 = .ok (.iconst 3, 1) := by decide +kernel
theorem dL_law_414 : decode cL_law 414 = .ok (.iadd, 1) := by decide +kernel
theorem dL_law_415 : decode cL_law 415 = .ok (.iaload, 1) := by decide +kernel
theorem dL_law_416 : decode cL_law 416 = .ok (.i2l, 1) := by decide +kernel
theorem dL_law_417 : decode cL_law 417 = .ok (.bipush 32, 2) := by decide +kernel
theorem dL_law_419 : decode cL_law 419 = .ok (.lshl, 1) := by decide +kernel
theorem dL_law_420 : decode cL_law 420 = .ok (.aload_n 0, 1) := by decide +kernel
theorem dL_law_421 : decode cL_law 421 = .ok (.iload_n 3, 1) := by decide +kernel
theorem dL_law_422 : decode cL_law 422 = .ok (.iconst 4, 1) := by decide +kernel
theorem dL_law_423 : decode cL_law 423 = .ok (.iadd, 1) := by decide +kernel
theorem dL_law_424 : decode cL_law 424 = .ok (.iaload, 1) := by decide +kernel
theorem dL_law_425 : decode cL_law 425 = .ok (.i2l, 1) := by decide +kernel
theorem dL_law_426 : decode cL_law 426 = .ok (.ldc2_w 45, 3) := by decide +kernel
theorem dL_law_429 : decode cL_law 429 = .ok (.land, 1) := by decide +kernel
theorem dL_law_430 : decode cL_law 430 = .ok (.lor, 1) := by decide +kernel
theorem dL_law_431 : decode cL_law 431 = .ok (.invokevirtual 51, 3) := by decide +kernel
theorem dL_law_434 : decode cL_law 434 = .ok (.pop, 1) := by decide +kernel
theorem dL_law_435 : decode cL_law 435 = .ok (.goto 541, 3) := by decide +kernel
theorem dL_law_438 : decode cL_law 438 = .ok (.aload_n 1, 1) := by decide +kernel
theorem dL_law_439 : decode cL_law 439 = .ok (.aload_n 0, 1) := by decide +kernel
theorem dL_law_440 : decode cL_law 440 = .ok (.iload_n 3, 1) := by decide +kernel
theorem dL_law_441 : decode cL_law 441 = .ok (.iconst 1, 1) := by decide +kernel
theorem dL_law_442 : decode cL_law 442 = .ok (.iadd, 1) := by decide +kernel
theorem dL_law_443 : decode cL_law 443 = .ok (.iaload, 1) := by decide +kernel
theorem dL_law_444 : decode cL_law 444 = .ok (.aload_n 0, 1) := by decide +kernel
theorem dL_law_445 : decode cL_law 445 = .ok (.iload_n 3, 1) := by decide +kernel
theorem dL_law_446 : decode cL_law 446 = .ok (.iconst 2, 1) := by decide +kernel
theorem dL_law_447 : decode cL_law 447 = .ok (.iadd, 1) := by decide +kernel
theorem dL_law_448 : decode cL_law 448 = .ok (.iaload, 1) := by decide +kernel
theorem dL_law_449 : decode cL_law 449 = .ok (.aload_n 0, 1) := by decide +kernel
theorem dL_law_450 : decode cL_law 450 = .ok (.iload_n 3, 1) := by decide +kernel
theorem dL_law_451 : decode cL_law 451 = .ok (.iconst 3, 1) := by decide +kernel
theorem dL_law_452 : decode cL_law 452 = .ok (.iadd, 1) := by decide +kernel
theorem dL_law_453 : decode cL_law 453 = .ok (.iaload, 1) := by decide +kernel
theorem dL_law_454 : decode cL_law 454 = .ok (.invokevirtual 52, 3) := by decide +kernel
theorem dL_law_457 : decode cL_law 457 = .ok (.pop, 1) := by decide +kernel
theorem dL_law_458 : decode cL_law 458 = .ok (.aload_n 2, 1) := by decide +kernel
theorem dL_law_459 : decode cL_law 459 = .ok (.aload_n 0, 1) := by decide +kernel
theorem dL_law_460 : decode cL_law 460 = .ok (.iload_n 3, 1) := by decide +kernel
theorem dL_law_461 : decode cL_law 461 = .ok (.iconst 1, 1) := by decide +kernel
theorem dL_law_462 : decode cL_law 462 = .ok (.iadd, 1) := by decide +kernel
theorem dL_law_463 : decode cL_law 463 = .ok (.iaload, 1) := by decide +kernel
theorem dL_law_464 : decode cL_law 464 = .ok (.aload_n 0, 1) := by decide +kernel
theorem dL_law_465 : decode cL_law 465 = .ok (.iload_n 3, 1) := by decide +kernel
theorem dL_law_466 : decode cL_law 466 = .ok (.iconst 2, 1) := by decide +kernel
theorem dL_law_467 : decode cL_law 467 = .ok (.iadd, 1) := by decide +kernel
theorem dL_law_468 : decode cL_law 468 = .ok (.iaload, 1) := by decide +kernel
theorem dL_law_469 : decode cL_law 469 = .ok (.aload_n 0, 1) := by decide +kernel
theorem dL_law_470 : decode cL_law 470 = .ok (.iload_n 3, 1) := by decide +kernel
theorem dL_law_471 : decode cL_law 471 = .ok (.iconst 3, 1) := by decide +kernel
theorem dL_law_472 : decode cL_law 472 = .ok (.iadd, 1) := by decide +kernel
theorem dL_law_473 : decode cL_law 473 = .ok (.iaload, 1) := by decide +kernel
theorem dL_law_474 : decode cL_law 474 = .ok (.invokevirtual 55, 3) := by decide +kernel
theorem dL_law_477 : decode cL_law 477 = .ok (.pop, 1) := by decide +kernel
theorem dL_law_478 : decode cL_law 478 = .ok (.goto 498, 3) := by decide +kernel
theorem dL_law_481 : decode cL_law 481 = .ok (.aload_n 1, 1) := by decide +kernel
theorem dL_law_482 : decode cL_law 482 = .ok (.aload_n 0, 1) := by decide +kernel
theorem dL_law_483 : decode cL_law 483 = .ok (.iload_n 3, 1) := by decide +kernel
theorem dL_law_484 : decode cL_law 484 = .ok (.iconst 1, 1) := by decide +kernel
theorem dL_law_485 : decode cL_law 485 = .ok (.iadd, 1) := by decide +kernel
theorem dL_law_486 : decode cL_law 486 = .ok (.iaload, 1) := by decide +kernel
theorem dL_law_487 : decode cL_law 487 = .ok (.aload_n 0, 1) := by decide +kernel
theorem dL_law_488 : decode cL_law 488 = .ok (.iload_n 3, 1) := by decide +kernel
theorem dL_law_489 : decode cL_law 489 = .ok (.iconst 2, 1) := by decide +kernel
theorem dL_law_490 : decode cL_law 490 = .ok (.iadd, 1) := by decide +kernel
theorem dL_law_491 : decode cL_law 491 = .ok (.iaload, 1) := by decide +kernel
theorem dL_law_492 : decode cL_law 492 = .ok (.aload_n 0, 1) := by decide +kernel
theorem dL_law_493 : decode cL_law 493 = .ok (.iload_n 3, 1) := by decide +kernel
theorem dL_law_494 : decode cL_law 494 = .ok (.iconst 3, 1) := by decide +kernel
theorem dL_law_495 : decode cL_law 495 = .ok (.iadd, 1) := by decide +kernel
theorem dL_law_496 : decode cL_law 496 = .ok (.iaload, 1) := by decide +kernel
theorem dL_law_497 : decode cL_law 497 = .ok (.invokevirtual 56, 3) := by decide +kernel
theorem dL_law_500 : decode cL_law 500 = .ok (.pop, 1) := by decide +kernel
theorem dL_law_501 : decode cL_law 501 = .ok (.aload_n 2, 1) := by decide +kernel
theorem dL_law_502 : decode cL_law 502 = .ok (.aload_n 0, 1) := by decide +kernel
theorem dL_law_503 : decode cL_law 503 = .ok (.iload_n 3, 1) := by decide +kernel
theorem dL_law_504 : decode cL_law 504 = .ok (.iconst 1, 1) := by decide +kernel
theorem dL_law_505 : decode cL_law 505 = .ok (.iadd, 1) := by decide +kernel
theorem dL_law_506 : decode cL_law 506 = .ok (.iaload, 1) := by decide +kernel
theorem dL_law_507 : decode cL_law 507 = .ok (.aload_n 0, 1) := by decide +kernel
theorem dL_law_508 : decode cL_law 508 = .ok (.iload_n 3, 1) := by decide +kernel
theorem dL_law_509 : decode cL_law 509 = .ok (.iconst 2, 1) := by decide +kernel
theorem dL_law_510 : decode cL_law 510 = .ok (.iadd, 1) := by decide +kernel
theorem dL_law_511 : decode cL_law 511 = .ok (.iaload, 1) := by decide +kernel
theorem dL_law_512 : decode cL_law 512 = .ok (.aload_n 0, 1) := by decide +kernel
theorem dL_law_513 : decode cL_law 513 = .ok (.iload_n 3, 1) := by decide +kernel
theorem dL_law_514 : decode cL_law 514 = .ok (.iconst 3, 1) := by decide +kernel
theorem dL_law_515 : decode cL_law 515 = .ok (.iadd, 1) := by decide +kernel
theorem dL_law_516 : decode cL_law 516 = .ok (.iaload, 1) := by decide +kernel
theorem dL_law_517 : decode cL_law 517 = .ok (.invokevirtual 59, 3) := by decide +kernel
theorem dL_law_520 : decode cL_law 520 = .ok (.pop, 1) := by decide +kernel
theorem dL_law_521 : decode cL_law 521 = .ok (.goto 455, 3) := by decide +kernel
theorem dL_law_524 : decode cL_law 524 = .ok (.aload_n 1, 1) := by decide +kernel
theorem dL_law_525 : decode cL_law 525 = .ok (.aload_n 0, 1) := by decide +kernel
theorem dL_law_526 : decode cL_law 526 = .ok (.iload_n 3, 1) := by decide +kernel
theorem dL_law_527 : decode cL_law 527 = .ok (.iconst 1, 1) := by decide +kernel
theorem dL_law_528 : decode cL_law 528 = .ok (.iadd, 1) := by decide +kernel
theorem dL_law_529 : decode cL_law 529 = .ok (.iaload, 1) := by decide +kernel
theorem dL_law_530 : decode cL_law 530 = .ok (.aload_n 0, 1) := by decide +kernel
theorem dL_law_531 : decode cL_law 531 = .ok (.iload_n 3, 1) := by decide +kernel
theorem dL_law_532 : decode cL_law 532 = .ok (.iconst 2, 1) := by decide +kernel
theorem dL_law_533 : decode cL_law 533 = .ok (.iadd, 1) := by decide +kernel
theorem dL_law_534 : decode cL_law 534 = .ok (.iaload, 1) := by decide +kernel
theorem dL_law_535 : decode cL_law 535 = .ok (.invokevirtual 60, 3) := by decide +kernel
theorem dL_law_538 : decode cL_law 538 = .ok (.pop, 1) := by decide +kernel
theorem dL_law_539 : decode cL_law 539 = .ok (.aload_n 2, 1) := by decide +kernel
theorem dL_law_540 : decode cL_law 540 = .ok (.aload_n 0, 1) := by decide +kernel
theorem dL_law_541 : decode cL_law 541 = .ok (.iload_n 3, 1) := by decide +kernel
theorem dL_law_542 : decode cL_law 542 = .ok (.iconst 1, 1) := by decide +kernel
theorem dL_law_543 : decode cL_law 543 = .ok (.iadd, 1) := by decide +kernel
theorem dL_law_544 : decode cL_law 544 = .ok (.iaload, 1) := by decide +kernel
theorem dL_law_545 : decode cL_law 545 = .ok (.aload_n 0, 1) := by decide +kernel
theorem dL_law_546 : decode cL_law 546 = .ok (.iload_n 3, 1) := by decide +kernel
theorem dL_law_547 : decode cL_law 547 = .ok (.iconst 2, 1) := by decide +kernel
theorem dL_law_548 : decode cL_law 548 = .ok (.iadd, 1) := by decide +kernel
theorem dL_law_549 : decode cL_law 549 = .ok (.iaload, 1) := by decide +kernel
theorem dL_law_550 : decode cL_law 550 = .ok (.invokevirtual 63, 3) := by decide +kernel
theorem dL_law_553 : decode cL_law 553 = .ok (.pop, 1) := by decide +kernel
theorem dL_law_554 : decode cL_law 554 = .ok (.goto 422, 3) := by decide +kernel
theorem dL_law_557 : decode cL_law 557 = .ok (.aload_n 1, 1) := by decide +kernel
theorem dL_law_558 : decode cL_law 558 = .ok (.aload_n 0, 1) := by decide +kernel
theorem dL_law_559 : decode cL_law 559 = .ok (.iload_n 3, 1) := by decide +kernel
theorem dL_law_560 : decode cL_law 560 = .ok (.iconst 1, 1) := by decide +kernel
theorem dL_law_561 : decode cL_law 561 = .ok (.iadd, 1) := by decide +kernel
theorem dL_law_562 : decode cL_law 562 = .ok (.iaload, 1) := by decide +kernel
theorem dL_law_563 : decode cL_law 563 = .ok (.aload_n 0, 1) := by decide +kernel
theorem dL_law_564 : decode cL_law 564 = .ok (.iload_n 3, 1) := by decide +kernel
theorem dL_law_565 : decode cL_law 565 = .ok (.iconst 2, 1) := by decide +kernel
theorem dL_law_566 : decode cL_law 566 = .ok (.iadd, 1) := by decide +kernel
theorem dL_law_567 : decode cL_law 567 = .ok (.iaload, 1) := by decide +kernel
theorem dL_law_568 : decode cL_law 568 = .ok (.aload_n 0, 1) := by decide +kernel
theorem dL_law_569 : decode cL_law 569 = .ok (.iload_n 3, 1) := by decide +kernel
theorem dL_law_570 : decode cL_law 570 = .ok (.iconst 3, 1) := by decide +kernel
theorem dL_law_571 : decode cL_law 571 = .ok (.iadd, 1) := by decide +kernel
theorem dL_law_572 : decode cL_law 572 = .ok (.iaload, 1) := by decide +kernel
theorem dL_law_573 : decode cL_law 573 = .ok (.invokevirtual 64, 3) := by decide +kernel
theorem dL_law_576 : decode cL_law 576 = .ok (.pop, 1) := by decide +kernel
theorem dL_law_577 : decode cL_law 577 = .ok (.aload_n 2, 1) := by decide +kernel
theorem dL_law_578 : decode cL_law 578 = .ok (.aload_n 0, 1) := by decide +kernel
theorem dL_law_579 : decode cL_law 579 = .ok (.iload_n 3, 1) := by decide +kernel
theorem dL_law_580 : decode cL_law 580 = .ok (.iconst 1, 1) := by decide +kernel
theorem dL_law_581 : decode cL_law 581 = .ok (.iadd, 1) := by decide +kernel
theorem dL_law_582 : decode cL_law 582 = .ok (.iaload, 1) := by decide +kernel
theorem dL_law_583 : decode cL_law 583 = .ok (.aload_n 0, 1) := by decide +kernel
theorem dL_law_584 : decode cL_law 584 = .ok (.iload_n 3, 1) := by decide +kernel
theorem dL_law_585 : decode cL_law 585 = .ok (.iconst 2, 1) := by decide +kernel
theorem dL_law_586 : decode cL_law 586 = .ok (.iadd, 1) := by decide +kernel
theorem dL_law_587 : decode cL_law 587 = .ok (.iaload, 1) := by decide +kernel
theorem dL_law_588 : decode cL_law 588 = .ok (.aload_n 0, 1) := by decide +kernel
theorem dL_law_589 : decode cL_law 589 = .ok (.iload_n 3, 1) := by decide +kernel
theorem dL_law_590 : decode cL_law 590 = .ok (.iconst 3, 1) := by decide +kernel
theorem dL_law_591 : decode cL_law 591 = .ok (.iadd, 1) := by decide +kernel
theorem dL_law_592 : decode cL_law 592 = .ok (.iaload, 1) := by decide +kernel
theorem dL_law_593 : decode cL_law 593 = .ok (.invokevirtual 67, 3) := by decide +kernel
theorem dL_law_596 : decode cL_law 596 = .ok (.pop, 1) := by decide +kernel
theorem dL_law_597 : decode cL_law 597 = .ok (.goto 379, 3) := by decide +kernel
theorem dL_law_600 : decode cL_law 600 = .ok (.aload_n 1, 1) := by decide +kernel
theorem dL_law_601 : decode cL_law 601 = .ok (.aload_n 0, 1) := by decide +kernel
theorem dL_law_602 : decode cL_law 602 = .ok (.iload_n 3, 1) := by decide +kernel
theorem dL_law_603 : decode cL_law 603 = .ok (.iconst 1, 1) := by decide +kernel
theorem dL_law_604 : decode cL_law 604 = .ok (.iadd, 1) := by decide +kernel
theorem dL_law_605 : decode cL_law 605 = .ok (.iaload, 1) := by decide +kernel
theorem dL_law_606 : decode cL_law 606 = .ok (.invokevirtual 68, 3) := by decide +kernel
theorem dL_law_609 : decode cL_law 609 = .ok (.pop, 1) := by decide +kernel
theorem dL_law_610 : decode cL_law 610 = .ok (.aload_n 2, 1) := by decide +kernel
theorem dL_law_611 : decode cL_law 611 = .ok (.aload_n 0, 1) := by decide +kernel
theorem dL_law_612 : decode cL_law 612 = .ok (.iload_n 3, 1) := by decide +kernel
theorem dL_law_613 : decode cL_law 613 = .ok (.iconst 1, 1) := by decide +kernel
theorem dL_law_614 : decode cL_law 614 = .ok (.iadd, 1) := by decide +kernel
theorem dL_law_615 : decode cL_law 615 = .ok (.iaload, 1) := by decide +kernel
theorem dL_law_616 : decode cL_law 616 = .ok (.invokevirtual 71, 3) := by decide +kernel
theorem dL_law_619 : decode cL_law 619 = .ok (.pop, 1) := by decide +kernel
theorem dL_law_620 : decode cL_law 620 = .ok (.goto 356, 3) := by decide +kernel
theorem dL_law_623 : decode cL_law 623 = .ok (.aload_n 1, 1) := by decide +kernel
theorem dL_law_624 : decode cL_law 624 = .ok (.aload_n 0, 1) := by decide +kernel
theorem dL_law_625 : decode cL_law 625 = .ok (.iload_n 3, 1) := by decide +kernel
theorem dL_law_626 : decode cL_law 626 = .ok (.iconst 1, 1) := by decide +kernel
theorem dL_law_627 : decode cL_law 627 = .ok (.iadd, 1) := by decide +kernel
theorem dL_law_628 : decode cL_law 628 = .ok (.iaload, 1) := by decide +kernel
theorem dL_law_629 : decode cL_law 629 = .ok (.aload_n 0, 1) := by decide +kernel
theorem dL_law_630 : decode cL_law 630 = .ok (.iload_n 3, 1) := by decide +kernel
theorem dL_law_631 : decode cL_law 631 = .ok (.iconst 2, 1) := by decide +kernel
theorem dL_law_632 : decode cL_law 632 = .ok (.iadd, 1) := by decide +kernel
theorem dL_law_633 : decode cL_law 633 = .ok (.iaload, 1) := by decide +kernel
theorem dL_law_634 : decode cL_law 634 = .ok (.invokevirtual 72, 3) := by decide +kernel
theorem dL_law_637 : decode cL_law 637 = .ok (.pop2, 1) := by decide +kernel
theorem dL_law_638 : decode cL_law 638 = .ok (.aload_n 2, 1) := by decide +kernel
theorem dL_law_639 : decode cL_law 639 = .ok (.aload_n 0, 1) := by decide +kernel
theorem dL_law_640 : decode cL_law 640 = .ok (.iload_n 3, 1) := by decide +kernel
theorem dL_law_641 : decode cL_law 641 = .ok (.iconst 1, 1) := by decide +kernel
theorem dL_law_642 : decode cL_law 642 = .ok (.iadd, 1) := by decide +kernel
theorem dL_law_643 : decode cL_law 643 = .ok (.iaload, 1) := by decide +kernel
theorem dL_law_644 : decode cL_law 644 = .ok (.aload_n 0, 1) := by decide +kernel
theorem dL_law_645 : decode cL_law 645 = .ok (.iload_n 3, 1) := by decide +kernel
theorem dL_law_646 : decode cL_law 646 = .ok (.iconst 2, 1) := by decide +kernel
theorem dL_law_647 : decode cL_law 647 = .ok (.iadd, 1) := by decide +kernel
theorem dL_law_648 : decode cL_law 648 = .ok (.iaload, 1) := by decide +kernel
theorem dL_law_649 : decode cL_law 649 = .ok (.invokevirtual 75, 3) := by decide +kernel
theorem dL_law_652 : decode cL_law 652 = .ok (.pop2, 1) := by decide +kernel
theorem dL_law_653 : decode cL_law 653 = .ok (.goto 323, 3) := by decide +kernel
theorem dL_law_656 : decode cL_law 656 = .ok (.aload_n 1, 1) := by decide +kernel
theorem dL_law_657 : decode cL_law 657 = .ok (.aload_n 0, 1) := by decide +kernel
theorem dL_law_658 : decode cL_law 658 = .ok (.iload_n 3, 1) := by decide +kernel
theorem dL_law_659 : decode cL_law 659 = .ok (.iconst 1, 1) := by decide +kernel
theorem dL_law_660 : decode cL_law 660 = .ok (.iadd, 1) := by decide +kernel
theorem dL_law_661 : decode cL_law 661 = .ok (.iaload, 1) := by decide +kernel
theorem dL_law_662 : decode cL_law 662 = .ok (.aload_n 0, 1) := by decide +kernel
theorem dL_law_663 : decode cL_law 663 = .ok (.iload_n 3, 1) := by decide +kernel
theorem dL_law_664 : decode cL_law 664 = .ok (.iconst 2, 1) := by decide +kernel
theorem dL_law_665 : decode cL_law 665 = .ok (.iadd, 1) := by decide +kernel
theorem dL_law_666 : decode cL_law 666 = .ok (.iaload, 1) := by decide +kernel
theorem dL_law_667 : decode cL_law 667 = .ok (.invokevirtual 76, 3) := by decide +kernel
theorem dL_law_670 : decode cL_law 670 = .ok (.pop, 1) := by decide +kernel
theorem dL_law_671 : decode cL_law 671 = .ok (.aload_n 2, 1) := by decide +kernel
theorem dL_law_672 : decode cL_law 672 = .ok (.aload_n 0, 1) := by decide +kernel
theorem dL_law_673 : decode cL_law 673 = .ok (.iload_n 3, 1) := by decide +kernel
theorem dL_law_674 : decode cL_law 674 = .ok (.iconst 1, 1) := by decide +kernel
theorem dL_law_675 : decode cL_law 675 = .ok (.iadd, 1) := by decide +kernel
theorem dL_law_676 : decode cL_law 676 = .ok (.iaload, 1) := by decide +kernel
theorem dL_law_677 : decode cL_law 677 = .ok (.aload_n 0, 1) := by decide +kernel
theorem dL_law_678 : decode cL_law 678 = .ok (.iload_n 3, 1) := by decide +kernel
theorem dL_law_679 : decode cL_law 679 = .ok (.iconst 2, 1) := by decide +kernel
theorem dL_law_680 : decode cL_law 680 = .ok (.iadd, 1) := by decide +kernel
theorem dL_law_681 : decode cL_law 681 = .ok (.iaload, 1) := by decide +kernel
end
section
theorem dL_law_682 : decode cL_law 682 = .ok (.invokevirtual 79, 3) := by decide +kernel
theorem dL_law_685 : decode cL_law 685 = .ok (.pop, 1) := by decide +kernel
theorem dL_law_686 : decode cL_law 686 = .ok (.goto 290, 3) := by decide +kernel
theorem dL_law_689 : decode cL_law 689 = .ok (.aload_n 1, 1) := by decide +kernel
theorem dL_law_690 : decode cL_law 690 = .ok (.aload_n 0, 1) := by decide +kernel
theorem dL_law_691 : decode cL_law 691 = .ok (.iload_n 3, 1) := by decide +kernel
theorem dL_law_692 : decode cL_law 692 = .ok (.iconst 1, 1) := by decide +kernel
theorem dL_law_693 : decode cL_law 693 = .ok (.iadd, 1) := by decide +kernel
theorem dL_law_694 : decode cL_law 694 = .ok (.iaload, 1) := by decide +kernel
theorem dL_law_695 : decode cL_law 695 = .ok (.invokevirtual 80, 3) := by decide +kernel
theorem dL_law_698 : decode cL_law 698 = .ok (.pop, 1) := by decide +kernel
theorem dL_law_699 : decode cL_law 699 = .ok (.aload_n 2, 1) := by decide +kernel
theorem dL_law_700 : decode cL_law 700 = .ok (.aload_n 0, 1) := by decide +kernel
theorem dL_law_701 : decode cL_law 701 = .ok (.iload_n 3, 1) := by decide +kernel
theorem dL_law_702 : decode cL_law 702 = .ok (.iconst 1, 1) := by decide +kernel
theorem dL_law_703 : decode cL_law 703 = .ok (.iadd, 1) := by decide +kernel
theorem dL_law_704 : decode cL_law 704 = .ok (.iaload, 1) := by decide +kernel
theorem dL_law_705 : decode cL_law 705 = .ok (.invokevirtual 83, 3) := by decide +kernel
theorem dL_law_708 : decode cL_law 708 = .ok (.pop, 1) := by decide +kernel
theorem dL_law_709 : decode cL_law 709 = .ok (.goto 267, 3) := by decide +kernel
theorem dL_law_712 : decode cL_law 712 = .ok (.aload_n 1, 1) := by decide +kernel
theorem dL_law_713 : decode cL_law 713 = .ok (.aload_n 0, 1) := by decide +kernel
theorem dL_law_714 : decode cL_law 714 = .ok (.iload_n 3, 1) := by decide +kernel
theorem dL_law_715 : decode cL_law 715 = .ok (.iconst 1, 1) := by decide +kernel
theorem dL_law_716 : decode cL_law 716 = .ok (.iadd, 1) := by decide +kernel
theorem dL_law_717 : decode cL_law 717 = .ok (.iaload, 1) := by decide +kernel
theorem dL_law_718 : decode cL_law 718 = .ok (.aload_n 0, 1) := by decide +kernel
theorem dL_law_719 : decode cL_law 719 = .ok (.iload_n 3, 1) := by decide +kernel
theorem dL_law_720 : decode cL_law 720 = .ok (.iconst 2, 1) := by decide +kernel
theorem dL_law_721 : decode cL_law 721 = .ok (.iadd, 1) := by decide +kernel
theorem dL_law_722 : decode cL_law 722 = .ok (.iaload, 1) := by decide +kernel
theorem dL_law_723 : decode cL_law 723 = .ok (.invokevirtual 84, 3) := by decide +kernel
theorem dL_law_726 : decode cL_law 726 = .ok (.pop, 1) := by decide +kernel
theorem dL_law_727 : decode cL_law 727 = .ok (.aload_n 2, 1) := by decide +kernel
theorem dL_law_728 : decode cL_law 728 = .ok (.aload_n 0, 1) := by decide +kernel
theorem dL_law_729 : decode cL_law 729 = .ok (.iload_n 3, 1) := by decide +kernel
theorem dL_law_730 : decode cL_law 730 = .ok (.iconst 1, 1) := by decide +kernel
theorem dL_law_731 : decode cL_law 731 = .ok (.iadd, 1) := by decide +kernel
theorem dL_law_732 : decode cL_law 732 = .ok (.iaload, 1) := by decide +kernel
theorem dL_law_733 : decode cL_law 733 = .ok (.aload_n 0, 1) := by decide +kernel
theorem dL_law_734 : decode cL_law 734 = .ok (.iload_n 3, 1) := by decide +kernel
theorem dL_law_735 : decode cL_law 735 = .ok (.iconst 2, 1) := by decide +kernel
theorem dL_law_736 : decode cL_law 736 = .ok (.iadd, 1) := by decide +kernel
theorem dL_law_737 : decode cL_law 737 = .ok (.iaload, 1) := by decide +kernel
theorem dL_law_738 : decode cL_law 738 = .ok (.invokevirtual 87, 3) := by decide +kernel
theorem dL_law_741 : decode cL_law 741 = .ok (.pop, 1) := by decide +kernel
theorem dL_law_742 : decode cL_law 742 = .ok (.goto 234, 3) := by decide +kernel
theorem dL_law_745 : decode cL_law 745 = .ok (.aload_n 1, 1) := by decide +kernel
theorem dL_law_746 : decode cL_law 746 = .ok (.invokevirtual 88, 3) := by decide +kernel
theorem dL_law_749 : decode cL_law 749 = .ok (.pop, 1) := by decide +kernel
theorem dL_law_750 : decode cL_law 750 = .ok (.aload_n 2, 1) := by decide +kernel
theorem dL_law_751 : decode cL_law 751 = .ok (.invokevirtual 92, 3) := by decide +kernel
theorem dL_law_754 : decode cL_law 754 = .ok (.pop, 1) := by decide +kernel
theorem dL_law_755 : decode cL_law 755 = .ok (.goto 221, 3) := by decide +kernel
theorem dL_law_758 : decode cL_law 758 = .ok (.aload_n 1, 1) := by decide +kernel
theorem dL_law_759 : decode cL_law 759 = .ok (.aload_n 0, 1) := by decide +kernel
theorem dL_law_760 : decode cL_law 760 = .ok (.iload_n 3, 1) := by decide +kernel
theorem dL_law_761 : decode cL_law 761 = .ok (.iconst 1, 1) := by decide +kernel
theorem dL_law_762 : decode cL_law 762 = .ok (.iadd, 1) := by decide +kernel
theorem dL_law_763 : decode cL_law 763 = .ok (.iaload, 1) := by decide +kernel
theorem dL_law_764 : decode cL_law 764 = .ok (.invokevirtual 93, 3) := by decide +kernel
theorem dL_law_767 : decode cL_law 767 = .ok (.pop, 1) := by decide +kernel
theorem dL_law_768 : decode cL_law 768 = .ok (.aload_n 2, 1) := by decide +kernel
theorem dL_law_769 : decode cL_law 769 = .ok (.aload_n 0, 1) := by decide +kernel
theorem dL_law_770 : decode cL_law 770 = .ok (.iload_n 3, 1) := by decide +kernel
theorem dL_law_771 : decode cL_law 771 = .ok (.iconst 1, 1) := by decide +kernel
theorem dL_law_772 : decode cL_law 772 = .ok (.iadd, 1) := by decide +kernel
theorem dL_law_773 : decode cL_law 773 = .ok (.iaload, 1) := by decide +kernel
theorem dL_law_774 : decode cL_law 774 = .ok (.invokevirtual 96, 3) := by decide +kernel
theorem dL_law_777 : decode cL_law 777 = .ok (.pop, 1) := by decide +kernel
theorem dL_law_778 : decode cL_law 778 = .ok (.goto 198, 3) := by decide +kernel
theorem dL_law_781 : decode cL_law 781 = .ok (.aload_n 1, 1) := by decide +kernel
theorem dL_law_782 : decode cL_law 782 = .ok (.aload_n 0, 1) := by decide +kernel
theorem dL_law_783 : decode cL_law 783 = .ok (.iload_n 3, 1) := by decide +kernel
theorem dL_law_784 : decode cL_law 784 = .ok (.iconst 1, 1) := by decide +kernel
theorem dL_law_785 : decode cL_law 785 = .ok (.iadd, 1) := by decide +kernel
theorem dL_law_786 : decode cL_law 786 = .ok (.iaload, 1) := by decide +kernel
theorem dL_law_787 : decode cL_law 787 = .ok (.aload_n 0, 1) := by decide +kernel
theorem dL_law_788 : decode cL_law 788 = .ok (.iload_n 3, 1) := by decide +kernel
theorem dL_law_789 : decode cL_law 789 = .ok (.iconst 2, 1) := by decide +kernel
theorem dL_law_790 : decode cL_law 790 = .ok (.iadd, 1) := by decide +kernel
theorem dL_law_791 : decode cL_law 791 = .ok (.iaload, 1) := by decide +kernel
theorem dL_law_792 : decode cL_law 792 = .ok (.invokevirtual 97, 3) := by decide +kernel
theorem dL_law_795 : decode cL_law 795 = .ok (.pop2, 1) := by decide +kernel
theorem dL_law_796 : decode cL_law 796 = .ok (.aload_n 2, 1) := by decide +kernel
theorem dL_law_797 : decode cL_law 797 = .ok (.aload_n 0, 1) := by decide +kernel
theorem dL_law_798 : decode cL_law 798 = .ok (.iload_n 3, 1) := by decide +kernel
theorem dL_law_799 : decode cL_law 799 = .ok (.iconst 1, 1) := by decide +kernel
theorem dL_law_800 : decode cL_law 800 = .ok (.iadd, 1) := by decide +kernel
theorem dL_law_801 : decode cL_law 801 = .ok (.iaload, 1) := by decide +kernel
theorem dL_law_802 : decode cL_law 802 = .ok (.aload_n 0, 1) := by decide +kernel
theorem dL_law_803 : decode cL_law 803 = .ok (.iload_n 3, 1) := by decide +kernel
theorem dL_law_804 : decode cL_law 804 = .ok (.iconst 2, 1) := by decide +kernel
theorem dL_law_805 : decode cL_law 805 = .ok (.iadd, 1) := by decide +kernel
theorem dL_law_806 : decode cL_law 806 = .ok (.iaload, 1) := by decide +kernel
theorem dL_law_807 : decode cL_law 807 = .ok (.invokevirtual 100, 3) := by decide +kernel
theorem dL_law_810 : decode cL_law 810 = .ok (.pop2, 1) := by decide +kernel
theorem dL_law_811 : decode cL_law 811 = .ok (.goto 165, 3) := by decide +kernel
theorem dL_law_814 : decode cL_law 814 = .ok (.aload_n 1, 1) := by decide +kernel
theorem dL_law_815 : decode cL_law 815 = .ok (.aload_n 0, 1) := by decide +kernel
theorem dL_law_816 : decode cL_law 816 = .ok (.iload_n 3, 1) := by decide +kernel
theorem dL_law_817 : decode cL_law 817 = .ok (.iconst 1, 1) := by decide +kernel
theorem dL_law_818 : decode cL_law 818 = .ok (.iadd, 1) := by decide +kernel
theorem dL_law_819 : decode cL_law 819 = .ok (.iaload, 1) := by decide +kernel
theorem dL_law_820 : decode cL_law 820 = .ok (.aload_n 0, 1) := by decide +kernel
theorem dL_law_821 : decode cL_law 821 = .ok (.iload_n 3, 1) := by decide +kernel
theorem dL_law_822 : decode cL_law 822 = .ok (.iconst 2, 1) := by decide +kernel
theorem dL_law_823 : decode cL_law 823 = .ok (.iadd, 1) := by decide +kernel
theorem dL_law_824 : decode cL_law 824 = .ok (.iaload, 1) := by decide +kernel
theorem dL_law_825 : decode cL_law 825 = .ok (.i2l, 1) := by decide +kernel
theorem dL_law_826 : decode cL_law 826 = .ok (.bipush 32, 2) := by decide +kernel
theorem dL_law_828 : decode cL_law 828 = .ok (.lshl, 1) := by decide +kernel
theorem dL_law_829 : decode cL_law 829 = .ok (.aload_n 0, 1) := by decide +kernel
theorem dL_law_830 : decode cL_law 830 = .ok (.iload_n 3, 1) := by decide +kernel
theorem dL_law_831 : decode cL_law 831 = .ok (.iconst 3, 1) := by decide +kernel
theorem dL_law_832 : decode cL_law 832 = .ok (.iadd, 1) := by decide +kernel
theorem dL_law_833 : decode cL_law 833 = .ok (.iaload, 1) := by decide +kernel
theorem dL_law_834 : decode cL_law 834 = .ok (.i2l, 1) := by decide +kernel
theorem dL_law_835 : decode cL_law 835 = .ok (.ldc2_w 45, 3) := by decide +kernel
theorem dL_law_838 : decode cL_law 838 = .ok (.land, 1) := by decide +kernel
theorem dL_law_839 : decode cL_law 839 = .ok (.lor, 1) := by decide +kernel
theorem dL_law_840 : decode cL_law 840 = .ok (.invokevirtual 101, 3) := by decide +kernel
theorem dL_law_843 : decode cL_law 843 = .ok (.pop, 1) := by decide +kernel
theorem dL_law_844 : decode cL_law 844 = .ok (.aload_n 2, 1) := by decide +kernel
theorem dL_law_845 : decode cL_law 845 = .ok (.aload_n 0, 1) := by decide +kernel
theorem dL_law_846 : decode cL_law 846 = .ok (.iload_n 3, 1) := by decide +kernel
theorem dL_law_847 : decode cL_law 847 = .ok (.iconst 1, 1) := by decide +kernel
theorem dL_law_848 : decode cL_law 848 = .ok (.iadd, 1) := by decide +kernel
theorem dL_law_849 : decode cL_law 849 = .ok (.iaload, 1) := by decide +kernel
theorem dL_law_850 : decode cL_law 850 = .ok (.aload_n 0, 1) := by decide +kernel
theorem dL_law_851 : decode cL_law 851 = .ok (.iload_n 3, 1) := by decide +kernel
theorem dL_law_852 : decode cL_law 852 = .ok (.iconst 2, 1) := by decide +kernel
theorem dL_law_853 : decode cL_law 853 = .ok (.iadd, 1) := by decide +kernel
theorem dL_law_854 : decode cL_law 854 = .ok (.iaload, 1) := by decide +kernel
theorem dL_law_855 : decode cL_law 855 = .ok (.i2l, 1) := by decide +kernel
theorem dL_law_856 : decode cL_law 856 = .ok (.bipush 32, 2) := by decide +kernel
theorem dL_law_858 : decode cL_law 858 = .ok (.lshl, 1) := by decide +kernel
theorem dL_law_859 : decode cL_law 859 = .ok (.aload_n 0, 1) := by decide +kernel
theorem dL_law_860 : decode cL_law 860 = .ok (.iload_n 3, 1) := by decide +kernel
theorem dL_law_861 : decode cL_law 861 = .ok (.iconst 3, 1) := by decide +kernel
theorem dL_law_862 : decode cL_law 862 = .ok (.iadd, 1) := by decide +kernel
theorem dL_law_863 : decode cL_law 863 = .ok (.iaload, 1) := by decide +kernel
theorem dL_law_864 : decode cL_law 864 = .ok (.i2l, 1) := by decide +kernel
theorem dL_law_865 : decode cL_law 865 = .ok (.ldc2_w 45, 3) := by decide +kernel
theorem dL_law_868 : decode cL_law 868 = .ok (.land, 1) := by decide +kernel
theorem dL_law_869 : decode cL_law 869 = .ok (.lor, 1) := by decide +kernel
theorem dL_law_870 : decode cL_law 870 = .ok (.invokevirtual 105, 3) := by decide +kernel
theorem dL_law_873 : decode cL_law 873 = .ok (.pop, 1) := by decide +kernel
theorem dL_law_874 : decode cL_law 874 = .ok (.goto 102, 3) := by decide +kernel
theorem dL_law_877 : decode cL_law 877 = .ok (.aload_n 1, 1) := by decide +kernel
theorem dL_law_878 : decode cL_law 878 = .ok (.aload_n 0, 1) := by decide +kernel
theorem dL_law_879 : decode cL_law 879 = .ok (.iload_n 3, 1) := by decide +kernel
theorem dL_law_880 : decode cL_law 880 = .ok (.iconst 1, 1) := by decide +kernel
theorem dL_law_881 : decode cL_law 881 = .ok (.iadd, 1) := by decide +kernel
theorem dL_law_882 : decode cL_law 882 = .ok (.iaload, 1) := by decide +kernel
theorem dL_law_883 : decode cL_law 883 = .ok (.invokevirtual 106, 3) := by decide +kernel
theorem dL_law_886 : decode cL_law 886 = .ok (.pop, 1) := by decide +kernel
theorem dL_law_887 : decode cL_law 887 = .ok (.aload_n 2, 1) := by decide +kernel
theorem dL_law_888 : decode cL_law 888 = .ok (.aload_n 0, 1) := by decide +kernel
theorem dL_law_889 : decode cL_law 889 = .ok (.iload_n 3, 1) := by decide +kernel
theorem dL_law_890 : decode cL_law 890 = .ok (.iconst 1, 1) := by decide +kernel
theorem dL_law_891 : decode cL_law 891 = .ok (.iadd, 1) := by decide +kernel
theorem dL_law_892 : decode cL_law 892 = .ok (.iaload, 1) := by decide +kernel
theorem dL_law_893 : decode cL_law 893 = .ok (.invokevirtual 109, 3) := by decide +kernel
theorem dL_law_896 : decode cL_law 896 = .ok (.pop, 1) := by decide +kernel
theorem dL_law_897 : decode cL_law 897 = .ok (.goto 79, 3) := by decide +kernel
theorem dL_law_900 : decode cL_law 900 = .ok (.aload_n 1, 1) := by decide +kernel
theorem dL_law_901 : decode cL_law 901 = .ok (.aload_n 0, 1) := by decide +kernel
theorem dL_law_902 : decode cL_law 902 = .ok (.iload_n 3, 1) := by decide +kernel
theorem dL_law_903 : decode cL_law 903 = .ok (.iconst 1, 1) := by decide +kernel
theorem dL_law_904 : decode cL_law 904 = .ok (.iadd, 1) := by decide +kernel
theorem dL_law_905 : decode cL_law 905 = .ok (.iaload, 1) := by decide +kernel
theorem dL_law_906 : decode cL_law 906 = .ok (.aload_n 0, 1) := by decide +kernel
theorem dL_law_907 : decode cL_law 907 = .ok (.iload_n 3, 1) := by decide +kernel
theorem dL_law_908 : decode cL_law 908 = .ok (.iconst 2, 1) := by decide +kernel
theorem dL_law_909 : decode cL_law 909 = .ok (.iadd, 1) := by decide +kernel
theorem dL_law_910 : decode cL_law 910 = .ok (.iaload, 1) := by decide +kernel
theorem dL_law_911 : decode cL_law 911 = .ok (.invokevirtual 110, 3) := by decide +kernel
theorem dL_law_914 : decode cL_law 914 = .ok (.pop, 1) := by decide +kernel
theorem dL_law_915 : decode cL_law 915 = .ok (.aload_n 2, 1) := by decide +kernel
theorem dL_law_916 : decode cL_law 916 = .ok (.aload_n 0, 1) := by decide +kernel
theorem dL_law_917 : decode cL_law 917 = .ok (.iload_n 3, 1) := by decide +kernel
theorem dL_law_918 : decode cL_law 918 = .ok (.iconst 1, 1) := by decide +kernel
theorem dL_law_919 : decode cL_law 919 = .ok (.iadd, 1) := by decide +kernel
theorem dL_law_920 : decode cL_law 920 = .ok (.iaload, 1) := by decide +kernel
theorem dL_law_921 : decode cL_law 921 = .ok (.aload_n 0, 1) := by decide +kernel
theorem dL_law_922 : decode cL_law 922 = .ok (.iload_n 3, 1) := by decide +kernel
theorem dL_law_923 : decode cL_law 923 = .ok (.iconst 2, 1) := by decide +kernel
theorem dL_law_924 : decode cL_law 924 = .ok (.iadd, 1) := by decide +kernel
theorem dL_law_925 : decode cL_law 925 = .ok (.iaload, 1) := by decide +kernel
theorem dL_law_926 : decode cL_law 926 = .ok (.invokevirtual 113, 3) := by decide +kernel
theorem dL_law_929 : decode cL_law 929 = .ok (.pop, 1) := by decide +kernel
theorem dL_law_930 : decode cL_law 930 = .ok (.goto 46, 3) := by decide +kernel
theorem dL_law_933 : decode cL_law 933 = .ok (.aload_n 1, 1) := by decide +kernel
theorem dL_law_934 : decode cL_law 934 = .ok (.aload_n 0, 1) := by decide +kernel
theorem dL_law_935 : decode cL_law 935 = .ok (.iload_n 3, 1) := by decide +kernel
theorem dL_law_936 : decode cL_law 936 = .ok (.iconst 1, 1) := by decide +kernel
theorem dL_law_937 : decode cL_law 937 = .ok (.iadd, 1) := by decide +kernel
theorem dL_law_938 : decode cL_law 938 = .ok (.iaload, 1) := by decide +kernel
theorem dL_law_939 : decode cL_law 939 = .ok (.aload_n 0, 1) := by decide +kernel
theorem dL_law_940 : decode cL_law 940 = .ok (.iload_n 3, 1) := by decide +kernel
theorem dL_law_941 : decode cL_law 941 = .ok (.iconst 2, 1) := by decide +kernel
theorem dL_law_942 : decode cL_law 942 = .ok (.iadd, 1) := by decide +kernel
theorem dL_law_943 : decode cL_law 943 = .ok (.iaload, 1) := by decide +kernel
theorem dL_law_944 : decode cL_law 944 = .ok (.aload_n 0, 1) := by decide +kernel
theorem dL_law_945 : decode cL_law 945 = .ok (.iload_n 3, 1) := by decide +kernel
theorem dL_law_946 : decode cL_law 946 = .ok (.iconst 3, 1) := by decide +kernel
theorem dL_law_947 : decode cL_law 947 = .ok (.iadd, 1) := by decide +kernel
theorem dL_law_948 : decode cL_law 948 = .ok (.iaload, 1) := by decide +kernel
theorem dL_law_949 : decode cL_law 949 = .ok (.invokevirtual 114, 3) := by decide +kernel
theorem dL_law_952 : decode cL_law 952 = .ok (.pop, 1) := by decide +kernel
theorem dL_law_953 : decode cL_law 953 = .ok (.aload_n 2, 1) := by decide +kernel
theorem dL_law_954 : decode cL_law 954 = .ok (.aload_n 0, 1) := by decide +kernel
theorem dL_law_955 : decode cL_law 955 = .ok (.iload_n 3, 1) := by decide +kernel
theorem dL_law_956 : decode cL_law 956 = .ok (.iconst 1, 1) := by decide +kernel
theorem dL_law_957 : decode cL_law 957 = .ok (.iadd, 1) := by decide +kernel
theorem dL_law_958 : decode cL_law 958 = .ok (.iaload, 1) := by decide +kernel
theorem dL_law_959 : decode cL_law 959 = .ok (.aload_n 0, 1) := by decide +kernel
theorem dL_law_960 : decode cL_law 960 = .ok (.iload_n 3, 1) := by decide +kernel
theorem dL_law_961 : decode cL_law 961 = .ok (.iconst 2, 1) := by decide +kernel
theorem dL_law_962 : decode cL_law 962 = .ok (.iadd, 1) := by decide +kernel
theorem dL_law_963 : decode cL_law 963 = .ok (.iaload, 1) := by decide +kernel
theorem dL_law_964 : decode cL_law 964 = .ok (.aload_n 0, 1) := by decide +kernel
theorem dL_law_965 : decode cL_law 965 = .ok (.iload_n 3, 1) := by decide +kernel
theorem dL_law_966 : decode cL_law 966 = .ok (.iconst 3, 1) := by decide +kernel
theorem dL_law_967 : decode cL_law 967 = .ok (.iadd, 1) := by decide +kernel
theorem dL_law_968 : decode cL_law 968 = .ok (.iaload, 1) := by decide +kernel
theorem dL_law_969 : decode cL_law 969 = .ok (.invokevirtual 117, 3) := by decide +kernel
theorem dL_law_972 : decode cL_law 972 = .ok (.pop, 1) := by decide +kernel
theorem dL_law_973 : decode cL_law 973 = .ok (.goto 3, 3) := by decide +kernel
theorem dL_law_976 : decode cL_law 976 = .ok (.iinc 3 5, 3) := by decide +kernel
theorem dL_law_979 : decode cL_law 979 = .ok (.goto (-961), 3) := by decide +kernel
theorem dL_law_982 : decode cL_law 982 = .ok (.iconst 1, 1) := by decide +kernel
theorem dL_law_983 : decode cL_law 983 = .ok (.ireturn, 1) := by decide +kernel
abbrev vwCl : List vw_C := [(RX0, TX0, 4), (RX1, TX1, 6), (RX2, TX2, 9), (RX3, TX3, 23)]
end
section
-- the static rows of the class, as numbers
def FORMt (j : Nat) : Int32 := [0, 1, 2, 3, 4, 5, 6, 7, 8, 9, 4, 8, 5, 4, 7, 8, 4].getD j 0
def OWNERt (j : Nat) : Int32 := [0, 0, 0, 0, 0, 0, 0, 0, 0, 0, 1, 1, 2, 2, 3, 3, 4].getD j 0
def COUNTt (j : Nat) : Int32 := [4, 10, 12].getD j 0
theorem vp_lt {i : Int32} {n : Nat} (h : vp_in i n) : i.toNatClampNeg < n := Nat.not_le.mp fun q => h (Or.inr q)
theorem FORMt_nat : ∀ j, j < 17 → (((FORMt j).toInt = 8 ↔ ((j : Int) = 8 ∨ (j : Int) = 11 ∨ (j : Int) = 15)) ∧ ((FORMt j).toInt = 9 ↔ (j : Int) = 9)) := by decide +kernel
theorem FORMt_is {f : Int32} (h : vp_in f 17) : (((FORMt (Int32.toNatClampNeg f)).toInt = 8 ↔ (f.toInt = 8 ∨ f.toInt = 11 ∨ f.toInt = 15)) ∧ ((FORMt (Int32.toNatClampNeg f)).toInt = 9 ↔ f.toInt = 9)) := by
  obtain ⟨j, hj, rfl⟩ := vp_in_of h (by decide)
  rw [nI_clamp (by omega), nI_toInt (by omega)]
  exact FORMt_nat j hj
theorem OWNERt_is {f : Int32} (_ : vp_in f 17) : True := trivial
theorem COUNTt_is {f : Int32} (_ : vp_in f 3) : True := trivial
/-- a boolean answer -/
def bo (r : Int32) (P : Prop) : Prop := (r = 1 ∧ P) ∨ (r = 0 ∧ ¬ P)
/-- what every method of the class may take as given of the statics and the tables; TT: where the three static rows lie -/
def st_ok (TT : Nat × Nat × Nat) (A : Nat → Prop) (U : State) : Prop :=
  va_Z "FieldLeaves" "FORM" "[I" (.ref TT.1) A U U.heap ∧ va_T .int TT.1 17 (fun j => .int (FORMt j)) A U U.heap ∧ va_Z "FieldLeaves" "OWNER" "[I" (.ref TT.2.1) A U U.heap ∧ va_T .int TT.2.1 17 (fun j => .int (OWNERt j)) A U U.heap ∧ va_Z "FieldLeaves" "COUNT_OF" "[I" (.ref TT.2.2) A U U.heap ∧ va_T .int TT.2.2 3 (fun j => .int (COUNTt j)) A U U.heap ∧ va_AO RX1 U ∧ va_Nw (.methodLinkNest RX2 17 yX0_init "FieldLeaves") U ∧ va_Nw (.methodLinkNest RX0 26 yX2_isFinal "FieldLeaves") U ∧ va_Nw (.methodLinkNest RX0 30 yX2_asTold "FieldLeaves") U
section STOK
variable {TT : Nat × Nat × Nat} {A B : Nat → Prop} {s U : State}
theorem st_ok.zF (h : st_ok TT A s) : va_Z "FieldLeaves" "FORM" "[I" (.ref TT.1) A s s.heap := h.1
theorem st_ok.tF (h : st_ok TT A s) : va_T .int TT.1 17 (fun j => .int (FORMt j)) A s s.heap := h.2.1
theorem st_ok.zO (h : st_ok TT A s) : va_Z "FieldLeaves" "OWNER" "[I" (.ref TT.2.1) A s s.heap := h.2.2.1
theorem st_ok.tO (h : st_ok TT A s) : va_T .int TT.2.1 17 (fun j => .int (OWNERt j)) A s s.heap := h.2.2.2.1
theorem st_ok.zC (h : st_ok TT A s) : va_Z "FieldLeaves" "COUNT_OF" "[I" (.ref TT.2.2) A s s.heap := h.2.2.2.2.1
theorem st_ok.tC (h : st_ok TT A s) : va_T .int TT.2.2 3 (fun j => .int (COUNTt j)) A s s.heap := h.2.2.2.2.2.1
theorem st_ok.ao (h : st_ok TT A s) : va_AO RX1 s := h.2.2.2.2.2.2.1
theorem st_ok.n17 (h : st_ok TT A s) : va_Nw (.methodLinkNest RX2 17 yX0_init "FieldLeaves") s := h.2.2.2.2.2.2.2.1
theorem st_ok.n26 (h : st_ok TT A s) : va_Nw (.methodLinkNest RX0 26 yX2_isFinal "FieldLeaves") s := h.2.2.2.2.2.2.2.2.1
theorem st_ok.n30 (h : st_ok TT A s) : va_Nw (.methodLinkNest RX0 30 yX2_asTold "FieldLeaves") s := h.2.2.2.2.2.2.2.2.2
theorem st_call {H : Heap} {locs : List Loc} (h : st_ok TT A s) (hS : va_S A s.heap H locs) (hU : U.heap = H) (hW : s.WarmedH U.vm) (hF : ∀ q, B q → A q) : st_ok TT B U := by
  have hk : ∀ a : Nat, a < s.heap.size → ¬ A a → U.heap[a]? = s.heap[a]? := fun a h1 h2 => by rw [hU]; exact hS.2.1 a h1 h2
  obtain ⟨h1, h2, h3, h4, h5, h6, h7, h8, h9, h10⟩ := h
  exact ⟨((h1.moved hW.alike).kept hk).narrow hF, ((h2.moved hW.alike).kept hk).narrow hF, ((h3.moved hW.alike).kept hk).narrow hF, ((h4.moved hW.alike).kept hk).narrow hF, ((h5.moved hW.alike).kept hk).narrow hF, ((h6.moved hW.alike).kept hk).narrow hF, h7.moved hW.alike, va_Nw.warmM hW h8, va_Nw.warmM hW h9, va_Nw.warmM hW h10⟩
theorem st_blind (h : st_ok TT A U) (g : JFrame) (mk : MethodId) (a : Array Value) : st_ok TT A (U.calling g mk a) := by
  obtain ⟨h1, h2, h3, h4, h5, h6, h7, h8, h9, h10⟩ := h
  have r := Vm.Alike.refl U.vm
  exact ⟨va_Z.moved (u := U) (U := U.calling g mk a) r h1, va_T.moved (u := U) (U := U.calling g mk a) r h2, va_Z.moved (u := U) (U := U.calling g mk a) r h3, va_T.moved (u := U) (U := U.calling g mk a) r h4, va_Z.moved (u := U) (U := U.calling g mk a) r h5, va_T.moved (u := U) (U := U.calling g mk a) r h6, va_AO.moved (u := U) (U := U.calling g mk a) r h7, va_Nw.same rfl rfl h8, va_Nw.same rfl rfl h9, va_Nw.same rfl rfl h10⟩
end STOK
/-- a method's start: its cells ws, those that it may write wA, its rows' classes tys -/
def pr (dC : Nat → ClassId) (dI : Nat → Nat → Nat) (ws wA : va_W) (tys : List (ClassId × FieldType)) (sz : Nat) (TT : Nat × Nat × Nat) (U : State) : Prop :=
  U.heap.size = sz ∧ va_P (dC, dI) vwCl ws U.heap ∧ va_K (dC, dI) vwCl tys U ∧ va_D (fun _ => True) wA ∧ st_ok TT (va_A wA sz) U
section PRE
variable {dC : Nat → ClassId} {dI : Nat → Nat → Nat} {ws wA : va_W} {tys : List (ClassId × FieldType)} {sz : Nat} {TT : Nat × Nat × Nat} {av : List Value} {s : State} {H H1 : Heap} {A : Nat → Prop} {locs : List Loc}
theorem pr_blind : FrameBlind (va_Pc av (pr dC dI ws wA tys sz TT)) := fun a U g mk q => by
  obtain ⟨q0, q1, qP, qK, qD, qs⟩ := q
  exact ⟨q0, q1, qP, va_K.moved (u := U) (U := U.calling g mk a) (Vm.Alike.refl U.vm) qK, qD, st_blind qs g mk a⟩
theorem pr_S (hP : va_P (dC, dI) vwCl ws H) (hK : va_K (dC, dI) vwCl tys s) (hDt : va_D (fun _ => True) wA) (hst : st_ok TT A s) (hS : va_S A s.heap H locs) (hF : ∀ q, va_A wA H.size q → A q) : PreS s H (va_Pc av (pr dC dI ws wA tys H.size TT)) av :=
  ⟨pr_blind, fun U hU hW => ⟨rfl, by rw [hU], by rw [hU]; exact hP, va_K.moved hW.alike hK, hDt, st_call hst hS hU hW hF⟩⟩
theorem ro_free {H0 : Heap} (hS : va_S A H0 H locs) (hA : ∀ q : Nat, H0.size ≤ q → A q) : ∀ q, va_A [] H.size q → A q := fun q h => by
  rcases h with ⟨k, e, h⟩ | h
  · simp at h
  · exact hA q (Nat.le_trans hS.1 h)
theorem ro_keep (hP : va_P (dC, dI) vwCl ws H) (hk : ∀ q : Nat, q < H.size → ¬ va_A [] H.size q → H1[q]? = H[q]?) : va_P (dC, dI) vwCl ws H1 :=
  hP.kept (fun k q h => hk q.1 (hP k q h).lt (fun z => by
    rcases z with ⟨k, e, z⟩ | z
    · simp at z
    · exact absurd (hP k q h).lt (Nat.not_lt.mpr z)))
theorem vd_nil {A : Nat → Prop} : va_D A [] := ⟨fun i j p q h => by simp at h, fun k q h => by simp at h⟩
end PRE
theorem upd_all {f : Nat → Int32} {n k : Nat} {v : Int32} (h : ∀ j, j < n → f j = v) : ∀ j, j < n → upd f k v j = v := fun j hj => by
  by_cases e : j = k
  · rw [e]; exact pk_us
  · rw [pk_un e]; exact h j hj
theorem updZ_all {f : Nat → Int32} {n k : Nat} (h : ∀ j, j < n → f j = 0) : ∀ j, j < n → upd f k (vp_nar .boolean 0) j = 0 := by
  have e : vp_nar .boolean 0 = 0 := by decide
  rw [e]
  exact upd_all h
theorem newI (n : Nat) : ∀ cA : ClassId, vp_cell cA (n, .inl (fun _ => 0)) = arrV cA n (fun _ => defaultValue .int) := fun _ => rfl
theorem newJ (n : Nat) : ∀ cA : ClassId, vp_cell cA (n, .inr (.inl (fun _ => 0))) = arrV cA n (fun _ => defaultValue .long) := fun _ => rfl
theorem newZ (n : Nat) : ∀ cA : ClassId, vp_cell cA (n, .inl (fun _ => 0)) = arrV cA n (fun _ => defaultValue .boolean) := fun _ => rfl
end
section
set_option maxRecDepth 100000 in
set_option maxHeartbeats 4000000 in
theorem c_X2_isSlot (l : Launch) (dC : Nat → ClassId) (dI : Nat → Nat → Nat) (TT : Nat × Nat × Nat) (sz : Nat) (s0 : Int32) : Met l yX2_isSlot wsX2_isSlot ({ frames := 0, cells := 0, slots := 0, locals := 0 } : Room) (va_Pc [.int s0] (pr dC dI [] [] [] sz TT)) (va_Qi (fun (r : Int32) (u : Unit) => bo r (0 ≤ s0.toInt ∧ s0.toInt < 12)) (fun _ _ => True) (va_A [] sz)) 0 0 (va_A [] sz) := by
  refine Met.ofW (cc := cX2_isSlot) (maxL := 1) (ret := (some .boolean)) (by decide) rfl ?_
  intro p e s m args below meth c s₁ B hml hv
  obtain ⟨rfl, hsz, hP, hK, hD0, hst⟩ := hv
  have hx := B.exec
  have hb := B.bytes
  have hr := B.returns
  have hts := atoms_spec (ws := wsX2_isSlot) B.pre
  have hown : s.vm.findClass RX2 = some m.cls := findClass_of_methodNamed B.named
  have hlocks := B.notSynchronized
  subst hsz
  have hD := hD0.self (sz := s.heap.size)
  generalize hAe : va_A [] s.heap.size = A at hD hst ⊢
  have hA : ∀ q : Nat, s.heap.size ≤ q → A q := fun q h => by rw [← hAe]; exact Or.inr h
  have hS : va_S A s.heap s.heap [] := va_S.rf
  have hl := lv_entry ([.int s0]) (n := 1) (Nat.le_of_ble_eq_true rfl)
  rw [lg_entry_eq]
  generalize (lg_sl ([.int s0]) ++ List.replicate (1 - (lg_sl ([.int s0])).length) Slot.unset).toArray = ls at hl ⊢
  have hl : lv_has ls 1 [(0, .int s0)] := hl
  have k0_ : Int32.toInt 0 = 0 := by decide
  have k1_ : Int32.toInt 1 = 1 := by decide
  have k12_ : Int32.toInt 12 = 12 := by decide
  refine lv_iload_n hx hb dX2_isSlot_0 rfl (lv_at hl 0 rfl) ?_
  refine lv_if_lt (tgt := 14) hx hb dX2_isSlot_1 (by decide) (fun c_1 => ?_) (fun c_1 => ?_)
  · have c_1 := Int32.lt_iff_toInt_lt.mp c_1
    refine lv_iconst (v := 0) hx hb dX2_isSlot_14 (by decide) ?_
    exact W.zret (v := 0) hx hb hr rfl (fun t ht hW => ⟨⟨0, (), rfl, Or.inr ⟨rfl, by omega⟩, trivial⟩, hS.F ht⟩) hS.2.2 dX2_isSlot_15
  · have c_1 := mt Int32.lt_iff_toInt_lt.mpr c_1
    refine lv_iload_n hx hb dX2_isSlot_4 rfl (lv_at hl 0 rfl) ?_
    refine lv_bipush (v := 12) hx hb dX2_isSlot_5 (by decide) ?_
    refine lv_icmp_ge (tgt := 14) hx hb dX2_isSlot_7 (by decide) (fun c_2 => ?_) (fun c_2 => ?_)
    · have c_2 := Int32.le_iff_toInt_le.mp c_2
      refine lv_iconst (v := 0) hx hb dX2_isSlot_14 (by decide) ?_
      exact W.zret (v := 0) hx hb hr rfl (fun t ht hW => ⟨⟨0, (), rfl, Or.inr ⟨rfl, by omega⟩, trivial⟩, hS.F ht⟩) hS.2.2 dX2_isSlot_15
    · have c_2 := mt Int32.le_iff_toInt_le.mpr c_2
      refine lv_iconst (v := 1) hx hb dX2_isSlot_10 (by decide) ?_
      refine lv_goto (tgt := 15) hx hb dX2_isSlot_11 (by decide) ?_
      exact W.zret (v := 1) hx hb hr rfl (fun t ht hW => ⟨⟨1, (), rfl, Or.inl ⟨rfl, by omega⟩, trivial⟩, hS.F ht⟩) hS.2.2 dX2_isSlot_15
set_option maxRecDepth 100000 in
set_option maxHeartbeats 4000000 in
theorem c_X2_isField (l : Launch) (dC : Nat → ClassId) (dI : Nat → Nat → Nat) (TT : Nat × Nat × Nat) (sz : Nat) (f0 : Int32) : Met l yX2_isField wsX2_isField ({ frames := 0, cells := 0, slots := 0, locals := 0 } : Room) (va_Pc [.int f0] (pr dC dI [] [] [] sz TT)) (va_Qi (fun (r : Int32) (u : Unit) => bo r (0 ≤ f0.toInt ∧ f0.toInt < 17)) (fun _ _ => True) (va_A [] sz)) 0 0 (va_A [] sz) := by
  refine Met.ofW (cc := cX2_isField) (maxL := 1) (ret := (some .boolean)) (by decide) rfl ?_
  intro p e s m args below meth c s₁ B hml hv
  obtain ⟨rfl, hsz, hP, hK, hD0, hst⟩ := hv
  have hx := B.exec
  have hb := B.bytes
  have hr := B.returns
  have hts := atoms_spec (ws := wsX2_isField) B.pre
  have hown : s.vm.findClass RX2 = some m.cls := findClass_of_methodNamed B.named
  have hlocks := B.notSynchronized
  subst hsz
  have hD := hD0.self (sz := s.heap.size)
  generalize hAe : va_A [] s.heap.size = A at hD hst ⊢
  have hA : ∀ q : Nat, s.heap.size ≤ q → A q := fun q h => by rw [← hAe]; exact Or.inr h
  have hS : va_S A s.heap s.heap [] := va_S.rf
  have hl := lv_entry ([.int f0]) (n := 1) (Nat.le_of_ble_eq_true rfl)
  rw [lg_entry_eq]
  generalize (lg_sl ([.int f0]) ++ List.replicate (1 - (lg_sl ([.int f0])).length) Slot.unset).toArray = ls at hl ⊢
  have hl : lv_has ls 1 [(0, .int f0)] := hl
  have k0_ : Int32.toInt 0 = 0 := by decide
  have k1_ : Int32.toInt 1 = 1 := by decide
  have k17_ : Int32.toInt 17 = 17 := by decide
  refine lv_iload_n hx hb dX2_isField_0 rfl (lv_at hl 0 rfl) ?_
  refine lv_if_lt (tgt := 14) hx hb dX2_isField_1 (by decide) (fun c_1 => ?_) (fun c_1 => ?_)
  · have c_1 := Int32.lt_iff_toInt_lt.mp c_1
    refine lv_iconst (v := 0) hx hb dX2_isField_14 (by decide) ?_
    exact W.zret (v := 0) hx hb hr rfl (fun t ht hW => ⟨⟨0, (), rfl, Or.inr ⟨rfl, by omega⟩, trivial⟩, hS.F ht⟩) hS.2.2 dX2_isField_15
  · have c_1 := mt Int32.lt_iff_toInt_lt.mpr c_1
    refine lv_iload_n hx hb dX2_isField_4 rfl (lv_at hl 0 rfl) ?_
    refine lv_bipush (v := 17) hx hb dX2_isField_5 (by decide) ?_
    refine lv_icmp_ge (tgt := 14) hx hb dX2_isField_7 (by decide) (fun c_2 => ?_) (fun c_2 => ?_)
    · have c_2 := Int32.le_iff_toInt_le.mp c_2
      refine lv_iconst (v := 0) hx hb dX2_isField_14 (by decide) ?_
      exact W.zret (v := 0) hx hb hr rfl (fun t ht hW => ⟨⟨0, (), rfl, Or.inr ⟨rfl, by omega⟩, trivial⟩, hS.F ht⟩) hS.2.2 dX2_isField_15
    · have c_2 := mt Int32.le_iff_toInt_le.mpr c_2
      refine lv_iconst (v := 1) hx hb dX2_isField_10 (by decide) ?_
      refine lv_goto (tgt := 15) hx hb dX2_isField_11 (by decide) ?_
      exact W.zret (v := 1) hx hb hr rfl (fun t ht hW => ⟨⟨1, (), rfl, Or.inl ⟨rfl, by omega⟩, trivial⟩, hS.F ht⟩) hS.2.2 dX2_isField_15
set_option maxRecDepth 100000 in
set_option maxHeartbeats 4000000 in
theorem c_X2_isLinkField (l : Launch) (dC : Nat → ClassId) (dI : Nat → Nat → Nat) (TT : Nat × Nat × Nat) (sz : Nat) (f0 : Int32) : Met l yX2_isLinkField wsX2_isLinkField ({ frames := 1, cells := 0, slots := 0, locals := 20 } : Room) (va_Pc [.int f0] (pr dC dI [] [] [] sz TT)) (va_Qi (fun (r : Int32) (u : Unit) => bo r (f0.toInt = 8 ∨ f0.toInt = 11 ∨ f0.toInt = 15)) (fun _ _ => True) (va_A [] sz)) 0 0 (va_A [] sz) := by
  refine Met.ofW (cc := cX2_isLinkField) (maxL := 1) (ret := (some .boolean)) (by decide) rfl ?_
  intro p e s m args below meth c s₁ B hml hv
  obtain ⟨rfl, hsz, hP, hK, hD0, hst⟩ := hv
  have hx := B.exec
  have hb := B.bytes
  have hr := B.returns
  have hts := atoms_spec (ws := wsX2_isLinkField) B.pre
  have hown : s.vm.findClass RX2 = some m.cls := findClass_of_methodNamed B.named
  have hlocks := B.notSynchronized
  subst hsz
  have hD := hD0.self (sz := s.heap.size)
  generalize hAe : va_A [] s.heap.size = A at hD hst ⊢
  have hA : ∀ q : Nat, s.heap.size ≤ q → A q := fun q h => by rw [← hAe]; exact Or.inr h
  have hS : va_S A s.heap s.heap [] := va_S.rf
  have hl := lv_entry ([.int f0]) (n := 1) (Nat.le_of_ble_eq_true rfl)
  rw [lg_entry_eq]
  generalize (lg_sl ([.int f0]) ++ List.replicate (1 - (lg_sl ([.int f0])).length) Slot.unset).toArray = ls at hl ⊢
  have hl : lv_has ls 1 [(0, .int f0)] := hl
  have k0_ : Int32.toInt 0 = 0 := by decide
  have k1_ : Int32.toInt 1 = 1 := by decide
  have k8_ : Int32.toInt 8 = 8 := by decide
  refine lv_iload_n hx hb dX2_isLinkField_0 rfl (lv_at hl 0 rfl) ?_
  refine va_calli (va_runS (As := [.int f0]) (rest := []) ⟨hx, hb, hml, hown, hts⟩ (c_X2_isField l dC dI TT s.heap.size f0) (va_cwS 1 hts gX2_isLinkField_X2_isField rfl rfl rfl (by decide +kernel) ⟨Nat.le_of_ble_eq_true rfl, Nat.le_of_ble_eq_true rfl⟩) (pr_S (ws := []) (wA := []) (tys := []) (hP.sub [] rfl) (hK.sub [] rfl) vd_nil hst hS (ro_free hS hA)) rfl rfl hl.1 rfl (lv_room (Nat.le_of_ble_eq_true rfl)) dX2_isLinkField_1 ⟨Nat.le_of_ble_eq_true rfl, Nat.le_of_ble_eq_true rfl⟩) hS (fun q _ h => (ro_free hS hA) q h) (ro_free hS hA) (fun r_1 u t H1 locs ht hvm hw hB hz1 hk1 hS => ?_)
  have hP := ro_keep hP hk1
  generalize H1 = H at hP hS ⊢
  rcases hw with ⟨rfl, hp_2⟩ | ⟨rfl, hp_2⟩
  · refine lv_if_eq (tgt := 21) hx hb dX2_isLinkField_4 (by decide) (fun c9 => absurd c9 (by decide)) (fun _ => ?_)
    refine va_gets (v := .ref TT.1) hx hb hst.zF hS hown (hts (.fieldLink RX2 161 "FieldLeaves" "FORM" "[I") (by decide +kernel)) (fun _ h9 => h9) dX2_isLinkField_7 ?_
    refine lv_iload_n hx hb dX2_isLinkField_10 rfl (lv_at hl 0 rfl) ?_
    have h_3 : vp_in f0 17 := (vp_in_iff.mpr (by constructor <;> omega))
    refine va_ti hx hb hst.tF hS h_3 (v := .int (FORMt (Int32.toNatClampNeg f0))) rfl dX2_isLinkField_11 ?_
    have fh_3 := FORMt_is h_3
    refine lv_bipush (v := 8) hx hb dX2_isLinkField_12 (by decide) ?_
    refine lv_icmp_ne (tgt := 21) hx hb dX2_isLinkField_14 (by decide) (fun c_4 => ?_) (fun c_4 => ?_)
    · have c_4 := mt Int32.toInt_inj.mp c_4
      refine lv_iconst (v := 0) hx hb dX2_isLinkField_21 (by decide) ?_
      exact W.zret (v := 0) hx hb hr rfl (fun t ht hW => ⟨⟨0, (), rfl, Or.inr ⟨rfl, by omega⟩, trivial⟩, hS.F ht⟩) hS.2.2 dX2_isLinkField_22
    · have c_4 := congrArg Int32.toInt c_4
      refine lv_iconst (v := 1) hx hb dX2_isLinkField_17 (by decide) ?_
      refine lv_goto (tgt := 22) hx hb dX2_isLinkField_18 (by decide) ?_
      exact W.zret (v := 1) hx hb hr rfl (fun t ht hW => ⟨⟨1, (), rfl, Or.inl ⟨rfl, by omega⟩, trivial⟩, hS.F ht⟩) hS.2.2 dX2_isLinkField_22
  · refine lv_if_eq (tgt := 21) hx hb dX2_isLinkField_4 (by decide) (fun _ => ?_) (fun c9 => absurd c9 (by decide))
    refine lv_iconst (v := 0) hx hb dX2_isLinkField_21 (by decide) ?_
    exact W.zret (v := 0) hx hb hr rfl (fun t ht hW => ⟨⟨0, (), rfl, Or.inr ⟨rfl, by omega⟩, trivial⟩, hS.F ht⟩) hS.2.2 dX2_isLinkField_22
set_option maxRecDepth 100000 in
set_option maxHeartbeats 4000000 in
theorem c_X2_isValueField (l : Launch) (dC : Nat → ClassId) (dI : Nat → Nat → Nat) (TT : Nat × Nat × Nat) (sz : Nat) (f0 : Int32) : Met l yX2_isValueField wsX2_isValueField ({ frames := 1, cells := 0, slots := 0, locals := 20 } : Room) (va_Pc [.int f0] (pr dC dI [] [] [] sz TT)) (va_Qi (fun (r : Int32) (u : Unit) => bo r (0 ≤ f0.toInt ∧ f0.toInt < 17 ∧ ¬ f0.toInt = 8 ∧ ¬ f0.toInt = 9 ∧ ¬ f0.toInt = 11 ∧ ¬ f0.toInt = 15)) (fun _ _ => True) (va_A [] sz)) 0 0 (va_A [] sz) := by
  refine Met.ofW (cc := cX2_isValueField) (maxL := 1) (ret := (some .boolean)) (by decide) rfl ?_
  intro p e s m args below meth c s₁ B hml hv
  obtain ⟨rfl, hsz, hP, hK, hD0, hst⟩ := hv
  have hx := B.exec
  have hb := B.bytes
  have hr := B.returns
  have hts := atoms_spec (ws := wsX2_isValueField) B.pre
  have hown : s.vm.findClass RX2 = some m.cls := findClass_of_methodNamed B.named
  have hlocks := B.notSynchronized
  subst hsz
  have hD := hD0.self (sz := s.heap.size)
  generalize hAe : va_A [] s.heap.size = A at hD hst ⊢
  have hA : ∀ q : Nat, s.heap.size ≤ q → A q := fun q h => by rw [← hAe]; exact Or.inr h
  have hS : va_S A s.heap s.heap [] := va_S.rf
  have hl := lv_entry ([.int f0]) (n := 1) (Nat.le_of_ble_eq_true rfl)
  rw [lg_entry_eq]
  generalize (lg_sl ([.int f0]) ++ List.replicate (1 - (lg_sl ([.int f0])).length) Slot.unset).toArray = ls at hl ⊢
  have hl : lv_has ls 1 [(0, .int f0)] := hl
  have k0_ : Int32.toInt 0 = 0 := by decide
  have k1_ : Int32.toInt 1 = 1 := by decide
  have k8_ : Int32.toInt 8 = 8 := by decide
  have k9_ : Int32.toInt 9 = 9 := by decide
  refine lv_iload_n hx hb dX2_isValueField_0 rfl (lv_at hl 0 rfl) ?_
  refine va_calli (va_runS (As := [.int f0]) (rest := []) ⟨hx, hb, hml, hown, hts⟩ (c_X2_isField l dC dI TT s.heap.size f0) (va_cwS 1 hts gX2_isValueField_X2_isField rfl rfl rfl (by decide +kernel) ⟨Nat.le_of_ble_eq_true rfl, Nat.le_of_ble_eq_true rfl⟩) (pr_S (ws := []) (wA := []) (tys := []) (hP.sub [] rfl) (hK.sub [] rfl) vd_nil hst hS (ro_free hS hA)) rfl rfl hl.1 rfl (lv_room (Nat.le_of_ble_eq_true rfl)) dX2_isValueField_1 ⟨Nat.le_of_ble_eq_true rfl, Nat.le_of_ble_eq_true rfl⟩) hS (fun q _ h => (ro_free hS hA) q h) (ro_free hS hA) (fun r_1 u t H1 locs ht hvm hw hB hz1 hk1 hS => ?_)
  have hP := ro_keep hP hk1
  generalize H1 = H at hP hS ⊢
  rcases hw with ⟨rfl, hp_2⟩ | ⟨rfl, hp_2⟩
  · refine lv_if_eq (tgt := 31) hx hb dX2_isValueField_4 (by decide) (fun c9 => absurd c9 (by decide)) (fun _ => ?_)
    refine va_gets (v := .ref TT.1) hx hb hst.zF hS hown (hts (.fieldLink RX2 161 "FieldLeaves" "FORM" "[I") (by decide +kernel)) (fun _ h9 => h9) dX2_isValueField_7 ?_
    refine lv_iload_n hx hb dX2_isValueField_10 rfl (lv_at hl 0 rfl) ?_
    have h_3 : vp_in f0 17 := (vp_in_iff.mpr (by constructor <;> omega))
    refine va_ti hx hb hst.tF hS h_3 (v := .int (FORMt (Int32.toNatClampNeg f0))) rfl dX2_isValueField_11 ?_
    have fh_3 := FORMt_is h_3
    refine lv_bipush (v := 8) hx hb dX2_isValueField_12 (by decide) ?_
    refine lv_icmp_eq (tgt := 31) hx hb dX2_isValueField_14 (by decide) (fun c_4 => ?_) (fun c_4 => ?_)
    · have c_4 := congrArg Int32.toInt c_4
      refine lv_iconst (v := 0) hx hb dX2_isValueField_31 (by decide) ?_
      exact W.zret (v := 0) hx hb hr rfl (fun t ht hW => ⟨⟨0, (), rfl, Or.inr ⟨rfl, by omega⟩, trivial⟩, hS.F ht⟩) hS.2.2 dX2_isValueField_32
    · have c_4 := mt Int32.toInt_inj.mp c_4
      refine va_gets (v := .ref TT.1) hx hb hst.zF hS hown (hts (.fieldLink RX2 161 "FieldLeaves" "FORM" "[I") (by decide +kernel)) (fun _ h9 => h9) dX2_isValueField_17 ?_
      refine lv_iload_n hx hb dX2_isValueField_20 rfl (lv_at hl 0 rfl) ?_
      have h_5 : vp_in f0 17 := (vp_in_iff.mpr (by constructor <;> omega))
      refine va_ti hx hb hst.tF hS h_5 (v := .int (FORMt (Int32.toNatClampNeg f0))) rfl dX2_isValueField_21 ?_
      have fh_5 := FORMt_is h_5
      refine lv_bipush (v := 9) hx hb dX2_isValueField_22 (by decide) ?_
      refine lv_icmp_eq (tgt := 31) hx hb dX2_isValueField_24 (by decide) (fun c_6 => ?_) (fun c_6 => ?_)
      · have c_6 := congrArg Int32.toInt c_6
        refine lv_iconst (v := 0) hx hb dX2_isValueField_31 (by decide) ?_
        exact W.zret (v := 0) hx hb hr rfl (fun t ht hW => ⟨⟨0, (), rfl, Or.inr ⟨rfl, by omega⟩, trivial⟩, hS.F ht⟩) hS.2.2 dX2_isValueField_32
      · have c_6 := mt Int32.toInt_inj.mp c_6
        refine lv_iconst (v := 1) hx hb dX2_isValueField_27 (by decide) ?_
        refine lv_goto (tgt := 32) hx hb dX2_isValueField_28 (by decide) ?_
        exact W.zret (v := 1) hx hb hr rfl (fun t ht hW => ⟨⟨1, (), rfl, Or.inl ⟨rfl, by omega⟩, trivial⟩, hS.F ht⟩) hS.2.2 dX2_isValueField_32
  · refine lv_if_eq (tgt := 31) hx hb dX2_isValueField_4 (by decide) (fun _ => ?_) (fun c9 => absurd c9 (by decide))
    refine lv_iconst (v := 0) hx hb dX2_isValueField_31 (by decide) ?_
    exact W.zret (v := 0) hx hb hr rfl (fun t ht hW => ⟨⟨0, (), rfl, Or.inr ⟨rfl, by omega⟩, trivial⟩, hS.F ht⟩) hS.2.2 dX2_isValueField_32
set_option maxRecDepth 100000 in
set_option maxHeartbeats 4000000 in
theorem c_X2_makerTakes (l : Launch) (dC : Nat → ClassId) (dI : Nat → Nat → Nat) (TT : Nat × Nat × Nat) (sz : Nat) (c0 : Int32) (n0 : Int32) : Met l yX2_makerTakes wsX2_makerTakes ({ frames := 0, cells := 0, slots := 0, locals := 0 } : Room) (va_Pc [.int c0, .int n0] (pr dC dI [] [] [] sz TT)) (va_Qi (fun (r : Int32) (u : Unit) => bo r (¬ c0.toInt = 2 ∨ (0 ≤ n0.toInt ∧ n0.toInt ≤ 1000))) (fun _ _ => True) (va_A [] sz)) 0 0 (va_A [] sz) := by
  refine Met.ofW (cc := cX2_makerTakes) (maxL := 2) (ret := (some .boolean)) (by decide) rfl ?_
  intro p e s m args below meth c s₁ B hml hv
  obtain ⟨rfl, hsz, hP, hK, hD0, hst⟩ := hv
  have hx := B.exec
  have hb := B.bytes
  have hr := B.returns
  have hts := atoms_spec (ws := wsX2_makerTakes) B.pre
  have hown : s.vm.findClass RX2 = some m.cls := findClass_of_methodNamed B.named
  have hlocks := B.notSynchronized
  subst hsz
  have hD := hD0.self (sz := s.heap.size)
  generalize hAe : va_A [] s.heap.size = A at hD hst ⊢
  have hA : ∀ q : Nat, s.heap.size ≤ q → A q := fun q h => by rw [← hAe]; exact Or.inr h
  have hS : va_S A s.heap s.heap [] := va_S.rf
  have hl := lv_entry ([.int c0, .int n0]) (n := 2) (Nat.le_of_ble_eq_true rfl)
  rw [lg_entry_eq]
  generalize (lg_sl ([.int c0, .int n0]) ++ List.replicate (2 - (lg_sl ([.int c0, .int n0])).length) Slot.unset).toArray = ls at hl ⊢
  have hl : lv_has ls 2 [(0, .int c0), (1, .int n0)] := hl
  have k0_ : Int32.toInt 0 = 0 := by decide
  have k1_ : Int32.toInt 1 = 1 := by decide
  have k2_ : Int32.toInt 2 = 2 := by decide
  have k1000_ : Int32.toInt 1000 = 1000 := by decide
  refine lv_iload_n hx hb dX2_makerTakes_0 rfl (lv_at hl 0 rfl) ?_
  refine lv_iconst (v := 2) hx hb dX2_makerTakes_1 (by decide) ?_
  refine lv_icmp_ne (tgt := 16) hx hb dX2_makerTakes_2 (by decide) (fun c_1 => ?_) (fun c_1 => ?_)
  · have c_1 := mt Int32.toInt_inj.mp c_1
    refine lv_iconst (v := 1) hx hb dX2_makerTakes_16 (by decide) ?_
    refine lv_goto (tgt := 21) hx hb dX2_makerTakes_17 (by decide) ?_
    exact W.zret (v := 1) hx hb hr rfl (fun t ht hW => ⟨⟨1, (), rfl, Or.inl ⟨rfl, by omega⟩, trivial⟩, hS.F ht⟩) hS.2.2 dX2_makerTakes_21
  · have c_1 := congrArg Int32.toInt c_1
    refine lv_iload_n hx hb dX2_makerTakes_5 rfl (lv_at hl 1 rfl) ?_
    refine lv_if_lt (tgt := 20) hx hb dX2_makerTakes_6 (by decide) (fun c_2 => ?_) (fun c_2 => ?_)
    · have c_2 := Int32.lt_iff_toInt_lt.mp c_2
      refine lv_iconst (v := 0) hx hb dX2_makerTakes_20 (by decide) ?_
      exact W.zret (v := 0) hx hb hr rfl (fun t ht hW => ⟨⟨0, (), rfl, Or.inr ⟨rfl, by omega⟩, trivial⟩, hS.F ht⟩) hS.2.2 dX2_makerTakes_21
    · have c_2 := mt Int32.lt_iff_toInt_lt.mpr c_2
      refine lv_iload_n hx hb dX2_makerTakes_9 rfl (lv_at hl 1 rfl) ?_
      refine lv_sipush (v := 1000) hx hb dX2_makerTakes_10 (by decide) ?_
      refine lv_icmp_gt (tgt := 20) hx hb dX2_makerTakes_13 (by decide) (fun c_3 => ?_) (fun c_3 => ?_)
      · have c_3 := Int32.lt_iff_toInt_lt.mp c_3
        refine lv_iconst (v := 0) hx hb dX2_makerTakes_20 (by decide) ?_
        exact W.zret (v := 0) hx hb hr rfl (fun t ht hW => ⟨⟨0, (), rfl, Or.inr ⟨rfl, by omega⟩, trivial⟩, hS.F ht⟩) hS.2.2 dX2_makerTakes_21
      · have c_3 := mt Int32.lt_iff_toInt_lt.mpr c_3
        refine lv_iconst (v := 1) hx hb dX2_makerTakes_16 (by decide) ?_
        refine lv_goto (tgt := 21) hx hb dX2_makerTakes_17 (by decide) ?_
        exact W.zret (v := 1) hx hb hr rfl (fun t ht hW => ⟨⟨1, (), rfl, Or.inl ⟨rfl, by omega⟩, trivial⟩, hS.F ht⟩) hS.2.2 dX2_makerTakes_21
set_option maxRecDepth 100000 in
set_option maxHeartbeats 4000000 in
theorem c_X2_failureAs_null (l : Launch) (dC : Nat → ClassId) (dI : Nat → Nat → Nat) (TT : Nat × Nat × Nat) (sz : Nat) (w0 : Int32) : Met l yX2_failureAs wsX2_failureAs ({ frames := 0, cells := 0, slots := 0, locals := 0 } : Room) (va_Pc [.null, .int w0] (pr dC dI [] [] [] sz TT)) (va_Qi (fun (r : Int32) (u : Unit) => r = (-11)) (fun _ _ => True) (va_A [] sz)) 0 0 (va_A [] sz) := by
  refine Met.ofW (cc := cX2_failureAs) (maxL := 2) (ret := (some .int)) (by decide) rfl ?_
  intro p e s m args below meth c s₁ B hml hv
  obtain ⟨rfl, hsz, hP, hK, hD0, hst⟩ := hv
  have hx := B.exec
  have hb := B.bytes
  have hr := B.returns
  have hts := atoms_spec (ws := wsX2_failureAs) B.pre
  have hown : s.vm.findClass RX2 = some m.cls := findClass_of_methodNamed B.named
  have hlocks := B.notSynchronized
  subst hsz
  have hD := hD0.self (sz := s.heap.size)
  generalize hAe : va_A [] s.heap.size = A at hD hst ⊢
  have hA : ∀ q : Nat, s.heap.size ≤ q → A q := fun q h => by rw [← hAe]; exact Or.inr h
  have hS : va_S A s.heap s.heap [] := va_S.rf
  have hl := lv_entry ([.null, .int w0]) (n := 2) (Nat.le_of_ble_eq_true rfl)
  rw [lg_entry_eq]
  generalize (lg_sl ([.null, .int w0]) ++ List.replicate (2 - (lg_sl ([.null, .int w0])).length) Slot.unset).toArray = ls at hl ⊢
  have hl : lv_has ls 2 [(0, .null), (1, .int w0)] := hl
  have km11_ : Int32.toInt (-11) = -11 := by decide
  refine lv_aload_nN hx hb dX2_failureAs_0 rfl (lv_at hl 0 rfl) ?_
  refine lv_ifnonnullN hx hb dX2_failureAs_1 ?_
  refine lv_bipush (v := (-11)) hx hb dX2_failureAs_4 (by decide) ?_
  exact W.iret (v := (-11)) hx hb hr (fun t ht hW => ⟨⟨(-11), (), rfl, rfl, trivial⟩, hS.F ht⟩) hS.2.2 dX2_failureAs_6
set_option maxRecDepth 100000 in
set_option maxHeartbeats 4000000 in
theorem c_X2_failureOfRow_null (l : Launch) (dC : Nat → ClassId) (dI : Nat → Nat → Nat) (TT : Nat × Nat × Nat) (sz : Nat)  : Met l yX2_failureOfRow wsX2_failureOfRow ({ frames := 1, cells := 0, slots := 0, locals := 21 } : Room) (va_Pc [.null] (pr dC dI [] [] [] sz TT)) (va_Qi (fun (r : Int32) (u : Unit) => r = (-11)) (fun _ _ => True) (va_A [] sz)) 0 0 (va_A [] sz) := by
  refine Met.ofW (cc := cX2_failureOfRow) (maxL := 2) (ret := (some .int)) (by decide) rfl ?_
  intro p e s m args below meth c s₁ B hml hv
  obtain ⟨rfl, hsz, hP, hK, hD0, hst⟩ := hv
  have hx := B.exec
  have hb := B.bytes
  have hr := B.returns
  have hts := atoms_spec (ws := wsX2_failureOfRow) B.pre
  have hown : s.vm.findClass RX2 = some m.cls := findClass_of_methodNamed B.named
  have hlocks := B.notSynchronized
  subst hsz
  have hD := hD0.self (sz := s.heap.size)
  generalize hAe : va_A [] s.heap.size = A at hD hst ⊢
  have hA : ∀ q : Nat, s.heap.size ≤ q → A q := fun q h => by rw [← hAe]; exact Or.inr h
  have hS : va_S A s.heap s.heap [] := va_S.rf
  have hl := lv_entry ([.null]) (n := 2) (Nat.le_of_ble_eq_true rfl)
  rw [lg_entry_eq]
  generalize (lg_sl ([.null]) ++ List.replicate (2 - (lg_sl ([.null])).length) Slot.unset).toArray = ls at hl ⊢
  have hl : lv_has ls 2 [(0, .null)] := hl
  have km11_ : Int32.toInt (-11) = -11 := by decide
  refine lv_aload_nN hx hb dX2_failureOfRow_0 rfl (lv_at hl 0 rfl) ?_
  refine lv_iconst (v := 0) hx hb dX2_failureOfRow_1 (by decide) ?_
  refine va_calli (va_runS (As := [.null, .int 0]) (rest := []) ⟨hx, hb, hml, hown, hts⟩ (c_X2_failureAs_null l dC dI TT s.heap.size 0) (va_cwS 2 hts gX2_failureOfRow_X2_failureAs rfl rfl rfl (by decide +kernel) ⟨Nat.le_of_ble_eq_true rfl, Nat.le_of_ble_eq_true rfl⟩) (pr_S (ws := []) (wA := []) (tys := []) (hP.sub [] rfl) (hK.sub [] rfl) vd_nil hst hS (ro_free hS hA)) rfl rfl hl.1 rfl (lv_room (Nat.le_of_ble_eq_true rfl)) dX2_failureOfRow_2 ⟨Nat.le_of_ble_eq_true rfl, Nat.le_of_ble_eq_true rfl⟩) hS (fun q _ h => (ro_free hS hA) q h) (ro_free hS hA) (fun r_1 u t H1 locs ht hvm hw hB hz1 hk1 hS => ?_)
  have hP := ro_keep hP hk1
  generalize H1 = H at hP hS ⊢
  subst hw
  refine lv_istore_n (lv' := [(1, .int (-11)), (0, .null)]) hx hb dX2_failureOfRow_5 rfl hl (by decide) rfl (fun ls hl => ?_)
  refine lv_iload_n hx hb dX2_failureOfRow_6 rfl (lv_at hl 0 rfl) ?_
  refine lv_if_eq (tgt := 12) hx hb dX2_failureOfRow_7 (by decide) (fun c9 => absurd c9 (by decide)) (fun _ => ?_)
  refine lv_iload_n hx hb dX2_failureOfRow_10 rfl (lv_at hl 0 rfl) ?_
  exact W.iret (v := (-11)) hx hb hr (fun t ht hW => ⟨⟨(-11), (), rfl, rfl, trivial⟩, hS.F ht⟩) hS.2.2 dX2_failureOfRow_11
set_option maxRecDepth 100000 in
set_option maxHeartbeats 4000000 in
theorem c_X2_thrown_null (l : Launch) (dC : Nat → ClassId) (dI : Nat → Nat → Nat) (TT : Nat × Nat × Nat) (sz : Nat)  : Met l yX2_thrown wsX2_thrown ({ frames := 1, cells := 0, slots := 0, locals := 21 } : Room) (va_Pc [.null] (pr dC dI [] [] [] sz TT)) (va_Qi (fun (r : Int32) (u : Unit) => r = (-11)) (fun _ _ => True) (va_A [] sz)) 0 0 (va_A [] sz) := by
  refine Met.ofW (cc := cX2_thrown) (maxL := 2) (ret := (some .int)) (by decide) rfl ?_
  intro p e s m args below meth c s₁ B hml hv
  obtain ⟨rfl, hsz, hP, hK, hD0, hst⟩ := hv
  have hx := B.exec
  have hb := B.bytes
  have hr := B.returns
  have hts := atoms_spec (ws := wsX2_thrown) B.pre
  have hown : s.vm.findClass RX2 = some m.cls := findClass_of_methodNamed B.named
  have hlocks := B.notSynchronized
  subst hsz
  have hD := hD0.self (sz := s.heap.size)
  generalize hAe : va_A [] s.heap.size = A at hD hst ⊢
  have hA : ∀ q : Nat, s.heap.size ≤ q → A q := fun q h => by rw [← hAe]; exact Or.inr h
  have hS : va_S A s.heap s.heap [] := va_S.rf
  have hl := lv_entry ([.null]) (n := 2) (Nat.le_of_ble_eq_true rfl)
  rw [lg_entry_eq]
  generalize (lg_sl ([.null]) ++ List.replicate (2 - (lg_sl ([.null])).length) Slot.unset).toArray = ls at hl ⊢
  have hl : lv_has ls 2 [(0, .null)] := hl
  have km11_ : Int32.toInt (-11) = -11 := by decide
  refine lv_aload_nN hx hb dX2_thrown_0 rfl (lv_at hl 0 rfl) ?_
  refine lv_iconst (v := 4) hx hb dX2_thrown_1 (by decide) ?_
  refine va_calli (va_runS (As := [.null, .int 4]) (rest := []) ⟨hx, hb, hml, hown, hts⟩ (c_X2_failureAs_null l dC dI TT s.heap.size 4) (va_cwS 2 hts gX2_thrown_X2_failureAs rfl rfl rfl (by decide +kernel) ⟨Nat.le_of_ble_eq_true rfl, Nat.le_of_ble_eq_true rfl⟩) (pr_S (ws := []) (wA := []) (tys := []) (hP.sub [] rfl) (hK.sub [] rfl) vd_nil hst hS (ro_free hS hA)) rfl rfl hl.1 rfl (lv_room (Nat.le_of_ble_eq_true rfl)) dX2_thrown_2 ⟨Nat.le_of_ble_eq_true rfl, Nat.le_of_ble_eq_true rfl⟩) hS (fun q _ h => (ro_free hS hA) q h) (ro_free hS hA) (fun r_1 u t H1 locs ht hvm hw hB hz1 hk1 hS => ?_)
  have hP := ro_keep hP hk1
  generalize H1 = H at hP hS ⊢
  subst hw
  refine lv_istore_n (lv' := [(1, .int (-11)), (0, .null)]) hx hb dX2_thrown_5 rfl hl (by decide) rfl (fun ls hl => ?_)
  refine lv_iload_n hx hb dX2_thrown_6 rfl (lv_at hl 0 rfl) ?_
  refine lv_if_eq (tgt := 14) hx hb dX2_thrown_7 (by decide) (fun c9 => absurd c9 (by decide)) (fun _ => ?_)
  refine lv_iload_n hx hb dX2_thrown_10 rfl (lv_at hl 0 rfl) ?_
  refine lv_goto (tgt := 22) hx hb dX2_thrown_11 (by decide) ?_
  exact W.iret (v := (-11)) hx hb hr (fun t ht hW => ⟨⟨(-11), (), rfl, rfl, trivial⟩, hS.F ht⟩) hS.2.2 dX2_thrown_22
set_option maxRecDepth 20000 in
theorem in_c_X0_has_0_X0 : ∀ w ∈ u_ws RX0 TX0 4, w ∈ wsX0_has := by decide +kernel
set_option maxRecDepth 100000 in
set_option maxHeartbeats 4000000 in
theorem c_X0_has_0 (l : Launch) (dC : Nat → ClassId) (dI : Nat → Nat → Nat) (TT : Nat × Nat × Nat) (sz : Nat) (h2 a1 a2 a3 : Nat) (k0 : Int32) : Met l yX0_has wsX0_has ({ frames := 0, cells := 0, slots := 0, locals := 0 } : Room) (va_Pc [.ref h2, .int k0] (pr dC dI [(h2, .inr (0, [.ref a1, .ref a2, .ref a3, .int 0]))] [] [] sz TT)) (va_Qi (fun (r : Int32) (u : Unit) => r = 0) (fun _ _ => True) (va_A [] sz)) 0 0 (va_A [] sz) := by
  refine Met.ofW (cc := cX0_has) (maxL := 2) (ret := (some .boolean)) (by decide) rfl ?_
  intro p e s m args below meth c s₁ B hml hv
  obtain ⟨rfl, hsz, hP, hK, hD0, hst⟩ := hv
  have hx := B.exec
  have hb := B.bytes
  have hr := B.returns
  have hts := atoms_spec (ws := wsX0_has) B.pre
  have hown : s.vm.findClass RX0 = some m.cls := findClass_of_methodNamed B.named
  have hlocks := B.notSynchronized
  have iX0_ := in_c_X0_has_0_X0
  subst hsz
  have hD := hD0.self (sz := s.heap.size)
  generalize hAe : va_A [] s.heap.size = A at hD hst ⊢
  have hA : ∀ q : Nat, s.heap.size ≤ q → A q := fun q h => by rw [← hAe]; exact Or.inr h
  have hS : va_S A s.heap s.heap [] := va_S.rf
  have hl := lv_entry ([.ref h2, .int k0]) (n := 2) (Nat.le_of_ble_eq_true rfl)
  rw [lg_entry_eq]
  generalize (lg_sl ([.ref h2, .int k0]) ++ List.replicate (2 - (lg_sl ([.ref h2, .int k0])).length) Slot.unset).toArray = ls at hl ⊢
  have hl : lv_has ls 2 [(0, .ref h2), (1, .int k0)] := hl
  have k0_ : Int32.toInt 0 = 0 := by decide
  refine lv_iload_n hx hb dX0_has_0 rfl (lv_at hl 1 rfl) ?_
  refine lv_if_lt (tgt := 16) hx hb dX0_has_1 (by decide) (fun c_1 => ?_) (fun c_1 => ?_)
  · have c_1 := Int32.lt_iff_toInt_lt.mp c_1
    refine lv_iconst (v := 0) hx hb dX0_has_16 (by decide) ?_
    exact W.zret (v := 0) hx hb hr rfl (fun t ht hW => ⟨⟨0, (), rfl, rfl, trivial⟩, hS.F ht⟩) hS.2.2 dX0_has_17
  · have c_1 := mt Int32.lt_iff_toInt_lt.mpr c_1
    refine lv_iload_n hx hb dX0_has_4 rfl (lv_at hl 1 rfl) ?_
    refine lv_aload_n hx hb dX0_has_5 rfl (lv_at hl 0 rfl) ?_
    refine va_get (D := (dC, dI)) (ci := 0) (v := .int 0) (C := RX0) (T := TX0) (N := 4) hx hb hts iX0_ hown hK hP 0 rfl rfl 3 (by decide) (hts (.fieldLink RX0 22 "FieldLeaves$LeafList" "size" "I") (by decide +kernel)) (fun _ h9 => h9) rfl dX0_has_6 ?_
    refine lv_icmp_ge (tgt := 16) hx hb dX0_has_9 (by decide) (fun c_2 => ?_) (fun c_2 => ?_)
    · have c_2 := Int32.le_iff_toInt_le.mp c_2
      refine lv_iconst (v := 0) hx hb dX0_has_16 (by decide) ?_
      exact W.zret (v := 0) hx hb hr rfl (fun t ht hW => ⟨⟨0, (), rfl, rfl, trivial⟩, hS.F ht⟩) hS.2.2 dX0_has_17
    · have c_2 := mt Int32.le_iff_toInt_le.mpr c_2
      refine lv_iconst (v := 1) hx hb dX0_has_12 (by decide) ?_
      refine lv_goto (tgt := 17) hx hb dX0_has_13 (by decide) ?_
      exfalso; omega
end
section
set_option maxRecDepth 100000 in
set_option maxHeartbeats 4000000 in
theorem c_X3_in (l : Launch) (dC : Nat → ClassId) (dI : Nat → Nat → Nat) (TT : Nat × Nat × Nat) (sz : Nat) (v0 : Int64) (lo : Int64) (hi : Int64) : Met l yX3_in wsX3_in ({ frames := 0, cells := 0, slots := 0, locals := 0 } : Room) (va_Pc [.long v0, .long lo, .long hi] (pr dC dI [] [] [] sz TT)) (va_Qi (fun (r : Int32) (u : Unit) => bo r (lo.toInt ≤ v0.toInt ∧ v0.toInt ≤ hi.toInt)) (fun _ _ => True) (va_A [] sz)) 0 0 (va_A [] sz) := by
  refine Met.ofW (cc := cX3_in) (maxL := 6) (ret := (some .boolean)) (by decide) rfl ?_
  intro p e s m args below meth c s₁ B hml hv
  obtain ⟨rfl, hsz, hP, hK, hD0, hst⟩ := hv
  have hx := B.exec
  have hb := B.bytes
  have hr := B.returns
  have hts := atoms_spec (ws := wsX3_in) B.pre
  have hown : s.vm.findClass RX3 = some m.cls := findClass_of_methodNamed B.named
  have hlocks := B.notSynchronized
  subst hsz
  have hD := hD0.self (sz := s.heap.size)
  generalize hAe : va_A [] s.heap.size = A at hD hst ⊢
  have hA : ∀ q : Nat, s.heap.size ≤ q → A q := fun q h => by rw [← hAe]; exact Or.inr h
  have hS : va_S A s.heap s.heap [] := va_S.rf
  have hl := lv_entry ([.long v0, .long lo, .long hi]) (n := 6) (Nat.le_of_ble_eq_true rfl)
  rw [lg_entry_eq]
  generalize (lg_sl ([.long v0, .long lo, .long hi]) ++ List.replicate (6 - (lg_sl ([.long v0, .long lo, .long hi])).length) Slot.unset).toArray = ls at hl ⊢
  have hl : lv_has ls 6 [(0, .long v0), (2, .long lo), (4, .long hi)] := hl
  have k0_ : Int32.toInt 0 = 0 := by decide
  have k1_ : Int32.toInt 1 = 1 := by decide
  refine lv_lload_n hx hb dX3_in_0 rfl (lv_at hl 0 rfl) ?_
  refine lv_lload_n hx hb dX3_in_1 rfl (lv_at hl 1 rfl) ?_
  refine W.lcmp hx hb dX3_in_2 ?_
  refine lv_if_lt (tgt := 17) hx hb dX3_in_3 (by decide) (fun c_1 => ?_) (fun c_1 => ?_)
  · have c_1 := Int64.lt_iff_toInt_lt.mp ((lg_cmp_lt v0 lo).mp c_1)
    refine lv_iconst (v := 0) hx hb dX3_in_17 (by decide) ?_
    exact W.zret (v := 0) hx hb hr rfl (fun t ht hW => ⟨⟨0, (), rfl, Or.inr ⟨rfl, by omega⟩, trivial⟩, hS.F ht⟩) hS.2.2 dX3_in_18
  · have c_1 := mt (fun h9 => (lg_cmp_lt v0 lo).mpr (Int64.lt_iff_toInt_lt.mpr h9)) c_1
    refine lv_lload_n hx hb dX3_in_6 rfl (lv_at hl 0 rfl) ?_
    refine lv_lload hx hb dX3_in_7 (lv_at hl 2 rfl) ?_
    refine W.lcmp hx hb dX3_in_9 ?_
    refine lv_if_gt (tgt := 17) hx hb dX3_in_10 (by decide) (fun c_2 => ?_) (fun c_2 => ?_)
    · have c_2 := Int64.lt_iff_toInt_lt.mp ((lg_cmp_gt v0 hi).mp c_2)
      refine lv_iconst (v := 0) hx hb dX3_in_17 (by decide) ?_
      exact W.zret (v := 0) hx hb hr rfl (fun t ht hW => ⟨⟨0, (), rfl, Or.inr ⟨rfl, by omega⟩, trivial⟩, hS.F ht⟩) hS.2.2 dX3_in_18
    · have c_2 := mt (fun h9 => (lg_cmp_gt v0 hi).mpr (Int64.lt_iff_toInt_lt.mpr h9)) c_2
      refine lv_iconst (v := 1) hx hb dX3_in_13 (by decide) ?_
      refine lv_goto (tgt := 18) hx hb dX3_in_14 (by decide) ?_
      exact W.zret (v := 1) hx hb hr rfl (fun t ht hW => ⟨⟨1, (), rfl, Or.inl ⟨rfl, by omega⟩, trivial⟩, hS.F ht⟩) hS.2.2 dX3_in_18
set_option maxRecDepth 100000 in
set_option maxHeartbeats 4000000 in
theorem c_X3_isSlot (l : Launch) (dC : Nat → ClassId) (dI : Nat → Nat → Nat) (TT : Nat × Nat × Nat) (sz : Nat) (s0 : Int32) : Met l yX3_isSlot wsX3_isSlot ({ frames := 1, cells := 0, slots := 0, locals := 25 } : Room) (va_Pc [.int s0] (pr dC dI [] [] [] sz TT)) (va_Qi (fun (r : Int32) (u : Unit) => bo r (0 ≤ s0.toInt ∧ s0.toInt < 12)) (fun _ _ => True) (va_A [] sz)) 0 0 (va_A [] sz) := by
  refine Met.ofW (cc := cX3_isSlot) (maxL := 1) (ret := (some .boolean)) (by decide) rfl ?_
  intro p e s m args below meth c s₁ B hml hv
  obtain ⟨rfl, hsz, hP, hK, hD0, hst⟩ := hv
  have hx := B.exec
  have hb := B.bytes
  have hr := B.returns
  have hts := atoms_spec (ws := wsX3_isSlot) B.pre
  have hown : s.vm.findClass RX3 = some m.cls := findClass_of_methodNamed B.named
  have hlocks := B.notSynchronized
  subst hsz
  have hD := hD0.self (sz := s.heap.size)
  generalize hAe : va_A [] s.heap.size = A at hD hst ⊢
  have hA : ∀ q : Nat, s.heap.size ≤ q → A q := fun q h => by rw [← hAe]; exact Or.inr h
  have hS : va_S A s.heap s.heap [] := va_S.rf
  have hl := lv_entry ([.int s0]) (n := 1) (Nat.le_of_ble_eq_true rfl)
  rw [lg_entry_eq]
  generalize (lg_sl ([.int s0]) ++ List.replicate (1 - (lg_sl ([.int s0])).length) Slot.unset).toArray = ls at hl ⊢
  have hl : lv_has ls 1 [(0, .int s0)] := hl
  have k0_ : Int32.toInt 0 = 0 := by decide
  have k1_ : Int32.toInt 1 = 1 := by decide
  have kl0_ : Int64.toInt 0 = 0 := by decide
  have kl11_ : Int64.toInt 11 = 11 := by decide
  refine lv_iload_n hx hb dX3_isSlot_0 rfl (lv_at hl 0 rfl) ?_
  refine lv_i2l (v := Int32.toInt64 s0) hx hb dX3_isSlot_1 rfl ?_
  have k_z_1 := Int32.toInt_toInt64 s0
  refine lv_lconst (v := 0) hx hb dX3_isSlot_2 (by decide) ?_
  refine lv_ldc2 hx hb hown (hts (.constantLong RX3 68 (11)) (by decide +kernel)) dX3_isSlot_3 ?_
  refine va_calli (va_runS (As := [.long (Int32.toInt64 s0), .long 0, .long 11]) (rest := []) ⟨hx, hb, hml, hown, hts⟩ (c_X3_in l dC dI TT s.heap.size (Int32.toInt64 s0) 0 11) (va_cwS 3 hts gX3_isSlot_X3_in rfl rfl rfl (by decide +kernel) ⟨Nat.le_of_ble_eq_true rfl, Nat.le_of_ble_eq_true rfl⟩) (pr_S (ws := []) (wA := []) (tys := []) (hP.sub [] rfl) (hK.sub [] rfl) vd_nil hst hS (ro_free hS hA)) rfl rfl hl.1 rfl (lv_room (Nat.le_of_ble_eq_true rfl)) dX3_isSlot_6 ⟨Nat.le_of_ble_eq_true rfl, Nat.le_of_ble_eq_true rfl⟩) hS (fun q _ h => (ro_free hS hA) q h) (ro_free hS hA) (fun r_2 u t H1 locs ht hvm hw hB hz1 hk1 hS => ?_)
  have hP := ro_keep hP hk1
  generalize H1 = H at hP hS ⊢
  rcases hw with ⟨rfl, hp_3⟩ | ⟨rfl, hp_3⟩
  · exact W.zret (v := 1) hx hb hr rfl (fun t ht hW => ⟨⟨1, (), rfl, Or.inl ⟨rfl, by omega⟩, trivial⟩, hS.F ht⟩) hS.2.2 dX3_isSlot_9
  · exact W.zret (v := 0) hx hb hr rfl (fun t ht hW => ⟨⟨0, (), rfl, Or.inr ⟨rfl, by omega⟩, trivial⟩, hS.F ht⟩) hS.2.2 dX3_isSlot_9
set_option maxRecDepth 100000 in
set_option maxHeartbeats 4000000 in
theorem c_X3_isLink (l : Launch) (dC : Nat → ClassId) (dI : Nat → Nat → Nat) (TT : Nat × Nat × Nat) (sz : Nat) (f0 : Int32) : Met l yX3_isLink wsX3_isLink ({ frames := 0, cells := 0, slots := 0, locals := 0 } : Room) (va_Pc [.int f0] (pr dC dI [] [] [] sz TT)) (va_Qi (fun (r : Int32) (u : Unit) => bo r (f0.toInt = 8 ∨ f0.toInt = 11 ∨ f0.toInt = 15)) (fun _ _ => True) (va_A [] sz)) 0 0 (va_A [] sz) := by
  refine Met.ofW (cc := cX3_isLink) (maxL := 1) (ret := (some .boolean)) (by decide) rfl ?_
  intro p e s m args below meth c s₁ B hml hv
  obtain ⟨rfl, hsz, hP, hK, hD0, hst⟩ := hv
  have hx := B.exec
  have hb := B.bytes
  have hr := B.returns
  have hts := atoms_spec (ws := wsX3_isLink) B.pre
  have hown : s.vm.findClass RX3 = some m.cls := findClass_of_methodNamed B.named
  have hlocks := B.notSynchronized
  subst hsz
  have hD := hD0.self (sz := s.heap.size)
  generalize hAe : va_A [] s.heap.size = A at hD hst ⊢
  have hA : ∀ q : Nat, s.heap.size ≤ q → A q := fun q h => by rw [← hAe]; exact Or.inr h
  have hS : va_S A s.heap s.heap [] := va_S.rf
  have hl := lv_entry ([.int f0]) (n := 1) (Nat.le_of_ble_eq_true rfl)
  rw [lg_entry_eq]
  generalize (lg_sl ([.int f0]) ++ List.replicate (1 - (lg_sl ([.int f0])).length) Slot.unset).toArray = ls at hl ⊢
  have hl : lv_has ls 1 [(0, .int f0)] := hl
  have k0_ : Int32.toInt 0 = 0 := by decide
  have k1_ : Int32.toInt 1 = 1 := by decide
  have k8_ : Int32.toInt 8 = 8 := by decide
  have k11_ : Int32.toInt 11 = 11 := by decide
  have k15_ : Int32.toInt 15 = 15 := by decide
  refine lv_iload_n hx hb dX3_isLink_0 rfl (lv_at hl 0 rfl) ?_
  refine lv_bipush (v := 8) hx hb dX3_isLink_1 (by decide) ?_
  refine lv_icmp_eq (tgt := 18) hx hb dX3_isLink_3 (by decide) (fun c_1 => ?_) (fun c_1 => ?_)
  · have c_1 := congrArg Int32.toInt c_1
    refine lv_iconst (v := 1) hx hb dX3_isLink_18 (by decide) ?_
    refine lv_goto (tgt := 23) hx hb dX3_isLink_19 (by decide) ?_
    exact W.zret (v := 1) hx hb hr rfl (fun t ht hW => ⟨⟨1, (), rfl, Or.inl ⟨rfl, by omega⟩, trivial⟩, hS.F ht⟩) hS.2.2 dX3_isLink_23
  · have c_1 := mt Int32.toInt_inj.mp c_1
    refine lv_iload_n hx hb dX3_isLink_6 rfl (lv_at hl 0 rfl) ?_
    refine lv_bipush (v := 11) hx hb dX3_isLink_7 (by decide) ?_
    refine lv_icmp_eq (tgt := 18) hx hb dX3_isLink_9 (by decide) (fun c_2 => ?_) (fun c_2 => ?_)
    · have c_2 := congrArg Int32.toInt c_2
      refine lv_iconst (v := 1) hx hb dX3_isLink_18 (by decide) ?_
      refine lv_goto (tgt := 23) hx hb dX3_isLink_19 (by decide) ?_
      exact W.zret (v := 1) hx hb hr rfl (fun t ht hW => ⟨⟨1, (), rfl, Or.inl ⟨rfl, by omega⟩, trivial⟩, hS.F ht⟩) hS.2.2 dX3_isLink_23
    · have c_2 := mt Int32.toInt_inj.mp c_2
      refine lv_iload_n hx hb dX3_isLink_12 rfl (lv_at hl 0 rfl) ?_
      refine lv_bipush (v := 15) hx hb dX3_isLink_13 (by decide) ?_
      refine lv_icmp_ne (tgt := 22) hx hb dX3_isLink_15 (by decide) (fun c_3 => ?_) (fun c_3 => ?_)
      · have c_3 := mt Int32.toInt_inj.mp c_3
        refine lv_iconst (v := 0) hx hb dX3_isLink_22 (by decide) ?_
        exact W.zret (v := 0) hx hb hr rfl (fun t ht hW => ⟨⟨0, (), rfl, Or.inr ⟨rfl, by omega⟩, trivial⟩, hS.F ht⟩) hS.2.2 dX3_isLink_23
      · have c_3 := congrArg Int32.toInt c_3
        refine lv_iconst (v := 1) hx hb dX3_isLink_18 (by decide) ?_
        refine lv_goto (tgt := 23) hx hb dX3_isLink_19 (by decide) ?_
        exact W.zret (v := 1) hx hb hr rfl (fun t ht hW => ⟨⟨1, (), rfl, Or.inl ⟨rfl, by omega⟩, trivial⟩, hS.F ht⟩) hS.2.2 dX3_isLink_23
set_option maxRecDepth 100000 in
set_option maxHeartbeats 4000000 in
theorem c_X3_isPlain (l : Launch) (dC : Nat → ClassId) (dI : Nat → Nat → Nat) (TT : Nat × Nat × Nat) (sz : Nat) (f0 : Int32) : Met l yX3_isPlain wsX3_isPlain ({ frames := 1, cells := 0, slots := 0, locals := 25 } : Room) (va_Pc [.int f0] (pr dC dI [] [] [] sz TT)) (va_Qi (fun (r : Int32) (u : Unit) => bo r (0 ≤ f0.toInt ∧ f0.toInt < 17 ∧ ¬ f0.toInt = 8 ∧ ¬ f0.toInt = 9 ∧ ¬ f0.toInt = 11 ∧ ¬ f0.toInt = 15)) (fun _ _ => True) (va_A [] sz)) 0 0 (va_A [] sz) := by
  refine Met.ofW (cc := cX3_isPlain) (maxL := 1) (ret := (some .boolean)) (by decide) rfl ?_
  intro p e s m args below meth c s₁ B hml hv
  obtain ⟨rfl, hsz, hP, hK, hD0, hst⟩ := hv
  have hx := B.exec
  have hb := B.bytes
  have hr := B.returns
  have hts := atoms_spec (ws := wsX3_isPlain) B.pre
  have hown : s.vm.findClass RX3 = some m.cls := findClass_of_methodNamed B.named
  have hlocks := B.notSynchronized
  subst hsz
  have hD := hD0.self (sz := s.heap.size)
  generalize hAe : va_A [] s.heap.size = A at hD hst ⊢
  have hA : ∀ q : Nat, s.heap.size ≤ q → A q := fun q h => by rw [← hAe]; exact Or.inr h
  have hS : va_S A s.heap s.heap [] := va_S.rf
  have hl := lv_entry ([.int f0]) (n := 1) (Nat.le_of_ble_eq_true rfl)
  rw [lg_entry_eq]
  generalize (lg_sl ([.int f0]) ++ List.replicate (1 - (lg_sl ([.int f0])).length) Slot.unset).toArray = ls at hl ⊢
  have hl : lv_has ls 1 [(0, .int f0)] := hl
  have k0_ : Int32.toInt 0 = 0 := by decide
  have k1_ : Int32.toInt 1 = 1 := by decide
  have k10_ : Int32.toInt 10 = 10 := by decide
  have k16_ : Int32.toInt 16 = 16 := by decide
  have kl0_ : Int64.toInt 0 = 0 := by decide
  have kl7_ : Int64.toInt 7 = 7 := by decide
  have kl12_ : Int64.toInt 12 = 12 := by decide
  have kl14_ : Int64.toInt 14 = 14 := by decide
  refine lv_iload_n hx hb dX3_isPlain_0 rfl (lv_at hl 0 rfl) ?_
  refine lv_i2l (v := Int32.toInt64 f0) hx hb dX3_isPlain_1 rfl ?_
  have k_z_1 := Int32.toInt_toInt64 f0
  refine lv_lconst (v := 0) hx hb dX3_isPlain_2 (by decide) ?_
  refine lv_ldc2 hx hb hown (hts (.constantLong RX3 103 (7)) (by decide +kernel)) dX3_isPlain_3 ?_
  refine va_calli (va_runS (As := [.long (Int32.toInt64 f0), .long 0, .long 7]) (rest := []) ⟨hx, hb, hml, hown, hts⟩ (c_X3_in l dC dI TT s.heap.size (Int32.toInt64 f0) 0 7) (va_cwS 3 hts gX3_isPlain_X3_in rfl rfl rfl (by decide +kernel) ⟨Nat.le_of_ble_eq_true rfl, Nat.le_of_ble_eq_true rfl⟩) (pr_S (ws := []) (wA := []) (tys := []) (hP.sub [] rfl) (hK.sub [] rfl) vd_nil hst hS (ro_free hS hA)) rfl rfl hl.1 rfl (lv_room (Nat.le_of_ble_eq_true rfl)) dX3_isPlain_6 ⟨Nat.le_of_ble_eq_true rfl, Nat.le_of_ble_eq_true rfl⟩) hS (fun q _ h => (ro_free hS hA) q h) (ro_free hS hA) (fun r_2 u t H1 locs ht hvm hw hB hz1 hk1 hS => ?_)
  have hP := ro_keep hP hk1
  generalize H1 = H at hP hS ⊢
  rcases hw with ⟨rfl, hp_3⟩ | ⟨rfl, hp_3⟩
  · refine lv_if_ne (tgt := 38) hx hb dX3_isPlain_9 (by decide) (fun _ => ?_) (fun c9 => absurd c9 (by decide))
    refine lv_iconst (v := 1) hx hb dX3_isPlain_38 (by decide) ?_
    refine lv_goto (tgt := 43) hx hb dX3_isPlain_39 (by decide) ?_
    exact W.zret (v := 1) hx hb hr rfl (fun t ht hW => ⟨⟨1, (), rfl, Or.inl ⟨rfl, by omega⟩, trivial⟩, hS.F ht⟩) hS.2.2 dX3_isPlain_43
  · refine lv_if_ne (tgt := 38) hx hb dX3_isPlain_9 (by decide) (fun c9 => absurd c9 (by decide)) (fun _ => ?_)
    refine lv_iload_n hx hb dX3_isPlain_12 rfl (lv_at hl 0 rfl) ?_
    refine lv_bipush (v := 10) hx hb dX3_isPlain_13 (by decide) ?_
    refine lv_icmp_eq (tgt := 38) hx hb dX3_isPlain_15 (by decide) (fun c_4 => ?_) (fun c_4 => ?_)
    · have c_4 := congrArg Int32.toInt c_4
      refine lv_iconst (v := 1) hx hb dX3_isPlain_38 (by decide) ?_
      refine lv_goto (tgt := 43) hx hb dX3_isPlain_39 (by decide) ?_
      exact W.zret (v := 1) hx hb hr rfl (fun t ht hW => ⟨⟨1, (), rfl, Or.inl ⟨rfl, by omega⟩, trivial⟩, hS.F ht⟩) hS.2.2 dX3_isPlain_43
    · have c_4 := mt Int32.toInt_inj.mp c_4
      refine lv_iload_n hx hb dX3_isPlain_18 rfl (lv_at hl 0 rfl) ?_
      refine lv_i2l (v := Int32.toInt64 f0) hx hb dX3_isPlain_19 rfl ?_
      have k_z_5 := Int32.toInt_toInt64 f0
      refine lv_ldc2 hx hb hown (hts (.constantLong RX3 105 (12)) (by decide +kernel)) dX3_isPlain_20 ?_
      refine lv_ldc2 hx hb hown (hts (.constantLong RX3 107 (14)) (by decide +kernel)) dX3_isPlain_23 ?_
      refine va_calli (va_runS (As := [.long (Int32.toInt64 f0), .long 12, .long 14]) (rest := []) ⟨hx, hb, hml, hown, hts⟩ (c_X3_in l dC dI TT H.size (Int32.toInt64 f0) 12 14) (va_cwS 3 hts gX3_isPlain_X3_in rfl rfl rfl (by decide +kernel) ⟨Nat.le_of_ble_eq_true rfl, Nat.le_of_ble_eq_true rfl⟩) (pr_S (ws := []) (wA := []) (tys := []) (hP.sub [] rfl) (hK.sub [] rfl) vd_nil hst hS (ro_free hS hA)) rfl rfl hl.1 rfl (lv_room (Nat.le_of_ble_eq_true rfl)) dX3_isPlain_26 ⟨Nat.le_of_ble_eq_true rfl, Nat.le_of_ble_eq_true rfl⟩) hS (fun q _ h => (ro_free hS hA) q h) (ro_free hS hA) (fun r_6 u t H1 locs ht hvm hw hB hz1 hk1 hS => ?_)
      have hP := ro_keep hP hk1
      generalize H1 = H at hP hS ⊢
      rcases hw with ⟨rfl, hp_7⟩ | ⟨rfl, hp_7⟩
      · refine lv_if_ne (tgt := 38) hx hb dX3_isPlain_29 (by decide) (fun _ => ?_) (fun c9 => absurd c9 (by decide))
        refine lv_iconst (v := 1) hx hb dX3_isPlain_38 (by decide) ?_
        refine lv_goto (tgt := 43) hx hb dX3_isPlain_39 (by decide) ?_
        exact W.zret (v := 1) hx hb hr rfl (fun t ht hW => ⟨⟨1, (), rfl, Or.inl ⟨rfl, by omega⟩, trivial⟩, hS.F ht⟩) hS.2.2 dX3_isPlain_43
      · refine lv_if_ne (tgt := 38) hx hb dX3_isPlain_29 (by decide) (fun c9 => absurd c9 (by decide)) (fun _ => ?_)
        refine lv_iload_n hx hb dX3_isPlain_32 rfl (lv_at hl 0 rfl) ?_
        refine lv_bipush (v := 16) hx hb dX3_isPlain_33 (by decide) ?_
        refine lv_icmp_ne (tgt := 42) hx hb dX3_isPlain_35 (by decide) (fun c_8 => ?_) (fun c_8 => ?_)
        · have c_8 := mt Int32.toInt_inj.mp c_8
          refine lv_iconst (v := 0) hx hb dX3_isPlain_42 (by decide) ?_
          exact W.zret (v := 0) hx hb hr rfl (fun t ht hW => ⟨⟨0, (), rfl, Or.inr ⟨rfl, by omega⟩, trivial⟩, hS.F ht⟩) hS.2.2 dX3_isPlain_43
        · have c_8 := congrArg Int32.toInt c_8
          refine lv_iconst (v := 1) hx hb dX3_isPlain_38 (by decide) ?_
          refine lv_goto (tgt := 43) hx hb dX3_isPlain_39 (by decide) ?_
          exact W.zret (v := 1) hx hb hr rfl (fun t ht hW => ⟨⟨1, (), rfl, Or.inl ⟨rfl, by omega⟩, trivial⟩, hS.F ht⟩) hS.2.2 dX3_isPlain_43
set_option maxRecDepth 20000 in
theorem in_c_X3_isOther_null_X3 : ∀ w ∈ u_ws RX3 TX3 23, w ∈ wsX3_isOther := by decide +kernel
set_option maxRecDepth 100000 in
set_option maxHeartbeats 4000000 in
theorem c_X3_isOther_null (l : Launch) (dC : Nat → ClassId) (dI : Nat → Nat → Nat) (TT : Nat × Nat × Nat) (sz : Nat) (g0 g1 g2 g3 g4 g5 g6 g7 g8 g9 g10 g11 g12 g13 g14 g15 g16 g17 g18 : Nat) (kS : ClassId) (fS : Nat → Int32) (hfS : ∀ j, j < 12 → fS j = -1) (s0 f0 : Int32) (hs : 0 ≤ s0.toInt ∧ s0.toInt < 12) : Met l yX3_isOther wsX3_isOther ({ frames := 0, cells := 0, slots := 0, locals := 0 } : Room) (va_Pc [.ref g0, .int s0, .int f0] (pr dC dI [(g0, .inr (3, [.ref g1, .ref g2, .ref g3, .ref g4, .ref g5, .ref g6, .ref g7, .int 0, .int 0, .ref g8, .ref g9, .ref g10, .int 0, .ref g11, .int 0, .ref g12, .ref g13, .ref g14, .int 0, .ref g15, .ref g16, .ref g17, .ref g18])), (g1, .inl (kS, 12, .inl fS))] [] [(kS, .int)] sz TT)) (va_Qi (fun (r : Int32) (u : Unit) => r = 0) (fun _ _ => True) (va_A [] sz)) 0 0 (va_A [] sz) := by
  refine Met.ofW (cc := cX3_isOther) (maxL := 3) (ret := (some .boolean)) (by decide) rfl ?_
  intro p e s m args below meth c s₁ B hml hv
  obtain ⟨rfl, hsz, hP, hK, hD0, hst⟩ := hv
  have hx := B.exec
  have hb := B.bytes
  have hr := B.returns
  have hts := atoms_spec (ws := wsX3_isOther) B.pre
  have hown : s.vm.findClass RX3 = some m.cls := findClass_of_methodNamed B.named
  have hlocks := B.notSynchronized
  have iX3_ := in_c_X3_isOther_null_X3
  subst hsz
  have hD := hD0.self (sz := s.heap.size)
  generalize hAe : va_A [] s.heap.size = A at hD hst ⊢
  have hA : ∀ q : Nat, s.heap.size ≤ q → A q := fun q h => by rw [← hAe]; exact Or.inr h
  have hS : va_S A s.heap s.heap [] := va_S.rf
  have hl := lv_entry ([.ref g0, .int s0, .int f0]) (n := 3) (Nat.le_of_ble_eq_true rfl)
  rw [lg_entry_eq]
  generalize (lg_sl ([.ref g0, .int s0, .int f0]) ++ List.replicate (3 - (lg_sl ([.ref g0, .int s0, .int f0])).length) Slot.unset).toArray = ls at hl ⊢
  have hl : lv_has ls 3 [(0, .ref g0), (1, .int s0), (2, .int f0)] := hl
  refine lv_aload_n hx hb dX3_isOther_0 rfl (lv_at hl 0 rfl) ?_
  refine va_get (D := (dC, dI)) (ci := 3) (v := .ref g1) (C := RX3) (T := TX3) (N := 23) hx hb hts iX3_ hown hK hP 0 rfl rfl 0 (by decide) (hts (.fieldLink RX3 7 "FieldLeavesModel" "slot" "[I") (by decide +kernel)) (fun _ h9 => h9) rfl dX3_isOther_1 ?_
  refine lv_iload_n hx hb dX3_isOther_4 rfl (lv_at hl 1 rfl) ?_
  have h_1 : vp_in s0 12 := (vp_in_iff.mpr (by constructor <;> omega))
  refine va_iald hx hb hK hP 1 0 rfl rfl h_1 dX3_isOther_5 ?_
  refine lv_topi (fun z_2 ez_2 => ?_)
  obtain rfl : z_2 = (-1) := ez_2.trans (hfS _ (vp_lt h_1))
  refine lv_iconst (v := (-1)) hx hb dX3_isOther_6 (by decide) ?_
  refine lv_icmp_eq (tgt := 32) hx hb dX3_isOther_7 (by decide) (fun _ => ?_) (fun c9 => absurd c9 (by decide))
  refine lv_iconst (v := 0) hx hb dX3_isOther_32 (by decide) ?_
  exact W.zret (v := 0) hx hb hr rfl (fun t ht hW => ⟨⟨0, (), rfl, rfl, trivial⟩, hS.F ht⟩) hS.2.2 dX3_isOther_33
set_option maxRecDepth 20000 in
theorem in_c_X3_rowless_null_X3 : ∀ w ∈ u_ws RX3 TX3 23, w ∈ wsX3_rowless := by decide +kernel
set_option maxRecDepth 100000 in
set_option maxHeartbeats 4000000 in
theorem c_X3_rowless_null (l : Launch) (dC : Nat → ClassId) (dI : Nat → Nat → Nat) (TT : Nat × Nat × Nat) (sz : Nat) (g0 g1 g2 g3 g4 g5 g6 g7 g8 g9 g10 g11 g12 g13 g14 g15 g16 g17 g18 : Nat) (kS : ClassId) (fS : Nat → Int32) (hfS : ∀ j, j < 12 → fS j = -1) (s0 : Int32) (hs : 0 ≤ s0.toInt ∧ s0.toInt < 12) : Met l yX3_rowless wsX3_rowless ({ frames := 1, cells := 0, slots := 0, locals := 22 } : Room) (va_Pc [.ref g0, .int s0] (pr dC dI [(g0, .inr (3, [.ref g1, .ref g2, .ref g3, .ref g4, .ref g5, .ref g6, .ref g7, .int 0, .int 0, .ref g8, .ref g9, .ref g10, .int 0, .ref g11, .int 0, .ref g12, .ref g13, .ref g14, .int 0, .ref g15, .ref g16, .ref g17, .ref g18])), (g1, .inl (kS, 12, .inl fS))] [] [(kS, .int)] sz TT)) (va_Qi (fun (r : Int32) (u : Unit) => r = (-11)) (fun _ _ => True) (va_A [] sz)) 0 0 (va_A [] sz) := by
  refine Met.ofW (cc := cX3_rowless) (maxL := 2) (ret := (some .int)) (by decide) rfl ?_
  intro p e s m args below meth c s₁ B hml hv
  obtain ⟨rfl, hsz, hP, hK, hD0, hst⟩ := hv
  have hx := B.exec
  have hb := B.bytes
  have hr := B.returns
  have hts := atoms_spec (ws := wsX3_rowless) B.pre
  have hown : s.vm.findClass RX3 = some m.cls := findClass_of_methodNamed B.named
  have hlocks := B.notSynchronized
  have iX3_ := in_c_X3_rowless_null_X3
  subst hsz
  have hD := hD0.self (sz := s.heap.size)
  generalize hAe : va_A [] s.heap.size = A at hD hst ⊢
  have hA : ∀ q : Nat, s.heap.size ≤ q → A q := fun q h => by rw [← hAe]; exact Or.inr h
  have hS : va_S A s.heap s.heap [] := va_S.rf
  have hl := lv_entry ([.ref g0, .int s0]) (n := 2) (Nat.le_of_ble_eq_true rfl)
  rw [lg_entry_eq]
  generalize (lg_sl ([.ref g0, .int s0]) ++ List.replicate (2 - (lg_sl ([.ref g0, .int s0])).length) Slot.unset).toArray = ls at hl ⊢
  have hl : lv_has ls 2 [(0, .ref g0), (1, .int s0)] := hl
  have km11_ : Int32.toInt (-11) = -11 := by decide
  refine lv_aload_n hx hb dX3_rowless_0 rfl (lv_at hl 0 rfl) ?_
  refine lv_iload_n hx hb dX3_rowless_1 rfl (lv_at hl 1 rfl) ?_
  refine lv_bipush (v := 9) hx hb dX3_rowless_2 (by decide) ?_
  refine va_calli (va_runV (b := g0) (As := [.int s0, .int 9]) (rest := []) ⟨hx, hb, hml, hown, hts⟩ (c_X3_isOther_null l dC dI TT s.heap.size g0 g1 g2 g3 g4 g5 g6 g7 g8 g9 g10 g11 g12 g13 g14 g15 g16 g17 g18 kS fS hfS s0 9 (by constructor <;> omega)) (cwV 2 hts gX3_rowless_X3_isOther rfl rfl rfl (by decide +kernel) ⟨Nat.le_of_ble_eq_true rfl, Nat.le_of_ble_eq_true rfl⟩) ⟨pr_blind, va_recv hK hP (ci := 3) (q0 := 0) rfl rfl, (pr_S (ws := [(g0, .inr (3, [.ref g1, .ref g2, .ref g3, .ref g4, .ref g5, .ref g6, .ref g7, .int 0, .int 0, .ref g8, .ref g9, .ref g10, .int 0, .ref g11, .int 0, .ref g12, .ref g13, .ref g14, .int 0, .ref g15, .ref g16, .ref g17, .ref g18])), (g1, .inl (kS, 12, .inl fS))]) (wA := []) (tys := [(kS, .int)]) (hP.sub [0, 1] rfl) (hK.sub [0] rfl) vd_nil hst hS (ro_free hS hA)).2⟩ rfl rfl hl.1 rfl (lv_room (Nat.le_of_ble_eq_true rfl)) dX3_rowless_4 ⟨Nat.le_of_ble_eq_true rfl, Nat.le_of_ble_eq_true rfl⟩) hS (fun q _ h => (ro_free hS hA) q h) (ro_free hS hA) (fun r_1 u t H1 locs ht hvm hw hB hz1 hk1 hS => ?_)
  have hP := ro_keep hP hk1
  generalize H1 = H at hP hS ⊢
  subst hw
  refine lv_if_eq (tgt := 15) hx hb dX3_rowless_7 (by decide) (fun _ => ?_) (fun c9 => absurd c9 (by decide))
  refine lv_aload_n hx hb dX3_rowless_15 rfl (lv_at hl 0 rfl) ?_
  refine va_get (D := (dC, dI)) (ci := 3) (v := .ref g1) (C := RX3) (T := TX3) (N := 23) hx hb hts iX3_ hown hK hP 0 rfl rfl 0 (by decide) (hts (.fieldLink RX3 7 "FieldLeavesModel" "slot" "[I") (by decide +kernel)) (fun _ h9 => h9) rfl dX3_rowless_16 ?_
  refine lv_iload_n hx hb dX3_rowless_19 rfl (lv_at hl 1 rfl) ?_
  have h_2 : vp_in s0 12 := (vp_in_iff.mpr (by constructor <;> omega))
  refine va_iald hx hb hK hP 1 0 rfl rfl h_2 dX3_rowless_20 ?_
  refine lv_topi (fun z_3 ez_3 => ?_)
  obtain rfl : z_3 = (-1) := ez_3.trans (hfS _ (vp_lt h_2))
  refine lv_iconst (v := (-1)) hx hb dX3_rowless_21 (by decide) ?_
  refine lv_icmp_eq (tgt := 40) hx hb dX3_rowless_22 (by decide) (fun _ => ?_) (fun c9 => absurd c9 (by decide))
  refine lv_bipush (v := (-11)) hx hb dX3_rowless_40 (by decide) ?_
  refine lv_goto (tgt := 46) hx hb dX3_rowless_42 (by decide) ?_
  exact W.iret (v := (-11)) hx hb hr (fun t ht hW => ⟨⟨(-11), (), rfl, rfl, trivial⟩, hS.F ht⟩) hS.2.2 dX3_rowless_46
end
section
-- what the first call on a fresh object answers
def sp_make (s c n : Int32) : Int32 := if 0 ≤ s.toInt ∧ s.toInt < 12 ∧ 0 ≤ c.toInt ∧ c.toInt ≤ 4 then (if c.toInt = 2 ∧ ¬ (0 ≤ n.toInt ∧ n.toInt ≤ 1000) then (-18) else 1) else (-1)
def sp_clear (s : Int32) : Int32 := if 0 ≤ s.toInt ∧ s.toInt < 12 then 0 else (-1)
def sp_share (s t : Int32) : Int32 := if 0 ≤ s.toInt ∧ s.toInt < 12 ∧ 0 ≤ t.toInt ∧ t.toInt < 12 then 1 else (-1)
def sp_same (s t : Int32) : Int32 := if 0 ≤ s.toInt ∧ s.toInt < 12 ∧ 0 ≤ t.toInt ∧ t.toInt < 12 then 1 else (-1)
def sp_cls (s : Int32) : Int32 := if 0 ≤ s.toInt ∧ s.toInt < 12 then (-4) else (-1)
def sp_is (s c : Int32) : Int32 := if 0 ≤ s.toInt ∧ s.toInt < 12 ∧ 0 ≤ c.toInt ∧ c.toInt ≤ 5 then 0 else (-1)
def sp_get (s f : Int32) : Int64 := if 0 ≤ s.toInt ∧ s.toInt < 12 ∧ 0 ≤ f.toInt ∧ f.toInt < 17 ∧ ¬ f.toInt = 8 ∧ ¬ f.toInt = 9 ∧ ¬ f.toInt = 11 ∧ ¬ f.toInt = 15 then (-11) else (-1)
def sp_set (s f : Int32) (_ : Int64) : Int32 := if 0 ≤ s.toInt ∧ s.toInt < 12 ∧ 0 ≤ f.toInt ∧ f.toInt < 17 ∧ ¬ f.toInt = 8 ∧ ¬ f.toInt = 9 ∧ ¬ f.toInt = 11 ∧ ¬ f.toInt = 15 then (-11) else (-1)
def sp_link (s f t : Int32) : Int32 := if 0 ≤ s.toInt ∧ s.toInt < 12 ∧ (f.toInt = 8 ∨ f.toInt = 11 ∨ f.toInt = 15) ∧ 0 ≤ t.toInt ∧ t.toInt < 12 then (-11) else (-1)
def sp_follow (s f t : Int32) : Int32 := if 0 ≤ s.toInt ∧ s.toInt < 12 ∧ (f.toInt = 8 ∨ f.toInt = 11 ∨ f.toInt = 15) ∧ 0 ≤ t.toInt ∧ t.toInt < 12 then (-11) else (-1)
def sp_row (s n : Int32) : Int32 := if 0 ≤ s.toInt ∧ s.toInt < 12 ∧ n.toInt ≤ 20 then (if n.toInt < 0 ∧ ¬ n.toInt = -4 then (-13) else (-11)) else (-1)
def sp_put (s _ _ : Int32) : Int32 := if 0 ≤ s.toInt ∧ s.toInt < 12 then (-11) else (-1)
def sp_length (s : Int32) : Int32 := if 0 ≤ s.toInt ∧ s.toInt < 12 then (-11) else (-1)
def sp_count (s c : Int32) : Int64 := if 0 ≤ s.toInt ∧ s.toInt < 12 ∧ 0 ≤ c.toInt ∧ c.toInt ≤ 2 then (-11) else (-1)
def sp_call (s c : Int32) : Int32 := if 0 ≤ s.toInt ∧ s.toInt < 12 ∧ 0 ≤ c.toInt ∧ c.toInt ≤ 4 then (-11) else (-1)
def sp_raise (s : Int32) : Int32 := if 0 ≤ s.toInt ∧ s.toInt < 12 then (-11) else (-1)
def sp_passes (s n : Int32) : Int32 := if 0 ≤ s.toInt ∧ s.toInt < 12 ∧ 1 ≤ n.toInt ∧ n.toInt ≤ 12 then (-11) else (-1)
def sp_passed : Int32 := 0
def sp_leaves (s : Int32) : Int32 := if 0 ≤ s.toInt ∧ s.toInt < 12 then (-11) else (-1)
def sp_leaf (_ _ : Int32) : Int64 := (-1)
def sp_alter (_ : Int32) (_ : Int64) : Int32 := (-1)
def sp_back (s : Int32) : Int32 := if 0 ≤ s.toInt ∧ s.toInt < 12 then (-3) else (-1)
def sp_equal (s t : Int32) : Int32 := if 0 ≤ s.toInt ∧ s.toInt < 12 ∧ 0 ≤ t.toInt ∧ t.toInt < 12 then 1 else (-1)
def sp_changed (s t k : Int32) : Int32 := if 0 ≤ s.toInt ∧ s.toInt < 12 ∧ 0 ≤ t.toInt ∧ t.toInt < 12 ∧ 0 ≤ k.toInt then (-11) else (-1)
end
section
-- THE CLASS'S HEAP, TYPED: K tells each cell's kind (0 LeafList, 1 Thing, 2 FieldLeaves, 3 long[17], 4 a row of at most 20 ints, 5 Thing[12], 6 Thing[24], 7 int[300], 8 long[300]), L the addresses, f the cells
def isr (K : Nat → Nat) (L : List Nat) (k x : Nat) : Prop := x ∈ L ∧ K x = k
def opr (K : Nat → Nat) (L : List Nat) (k : Nat) (o : Option Nat) : Prop := ∀ x, o = some x → isr K L k x
def ok1 (K : Nat → Nat) (L : List Nat) (e : va_E) : Prop := ∃ (cn : Int32) (v : Nat) (b m st i : Option Nat), e = .inr (1, [.int cn, .ref v, va_rf b, va_rf m, va_rf st, va_rf i]) ∧ isr K L 3 v ∧ opr K L 1 b ∧ opr K L 1 m ∧ opr K L 1 st ∧ opr K L 4 i
def ok2 (K : Nat → Nat) (L : List Nat) (e : va_E) : Prop := ∃ (q1 : Nat) (pc : Int32) (c1 c2 c3 q5 : Nat) (fc : Int32) (q7 : Nat) (mc : Int32), e = .inr (2, [.ref q1, .int pc, .ref c1, .ref c2, .ref c3, .ref q5, .int fc, .ref q7, .int mc]) ∧ isr K L 5 q1 ∧ isr K L 0 c1 ∧ isr K L 0 c2 ∧ isr K L 0 c3 ∧ isr K L 6 q5 ∧ (0 ≤ fc.toInt ∧ fc.toInt ≤ 24) ∧ isr K L 6 q7 ∧ (0 ≤ mc.toInt ∧ mc.toInt ≤ 24)
def ok0 (K : Nat → Nat) (L : List Nat) (e : va_E) : Prop := ∃ (n d v : Nat) (z : Int32), e = .inr (0, [.ref n, .ref d, .ref v, .int z]) ∧ isr K L 7 n ∧ isr K L 7 d ∧ isr K L 8 v ∧ (0 ≤ z.toInt ∧ z.toInt ≤ 300)
def okJ (kJ : ClassId) (n : Nat) (e : va_E) : Prop := ∃ g : Nat → Int64, e = .inl (kJ, n, .inr (.inl g))
def ok4 (kI : ClassId) (e : va_E) : Prop := ∃ (n : Nat) (g : Nat → Int32), e = .inl (kI, n, .inl g) ∧ n ≤ 20
def ok7 (kI : ClassId) (e : va_E) : Prop := ∃ g : Nat → Int32, e = .inl (kI, 300, .inl g)
def okA (kT : ClassId) (n : Nat) (K : Nat → Nat) (L : List Nat) (e : va_E) : Prop := ∃ g : Nat → Option Nat, e = .inl (kT, n, .inr (.inr (.inr (.inr g)))) ∧ ∀ j, j < n → opr K L 1 (g j)
def okc (kT kI kJ : ClassId) (K : Nat → Nat) (L : List Nat) (k : Nat) (e : va_E) : Prop := match k with
  | 0 => ok0 K L e
  | 1 => ok1 K L e
  | 2 => ok2 K L e
  | 3 => okJ kJ 17 e
  | 4 => ok4 kI e
  | 5 => okA kT 12 K L e
  | 6 => okA kT 24 K L e
  | 7 => ok7 kI e
  | 8 => okJ kJ 300 e
  | _ => False
def PI (kT kI kJ : ClassId) (K : Nat → Nat) (L : List Nat) (f : Nat → va_E) : Prop := ∀ a, a ∈ L → okc kT kI kJ K L (K a) (f a)
def EXT (K : Nat → Nat) (L : List Nat) (K' : Nat → Nat) (L' : List Nat) : Prop := ∀ a, a ∈ L → a ∈ L' ∧ K' a = K a
section TYP
variable {kT kI kJ : ClassId} {K K' : Nat → Nat} {L L' : List Nat} {f : Nat → va_E} {x k q : Nat} {e : va_E}
theorem PI.at (h : PI kT kI kJ K L f) (hx : isr K L k x) : okc kT kI kJ K L k (f x) := by
  have := h x hx.1
  rw [hx.2] at this
  exact this
theorem PI.a0 (h : PI kT kI kJ K L f) (hx : isr K L 0 x) : ok0 K L (f x) := h.at hx
theorem PI.a1 (h : PI kT kI kJ K L f) (hx : isr K L 1 x) : ok1 K L (f x) := h.at hx
theorem PI.a2 (h : PI kT kI kJ K L f) (hx : isr K L 2 x) : ok2 K L (f x) := h.at hx
theorem PI.a3 (h : PI kT kI kJ K L f) (hx : isr K L 3 x) : okJ kJ 17 (f x) := h.at hx
theorem PI.a4 (h : PI kT kI kJ K L f) (hx : isr K L 4 x) : ok4 kI (f x) := h.at hx
theorem PI.a5 (h : PI kT kI kJ K L f) (hx : isr K L 5 x) : okA kT 12 K L (f x) := h.at hx
theorem PI.a6 (h : PI kT kI kJ K L f) (hx : isr K L 6 x) : okA kT 24 K L (f x) := h.at hx
theorem PI.a7 (h : PI kT kI kJ K L f) (hx : isr K L 7 x) : ok7 kI (f x) := h.at hx
theorem PI.a8 (h : PI kT kI kJ K L f) (hx : isr K L 8 x) : okJ kJ 300 (f x) := h.at hx
theorem PI.put (h : PI kT kI kJ K L f) (hx : isr K L k x) (he : okc kT kI kJ K L k e) : PI kT kI kJ K L (va_up f x e) := fun a ha => by
  by_cases ea : a = x
  · subst ea
    rw [va_up_self, hx.2]
    exact he
  · rw [va_up_ne _ _ ea]
    exact h a ha
theorem isr.ext (h : isr K L k x) (hE : EXT K L K' L') : isr K' L' k x := ⟨(hE x h.1).1, (hE x h.1).2.trans h.2⟩
theorem opr.ext {o : Option Nat} (h : opr K L k o) (hE : EXT K L K' L') : opr K' L' k o := fun x e => (h x e).ext hE
theorem okc.ext (h : okc kT kI kJ K L k e) (hE : EXT K L K' L') : okc kT kI kJ K' L' k e := by
  unfold okc at h ⊢
  split at h <;> try exact h
  · obtain ⟨n, d, v, z, e, h1, h2, h3, h4⟩ := h
    exact ⟨n, d, v, z, e, h1.ext hE, h2.ext hE, h3.ext hE, h4⟩
  · obtain ⟨cn, v, b, m, st, i, e, h1, h2, h3, h4, h5⟩ := h
    exact ⟨cn, v, b, m, st, i, e, h1.ext hE, h2.ext hE, h3.ext hE, h4.ext hE, h5.ext hE⟩
  · obtain ⟨q1, pc, c1, c2, c3, q5, fc, q7, mc, e, h1, h2, h3, h4, h5, h6, h7, h8⟩ := h
    exact ⟨q1, pc, c1, c2, c3, q5, fc, q7, mc, e, h1.ext hE, h2.ext hE, h3.ext hE, h4.ext hE, h5.ext hE, h6, h7.ext hE, h8⟩
  · obtain ⟨g, e, h1⟩ := h
    exact ⟨g, e, fun j hj => (h1 j hj).ext hE⟩
  · obtain ⟨g, e, h1⟩ := h
    exact ⟨g, e, fun j hj => (h1 j hj).ext hE⟩
theorem EXT.rf : EXT K L K L := fun _ h => ⟨h, rfl⟩
theorem EXT.tr {K2 : Nat → Nat} {L2 : List Nat} (h : EXT K L K' L') (h2 : EXT K' L' K2 L2) : EXT K L K2 L2 := fun a ha => ⟨(h2 a (h a ha).1).1, ((h2 a (h a ha).1).2).trans (h a ha).2⟩
theorem EXT.new (hq : q ∉ L) : EXT K L (va_up K q k) (q :: L) := fun a ha => ⟨List.mem_cons_of_mem _ ha, va_up_ne _ _ (fun e => hq (e ▸ ha))⟩
theorem isr.new : isr (va_up K q k) (q :: L) k q := ⟨List.mem_cons_self, va_up_self _ _ _⟩
theorem PI.push (h : PI kT kI kJ K L f) (hq : q ∉ L) (he : okc kT kI kJ (va_up K q k) (q :: L) k e) : PI kT kI kJ (va_up K q k) (q :: L) (va_up f q e) := fun a ha => by
  rcases List.mem_cons.mp ha with ea | ha
  · subst ea
    rw [va_up_self, va_up_self]
    exact he
  · have ne : a ≠ q := fun ea => hq (ea ▸ ha)
    rw [va_up_ne _ _ ne, va_up_ne _ _ ne]
    exact (h a ha).ext (EXT.new hq)
theorem va_plg (hx : x ∈ L) (he : f x = e) : ∃ k : Nat, (va_pl L f)[k]? = some (x, e) := by
  obtain ⟨k, hk⟩ := va_pl_get (X := []) (f := f) hx
  exact ⟨k, by rw [← he]; exact hk⟩
theorem va_pls {A : Nat → Prop} {k : Nat} {e0 : va_E} (hD : va_D A (va_pl L f)) (hx : x ∈ L) (hk : (va_pl L f)[k]? = some (x, e0)) (e : va_E) : (va_pl L f).set k (x, e) = va_pl L (va_up f x e) := by
  have h0 : e0 = f x := by
    obtain ⟨a, _, h2⟩ := List.mem_map.mp (List.mem_of_getElem? hk)
    cases h2
    rfl
  rw [h0] at hk
  exact va_pl_set (X := []) hD hx hk
theorem pl_cons (hq : q ∉ L) : (q, e) :: va_pl L f = va_pl (q :: L) (va_up f q e) := by
  show _ = (q, va_up f q e q) :: L.map (fun a => (a, va_up f q e a))
  rw [va_up_self]
  congr 1
  refine List.map_congr_left (fun a ha => ?_)
  have ne : a ≠ q := fun ea => hq (by rw [← ea]; exact ha)
  rw [va_up_ne f e ne]
theorem wp_rot {D : va_G} {cl : List vw_C} {pl : va_W} {y : Nat × va_E} {H : Heap} (h : va_P D cl (pl ++ [y]) H) : va_P D cl (y :: pl) H := fun k z hk => by
  have hm : z ∈ pl ++ [y] := by
    rcases List.mem_cons.mp (List.mem_of_getElem? hk) with e | e
    · exact List.mem_append_right _ (by rw [e]; exact List.mem_singleton_self _)
    · exact List.mem_append_left _ e
  obtain ⟨i, hi⟩ := List.getElem?_of_mem hm
  exact h i z hi
theorem wd_rot {A : Nat → Prop} {pl : va_W} {y : Nat × va_E} (h : va_D A (pl ++ [y])) : va_D A (y :: pl) := by
  refine h.by (fun k => if k = 0 then pl.length else k - 1) (fun k z hk => ?_) (fun i j hi hj e => ?_)
  · cases k with
    | zero =>
      show (pl ++ [y])[if 0 = 0 then pl.length else 0 - 1]? = some z
      rw [if_pos rfl, List.getElem?_append_right (Nat.le_refl _), Nat.sub_self]
      exact hk
    | succ k =>
      have hl : k < pl.length := (List.getElem?_eq_some_iff.mp (show pl[k]? = some z from hk)).1
      show (pl ++ [y])[if k + 1 = 0 then pl.length else k + 1 - 1]? = some z
      rw [if_neg (Nat.succ_ne_zero k), Nat.add_sub_cancel, List.getElem?_append_left hl]
      exact hk
  · simp only [List.length_cons] at hi hj
    have e : (if i = 0 then pl.length else i - 1) = (if j = 0 then pl.length else j - 1) := e
    split at e <;> split at e <;> omega
theorem pl_free {A : Nat → Prop} {ws : va_W} {H0 H : Heap} {locs : List Loc} (hD : va_D A ws) (hS : va_S A H0 H locs) (hA : ∀ q : Nat, H0.size ≤ q → A q) : ∀ q, va_A ws H.size q → A q := fun q h => by
  rcases h with ⟨k, e, h⟩ | h
  · exact hD.2 k (q, e) h
  · exact hA q (Nat.le_trans hS.1 h)
theorem pl_new {A : Nat → Prop} {y : va_E} (hD : va_D A (va_pl L f ++ [(q, y)])) : q ∉ L := va_pl_fresh2 (X := []) hD
end TYP
/-- rows of one type have one class -/
theorem ty_one {D : va_G} {cl : List vw_C} {tys : List (ClassId × FieldType)} {U : State} {a b : ClassId} (hK : va_K D cl tys U) (i j : Nat) {ty : FieldType} (hi : tys[i]? = some (a, ty)) (hj : tys[j]? = some (b, ty)) (hp : ty = .int ∨ ty = .long) : a = b := by
  have h1 := (hK.2 i _ hi).2
  have h2 := (hK.2 j _ hj).2
  rcases hp with rfl | rfl
  · exact Option.some.inj (h1.symm.trans h2)
  · exact Option.some.inj (h1.symm.trans h2)
theorem nI_len {n : Nat} (h : n ≤ 20) : (Int32.ofNat n).toInt = (n : Int) := nI_toInt (n := n) (by omega)
theorem isr_ne {K : Nat → Nat} {L : List Nat} {k j x y : Nat} (hx : isr K L k x) (hy : isr K L j y) (h : k ≠ j) : x ≠ y := fun e => h (by rw [← hx.2, ← hy.2, e])
end
section
theorem vp_nil {D : va_G} {H : Heap} : va_P D vwCl [] H := fun k q h => by simp at h
theorem upr_all {K : Nat → Nat} {L : List Nat} {g : Nat → Option Nat} {n k : Nat} {o : Option Nat} (h : ∀ j, j < n → opr K L 1 (g j)) (ho : opr K L 1 o) : ∀ j, j < n → opr K L 1 (va_up g k o j) := fun j hj => by
  by_cases e : j = k
  · rw [e, va_up_self]; exact ho
  · rw [va_up_ne _ _ e]; exact h j hj
theorem row_len {kI : ClassId} {n m : Nat} {g h : Nat → Int32} (e : (Sum.inl (kI, n, .inl g) : va_E) = .inl (kI, m, .inl h)) : n = m := by
  injection e with e
  injection e with _ e
  injection e
theorem W_nameQ {p : Program} {l : Launch} {e : Env} {R : Room} {s : State} {m : MethodId} {args : Array Value} {below : List Frame} {meth : Method} {c : Code} {H : Heap} {locs : List Loc} {cells slots : Nat} {Q : State → Prop} {g : JFrame} (k : ∀ Q0 : State → Prop, Q0 = Q → W p l e R s m args below meth c H locs cells slots Q0 g) : W p l e R s m args below meth c H locs cells slots Q g := k Q rfl
theorem inc_toInt {x y : Int32} (e : y = x + 1) (h : x.toInt < 2147483647) : y.toInt = x.toInt + 1 := by
  have h1 := Int32.le_toInt x
  rw [e, Int32.toInt_add]
  have e1 : (1 : Int32).toInt = 1 := by decide
  rw [e1]
  exact Int.bmod_eq_of_le (by omega) (by omega)
theorem va_rf_inj {a b : Option Nat} (h : va_rf a = va_rf b) : a = b := by
  cases a <;> cases b <;> simp_all [va_rf]
theorem th_ints {e : va_E} {cn cn2 : Int32} {v v2 : Nat} {b m st i b2 m2 st2 i2 : Option Nat} (h : e = .inr (1, [.int cn, .ref v, va_rf b, va_rf m, va_rf st, va_rf i])) (h2 : e = .inr (1, [.int cn2, .ref v2, va_rf b2, va_rf m2, va_rf st2, va_rf i2])) : i = i2 := by
  have h := h.symm.trans h2
  injection h with h
  injection h with _ h
  injection h with _ h
  injection h with _ h
  injection h with _ h
  injection h with _ h
  injection h with _ h
  injection h with h _
  exact va_rf_inj h
def rowok (f : Nat → va_E) (x : Nat) (r : Int32) : Prop := r.toInt = 0 → ∀ (cn : Int32) (v : Nat) (b m st i : Option Nat), f x = .inr (1, [.int cn, .ref v, va_rf b, va_rf m, va_rf st, va_rf i]) → i ≠ none
/-- only cells of the kinds S have changed -/
def FR (S : Nat → Bool) (K : Nat → Nat) (L : List Nat) (f f2 : Nat → va_E) : Prop := ∀ a, a ∈ L → S (K a) = false → f2 a = f a
theorem fr_up {S : Nat → Bool} {K : Nat → Nat} {L : List Nat} {f f1 : Nat → va_E} {k x : Nat} {e : va_E} (h : FR S K L f f1) (hx : isr K L k x) (hk : S k = true) : FR S K L f (va_up f1 x e) := fun a ha hs => by
  rw [va_up_ne _ _ (fun ea => by rw [ea, hx.2, hk] at hs; cases hs)]
  exact h a ha hs
theorem FR.tr {S S2 : Nat → Bool} {K : Nat → Nat} {L : List Nat} {f f1 f2 : Nat → va_E} (h : FR S K L f f1) (h2 : FR S2 K L f1 f2) (hS : ∀ k, S k = false → S2 k = false) : FR S K L f f2 := fun a ha hs => (h2 a ha (hS _ hs)).trans (h a ha hs)
theorem FR.rf {S : Nat → Bool} {K : Nat → Nat} {L : List Nat} {f : Nat → va_E} : FR S K L f f := fun _ _ _ => rfl
/-- the LeafLists' kinds -/
def sL (k : Nat) : Bool := k == 0 || k == 7 || k == 8
def r01 (r : Int32) : Prop := r = 1 ∨ r = 0
theorem fold2 {kT kI kJ : ClassId} {K : Nat → Nat} {L : List Nat} {f : Nat → va_E} {D : va_G} {H : Heap} {A : Nat → Prop} {q u : Nat} {cn : Int32} {g : Nat → Int64} (hPI : PI kT kI kJ K L f) (hP : va_P D vwCl ((q, .inr (1, [.int cn, .ref u, .null, .null, .null, .null])) :: (u, .inl (kJ, 17, .inr (.inl g))) :: va_pl L f) H) (hD : va_D A ((q, .inr (1, [.int cn, .ref u, .null, .null, .null, .null])) :: (u, .inl (kJ, 17, .inr (.inl g))) :: va_pl L f)) : ∃ (K2 : Nat → Nat) (L2 : List Nat) (f2 : Nat → va_E), PI kT kI kJ K2 L2 f2 ∧ EXT K L K2 L2 ∧ isr K2 L2 1 q ∧ va_P D vwCl (va_pl L2 f2) H ∧ va_D A (va_pl L2 f2) := by
  have hu : u ∉ L := fun h => by
    obtain ⟨i, hi⟩ := List.getElem?_of_mem (show (u, f u) ∈ va_pl L f from List.mem_map.mpr ⟨u, h, rfl⟩)
    have := hD.1 1 (i + 2) _ _ rfl hi rfl
    omega
  have hq : q ∉ u :: L := fun h => by
    rcases List.mem_cons.mp h with h | h
    · have := hD.1 0 1 _ _ rfl rfl h
      omega
    · obtain ⟨i, hi⟩ := List.getElem?_of_mem (show (q, f q) ∈ va_pl L f from List.mem_map.mpr ⟨q, h, rfl⟩)
      have := hD.1 0 (i + 2) _ _ rfl hi rfl
      omega
  rw [pl_cons hu, pl_cons hq] at hP hD
  refine ⟨_, _, _, (hPI.push (k := 3) hu ⟨g, rfl⟩).push (k := 1) hq ⟨cn, u, none, none, none, none, rfl, isr.ext isr.new (EXT.new hq), (fun _ h => by cases h), (fun _ h => by cases h), (fun _ h => by cases h), (fun _ h => by cases h)⟩, EXT.tr (EXT.new hu) (EXT.new hq), isr.new, hP, hD⟩
theorem fold1 {kT kI kJ : ClassId} {K : Nat → Nat} {L : List Nat} {f : Nat → va_E} {D : va_G} {H : Heap} {A : Nat → Prop} {q n : Nat} {g : Nat → Int32} (hPI : PI kT kI kJ K L f) (hn : n ≤ 20) (hP : va_P D vwCl (va_pl L f ++ [(q, .inl (kI, n, .inl g))]) H) (hD : va_D A (va_pl L f ++ [(q, .inl (kI, n, .inl g))])) : ∃ (K2 : Nat → Nat) (L2 : List Nat) (f2 : Nat → va_E), PI kT kI kJ K2 L2 f2 ∧ EXT K L K2 L2 ∧ isr K2 L2 4 q ∧ va_P D vwCl (va_pl L2 f2) H ∧ va_D A (va_pl L2 f2) := by
  have hq := pl_new hD
  have hP := wp_rot hP
  have hD := wd_rot hD
  rw [pl_cons hq] at hP hD
  exact ⟨_, _, _, hPI.push (k := 4) hq ⟨n, g, rfl, hn⟩, EXT.new hq, isr.new, hP, hD⟩
end
section
set_option maxRecDepth 20000 in
theorem in_t_X1_isOf_X1 : ∀ w ∈ u_ws RX1 TX1 6, w ∈ wsX1_isOf := by decide +kernel
set_option maxRecDepth 100000 in
set_option maxHeartbeats 4000000 in
theorem t_X1_isOf (l : Launch) (dC : Nat → ClassId) (dI : Nat → Nat → Nat) (TT : Nat × Nat × Nat) (sz : Nat) (kT kI kJ : ClassId) (K : Nat → Nat) (L : List Nat) (f : Nat → va_E) (hPI : PI kT kI kJ K L f) (x0 : Nat) (hx0 : isr K L 1 x0) (w0 : Int32) : Met l yX1_isOf wsX1_isOf ({ frames := 0, cells := 0, slots := 0, locals := 0 } : Room) (va_Pc [.ref x0, .int w0] (pr dC dI (va_pl L f) [] [(kT, .object RX1), (kI, .int), (kJ, .long)] sz TT)) (va_Qi (fun (r : Int32) (u : Unit) => r01 r) (fun _ _ => True) (va_A [] sz)) 0 0 (va_A [] sz) := by
  refine Met.ofW (cc := cX1_isOf) (maxL := 2) (ret := (some .boolean)) (by decide) rfl ?_
  intro p e s m args below meth c s₁ B hml hv
  obtain ⟨rfl, hsz, hP, hK, hD0, hst⟩ := hv
  have hx := B.exec
  have hb := B.bytes
  have hr := B.returns
  have hts := atoms_spec (ws := wsX1_isOf) B.pre
  have hown : s.vm.findClass RX1 = some m.cls := findClass_of_methodNamed B.named
  have hlocks := B.notSynchronized
  have iX1_ := in_t_X1_isOf_X1
  subst hsz
  have hD := hD0.self (sz := s.heap.size)
  generalize hAe : va_A [] s.heap.size = A at hD hst ⊢
  have hA : ∀ q : Nat, s.heap.size ≤ q → A q := fun q h => by rw [← hAe]; exact Or.inr h
  have hS : va_S A s.heap s.heap [] := va_S.rf
  have hl := lv_entry ([.ref x0, .int w0]) (n := 2) (Nat.le_of_ble_eq_true rfl)
  rw [lg_entry_eq]
  generalize (lg_sl ([.ref x0, .int w0]) ++ List.replicate (2 - (lg_sl ([.ref x0, .int w0])).length) Slot.unset).toArray = ls at hl ⊢
  have hl : lv_has ls 2 [(0, .ref x0), (1, .int w0)] := hl
  have k0_ : Int32.toInt 0 = 0 := by decide
  have k1_ : Int32.toInt 1 = 1 := by decide
  have k2_ : Int32.toInt 2 = 2 := by decide
  have k4_ : Int32.toInt 4 = 4 := by decide
  have k5_ : Int32.toInt 5 = 5 := by decide
  refine lv_iload_n hx hb dX1_isOf_0 rfl (lv_at hl 1 rfl) ?_
  refine lv_iconst (v := 5) hx hb dX1_isOf_1 (by decide) ?_
  refine lv_icmp_ne (tgt := 19) hx hb dX1_isOf_2 (by decide) (fun c_1 => ?_) (fun c_1 => ?_)
  · have c_1 := mt Int32.toInt_inj.mp c_1
    refine lv_iload_n hx hb dX1_isOf_19 rfl (lv_at hl 1 rfl) ?_
    refine lv_iconst (v := 2) hx hb dX1_isOf_20 (by decide) ?_
    refine lv_icmp_gt (tgt := 46) hx hb dX1_isOf_21 (by decide) (fun c_2 => ?_) (fun c_2 => ?_)
    · have c_2 := Int32.lt_iff_toInt_lt.mp c_2
      refine lv_aload_n hx hb dX1_isOf_46 rfl (lv_at hl 0 rfl) ?_
      obtain ⟨cn_3, v_3, b_3, m_3, st_3, i_3, e_3, fv_3, fb_3, fm_3, fst_3, fi_3⟩ := hPI.a1 hx0
      obtain ⟨k_3, hk_3⟩ := va_plg hx0.1 e_3
      refine va_get (D := (dC, dI)) (ci := 1) (v := .int cn_3) (C := RX1) (T := TX1) (N := 6) hx hb hts iX1_ hown hK hP k_3 hk_3 rfl 0 (by decide) (hts (.fieldLink RX1 15 "FieldLeaves$Thing" "classNumber" "I") (by decide +kernel)) (fun _ h9 => h9) rfl dX1_isOf_47 ?_
      refine lv_iload_n hx hb dX1_isOf_50 rfl (lv_at hl 1 rfl) ?_
      refine lv_icmp_ne (tgt := 58) hx hb dX1_isOf_51 (by decide) (fun c_4 => ?_) (fun c_4 => ?_)
      · have c_4 := mt Int32.toInt_inj.mp c_4
        refine lv_iconst (v := 0) hx hb dX1_isOf_58 (by decide) ?_
        exact W.zret (v := 0) hx hb hr rfl (fun t ht hW => ⟨⟨0, (), rfl, Or.inr rfl, trivial⟩, hS.F ht⟩) hS.2.2 dX1_isOf_59
      · have c_4 := congrArg Int32.toInt c_4
        refine lv_iconst (v := 1) hx hb dX1_isOf_54 (by decide) ?_
        refine lv_goto (tgt := 59) hx hb dX1_isOf_55 (by decide) ?_
        exact W.zret (v := 1) hx hb hr rfl (fun t ht hW => ⟨⟨1, (), rfl, Or.inl rfl, trivial⟩, hS.F ht⟩) hS.2.2 dX1_isOf_59
    · have c_2 := mt Int32.lt_iff_toInt_lt.mpr c_2
      refine lv_aload_n hx hb dX1_isOf_24 rfl (lv_at hl 0 rfl) ?_
      obtain ⟨cn_5, v_5, b_5, m_5, st_5, i_5, e_5, fv_5, fb_5, fm_5, fst_5, fi_5⟩ := hPI.a1 hx0
      obtain ⟨k_5, hk_5⟩ := va_plg hx0.1 e_5
      refine va_get (D := (dC, dI)) (ci := 1) (v := .int cn_5) (C := RX1) (T := TX1) (N := 6) hx hb hts iX1_ hown hK hP k_5 hk_5 rfl 0 (by decide) (hts (.fieldLink RX1 15 "FieldLeaves$Thing" "classNumber" "I") (by decide +kernel)) (fun _ h9 => h9) rfl dX1_isOf_25 ?_
      refine lv_iload_n hx hb dX1_isOf_28 rfl (lv_at hl 1 rfl) ?_
      refine lv_icmp_lt (tgt := 44) hx hb dX1_isOf_29 (by decide) (fun c_6 => ?_) (fun c_6 => ?_)
      · have c_6 := Int32.lt_iff_toInt_lt.mp c_6
        refine lv_iconst (v := 0) hx hb dX1_isOf_44 (by decide) ?_
        exact W.zret (v := 0) hx hb hr rfl (fun t ht hW => ⟨⟨0, (), rfl, Or.inr rfl, trivial⟩, hS.F ht⟩) hS.2.2 dX1_isOf_45
      · have c_6 := mt Int32.lt_iff_toInt_lt.mpr c_6
        refine lv_aload_n hx hb dX1_isOf_32 rfl (lv_at hl 0 rfl) ?_
        obtain ⟨k_7, hk_7⟩ := va_plg hx0.1 e_5
        refine va_get (D := (dC, dI)) (ci := 1) (v := .int cn_5) (C := RX1) (T := TX1) (N := 6) hx hb hts iX1_ hown hK hP k_7 hk_7 rfl 0 (by decide) (hts (.fieldLink RX1 15 "FieldLeaves$Thing" "classNumber" "I") (by decide +kernel)) (fun _ h9 => h9) rfl dX1_isOf_33 ?_
        refine lv_iconst (v := 2) hx hb dX1_isOf_36 (by decide) ?_
        refine lv_icmp_gt (tgt := 44) hx hb dX1_isOf_37 (by decide) (fun c_8 => ?_) (fun c_8 => ?_)
        · have c_8 := Int32.lt_iff_toInt_lt.mp c_8
          refine lv_iconst (v := 0) hx hb dX1_isOf_44 (by decide) ?_
          exact W.zret (v := 0) hx hb hr rfl (fun t ht hW => ⟨⟨0, (), rfl, Or.inr rfl, trivial⟩, hS.F ht⟩) hS.2.2 dX1_isOf_45
        · have c_8 := mt Int32.lt_iff_toInt_lt.mpr c_8
          refine lv_iconst (v := 1) hx hb dX1_isOf_40 (by decide) ?_
          refine lv_goto (tgt := 45) hx hb dX1_isOf_41 (by decide) ?_
          exact W.zret (v := 1) hx hb hr rfl (fun t ht hW => ⟨⟨1, (), rfl, Or.inl rfl, trivial⟩, hS.F ht⟩) hS.2.2 dX1_isOf_45
  · have c_1 := congrArg Int32.toInt c_1
    refine lv_aload_n hx hb dX1_isOf_5 rfl (lv_at hl 0 rfl) ?_
    obtain ⟨cn_9, v_9, b_9, m_9, st_9, i_9, e_9, fv_9, fb_9, fm_9, fst_9, fi_9⟩ := hPI.a1 hx0
    obtain ⟨k_9, hk_9⟩ := va_plg hx0.1 e_9
    refine va_get (D := (dC, dI)) (ci := 1) (v := .int cn_9) (C := RX1) (T := TX1) (N := 6) hx hb hts iX1_ hown hK hP k_9 hk_9 rfl 0 (by decide) (hts (.fieldLink RX1 15 "FieldLeaves$Thing" "classNumber" "I") (by decide +kernel)) (fun _ h9 => h9) rfl dX1_isOf_6 ?_
    refine lv_iconst (v := 4) hx hb dX1_isOf_9 (by decide) ?_
    refine lv_icmp_eq (tgt := 17) hx hb dX1_isOf_10 (by decide) (fun c_10 => ?_) (fun c_10 => ?_)
    · have c_10 := congrArg Int32.toInt c_10
      refine lv_iconst (v := 0) hx hb dX1_isOf_17 (by decide) ?_
      exact W.zret (v := 0) hx hb hr rfl (fun t ht hW => ⟨⟨0, (), rfl, Or.inr rfl, trivial⟩, hS.F ht⟩) hS.2.2 dX1_isOf_18
    · have c_10 := mt Int32.toInt_inj.mp c_10
      refine lv_iconst (v := 1) hx hb dX1_isOf_13 (by decide) ?_
      refine lv_goto (tgt := 18) hx hb dX1_isOf_14 (by decide) ?_
      exact W.zret (v := 1) hx hb hr rfl (fun t ht hW => ⟨⟨1, (), rfl, Or.inl rfl, trivial⟩, hS.F ht⟩) hS.2.2 dX1_isOf_18
set_option maxRecDepth 20000 in
theorem in_t_X1_held_X1 : ∀ w ∈ u_ws RX1 TX1 6, w ∈ wsX1_held := by decide +kernel
set_option maxRecDepth 100000 in
set_option maxHeartbeats 4000000 in
theorem t_X1_held (l : Launch) (dC : Nat → ClassId) (dI : Nat → Nat → Nat) (TT : Nat × Nat × Nat) (sz : Nat) (kT kI kJ : ClassId) (K : Nat → Nat) (L : List Nat) (f : Nat → va_E) (hPI : PI kT kI kJ K L f) (x0 : Nat) (hx0 : isr K L 1 x0) (w0 : Int32) : Met l yX1_held wsX1_held ({ frames := 0, cells := 0, slots := 0, locals := 0 } : Room) (va_Pc [.ref x0, .int w0] (pr dC dI (va_pl L f) [] [(kT, .object RX1), (kI, .int), (kJ, .long)] sz TT)) (va_Qq (fun (r : Option Nat) (u : Unit) => opr K L 1 r) (fun _ _ => True) (va_A [] sz)) 0 0 (va_A [] sz) := by
  refine Met.ofW (cc := cX1_held) (maxL := 2) (ret := (some (.object "FieldLeaves$Thing"))) (by decide) rfl ?_
  intro p e s m args below meth c s₁ B hml hv
  obtain ⟨rfl, hsz, hP, hK, hD0, hst⟩ := hv
  have hx := B.exec
  have hb := B.bytes
  have hr := B.returns
  have hts := atoms_spec (ws := wsX1_held) B.pre
  have hown : s.vm.findClass RX1 = some m.cls := findClass_of_methodNamed B.named
  have hlocks := B.notSynchronized
  have iX1_ := in_t_X1_held_X1
  subst hsz
  have hD := hD0.self (sz := s.heap.size)
  generalize hAe : va_A [] s.heap.size = A at hD hst ⊢
  have hA : ∀ q : Nat, s.heap.size ≤ q → A q := fun q h => by rw [← hAe]; exact Or.inr h
  have hS : va_S A s.heap s.heap [] := va_S.rf
  have hl := lv_entry ([.ref x0, .int w0]) (n := 2) (Nat.le_of_ble_eq_true rfl)
  rw [lg_entry_eq]
  generalize (lg_sl ([.ref x0, .int w0]) ++ List.replicate (2 - (lg_sl ([.ref x0, .int w0])).length) Slot.unset).toArray = ls at hl ⊢
  have hl : lv_has ls 2 [(0, .ref x0), (1, .int w0)] := hl
  refine lv_iload_n hx hb dX1_held_0 rfl (lv_at hl 1 rfl) ?_
  have swp : True := trivial
  by_cases sv_1 : w0.toInt = 8
  · refine lv_lookup (off := 35) (tgt := 36) hx hb dX1_held_1 (by decide) (by rw [sv_1]; rfl) (by decide) ?_
    refine lv_aload_n hx hb dX1_held_36 rfl (lv_at hl 0 rfl) ?_
    obtain ⟨cn_2, v_2, b_2, m_2, st_2, i_2, e_2, fv_2, fb_2, fm_2, fst_2, fi_2⟩ := hPI.a1 hx0
    obtain ⟨k_2, hk_2⟩ := va_plg hx0.1 e_2
    refine va_get (D := (dC, dI)) (ci := 1) (v := va_rf b_2) (C := RX1) (T := TX1) (N := 6) hx hb hts iX1_ hown hK hP k_2 hk_2 rfl 2 (by decide) (hts (.fieldLink RX1 19 "FieldLeaves$Thing" "baseLink" "LFieldLeaves$Thing;") (by decide +kernel)) (fun _ h9 => h9) rfl dX1_held_37 ?_
    rcases b_2 with _ | y_3
    · refine W.eq (g2 := F0 m 40 ls [.null]) rfl ?_
      exact W.aret (v := va_rf none) hx hb hr (Or.inl ⟨_, rfl⟩) (va_rf_or _) (fun t ht hW => ⟨⟨none, (), rfl, (fun _ h9 => by cases h9), trivial⟩, hS.F ht⟩) hS.2.2 dX1_held_40
    · have fy_3 := fb_2 y_3 rfl
      refine W.eq (g2 := F0 m 40 ls [.ref y_3]) rfl ?_
      exact W.aret (v := va_rf (some y_3)) hx hb hr (Or.inl ⟨_, rfl⟩) (va_rf_or _) (fun t ht hW => ⟨⟨(some y_3), (), rfl, (fun _ h9 => by cases h9; exact fy_3), trivial⟩, hS.F ht⟩) hS.2.2 dX1_held_40
  · by_cases sv_4 : w0.toInt = 11
    · refine lv_lookup (off := 40) (tgt := 41) hx hb dX1_held_1 (by decide) (by rw [sv_4]; rfl) (by decide) ?_
      refine lv_aload_n hx hb dX1_held_41 rfl (lv_at hl 0 rfl) ?_
      obtain ⟨cn_5, v_5, b_5, m_5, st_5, i_5, e_5, fv_5, fb_5, fm_5, fst_5, fi_5⟩ := hPI.a1 hx0
      obtain ⟨k_5, hk_5⟩ := va_plg hx0.1 e_5
      refine va_get (D := (dC, dI)) (ci := 1) (v := va_rf m_5) (C := RX1) (T := TX1) (N := 6) hx hb hts iX1_ hown hK hP k_5 hk_5 rfl 3 (by decide) (hts (.fieldLink RX1 23 "FieldLeaves$Thing" "middleLink" "LFieldLeaves$Thing;") (by decide +kernel)) (fun _ h9 => h9) rfl dX1_held_42 ?_
      rcases m_5 with _ | y_6
      · refine W.eq (g2 := F0 m 45 ls [.null]) rfl ?_
        exact W.aret (v := va_rf none) hx hb hr (Or.inl ⟨_, rfl⟩) (va_rf_or _) (fun t ht hW => ⟨⟨none, (), rfl, (fun _ h9 => by cases h9), trivial⟩, hS.F ht⟩) hS.2.2 dX1_held_45
      · have fy_6 := fm_5 y_6 rfl
        refine W.eq (g2 := F0 m 45 ls [.ref y_6]) rfl ?_
        exact W.aret (v := va_rf (some y_6)) hx hb hr (Or.inl ⟨_, rfl⟩) (va_rf_or _) (fun t ht hW => ⟨⟨(some y_6), (), rfl, (fun _ h9 => by cases h9; exact fy_6), trivial⟩, hS.F ht⟩) hS.2.2 dX1_held_45
    · by_cases sv_7 : w0.toInt = 15
      · refine lv_lookup (off := 45) (tgt := 46) hx hb dX1_held_1 (by decide) (by rw [sv_7]; rfl) (by decide) ?_
        refine lv_aload_n hx hb dX1_held_46 rfl (lv_at hl 0 rfl) ?_
        obtain ⟨cn_8, v_8, b_8, m_8, st_8, i_8, e_8, fv_8, fb_8, fm_8, fst_8, fi_8⟩ := hPI.a1 hx0
        obtain ⟨k_8, hk_8⟩ := va_plg hx0.1 e_8
        refine va_get (D := (dC, dI)) (ci := 1) (v := va_rf st_8) (C := RX1) (T := TX1) (N := 6) hx hb hts iX1_ hown hK hP k_8 hk_8 rfl 4 (by decide) (hts (.fieldLink RX1 26 "FieldLeaves$Thing" "strayBack" "LFieldLeaves$Thing;") (by decide +kernel)) (fun _ h9 => h9) rfl dX1_held_47 ?_
        rcases st_8 with _ | y_9
        · refine W.eq (g2 := F0 m 50 ls [.null]) rfl ?_
          exact W.aret (v := va_rf none) hx hb hr (Or.inl ⟨_, rfl⟩) (va_rf_or _) (fun t ht hW => ⟨⟨none, (), rfl, (fun _ h9 => by cases h9), trivial⟩, hS.F ht⟩) hS.2.2 dX1_held_50
        · have fy_9 := fst_8 y_9 rfl
          refine W.eq (g2 := F0 m 50 ls [.ref y_9]) rfl ?_
          exact W.aret (v := va_rf (some y_9)) hx hb hr (Or.inl ⟨_, rfl⟩) (va_rf_or _) (fun t ht hW => ⟨⟨(some y_9), (), rfl, (fun _ h9 => by cases h9; exact fy_9), trivial⟩, hS.F ht⟩) hS.2.2 dX1_held_50
      · refine lv_lookup (off := 50) (tgt := 51) hx hb dX1_held_1 (by decide) (by simp [Op.lookupswitch.offset, sv_1, Ne.symm sv_1, sv_4, Ne.symm sv_4, sv_7, Ne.symm sv_7]) (by decide) ?_
        refine lv_null hx hb dX1_held_51 ?_
        exact W.aret (v := va_rf none) hx hb hr (Or.inl ⟨_, rfl⟩) (va_rf_or _) (fun t ht hW => ⟨⟨none, (), rfl, (fun _ h9 => by cases h9), trivial⟩, hS.F ht⟩) hS.2.2 dX1_held_52
set_option maxRecDepth 20000 in
theorem in_t_X1_leadsTo_X1 : ∀ w ∈ u_ws RX1 TX1 6, w ∈ wsX1_leadsTo := by decide +kernel
set_option maxRecDepth 100000 in
set_option maxHeartbeats 4000000 in
theorem t_X1_leadsTo (l : Launch) (dC : Nat → ClassId) (dI : Nat → Nat → Nat) (TT : Nat × Nat × Nat) (sz : Nat) (kT kI kJ : ClassId) (K : Nat → Nat) (L : List Nat) (f : Nat → va_E) (hPI : PI kT kI kJ K L f) (x0 : Nat) (hx0 : isr K L 1 x0) : Met l yX1_leadsTo wsX1_leadsTo ({ frames := 0, cells := 0, slots := 0, locals := 0 } : Room) (va_Pc [.ref x0] (pr dC dI (va_pl L f) [] [(kT, .object RX1), (kI, .int), (kJ, .long)] sz TT)) (va_Qq (fun (r : Option Nat) (u : Unit) => opr K L 1 r) (fun _ _ => True) (va_A [] sz)) 0 0 (va_A [] sz) := by
  refine Met.ofW (cc := cX1_leadsTo) (maxL := 1) (ret := (some (.object "FieldLeaves$Thing"))) (by decide) rfl ?_
  intro p e s m args below meth c s₁ B hml hv
  obtain ⟨rfl, hsz, hP, hK, hD0, hst⟩ := hv
  have hx := B.exec
  have hb := B.bytes
  have hr := B.returns
  have hts := atoms_spec (ws := wsX1_leadsTo) B.pre
  have hown : s.vm.findClass RX1 = some m.cls := findClass_of_methodNamed B.named
  have hlocks := B.notSynchronized
  have iX1_ := in_t_X1_leadsTo_X1
  subst hsz
  have hD := hD0.self (sz := s.heap.size)
  generalize hAe : va_A [] s.heap.size = A at hD hst ⊢
  have hA : ∀ q : Nat, s.heap.size ≤ q → A q := fun q h => by rw [← hAe]; exact Or.inr h
  have hS : va_S A s.heap s.heap [] := va_S.rf
  have hl := lv_entry ([.ref x0]) (n := 1) (Nat.le_of_ble_eq_true rfl)
  rw [lg_entry_eq]
  generalize (lg_sl ([.ref x0]) ++ List.replicate (1 - (lg_sl ([.ref x0])).length) Slot.unset).toArray = ls at hl ⊢
  have hl : lv_has ls 1 [(0, .ref x0)] := hl
  have k0_ : Int32.toInt 0 = 0 := by decide
  have k3_ : Int32.toInt 3 = 3 := by decide
  refine lv_aload_n hx hb dX1_leadsTo_0 rfl (lv_at hl 0 rfl) ?_
  obtain ⟨cn_1, v_1, b_1, m_1, st_1, i_1, e_1, fv_1, fb_1, fm_1, fst_1, fi_1⟩ := hPI.a1 hx0
  obtain ⟨k_1, hk_1⟩ := va_plg hx0.1 e_1
  refine va_get (D := (dC, dI)) (ci := 1) (v := .int cn_1) (C := RX1) (T := TX1) (N := 6) hx hb hts iX1_ hown hK hP k_1 hk_1 rfl 0 (by decide) (hts (.fieldLink RX1 15 "FieldLeaves$Thing" "classNumber" "I") (by decide +kernel)) (fun _ h9 => h9) rfl dX1_leadsTo_1 ?_
  refine lv_if_ne (tgt := 12) hx hb dX1_leadsTo_4 (by decide) (fun c_2 => ?_) (fun c_2 => ?_)
  · have c_2 := mt Int32.toInt_inj.mp c_2
    refine lv_aload_n hx hb dX1_leadsTo_12 rfl (lv_at hl 0 rfl) ?_
    obtain ⟨k_3, hk_3⟩ := va_plg hx0.1 e_1
    refine va_get (D := (dC, dI)) (ci := 1) (v := .int cn_1) (C := RX1) (T := TX1) (N := 6) hx hb hts iX1_ hown hK hP k_3 hk_3 rfl 0 (by decide) (hts (.fieldLink RX1 15 "FieldLeaves$Thing" "classNumber" "I") (by decide +kernel)) (fun _ h9 => h9) rfl dX1_leadsTo_13 ?_
    refine lv_iconst (v := 3) hx hb dX1_leadsTo_16 (by decide) ?_
    refine lv_icmp_ne (tgt := 27) hx hb dX1_leadsTo_17 (by decide) (fun c_4 => ?_) (fun c_4 => ?_)
    · have c_4 := mt Int32.toInt_inj.mp c_4
      refine lv_aload_n hx hb dX1_leadsTo_27 rfl (lv_at hl 0 rfl) ?_
      obtain ⟨k_5, hk_5⟩ := va_plg hx0.1 e_1
      refine va_get (D := (dC, dI)) (ci := 1) (v := va_rf m_1) (C := RX1) (T := TX1) (N := 6) hx hb hts iX1_ hown hK hP k_5 hk_5 rfl 3 (by decide) (hts (.fieldLink RX1 23 "FieldLeaves$Thing" "middleLink" "LFieldLeaves$Thing;") (by decide +kernel)) (fun _ h9 => h9) rfl dX1_leadsTo_28 ?_
      rcases m_1 with _ | y_6
      · refine W.eq (g2 := F0 m 31 ls [.null]) rfl ?_
        exact W.aret (v := va_rf none) hx hb hr (Or.inl ⟨_, rfl⟩) (va_rf_or _) (fun t ht hW => ⟨⟨none, (), rfl, (fun _ h9 => by cases h9), trivial⟩, hS.F ht⟩) hS.2.2 dX1_leadsTo_31
      · have fy_6 := fm_1 y_6 rfl
        refine W.eq (g2 := F0 m 31 ls [.ref y_6]) rfl ?_
        exact W.aret (v := va_rf (some y_6)) hx hb hr (Or.inl ⟨_, rfl⟩) (va_rf_or _) (fun t ht hW => ⟨⟨(some y_6), (), rfl, (fun _ h9 => by cases h9; exact fy_6), trivial⟩, hS.F ht⟩) hS.2.2 dX1_leadsTo_31
    · have c_4 := congrArg Int32.toInt c_4
      refine lv_aload_n hx hb dX1_leadsTo_20 rfl (lv_at hl 0 rfl) ?_
      obtain ⟨k_7, hk_7⟩ := va_plg hx0.1 e_1
      refine va_get (D := (dC, dI)) (ci := 1) (v := va_rf st_1) (C := RX1) (T := TX1) (N := 6) hx hb hts iX1_ hown hK hP k_7 hk_7 rfl 4 (by decide) (hts (.fieldLink RX1 26 "FieldLeaves$Thing" "strayBack" "LFieldLeaves$Thing;") (by decide +kernel)) (fun _ h9 => h9) rfl dX1_leadsTo_21 ?_
      rcases st_1 with _ | y_8
      · refine W.eq (g2 := F0 m 24 ls [.null]) rfl ?_
        refine lv_goto (tgt := 31) hx hb dX1_leadsTo_24 (by decide) ?_
        exact W.aret (v := va_rf none) hx hb hr (Or.inl ⟨_, rfl⟩) (va_rf_or _) (fun t ht hW => ⟨⟨none, (), rfl, (fun _ h9 => by cases h9), trivial⟩, hS.F ht⟩) hS.2.2 dX1_leadsTo_31
      · have fy_8 := fst_1 y_8 rfl
        refine W.eq (g2 := F0 m 24 ls [.ref y_8]) rfl ?_
        refine lv_goto (tgt := 31) hx hb dX1_leadsTo_24 (by decide) ?_
        exact W.aret (v := va_rf (some y_8)) hx hb hr (Or.inl ⟨_, rfl⟩) (va_rf_or _) (fun t ht hW => ⟨⟨(some y_8), (), rfl, (fun _ h9 => by cases h9; exact fy_8), trivial⟩, hS.F ht⟩) hS.2.2 dX1_leadsTo_31
  · have c_2 := congrArg Int32.toInt c_2
    refine lv_aload_n hx hb dX1_leadsTo_7 rfl (lv_at hl 0 rfl) ?_
    obtain ⟨k_9, hk_9⟩ := va_plg hx0.1 e_1
    refine va_get (D := (dC, dI)) (ci := 1) (v := va_rf b_1) (C := RX1) (T := TX1) (N := 6) hx hb hts iX1_ hown hK hP k_9 hk_9 rfl 2 (by decide) (hts (.fieldLink RX1 19 "FieldLeaves$Thing" "baseLink" "LFieldLeaves$Thing;") (by decide +kernel)) (fun _ h9 => h9) rfl dX1_leadsTo_8 ?_
    rcases b_1 with _ | y_10
    · refine W.eq (g2 := F0 m 11 ls [.null]) rfl ?_
      exact W.aret (v := va_rf none) hx hb hr (Or.inl ⟨_, rfl⟩) (va_rf_or _) (fun t ht hW => ⟨⟨none, (), rfl, (fun _ h9 => by cases h9), trivial⟩, hS.F ht⟩) hS.2.2 dX1_leadsTo_11
    · have fy_10 := fb_1 y_10 rfl
      refine W.eq (g2 := F0 m 11 ls [.ref y_10]) rfl ?_
      exact W.aret (v := va_rf (some y_10)) hx hb hr (Or.inl ⟨_, rfl⟩) (va_rf_or _) (fun t ht hW => ⟨⟨(some y_10), (), rfl, (fun _ h9 => by cases h9; exact fy_10), trivial⟩, hS.F ht⟩) hS.2.2 dX1_leadsTo_11
set_option maxRecDepth 20000 in
theorem in_t_X1_name_X1 : ∀ w ∈ u_ws RX1 TX1 6, w ∈ wsX1_name := by decide +kernel
set_option maxRecDepth 100000 in
set_option maxHeartbeats 4000000 in
theorem t_X1_name (l : Launch) (dC : Nat → ClassId) (dI : Nat → Nat → Nat) (TT : Nat × Nat × Nat) (sz : Nat) (kT kI kJ : ClassId) (K : Nat → Nat) (L : List Nat) (f : Nat → va_E) (hPI : PI kT kI kJ K L f) (x0 : Nat) (hx0 : isr K L 1 x0) : Met l yX1_name wsX1_name ({ frames := 0, cells := 0, slots := 0, locals := 0 } : Room) (va_Pc [.ref x0] (pr dC dI (va_pl L f) [] [(kT, .object RX1), (kI, .int), (kJ, .long)] sz TT)) (va_Qi (fun (r : Int32) (u : Unit) => True) (fun _ _ => True) (va_A [] sz)) 0 0 (va_A [] sz) := by
  refine Met.ofW (cc := cX1_name) (maxL := 2) (ret := (some .int)) (by decide) rfl ?_
  intro p e s m args below meth c s₁ B hml hv
  obtain ⟨rfl, hsz, hP, hK, hD0, hst⟩ := hv
  have hx := B.exec
  have hb := B.bytes
  have hr := B.returns
  have hts := atoms_spec (ws := wsX1_name) B.pre
  have hown : s.vm.findClass RX1 = some m.cls := findClass_of_methodNamed B.named
  have hlocks := B.notSynchronized
  have iX1_ := in_t_X1_name_X1
  subst hsz
  have hD := hD0.self (sz := s.heap.size)
  generalize hAe : va_A [] s.heap.size = A at hD hst ⊢
  have hA : ∀ q : Nat, s.heap.size ≤ q → A q := fun q h => by rw [← hAe]; exact Or.inr h
  have hS : va_S A s.heap s.heap [] := va_S.rf
  have hl := lv_entry ([.ref x0]) (n := 2) (Nat.le_of_ble_eq_true rfl)
  rw [lg_entry_eq]
  generalize (lg_sl ([.ref x0]) ++ List.replicate (2 - (lg_sl ([.ref x0])).length) Slot.unset).toArray = ls at hl ⊢
  have hl : lv_has ls 2 [(0, .ref x0)] := hl
  have k0_ : Int32.toInt 0 = 0 := by decide
  refine lv_iconst (v := 1) hx hb dX1_name_0 (by decide) ?_
  refine lv_aload_n hx hb dX1_name_1 rfl (lv_at hl 0 rfl) ?_
  obtain ⟨cn_1, v_1, b_1, m_1, st_1, i_1, e_1, fv_1, fb_1, fm_1, fst_1, fi_1⟩ := hPI.a1 hx0
  obtain ⟨k_1, hk_1⟩ := va_plg hx0.1 e_1
  refine va_get (D := (dC, dI)) (ci := 1) (v := .ref v_1) (C := RX1) (T := TX1) (N := 6) hx hb hts iX1_ hown hK hP k_1 hk_1 rfl 1 (by decide) (hts (.fieldLink RX1 9 "FieldLeaves$Thing" "values" "[J") (by decide +kernel)) (fun _ h9 => h9) rfl dX1_name_2 ?_
  refine lv_iconst (v := 4) hx hb dX1_name_5 (by decide) ?_
  obtain ⟨g_2, e_2⟩ := hPI.a3 fv_1
  obtain ⟨k_2, hk_2⟩ := va_plg fv_1.1 e_2
  have h_2 : vp_in 4 17 := (vp_in_iff.mpr (by decide))
  refine va_lald hx hb hK hP k_2 2 hk_2 rfl h_2 dX1_name_6 ?_
  refine lv_topl (fun z_2 ez_2 => ?_)
  refine lv_l2i hx hb dX1_name_7 rfl ?_
  refine lv_topi (fun z_3 ez_3 => ?_)
  refine lv_iadd hx hb dX1_name_8 ?_
  refine lv_topi (fun z_4 ez_4 => ?_)
  refine lv_istore_n (lv' := [(1, .int z_4), (0, .ref x0)]) hx hb dX1_name_9 rfl hl (by decide) rfl (fun ls hl => ?_)
  refine lv_aload_n hx hb dX1_name_10 rfl (lv_at hl 1 rfl) ?_
  obtain ⟨k_5, hk_5⟩ := va_plg hx0.1 e_1
  refine va_get (D := (dC, dI)) (ci := 1) (v := .int cn_1) (C := RX1) (T := TX1) (N := 6) hx hb hts iX1_ hown hK hP k_5 hk_5 rfl 0 (by decide) (hts (.fieldLink RX1 15 "FieldLeaves$Thing" "classNumber" "I") (by decide +kernel)) (fun _ h9 => h9) rfl dX1_name_11 ?_
  refine lv_if_ne (tgt := 19) hx hb dX1_name_14 (by decide) (fun c_6 => ?_) (fun c_6 => ?_)
  · have c_6 := mt Int32.toInt_inj.mp c_6
    refine lv_bipush (v := 10) hx hb dX1_name_19 (by decide) ?_
    refine lv_iload_n hx hb dX1_name_21 rfl (lv_at hl 0 rfl) ?_
    refine lv_imul hx hb dX1_name_22 ?_
    refine lv_topi (fun z_7 ez_7 => ?_)
    refine lv_aload_n hx hb dX1_name_23 rfl (lv_at hl 1 rfl) ?_
    obtain ⟨k_8, hk_8⟩ := va_plg hx0.1 e_1
    refine va_get (D := (dC, dI)) (ci := 1) (v := .ref v_1) (C := RX1) (T := TX1) (N := 6) hx hb hts iX1_ hown hK hP k_8 hk_8 rfl 1 (by decide) (hts (.fieldLink RX1 9 "FieldLeaves$Thing" "values" "[J") (by decide +kernel)) (fun _ h9 => h9) rfl dX1_name_24 ?_
    refine lv_bipush (v := 10) hx hb dX1_name_27 (by decide) ?_
    obtain ⟨k_9, hk_9⟩ := va_plg fv_1.1 e_2
    have h_9 : vp_in 10 17 := (vp_in_iff.mpr (by decide))
    refine va_lald hx hb hK hP k_9 2 hk_9 rfl h_9 dX1_name_29 ?_
    refine lv_topl (fun z_9 ez_9 => ?_)
    refine lv_l2i hx hb dX1_name_30 rfl ?_
    refine lv_topi (fun z_10 ez_10 => ?_)
    refine lv_iadd hx hb dX1_name_31 ?_
    refine lv_topi (fun z_11 ez_11 => ?_)
    refine lv_aload_n hx hb dX1_name_32 rfl (lv_at hl 1 rfl) ?_
    obtain ⟨k_12, hk_12⟩ := va_plg hx0.1 e_1
    refine va_get (D := (dC, dI)) (ci := 1) (v := .ref v_1) (C := RX1) (T := TX1) (N := 6) hx hb hts iX1_ hown hK hP k_12 hk_12 rfl 1 (by decide) (hts (.fieldLink RX1 9 "FieldLeaves$Thing" "values" "[J") (by decide +kernel)) (fun _ h9 => h9) rfl dX1_name_33 ?_
    refine lv_bipush (v := 13) hx hb dX1_name_36 (by decide) ?_
    obtain ⟨k_13, hk_13⟩ := va_plg fv_1.1 e_2
    have h_13 : vp_in 13 17 := (vp_in_iff.mpr (by decide))
    refine va_lald hx hb hK hP k_13 2 hk_13 rfl h_13 dX1_name_38 ?_
    refine lv_topl (fun z_13 ez_13 => ?_)
    refine lv_l2i hx hb dX1_name_39 rfl ?_
    refine lv_topi (fun z_14 ez_14 => ?_)
    refine lv_iadd hx hb dX1_name_40 ?_
    refine lv_topi (fun z_15 ez_15 => ?_)
    exact W.iret (v := z_15) hx hb hr (fun t ht hW => ⟨⟨z_15, (), rfl, trivial, trivial⟩, hS.F ht⟩) hS.2.2 dX1_name_41
  · have c_6 := congrArg Int32.toInt c_6
    refine lv_iload_n hx hb dX1_name_17 rfl (lv_at hl 0 rfl) ?_
    exact W.iret (v := z_4) hx hb hr (fun t ht hW => ⟨⟨z_4, (), rfl, trivial, trivial⟩, hS.F ht⟩) hS.2.2 dX1_name_18
set_option maxRecDepth 20000 in
theorem in_t_X1_secret_X1 : ∀ w ∈ u_ws RX1 TX1 6, w ∈ wsX1_secret := by decide +kernel
set_option maxRecDepth 100000 in
set_option maxHeartbeats 4000000 in
theorem t_X1_secret (l : Launch) (dC : Nat → ClassId) (dI : Nat → Nat → Nat) (TT : Nat × Nat × Nat) (sz : Nat) (kT kI kJ : ClassId) (K : Nat → Nat) (L : List Nat) (f : Nat → va_E) (hPI : PI kT kI kJ K L f) (x0 : Nat) (hx0 : isr K L 1 x0) : Met l yX1_secret wsX1_secret ({ frames := 0, cells := 0, slots := 0, locals := 0 } : Room) (va_Pc [.ref x0] (pr dC dI (va_pl L f) [] [(kT, .object RX1), (kI, .int), (kJ, .long)] sz TT)) (va_Qi (fun (r : Int32) (u : Unit) => True) (fun _ _ => True) (va_A [] sz)) 0 0 (va_A [] sz) := by
  refine Met.ofW (cc := cX1_secret) (maxL := 1) (ret := (some .int)) (by decide) rfl ?_
  intro p e s m args below meth c s₁ B hml hv
  obtain ⟨rfl, hsz, hP, hK, hD0, hst⟩ := hv
  have hx := B.exec
  have hb := B.bytes
  have hr := B.returns
  have hts := atoms_spec (ws := wsX1_secret) B.pre
  have hown : s.vm.findClass RX1 = some m.cls := findClass_of_methodNamed B.named
  have hlocks := B.notSynchronized
  have iX1_ := in_t_X1_secret_X1
  subst hsz
  have hD := hD0.self (sz := s.heap.size)
  generalize hAe : va_A [] s.heap.size = A at hD hst ⊢
  have hA : ∀ q : Nat, s.heap.size ≤ q → A q := fun q h => by rw [← hAe]; exact Or.inr h
  have hS : va_S A s.heap s.heap [] := va_S.rf
  have hl := lv_entry ([.ref x0]) (n := 1) (Nat.le_of_ble_eq_true rfl)
  rw [lg_entry_eq]
  generalize (lg_sl ([.ref x0]) ++ List.replicate (1 - (lg_sl ([.ref x0])).length) Slot.unset).toArray = ls at hl ⊢
  have hl : lv_has ls 1 [(0, .ref x0)] := hl
  refine lv_aload_n hx hb dX1_secret_0 rfl (lv_at hl 0 rfl) ?_
  obtain ⟨cn_1, v_1, b_1, m_1, st_1, i_1, e_1, fv_1, fb_1, fm_1, fst_1, fi_1⟩ := hPI.a1 hx0
  obtain ⟨k_1, hk_1⟩ := va_plg hx0.1 e_1
  refine va_get (D := (dC, dI)) (ci := 1) (v := .ref v_1) (C := RX1) (T := TX1) (N := 6) hx hb hts iX1_ hown hK hP k_1 hk_1 rfl 1 (by decide) (hts (.fieldLink RX1 9 "FieldLeaves$Thing" "values" "[J") (by decide +kernel)) (fun _ h9 => h9) rfl dX1_secret_1 ?_
  refine lv_iconst (v := 1) hx hb dX1_secret_4 (by decide) ?_
  obtain ⟨g_2, e_2⟩ := hPI.a3 fv_1
  obtain ⟨k_2, hk_2⟩ := va_plg fv_1.1 e_2
  have h_2 : vp_in 1 17 := (vp_in_iff.mpr (by decide))
  refine va_lald hx hb hK hP k_2 2 hk_2 rfl h_2 dX1_secret_5 ?_
  refine lv_topl (fun z_2 ez_2 => ?_)
  refine lv_l2i hx hb dX1_secret_6 rfl ?_
  refine lv_topi (fun z_3 ez_3 => ?_)
  refine lv_aload_n hx hb dX1_secret_7 rfl (lv_at hl 0 rfl) ?_
  obtain ⟨k_4, hk_4⟩ := va_plg hx0.1 e_1
  refine va_get (D := (dC, dI)) (ci := 1) (v := .ref v_1) (C := RX1) (T := TX1) (N := 6) hx hb hts iX1_ hown hK hP k_4 hk_4 rfl 1 (by decide) (hts (.fieldLink RX1 9 "FieldLeaves$Thing" "values" "[J") (by decide +kernel)) (fun _ h9 => h9) rfl dX1_secret_8 ?_
  refine lv_iconst (v := 2) hx hb dX1_secret_11 (by decide) ?_
  obtain ⟨k_5, hk_5⟩ := va_plg fv_1.1 e_2
  have h_5 : vp_in 2 17 := (vp_in_iff.mpr (by decide))
  refine va_lald hx hb hK hP k_5 2 hk_5 rfl h_5 dX1_secret_12 ?_
  refine lv_topl (fun z_5 ez_5 => ?_)
  refine lv_l2i hx hb dX1_secret_13 rfl ?_
  refine lv_topi (fun z_6 ez_6 => ?_)
  refine lv_iadd hx hb dX1_secret_14 ?_
  refine lv_topi (fun z_7 ez_7 => ?_)
  exact W.iret (v := z_7) hx hb hr (fun t ht hW => ⟨⟨z_7, (), rfl, trivial, trivial⟩, hS.F ht⟩) hS.2.2 dX1_secret_15
set_option maxRecDepth 20000 in
theorem in_t_X1_hold_null_X1 : ∀ w ∈ u_ws RX1 TX1 6, w ∈ wsX1_hold := by decide +kernel
set_option maxRecDepth 100000 in
set_option maxHeartbeats 4000000 in
theorem t_X1_hold_null (l : Launch) (dC : Nat → ClassId) (dI : Nat → Nat → Nat) (TT : Nat × Nat × Nat) (sz : Nat) (kT kI kJ : ClassId) (K : Nat → Nat) (L : List Nat) (f : Nat → va_E) (hPI : PI kT kI kJ K L f) (x0 : Nat) (hx0 : isr K L 1 x0) (w0 : Int32) : Met l yX1_hold wsX1_hold ({ frames := 0, cells := 0, slots := 0, locals := 0 } : Room) (va_Pc [.ref x0, .int w0, .null] (pr dC dI (va_pl L f) (va_pl L f) [(kT, .object RX1), (kI, .int), (kJ, .long)] sz TT)) (va_Qv (fun (u : Unit) => True) (fun (_ : Unit) t => ∃ f2 : Nat → va_E, PI kT kI kJ K L f2 ∧ va_P (dC, dI) vwCl (va_pl L f2) t.heap ∧ va_D (va_A (va_pl L f) sz) (va_pl L f2)) (va_A (va_pl L f) sz)) 0 0 (va_A (va_pl L f) sz) := by
  refine Met.ofW (cc := cX1_hold) (maxL := 3) (ret := none) (by decide) rfl ?_
  intro p e s m args below meth c s₁ B hml hv
  obtain ⟨rfl, hsz, hP, hK, hD0, hst⟩ := hv
  have hx := B.exec
  have hb := B.bytes
  have hr := B.returns
  have hts := atoms_spec (ws := wsX1_hold) B.pre
  have hown : s.vm.findClass RX1 = some m.cls := findClass_of_methodNamed B.named
  have hlocks := B.notSynchronized
  have iX1_ := in_t_X1_hold_null_X1
  subst hsz
  have hD := hD0.self (sz := s.heap.size)
  generalize hAe : va_A (va_pl L f) s.heap.size = A at hD hst ⊢
  have hA : ∀ q : Nat, s.heap.size ≤ q → A q := fun q h => by rw [← hAe]; exact Or.inr h
  have hS : va_S A s.heap s.heap [] := va_S.rf
  have hl := lv_entry ([.ref x0, .int w0, .null]) (n := 3) (Nat.le_of_ble_eq_true rfl)
  rw [lg_entry_eq]
  generalize (lg_sl ([.ref x0, .int w0, .null]) ++ List.replicate (3 - (lg_sl ([.ref x0, .int w0, .null])).length) Slot.unset).toArray = ls at hl ⊢
  have hl : lv_has ls 3 [(0, .ref x0), (1, .int w0), (2, .null)] := hl
  refine lv_iload_n hx hb dX1_hold_0 rfl (lv_at hl 1 rfl) ?_
  have swp : True := trivial
  by_cases sv_1 : w0.toInt = 8
  · refine lv_lookup (off := 35) (tgt := 36) hx hb dX1_hold_1 (by decide) (by rw [sv_1]; rfl) (by decide) ?_
    refine lv_aload_n hx hb dX1_hold_36 rfl (lv_at hl 0 rfl) ?_
    refine lv_aload_nN hx hb dX1_hold_37 rfl (lv_at hl 2 rfl) ?_
    obtain ⟨cn_2, v_2, b_2, m_2, st_2, i_2, e_2, fv_2, fb_2, fm_2, fst_2, fi_2⟩ := hPI.a1 hx0
    obtain ⟨k_2, hk_2⟩ := va_plg hx0.1 e_2
    have hD9 := hD
    refine va_put (D := (dC, dI)) (ci := 1) (v := .null) (ty := .object "FieldLeaves$Thing") (C := RX1) (T := TX1) (N := 6) hx hb hts iX1_ tyX1 tyX1_ok nmX1 hown hK hP hD hS k_2 hk_2 rfl 2 (by decide) (hts (.fieldLink RX1 19 "FieldLeaves$Thing" "baseLink" "LFieldLeaves$Thing;") (by decide +kernel)) (fun _ h9 => h9) rfl (by decide +kernel) rfl rfl (Nat.le_of_ble_eq_true rfl) dX1_hold_38 (fun H locs hP hD hS => ?_)
    have op_3 : opr K L 1 none := fun _ h9 => by cases h9
    have hP : va_P (dC, dI) vwCl (va_pl L (va_up f x0 (.inr (1, [.int cn_2, .ref v_2, va_rf none, va_rf m_2, va_rf st_2, va_rf i_2])))) H := by rw [← va_pls hD9 hx0.1 hk_2 _]; exact hP
    have hD : va_D A (va_pl L (va_up f x0 (.inr (1, [.int cn_2, .ref v_2, va_rf none, va_rf m_2, va_rf st_2, va_rf i_2])))) := by rw [← va_pls hD9 hx0.1 hk_2 _]; exact hD
    have hPI := hPI.put (e := .inr (1, [.int cn_2, .ref v_2, va_rf none, va_rf m_2, va_rf st_2, va_rf i_2])) hx0 ⟨cn_2, v_2, none, m_2, st_2, i_2, rfl, fv_2, op_3, fm_2, fst_2, fi_2⟩
    have es_f_4 : va_up f x0 (.inr (1, [.int cn_2, .ref v_2, va_rf none, va_rf m_2, va_rf st_2, va_rf i_2])) x0 = .inr (1, [.int cn_2, .ref v_2, va_rf none, va_rf m_2, va_rf st_2, va_rf i_2]) := va_up_self _ _ _
    generalize va_up f x0 (.inr (1, [.int cn_2, .ref v_2, va_rf none, va_rf m_2, va_rf st_2, va_rf i_2])) = f_4 at hP hD hPI es_f_4 
    refine lv_goto (tgt := 60) hx hb dX1_hold_41 (by decide) ?_
    exact W.vret hx hb hr (fun t ht hW => ⟨⟨(), rfl, trivial, f_4, hPI, by rw [ht]; exact hP, hD⟩, hS.F ht⟩) hS.2.2 dX1_hold_60
  · by_cases sv_5 : w0.toInt = 11
    · refine lv_lookup (off := 43) (tgt := 44) hx hb dX1_hold_1 (by decide) (by rw [sv_5]; rfl) (by decide) ?_
      refine lv_aload_n hx hb dX1_hold_44 rfl (lv_at hl 0 rfl) ?_
      refine lv_aload_nN hx hb dX1_hold_45 rfl (lv_at hl 2 rfl) ?_
      obtain ⟨cn_6, v_6, b_6, m_6, st_6, i_6, e_6, fv_6, fb_6, fm_6, fst_6, fi_6⟩ := hPI.a1 hx0
      obtain ⟨k_6, hk_6⟩ := va_plg hx0.1 e_6
      have hD9 := hD
      refine va_put (D := (dC, dI)) (ci := 1) (v := .null) (ty := .object "FieldLeaves$Thing") (C := RX1) (T := TX1) (N := 6) hx hb hts iX1_ tyX1 tyX1_ok nmX1 hown hK hP hD hS k_6 hk_6 rfl 3 (by decide) (hts (.fieldLink RX1 23 "FieldLeaves$Thing" "middleLink" "LFieldLeaves$Thing;") (by decide +kernel)) (fun _ h9 => h9) rfl (by decide +kernel) rfl rfl (Nat.le_of_ble_eq_true rfl) dX1_hold_46 (fun H locs hP hD hS => ?_)
      have op_7 : opr K L 1 none := fun _ h9 => by cases h9
      have hP : va_P (dC, dI) vwCl (va_pl L (va_up f x0 (.inr (1, [.int cn_6, .ref v_6, va_rf b_6, va_rf none, va_rf st_6, va_rf i_6])))) H := by rw [← va_pls hD9 hx0.1 hk_6 _]; exact hP
      have hD : va_D A (va_pl L (va_up f x0 (.inr (1, [.int cn_6, .ref v_6, va_rf b_6, va_rf none, va_rf st_6, va_rf i_6])))) := by rw [← va_pls hD9 hx0.1 hk_6 _]; exact hD
      have hPI := hPI.put (e := .inr (1, [.int cn_6, .ref v_6, va_rf b_6, va_rf none, va_rf st_6, va_rf i_6])) hx0 ⟨cn_6, v_6, b_6, none, st_6, i_6, rfl, fv_6, fb_6, op_7, fst_6, fi_6⟩
      have es_f_8 : va_up f x0 (.inr (1, [.int cn_6, .ref v_6, va_rf b_6, va_rf none, va_rf st_6, va_rf i_6])) x0 = .inr (1, [.int cn_6, .ref v_6, va_rf b_6, va_rf none, va_rf st_6, va_rf i_6]) := va_up_self _ _ _
      generalize va_up f x0 (.inr (1, [.int cn_6, .ref v_6, va_rf b_6, va_rf none, va_rf st_6, va_rf i_6])) = f_8 at hP hD hPI es_f_8 
      refine lv_goto (tgt := 60) hx hb dX1_hold_49 (by decide) ?_
      exact W.vret hx hb hr (fun t ht hW => ⟨⟨(), rfl, trivial, f_8, hPI, by rw [ht]; exact hP, hD⟩, hS.F ht⟩) hS.2.2 dX1_hold_60
    · by_cases sv_9 : w0.toInt = 15
      · refine lv_lookup (off := 51) (tgt := 52) hx hb dX1_hold_1 (by decide) (by rw [sv_9]; rfl) (by decide) ?_
        refine lv_aload_n hx hb dX1_hold_52 rfl (lv_at hl 0 rfl) ?_
        refine lv_aload_nN hx hb dX1_hold_53 rfl (lv_at hl 2 rfl) ?_
        obtain ⟨cn_10, v_10, b_10, m_10, st_10, i_10, e_10, fv_10, fb_10, fm_10, fst_10, fi_10⟩ := hPI.a1 hx0
        obtain ⟨k_10, hk_10⟩ := va_plg hx0.1 e_10
        have hD9 := hD
        refine va_put (D := (dC, dI)) (ci := 1) (v := .null) (ty := .object "FieldLeaves$Thing") (C := RX1) (T := TX1) (N := 6) hx hb hts iX1_ tyX1 tyX1_ok nmX1 hown hK hP hD hS k_10 hk_10 rfl 4 (by decide) (hts (.fieldLink RX1 26 "FieldLeaves$Thing" "strayBack" "LFieldLeaves$Thing;") (by decide +kernel)) (fun _ h9 => h9) rfl (by decide +kernel) rfl rfl (Nat.le_of_ble_eq_true rfl) dX1_hold_54 (fun H locs hP hD hS => ?_)
        have op_11 : opr K L 1 none := fun _ h9 => by cases h9
        have hP : va_P (dC, dI) vwCl (va_pl L (va_up f x0 (.inr (1, [.int cn_10, .ref v_10, va_rf b_10, va_rf m_10, va_rf none, va_rf i_10])))) H := by rw [← va_pls hD9 hx0.1 hk_10 _]; exact hP
        have hD : va_D A (va_pl L (va_up f x0 (.inr (1, [.int cn_10, .ref v_10, va_rf b_10, va_rf m_10, va_rf none, va_rf i_10])))) := by rw [← va_pls hD9 hx0.1 hk_10 _]; exact hD
        have hPI := hPI.put (e := .inr (1, [.int cn_10, .ref v_10, va_rf b_10, va_rf m_10, va_rf none, va_rf i_10])) hx0 ⟨cn_10, v_10, b_10, m_10, none, i_10, rfl, fv_10, fb_10, fm_10, op_11, fi_10⟩
        have es_f_12 : va_up f x0 (.inr (1, [.int cn_10, .ref v_10, va_rf b_10, va_rf m_10, va_rf none, va_rf i_10])) x0 = .inr (1, [.int cn_10, .ref v_10, va_rf b_10, va_rf m_10, va_rf none, va_rf i_10]) := va_up_self _ _ _
        generalize va_up f x0 (.inr (1, [.int cn_10, .ref v_10, va_rf b_10, va_rf m_10, va_rf none, va_rf i_10])) = f_12 at hP hD hPI es_f_12 
        refine lv_goto (tgt := 60) hx hb dX1_hold_57 (by decide) ?_
        exact W.vret hx hb hr (fun t ht hW => ⟨⟨(), rfl, trivial, f_12, hPI, by rw [ht]; exact hP, hD⟩, hS.F ht⟩) hS.2.2 dX1_hold_60
      · refine lv_lookup (off := 59) (tgt := 60) hx hb dX1_hold_1 (by decide) (by simp [Op.lookupswitch.offset, sv_1, Ne.symm sv_1, sv_5, Ne.symm sv_5, sv_9, Ne.symm sv_9]) (by decide) ?_
        exact W.vret hx hb hr (fun t ht hW => ⟨⟨(), rfl, trivial, f, hPI, by rw [ht]; exact hP, hD⟩, hS.F ht⟩) hS.2.2 dX1_hold_60
set_option maxRecDepth 20000 in
theorem in_t_X1_hold_X1 : ∀ w ∈ u_ws RX1 TX1 6, w ∈ wsX1_hold := by decide +kernel
set_option maxRecDepth 100000 in
set_option maxHeartbeats 4000000 in
theorem t_X1_hold (l : Launch) (dC : Nat → ClassId) (dI : Nat → Nat → Nat) (TT : Nat × Nat × Nat) (sz : Nat) (kT kI kJ : ClassId) (K : Nat → Nat) (L : List Nat) (f : Nat → va_E) (hPI : PI kT kI kJ K L f) (x0 : Nat) (hx0 : isr K L 1 x0) (w0 : Int32) (y0 : Nat) (hy0 : isr K L 1 y0) : Met l yX1_hold wsX1_hold ({ frames := 0, cells := 0, slots := 0, locals := 0 } : Room) (va_Pc [.ref x0, .int w0, .ref y0] (pr dC dI (va_pl L f) (va_pl L f) [(kT, .object RX1), (kI, .int), (kJ, .long)] sz TT)) (va_Qv (fun (u : Unit) => True) (fun (_ : Unit) t => ∃ f2 : Nat → va_E, PI kT kI kJ K L f2 ∧ va_P (dC, dI) vwCl (va_pl L f2) t.heap ∧ va_D (va_A (va_pl L f) sz) (va_pl L f2)) (va_A (va_pl L f) sz)) 0 0 (va_A (va_pl L f) sz) := by
  refine Met.ofW (cc := cX1_hold) (maxL := 3) (ret := none) (by decide) rfl ?_
  intro p e s m args below meth c s₁ B hml hv
  obtain ⟨rfl, hsz, hP, hK, hD0, hst⟩ := hv
  have hx := B.exec
  have hb := B.bytes
  have hr := B.returns
  have hts := atoms_spec (ws := wsX1_hold) B.pre
  have hown : s.vm.findClass RX1 = some m.cls := findClass_of_methodNamed B.named
  have hlocks := B.notSynchronized
  have iX1_ := in_t_X1_hold_X1
  subst hsz
  have hD := hD0.self (sz := s.heap.size)
  generalize hAe : va_A (va_pl L f) s.heap.size = A at hD hst ⊢
  have hA : ∀ q : Nat, s.heap.size ≤ q → A q := fun q h => by rw [← hAe]; exact Or.inr h
  have hS : va_S A s.heap s.heap [] := va_S.rf
  have hl := lv_entry ([.ref x0, .int w0, .ref y0]) (n := 3) (Nat.le_of_ble_eq_true rfl)
  rw [lg_entry_eq]
  generalize (lg_sl ([.ref x0, .int w0, .ref y0]) ++ List.replicate (3 - (lg_sl ([.ref x0, .int w0, .ref y0])).length) Slot.unset).toArray = ls at hl ⊢
  have hl : lv_has ls 3 [(0, .ref x0), (1, .int w0), (2, .ref y0)] := hl
  refine lv_iload_n hx hb dX1_hold_0 rfl (lv_at hl 1 rfl) ?_
  have swp : True := trivial
  by_cases sv_1 : w0.toInt = 8
  · refine lv_lookup (off := 35) (tgt := 36) hx hb dX1_hold_1 (by decide) (by rw [sv_1]; rfl) (by decide) ?_
    refine lv_aload_n hx hb dX1_hold_36 rfl (lv_at hl 0 rfl) ?_
    refine lv_aload_n hx hb dX1_hold_37 rfl (lv_at hl 2 rfl) ?_
    obtain ⟨cn_2, v_2, b_2, m_2, st_2, i_2, e_2, fv_2, fb_2, fm_2, fst_2, fi_2⟩ := hPI.a1 hx0
    obtain ⟨k_2, hk_2⟩ := va_plg hx0.1 e_2
    have hD9 := hD
    refine va_put (D := (dC, dI)) (ci := 1) (v := .ref y0) (ty := .object "FieldLeaves$Thing") (C := RX1) (T := TX1) (N := 6) hx hb hts iX1_ tyX1 tyX1_ok nmX1 hown hK hP hD hS k_2 hk_2 rfl 2 (by decide) (hts (.fieldLink RX1 19 "FieldLeaves$Thing" "baseLink" "LFieldLeaves$Thing;") (by decide +kernel)) (fun _ h9 => h9) rfl (by decide +kernel) rfl rfl (Nat.le_of_ble_eq_true rfl) dX1_hold_38 (fun H locs hP hD hS => ?_)
    have op_3 : opr K L 1 (some y0) := fun _ h9 => by cases h9; exact hy0
    have hP : va_P (dC, dI) vwCl (va_pl L (va_up f x0 (.inr (1, [.int cn_2, .ref v_2, va_rf (some y0), va_rf m_2, va_rf st_2, va_rf i_2])))) H := by rw [← va_pls hD9 hx0.1 hk_2 _]; exact hP
    have hD : va_D A (va_pl L (va_up f x0 (.inr (1, [.int cn_2, .ref v_2, va_rf (some y0), va_rf m_2, va_rf st_2, va_rf i_2])))) := by rw [← va_pls hD9 hx0.1 hk_2 _]; exact hD
    have hPI := hPI.put (e := .inr (1, [.int cn_2, .ref v_2, va_rf (some y0), va_rf m_2, va_rf st_2, va_rf i_2])) hx0 ⟨cn_2, v_2, (some y0), m_2, st_2, i_2, rfl, fv_2, op_3, fm_2, fst_2, fi_2⟩
    have es_f_4 : va_up f x0 (.inr (1, [.int cn_2, .ref v_2, va_rf (some y0), va_rf m_2, va_rf st_2, va_rf i_2])) x0 = .inr (1, [.int cn_2, .ref v_2, va_rf (some y0), va_rf m_2, va_rf st_2, va_rf i_2]) := va_up_self _ _ _
    generalize va_up f x0 (.inr (1, [.int cn_2, .ref v_2, va_rf (some y0), va_rf m_2, va_rf st_2, va_rf i_2])) = f_4 at hP hD hPI es_f_4 
    refine lv_goto (tgt := 60) hx hb dX1_hold_41 (by decide) ?_
    exact W.vret hx hb hr (fun t ht hW => ⟨⟨(), rfl, trivial, f_4, hPI, by rw [ht]; exact hP, hD⟩, hS.F ht⟩) hS.2.2 dX1_hold_60
  · by_cases sv_5 : w0.toInt = 11
    · refine lv_lookup (off := 43) (tgt := 44) hx hb dX1_hold_1 (by decide) (by rw [sv_5]; rfl) (by decide) ?_
      refine lv_aload_n hx hb dX1_hold_44 rfl (lv_at hl 0 rfl) ?_
      refine lv_aload_n hx hb dX1_hold_45 rfl (lv_at hl 2 rfl) ?_
      obtain ⟨cn_6, v_6, b_6, m_6, st_6, i_6, e_6, fv_6, fb_6, fm_6, fst_6, fi_6⟩ := hPI.a1 hx0
      obtain ⟨k_6, hk_6⟩ := va_plg hx0.1 e_6
      have hD9 := hD
      refine va_put (D := (dC, dI)) (ci := 1) (v := .ref y0) (ty := .object "FieldLeaves$Thing") (C := RX1) (T := TX1) (N := 6) hx hb hts iX1_ tyX1 tyX1_ok nmX1 hown hK hP hD hS k_6 hk_6 rfl 3 (by decide) (hts (.fieldLink RX1 23 "FieldLeaves$Thing" "middleLink" "LFieldLeaves$Thing;") (by decide +kernel)) (fun _ h9 => h9) rfl (by decide +kernel) rfl rfl (Nat.le_of_ble_eq_true rfl) dX1_hold_46 (fun H locs hP hD hS => ?_)
      have op_7 : opr K L 1 (some y0) := fun _ h9 => by cases h9; exact hy0
      have hP : va_P (dC, dI) vwCl (va_pl L (va_up f x0 (.inr (1, [.int cn_6, .ref v_6, va_rf b_6, va_rf (some y0), va_rf st_6, va_rf i_6])))) H := by rw [← va_pls hD9 hx0.1 hk_6 _]; exact hP
      have hD : va_D A (va_pl L (va_up f x0 (.inr (1, [.int cn_6, .ref v_6, va_rf b_6, va_rf (some y0), va_rf st_6, va_rf i_6])))) := by rw [← va_pls hD9 hx0.1 hk_6 _]; exact hD
      have hPI := hPI.put (e := .inr (1, [.int cn_6, .ref v_6, va_rf b_6, va_rf (some y0), va_rf st_6, va_rf i_6])) hx0 ⟨cn_6, v_6, b_6, (some y0), st_6, i_6, rfl, fv_6, fb_6, op_7, fst_6, fi_6⟩
      have es_f_8 : va_up f x0 (.inr (1, [.int cn_6, .ref v_6, va_rf b_6, va_rf (some y0), va_rf st_6, va_rf i_6])) x0 = .inr (1, [.int cn_6, .ref v_6, va_rf b_6, va_rf (some y0), va_rf st_6, va_rf i_6]) := va_up_self _ _ _
      generalize va_up f x0 (.inr (1, [.int cn_6, .ref v_6, va_rf b_6, va_rf (some y0), va_rf st_6, va_rf i_6])) = f_8 at hP hD hPI es_f_8 
      refine lv_goto (tgt := 60) hx hb dX1_hold_49 (by decide) ?_
      exact W.vret hx hb hr (fun t ht hW => ⟨⟨(), rfl, trivial, f_8, hPI, by rw [ht]; exact hP, hD⟩, hS.F ht⟩) hS.2.2 dX1_hold_60
    · by_cases sv_9 : w0.toInt = 15
      · refine lv_lookup (off := 51) (tgt := 52) hx hb dX1_hold_1 (by decide) (by rw [sv_9]; rfl) (by decide) ?_
        refine lv_aload_n hx hb dX1_hold_52 rfl (lv_at hl 0 rfl) ?_
        refine lv_aload_n hx hb dX1_hold_53 rfl (lv_at hl 2 rfl) ?_
        obtain ⟨cn_10, v_10, b_10, m_10, st_10, i_10, e_10, fv_10, fb_10, fm_10, fst_10, fi_10⟩ := hPI.a1 hx0
        obtain ⟨k_10, hk_10⟩ := va_plg hx0.1 e_10
        have hD9 := hD
        refine va_put (D := (dC, dI)) (ci := 1) (v := .ref y0) (ty := .object "FieldLeaves$Thing") (C := RX1) (T := TX1) (N := 6) hx hb hts iX1_ tyX1 tyX1_ok nmX1 hown hK hP hD hS k_10 hk_10 rfl 4 (by decide) (hts (.fieldLink RX1 26 "FieldLeaves$Thing" "strayBack" "LFieldLeaves$Thing;") (by decide +kernel)) (fun _ h9 => h9) rfl (by decide +kernel) rfl rfl (Nat.le_of_ble_eq_true rfl) dX1_hold_54 (fun H locs hP hD hS => ?_)
        have op_11 : opr K L 1 (some y0) := fun _ h9 => by cases h9; exact hy0
        have hP : va_P (dC, dI) vwCl (va_pl L (va_up f x0 (.inr (1, [.int cn_10, .ref v_10, va_rf b_10, va_rf m_10, va_rf (some y0), va_rf i_10])))) H := by rw [← va_pls hD9 hx0.1 hk_10 _]; exact hP
        have hD : va_D A (va_pl L (va_up f x0 (.inr (1, [.int cn_10, .ref v_10, va_rf b_10, va_rf m_10, va_rf (some y0), va_rf i_10])))) := by rw [← va_pls hD9 hx0.1 hk_10 _]; exact hD
        have hPI := hPI.put (e := .inr (1, [.int cn_10, .ref v_10, va_rf b_10, va_rf m_10, va_rf (some y0), va_rf i_10])) hx0 ⟨cn_10, v_10, b_10, m_10, (some y0), i_10, rfl, fv_10, fb_10, fm_10, op_11, fi_10⟩
        have es_f_12 : va_up f x0 (.inr (1, [.int cn_10, .ref v_10, va_rf b_10, va_rf m_10, va_rf (some y0), va_rf i_10])) x0 = .inr (1, [.int cn_10, .ref v_10, va_rf b_10, va_rf m_10, va_rf (some y0), va_rf i_10]) := va_up_self _ _ _
        generalize va_up f x0 (.inr (1, [.int cn_10, .ref v_10, va_rf b_10, va_rf m_10, va_rf (some y0), va_rf i_10])) = f_12 at hP hD hPI es_f_12 
        refine lv_goto (tgt := 60) hx hb dX1_hold_57 (by decide) ?_
        exact W.vret hx hb hr (fun t ht hW => ⟨⟨(), rfl, trivial, f_12, hPI, by rw [ht]; exact hP, hD⟩, hS.F ht⟩) hS.2.2 dX1_hold_60
      · refine lv_lookup (off := 59) (tgt := 60) hx hb dX1_hold_1 (by decide) (by simp [Op.lookupswitch.offset, sv_1, Ne.symm sv_1, sv_5, Ne.symm sv_5, sv_9, Ne.symm sv_9]) (by decide) ?_
        exact W.vret hx hb hr (fun t ht hW => ⟨⟨(), rfl, trivial, f, hPI, by rw [ht]; exact hP, hD⟩, hS.F ht⟩) hS.2.2 dX1_hold_60
set_option maxRecDepth 100000 in
set_option maxHeartbeats 4000000 in
theorem t_X1_depth (l : Launch) (dC : Nat → ClassId) (dI : Nat → Nat → Nat) (TT : Nat × Nat × Nat) (sz : Nat) (kT kI kJ : ClassId) (K : Nat → Nat) (L : List Nat) (f : Nat → va_E) (hPI : PI kT kI kJ K L f) (x0 : Nat) (hx0 : isr K L 1 x0) : Met l yX1_depth wsX1_depth ({ frames := 1, cells := 0, slots := 0, locals := 20 } : Room) (va_Pc [.ref x0] (pr dC dI (va_pl L f) [] [(kT, .object RX1), (kI, .int), (kJ, .long)] sz TT)) (va_Qi (fun (r : Int32) (u : Unit) => True) (fun _ _ => True) (va_A [] sz)) 0 0 (va_A [] sz) := by
  refine Met.ofW (cc := cX1_depth) (maxL := 3) (ret := (some .int)) (by decide) rfl ?_
  intro p e s m args below meth c s₁ B hml hv
  obtain ⟨rfl, hsz, hP, hK, hD0, hst⟩ := hv
  have hx := B.exec
  have hb := B.bytes
  have hr := B.returns
  have hts := atoms_spec (ws := wsX1_depth) B.pre
  have hown : s.vm.findClass RX1 = some m.cls := findClass_of_methodNamed B.named
  have hlocks := B.notSynchronized
  subst hsz
  have hD := hD0.self (sz := s.heap.size)
  generalize hAe : va_A [] s.heap.size = A at hD hst ⊢
  have hA : ∀ q : Nat, s.heap.size ≤ q → A q := fun q h => by rw [← hAe]; exact Or.inr h
  have hS : va_S A s.heap s.heap [] := va_S.rf
  have hl := lv_entry ([.ref x0]) (n := 3) (Nat.le_of_ble_eq_true rfl)
  rw [lg_entry_eq]
  generalize (lg_sl ([.ref x0]) ++ List.replicate (3 - (lg_sl ([.ref x0])).length) Slot.unset).toArray = ls at hl ⊢
  have hl : lv_has ls 3 [(0, .ref x0)] := hl
  have k0_ : Int32.toInt 0 = 0 := by decide
  have k50_ : Int32.toInt 50 = 50 := by decide
  refine W_nameQ (fun Q0 eQ => ?_)
  refine lv_iconst (v := 0) hx hb dX1_depth_0 (by decide) ?_
  refine lv_istore_n (lv' := [(1, .int 0), (0, .ref x0)]) hx hb dX1_depth_1 rfl hl (by decide) rfl (fun ls hl => ?_)
  refine lv_aload_n hx hb dX1_depth_2 rfl (lv_at hl 1 rfl) ?_
  obtain ⟨cn_1, v_1, b_1, m_1, st_1, i_1, e_1, fv_1, fb_1, fm_1, fst_1, fi_1⟩ := hPI.a1 hx0
  obtain ⟨k_1, hk_1⟩ := va_plg hx0.1 e_1
  refine va_callq (va_runV (b := x0) (As := []) (rest := []) ⟨hx, hb, hml, hown, hts⟩ (t_X1_leadsTo l dC dI TT s.heap.size kT kI kJ K L f hPI x0 hx0) (cwV 0 hts gX1_depth_X1_leadsTo rfl rfl rfl (by decide +kernel) ⟨Nat.le_of_ble_eq_true rfl, Nat.le_of_ble_eq_true rfl⟩) ⟨pr_blind, va_recv hK hP (ci := 1) rfl hk_1, (pr_S (ws := va_pl L f) (wA := []) (tys := [(kT, .object RX1), (kI, .int), (kJ, .long)]) hP hK vd_nil hst hS (ro_free hS hA)).2⟩ rfl rfl hl.1 rfl (lv_room (Nat.le_of_ble_eq_true rfl)) dX1_depth_3 ⟨Nat.le_of_ble_eq_true rfl, Nat.le_of_ble_eq_true rfl⟩) hS (fun q _ h => (ro_free hS hA) q h) (ro_free hS hA) (fun r_2 u t H1 locs ht hvm hw hB hz1 hk1 hS => ?_)
  have hP := ro_keep hP hk1
  generalize H1 = H at hP hS ⊢
  rcases r_2 with _ | y_3
  · refine W.eq (g2 := F0 m 6 ls [.null]) rfl ?_
    refine lv_astore_nN (lv' := [(2, .null), (1, .int 0), (0, .ref x0)]) hx hb dX1_depth_6 rfl hl (by decide) rfl (fun ls hl => ?_)
    have loop_7 : ∀ (n : Nat) (i1 : Int32) (o2 : Option Nat) (H : Heap) (locs : List Loc) (ls : Array Slot), opr K L 1 o2 → (0 ≤ i1.toInt ∧ i1.toInt ≤ 50) → (50 - i1.toInt).toNat < n → va_P (dC, dI) vwCl (va_pl L f) H → va_S A s.heap H locs → lv_has ls 3 [(2, va_rf o2), (1, .int i1), (0, .ref x0)] → W p l e (headSpec wsX1_depth ({ frames := 1, cells := 0, slots := 0, locals := 20 } : Room)).room s m (([.ref x0] : List Value).toArray) below meth c H locs 0 0 Q0 (F0 m 7 ls []) := by
      intro n
      induction n with
      | zero => intro i1 o2 H locs ls _ _ h9; exact absurd h9 (Nat.not_lt_zero _)
      | succ n ih_7 =>
        intro i1 o2 H locs ls fo2 hI hM hP hS hl
        rcases o2 with _ | y2
        · have hl : lv_has ls 3 [(2, .null), (1, .int i1), (0, .ref x0)] := hl
          refine lv_aload_nN hx hb dX1_depth_7 rfl (lv_at hl 0 rfl) ?_
          refine lv_ifnullN (tgt := 28) hx hb dX1_depth_8 (by decide) ?_
          refine lv_iload_n hx hb dX1_depth_28 rfl (lv_at hl 1 rfl) ?_
          subst eQ
          exact W.iret (v := i1) hx hb hr (fun t ht hW => ⟨⟨i1, (), rfl, trivial, trivial⟩, hS.F ht⟩) hS.2.2 dX1_depth_29
        · have fy2 := fo2 y2 rfl
          have hl : lv_has ls 3 [(2, .ref y2), (1, .int i1), (0, .ref x0)] := hl
          refine lv_aload_n hx hb dX1_depth_7 rfl (lv_at hl 0 rfl) ?_
          refine lv_ifnull hx hb dX1_depth_8 ?_
          refine lv_iload_n hx hb dX1_depth_11 rfl (lv_at hl 1 rfl) ?_
          refine lv_bipush (v := 50) hx hb dX1_depth_12 (by decide) ?_
          refine lv_icmp_ge (tgt := 28) hx hb dX1_depth_14 (by decide) (fun c_4 => ?_) (fun c_4 => ?_)
          · have c_4 := Int32.le_iff_toInt_le.mp c_4
            refine lv_iload_n hx hb dX1_depth_28 rfl (lv_at hl 1 rfl) ?_
            subst eQ
            exact W.iret (v := i1) hx hb hr (fun t ht hW => ⟨⟨i1, (), rfl, trivial, trivial⟩, hS.F ht⟩) hS.2.2 dX1_depth_29
          · have c_4 := mt Int32.le_iff_toInt_le.mpr c_4
            obtain ⟨i_5, ei_5⟩ : ∃ y : Int32, y = i1 + 1 := ⟨_, rfl⟩
            refine lv_iinc (v := i_5) (lv' := [(1, .int i_5), (2, .ref y2), (0, .ref x0)]) hx hb dX1_depth_17 hl (k := 1) rfl (by rw [ei_5]; rfl) (by decide) rfl (fun ls hl => ?_)
            have ki_5 := inc_toInt ei_5 (by omega)
            refine lv_aload_n hx hb dX1_depth_20 rfl (lv_at hl 1 rfl) ?_
            obtain ⟨cn_6, v_6, b_6, m_6, st_6, i_6, e_6, fv_6, fb_6, fm_6, fst_6, fi_6⟩ := hPI.a1 fy2
            obtain ⟨k_6, hk_6⟩ := va_plg fy2.1 e_6
            refine va_callq (va_runV (b := y2) (As := []) (rest := []) ⟨hx, hb, hml, hown, hts⟩ (t_X1_leadsTo l dC dI TT H.size kT kI kJ K L f hPI y2 fy2) (cwV 0 hts gX1_depth_X1_leadsTo rfl rfl rfl (by decide +kernel) ⟨Nat.le_of_ble_eq_true rfl, Nat.le_of_ble_eq_true rfl⟩) ⟨pr_blind, va_recv hK hP (ci := 1) rfl hk_6, (pr_S (ws := va_pl L f) (wA := []) (tys := [(kT, .object RX1), (kI, .int), (kJ, .long)]) hP hK vd_nil hst hS (ro_free hS hA)).2⟩ rfl rfl hl.1 rfl (lv_room (Nat.le_of_ble_eq_true rfl)) dX1_depth_21 ⟨Nat.le_of_ble_eq_true rfl, Nat.le_of_ble_eq_true rfl⟩) hS (fun q _ h => (ro_free hS hA) q h) (ro_free hS hA) (fun r_7 u t H1 locs ht hvm hw hB hz1 hk1 hS => ?_)
            have hP := ro_keep hP hk1
            generalize H1 = H at hP hS ⊢
            rcases r_7 with _ | y_8
            · refine W.eq (g2 := F0 m 24 ls [.null]) rfl ?_
              refine lv_astore_nN (lv' := [(2, .null), (1, .int i_5), (0, .ref x0)]) hx hb dX1_depth_24 rfl hl (by decide) rfl (fun ls hl => ?_)
              refine lv_goto (tgt := 7) hx hb dX1_depth_25 (by decide) ?_
              exact ih_7 i_5 none _ _ _ (fun _ h9 => by cases h9) (by omega) (by omega) hP hS (lv_sub hl [0, 1, 2] rfl)
            · have fy_8 := hw y_8 rfl
              refine W.eq (g2 := F0 m 24 ls [.ref y_8]) rfl ?_
              refine lv_astore_n (lv' := [(2, .ref y_8), (1, .int i_5), (0, .ref x0)]) hx hb dX1_depth_24 rfl hl (by decide) rfl (fun ls hl => ?_)
              refine lv_goto (tgt := 7) hx hb dX1_depth_25 (by decide) ?_
              exact ih_7 i_5 ((some y_8)) _ _ _ (fun _ h9 => by cases h9; exact fy_8) (by omega) (by omega) hP hS (lv_sub hl [0, 1, 2] rfl)
    exact loop_7 51 0 none _ _ _ (fun _ h9 => by cases h9) (by omega) (by omega) hP hS hl
  · have fy_3 := hw y_3 rfl
    refine W.eq (g2 := F0 m 6 ls [.ref y_3]) rfl ?_
    refine lv_astore_n (lv' := [(2, .ref y_3), (1, .int 0), (0, .ref x0)]) hx hb dX1_depth_6 rfl hl (by decide) rfl (fun ls hl => ?_)
    have loop_7 : ∀ (n : Nat) (i1 : Int32) (o2 : Option Nat) (H : Heap) (locs : List Loc) (ls : Array Slot), opr K L 1 o2 → (0 ≤ i1.toInt ∧ i1.toInt ≤ 50) → (50 - i1.toInt).toNat < n → va_P (dC, dI) vwCl (va_pl L f) H → va_S A s.heap H locs → lv_has ls 3 [(2, va_rf o2), (1, .int i1), (0, .ref x0)] → W p l e (headSpec wsX1_depth ({ frames := 1, cells := 0, slots := 0, locals := 20 } : Room)).room s m (([.ref x0] : List Value).toArray) below meth c H locs 0 0 Q0 (F0 m 7 ls []) := by
      intro n
      induction n with
      | zero => intro i1 o2 H locs ls _ _ h9; exact absurd h9 (Nat.not_lt_zero _)
      | succ n ih_7 =>
        intro i1 o2 H locs ls fo2 hI hM hP hS hl
        rcases o2 with _ | y2
        · have hl : lv_has ls 3 [(2, .null), (1, .int i1), (0, .ref x0)] := hl
          refine lv_aload_nN hx hb dX1_depth_7 rfl (lv_at hl 0 rfl) ?_
          refine lv_ifnullN (tgt := 28) hx hb dX1_depth_8 (by decide) ?_
          refine lv_iload_n hx hb dX1_depth_28 rfl (lv_at hl 1 rfl) ?_
          subst eQ
          exact W.iret (v := i1) hx hb hr (fun t ht hW => ⟨⟨i1, (), rfl, trivial, trivial⟩, hS.F ht⟩) hS.2.2 dX1_depth_29
        · have fy2 := fo2 y2 rfl
          have hl : lv_has ls 3 [(2, .ref y2), (1, .int i1), (0, .ref x0)] := hl
          refine lv_aload_n hx hb dX1_depth_7 rfl (lv_at hl 0 rfl) ?_
          refine lv_ifnull hx hb dX1_depth_8 ?_
          refine lv_iload_n hx hb dX1_depth_11 rfl (lv_at hl 1 rfl) ?_
          refine lv_bipush (v := 50) hx hb dX1_depth_12 (by decide) ?_
          refine lv_icmp_ge (tgt := 28) hx hb dX1_depth_14 (by decide) (fun c_9 => ?_) (fun c_9 => ?_)
          · have c_9 := Int32.le_iff_toInt_le.mp c_9
            refine lv_iload_n hx hb dX1_depth_28 rfl (lv_at hl 1 rfl) ?_
            subst eQ
            exact W.iret (v := i1) hx hb hr (fun t ht hW => ⟨⟨i1, (), rfl, trivial, trivial⟩, hS.F ht⟩) hS.2.2 dX1_depth_29
          · have c_9 := mt Int32.le_iff_toInt_le.mpr c_9
            obtain ⟨i_10, ei_10⟩ : ∃ y : Int32, y = i1 + 1 := ⟨_, rfl⟩
            refine lv_iinc (v := i_10) (lv' := [(1, .int i_10), (2, .ref y2), (0, .ref x0)]) hx hb dX1_depth_17 hl (k := 1) rfl (by rw [ei_10]; rfl) (by decide) rfl (fun ls hl => ?_)
            have ki_10 := inc_toInt ei_10 (by omega)
            refine lv_aload_n hx hb dX1_depth_20 rfl (lv_at hl 1 rfl) ?_
            obtain ⟨cn_11, v_11, b_11, m_11, st_11, i_11, e_11, fv_11, fb_11, fm_11, fst_11, fi_11⟩ := hPI.a1 fy2
            obtain ⟨k_11, hk_11⟩ := va_plg fy2.1 e_11
            refine va_callq (va_runV (b := y2) (As := []) (rest := []) ⟨hx, hb, hml, hown, hts⟩ (t_X1_leadsTo l dC dI TT H.size kT kI kJ K L f hPI y2 fy2) (cwV 0 hts gX1_depth_X1_leadsTo rfl rfl rfl (by decide +kernel) ⟨Nat.le_of_ble_eq_true rfl, Nat.le_of_ble_eq_true rfl⟩) ⟨pr_blind, va_recv hK hP (ci := 1) rfl hk_11, (pr_S (ws := va_pl L f) (wA := []) (tys := [(kT, .object RX1), (kI, .int), (kJ, .long)]) hP hK vd_nil hst hS (ro_free hS hA)).2⟩ rfl rfl hl.1 rfl (lv_room (Nat.le_of_ble_eq_true rfl)) dX1_depth_21 ⟨Nat.le_of_ble_eq_true rfl, Nat.le_of_ble_eq_true rfl⟩) hS (fun q _ h => (ro_free hS hA) q h) (ro_free hS hA) (fun r_12 u t H1 locs ht hvm hw hB hz1 hk1 hS => ?_)
            have hP := ro_keep hP hk1
            generalize H1 = H at hP hS ⊢
            rcases r_12 with _ | y_13
            · refine W.eq (g2 := F0 m 24 ls [.null]) rfl ?_
              refine lv_astore_nN (lv' := [(2, .null), (1, .int i_10), (0, .ref x0)]) hx hb dX1_depth_24 rfl hl (by decide) rfl (fun ls hl => ?_)
              refine lv_goto (tgt := 7) hx hb dX1_depth_25 (by decide) ?_
              exact ih_7 i_10 none _ _ _ (fun _ h9 => by cases h9) (by omega) (by omega) hP hS (lv_sub hl [0, 1, 2] rfl)
            · have fy_13 := hw y_13 rfl
              refine W.eq (g2 := F0 m 24 ls [.ref y_13]) rfl ?_
              refine lv_astore_n (lv' := [(2, .ref y_13), (1, .int i_10), (0, .ref x0)]) hx hb dX1_depth_24 rfl hl (by decide) rfl (fun ls hl => ?_)
              refine lv_goto (tgt := 7) hx hb dX1_depth_25 (by decide) ?_
              exact ih_7 i_10 ((some y_13)) _ _ _ (fun _ h9 => by cases h9; exact fy_13) (by omega) (by omega) hP hS (lv_sub hl [0, 1, 2] rfl)
    exact loop_7 51 0 ((some y_3)) _ _ _ (fun _ h9 => by cases h9; exact fy_3) (by omega) (by omega) hP hS hl
set_option maxRecDepth 20000 in
theorem in_t_X1_kind_X1 : ∀ w ∈ u_ws RX1 TX1 6, w ∈ wsX1_kind := by decide +kernel
set_option maxRecDepth 100000 in
set_option maxHeartbeats 4000000 in
theorem t_X1_kind (l : Launch) (dC : Nat → ClassId) (dI : Nat → Nat → Nat) (TT : Nat × Nat × Nat) (sz : Nat) (kT kI kJ : ClassId) (K : Nat → Nat) (L : List Nat) (f : Nat → va_E) (hPI : PI kT kI kJ K L f) (x0 : Nat) (hx0 : isr K L 1 x0) : Met l yX1_kind wsX1_kind ({ frames := 0, cells := 0, slots := 0, locals := 0 } : Room) (va_Pc [.ref x0] (pr dC dI (va_pl L f) [] [(kT, .object RX1), (kI, .int), (kJ, .long)] sz TT)) (va_Qi (fun (r : Int32) (u : Unit) => True) (fun _ _ => True) (va_A [] sz)) 0 0 (va_A [] sz) := by
  refine Met.ofW (cc := cX1_kind) (maxL := 5) (ret := (some .int)) (by decide) rfl ?_
  intro p e s m args below meth c s₁ B hml hv
  obtain ⟨rfl, hsz, hP, hK, hD0, hst⟩ := hv
  have hx := B.exec
  have hb := B.bytes
  have hr := B.returns
  have hts := atoms_spec (ws := wsX1_kind) B.pre
  have hown : s.vm.findClass RX1 = some m.cls := findClass_of_methodNamed B.named
  have hlocks := B.notSynchronized
  have iX1_ := in_t_X1_kind_X1
  subst hsz
  have hD := hD0.self (sz := s.heap.size)
  generalize hAe : va_A [] s.heap.size = A at hD hst ⊢
  have hA : ∀ q : Nat, s.heap.size ≤ q → A q := fun q h => by rw [← hAe]; exact Or.inr h
  have hS : va_S A s.heap s.heap [] := va_S.rf
  have hl := lv_entry ([.ref x0]) (n := 5) (Nat.le_of_ble_eq_true rfl)
  rw [lg_entry_eq]
  generalize (lg_sl ([.ref x0]) ++ List.replicate (5 - (lg_sl ([.ref x0])).length) Slot.unset).toArray = ls at hl ⊢
  have hl : lv_has ls 5 [(0, .ref x0)] := hl
  have k0_ : Int32.toInt 0 = 0 := by decide
  have k1_ : Int32.toInt 1 = 1 := by decide
  have k3_ : Int32.toInt 3 = 3 := by decide
  have k7_ : Int32.toInt 7 = 7 := by decide
  have k8_ : Int32.toInt 8 = 8 := by decide
  refine W_nameQ (fun Q0 eQ => ?_)
  refine lv_aload_n hx hb dX1_kind_0 rfl (lv_at hl 0 rfl) ?_
  obtain ⟨cn_1, v_1, b_1, m_1, st_1, i_1, e_1, fv_1, fb_1, fm_1, fst_1, fi_1⟩ := hPI.a1 hx0
  obtain ⟨k_1, hk_1⟩ := va_plg hx0.1 e_1
  refine va_get (D := (dC, dI)) (ci := 1) (v := .int cn_1) (C := RX1) (T := TX1) (N := 6) hx hb hts iX1_ hown hK hP k_1 hk_1 rfl 0 (by decide) (hts (.fieldLink RX1 15 "FieldLeaves$Thing" "classNumber" "I") (by decide +kernel)) (fun _ h9 => h9) rfl dX1_kind_1 ?_
  refine lv_iconst (v := 3) hx hb dX1_kind_4 (by decide) ?_
  refine lv_icmp_ne (tgt := 11) hx hb dX1_kind_5 (by decide) (fun c_2 => ?_) (fun c_2 => ?_)
  · have c_2 := mt Int32.toInt_inj.mp c_2
    refine lv_iconst (v := 0) hx hb dX1_kind_11 (by decide) ?_
    refine lv_istore_n (lv' := [(1, .int 0), (0, .ref x0)]) hx hb dX1_kind_12 rfl hl (by decide) rfl (fun ls hl => ?_)
    refine lv_iconst (v := 1) hx hb dX1_kind_13 (by decide) ?_
    refine lv_istore_n (lv' := [(2, .int 1), (1, .int 0), (0, .ref x0)]) hx hb dX1_kind_14 rfl hl (by decide) rfl (fun ls hl => ?_)
    refine lv_aload_n hx hb dX1_kind_15 rfl (lv_at hl 2 rfl) ?_
    refine lv_astore_n (lv' := [(3, .ref x0), (2, .int 1), (1, .int 0), (0, .ref x0)]) hx hb dX1_kind_16 rfl hl (by decide) rfl (fun ls hl => ?_)
    refine lv_iconst (v := 0) hx hb dX1_kind_17 (by decide) ?_
    refine lv_istore (lv' := [(4, .int 0), (3, .ref x0), (2, .int 1), (1, .int 0), (0, .ref x0)]) hx hb dX1_kind_18 hl (by decide) rfl (fun ls hl => ?_)
    have loop_20 : ∀ (n : Nat) (i1 : Int32) (i2 : Int32) (i4 : Int32) (o3 : Option Nat) (H : Heap) (locs : List Loc) (ls : Array Slot), opr K L 1 o3 → (0 ≤ i4.toInt ∧ i4.toInt ≤ 8) → (8 - i4.toInt).toNat < n → va_P (dC, dI) vwCl (va_pl L f) H → va_S A s.heap H locs → lv_has ls 5 [(4, .int i4), (3, va_rf o3), (2, .int i2), (1, .int i1), (0, .ref x0)] → W p l e (headSpec wsX1_kind ({ frames := 0, cells := 0, slots := 0, locals := 0 } : Room)).room s m (([.ref x0] : List Value).toArray) below meth c H locs 0 0 Q0 (F0 m 20 ls []) := by
      intro n
      induction n with
      | zero => intro i1 i2 i4 o3 H locs ls _ _ h9; exact absurd h9 (Nat.not_lt_zero _)
      | succ n ih_20 =>
        intro i1 i2 i4 o3 H locs ls fo3 hI hM hP hS hl
        rcases o3 with _ | y3
        · have hl : lv_has ls 5 [(4, .int i4), (3, .null), (2, .int i2), (1, .int i1), (0, .ref x0)] := hl
          refine lv_iload hx hb dX1_kind_20 (lv_at hl 0 rfl) ?_
          refine lv_bipush (v := 8) hx hb dX1_kind_22 (by decide) ?_
          refine lv_icmp_ge (tgt := 58) hx hb dX1_kind_24 (by decide) (fun c_3 => ?_) (fun c_3 => ?_)
          · have c_3 := Int32.le_iff_toInt_le.mp c_3
            refine lv_iload_n hx hb dX1_kind_58 rfl (lv_at hl 3 rfl) ?_
            subst eQ
            exact W.iret (v := i1) hx hb hr (fun t ht hW => ⟨⟨i1, (), rfl, trivial, trivial⟩, hS.F ht⟩) hS.2.2 dX1_kind_59
          · have c_3 := mt Int32.le_iff_toInt_le.mpr c_3
            refine lv_aload_nN hx hb dX1_kind_27 rfl (lv_at hl 1 rfl) ?_
            refine lv_ifnullN (tgt := 58) hx hb dX1_kind_28 (by decide) ?_
            refine lv_iload_n hx hb dX1_kind_58 rfl (lv_at hl 3 rfl) ?_
            subst eQ
            exact W.iret (v := i1) hx hb hr (fun t ht hW => ⟨⟨i1, (), rfl, trivial, trivial⟩, hS.F ht⟩) hS.2.2 dX1_kind_59
        · have fy3 := fo3 y3 rfl
          have hl : lv_has ls 5 [(4, .int i4), (3, .ref y3), (2, .int i2), (1, .int i1), (0, .ref x0)] := hl
          refine lv_iload hx hb dX1_kind_20 (lv_at hl 0 rfl) ?_
          refine lv_bipush (v := 8) hx hb dX1_kind_22 (by decide) ?_
          refine lv_icmp_ge (tgt := 58) hx hb dX1_kind_24 (by decide) (fun c_4 => ?_) (fun c_4 => ?_)
          · have c_4 := Int32.le_iff_toInt_le.mp c_4
            refine lv_iload_n hx hb dX1_kind_58 rfl (lv_at hl 3 rfl) ?_
            subst eQ
            exact W.iret (v := i1) hx hb hr (fun t ht hW => ⟨⟨i1, (), rfl, trivial, trivial⟩, hS.F ht⟩) hS.2.2 dX1_kind_59
          · have c_4 := mt Int32.le_iff_toInt_le.mpr c_4
            refine lv_aload_n hx hb dX1_kind_27 rfl (lv_at hl 1 rfl) ?_
            refine lv_ifnull hx hb dX1_kind_28 ?_
            refine lv_iload_n hx hb dX1_kind_31 rfl (lv_at hl 3 rfl) ?_
            refine lv_iload_n hx hb dX1_kind_32 rfl (lv_at hl 2 rfl) ?_
            refine lv_aload_n hx hb dX1_kind_33 rfl (lv_at hl 1 rfl) ?_
            obtain ⟨cn_5, v_5, b_5, m_5, st_5, i_5, e_5, fv_5, fb_5, fm_5, fst_5, fi_5⟩ := hPI.a1 fy3
            obtain ⟨k_5, hk_5⟩ := va_plg fy3.1 e_5
            refine va_get (D := (dC, dI)) (ci := 1) (v := .int cn_5) (C := RX1) (T := TX1) (N := 6) hx hb hts iX1_ hown hK hP k_5 hk_5 rfl 0 (by decide) (hts (.fieldLink RX1 15 "FieldLeaves$Thing" "classNumber" "I") (by decide +kernel)) (fun _ h9 => h9) rfl dX1_kind_34 ?_
            refine lv_iconst (v := 1) hx hb dX1_kind_37 (by decide) ?_
            refine lv_iadd hx hb dX1_kind_38 ?_
            refine lv_topi (fun z_6 ez_6 => ?_)
            refine lv_imul hx hb dX1_kind_39 ?_
            refine lv_topi (fun z_7 ez_7 => ?_)
            refine lv_iadd hx hb dX1_kind_40 ?_
            refine lv_topi (fun z_8 ez_8 => ?_)
            refine lv_istore_n (lv' := [(1, .int z_8), (4, .int i4), (3, .ref y3), (2, .int i2), (0, .ref x0)]) hx hb dX1_kind_41 rfl hl (by decide) rfl (fun ls hl => ?_)
            refine lv_iload_n hx hb dX1_kind_42 rfl (lv_at hl 3 rfl) ?_
            refine lv_bipush (v := 10) hx hb dX1_kind_43 (by decide) ?_
            refine lv_imul hx hb dX1_kind_45 ?_
            refine lv_topi (fun z_9 ez_9 => ?_)
            refine lv_istore_n (lv' := [(2, .int z_9), (1, .int z_8), (4, .int i4), (3, .ref y3), (0, .ref x0)]) hx hb dX1_kind_46 rfl hl (by decide) rfl (fun ls hl => ?_)
            refine lv_aload_n hx hb dX1_kind_47 rfl (lv_at hl 3 rfl) ?_
            obtain ⟨k_10, hk_10⟩ := va_plg fy3.1 e_5
            refine va_get (D := (dC, dI)) (ci := 1) (v := va_rf b_5) (C := RX1) (T := TX1) (N := 6) hx hb hts iX1_ hown hK hP k_10 hk_10 rfl 2 (by decide) (hts (.fieldLink RX1 19 "FieldLeaves$Thing" "baseLink" "LFieldLeaves$Thing;") (by decide +kernel)) (fun _ h9 => h9) rfl dX1_kind_48 ?_
            rcases b_5 with _ | y_11
            · refine W.eq (g2 := F0 m 51 ls [.null]) rfl ?_
              refine lv_astore_nN (lv' := [(3, .null), (2, .int z_9), (1, .int z_8), (4, .int i4), (0, .ref x0)]) hx hb dX1_kind_51 rfl hl (by decide) rfl (fun ls hl => ?_)
              obtain ⟨i_12, ei_12⟩ : ∃ y : Int32, y = i4 + 1 := ⟨_, rfl⟩
              refine lv_iinc (v := i_12) (lv' := [(4, .int i_12), (3, .null), (2, .int z_9), (1, .int z_8), (0, .ref x0)]) hx hb dX1_kind_52 hl (k := 3) rfl (by rw [ei_12]; rfl) (by decide) rfl (fun ls hl => ?_)
              have ki_12 := inc_toInt ei_12 (by omega)
              refine lv_goto (tgt := 20) hx hb dX1_kind_55 (by decide) ?_
              exact ih_20 z_8 z_9 i_12 none _ _ _ (fun _ h9 => by cases h9) (by omega) (by omega) hP hS (lv_sub hl [0, 1, 2, 3, 4] rfl)
            · have fy_11 := fb_5 y_11 rfl
              refine W.eq (g2 := F0 m 51 ls [.ref y_11]) rfl ?_
              refine lv_astore_n (lv' := [(3, .ref y_11), (2, .int z_9), (1, .int z_8), (4, .int i4), (0, .ref x0)]) hx hb dX1_kind_51 rfl hl (by decide) rfl (fun ls hl => ?_)
              obtain ⟨i_13, ei_13⟩ : ∃ y : Int32, y = i4 + 1 := ⟨_, rfl⟩
              refine lv_iinc (v := i_13) (lv' := [(4, .int i_13), (3, .ref y_11), (2, .int z_9), (1, .int z_8), (0, .ref x0)]) hx hb dX1_kind_52 hl (k := 3) rfl (by rw [ei_13]; rfl) (by decide) rfl (fun ls hl => ?_)
              have ki_13 := inc_toInt ei_13 (by omega)
              refine lv_goto (tgt := 20) hx hb dX1_kind_55 (by decide) ?_
              exact ih_20 z_8 z_9 i_13 ((some y_11)) _ _ _ (fun _ h9 => by cases h9; exact fy_11) (by omega) (by omega) hP hS (lv_sub hl [0, 1, 2, 3, 4] rfl)
    exact loop_20 9 0 1 0 ((some x0)) _ _ _ (fun _ h9 => by cases h9; exact hx0) (by omega) (by omega) hP hS hl
  · have c_2 := congrArg Int32.toInt c_2
    refine lv_bipush (v := 7) hx hb dX1_kind_8 (by decide) ?_
    subst eQ
    exact W.iret (v := 7) hx hb hr (fun t ht hW => ⟨⟨7, (), rfl, trivial, trivial⟩, hS.F ht⟩) hS.2.2 dX1_kind_10
end
