section
-- ===== PART A: goes FIRST, ahead of the names: the tables' words, and 'selects' of the private methods out of them =====
/-- a private method of a class that the tables say can be made, by its rows of tables_1 -/
def lw_okq (q : MethodName × Nat) : Prop := (q.1.cls ≠ "java/lang/invoke/MethodHandle" ∧ q.1.cls ≠ "java/lang/invoke/VarHandle") ∧ Cond.instantiable q.1.cls q.2 ∈ tables_1 ∧ Cond.privateMethod q.1 ∈ tables_1 ∧ Cond.instanceMethod q.1 ∈ tables_1
theorem lw_p0 : lw_okq (⟨"FieldLeaves", "tell", "(LFieldLeaves$Thing;LFieldLeaves$LeafList;)Z"⟩, 9) := ⟨⟨by decide +kernel, by decide +kernel⟩, List.mem_of_getElem? (i := 6) (by decide +kernel), List.mem_of_getElem? (i := 258) (by decide +kernel), List.mem_of_getElem? (i := 259) (by decide +kernel)⟩
theorem lw_p1 : lw_okq (⟨"FieldLeaves", "findFrom", "(LFieldLeaves$Thing;)Z"⟩, 9) := ⟨⟨by decide +kernel, by decide +kernel⟩, List.mem_of_getElem? (i := 6) (by decide +kernel), List.mem_of_getElem? (i := 262) (by decide +kernel), List.mem_of_getElem? (i := 263) (by decide +kernel)⟩
theorem lw_p2 : lw_okq (⟨"FieldLeaves", "addFound", "(LFieldLeaves$Thing;)Z"⟩, 9) := ⟨⟨by decide +kernel, by decide +kernel⟩, List.mem_of_getElem? (i := 6) (by decide +kernel), List.mem_of_getElem? (i := 266) (by decide +kernel), List.mem_of_getElem? (i := 267) (by decide +kernel)⟩
theorem lw_p3 : lw_okq (⟨"FieldLeaves", "numberOf", "(LFieldLeaves$Thing;)I"⟩, 9) := ⟨⟨by decide +kernel, by decide +kernel⟩, List.mem_of_getElem? (i := 6) (by decide +kernel), List.mem_of_getElem? (i := 270) (by decide +kernel), List.mem_of_getElem? (i := 271) (by decide +kernel)⟩
theorem lw_p4 : lw_okq (⟨"FieldLeaves", "tellObject", "(ILFieldLeaves$LeafList;)Z"⟩, 9) := ⟨⟨by decide +kernel, by decide +kernel⟩, List.mem_of_getElem? (i := 6) (by decide +kernel), List.mem_of_getElem? (i := 274) (by decide +kernel), List.mem_of_getElem? (i := 275) (by decide +kernel)⟩
theorem lw_p5 : lw_okq (⟨"FieldLeaves", "tellField", "(IILFieldLeaves$LeafList;)Z"⟩, 9) := ⟨⟨by decide +kernel, by decide +kernel⟩, List.mem_of_getElem? (i := 6) (by decide +kernel), List.mem_of_getElem? (i := 282) (by decide +kernel), List.mem_of_getElem? (i := 283) (by decide +kernel)⟩
theorem lw_p6 : lw_okq (⟨"FieldLeaves", "makeFromLeaves", "()I"⟩, 9) := ⟨⟨by decide +kernel, by decide +kernel⟩, List.mem_of_getElem? (i := 6) (by decide +kernel), List.mem_of_getElem? (i := 305) (by decide +kernel), List.mem_of_getElem? (i := 306) (by decide +kernel)⟩
theorem lw_p7 : lw_okq (⟨"FieldLeaves", "fillFromLeaves", "()I"⟩, 9) := ⟨⟨by decide +kernel, by decide +kernel⟩, List.mem_of_getElem? (i := 6) (by decide +kernel), List.mem_of_getElem? (i := 315) (by decide +kernel), List.mem_of_getElem? (i := 316) (by decide +kernel)⟩
theorem lw_p8 : lw_okq (⟨"FieldLeaves", "madeAs", "(J)LFieldLeaves$Thing;"⟩, 9) := ⟨⟨by decide +kernel, by decide +kernel⟩, List.mem_of_getElem? (i := 6) (by decide +kernel), List.mem_of_getElem? (i := 319) (by decide +kernel), List.mem_of_getElem? (i := 320) (by decide +kernel)⟩
theorem lw_p9 : lw_okq (⟨"FieldLeaves", "fillField", "(LFieldLeaves$Thing;IJ)I"⟩, 9) := ⟨⟨by decide +kernel, by decide +kernel⟩, List.mem_of_getElem? (i := 6) (by decide +kernel), List.mem_of_getElem? (i := 323) (by decide +kernel), List.mem_of_getElem? (i := 324) (by decide +kernel)⟩
theorem lw_p10 : lw_okq (⟨"FieldLeaves", "fillLink", "(LFieldLeaves$Thing;IJ)I"⟩, 9) := ⟨⟨by decide +kernel, by decide +kernel⟩, List.mem_of_getElem? (i := 6) (by decide +kernel), List.mem_of_getElem? (i := 327) (by decide +kernel), List.mem_of_getElem? (i := 328) (by decide +kernel)⟩
theorem lw_p11 : lw_okq (⟨"FieldLeavesModel", "lookWhatIsHeld", "()V"⟩, 23) := ⟨⟨by decide +kernel, by decide +kernel⟩, List.mem_of_getElem? (i := 353) (by decide +kernel), List.mem_of_getElem? (i := 445) (by decide +kernel), List.mem_of_getElem? (i := 446) (by decide +kernel)⟩
theorem lw_p12 : lw_okq (⟨"FieldLeavesModel", "born", "(II)I"⟩, 23) := ⟨⟨by decide +kernel, by decide +kernel⟩, List.mem_of_getElem? (i := 353) (by decide +kernel), List.mem_of_getElem? (i := 455) (by decide +kernel), List.mem_of_getElem? (i := 456) (by decide +kernel)⟩
theorem lw_p13 : lw_okq (⟨"FieldLeavesModel", "isOther", "(II)Z"⟩, 23) := ⟨⟨by decide +kernel, by decide +kernel⟩, List.mem_of_getElem? (i := 353) (by decide +kernel), List.mem_of_getElem? (i := 495) (by decide +kernel), List.mem_of_getElem? (i := 496) (by decide +kernel)⟩
theorem lw_p14 : lw_okq (⟨"FieldLeavesModel", "rowless", "(I)I"⟩, 23) := ⟨⟨by decide +kernel, by decide +kernel⟩, List.mem_of_getElem? (i := 353) (by decide +kernel), List.mem_of_getElem? (i := 533) (by decide +kernel), List.mem_of_getElem? (i := 534) (by decide +kernel)⟩
theorem lw_p15 : lw_okq (⟨"FieldLeavesModel", "nameOf", "(I)I"⟩, 23) := ⟨⟨by decide +kernel, by decide +kernel⟩, List.mem_of_getElem? (i := 353) (by decide +kernel), List.mem_of_getElem? (i := 550) (by decide +kernel), List.mem_of_getElem? (i := 551) (by decide +kernel)⟩
def lw_privs_1 : List (MethodName × Nat) := [(⟨"FieldLeaves", "tell", "(LFieldLeaves$Thing;LFieldLeaves$LeafList;)Z"⟩, 9), (⟨"FieldLeaves", "findFrom", "(LFieldLeaves$Thing;)Z"⟩, 9), (⟨"FieldLeaves", "addFound", "(LFieldLeaves$Thing;)Z"⟩, 9), (⟨"FieldLeaves", "numberOf", "(LFieldLeaves$Thing;)I"⟩, 9), (⟨"FieldLeaves", "tellObject", "(ILFieldLeaves$LeafList;)Z"⟩, 9), (⟨"FieldLeaves", "tellField", "(IILFieldLeaves$LeafList;)Z"⟩, 9), (⟨"FieldLeaves", "makeFromLeaves", "()I"⟩, 9), (⟨"FieldLeaves", "fillFromLeaves", "()I"⟩, 9), (⟨"FieldLeaves", "madeAs", "(J)LFieldLeaves$Thing;"⟩, 9), (⟨"FieldLeaves", "fillField", "(LFieldLeaves$Thing;IJ)I"⟩, 9), (⟨"FieldLeaves", "fillLink", "(LFieldLeaves$Thing;IJ)I"⟩, 9), (⟨"FieldLeavesModel", "lookWhatIsHeld", "()V"⟩, 23), (⟨"FieldLeavesModel", "born", "(II)I"⟩, 23), (⟨"FieldLeavesModel", "isOther", "(II)Z"⟩, 23), (⟨"FieldLeavesModel", "rowless", "(I)I"⟩, 23), (⟨"FieldLeavesModel", "nameOf", "(I)I"⟩, 23)]
theorem lw_r1 : ∀ q ∈ lw_privs_1, lw_okq q := List.forall_mem_cons.mpr ⟨lw_p0, List.forall_mem_cons.mpr ⟨lw_p1, List.forall_mem_cons.mpr ⟨lw_p2, List.forall_mem_cons.mpr ⟨lw_p3, List.forall_mem_cons.mpr ⟨lw_p4, List.forall_mem_cons.mpr ⟨lw_p5, List.forall_mem_cons.mpr ⟨lw_p6, List.forall_mem_cons.mpr ⟨lw_p7, List.forall_mem_cons.mpr ⟨lw_p8, List.forall_mem_cons.mpr ⟨lw_p9, List.forall_mem_cons.mpr ⟨lw_p10, List.forall_mem_cons.mpr ⟨lw_p11, List.forall_mem_cons.mpr ⟨lw_p12, List.forall_mem_cons.mpr ⟨lw_p13, List.forall_mem_cons.mpr ⟨lw_p14, List.forall_mem_cons.mpr ⟨lw_p15, fun _ h => absurd h List.not_mem_nil⟩⟩⟩⟩⟩⟩⟩⟩⟩⟩⟩⟩⟩⟩⟩⟩
theorem lw_p16 : lw_okq (⟨"FieldLeavesModel", "depthOf", "(I)I"⟩, 23) := ⟨⟨by decide +kernel, by decide +kernel⟩, List.mem_of_getElem? (i := 353) (by decide +kernel), List.mem_of_getElem? (i := 554) (by decide +kernel), List.mem_of_getElem? (i := 555) (by decide +kernel)⟩
theorem lw_p17 : lw_okq (⟨"FieldLeavesModel", "kindOf", "(I)I"⟩, 23) := ⟨⟨by decide +kernel, by decide +kernel⟩, List.mem_of_getElem? (i := 353) (by decide +kernel), List.mem_of_getElem? (i := 558) (by decide +kernel), List.mem_of_getElem? (i := 559) (by decide +kernel)⟩
theorem lw_p18 : lw_okq (⟨"FieldLeavesModel", "find", "(I)Z"⟩, 23) := ⟨⟨by decide +kernel, by decide +kernel⟩, List.mem_of_getElem? (i := 353) (by decide +kernel), List.mem_of_getElem? (i := 579) (by decide +kernel), List.mem_of_getElem? (i := 580) (by decide +kernel)⟩
theorem lw_p19 : lw_okq (⟨"FieldLeavesModel", "numberOf", "(I)I"⟩, 23) := ⟨⟨by decide +kernel, by decide +kernel⟩, List.mem_of_getElem? (i := 353) (by decide +kernel), List.mem_of_getElem? (i := 583) (by decide +kernel), List.mem_of_getElem? (i := 584) (by decide +kernel)⟩
theorem lw_p20 : lw_okq (⟨"FieldLeavesModel", "tellObject", "(II)V"⟩, 23) := ⟨⟨by decide +kernel, by decide +kernel⟩, List.mem_of_getElem? (i := 353) (by decide +kernel), List.mem_of_getElem? (i := 587) (by decide +kernel), List.mem_of_getElem? (i := 588) (by decide +kernel)⟩
theorem lw_p21 : lw_okq (⟨"FieldLeavesModel", "tell", "(IIJ)V"⟩, 23) := ⟨⟨by decide +kernel, by decide +kernel⟩, List.mem_of_getElem? (i := 353) (by decide +kernel), List.mem_of_getElem? (i := 591) (by decide +kernel), List.mem_of_getElem? (i := 592) (by decide +kernel)⟩
theorem lw_p22 : lw_okq (⟨"FieldLeavesModel", "told", "(II)J"⟩, 23) := ⟨⟨by decide +kernel, by decide +kernel⟩, List.mem_of_getElem? (i := 353) (by decide +kernel), List.mem_of_getElem? (i := 607) (by decide +kernel), List.mem_of_getElem? (i := 608) (by decide +kernel)⟩
theorem lw_p23 : lw_okq (⟨"FieldLeavesModel", "isChanged", "(III)Z"⟩, 23) := ⟨⟨by decide +kernel, by decide +kernel⟩, List.mem_of_getElem? (i := 353) (by decide +kernel), List.mem_of_getElem? (i := 619) (by decide +kernel), List.mem_of_getElem? (i := 620) (by decide +kernel)⟩
def lw_privs_2 : List (MethodName × Nat) := [(⟨"FieldLeavesModel", "depthOf", "(I)I"⟩, 23), (⟨"FieldLeavesModel", "kindOf", "(I)I"⟩, 23), (⟨"FieldLeavesModel", "find", "(I)Z"⟩, 23), (⟨"FieldLeavesModel", "numberOf", "(I)I"⟩, 23), (⟨"FieldLeavesModel", "tellObject", "(II)V"⟩, 23), (⟨"FieldLeavesModel", "tell", "(IIJ)V"⟩, 23), (⟨"FieldLeavesModel", "told", "(II)J"⟩, 23), (⟨"FieldLeavesModel", "isChanged", "(III)Z"⟩, 23)]
theorem lw_r2 : ∀ q ∈ lw_privs_2, lw_okq q := List.forall_mem_cons.mpr ⟨lw_p16, List.forall_mem_cons.mpr ⟨lw_p17, List.forall_mem_cons.mpr ⟨lw_p18, List.forall_mem_cons.mpr ⟨lw_p19, List.forall_mem_cons.mpr ⟨lw_p20, List.forall_mem_cons.mpr ⟨lw_p21, List.forall_mem_cons.mpr ⟨lw_p22, List.forall_mem_cons.mpr ⟨lw_p23, fun _ h => absurd h List.not_mem_nil⟩⟩⟩⟩⟩⟩⟩⟩
def lw_privs : List (MethodName × Nat) := lw_privs_1 ++ (lw_privs_2)
def lw_tbl : List Cond := k2_sels lw_privs ++ tables_1
theorem lw_privs_ok : ∀ q ∈ lw_privs, lw_okq q := by
  show ∀ q ∈ lw_privs_1 ++ (lw_privs_2), lw_okq q
  exact List.forall_mem_append.mpr ⟨lw_r1, lw_r2⟩
end
section
/-! ===== BEGIN words of one list among another's, by their places ===== -/
theorem goodIn_r {big : List Cond} (ws : List Cond) (ps : List Nat) (hp : ws = ps.filterMap (fun i => big[i]?)) (h : ws.all goodWord = true) : GoodIn big ws := by
  intro w hw
  have h1 := List.all_eq_true.mp h w hw
  rw [hp] at hw
  obtain ⟨i, -, hi⟩ := List.mem_filterMap.mp hw
  have hm : w ∈ big := by first | exact List.mem_of_getElem? hi | exact List.getElem?_mem hi
  exact ⟨hm, good_of_word h1⟩
theorem goodIn_app {big a b : List Cond} (ha : GoodIn big a) (hb : GoodIn big b) : GoodIn big (a ++ b) := fun w h => (List.mem_append.mp h).elim (ha w) (hb w)
theorem goodIn_ca {big a b : List Cond} {c : Cond} (ha : GoodIn big (c :: a)) (hb : GoodIn big b) : GoodIn big (c :: (a ++ b)) := fun w h => (List.mem_cons.mp h).elim (fun e => ha w (List.mem_cons.mpr (Or.inl e))) (fun h => (List.mem_append.mp h).elim (fun h => ha w (List.mem_cons.mpr (Or.inr h))) (hb w))
theorem goodIn_sub {big ws : List Cond} (hm : ∀ w ∈ ws, w ∈ big) (h : ws.all goodWord = true) : GoodIn big ws := fun w hw => ⟨hm w hw, good_of_word (List.all_eq_true.mp h w hw)⟩
/-! ===== END ===== -/

/-! ===== BEGIN printed: names, fields, word lists, decode rows ===== -/
def RX0 : String := "FieldLeaves$LeafList"
def TX0 : u_T := fun k => match k with
  | 0 => ("FieldLeaves$LeafList", "numbers", "[I", true)
  | 1 => ("FieldLeaves$LeafList", "fields", "[I", true)
  | 2 => ("FieldLeaves$LeafList", "values", "[J", true)
  | _ => ("FieldLeaves$LeafList", "size", "I", false)
def tyX0 : Nat → FieldType := fun k => match k with
  | 0 => .array .int
  | 1 => .array .int
  | 2 => .array .long
  | _ => .int
abbrev wsX00 : List Cond := u_ws RX0 TX0 4
theorem nmX0 : ∀ a, a < 4 → ∀ b, b < 4 → a ≠ b → (TX0 a).2.1 ≠ (TX0 b).2.1 := by decide +kernel
theorem tyX0_ok : ∀ k, k < 4 → parseFieldDescriptor (TX0 k).2.2.1 = some (tyX0 k) := by decide +kernel
abbrev cX0_init : ByteArray := prog_2_method_1_code
def yX0_init : MethodName := ⟨RX0, "<init>", "()V"⟩
abbrev cX0_has : ByteArray := prog_2_method_2_code
def yX0_has : MethodName := ⟨RX0, "has", "(I)Z"⟩
abbrev cX0_add : ByteArray := prog_2_method_3_code
def yX0_add : MethodName := ⟨RX0, "add", "(IIJ)Z"⟩
abbrev cX0_sameAs : ByteArray := prog_2_method_4_code
def yX0_sameAs : MethodName := ⟨RX0, "sameAs", "(LFieldLeaves$LeafList;)Z"⟩
abbrev cX0_toldToMaker : ByteArray := prog_2_method_5_code
def yX0_toldToMaker : MethodName := ⟨RX0, "toldToMaker", "(I)I"⟩
def RX1 : String := "FieldLeaves$Thing"
def TX1 : u_T := fun k => match k with
  | 0 => ("FieldLeaves$Thing", "classNumber", "I", true)
  | 1 => ("FieldLeaves$Thing", "values", "[J", true)
  | 2 => ("FieldLeaves$Thing", "baseLink", "LFieldLeaves$Thing;", false)
  | 3 => ("FieldLeaves$Thing", "middleLink", "LFieldLeaves$Thing;", false)
  | 4 => ("FieldLeaves$Thing", "strayBack", "LFieldLeaves$Thing;", false)
  | _ => ("FieldLeaves$Thing", "ints", "[I", false)
def tyX1 : Nat → FieldType := fun k => match k with
  | 0 => .int
  | 1 => .array .long
  | 2 => .object "FieldLeaves$Thing"
  | 3 => .object "FieldLeaves$Thing"
  | 4 => .object "FieldLeaves$Thing"
  | _ => .array .int
abbrev wsX10 : List Cond := u_ws RX1 TX1 6
theorem nmX1 : ∀ a, a < 6 → ∀ b, b < 6 → a ≠ b → (TX1 a).2.1 ≠ (TX1 b).2.1 := by decide +kernel
theorem tyX1_ok : ∀ k, k < 6 → parseFieldDescriptor (TX1 k).2.2.1 = some (tyX1 k) := by decide +kernel
abbrev cX1_init : ByteArray := prog_3_method_1_code
def yX1_init : MethodName := ⟨RX1, "<init>", "(II)V"⟩
abbrev cX1_isOf : ByteArray := prog_3_method_2_code
def yX1_isOf : MethodName := ⟨RX1, "isOf", "(I)Z"⟩
abbrev cX1_held : ByteArray := prog_3_method_3_code
def yX1_held : MethodName := ⟨RX1, "held", "(I)LFieldLeaves$Thing;"⟩
abbrev cX1_hold : ByteArray := prog_3_method_4_code
def yX1_hold : MethodName := ⟨RX1, "hold", "(ILFieldLeaves$Thing;)V"⟩
abbrev cX1_leadsTo : ByteArray := prog_3_method_5_code
def yX1_leadsTo : MethodName := ⟨RX1, "leadsTo", "()LFieldLeaves$Thing;"⟩
abbrev cX1_name : ByteArray := prog_3_method_6_code
def yX1_name : MethodName := ⟨RX1, "name", "()I"⟩
abbrev cX1_secret : ByteArray := prog_3_method_7_code
def yX1_secret : MethodName := ⟨RX1, "secret", "()I"⟩
abbrev cX1_depth : ByteArray := prog_3_method_8_code
def yX1_depth : MethodName := ⟨RX1, "depth", "()I"⟩
abbrev cX1_kind : ByteArray := prog_3_method_9_code
def yX1_kind : MethodName := ⟨RX1, "kind", "()I"⟩
def RX2 : String := "FieldLeaves"
def TX2 : u_T := fun k => match k with
  | 0 => ("FieldLeaves", "slots", "[LFieldLeaves$Thing;", true)
  | 1 => ("FieldLeaves", "passedCount", "I", false)
  | 2 => ("FieldLeaves", "current", "LFieldLeaves$LeafList;", false)
  | 3 => ("FieldLeaves", "spare", "LFieldLeaves$LeafList;", false)
  | 4 => ("FieldLeaves", "second", "LFieldLeaves$LeafList;", true)
  | 5 => ("FieldLeaves", "found", "[LFieldLeaves$Thing;", true)
  | 6 => ("FieldLeaves", "foundCount", "I", false)
  | 7 => ("FieldLeaves", "made", "[LFieldLeaves$Thing;", true)
  | _ => ("FieldLeaves", "madeCount", "I", false)
def tyX2 : Nat → FieldType := fun k => match k with
  | 0 => .array (.object "FieldLeaves$Thing")
  | 1 => .int
  | 2 => .object "FieldLeaves$LeafList"
  | 3 => .object "FieldLeaves$LeafList"
  | 4 => .object "FieldLeaves$LeafList"
  | 5 => .array (.object "FieldLeaves$Thing")
  | 6 => .int
  | 7 => .array (.object "FieldLeaves$Thing")
  | _ => .int
abbrev wsX20 : List Cond := u_ws RX2 TX2 9
theorem nmX2 : ∀ a, a < 9 → ∀ b, b < 9 → a ≠ b → (TX2 a).2.1 ≠ (TX2 b).2.1 := by decide +kernel
theorem tyX2_ok : ∀ k, k < 9 → parseFieldDescriptor (TX2 k).2.2.1 = some (tyX2 k) := by decide +kernel
abbrev cX2_init : ByteArray := prog_1_method_1_code
def yX2_init : MethodName := ⟨RX2, "<init>", "()V"⟩
abbrev cX2_make : ByteArray := prog_1_method_2_code
def yX2_make : MethodName := ⟨RX2, "make", "(III)I"⟩
abbrev cX2_clear : ByteArray := prog_1_method_3_code
def yX2_clear : MethodName := ⟨RX2, "clear", "(I)I"⟩
abbrev cX2_share : ByteArray := prog_1_method_4_code
def yX2_share : MethodName := ⟨RX2, "share", "(II)I"⟩
abbrev cX2_same : ByteArray := prog_1_method_5_code
def yX2_same : MethodName := ⟨RX2, "same", "(II)I"⟩
abbrev cX2_cls : ByteArray := prog_1_method_6_code
def yX2_cls : MethodName := ⟨RX2, "cls", "(I)I"⟩
abbrev cX2_is : ByteArray := prog_1_method_7_code
def yX2_is : MethodName := ⟨RX2, "is", "(II)I"⟩
abbrev cX2_get : ByteArray := prog_1_method_8_code
def yX2_get : MethodName := ⟨RX2, "get", "(II)J"⟩
abbrev cX2_set : ByteArray := prog_1_method_9_code
def yX2_set : MethodName := ⟨RX2, "set", "(IIJ)I"⟩
abbrev cX2_link : ByteArray := prog_1_method_10_code
def yX2_link : MethodName := ⟨RX2, "link", "(III)I"⟩
abbrev cX2_follow : ByteArray := prog_1_method_11_code
def yX2_follow : MethodName := ⟨RX2, "follow", "(III)I"⟩
abbrev cX2_row : ByteArray := prog_1_method_12_code
def yX2_row : MethodName := ⟨RX2, "row", "(II)I"⟩
abbrev cX2_put : ByteArray := prog_1_method_13_code
def yX2_put : MethodName := ⟨RX2, "put", "(III)I"⟩
abbrev cX2_length : ByteArray := prog_1_method_14_code
def yX2_length : MethodName := ⟨RX2, "length", "(I)I"⟩
abbrev cX2_count : ByteArray := prog_1_method_15_code
def yX2_count : MethodName := ⟨RX2, "count", "(II)J"⟩
abbrev cX2_call : ByteArray := prog_1_method_16_code
def yX2_call : MethodName := ⟨RX2, "call", "(II)I"⟩
abbrev cX2_raise : ByteArray := prog_1_method_17_code
def yX2_raise : MethodName := ⟨RX2, "raise", "(I)I"⟩
abbrev cX2_passes : ByteArray := prog_1_method_18_code
def yX2_passes : MethodName := ⟨RX2, "passes", "(II)I"⟩
abbrev cX2_passed : ByteArray := prog_1_method_19_code
def yX2_passed : MethodName := ⟨RX2, "passed", "()I"⟩
abbrev cX2_leaves : ByteArray := prog_1_method_20_code
def yX2_leaves : MethodName := ⟨RX2, "leaves", "(I)I"⟩
abbrev cX2_leaf : ByteArray := prog_1_method_21_code
def yX2_leaf : MethodName := ⟨RX2, "leaf", "(II)J"⟩
abbrev cX2_alter : ByteArray := prog_1_method_22_code
def yX2_alter : MethodName := ⟨RX2, "alter", "(IJ)I"⟩
abbrev cX2_back : ByteArray := prog_1_method_23_code
def yX2_back : MethodName := ⟨RX2, "back", "(I)I"⟩
abbrev cX2_equal : ByteArray := prog_1_method_24_code
def yX2_equal : MethodName := ⟨RX2, "equal", "(II)I"⟩
abbrev cX2_changed : ByteArray := prog_1_method_25_code
def yX2_changed : MethodName := ⟨RX2, "changed", "(III)I"⟩
abbrev cX2_isSlot : ByteArray := prog_1_method_26_code
def yX2_isSlot : MethodName := ⟨RX2, "isSlot", "(I)Z"⟩
abbrev cX2_isField : ByteArray := prog_1_method_27_code
def yX2_isField : MethodName := ⟨RX2, "isField", "(I)Z"⟩
abbrev cX2_isLinkField : ByteArray := prog_1_method_28_code
def yX2_isLinkField : MethodName := ⟨RX2, "isLinkField", "(I)Z"⟩
abbrev cX2_isValueField : ByteArray := prog_1_method_29_code
def yX2_isValueField : MethodName := ⟨RX2, "isValueField", "(I)Z"⟩
abbrev cX2_isFinal : ByteArray := prog_1_method_30_code
def yX2_isFinal : MethodName := ⟨RX2, "isFinal", "(I)Z"⟩
abbrev cX2_makerTakes : ByteArray := prog_1_method_31_code
def yX2_makerTakes : MethodName := ⟨RX2, "makerTakes", "(II)Z"⟩
abbrev cX2_wantedIn : ByteArray := prog_1_method_32_code
def yX2_wantedIn : MethodName := ⟨RX2, "wantedIn", "(I)I"⟩
abbrev cX2_failureAs : ByteArray := prog_1_method_33_code
def yX2_failureAs : MethodName := ⟨RX2, "failureAs", "(LFieldLeaves$Thing;I)I"⟩
abbrev cX2_failureOfRow : ByteArray := prog_1_method_34_code
def yX2_failureOfRow : MethodName := ⟨RX2, "failureOfRow", "(LFieldLeaves$Thing;)I"⟩
abbrev cX2_thrown : ByteArray := prog_1_method_35_code
def yX2_thrown : MethodName := ⟨RX2, "thrown", "(LFieldLeaves$Thing;)I"⟩
abbrev cX2_asTold : ByteArray := prog_1_method_36_code
def yX2_asTold : MethodName := ⟨RX2, "asTold", "(IJ)J"⟩
abbrev cX2_floatAsTold : ByteArray := prog_1_method_37_code
def yX2_floatAsTold : MethodName := ⟨RX2, "floatAsTold", "(I)I"⟩
abbrev cX2_doubleAsTold : ByteArray := prog_1_method_38_code
def yX2_doubleAsTold : MethodName := ⟨RX2, "doubleAsTold", "(J)J"⟩
abbrev cX2_differ : ByteArray := prog_1_method_39_code
def yX2_differ : MethodName := ⟨RX2, "differ", "(LFieldLeaves$Thing;LFieldLeaves$Thing;I)Z"⟩
abbrev cX2_differInInts : ByteArray := prog_1_method_40_code
def yX2_differInInts : MethodName := ⟨RX2, "differInInts", "([I[I)Z"⟩
abbrev cX2_tell : ByteArray := prog_1_method_41_code
def yX2_tell : MethodName := ⟨RX2, "tell", "(LFieldLeaves$Thing;LFieldLeaves$LeafList;)Z"⟩
abbrev cX2_findFrom : ByteArray := prog_1_method_42_code
def yX2_findFrom : MethodName := ⟨RX2, "findFrom", "(LFieldLeaves$Thing;)Z"⟩
abbrev cX2_addFound : ByteArray := prog_1_method_43_code
def yX2_addFound : MethodName := ⟨RX2, "addFound", "(LFieldLeaves$Thing;)Z"⟩
abbrev cX2_numberOf : ByteArray := prog_1_method_44_code
def yX2_numberOf : MethodName := ⟨RX2, "numberOf", "(LFieldLeaves$Thing;)I"⟩
abbrev cX2_tellObject : ByteArray := prog_1_method_45_code
def yX2_tellObject : MethodName := ⟨RX2, "tellObject", "(ILFieldLeaves$LeafList;)Z"⟩
abbrev cX2_tellField : ByteArray := prog_1_method_46_code
def yX2_tellField : MethodName := ⟨RX2, "tellField", "(IILFieldLeaves$LeafList;)Z"⟩
abbrev cX2_tellRow : ByteArray := prog_1_method_47_code
def yX2_tellRow : MethodName := ⟨RX2, "tellRow", "(I[ILFieldLeaves$LeafList;)Z"⟩
abbrev cX2_makeFromLeaves : ByteArray := prog_1_method_48_code
def yX2_makeFromLeaves : MethodName := ⟨RX2, "makeFromLeaves", "()I"⟩
abbrev cX2_fillFromLeaves : ByteArray := prog_1_method_49_code
def yX2_fillFromLeaves : MethodName := ⟨RX2, "fillFromLeaves", "()I"⟩
abbrev cX2_madeAs : ByteArray := prog_1_method_50_code
def yX2_madeAs : MethodName := ⟨RX2, "madeAs", "(J)LFieldLeaves$Thing;"⟩
abbrev cX2_fillField : ByteArray := prog_1_method_51_code
def yX2_fillField : MethodName := ⟨RX2, "fillField", "(LFieldLeaves$Thing;IJ)I"⟩
abbrev cX2_fillLink : ByteArray := prog_1_method_52_code
def yX2_fillLink : MethodName := ⟨RX2, "fillLink", "(LFieldLeaves$Thing;IJ)I"⟩
abbrev cX2_fillPlace : ByteArray := prog_1_method_53_code
def yX2_fillPlace : MethodName := ⟨RX2, "fillPlace", "([III)V"⟩
def RX3 : String := "FieldLeavesModel"
def TX3 : u_T := fun k => match k with
  | 0 => ("FieldLeavesModel", "slot", "[I", true)
  | 1 => ("FieldLeavesModel", "classOf", "[I", true)
  | 2 => ("FieldLeavesModel", "field", "[J", true)
  | 3 => ("FieldLeavesModel", "rowSize", "[I", true)
  | 4 => ("FieldLeavesModel", "rows", "[I", true)
  | 5 => ("FieldLeavesModel", "isHeld", "[Z", true)
  | 6 => ("FieldLeavesModel", "pile", "[I", true)
  | 7 => ("FieldLeavesModel", "passed", "I", false)
  | 8 => ("FieldLeavesModel", "leafMany", "I", false)
  | 9 => ("FieldLeavesModel", "leafObject", "[I", true)
  | 10 => ("FieldLeavesModel", "leafField", "[I", true)
  | 11 => ("FieldLeavesModel", "leafValue", "[J", true)
  | 12 => ("FieldLeavesModel", "foundMany", "I", false)
  | 13 => ("FieldLeavesModel", "found", "[I", true)
  | 14 => ("FieldLeavesModel", "newMany", "I", false)
  | 15 => ("FieldLeavesModel", "newObject", "[I", true)
  | 16 => ("FieldLeavesModel", "newField", "[I", true)
  | 17 => ("FieldLeavesModel", "newValue", "[J", true)
  | 18 => ("FieldLeavesModel", "isRoom", "Z", false)
  | 19 => ("FieldLeavesModel", "made", "[I", true)
  | 20 => ("FieldLeavesModel", "oneObject", "[I", true)
  | 21 => ("FieldLeavesModel", "oneField", "[I", true)
  | _ => ("FieldLeavesModel", "oneValue", "[J", true)
def tyX3 : Nat → FieldType := fun k => match k with
  | 0 => .array .int
  | 1 => .array .int
  | 2 => .array .long
  | 3 => .array .int
  | 4 => .array .int
  | 5 => .array .boolean
  | 6 => .array .int
  | 7 => .int
  | 8 => .int
  | 9 => .array .int
  | 10 => .array .int
  | 11 => .array .long
  | 12 => .int
  | 13 => .array .int
  | 14 => .int
  | 15 => .array .int
  | 16 => .array .int
  | 17 => .array .long
  | 18 => .boolean
  | 19 => .array .int
  | 20 => .array .int
  | 21 => .array .int
  | _ => .array .long
abbrev wsX30 : List Cond := u_ws RX3 TX3 23
theorem nmX3 : ∀ a, a < 23 → ∀ b, b < 23 → a ≠ b → (TX3 a).2.1 ≠ (TX3 b).2.1 := by decide +kernel
theorem tyX3_ok : ∀ k, k < 23 → parseFieldDescriptor (TX3 k).2.2.1 = some (tyX3 k) := by decide +kernel
abbrev cX3_init : ByteArray := prog_5_method_1_code
def yX3_init : MethodName := ⟨RX3, "<init>", "()V"⟩
abbrev cX3_in : ByteArray := prog_5_method_2_code
def yX3_in : MethodName := ⟨RX3, "in", "(JJJ)Z"⟩
abbrev cX3_isSlot : ByteArray := prog_5_method_3_code
def yX3_isSlot : MethodName := ⟨RX3, "isSlot", "(I)Z"⟩
abbrev cX3_isLink : ByteArray := prog_5_method_4_code
def yX3_isLink : MethodName := ⟨RX3, "isLink", "(I)Z"⟩
abbrev cX3_has : ByteArray := prog_5_method_5_code
def yX3_has : MethodName := ⟨RX3, "has", "(II)Z"⟩
abbrev cX3_isBelow : ByteArray := prog_5_method_6_code
def yX3_isBelow : MethodName := ⟨RX3, "isBelow", "(II)Z"⟩
abbrev cX3_mayBeIn : ByteArray := prog_5_method_7_code
def yX3_mayBeIn : MethodName := ⟨RX3, "mayBeIn", "(II)Z"⟩
abbrev cX3_lookWhatIsHeld : ByteArray := prog_5_method_8_code
def yX3_lookWhatIsHeld : MethodName := ⟨RX3, "lookWhatIsHeld", "()V"⟩
abbrev cX3_born : ByteArray := prog_5_method_9_code
def yX3_born : MethodName := ⟨RX3, "born", "(II)I"⟩
abbrev cX3_make : ByteArray := prog_5_method_10_code
def yX3_make : MethodName := ⟨RX3, "make", "(III)I"⟩
abbrev cX3_clear : ByteArray := prog_5_method_11_code
def yX3_clear : MethodName := ⟨RX3, "clear", "(I)I"⟩
abbrev cX3_share : ByteArray := prog_5_method_12_code
def yX3_share : MethodName := ⟨RX3, "share", "(II)I"⟩
abbrev cX3_same : ByteArray := prog_5_method_13_code
def yX3_same : MethodName := ⟨RX3, "same", "(II)I"⟩
abbrev cX3_cls : ByteArray := prog_5_method_14_code
def yX3_cls : MethodName := ⟨RX3, "cls", "(I)I"⟩
abbrev cX3_is : ByteArray := prog_5_method_15_code
def yX3_is : MethodName := ⟨RX3, "is", "(II)I"⟩
abbrev cX3_isPlain : ByteArray := prog_5_method_16_code
def yX3_isPlain : MethodName := ⟨RX3, "isPlain", "(I)Z"⟩
abbrev cX3_valueOf : ByteArray := prog_5_method_17_code
def yX3_valueOf : MethodName := ⟨RX3, "valueOf", "(IJ)J"⟩
abbrev cX3_isOther : ByteArray := prog_5_method_18_code
def yX3_isOther : MethodName := ⟨RX3, "isOther", "(II)Z"⟩
abbrev cX3_get : ByteArray := prog_5_method_19_code
def yX3_get : MethodName := ⟨RX3, "get", "(II)J"⟩
abbrev cX3_set : ByteArray := prog_5_method_20_code
def yX3_set : MethodName := ⟨RX3, "set", "(IIJ)I"⟩
abbrev cX3_link : ByteArray := prog_5_method_21_code
def yX3_link : MethodName := ⟨RX3, "link", "(III)I"⟩
abbrev cX3_follow : ByteArray := prog_5_method_22_code
def yX3_follow : MethodName := ⟨RX3, "follow", "(III)I"⟩
abbrev cX3_row : ByteArray := prog_5_method_23_code
def yX3_row : MethodName := ⟨RX3, "row", "(II)I"⟩
abbrev cX3_rowless : ByteArray := prog_5_method_24_code
def yX3_rowless : MethodName := ⟨RX3, "rowless", "(I)I"⟩
abbrev cX3_put : ByteArray := prog_5_method_25_code
def yX3_put : MethodName := ⟨RX3, "put", "(III)I"⟩
abbrev cX3_length : ByteArray := prog_5_method_26_code
def yX3_length : MethodName := ⟨RX3, "length", "(I)I"⟩
abbrev cX3_count : ByteArray := prog_5_method_27_code
def yX3_count : MethodName := ⟨RX3, "count", "(II)J"⟩
abbrev cX3_nameOf : ByteArray := prog_5_method_28_code
def yX3_nameOf : MethodName := ⟨RX3, "nameOf", "(I)I"⟩
abbrev cX3_depthOf : ByteArray := prog_5_method_29_code
def yX3_depthOf : MethodName := ⟨RX3, "depthOf", "(I)I"⟩
abbrev cX3_kindOf : ByteArray := prog_5_method_30_code
def yX3_kindOf : MethodName := ⟨RX3, "kindOf", "(I)I"⟩
abbrev cX3_call : ByteArray := prog_5_method_31_code
def yX3_call : MethodName := ⟨RX3, "call", "(II)I"⟩
abbrev cX3_raise : ByteArray := prog_5_method_32_code
def yX3_raise : MethodName := ⟨RX3, "raise", "(I)I"⟩
abbrev cX3_passes : ByteArray := prog_5_method_33_code
def yX3_passes : MethodName := ⟨RX3, "passes", "(II)I"⟩
abbrev cX3_passed : ByteArray := prog_5_method_34_code
def yX3_passed : MethodName := ⟨RX3, "passed", "()I"⟩
abbrev cX3_tell : ByteArray := prog_5_method_35_code
def yX3_tell : MethodName := ⟨RX3, "tell", "(IIJ)V"⟩
abbrev cX3_numberOf : ByteArray := prog_5_method_36_code
def yX3_numberOf : MethodName := ⟨RX3, "numberOf", "(I)I"⟩
abbrev cX3_find : ByteArray := prog_5_method_37_code
def yX3_find : MethodName := ⟨RX3, "find", "(I)Z"⟩
abbrev cX3_tellObject : ByteArray := prog_5_method_38_code
def yX3_tellObject : MethodName := ⟨RX3, "tellObject", "(II)V"⟩
abbrev cX3_leaves : ByteArray := prog_5_method_39_code
def yX3_leaves : MethodName := ⟨RX3, "leaves", "(I)I"⟩
abbrev cX3_leaf : ByteArray := prog_5_method_40_code
def yX3_leaf : MethodName := ⟨RX3, "leaf", "(II)J"⟩
abbrev cX3_alter : ByteArray := prog_5_method_41_code
def yX3_alter : MethodName := ⟨RX3, "alter", "(IJ)I"⟩
abbrev cX3_told : ByteArray := prog_5_method_42_code
def yX3_told : MethodName := ⟨RX3, "told", "(II)J"⟩
abbrev cX3_back : ByteArray := prog_5_method_43_code
def yX3_back : MethodName := ⟨RX3, "back", "(I)I"⟩
abbrev cX3_equal : ByteArray := prog_5_method_44_code
def yX3_equal : MethodName := ⟨RX3, "equal", "(II)I"⟩
abbrev cX3_isChanged : ByteArray := prog_5_method_45_code
def yX3_isChanged : MethodName := ⟨RX3, "isChanged", "(III)Z"⟩
abbrev cX3_changed : ByteArray := prog_5_method_46_code
def yX3_changed : MethodName := ⟨RX3, "changed", "(III)I"⟩
def RL : String := "FieldLeavesLaw"
abbrev cL_law : ByteArray := code
def yL_law : MethodName := ⟨RL, "law", "([I)Z"⟩
def wsX0_init : List Cond := .code yX0_init cX0_init 1 none :: ([.methodLink RX0 3 objectInit, .instanceMethod objectInit, .code objectInit ⟨#[0xb1]⟩ 1 none, .arrayClass .int, .fieldLink RX0 9 "FieldLeaves$LeafList" "numbers" "[I", .fieldLink RX0 15 "FieldLeaves$LeafList" "fields" "[I", .arrayClass .long, .fieldLink RX0 18 "FieldLeaves$LeafList" "values" "[J"] ++ wsX00)
def wsX0_has : List Cond := .code yX0_has cX0_has 2 (some .boolean) :: ([.fieldLink RX0 22 "FieldLeaves$LeafList" "size" "I"] ++ wsX00)
def wsX0_add : List Cond := .code yX0_add cX0_add 5 (some .boolean) :: ([.fieldLink RX0 22 "FieldLeaves$LeafList" "size" "I", .fieldLink RX0 9 "FieldLeaves$LeafList" "numbers" "[I", .fieldLink RX0 15 "FieldLeaves$LeafList" "fields" "[I", .fieldLink RX0 18 "FieldLeaves$LeafList" "values" "[J"] ++ wsX00)
def wsX0_sameAs : List Cond := .code yX0_sameAs cX0_sameAs 3 (some .boolean) :: ([.fieldLink RX0 22 "FieldLeaves$LeafList" "size" "I", .fieldLink RX0 9 "FieldLeaves$LeafList" "numbers" "[I", .fieldLink RX0 15 "FieldLeaves$LeafList" "fields" "[I", .fieldLink RX0 18 "FieldLeaves$LeafList" "values" "[J"] ++ wsX00)
def wsX2_isFinal : List Cond := .code yX2_isFinal cX2_isFinal 1 (some .boolean) :: ([])
def wsX2_floatAsTold : List Cond := .code yX2_floatAsTold cX2_floatAsTold 1 (some .int) :: ([.constant RX2 171 (2147483647), .constant RX2 172 (2139095040), .constant RX2 173 (2143289344)])
def wsX2_doubleAsTold : List Cond := .code yX2_doubleAsTold cX2_doubleAsTold 2 (some .long) :: ([.constantLong RX2 174 (9223372036854775807), .constantLong RX2 176 (9218868437227405312), .constantLong RX2 178 (9221120237041090560)])
def wsX2_asTold : List Cond := .code yX2_asTold cX2_asTold 3 (some .long) :: ([.fieldLink RX2 161 "FieldLeaves" "FORM" "[I", .methodLink RX2 164 yX2_floatAsTold, .static yX2_floatAsTold, .initialized RX2, .code yX2_floatAsTold cX2_floatAsTold 1 (some .int), .constant RX2 171 (2147483647), .constant RX2 172 (2139095040), .constant RX2 173 (2143289344), .methodLink RX2 167 yX2_doubleAsTold, .static yX2_doubleAsTold, .code yX2_doubleAsTold cX2_doubleAsTold 2 (some .long), .constantLong RX2 174 (9223372036854775807), .constantLong RX2 176 (9218868437227405312), .constantLong RX2 178 (9221120237041090560)])
def wsX0_toldToMaker : List Cond := .code yX0_toldToMaker cX0_toldToMaker 3 (some .int) :: ([.fieldLink RX0 22 "FieldLeaves$LeafList" "size" "I", .fieldLink RX0 15 "FieldLeaves$LeafList" "fields" "[I", .fieldLink RX0 18 "FieldLeaves$LeafList" "values" "[J", .static yX2_isFinal, .initialized RX2, .code yX2_isFinal cX2_isFinal 1 (some .boolean), .static yX2_asTold, .code yX2_asTold cX2_asTold 3 (some .long), .fieldLink RX2 161 "FieldLeaves" "FORM" "[I", .methodLink RX2 164 yX2_floatAsTold, .static yX2_floatAsTold, .code yX2_floatAsTold cX2_floatAsTold 1 (some .int), .constant RX2 171 (2147483647), .constant RX2 172 (2139095040), .constant RX2 173 (2143289344), .methodLink RX2 167 yX2_doubleAsTold, .static yX2_doubleAsTold, .code yX2_doubleAsTold cX2_doubleAsTold 2 (some .long), .constantLong RX2 174 (9223372036854775807), .constantLong RX2 176 (9218868437227405312), .constantLong RX2 178 (9221120237041090560)] ++ wsX00)
def wsX1_init : List Cond := .code yX1_init cX1_init 3 none :: ([.methodLink RX1 3 objectInit, .instanceMethod objectInit, .code objectInit ⟨#[0xb1]⟩ 1 none, .arrayClass .long, .fieldLink RX1 9 "FieldLeaves$Thing" "values" "[J", .fieldLink RX1 15 "FieldLeaves$Thing" "classNumber" "I"] ++ wsX10)
def wsX1_isOf : List Cond := .code yX1_isOf cX1_isOf 2 (some .boolean) :: ([.fieldLink RX1 15 "FieldLeaves$Thing" "classNumber" "I"] ++ wsX10)
def wsX1_held : List Cond := .code yX1_held cX1_held 2 (some (.object "FieldLeaves$Thing")) :: ([.fieldLink RX1 19 "FieldLeaves$Thing" "baseLink" "LFieldLeaves$Thing;", .fieldLink RX1 23 "FieldLeaves$Thing" "middleLink" "LFieldLeaves$Thing;", .fieldLink RX1 26 "FieldLeaves$Thing" "strayBack" "LFieldLeaves$Thing;"] ++ wsX10)
def wsX1_hold : List Cond := .code yX1_hold cX1_hold 3 none :: ([.fieldLink RX1 19 "FieldLeaves$Thing" "baseLink" "LFieldLeaves$Thing;", .fieldLink RX1 23 "FieldLeaves$Thing" "middleLink" "LFieldLeaves$Thing;", .fieldLink RX1 26 "FieldLeaves$Thing" "strayBack" "LFieldLeaves$Thing;"] ++ wsX10)
def wsX1_leadsTo : List Cond := .code yX1_leadsTo cX1_leadsTo 1 (some (.object "FieldLeaves$Thing")) :: ([.fieldLink RX1 15 "FieldLeaves$Thing" "classNumber" "I", .fieldLink RX1 19 "FieldLeaves$Thing" "baseLink" "LFieldLeaves$Thing;", .fieldLink RX1 26 "FieldLeaves$Thing" "strayBack" "LFieldLeaves$Thing;", .fieldLink RX1 23 "FieldLeaves$Thing" "middleLink" "LFieldLeaves$Thing;"] ++ wsX10)
def wsX1_name : List Cond := .code yX1_name cX1_name 2 (some .int) :: ([.fieldLink RX1 9 "FieldLeaves$Thing" "values" "[J", .fieldLink RX1 15 "FieldLeaves$Thing" "classNumber" "I"] ++ wsX10)
def wsX1_secret : List Cond := .code yX1_secret cX1_secret 1 (some .int) :: ([.fieldLink RX1 9 "FieldLeaves$Thing" "values" "[J"] ++ wsX10)
def wsX1_depth : List Cond := .code yX1_depth cX1_depth 3 (some .int) :: ([.methodLink RX1 29 yX1_leadsTo, .instanceMethod yX1_leadsTo, .selects RX1 yX1_leadsTo yX1_leadsTo, .initialized RX1, .code yX1_leadsTo cX1_leadsTo 1 (some (.object "FieldLeaves$Thing")), .fieldLink RX1 15 "FieldLeaves$Thing" "classNumber" "I", .fieldLink RX1 19 "FieldLeaves$Thing" "baseLink" "LFieldLeaves$Thing;", .fieldLink RX1 26 "FieldLeaves$Thing" "strayBack" "LFieldLeaves$Thing;", .fieldLink RX1 23 "FieldLeaves$Thing" "middleLink" "LFieldLeaves$Thing;"] ++ wsX10)
def wsX1_kind : List Cond := .code yX1_kind cX1_kind 5 (some .int) :: ([.fieldLink RX1 15 "FieldLeaves$Thing" "classNumber" "I", .fieldLink RX1 19 "FieldLeaves$Thing" "baseLink" "LFieldLeaves$Thing;"] ++ wsX10)
def wsX2_init : List Cond := .code yX2_init cX2_init 1 none :: ([.methodLink RX2 1 objectInit, .instanceMethod objectInit, .code objectInit ⟨#[0xb1]⟩ 1 none, .classLink RX2 9 RX1, .fieldLink RX2 11 "FieldLeaves" "slots" "[LFieldLeaves$Thing;", .classLink RX2 15 RX0, .instantiable RX0 4, .initialized RX0, .fieldLink RX2 18 "FieldLeaves" "current" "LFieldLeaves$LeafList;", .fieldLink RX2 22 "FieldLeaves" "spare" "LFieldLeaves$LeafList;", .fieldLink RX2 25 "FieldLeaves" "second" "LFieldLeaves$LeafList;", .fieldLink RX2 28 "FieldLeaves" "found" "[LFieldLeaves$Thing;", .fieldLink RX2 31 "FieldLeaves" "made" "[LFieldLeaves$Thing;", .instanceMethod yX0_init, .code yX0_init cX0_init 1 none, .methodLink RX0 3 objectInit, .arrayClass .int, .fieldLink RX0 9 "FieldLeaves$LeafList" "numbers" "[I", .fieldLink RX0 15 "FieldLeaves$LeafList" "fields" "[I", .arrayClass .long, .fieldLink RX0 18 "FieldLeaves$LeafList" "values" "[J"] ++ wsX20 ++ wsX00)
def wsX2_isSlot : List Cond := .code yX2_isSlot cX2_isSlot 1 (some .boolean) :: ([])
def wsX2_makerTakes : List Cond := .code yX2_makerTakes cX2_makerTakes 2 (some .boolean) :: ([])
def wsX2_make : List Cond := .code yX2_make cX2_make 4 (some .int) :: ([.fieldLink RX2 11 "FieldLeaves" "slots" "[LFieldLeaves$Thing;", .classLink RX2 9 RX1, .instantiable RX1 6, .initialized RX1, .methodLink RX2 34 yX2_isSlot, .static yX2_isSlot, .initialized RX2, .code yX2_isSlot cX2_isSlot 1 (some .boolean), .methodLink RX2 38 yX2_makerTakes, .static yX2_makerTakes, .code yX2_makerTakes cX2_makerTakes 2 (some .boolean), .methodLink RX2 42 yX1_init, .instanceMethod yX1_init, .code yX1_init cX1_init 3 none, .methodLink RX1 3 objectInit, .instanceMethod objectInit, .code objectInit ⟨#[0xb1]⟩ 1 none, .arrayClass .long, .fieldLink RX1 9 "FieldLeaves$Thing" "values" "[J", .fieldLink RX1 15 "FieldLeaves$Thing" "classNumber" "I"] ++ wsX20 ++ wsX10)
def wsX2_clear : List Cond := .code yX2_clear cX2_clear 3 (some .int) :: ([.fieldLink RX2 11 "FieldLeaves" "slots" "[LFieldLeaves$Thing;", .methodLink RX2 34 yX2_isSlot, .static yX2_isSlot, .initialized RX2, .code yX2_isSlot cX2_isSlot 1 (some .boolean)] ++ wsX20)
def wsX2_share : List Cond := .code yX2_share cX2_share 3 (some .int) :: ([.fieldLink RX2 11 "FieldLeaves" "slots" "[LFieldLeaves$Thing;", .methodLink RX2 34 yX2_isSlot, .static yX2_isSlot, .initialized RX2, .code yX2_isSlot cX2_isSlot 1 (some .boolean)] ++ wsX20)
def wsX2_same : List Cond := .code yX2_same cX2_same 3 (some .int) :: ([.fieldLink RX2 11 "FieldLeaves" "slots" "[LFieldLeaves$Thing;", .methodLink RX2 34 yX2_isSlot, .static yX2_isSlot, .initialized RX2, .code yX2_isSlot cX2_isSlot 1 (some .boolean)] ++ wsX20)
def wsX2_cls : List Cond := .code yX2_cls cX2_cls 3 (some .int) :: ([.fieldLink RX2 11 "FieldLeaves" "slots" "[LFieldLeaves$Thing;", .fieldLink RX2 45 "FieldLeaves$Thing" "classNumber" "I", .methodLink RX2 34 yX2_isSlot, .static yX2_isSlot, .initialized RX2, .code yX2_isSlot cX2_isSlot 1 (some .boolean)] ++ wsX20 ++ wsX10)
def wsX2_is : List Cond := .code yX2_is cX2_is 4 (some .int) :: ([.fieldLink RX2 11 "FieldLeaves" "slots" "[LFieldLeaves$Thing;", .methodLink RX2 34 yX2_isSlot, .static yX2_isSlot, .initialized RX2, .code yX2_isSlot cX2_isSlot 1 (some .boolean), .methodLink RX2 49 yX1_isOf, .instanceMethod yX1_isOf, .selects RX1 yX1_isOf yX1_isOf, .initialized RX1, .code yX1_isOf cX1_isOf 2 (some .boolean), .fieldLink RX1 15 "FieldLeaves$Thing" "classNumber" "I"] ++ wsX20 ++ wsX10)
def wsX2_isField : List Cond := .code yX2_isField cX2_isField 1 (some .boolean) :: ([])
def wsX2_isValueField : List Cond := .code yX2_isValueField cX2_isValueField 1 (some .boolean) :: ([.fieldLink RX2 161 "FieldLeaves" "FORM" "[I", .methodLink RX2 158 yX2_isField, .static yX2_isField, .initialized RX2, .code yX2_isField cX2_isField 1 (some .boolean)])
def wsX2_failureAs : List Cond := .code yX2_failureAs cX2_failureAs 2 (some .int) :: ([.methodLink RX2 49 yX1_isOf, .instanceMethod yX1_isOf, .selects RX1 yX1_isOf yX1_isOf, .initialized RX1, .code yX1_isOf cX1_isOf 2 (some .boolean), .fieldLink RX1 15 "FieldLeaves$Thing" "classNumber" "I"] ++ wsX10)
def wsX2_get : List Cond := .code yX2_get cX2_get 5 (some .long) :: ([.constantLong RX2 55 (-1), .fieldLink RX2 11 "FieldLeaves" "slots" "[LFieldLeaves$Thing;", .fieldLink RX2 57 "FieldLeaves" "OWNER" "[I", .fieldLink RX2 65 "FieldLeaves$Thing" "values" "[J", .methodLink RX2 34 yX2_isSlot, .static yX2_isSlot, .initialized RX2, .code yX2_isSlot cX2_isSlot 1 (some .boolean), .methodLink RX2 52 yX2_isValueField, .static yX2_isValueField, .code yX2_isValueField cX2_isValueField 1 (some .boolean), .fieldLink RX2 161 "FieldLeaves" "FORM" "[I", .methodLink RX2 158 yX2_isField, .static yX2_isField, .code yX2_isField cX2_isField 1 (some .boolean), .methodLink RX2 61 yX2_failureAs, .static yX2_failureAs, .code yX2_failureAs cX2_failureAs 2 (some .int), .methodLink RX2 49 yX1_isOf, .instanceMethod yX1_isOf, .selects RX1 yX1_isOf yX1_isOf, .initialized RX1, .code yX1_isOf cX1_isOf 2 (some .boolean), .fieldLink RX1 15 "FieldLeaves$Thing" "classNumber" "I"] ++ wsX20 ++ wsX10)
def wsX2_set_r1 : List Cond := [Cond.fieldLink RX2 11 "FieldLeaves" "slots" "[LFieldLeaves$Thing;", Cond.fieldLink RX2 57 "FieldLeaves" "OWNER" "[I", Cond.fieldLink RX2 65 "FieldLeaves$Thing" "values" "[J", Cond.methodLink RX2 34 yX2_isSlot, Cond.static yX2_isSlot, Cond.initialized RX2, Cond.code yX2_isSlot cX2_isSlot 1 (some .boolean), Cond.methodLink RX2 52 yX2_isValueField, Cond.static yX2_isValueField, Cond.code yX2_isValueField cX2_isValueField 1 (some .boolean), Cond.fieldLink RX2 161 "FieldLeaves" "FORM" "[I", Cond.methodLink RX2 158 yX2_isField, Cond.static yX2_isField, Cond.code yX2_isField cX2_isField 1 (some .boolean), Cond.methodLink RX2 61 yX2_failureAs, Cond.static yX2_failureAs, Cond.code yX2_failureAs cX2_failureAs 2 (some .int), Cond.methodLink RX2 49 yX1_isOf, Cond.instanceMethod yX1_isOf, Cond.selects RX1 yX1_isOf yX1_isOf, Cond.initialized RX1, Cond.code yX1_isOf cX1_isOf 2 (some .boolean), Cond.fieldLink RX1 15 "FieldLeaves$Thing" "classNumber" "I", Cond.methodLink RX2 69 yX2_isFinal]
def wsX2_set_r2 : List Cond := [Cond.static yX2_isFinal, Cond.code yX2_isFinal cX2_isFinal 1 (some .boolean), Cond.methodLink RX2 72 yX2_asTold, Cond.static yX2_asTold, Cond.code yX2_asTold cX2_asTold 3 (some .long), Cond.methodLink RX2 164 yX2_floatAsTold, Cond.static yX2_floatAsTold, Cond.code yX2_floatAsTold cX2_floatAsTold 1 (some .int), Cond.constant RX2 171 (2147483647), Cond.constant RX2 172 (2139095040), Cond.constant RX2 173 (2143289344), Cond.methodLink RX2 167 yX2_doubleAsTold, Cond.static yX2_doubleAsTold, Cond.code yX2_doubleAsTold cX2_doubleAsTold 2 (some .long), Cond.constantLong RX2 174 (9223372036854775807), Cond.constantLong RX2 176 (9218868437227405312), Cond.constantLong RX2 178 (9221120237041090560)]
def wsX2_set : List Cond := .code yX2_set cX2_set 7 (some .int) :: ((wsX2_set_r1 ++ wsX2_set_r2) ++ wsX20 ++ wsX10)
def wsX2_isLinkField : List Cond := .code yX2_isLinkField cX2_isLinkField 1 (some .boolean) :: ([.fieldLink RX2 161 "FieldLeaves" "FORM" "[I", .methodLink RX2 158 yX2_isField, .static yX2_isField, .initialized RX2, .code yX2_isField cX2_isField 1 (some .boolean)])
def wsX2_wantedIn : List Cond := .code yX2_wantedIn cX2_wantedIn 1 (some .int) :: ([])
def wsX2_link_r1 : List Cond := [Cond.fieldLink RX2 11 "FieldLeaves" "slots" "[LFieldLeaves$Thing;", Cond.fieldLink RX2 57 "FieldLeaves" "OWNER" "[I", Cond.methodLink RX2 34 yX2_isSlot, Cond.static yX2_isSlot, Cond.initialized RX2, Cond.code yX2_isSlot cX2_isSlot 1 (some .boolean), Cond.methodLink RX2 76 yX2_isLinkField, Cond.static yX2_isLinkField, Cond.code yX2_isLinkField cX2_isLinkField 1 (some .boolean), Cond.fieldLink RX2 161 "FieldLeaves" "FORM" "[I", Cond.methodLink RX2 158 yX2_isField, Cond.static yX2_isField, Cond.code yX2_isField cX2_isField 1 (some .boolean), Cond.methodLink RX2 49 yX1_isOf, Cond.instanceMethod yX1_isOf, Cond.selects RX1 yX1_isOf yX1_isOf, Cond.initialized RX1, Cond.code yX1_isOf cX1_isOf 2 (some .boolean), Cond.fieldLink RX1 15 "FieldLeaves$Thing" "classNumber" "I", Cond.methodLink RX2 79 yX2_wantedIn, Cond.static yX2_wantedIn, Cond.code yX2_wantedIn cX2_wantedIn 1 (some .int), Cond.methodLink RX2 83 yX1_hold, Cond.instanceMethod yX1_hold]
def wsX2_link_r2 : List Cond := [Cond.selects RX1 yX1_hold yX1_hold, Cond.code yX1_hold cX1_hold 3 none, Cond.fieldLink RX1 19 "FieldLeaves$Thing" "baseLink" "LFieldLeaves$Thing;", Cond.fieldLink RX1 23 "FieldLeaves$Thing" "middleLink" "LFieldLeaves$Thing;", Cond.fieldLink RX1 26 "FieldLeaves$Thing" "strayBack" "LFieldLeaves$Thing;"]
def wsX2_link : List Cond := .code yX2_link cX2_link 6 (some .int) :: ((wsX2_link_r1 ++ wsX2_link_r2) ++ wsX20 ++ wsX10)
def wsX2_follow_r1 : List Cond := [Cond.fieldLink RX2 11 "FieldLeaves" "slots" "[LFieldLeaves$Thing;", Cond.fieldLink RX2 57 "FieldLeaves" "OWNER" "[I", Cond.methodLink RX2 34 yX2_isSlot, Cond.static yX2_isSlot, Cond.initialized RX2, Cond.code yX2_isSlot cX2_isSlot 1 (some .boolean), Cond.methodLink RX2 76 yX2_isLinkField, Cond.static yX2_isLinkField, Cond.code yX2_isLinkField cX2_isLinkField 1 (some .boolean), Cond.fieldLink RX2 161 "FieldLeaves" "FORM" "[I", Cond.methodLink RX2 158 yX2_isField, Cond.static yX2_isField, Cond.code yX2_isField cX2_isField 1 (some .boolean), Cond.methodLink RX2 61 yX2_failureAs, Cond.static yX2_failureAs, Cond.code yX2_failureAs cX2_failureAs 2 (some .int), Cond.methodLink RX2 49 yX1_isOf, Cond.instanceMethod yX1_isOf, Cond.selects RX1 yX1_isOf yX1_isOf, Cond.initialized RX1, Cond.code yX1_isOf cX1_isOf 2 (some .boolean), Cond.fieldLink RX1 15 "FieldLeaves$Thing" "classNumber" "I", Cond.methodLink RX2 87 yX1_held, Cond.instanceMethod yX1_held]
def wsX2_follow_r2 : List Cond := [Cond.selects RX1 yX1_held yX1_held, Cond.code yX1_held cX1_held 2 (some (.object "FieldLeaves$Thing")), Cond.fieldLink RX1 19 "FieldLeaves$Thing" "baseLink" "LFieldLeaves$Thing;", Cond.fieldLink RX1 23 "FieldLeaves$Thing" "middleLink" "LFieldLeaves$Thing;", Cond.fieldLink RX1 26 "FieldLeaves$Thing" "strayBack" "LFieldLeaves$Thing;"]
def wsX2_follow : List Cond := .code yX2_follow cX2_follow 6 (some .int) :: ((wsX2_follow_r1 ++ wsX2_follow_r2) ++ wsX20 ++ wsX10)
def wsX2_row : List Cond := .code yX2_row cX2_row 4 (some .int) :: ([.fieldLink RX2 11 "FieldLeaves" "slots" "[LFieldLeaves$Thing;", .arrayClass .int, .fieldLink RX2 91 "FieldLeaves$Thing" "ints" "[I", .methodLink RX2 34 yX2_isSlot, .static yX2_isSlot, .initialized RX2, .code yX2_isSlot cX2_isSlot 1 (some .boolean), .methodLink RX2 49 yX1_isOf, .instanceMethod yX1_isOf, .selects RX1 yX1_isOf yX1_isOf, .initialized RX1, .code yX1_isOf cX1_isOf 2 (some .boolean), .fieldLink RX1 15 "FieldLeaves$Thing" "classNumber" "I"] ++ wsX20 ++ wsX10)
def wsX2_failureOfRow : List Cond := .code yX2_failureOfRow cX2_failureOfRow 2 (some .int) :: ([.fieldLink RX2 91 "FieldLeaves$Thing" "ints" "[I", .methodLink RX2 61 yX2_failureAs, .static yX2_failureAs, .initialized RX2, .code yX2_failureAs cX2_failureAs 2 (some .int), .methodLink RX2 49 yX1_isOf, .instanceMethod yX1_isOf, .selects RX1 yX1_isOf yX1_isOf, .initialized RX1, .code yX1_isOf cX1_isOf 2 (some .boolean), .fieldLink RX1 15 "FieldLeaves$Thing" "classNumber" "I"] ++ wsX10)
def wsX2_put : List Cond := .code yX2_put cX2_put 7 (some .int) :: ([.fieldLink RX2 11 "FieldLeaves" "slots" "[LFieldLeaves$Thing;", .fieldLink RX2 91 "FieldLeaves$Thing" "ints" "[I", .methodLink RX2 34 yX2_isSlot, .static yX2_isSlot, .initialized RX2, .code yX2_isSlot cX2_isSlot 1 (some .boolean), .methodLink RX2 94 yX2_failureOfRow, .static yX2_failureOfRow, .code yX2_failureOfRow cX2_failureOfRow 2 (some .int), .methodLink RX2 61 yX2_failureAs, .static yX2_failureAs, .code yX2_failureAs cX2_failureAs 2 (some .int), .methodLink RX2 49 yX1_isOf, .instanceMethod yX1_isOf, .selects RX1 yX1_isOf yX1_isOf, .initialized RX1, .code yX1_isOf cX1_isOf 2 (some .boolean), .fieldLink RX1 15 "FieldLeaves$Thing" "classNumber" "I"] ++ wsX20 ++ wsX10)
def wsX2_length : List Cond := .code yX2_length cX2_length 4 (some .int) :: ([.fieldLink RX2 11 "FieldLeaves" "slots" "[LFieldLeaves$Thing;", .fieldLink RX2 91 "FieldLeaves$Thing" "ints" "[I", .methodLink RX2 34 yX2_isSlot, .static yX2_isSlot, .initialized RX2, .code yX2_isSlot cX2_isSlot 1 (some .boolean), .methodLink RX2 94 yX2_failureOfRow, .static yX2_failureOfRow, .code yX2_failureOfRow cX2_failureOfRow 2 (some .int), .methodLink RX2 61 yX2_failureAs, .static yX2_failureAs, .code yX2_failureAs cX2_failureAs 2 (some .int), .methodLink RX2 49 yX1_isOf, .instanceMethod yX1_isOf, .selects RX1 yX1_isOf yX1_isOf, .initialized RX1, .code yX1_isOf cX1_isOf 2 (some .boolean), .fieldLink RX1 15 "FieldLeaves$Thing" "classNumber" "I"] ++ wsX20 ++ wsX10)
def wsX2_count : List Cond := .code yX2_count cX2_count 5 (some .long) :: ([.constantLong RX2 55 (-1), .fieldLink RX2 11 "FieldLeaves" "slots" "[LFieldLeaves$Thing;", .fieldLink RX2 65 "FieldLeaves$Thing" "values" "[J", .fieldLink RX2 98 "FieldLeaves" "COUNT_OF" "[I", .methodLink RX2 34 yX2_isSlot, .static yX2_isSlot, .initialized RX2, .code yX2_isSlot cX2_isSlot 1 (some .boolean), .methodLink RX2 61 yX2_failureAs, .static yX2_failureAs, .code yX2_failureAs cX2_failureAs 2 (some .int), .methodLink RX2 49 yX1_isOf, .instanceMethod yX1_isOf, .selects RX1 yX1_isOf yX1_isOf, .initialized RX1, .code yX1_isOf cX1_isOf 2 (some .boolean), .fieldLink RX1 15 "FieldLeaves$Thing" "classNumber" "I"] ++ wsX20 ++ wsX10)
def wsX2_call_r1 : List Cond := [Cond.fieldLink RX2 11 "FieldLeaves" "slots" "[LFieldLeaves$Thing;", Cond.fieldLink RX2 114 "FieldLeaves$Thing" "baseLink" "LFieldLeaves$Thing;", Cond.methodLink RX2 34 yX2_isSlot, Cond.static yX2_isSlot, Cond.initialized RX2, Cond.code yX2_isSlot cX2_isSlot 1 (some .boolean), Cond.methodLink RX2 61 yX2_failureAs, Cond.static yX2_failureAs, Cond.code yX2_failureAs cX2_failureAs 2 (some .int), Cond.methodLink RX2 49 yX1_isOf, Cond.instanceMethod yX1_isOf, Cond.selects RX1 yX1_isOf yX1_isOf, Cond.initialized RX1, Cond.code yX1_isOf cX1_isOf 2 (some .boolean), Cond.fieldLink RX1 15 "FieldLeaves$Thing" "classNumber" "I", Cond.methodLink RX2 101 yX1_name, Cond.instanceMethod yX1_name, Cond.selects RX1 yX1_name yX1_name, Cond.code yX1_name cX1_name 2 (some .int), Cond.fieldLink RX1 9 "FieldLeaves$Thing" "values" "[J", Cond.methodLink RX2 105 yX1_secret, Cond.instanceMethod yX1_secret, Cond.selects RX1 yX1_secret yX1_secret, Cond.code yX1_secret cX1_secret 1 (some .int)]
def wsX2_call_r2 : List Cond := [Cond.methodLink RX2 108 yX1_depth, Cond.instanceMethod yX1_depth, Cond.selects RX1 yX1_depth yX1_depth, Cond.code yX1_depth cX1_depth 3 (some .int), Cond.methodLink RX1 29 yX1_leadsTo, Cond.instanceMethod yX1_leadsTo, Cond.selects RX1 yX1_leadsTo yX1_leadsTo, Cond.code yX1_leadsTo cX1_leadsTo 1 (some (.object "FieldLeaves$Thing")), Cond.fieldLink RX1 19 "FieldLeaves$Thing" "baseLink" "LFieldLeaves$Thing;", Cond.fieldLink RX1 26 "FieldLeaves$Thing" "strayBack" "LFieldLeaves$Thing;", Cond.fieldLink RX1 23 "FieldLeaves$Thing" "middleLink" "LFieldLeaves$Thing;", Cond.methodLink RX2 111 yX1_kind, Cond.instanceMethod yX1_kind, Cond.selects RX1 yX1_kind yX1_kind, Cond.code yX1_kind cX1_kind 5 (some .int)]
def wsX2_call : List Cond := .code yX2_call cX2_call 5 (some .int) :: ((wsX2_call_r1 ++ wsX2_call_r2) ++ wsX20 ++ wsX10)
def wsX2_thrown : List Cond := .code yX2_thrown cX2_thrown 2 (some .int) :: ([.fieldLink RX2 65 "FieldLeaves$Thing" "values" "[J", .methodLink RX2 61 yX2_failureAs, .static yX2_failureAs, .initialized RX2, .code yX2_failureAs cX2_failureAs 2 (some .int), .methodLink RX2 49 yX1_isOf, .instanceMethod yX1_isOf, .selects RX1 yX1_isOf yX1_isOf, .initialized RX1, .code yX1_isOf cX1_isOf 2 (some .boolean), .fieldLink RX1 15 "FieldLeaves$Thing" "classNumber" "I"] ++ wsX10)
def wsX2_raise : List Cond := .code yX2_raise cX2_raise 2 (some .int) :: ([.fieldLink RX2 11 "FieldLeaves" "slots" "[LFieldLeaves$Thing;", .methodLink RX2 34 yX2_isSlot, .static yX2_isSlot, .initialized RX2, .code yX2_isSlot cX2_isSlot 1 (some .boolean), .methodLink RX2 118 yX2_thrown, .static yX2_thrown, .code yX2_thrown cX2_thrown 2 (some .int), .fieldLink RX2 65 "FieldLeaves$Thing" "values" "[J", .methodLink RX2 61 yX2_failureAs, .static yX2_failureAs, .code yX2_failureAs cX2_failureAs 2 (some .int), .methodLink RX2 49 yX1_isOf, .instanceMethod yX1_isOf, .selects RX1 yX1_isOf yX1_isOf, .initialized RX1, .code yX1_isOf cX1_isOf 2 (some .boolean), .fieldLink RX1 15 "FieldLeaves$Thing" "classNumber" "I"] ++ wsX20 ++ wsX10)
def wsX2_passes : List Cond := .code yX2_passes cX2_passes 3 (some .int) :: ([.fieldLink RX2 121 "FieldLeaves" "passedCount" "I", .fieldLink RX2 11 "FieldLeaves" "slots" "[LFieldLeaves$Thing;", .methodLink RX2 34 yX2_isSlot, .static yX2_isSlot, .initialized RX2, .code yX2_isSlot cX2_isSlot 1 (some .boolean), .methodLink RX2 118 yX2_thrown, .static yX2_thrown, .code yX2_thrown cX2_thrown 2 (some .int), .fieldLink RX2 65 "FieldLeaves$Thing" "values" "[J", .methodLink RX2 61 yX2_failureAs, .static yX2_failureAs, .code yX2_failureAs cX2_failureAs 2 (some .int), .methodLink RX2 49 yX1_isOf, .instanceMethod yX1_isOf, .selects RX1 yX1_isOf yX1_isOf, .initialized RX1, .code yX1_isOf cX1_isOf 2 (some .boolean), .fieldLink RX1 15 "FieldLeaves$Thing" "classNumber" "I"] ++ wsX20 ++ wsX10)
def wsX2_passed : List Cond := .code yX2_passed cX2_passed 1 (some .int) :: ([.fieldLink RX2 121 "FieldLeaves" "passedCount" "I"] ++ wsX20)
def wsX2_numberOf : List Cond := .code yX2_numberOf cX2_numberOf 3 (some .int) :: ([.fieldLink RX2 188 "FieldLeaves" "foundCount" "I", .fieldLink RX2 28 "FieldLeaves" "found" "[LFieldLeaves$Thing;"] ++ wsX20)
def wsX2_addFound : List Cond := .code yX2_addFound cX2_addFound 2 (some .boolean) :: ([.fieldLink RX2 188 "FieldLeaves" "foundCount" "I", .fieldLink RX2 28 "FieldLeaves" "found" "[LFieldLeaves$Thing;", .methodLink RX2 204 yX2_numberOf, .instanceMethod yX2_numberOf, .selects RX2 yX2_numberOf yX2_numberOf, .initialized RX2, .code yX2_numberOf cX2_numberOf 3 (some .int)] ++ wsX20)
def wsX2_findFrom : List Cond := .code yX2_findFrom cX2_findFrom 4 (some .boolean) :: ([.fieldLink RX2 28 "FieldLeaves" "found" "[LFieldLeaves$Thing;", .fieldLink RX2 188 "FieldLeaves" "foundCount" "I", .fieldLink RX2 114 "FieldLeaves$Thing" "baseLink" "LFieldLeaves$Thing;", .fieldLink RX2 198 "FieldLeaves$Thing" "middleLink" "LFieldLeaves$Thing;", .fieldLink RX2 201 "FieldLeaves$Thing" "strayBack" "LFieldLeaves$Thing;", .methodLink RX2 195 yX2_addFound, .instanceMethod yX2_addFound, .selects RX2 yX2_addFound yX2_addFound, .initialized RX2, .code yX2_addFound cX2_addFound 2 (some .boolean), .methodLink RX2 204 yX2_numberOf, .instanceMethod yX2_numberOf, .selects RX2 yX2_numberOf yX2_numberOf, .code yX2_numberOf cX2_numberOf 3 (some .int)] ++ wsX20 ++ wsX10)
def wsX2_tellRow : List Cond := .code yX2_tellRow cX2_tellRow 5 (some .boolean) :: ([.methodLink RX2 207 yX0_add, .instanceMethod yX0_add, .selects RX0 yX0_add yX0_add, .initialized RX0, .code yX0_add cX0_add 5 (some .boolean), .fieldLink RX0 22 "FieldLeaves$LeafList" "size" "I", .fieldLink RX0 9 "FieldLeaves$LeafList" "numbers" "[I", .fieldLink RX0 15 "FieldLeaves$LeafList" "fields" "[I", .fieldLink RX0 18 "FieldLeaves$LeafList" "values" "[J"] ++ wsX00)
def wsX2_tellField_r1 : List Cond := [Cond.fieldLink RX2 28 "FieldLeaves" "found" "[LFieldLeaves$Thing;", Cond.fieldLink RX2 161 "FieldLeaves" "FORM" "[I", Cond.fieldLink RX2 91 "FieldLeaves$Thing" "ints" "[I", Cond.fieldLink RX2 65 "FieldLeaves$Thing" "values" "[J", Cond.methodLink RX2 87 yX1_held, Cond.instanceMethod yX1_held, Cond.selects RX1 yX1_held yX1_held, Cond.initialized RX1, Cond.code yX1_held cX1_held 2 (some (.object "FieldLeaves$Thing")), Cond.fieldLink RX1 19 "FieldLeaves$Thing" "baseLink" "LFieldLeaves$Thing;", Cond.fieldLink RX1 23 "FieldLeaves$Thing" "middleLink" "LFieldLeaves$Thing;", Cond.fieldLink RX1 26 "FieldLeaves$Thing" "strayBack" "LFieldLeaves$Thing;", Cond.methodLink RX2 204 yX2_numberOf, Cond.instanceMethod yX2_numberOf, Cond.selects RX2 yX2_numberOf yX2_numberOf, Cond.initialized RX2, Cond.code yX2_numberOf cX2_numberOf 3 (some .int), Cond.fieldLink RX2 188 "FieldLeaves" "foundCount" "I", Cond.methodLink RX2 207 yX0_add, Cond.instanceMethod yX0_add, Cond.selects RX0 yX0_add yX0_add, Cond.initialized RX0, Cond.code yX0_add cX0_add 5 (some .boolean), Cond.fieldLink RX0 22 "FieldLeaves$LeafList" "size" "I"]
def wsX2_tellField_r2 : List Cond := [Cond.fieldLink RX0 9 "FieldLeaves$LeafList" "numbers" "[I", Cond.fieldLink RX0 15 "FieldLeaves$LeafList" "fields" "[I", Cond.fieldLink RX0 18 "FieldLeaves$LeafList" "values" "[J", Cond.methodLink RX2 215 yX2_tellRow, Cond.static yX2_tellRow, Cond.code yX2_tellRow cX2_tellRow 5 (some .boolean)]
def wsX2_tellField : List Cond := .code yX2_tellField cX2_tellField 6 (some .boolean) :: ((wsX2_tellField_r1 ++ wsX2_tellField_r2) ++ wsX20 ++ wsX10 ++ wsX00)
def wsX2_tellObject_r1 : List Cond := [Cond.fieldLink RX2 28 "FieldLeaves" "found" "[LFieldLeaves$Thing;", Cond.fieldLink RX2 45 "FieldLeaves$Thing" "classNumber" "I", Cond.methodLink RX2 207 yX0_add, Cond.instanceMethod yX0_add, Cond.selects RX0 yX0_add yX0_add, Cond.initialized RX0, Cond.code yX0_add cX0_add 5 (some .boolean), Cond.fieldLink RX0 22 "FieldLeaves$LeafList" "size" "I", Cond.fieldLink RX0 9 "FieldLeaves$LeafList" "numbers" "[I", Cond.fieldLink RX0 15 "FieldLeaves$LeafList" "fields" "[I", Cond.fieldLink RX0 18 "FieldLeaves$LeafList" "values" "[J", Cond.methodLink RX2 211 yX2_tellField, Cond.instanceMethod yX2_tellField, Cond.selects RX2 yX2_tellField yX2_tellField, Cond.initialized RX2, Cond.code yX2_tellField cX2_tellField 6 (some .boolean), Cond.fieldLink RX2 161 "FieldLeaves" "FORM" "[I", Cond.fieldLink RX2 91 "FieldLeaves$Thing" "ints" "[I", Cond.fieldLink RX2 65 "FieldLeaves$Thing" "values" "[J", Cond.methodLink RX2 87 yX1_held, Cond.instanceMethod yX1_held, Cond.selects RX1 yX1_held yX1_held, Cond.initialized RX1, Cond.code yX1_held cX1_held 2 (some (.object "FieldLeaves$Thing"))]
def wsX2_tellObject_r2 : List Cond := [Cond.fieldLink RX1 19 "FieldLeaves$Thing" "baseLink" "LFieldLeaves$Thing;", Cond.fieldLink RX1 23 "FieldLeaves$Thing" "middleLink" "LFieldLeaves$Thing;", Cond.fieldLink RX1 26 "FieldLeaves$Thing" "strayBack" "LFieldLeaves$Thing;", Cond.methodLink RX2 204 yX2_numberOf, Cond.instanceMethod yX2_numberOf, Cond.selects RX2 yX2_numberOf yX2_numberOf, Cond.code yX2_numberOf cX2_numberOf 3 (some .int), Cond.fieldLink RX2 188 "FieldLeaves" "foundCount" "I", Cond.methodLink RX2 215 yX2_tellRow, Cond.static yX2_tellRow, Cond.code yX2_tellRow cX2_tellRow 5 (some .boolean)]
def wsX2_tellObject : List Cond := .code yX2_tellObject cX2_tellObject 6 (some .boolean) :: ((wsX2_tellObject_r1 ++ wsX2_tellObject_r2) ++ wsX20 ++ wsX10 ++ wsX00)
def wsX2_tell_r1 : List Cond := [Cond.fieldLink RX2 128 "FieldLeaves$LeafList" "size" "I", Cond.fieldLink RX2 188 "FieldLeaves" "foundCount" "I", Cond.methodLink RX2 184 yX2_findFrom, Cond.instanceMethod yX2_findFrom, Cond.selects RX2 yX2_findFrom yX2_findFrom, Cond.initialized RX2, Cond.code yX2_findFrom cX2_findFrom 4 (some .boolean), Cond.fieldLink RX2 28 "FieldLeaves" "found" "[LFieldLeaves$Thing;", Cond.fieldLink RX2 114 "FieldLeaves$Thing" "baseLink" "LFieldLeaves$Thing;", Cond.fieldLink RX2 198 "FieldLeaves$Thing" "middleLink" "LFieldLeaves$Thing;", Cond.fieldLink RX2 201 "FieldLeaves$Thing" "strayBack" "LFieldLeaves$Thing;", Cond.methodLink RX2 195 yX2_addFound, Cond.instanceMethod yX2_addFound, Cond.selects RX2 yX2_addFound yX2_addFound, Cond.code yX2_addFound cX2_addFound 2 (some .boolean), Cond.methodLink RX2 204 yX2_numberOf, Cond.instanceMethod yX2_numberOf, Cond.selects RX2 yX2_numberOf yX2_numberOf, Cond.code yX2_numberOf cX2_numberOf 3 (some .int), Cond.methodLink RX2 191 yX2_tellObject, Cond.instanceMethod yX2_tellObject, Cond.selects RX2 yX2_tellObject yX2_tellObject, Cond.code yX2_tellObject cX2_tellObject 6 (some .boolean), Cond.fieldLink RX2 45 "FieldLeaves$Thing" "classNumber" "I"]
def wsX2_tell_r2 : List Cond := [Cond.methodLink RX2 207 yX0_add, Cond.instanceMethod yX0_add, Cond.selects RX0 yX0_add yX0_add, Cond.initialized RX0, Cond.code yX0_add cX0_add 5 (some .boolean), Cond.fieldLink RX0 22 "FieldLeaves$LeafList" "size" "I", Cond.fieldLink RX0 9 "FieldLeaves$LeafList" "numbers" "[I", Cond.fieldLink RX0 15 "FieldLeaves$LeafList" "fields" "[I", Cond.fieldLink RX0 18 "FieldLeaves$LeafList" "values" "[J", Cond.methodLink RX2 211 yX2_tellField, Cond.instanceMethod yX2_tellField, Cond.selects RX2 yX2_tellField yX2_tellField, Cond.code yX2_tellField cX2_tellField 6 (some .boolean), Cond.fieldLink RX2 161 "FieldLeaves" "FORM" "[I", Cond.fieldLink RX2 91 "FieldLeaves$Thing" "ints" "[I", Cond.fieldLink RX2 65 "FieldLeaves$Thing" "values" "[J", Cond.methodLink RX2 87 yX1_held, Cond.instanceMethod yX1_held, Cond.selects RX1 yX1_held yX1_held, Cond.initialized RX1, Cond.code yX1_held cX1_held 2 (some (.object "FieldLeaves$Thing")), Cond.fieldLink RX1 19 "FieldLeaves$Thing" "baseLink" "LFieldLeaves$Thing;", Cond.fieldLink RX1 23 "FieldLeaves$Thing" "middleLink" "LFieldLeaves$Thing;", Cond.fieldLink RX1 26 "FieldLeaves$Thing" "strayBack" "LFieldLeaves$Thing;"]
def wsX2_tell_r3 : List Cond := [Cond.methodLink RX2 215 yX2_tellRow, Cond.static yX2_tellRow, Cond.code yX2_tellRow cX2_tellRow 5 (some .boolean)]
def wsX2_tell : List Cond := .code yX2_tell cX2_tell 4 (some .boolean) :: ((wsX2_tell_r1 ++ (wsX2_tell_r2 ++ wsX2_tell_r3)) ++ wsX00 ++ wsX20 ++ wsX10)
def wsX2_leaves_r1 : List Cond := [Cond.fieldLink RX2 11 "FieldLeaves" "slots" "[LFieldLeaves$Thing;", Cond.fieldLink RX2 22 "FieldLeaves" "spare" "LFieldLeaves$LeafList;", Cond.fieldLink RX2 18 "FieldLeaves" "current" "LFieldLeaves$LeafList;", Cond.fieldLink RX2 128 "FieldLeaves$LeafList" "size" "I", Cond.methodLink RX2 34 yX2_isSlot, Cond.static yX2_isSlot, Cond.initialized RX2, Cond.code yX2_isSlot cX2_isSlot 1 (some .boolean), Cond.methodLink RX2 124 yX2_tell, Cond.instanceMethod yX2_tell, Cond.selects RX2 yX2_tell yX2_tell, Cond.code yX2_tell cX2_tell 4 (some .boolean), Cond.fieldLink RX2 188 "FieldLeaves" "foundCount" "I", Cond.methodLink RX2 184 yX2_findFrom, Cond.instanceMethod yX2_findFrom, Cond.selects RX2 yX2_findFrom yX2_findFrom, Cond.code yX2_findFrom cX2_findFrom 4 (some .boolean), Cond.fieldLink RX2 28 "FieldLeaves" "found" "[LFieldLeaves$Thing;", Cond.fieldLink RX2 114 "FieldLeaves$Thing" "baseLink" "LFieldLeaves$Thing;", Cond.fieldLink RX2 198 "FieldLeaves$Thing" "middleLink" "LFieldLeaves$Thing;", Cond.fieldLink RX2 201 "FieldLeaves$Thing" "strayBack" "LFieldLeaves$Thing;", Cond.methodLink RX2 195 yX2_addFound, Cond.instanceMethod yX2_addFound, Cond.selects RX2 yX2_addFound yX2_addFound]
def wsX2_leaves_r2 : List Cond := [Cond.code yX2_addFound cX2_addFound 2 (some .boolean), Cond.methodLink RX2 204 yX2_numberOf, Cond.instanceMethod yX2_numberOf, Cond.selects RX2 yX2_numberOf yX2_numberOf, Cond.code yX2_numberOf cX2_numberOf 3 (some .int), Cond.methodLink RX2 191 yX2_tellObject, Cond.instanceMethod yX2_tellObject, Cond.selects RX2 yX2_tellObject yX2_tellObject, Cond.code yX2_tellObject cX2_tellObject 6 (some .boolean), Cond.fieldLink RX2 45 "FieldLeaves$Thing" "classNumber" "I", Cond.methodLink RX2 207 yX0_add, Cond.instanceMethod yX0_add, Cond.selects RX0 yX0_add yX0_add, Cond.initialized RX0, Cond.code yX0_add cX0_add 5 (some .boolean), Cond.fieldLink RX0 22 "FieldLeaves$LeafList" "size" "I", Cond.fieldLink RX0 9 "FieldLeaves$LeafList" "numbers" "[I", Cond.fieldLink RX0 15 "FieldLeaves$LeafList" "fields" "[I", Cond.fieldLink RX0 18 "FieldLeaves$LeafList" "values" "[J", Cond.methodLink RX2 211 yX2_tellField, Cond.instanceMethod yX2_tellField, Cond.selects RX2 yX2_tellField yX2_tellField, Cond.code yX2_tellField cX2_tellField 6 (some .boolean), Cond.fieldLink RX2 161 "FieldLeaves" "FORM" "[I"]
def wsX2_leaves_r3 : List Cond := [Cond.fieldLink RX2 91 "FieldLeaves$Thing" "ints" "[I", Cond.fieldLink RX2 65 "FieldLeaves$Thing" "values" "[J", Cond.methodLink RX2 87 yX1_held, Cond.instanceMethod yX1_held, Cond.selects RX1 yX1_held yX1_held, Cond.initialized RX1, Cond.code yX1_held cX1_held 2 (some (.object "FieldLeaves$Thing")), Cond.fieldLink RX1 19 "FieldLeaves$Thing" "baseLink" "LFieldLeaves$Thing;", Cond.fieldLink RX1 23 "FieldLeaves$Thing" "middleLink" "LFieldLeaves$Thing;", Cond.fieldLink RX1 26 "FieldLeaves$Thing" "strayBack" "LFieldLeaves$Thing;", Cond.methodLink RX2 215 yX2_tellRow, Cond.static yX2_tellRow, Cond.code yX2_tellRow cX2_tellRow 5 (some .boolean)]
def wsX2_leaves : List Cond := .code yX2_leaves cX2_leaves 4 (some .int) :: ((wsX2_leaves_r1 ++ (wsX2_leaves_r2 ++ wsX2_leaves_r3)) ++ wsX20 ++ wsX00 ++ wsX10)
def wsX2_leaf : List Cond := .code yX2_leaf cX2_leaf 3 (some .long) :: ([.fieldLink RX2 18 "FieldLeaves" "current" "LFieldLeaves$LeafList;", .constantLong RX2 55 (-1), .fieldLink RX2 134 "FieldLeaves$LeafList" "numbers" "[I", .fieldLink RX2 137 "FieldLeaves$LeafList" "fields" "[I", .fieldLink RX2 140 "FieldLeaves$LeafList" "values" "[J", .methodLink RX2 131 yX0_has, .instanceMethod yX0_has, .selects RX0 yX0_has yX0_has, .initialized RX0, .code yX0_has cX0_has 2 (some .boolean), .fieldLink RX0 22 "FieldLeaves$LeafList" "size" "I"] ++ wsX20 ++ wsX00)
def wsX2_alter : List Cond := .code yX2_alter cX2_alter 4 (some .int) :: ([.fieldLink RX2 18 "FieldLeaves" "current" "LFieldLeaves$LeafList;", .fieldLink RX2 137 "FieldLeaves$LeafList" "fields" "[I", .fieldLink RX2 140 "FieldLeaves$LeafList" "values" "[J", .methodLink RX2 131 yX0_has, .instanceMethod yX0_has, .selects RX0 yX0_has yX0_has, .initialized RX0, .code yX0_has cX0_has 2 (some .boolean), .fieldLink RX0 22 "FieldLeaves$LeafList" "size" "I"] ++ wsX20 ++ wsX00)
def wsX2_makeFromLeaves_r1 : List Cond := [Cond.fieldLink RX2 147 "FieldLeaves" "madeCount" "I", Cond.fieldLink RX2 18 "FieldLeaves" "current" "LFieldLeaves$LeafList;", Cond.fieldLink RX2 128 "FieldLeaves$LeafList" "size" "I", Cond.fieldLink RX2 137 "FieldLeaves$LeafList" "fields" "[I", Cond.fieldLink RX2 140 "FieldLeaves$LeafList" "values" "[J", Cond.fieldLink RX2 31 "FieldLeaves" "made" "[LFieldLeaves$Thing;", Cond.classLink RX2 9 RX1, Cond.instantiable RX1 6, Cond.initialized RX1, Cond.methodLink RX2 219 yX0_toldToMaker, Cond.instanceMethod yX0_toldToMaker, Cond.selects RX0 yX0_toldToMaker yX0_toldToMaker, Cond.initialized RX0, Cond.code yX0_toldToMaker cX0_toldToMaker 3 (some .int), Cond.fieldLink RX0 22 "FieldLeaves$LeafList" "size" "I", Cond.fieldLink RX0 15 "FieldLeaves$LeafList" "fields" "[I", Cond.fieldLink RX0 18 "FieldLeaves$LeafList" "values" "[J", Cond.static yX2_isFinal, Cond.initialized RX2, Cond.code yX2_isFinal cX2_isFinal 1 (some .boolean), Cond.static yX2_asTold, Cond.code yX2_asTold cX2_asTold 3 (some .long), Cond.fieldLink RX2 161 "FieldLeaves" "FORM" "[I", Cond.methodLink RX2 164 yX2_floatAsTold]
def wsX2_makeFromLeaves_r2 : List Cond := [Cond.static yX2_floatAsTold, Cond.code yX2_floatAsTold cX2_floatAsTold 1 (some .int), Cond.constant RX2 171 (2147483647), Cond.constant RX2 172 (2139095040), Cond.constant RX2 173 (2143289344), Cond.methodLink RX2 167 yX2_doubleAsTold, Cond.static yX2_doubleAsTold, Cond.code yX2_doubleAsTold cX2_doubleAsTold 2 (some .long), Cond.constantLong RX2 174 (9223372036854775807), Cond.constantLong RX2 176 (9218868437227405312), Cond.constantLong RX2 178 (9221120237041090560), Cond.methodLink RX2 38 yX2_makerTakes, Cond.static yX2_makerTakes, Cond.code yX2_makerTakes cX2_makerTakes 2 (some .boolean), Cond.methodLink RX2 42 yX1_init, Cond.instanceMethod yX1_init, Cond.code yX1_init cX1_init 3 none, Cond.methodLink RX1 3 objectInit, Cond.instanceMethod objectInit, Cond.code objectInit ⟨#[0xb1]⟩ 1 none, Cond.arrayClass .long, Cond.fieldLink RX1 9 "FieldLeaves$Thing" "values" "[J", Cond.fieldLink RX1 15 "FieldLeaves$Thing" "classNumber" "I"]
def wsX2_makeFromLeaves : List Cond := .code yX2_makeFromLeaves cX2_makeFromLeaves 4 (some .int) :: ((wsX2_makeFromLeaves_r1 ++ wsX2_makeFromLeaves_r2) ++ wsX20 ++ wsX00 ++ wsX10)
def wsX2_madeAs : List Cond := .code yX2_madeAs cX2_madeAs 3 (some (.object "FieldLeaves$Thing")) :: ([.fieldLink RX2 147 "FieldLeaves" "madeCount" "I", .fieldLink RX2 31 "FieldLeaves" "made" "[LFieldLeaves$Thing;"] ++ wsX20)
def wsX2_fillLink : List Cond := .code yX2_fillLink cX2_fillLink 6 (some .int) :: ([.methodLink RX2 222 yX2_madeAs, .instanceMethod yX2_madeAs, .selects RX2 yX2_madeAs yX2_madeAs, .initialized RX2, .code yX2_madeAs cX2_madeAs 3 (some (.object "FieldLeaves$Thing")), .fieldLink RX2 147 "FieldLeaves" "madeCount" "I", .fieldLink RX2 31 "FieldLeaves" "made" "[LFieldLeaves$Thing;", .methodLink RX2 79 yX2_wantedIn, .static yX2_wantedIn, .code yX2_wantedIn cX2_wantedIn 1 (some .int), .methodLink RX2 49 yX1_isOf, .instanceMethod yX1_isOf, .selects RX1 yX1_isOf yX1_isOf, .initialized RX1, .code yX1_isOf cX1_isOf 2 (some .boolean), .fieldLink RX1 15 "FieldLeaves$Thing" "classNumber" "I", .methodLink RX2 83 yX1_hold, .instanceMethod yX1_hold, .selects RX1 yX1_hold yX1_hold, .code yX1_hold cX1_hold 3 none, .fieldLink RX1 19 "FieldLeaves$Thing" "baseLink" "LFieldLeaves$Thing;", .fieldLink RX1 23 "FieldLeaves$Thing" "middleLink" "LFieldLeaves$Thing;", .fieldLink RX1 26 "FieldLeaves$Thing" "strayBack" "LFieldLeaves$Thing;"] ++ wsX20 ++ wsX10)
def wsX2_fillPlace : List Cond := .code yX2_fillPlace cX2_fillPlace 3 none :: ([])
def wsX2_fillField_r1 : List Cond := [Cond.constantLong RX2 233 (20), Cond.arrayClass .int, Cond.fieldLink RX2 91 "FieldLeaves$Thing" "ints" "[I", Cond.fieldLink RX2 65 "FieldLeaves$Thing" "values" "[J", Cond.methodLink RX2 76 yX2_isLinkField, Cond.static yX2_isLinkField, Cond.initialized RX2, Cond.code yX2_isLinkField cX2_isLinkField 1 (some .boolean), Cond.fieldLink RX2 161 "FieldLeaves" "FORM" "[I", Cond.methodLink RX2 158 yX2_isField, Cond.static yX2_isField, Cond.code yX2_isField cX2_isField 1 (some .boolean), Cond.methodLink RX2 230 yX2_fillLink, Cond.instanceMethod yX2_fillLink, Cond.selects RX2 yX2_fillLink yX2_fillLink, Cond.code yX2_fillLink cX2_fillLink 6 (some .int), Cond.methodLink RX2 222 yX2_madeAs, Cond.instanceMethod yX2_madeAs, Cond.selects RX2 yX2_madeAs yX2_madeAs, Cond.code yX2_madeAs cX2_madeAs 3 (some (.object "FieldLeaves$Thing")), Cond.fieldLink RX2 147 "FieldLeaves" "madeCount" "I", Cond.fieldLink RX2 31 "FieldLeaves" "made" "[LFieldLeaves$Thing;", Cond.methodLink RX2 79 yX2_wantedIn, Cond.static yX2_wantedIn]
def wsX2_fillField_r2 : List Cond := [Cond.code yX2_wantedIn cX2_wantedIn 1 (some .int), Cond.methodLink RX2 49 yX1_isOf, Cond.instanceMethod yX1_isOf, Cond.selects RX1 yX1_isOf yX1_isOf, Cond.initialized RX1, Cond.code yX1_isOf cX1_isOf 2 (some .boolean), Cond.fieldLink RX1 15 "FieldLeaves$Thing" "classNumber" "I", Cond.methodLink RX2 83 yX1_hold, Cond.instanceMethod yX1_hold, Cond.selects RX1 yX1_hold yX1_hold, Cond.code yX1_hold cX1_hold 3 none, Cond.fieldLink RX1 19 "FieldLeaves$Thing" "baseLink" "LFieldLeaves$Thing;", Cond.fieldLink RX1 23 "FieldLeaves$Thing" "middleLink" "LFieldLeaves$Thing;", Cond.fieldLink RX1 26 "FieldLeaves$Thing" "strayBack" "LFieldLeaves$Thing;", Cond.methodLink RX2 235 yX2_fillPlace, Cond.static yX2_fillPlace, Cond.code yX2_fillPlace cX2_fillPlace 3 none, Cond.methodLink RX2 52 yX2_isValueField, Cond.static yX2_isValueField, Cond.code yX2_isValueField cX2_isValueField 1 (some .boolean), Cond.methodLink RX2 69 yX2_isFinal, Cond.static yX2_isFinal, Cond.code yX2_isFinal cX2_isFinal 1 (some .boolean), Cond.methodLink RX2 72 yX2_asTold]
def wsX2_fillField_r3 : List Cond := [Cond.static yX2_asTold, Cond.code yX2_asTold cX2_asTold 3 (some .long), Cond.methodLink RX2 164 yX2_floatAsTold, Cond.static yX2_floatAsTold, Cond.code yX2_floatAsTold cX2_floatAsTold 1 (some .int), Cond.constant RX2 171 (2147483647), Cond.constant RX2 172 (2139095040), Cond.constant RX2 173 (2143289344), Cond.methodLink RX2 167 yX2_doubleAsTold, Cond.static yX2_doubleAsTold, Cond.code yX2_doubleAsTold cX2_doubleAsTold 2 (some .long), Cond.constantLong RX2 174 (9223372036854775807), Cond.constantLong RX2 176 (9218868437227405312), Cond.constantLong RX2 178 (9221120237041090560)]
def wsX2_fillField : List Cond := .code yX2_fillField cX2_fillField 5 (some .int) :: ((wsX2_fillField_r1 ++ (wsX2_fillField_r2 ++ wsX2_fillField_r3)) ++ wsX10 ++ wsX20)
def wsX2_fillFromLeaves_r1 : List Cond := [Cond.fieldLink RX2 18 "FieldLeaves" "current" "LFieldLeaves$LeafList;", Cond.fieldLink RX2 128 "FieldLeaves$LeafList" "size" "I", Cond.fieldLink RX2 134 "FieldLeaves$LeafList" "numbers" "[I", Cond.fieldLink RX2 137 "FieldLeaves$LeafList" "fields" "[I", Cond.fieldLink RX2 140 "FieldLeaves$LeafList" "values" "[J", Cond.methodLink RX2 222 yX2_madeAs, Cond.instanceMethod yX2_madeAs, Cond.selects RX2 yX2_madeAs yX2_madeAs, Cond.initialized RX2, Cond.code yX2_madeAs cX2_madeAs 3 (some (.object "FieldLeaves$Thing")), Cond.fieldLink RX2 147 "FieldLeaves" "madeCount" "I", Cond.fieldLink RX2 31 "FieldLeaves" "made" "[LFieldLeaves$Thing;", Cond.methodLink RX2 226 yX2_fillField, Cond.instanceMethod yX2_fillField, Cond.selects RX2 yX2_fillField yX2_fillField, Cond.code yX2_fillField cX2_fillField 5 (some .int), Cond.constantLong RX2 233 (20), Cond.arrayClass .int, Cond.fieldLink RX2 91 "FieldLeaves$Thing" "ints" "[I", Cond.fieldLink RX2 65 "FieldLeaves$Thing" "values" "[J", Cond.methodLink RX2 76 yX2_isLinkField, Cond.static yX2_isLinkField, Cond.code yX2_isLinkField cX2_isLinkField 1 (some .boolean), Cond.fieldLink RX2 161 "FieldLeaves" "FORM" "[I"]
def wsX2_fillFromLeaves_r2 : List Cond := [Cond.methodLink RX2 158 yX2_isField, Cond.static yX2_isField, Cond.code yX2_isField cX2_isField 1 (some .boolean), Cond.methodLink RX2 230 yX2_fillLink, Cond.instanceMethod yX2_fillLink, Cond.selects RX2 yX2_fillLink yX2_fillLink, Cond.code yX2_fillLink cX2_fillLink 6 (some .int), Cond.methodLink RX2 79 yX2_wantedIn, Cond.static yX2_wantedIn, Cond.code yX2_wantedIn cX2_wantedIn 1 (some .int), Cond.methodLink RX2 49 yX1_isOf, Cond.instanceMethod yX1_isOf, Cond.selects RX1 yX1_isOf yX1_isOf, Cond.initialized RX1, Cond.code yX1_isOf cX1_isOf 2 (some .boolean), Cond.fieldLink RX1 15 "FieldLeaves$Thing" "classNumber" "I", Cond.methodLink RX2 83 yX1_hold, Cond.instanceMethod yX1_hold, Cond.selects RX1 yX1_hold yX1_hold, Cond.code yX1_hold cX1_hold 3 none, Cond.fieldLink RX1 19 "FieldLeaves$Thing" "baseLink" "LFieldLeaves$Thing;", Cond.fieldLink RX1 23 "FieldLeaves$Thing" "middleLink" "LFieldLeaves$Thing;", Cond.fieldLink RX1 26 "FieldLeaves$Thing" "strayBack" "LFieldLeaves$Thing;", Cond.methodLink RX2 235 yX2_fillPlace]
def wsX2_fillFromLeaves_r3 : List Cond := [Cond.static yX2_fillPlace, Cond.code yX2_fillPlace cX2_fillPlace 3 none, Cond.methodLink RX2 52 yX2_isValueField, Cond.static yX2_isValueField, Cond.code yX2_isValueField cX2_isValueField 1 (some .boolean), Cond.methodLink RX2 69 yX2_isFinal, Cond.static yX2_isFinal, Cond.code yX2_isFinal cX2_isFinal 1 (some .boolean), Cond.methodLink RX2 72 yX2_asTold, Cond.static yX2_asTold, Cond.code yX2_asTold cX2_asTold 3 (some .long), Cond.methodLink RX2 164 yX2_floatAsTold, Cond.static yX2_floatAsTold, Cond.code yX2_floatAsTold cX2_floatAsTold 1 (some .int), Cond.constant RX2 171 (2147483647), Cond.constant RX2 172 (2139095040), Cond.constant RX2 173 (2143289344), Cond.methodLink RX2 167 yX2_doubleAsTold, Cond.static yX2_doubleAsTold, Cond.code yX2_doubleAsTold cX2_doubleAsTold 2 (some .long), Cond.constantLong RX2 174 (9223372036854775807), Cond.constantLong RX2 176 (9218868437227405312), Cond.constantLong RX2 178 (9221120237041090560)]
def wsX2_fillFromLeaves : List Cond := .code yX2_fillFromLeaves cX2_fillFromLeaves 4 (some .int) :: ((wsX2_fillFromLeaves_r1 ++ (wsX2_fillFromLeaves_r2 ++ wsX2_fillFromLeaves_r3)) ++ wsX20 ++ wsX00 ++ wsX10)
def wsX2_back_r1 : List Cond := [Cond.fieldLink RX2 18 "FieldLeaves" "current" "LFieldLeaves$LeafList;", Cond.fieldLink RX2 128 "FieldLeaves$LeafList" "size" "I", Cond.fieldLink RX2 11 "FieldLeaves" "slots" "[LFieldLeaves$Thing;", Cond.fieldLink RX2 31 "FieldLeaves" "made" "[LFieldLeaves$Thing;", Cond.fieldLink RX2 147 "FieldLeaves" "madeCount" "I", Cond.methodLink RX2 34 yX2_isSlot, Cond.static yX2_isSlot, Cond.initialized RX2, Cond.code yX2_isSlot cX2_isSlot 1 (some .boolean), Cond.methodLink RX2 141 yX2_makeFromLeaves, Cond.instanceMethod yX2_makeFromLeaves, Cond.selects RX2 yX2_makeFromLeaves yX2_makeFromLeaves, Cond.code yX2_makeFromLeaves cX2_makeFromLeaves 4 (some .int), Cond.fieldLink RX2 137 "FieldLeaves$LeafList" "fields" "[I", Cond.fieldLink RX2 140 "FieldLeaves$LeafList" "values" "[J", Cond.classLink RX2 9 RX1, Cond.instantiable RX1 6, Cond.initialized RX1, Cond.methodLink RX2 219 yX0_toldToMaker, Cond.instanceMethod yX0_toldToMaker, Cond.selects RX0 yX0_toldToMaker yX0_toldToMaker, Cond.initialized RX0, Cond.code yX0_toldToMaker cX0_toldToMaker 3 (some .int), Cond.fieldLink RX0 22 "FieldLeaves$LeafList" "size" "I"]
def wsX2_back_r2 : List Cond := [Cond.fieldLink RX0 15 "FieldLeaves$LeafList" "fields" "[I", Cond.fieldLink RX0 18 "FieldLeaves$LeafList" "values" "[J", Cond.static yX2_isFinal, Cond.code yX2_isFinal cX2_isFinal 1 (some .boolean), Cond.static yX2_asTold, Cond.code yX2_asTold cX2_asTold 3 (some .long), Cond.fieldLink RX2 161 "FieldLeaves" "FORM" "[I", Cond.methodLink RX2 164 yX2_floatAsTold, Cond.static yX2_floatAsTold, Cond.code yX2_floatAsTold cX2_floatAsTold 1 (some .int), Cond.constant RX2 171 (2147483647), Cond.constant RX2 172 (2139095040), Cond.constant RX2 173 (2143289344), Cond.methodLink RX2 167 yX2_doubleAsTold, Cond.static yX2_doubleAsTold, Cond.code yX2_doubleAsTold cX2_doubleAsTold 2 (some .long), Cond.constantLong RX2 174 (9223372036854775807), Cond.constantLong RX2 176 (9218868437227405312), Cond.constantLong RX2 178 (9221120237041090560), Cond.methodLink RX2 38 yX2_makerTakes, Cond.static yX2_makerTakes, Cond.code yX2_makerTakes cX2_makerTakes 2 (some .boolean), Cond.methodLink RX2 42 yX1_init, Cond.instanceMethod yX1_init]
def wsX2_back_r3 : List Cond := [Cond.code yX1_init cX1_init 3 none, Cond.methodLink RX1 3 objectInit, Cond.instanceMethod objectInit, Cond.code objectInit ⟨#[0xb1]⟩ 1 none, Cond.arrayClass .long, Cond.fieldLink RX1 9 "FieldLeaves$Thing" "values" "[J", Cond.fieldLink RX1 15 "FieldLeaves$Thing" "classNumber" "I", Cond.methodLink RX2 144 yX2_fillFromLeaves, Cond.instanceMethod yX2_fillFromLeaves, Cond.selects RX2 yX2_fillFromLeaves yX2_fillFromLeaves, Cond.code yX2_fillFromLeaves cX2_fillFromLeaves 4 (some .int), Cond.fieldLink RX2 134 "FieldLeaves$LeafList" "numbers" "[I", Cond.methodLink RX2 222 yX2_madeAs, Cond.instanceMethod yX2_madeAs, Cond.selects RX2 yX2_madeAs yX2_madeAs, Cond.code yX2_madeAs cX2_madeAs 3 (some (.object "FieldLeaves$Thing")), Cond.methodLink RX2 226 yX2_fillField, Cond.instanceMethod yX2_fillField, Cond.selects RX2 yX2_fillField yX2_fillField, Cond.code yX2_fillField cX2_fillField 5 (some .int), Cond.constantLong RX2 233 (20), Cond.arrayClass .int, Cond.fieldLink RX2 91 "FieldLeaves$Thing" "ints" "[I", Cond.fieldLink RX2 65 "FieldLeaves$Thing" "values" "[J"]
def wsX2_back_r4 : List Cond := [Cond.methodLink RX2 76 yX2_isLinkField, Cond.static yX2_isLinkField, Cond.code yX2_isLinkField cX2_isLinkField 1 (some .boolean), Cond.methodLink RX2 158 yX2_isField, Cond.static yX2_isField, Cond.code yX2_isField cX2_isField 1 (some .boolean), Cond.methodLink RX2 230 yX2_fillLink, Cond.instanceMethod yX2_fillLink, Cond.selects RX2 yX2_fillLink yX2_fillLink, Cond.code yX2_fillLink cX2_fillLink 6 (some .int), Cond.methodLink RX2 79 yX2_wantedIn, Cond.static yX2_wantedIn, Cond.code yX2_wantedIn cX2_wantedIn 1 (some .int), Cond.methodLink RX2 49 yX1_isOf, Cond.instanceMethod yX1_isOf, Cond.selects RX1 yX1_isOf yX1_isOf, Cond.code yX1_isOf cX1_isOf 2 (some .boolean), Cond.methodLink RX2 83 yX1_hold, Cond.instanceMethod yX1_hold, Cond.selects RX1 yX1_hold yX1_hold, Cond.code yX1_hold cX1_hold 3 none, Cond.fieldLink RX1 19 "FieldLeaves$Thing" "baseLink" "LFieldLeaves$Thing;", Cond.fieldLink RX1 23 "FieldLeaves$Thing" "middleLink" "LFieldLeaves$Thing;", Cond.fieldLink RX1 26 "FieldLeaves$Thing" "strayBack" "LFieldLeaves$Thing;"]
def wsX2_back_r5 : List Cond := [Cond.methodLink RX2 235 yX2_fillPlace, Cond.static yX2_fillPlace, Cond.code yX2_fillPlace cX2_fillPlace 3 none, Cond.methodLink RX2 52 yX2_isValueField, Cond.static yX2_isValueField, Cond.code yX2_isValueField cX2_isValueField 1 (some .boolean), Cond.methodLink RX2 69 yX2_isFinal, Cond.methodLink RX2 72 yX2_asTold]
def wsX2_back : List Cond := .code yX2_back cX2_back 3 (some .int) :: ((wsX2_back_r1 ++ (wsX2_back_r2 ++ (wsX2_back_r3 ++ (wsX2_back_r4 ++ wsX2_back_r5)))) ++ wsX20 ++ wsX00 ++ wsX10)
def wsX2_equal_r1 : List Cond := [Cond.fieldLink RX2 11 "FieldLeaves" "slots" "[LFieldLeaves$Thing;", Cond.fieldLink RX2 22 "FieldLeaves" "spare" "LFieldLeaves$LeafList;", Cond.fieldLink RX2 25 "FieldLeaves" "second" "LFieldLeaves$LeafList;", Cond.methodLink RX2 34 yX2_isSlot, Cond.static yX2_isSlot, Cond.initialized RX2, Cond.code yX2_isSlot cX2_isSlot 1 (some .boolean), Cond.methodLink RX2 124 yX2_tell, Cond.instanceMethod yX2_tell, Cond.selects RX2 yX2_tell yX2_tell, Cond.code yX2_tell cX2_tell 4 (some .boolean), Cond.fieldLink RX2 128 "FieldLeaves$LeafList" "size" "I", Cond.fieldLink RX2 188 "FieldLeaves" "foundCount" "I", Cond.methodLink RX2 184 yX2_findFrom, Cond.instanceMethod yX2_findFrom, Cond.selects RX2 yX2_findFrom yX2_findFrom, Cond.code yX2_findFrom cX2_findFrom 4 (some .boolean), Cond.fieldLink RX2 28 "FieldLeaves" "found" "[LFieldLeaves$Thing;", Cond.fieldLink RX2 114 "FieldLeaves$Thing" "baseLink" "LFieldLeaves$Thing;", Cond.fieldLink RX2 198 "FieldLeaves$Thing" "middleLink" "LFieldLeaves$Thing;", Cond.fieldLink RX2 201 "FieldLeaves$Thing" "strayBack" "LFieldLeaves$Thing;", Cond.methodLink RX2 195 yX2_addFound, Cond.instanceMethod yX2_addFound, Cond.selects RX2 yX2_addFound yX2_addFound]
def wsX2_equal_r2 : List Cond := [Cond.code yX2_addFound cX2_addFound 2 (some .boolean), Cond.methodLink RX2 204 yX2_numberOf, Cond.instanceMethod yX2_numberOf, Cond.selects RX2 yX2_numberOf yX2_numberOf, Cond.code yX2_numberOf cX2_numberOf 3 (some .int), Cond.methodLink RX2 191 yX2_tellObject, Cond.instanceMethod yX2_tellObject, Cond.selects RX2 yX2_tellObject yX2_tellObject, Cond.code yX2_tellObject cX2_tellObject 6 (some .boolean), Cond.fieldLink RX2 45 "FieldLeaves$Thing" "classNumber" "I", Cond.methodLink RX2 207 yX0_add, Cond.instanceMethod yX0_add, Cond.selects RX0 yX0_add yX0_add, Cond.initialized RX0, Cond.code yX0_add cX0_add 5 (some .boolean), Cond.fieldLink RX0 22 "FieldLeaves$LeafList" "size" "I", Cond.fieldLink RX0 9 "FieldLeaves$LeafList" "numbers" "[I", Cond.fieldLink RX0 15 "FieldLeaves$LeafList" "fields" "[I", Cond.fieldLink RX0 18 "FieldLeaves$LeafList" "values" "[J", Cond.methodLink RX2 211 yX2_tellField, Cond.instanceMethod yX2_tellField, Cond.selects RX2 yX2_tellField yX2_tellField, Cond.code yX2_tellField cX2_tellField 6 (some .boolean), Cond.fieldLink RX2 161 "FieldLeaves" "FORM" "[I"]
def wsX2_equal_r3 : List Cond := [Cond.fieldLink RX2 91 "FieldLeaves$Thing" "ints" "[I", Cond.fieldLink RX2 65 "FieldLeaves$Thing" "values" "[J", Cond.methodLink RX2 87 yX1_held, Cond.instanceMethod yX1_held, Cond.selects RX1 yX1_held yX1_held, Cond.initialized RX1, Cond.code yX1_held cX1_held 2 (some (.object "FieldLeaves$Thing")), Cond.fieldLink RX1 19 "FieldLeaves$Thing" "baseLink" "LFieldLeaves$Thing;", Cond.fieldLink RX1 23 "FieldLeaves$Thing" "middleLink" "LFieldLeaves$Thing;", Cond.fieldLink RX1 26 "FieldLeaves$Thing" "strayBack" "LFieldLeaves$Thing;", Cond.methodLink RX2 215 yX2_tellRow, Cond.static yX2_tellRow, Cond.code yX2_tellRow cX2_tellRow 5 (some .boolean), Cond.methodLink RX2 150 yX0_sameAs, Cond.instanceMethod yX0_sameAs, Cond.selects RX0 yX0_sameAs yX0_sameAs, Cond.code yX0_sameAs cX0_sameAs 3 (some .boolean)]
def wsX2_equal : List Cond := .code yX2_equal cX2_equal 5 (some .int) :: ((wsX2_equal_r1 ++ (wsX2_equal_r2 ++ wsX2_equal_r3)) ++ wsX20 ++ wsX00 ++ wsX10)
def wsX2_differInInts : List Cond := .code yX2_differInInts cX2_differInInts 3 (some .boolean) :: ([])
def wsX2_differ : List Cond := .code yX2_differ cX2_differ 3 (some .boolean) :: ([.fieldLink RX2 161 "FieldLeaves" "FORM" "[I", .fieldLink RX2 91 "FieldLeaves$Thing" "ints" "[I", .fieldLink RX2 65 "FieldLeaves$Thing" "values" "[J", .methodLink RX2 87 yX1_held, .instanceMethod yX1_held, .selects RX1 yX1_held yX1_held, .initialized RX1, .code yX1_held cX1_held 2 (some (.object "FieldLeaves$Thing")), .fieldLink RX1 19 "FieldLeaves$Thing" "baseLink" "LFieldLeaves$Thing;", .fieldLink RX1 23 "FieldLeaves$Thing" "middleLink" "LFieldLeaves$Thing;", .fieldLink RX1 26 "FieldLeaves$Thing" "strayBack" "LFieldLeaves$Thing;", .methodLink RX2 180 yX2_differInInts, .static yX2_differInInts, .initialized RX2, .code yX2_differInInts cX2_differInInts 3 (some .boolean)] ++ wsX10)
def wsX2_changed : List Cond := .code yX2_changed cX2_changed 8 (some .int) :: ([.fieldLink RX2 11 "FieldLeaves" "slots" "[LFieldLeaves$Thing;", .fieldLink RX2 45 "FieldLeaves$Thing" "classNumber" "I", .methodLink RX2 34 yX2_isSlot, .static yX2_isSlot, .initialized RX2, .code yX2_isSlot cX2_isSlot 1 (some .boolean), .methodLink RX2 154 yX2_differ, .static yX2_differ, .code yX2_differ cX2_differ 3 (some .boolean), .fieldLink RX2 161 "FieldLeaves" "FORM" "[I", .fieldLink RX2 91 "FieldLeaves$Thing" "ints" "[I", .fieldLink RX2 65 "FieldLeaves$Thing" "values" "[J", .methodLink RX2 87 yX1_held, .instanceMethod yX1_held, .selects RX1 yX1_held yX1_held, .initialized RX1, .code yX1_held cX1_held 2 (some (.object "FieldLeaves$Thing")), .fieldLink RX1 19 "FieldLeaves$Thing" "baseLink" "LFieldLeaves$Thing;", .fieldLink RX1 23 "FieldLeaves$Thing" "middleLink" "LFieldLeaves$Thing;", .fieldLink RX1 26 "FieldLeaves$Thing" "strayBack" "LFieldLeaves$Thing;", .methodLink RX2 180 yX2_differInInts, .static yX2_differInInts, .code yX2_differInInts cX2_differInInts 3 (some .boolean)] ++ wsX20 ++ wsX10)
def wsX3_init_r1 : List Cond := [Cond.methodLink RX3 1 objectInit, Cond.instanceMethod objectInit, Cond.code objectInit ⟨#[0xb1]⟩ 1 none, Cond.arrayClass .int, Cond.fieldLink RX3 7 "FieldLeavesModel" "slot" "[I", Cond.fieldLink RX3 13 "FieldLeavesModel" "classOf" "[I", Cond.constant RX3 16 (108800), Cond.arrayClass .long, Cond.fieldLink RX3 17 "FieldLeavesModel" "field" "[J", Cond.fieldLink RX3 21 "FieldLeavesModel" "rowSize" "[I", Cond.constant RX3 24 (128000), Cond.fieldLink RX3 25 "FieldLeavesModel" "rows" "[I", Cond.arrayClass .boolean, Cond.fieldLink RX3 28 "FieldLeavesModel" "isHeld" "[Z", Cond.fieldLink RX3 32 "FieldLeavesModel" "pile" "[I", Cond.fieldLink RX3 35 "FieldLeavesModel" "leafObject" "[I", Cond.fieldLink RX3 38 "FieldLeavesModel" "leafField" "[I", Cond.fieldLink RX3 41 "FieldLeavesModel" "leafValue" "[J", Cond.fieldLink RX3 44 "FieldLeavesModel" "found" "[I", Cond.fieldLink RX3 47 "FieldLeavesModel" "newObject" "[I", Cond.fieldLink RX3 50 "FieldLeavesModel" "newField" "[I", Cond.fieldLink RX3 53 "FieldLeavesModel" "newValue" "[J", Cond.fieldLink RX3 56 "FieldLeavesModel" "made" "[I", Cond.fieldLink RX3 59 "FieldLeavesModel" "oneObject" "[I"]
def wsX3_init_r2 : List Cond := [Cond.fieldLink RX3 62 "FieldLeavesModel" "oneField" "[I", Cond.fieldLink RX3 65 "FieldLeavesModel" "oneValue" "[J"]
def wsX3_init : List Cond := .code yX3_init cX3_init 2 none :: ((wsX3_init_r1 ++ wsX3_init_r2) ++ wsX30)
def wsX3_in : List Cond := .code yX3_in cX3_in 6 (some .boolean) :: ([])
def wsX3_isSlot : List Cond := .code yX3_isSlot cX3_isSlot 1 (some .boolean) :: ([.constantLong RX3 68 (11), .methodLink RX3 70 yX3_in, .static yX3_in, .initialized RX3, .code yX3_in cX3_in 6 (some .boolean)])
def wsX3_isLink : List Cond := .code yX3_isLink cX3_isLink 1 (some .boolean) :: ([])
def wsX3_has : List Cond := .code yX3_has cX3_has 2 (some .boolean) :: ([])
def wsX3_isBelow : List Cond := .code yX3_isBelow cX3_isBelow 2 (some .boolean) :: ([])
def wsX3_mayBeIn : List Cond := .code yX3_mayBeIn cX3_mayBeIn 2 (some .boolean) :: ([])
def wsX3_lookWhatIsHeld : List Cond := .code yX3_lookWhatIsHeld cX3_lookWhatIsHeld 5 none :: ([.fieldLink RX3 28 "FieldLeavesModel" "isHeld" "[Z", .fieldLink RX3 7 "FieldLeavesModel" "slot" "[I", .fieldLink RX3 32 "FieldLeavesModel" "pile" "[I", .fieldLink RX3 13 "FieldLeavesModel" "classOf" "[I", .fieldLink RX3 17 "FieldLeavesModel" "field" "[J", .methodLink RX3 74 yX3_isLink, .static yX3_isLink, .initialized RX3, .code yX3_isLink cX3_isLink 1 (some .boolean), .methodLink RX3 78 yX3_has, .static yX3_has, .code yX3_has cX3_has 2 (some .boolean)] ++ wsX30)
def wsX3_born : List Cond := .code yX3_born cX3_born 5 (some .int) :: ([.fieldLink RX3 28 "FieldLeavesModel" "isHeld" "[Z", .fieldLink RX3 13 "FieldLeavesModel" "classOf" "[I", .fieldLink RX3 17 "FieldLeavesModel" "field" "[J", .constantLong RX3 82 (-1), .fieldLink RX3 21 "FieldLeavesModel" "rowSize" "[I", .methodLink RX3 74 yX3_isLink, .static yX3_isLink, .initialized RX3, .code yX3_isLink cX3_isLink 1 (some .boolean)] ++ wsX30)
def wsX3_make_r1 : List Cond := [Cond.constantLong RX3 87 (4), Cond.constantLong RX3 89 (1000), Cond.fieldLink RX3 7 "FieldLeavesModel" "slot" "[I", Cond.methodLink RX3 84 yX3_isSlot, Cond.static yX3_isSlot, Cond.initialized RX3, Cond.code yX3_isSlot cX3_isSlot 1 (some .boolean), Cond.constantLong RX3 68 (11), Cond.methodLink RX3 70 yX3_in, Cond.static yX3_in, Cond.code yX3_in cX3_in 6 (some .boolean), Cond.methodLink RX3 91 yX3_lookWhatIsHeld, Cond.instanceMethod yX3_lookWhatIsHeld, Cond.selects RX3 yX3_lookWhatIsHeld yX3_lookWhatIsHeld, Cond.code yX3_lookWhatIsHeld cX3_lookWhatIsHeld 5 none, Cond.fieldLink RX3 28 "FieldLeavesModel" "isHeld" "[Z", Cond.fieldLink RX3 32 "FieldLeavesModel" "pile" "[I", Cond.fieldLink RX3 13 "FieldLeavesModel" "classOf" "[I", Cond.fieldLink RX3 17 "FieldLeavesModel" "field" "[J", Cond.methodLink RX3 74 yX3_isLink, Cond.static yX3_isLink, Cond.code yX3_isLink cX3_isLink 1 (some .boolean), Cond.methodLink RX3 78 yX3_has, Cond.static yX3_has]
def wsX3_make_r2 : List Cond := [Cond.code yX3_has cX3_has 2 (some .boolean), Cond.methodLink RX3 94 yX3_born, Cond.instanceMethod yX3_born, Cond.selects RX3 yX3_born yX3_born, Cond.code yX3_born cX3_born 5 (some .int), Cond.constantLong RX3 82 (-1), Cond.fieldLink RX3 21 "FieldLeavesModel" "rowSize" "[I"]
def wsX3_make : List Cond := .code yX3_make cX3_make 4 (some .int) :: ((wsX3_make_r1 ++ wsX3_make_r2) ++ wsX30)
def wsX3_clear : List Cond := .code yX3_clear cX3_clear 3 (some .int) :: ([.fieldLink RX3 7 "FieldLeavesModel" "slot" "[I", .methodLink RX3 84 yX3_isSlot, .static yX3_isSlot, .initialized RX3, .code yX3_isSlot cX3_isSlot 1 (some .boolean), .constantLong RX3 68 (11), .methodLink RX3 70 yX3_in, .static yX3_in, .code yX3_in cX3_in 6 (some .boolean)] ++ wsX30)
def wsX3_share : List Cond := .code yX3_share cX3_share 3 (some .int) :: ([.fieldLink RX3 7 "FieldLeavesModel" "slot" "[I", .methodLink RX3 84 yX3_isSlot, .static yX3_isSlot, .initialized RX3, .code yX3_isSlot cX3_isSlot 1 (some .boolean), .constantLong RX3 68 (11), .methodLink RX3 70 yX3_in, .static yX3_in, .code yX3_in cX3_in 6 (some .boolean)] ++ wsX30)
def wsX3_same : List Cond := .code yX3_same cX3_same 3 (some .int) :: ([.fieldLink RX3 7 "FieldLeavesModel" "slot" "[I", .methodLink RX3 84 yX3_isSlot, .static yX3_isSlot, .initialized RX3, .code yX3_isSlot cX3_isSlot 1 (some .boolean), .constantLong RX3 68 (11), .methodLink RX3 70 yX3_in, .static yX3_in, .code yX3_in cX3_in 6 (some .boolean)] ++ wsX30)
def wsX3_cls : List Cond := .code yX3_cls cX3_cls 2 (some .int) :: ([.fieldLink RX3 7 "FieldLeavesModel" "slot" "[I", .fieldLink RX3 13 "FieldLeavesModel" "classOf" "[I", .methodLink RX3 84 yX3_isSlot, .static yX3_isSlot, .initialized RX3, .code yX3_isSlot cX3_isSlot 1 (some .boolean), .constantLong RX3 68 (11), .methodLink RX3 70 yX3_in, .static yX3_in, .code yX3_in cX3_in 6 (some .boolean)] ++ wsX30)
def wsX3_is : List Cond := .code yX3_is cX3_is 3 (some .int) :: ([.constantLong RX3 98 (5), .fieldLink RX3 7 "FieldLeavesModel" "slot" "[I", .fieldLink RX3 13 "FieldLeavesModel" "classOf" "[I", .methodLink RX3 84 yX3_isSlot, .static yX3_isSlot, .initialized RX3, .code yX3_isSlot cX3_isSlot 1 (some .boolean), .constantLong RX3 68 (11), .methodLink RX3 70 yX3_in, .static yX3_in, .code yX3_in cX3_in 6 (some .boolean), .methodLink RX3 100 yX3_isBelow, .static yX3_isBelow, .code yX3_isBelow cX3_isBelow 2 (some .boolean)] ++ wsX30)
def wsX3_isPlain : List Cond := .code yX3_isPlain cX3_isPlain 1 (some .boolean) :: ([.constantLong RX3 103 (7), .constantLong RX3 105 (12), .constantLong RX3 107 (14), .methodLink RX3 70 yX3_in, .static yX3_in, .initialized RX3, .code yX3_in cX3_in 6 (some .boolean)])
def wsX3_valueOf : List Cond := .code yX3_valueOf cX3_valueOf 3 (some .long) :: ([.constantLong RX3 109 (65535), .constant RX3 111 (2147483647), .constant RX3 112 (2139095040), .constantLong RX3 113 (2143289344), .constantLong RX3 115 (9223372036854775807), .constantLong RX3 117 (9218868437227405312), .constantLong RX3 119 (9221120237041090560)])
def wsX3_isOther : List Cond := .code yX3_isOther cX3_isOther 3 (some .boolean) :: ([.fieldLink RX3 7 "FieldLeavesModel" "slot" "[I", .fieldLink RX3 13 "FieldLeavesModel" "classOf" "[I", .methodLink RX3 78 yX3_has, .static yX3_has, .initialized RX3, .code yX3_has cX3_has 2 (some .boolean)] ++ wsX30)
def wsX3_get_r1 : List Cond := [Cond.constantLong RX3 82 (-1), Cond.fieldLink RX3 7 "FieldLeavesModel" "slot" "[I", Cond.constantLong RX3 124 (-11), Cond.constantLong RX3 129 (-14), Cond.fieldLink RX3 17 "FieldLeavesModel" "field" "[J", Cond.methodLink RX3 84 yX3_isSlot, Cond.static yX3_isSlot, Cond.initialized RX3, Cond.code yX3_isSlot cX3_isSlot 1 (some .boolean), Cond.constantLong RX3 68 (11), Cond.methodLink RX3 70 yX3_in, Cond.static yX3_in, Cond.code yX3_in cX3_in 6 (some .boolean), Cond.methodLink RX3 121 yX3_isPlain, Cond.static yX3_isPlain, Cond.code yX3_isPlain cX3_isPlain 1 (some .boolean), Cond.constantLong RX3 103 (7), Cond.constantLong RX3 105 (12), Cond.constantLong RX3 107 (14), Cond.methodLink RX3 126 yX3_isOther, Cond.instanceMethod yX3_isOther, Cond.selects RX3 yX3_isOther yX3_isOther, Cond.code yX3_isOther cX3_isOther 3 (some .boolean), Cond.fieldLink RX3 13 "FieldLeavesModel" "classOf" "[I"]
def wsX3_get_r2 : List Cond := [Cond.methodLink RX3 78 yX3_has, Cond.static yX3_has, Cond.code yX3_has cX3_has 2 (some .boolean)]
def wsX3_get : List Cond := .code yX3_get cX3_get 3 (some .long) :: ((wsX3_get_r1 ++ wsX3_get_r2) ++ wsX30)
def wsX3_set_r1 : List Cond := [Cond.fieldLink RX3 7 "FieldLeavesModel" "slot" "[I", Cond.fieldLink RX3 17 "FieldLeavesModel" "field" "[J", Cond.methodLink RX3 84 yX3_isSlot, Cond.static yX3_isSlot, Cond.initialized RX3, Cond.code yX3_isSlot cX3_isSlot 1 (some .boolean), Cond.constantLong RX3 68 (11), Cond.methodLink RX3 70 yX3_in, Cond.static yX3_in, Cond.code yX3_in cX3_in 6 (some .boolean), Cond.methodLink RX3 121 yX3_isPlain, Cond.static yX3_isPlain, Cond.code yX3_isPlain cX3_isPlain 1 (some .boolean), Cond.constantLong RX3 103 (7), Cond.constantLong RX3 105 (12), Cond.constantLong RX3 107 (14), Cond.methodLink RX3 126 yX3_isOther, Cond.instanceMethod yX3_isOther, Cond.selects RX3 yX3_isOther yX3_isOther, Cond.code yX3_isOther cX3_isOther 3 (some .boolean), Cond.fieldLink RX3 13 "FieldLeavesModel" "classOf" "[I", Cond.methodLink RX3 78 yX3_has, Cond.static yX3_has, Cond.code yX3_has cX3_has 2 (some .boolean)]
def wsX3_set_r2 : List Cond := [Cond.methodLink RX3 131 yX3_valueOf, Cond.static yX3_valueOf, Cond.code yX3_valueOf cX3_valueOf 3 (some .long), Cond.constantLong RX3 109 (65535), Cond.constant RX3 111 (2147483647), Cond.constant RX3 112 (2139095040), Cond.constantLong RX3 113 (2143289344), Cond.constantLong RX3 115 (9223372036854775807), Cond.constantLong RX3 117 (9218868437227405312), Cond.constantLong RX3 119 (9221120237041090560)]
def wsX3_set : List Cond := .code yX3_set cX3_set 5 (some .int) :: ((wsX3_set_r1 ++ wsX3_set_r2) ++ wsX30)
def wsX3_link : List Cond := .code yX3_link cX3_link 4 (some .int) :: ([.fieldLink RX3 7 "FieldLeavesModel" "slot" "[I", .fieldLink RX3 13 "FieldLeavesModel" "classOf" "[I", .fieldLink RX3 17 "FieldLeavesModel" "field" "[J", .methodLink RX3 84 yX3_isSlot, .static yX3_isSlot, .initialized RX3, .code yX3_isSlot cX3_isSlot 1 (some .boolean), .constantLong RX3 68 (11), .methodLink RX3 70 yX3_in, .static yX3_in, .code yX3_in cX3_in 6 (some .boolean), .methodLink RX3 74 yX3_isLink, .static yX3_isLink, .code yX3_isLink cX3_isLink 1 (some .boolean), .methodLink RX3 126 yX3_isOther, .instanceMethod yX3_isOther, .selects RX3 yX3_isOther yX3_isOther, .code yX3_isOther cX3_isOther 3 (some .boolean), .methodLink RX3 78 yX3_has, .static yX3_has, .code yX3_has cX3_has 2 (some .boolean), .methodLink RX3 135 yX3_mayBeIn, .static yX3_mayBeIn, .code yX3_mayBeIn cX3_mayBeIn 2 (some .boolean)] ++ wsX30)
def wsX3_follow : List Cond := .code yX3_follow cX3_follow 4 (some .int) :: ([.fieldLink RX3 7 "FieldLeavesModel" "slot" "[I", .fieldLink RX3 17 "FieldLeavesModel" "field" "[J", .methodLink RX3 84 yX3_isSlot, .static yX3_isSlot, .initialized RX3, .code yX3_isSlot cX3_isSlot 1 (some .boolean), .constantLong RX3 68 (11), .methodLink RX3 70 yX3_in, .static yX3_in, .code yX3_in cX3_in 6 (some .boolean), .methodLink RX3 74 yX3_isLink, .static yX3_isLink, .code yX3_isLink cX3_isLink 1 (some .boolean), .methodLink RX3 126 yX3_isOther, .instanceMethod yX3_isOther, .selects RX3 yX3_isOther yX3_isOther, .code yX3_isOther cX3_isOther 3 (some .boolean), .fieldLink RX3 13 "FieldLeavesModel" "classOf" "[I", .methodLink RX3 78 yX3_has, .static yX3_has, .code yX3_has cX3_has 2 (some .boolean)] ++ wsX30)
def wsX3_row : List Cond := .code yX3_row cX3_row 4 (some .int) :: ([.fieldLink RX3 7 "FieldLeavesModel" "slot" "[I", .fieldLink RX3 21 "FieldLeavesModel" "rowSize" "[I", .fieldLink RX3 25 "FieldLeavesModel" "rows" "[I", .methodLink RX3 84 yX3_isSlot, .static yX3_isSlot, .initialized RX3, .code yX3_isSlot cX3_isSlot 1 (some .boolean), .constantLong RX3 68 (11), .methodLink RX3 70 yX3_in, .static yX3_in, .code yX3_in cX3_in 6 (some .boolean), .methodLink RX3 126 yX3_isOther, .instanceMethod yX3_isOther, .selects RX3 yX3_isOther yX3_isOther, .code yX3_isOther cX3_isOther 3 (some .boolean), .fieldLink RX3 13 "FieldLeavesModel" "classOf" "[I", .methodLink RX3 78 yX3_has, .static yX3_has, .code yX3_has cX3_has 2 (some .boolean)] ++ wsX30)
def wsX3_rowless : List Cond := .code yX3_rowless cX3_rowless 2 (some .int) :: ([.fieldLink RX3 7 "FieldLeavesModel" "slot" "[I", .fieldLink RX3 21 "FieldLeavesModel" "rowSize" "[I", .methodLink RX3 126 yX3_isOther, .instanceMethod yX3_isOther, .selects RX3 yX3_isOther yX3_isOther, .initialized RX3, .code yX3_isOther cX3_isOther 3 (some .boolean), .fieldLink RX3 13 "FieldLeavesModel" "classOf" "[I", .methodLink RX3 78 yX3_has, .static yX3_has, .code yX3_has cX3_has 2 (some .boolean)] ++ wsX30)
def wsX3_put : List Cond := .code yX3_put cX3_put 6 (some .int) :: ([.fieldLink RX3 21 "FieldLeavesModel" "rowSize" "[I", .fieldLink RX3 7 "FieldLeavesModel" "slot" "[I", .fieldLink RX3 25 "FieldLeavesModel" "rows" "[I", .methodLink RX3 84 yX3_isSlot, .static yX3_isSlot, .initialized RX3, .code yX3_isSlot cX3_isSlot 1 (some .boolean), .constantLong RX3 68 (11), .methodLink RX3 70 yX3_in, .static yX3_in, .code yX3_in cX3_in 6 (some .boolean), .methodLink RX3 138 yX3_rowless, .instanceMethod yX3_rowless, .selects RX3 yX3_rowless yX3_rowless, .code yX3_rowless cX3_rowless 2 (some .int), .methodLink RX3 126 yX3_isOther, .instanceMethod yX3_isOther, .selects RX3 yX3_isOther yX3_isOther, .code yX3_isOther cX3_isOther 3 (some .boolean), .fieldLink RX3 13 "FieldLeavesModel" "classOf" "[I", .methodLink RX3 78 yX3_has, .static yX3_has, .code yX3_has cX3_has 2 (some .boolean)] ++ wsX30)
def wsX3_length : List Cond := .code yX3_length cX3_length 3 (some .int) :: ([.fieldLink RX3 21 "FieldLeavesModel" "rowSize" "[I", .fieldLink RX3 7 "FieldLeavesModel" "slot" "[I", .methodLink RX3 84 yX3_isSlot, .static yX3_isSlot, .initialized RX3, .code yX3_isSlot cX3_isSlot 1 (some .boolean), .constantLong RX3 68 (11), .methodLink RX3 70 yX3_in, .static yX3_in, .code yX3_in cX3_in 6 (some .boolean), .methodLink RX3 138 yX3_rowless, .instanceMethod yX3_rowless, .selects RX3 yX3_rowless yX3_rowless, .code yX3_rowless cX3_rowless 2 (some .int), .methodLink RX3 126 yX3_isOther, .instanceMethod yX3_isOther, .selects RX3 yX3_isOther yX3_isOther, .code yX3_isOther cX3_isOther 3 (some .boolean), .fieldLink RX3 13 "FieldLeavesModel" "classOf" "[I", .methodLink RX3 78 yX3_has, .static yX3_has, .code yX3_has cX3_has 2 (some .boolean)] ++ wsX30)
def wsX3_count : List Cond := .code yX3_count cX3_count 3 (some .long) :: ([.constantLong RX3 142 (2), .constantLong RX3 82 (-1), .fieldLink RX3 7 "FieldLeavesModel" "slot" "[I", .constantLong RX3 124 (-11), .fieldLink RX3 13 "FieldLeavesModel" "classOf" "[I", .fieldLink RX3 17 "FieldLeavesModel" "field" "[J", .constantLong RX3 129 (-14), .methodLink RX3 84 yX3_isSlot, .static yX3_isSlot, .initialized RX3, .code yX3_isSlot cX3_isSlot 1 (some .boolean), .constantLong RX3 68 (11), .methodLink RX3 70 yX3_in, .static yX3_in, .code yX3_in cX3_in 6 (some .boolean), .methodLink RX3 100 yX3_isBelow, .static yX3_isBelow, .code yX3_isBelow cX3_isBelow 2 (some .boolean)] ++ wsX30)
def wsX3_nameOf : List Cond := .code yX3_nameOf cX3_nameOf 4 (some .int) :: ([.fieldLink RX3 17 "FieldLeavesModel" "field" "[J", .fieldLink RX3 13 "FieldLeavesModel" "classOf" "[I"] ++ wsX30)
def wsX3_depthOf : List Cond := .code yX3_depthOf cX3_depthOf 5 (some .int) :: ([.fieldLink RX3 13 "FieldLeavesModel" "classOf" "[I", .fieldLink RX3 17 "FieldLeavesModel" "field" "[J"] ++ wsX30)
def wsX3_kindOf : List Cond := .code yX3_kindOf cX3_kindOf 6 (some .int) :: ([.fieldLink RX3 13 "FieldLeavesModel" "classOf" "[I", .fieldLink RX3 17 "FieldLeavesModel" "field" "[J"] ++ wsX30)
def wsX3_call_r1 : List Cond := [Cond.constantLong RX3 87 (4), Cond.fieldLink RX3 7 "FieldLeavesModel" "slot" "[I", Cond.fieldLink RX3 13 "FieldLeavesModel" "classOf" "[I", Cond.fieldLink RX3 17 "FieldLeavesModel" "field" "[J", Cond.methodLink RX3 84 yX3_isSlot, Cond.static yX3_isSlot, Cond.initialized RX3, Cond.code yX3_isSlot cX3_isSlot 1 (some .boolean), Cond.constantLong RX3 68 (11), Cond.methodLink RX3 70 yX3_in, Cond.static yX3_in, Cond.code yX3_in cX3_in 6 (some .boolean), Cond.methodLink RX3 100 yX3_isBelow, Cond.static yX3_isBelow, Cond.code yX3_isBelow cX3_isBelow 2 (some .boolean), Cond.methodLink RX3 144 yX3_nameOf, Cond.instanceMethod yX3_nameOf, Cond.selects RX3 yX3_nameOf yX3_nameOf, Cond.code yX3_nameOf cX3_nameOf 4 (some .int), Cond.methodLink RX3 147 yX3_depthOf, Cond.instanceMethod yX3_depthOf, Cond.selects RX3 yX3_depthOf yX3_depthOf, Cond.code yX3_depthOf cX3_depthOf 5 (some .int), Cond.methodLink RX3 150 yX3_kindOf]
def wsX3_call_r2 : List Cond := [Cond.instanceMethod yX3_kindOf, Cond.selects RX3 yX3_kindOf yX3_kindOf, Cond.code yX3_kindOf cX3_kindOf 6 (some .int)]
def wsX3_call : List Cond := .code yX3_call cX3_call 5 (some .int) :: ((wsX3_call_r1 ++ wsX3_call_r2) ++ wsX30)
def wsX3_raise : List Cond := .code yX3_raise cX3_raise 3 (some .int) :: ([.fieldLink RX3 7 "FieldLeavesModel" "slot" "[I", .fieldLink RX3 13 "FieldLeavesModel" "classOf" "[I", .fieldLink RX3 17 "FieldLeavesModel" "field" "[J", .methodLink RX3 84 yX3_isSlot, .static yX3_isSlot, .initialized RX3, .code yX3_isSlot cX3_isSlot 1 (some .boolean), .constantLong RX3 68 (11), .methodLink RX3 70 yX3_in, .static yX3_in, .code yX3_in cX3_in 6 (some .boolean)] ++ wsX30)
def wsX3_passes : List Cond := .code yX3_passes cX3_passes 3 (some .int) :: ([.constantLong RX3 105 (12), .fieldLink RX3 153 "FieldLeavesModel" "passed" "I", .methodLink RX3 84 yX3_isSlot, .static yX3_isSlot, .initialized RX3, .code yX3_isSlot cX3_isSlot 1 (some .boolean), .constantLong RX3 68 (11), .methodLink RX3 70 yX3_in, .static yX3_in, .code yX3_in cX3_in 6 (some .boolean), .methodLink RX3 157 yX3_raise, .instanceMethod yX3_raise, .selects RX3 yX3_raise yX3_raise, .code yX3_raise cX3_raise 3 (some .int), .fieldLink RX3 7 "FieldLeavesModel" "slot" "[I", .fieldLink RX3 13 "FieldLeavesModel" "classOf" "[I", .fieldLink RX3 17 "FieldLeavesModel" "field" "[J"] ++ wsX30)
def wsX3_passed : List Cond := .code yX3_passed cX3_passed 1 (some .int) :: ([.fieldLink RX3 153 "FieldLeavesModel" "passed" "I"] ++ wsX30)
def wsX3_tell : List Cond := .code yX3_tell cX3_tell 5 none :: ([.fieldLink RX3 160 "FieldLeavesModel" "newMany" "I", .fieldLink RX3 163 "FieldLeavesModel" "isRoom" "Z", .fieldLink RX3 47 "FieldLeavesModel" "newObject" "[I", .fieldLink RX3 50 "FieldLeavesModel" "newField" "[I", .fieldLink RX3 53 "FieldLeavesModel" "newValue" "[J"] ++ wsX30)
def wsX3_numberOf : List Cond := .code yX3_numberOf cX3_numberOf 3 (some .int) :: ([.fieldLink RX3 167 "FieldLeavesModel" "foundMany" "I", .fieldLink RX3 44 "FieldLeavesModel" "found" "[I"] ++ wsX30)
def wsX3_tellObject_r1 : List Cond := [Cond.fieldLink RX3 13 "FieldLeavesModel" "classOf" "[I", Cond.fieldLink RX3 17 "FieldLeavesModel" "field" "[J", Cond.fieldLink RX3 21 "FieldLeavesModel" "rowSize" "[I", Cond.fieldLink RX3 25 "FieldLeavesModel" "rows" "[I", Cond.constantLong RX3 82 (-1), Cond.methodLink RX3 177 yX3_tell, Cond.instanceMethod yX3_tell, Cond.selects RX3 yX3_tell yX3_tell, Cond.initialized RX3, Cond.code yX3_tell cX3_tell 5 none, Cond.fieldLink RX3 160 "FieldLeavesModel" "newMany" "I", Cond.fieldLink RX3 163 "FieldLeavesModel" "isRoom" "Z", Cond.fieldLink RX3 47 "FieldLeavesModel" "newObject" "[I", Cond.fieldLink RX3 50 "FieldLeavesModel" "newField" "[I", Cond.fieldLink RX3 53 "FieldLeavesModel" "newValue" "[J", Cond.methodLink RX3 78 yX3_has, Cond.static yX3_has, Cond.code yX3_has cX3_has 2 (some .boolean), Cond.methodLink RX3 74 yX3_isLink, Cond.static yX3_isLink, Cond.code yX3_isLink cX3_isLink 1 (some .boolean), Cond.methodLink RX3 170 yX3_numberOf, Cond.instanceMethod yX3_numberOf, Cond.selects RX3 yX3_numberOf yX3_numberOf]
def wsX3_tellObject_r2 : List Cond := [Cond.code yX3_numberOf cX3_numberOf 3 (some .int), Cond.fieldLink RX3 167 "FieldLeavesModel" "foundMany" "I", Cond.fieldLink RX3 44 "FieldLeavesModel" "found" "[I"]
def wsX3_tellObject : List Cond := .code yX3_tellObject cX3_tellObject 7 none :: ((wsX3_tellObject_r1 ++ wsX3_tellObject_r2) ++ wsX30)
def wsX3_find_r1 : List Cond := [Cond.fieldLink RX3 167 "FieldLeavesModel" "foundMany" "I", Cond.fieldLink RX3 44 "FieldLeavesModel" "found" "[I", Cond.fieldLink RX3 160 "FieldLeavesModel" "newMany" "I", Cond.fieldLink RX3 163 "FieldLeavesModel" "isRoom" "Z", Cond.fieldLink RX3 13 "FieldLeavesModel" "classOf" "[I", Cond.fieldLink RX3 17 "FieldLeavesModel" "field" "[J", Cond.methodLink RX3 74 yX3_isLink, Cond.static yX3_isLink, Cond.initialized RX3, Cond.code yX3_isLink cX3_isLink 1 (some .boolean), Cond.methodLink RX3 78 yX3_has, Cond.static yX3_has, Cond.code yX3_has cX3_has 2 (some .boolean), Cond.methodLink RX3 170 yX3_numberOf, Cond.instanceMethod yX3_numberOf, Cond.selects RX3 yX3_numberOf yX3_numberOf, Cond.code yX3_numberOf cX3_numberOf 3 (some .int), Cond.methodLink RX3 173 yX3_tellObject, Cond.instanceMethod yX3_tellObject, Cond.selects RX3 yX3_tellObject yX3_tellObject, Cond.code yX3_tellObject cX3_tellObject 7 none, Cond.fieldLink RX3 21 "FieldLeavesModel" "rowSize" "[I", Cond.fieldLink RX3 25 "FieldLeavesModel" "rows" "[I", Cond.constantLong RX3 82 (-1)]
def wsX3_find_r2 : List Cond := [Cond.methodLink RX3 177 yX3_tell, Cond.instanceMethod yX3_tell, Cond.selects RX3 yX3_tell yX3_tell, Cond.code yX3_tell cX3_tell 5 none, Cond.fieldLink RX3 47 "FieldLeavesModel" "newObject" "[I", Cond.fieldLink RX3 50 "FieldLeavesModel" "newField" "[I", Cond.fieldLink RX3 53 "FieldLeavesModel" "newValue" "[J"]
def wsX3_find : List Cond := .code yX3_find cX3_find 6 (some .boolean) :: ((wsX3_find_r1 ++ wsX3_find_r2) ++ wsX30)
def wsX3_leaves_r1 : List Cond := [Cond.fieldLink RX3 7 "FieldLeavesModel" "slot" "[I", Cond.fieldLink RX3 160 "FieldLeavesModel" "newMany" "I", Cond.fieldLink RX3 184 "FieldLeavesModel" "leafMany" "I", Cond.fieldLink RX3 35 "FieldLeavesModel" "leafObject" "[I", Cond.fieldLink RX3 47 "FieldLeavesModel" "newObject" "[I", Cond.fieldLink RX3 38 "FieldLeavesModel" "leafField" "[I", Cond.fieldLink RX3 50 "FieldLeavesModel" "newField" "[I", Cond.fieldLink RX3 41 "FieldLeavesModel" "leafValue" "[J", Cond.fieldLink RX3 53 "FieldLeavesModel" "newValue" "[J", Cond.methodLink RX3 84 yX3_isSlot, Cond.static yX3_isSlot, Cond.initialized RX3, Cond.code yX3_isSlot cX3_isSlot 1 (some .boolean), Cond.constantLong RX3 68 (11), Cond.methodLink RX3 70 yX3_in, Cond.static yX3_in, Cond.code yX3_in cX3_in 6 (some .boolean), Cond.methodLink RX3 181 yX3_find, Cond.instanceMethod yX3_find, Cond.selects RX3 yX3_find yX3_find, Cond.code yX3_find cX3_find 6 (some .boolean), Cond.fieldLink RX3 167 "FieldLeavesModel" "foundMany" "I", Cond.fieldLink RX3 44 "FieldLeavesModel" "found" "[I", Cond.fieldLink RX3 163 "FieldLeavesModel" "isRoom" "Z"]
def wsX3_leaves_r2 : List Cond := [Cond.fieldLink RX3 13 "FieldLeavesModel" "classOf" "[I", Cond.fieldLink RX3 17 "FieldLeavesModel" "field" "[J", Cond.methodLink RX3 74 yX3_isLink, Cond.static yX3_isLink, Cond.code yX3_isLink cX3_isLink 1 (some .boolean), Cond.methodLink RX3 78 yX3_has, Cond.static yX3_has, Cond.code yX3_has cX3_has 2 (some .boolean), Cond.methodLink RX3 170 yX3_numberOf, Cond.instanceMethod yX3_numberOf, Cond.selects RX3 yX3_numberOf yX3_numberOf, Cond.code yX3_numberOf cX3_numberOf 3 (some .int), Cond.methodLink RX3 173 yX3_tellObject, Cond.instanceMethod yX3_tellObject, Cond.selects RX3 yX3_tellObject yX3_tellObject, Cond.code yX3_tellObject cX3_tellObject 7 none, Cond.fieldLink RX3 21 "FieldLeavesModel" "rowSize" "[I", Cond.fieldLink RX3 25 "FieldLeavesModel" "rows" "[I", Cond.constantLong RX3 82 (-1), Cond.methodLink RX3 177 yX3_tell, Cond.instanceMethod yX3_tell, Cond.selects RX3 yX3_tell yX3_tell, Cond.code yX3_tell cX3_tell 5 none]
def wsX3_leaves : List Cond := .code yX3_leaves cX3_leaves 3 (some .int) :: ((wsX3_leaves_r1 ++ wsX3_leaves_r2) ++ wsX30)
def wsX3_leaf : List Cond := .code yX3_leaf cX3_leaf 3 (some .long) :: ([.fieldLink RX3 184 "FieldLeavesModel" "leafMany" "I", .constantLong RX3 142 (2), .constantLong RX3 82 (-1), .fieldLink RX3 35 "FieldLeavesModel" "leafObject" "[I", .fieldLink RX3 38 "FieldLeavesModel" "leafField" "[I", .fieldLink RX3 41 "FieldLeavesModel" "leafValue" "[J", .methodLink RX3 70 yX3_in, .static yX3_in, .initialized RX3, .code yX3_in cX3_in 6 (some .boolean)] ++ wsX30)
def wsX3_alter : List Cond := .code yX3_alter cX3_alter 4 (some .int) :: ([.fieldLink RX3 184 "FieldLeavesModel" "leafMany" "I", .fieldLink RX3 38 "FieldLeavesModel" "leafField" "[I", .fieldLink RX3 41 "FieldLeavesModel" "leafValue" "[J", .methodLink RX3 70 yX3_in, .static yX3_in, .initialized RX3, .code yX3_in cX3_in 6 (some .boolean)] ++ wsX30)
def wsX3_told : List Cond := .code yX3_told cX3_told 4 (some .long) :: ([.fieldLink RX3 184 "FieldLeavesModel" "leafMany" "I", .fieldLink RX3 35 "FieldLeavesModel" "leafObject" "[I", .fieldLink RX3 38 "FieldLeavesModel" "leafField" "[I", .fieldLink RX3 41 "FieldLeavesModel" "leafValue" "[J"] ++ wsX30)
def wsX3_back_r1 : List Cond := [Cond.fieldLink RX3 184 "FieldLeavesModel" "leafMany" "I", Cond.fieldLink RX3 35 "FieldLeavesModel" "leafObject" "[I", Cond.constantLong RX3 142 (2), Cond.constantLong RX3 89 (1000), Cond.fieldLink RX3 56 "FieldLeavesModel" "made" "[I", Cond.fieldLink RX3 38 "FieldLeavesModel" "leafField" "[I", Cond.fieldLink RX3 41 "FieldLeavesModel" "leafValue" "[J", Cond.fieldLink RX3 25 "FieldLeavesModel" "rows" "[I", Cond.fieldLink RX3 21 "FieldLeavesModel" "rowSize" "[I", Cond.fieldLink RX3 13 "FieldLeavesModel" "classOf" "[I", Cond.fieldLink RX3 17 "FieldLeavesModel" "field" "[J", Cond.fieldLink RX3 7 "FieldLeavesModel" "slot" "[I", Cond.methodLink RX3 84 yX3_isSlot, Cond.static yX3_isSlot, Cond.initialized RX3, Cond.code yX3_isSlot cX3_isSlot 1 (some .boolean), Cond.constantLong RX3 68 (11), Cond.methodLink RX3 70 yX3_in, Cond.static yX3_in, Cond.code yX3_in cX3_in 6 (some .boolean), Cond.methodLink RX3 187 yX3_told, Cond.instanceMethod yX3_told, Cond.selects RX3 yX3_told yX3_told, Cond.code yX3_told cX3_told 4 (some .long)]
def wsX3_back_r2 : List Cond := [Cond.methodLink RX3 91 yX3_lookWhatIsHeld, Cond.instanceMethod yX3_lookWhatIsHeld, Cond.selects RX3 yX3_lookWhatIsHeld yX3_lookWhatIsHeld, Cond.code yX3_lookWhatIsHeld cX3_lookWhatIsHeld 5 none, Cond.fieldLink RX3 28 "FieldLeavesModel" "isHeld" "[Z", Cond.fieldLink RX3 32 "FieldLeavesModel" "pile" "[I", Cond.methodLink RX3 74 yX3_isLink, Cond.static yX3_isLink, Cond.code yX3_isLink cX3_isLink 1 (some .boolean), Cond.methodLink RX3 78 yX3_has, Cond.static yX3_has, Cond.code yX3_has cX3_has 2 (some .boolean), Cond.methodLink RX3 94 yX3_born, Cond.instanceMethod yX3_born, Cond.selects RX3 yX3_born yX3_born, Cond.code yX3_born cX3_born 5 (some .int), Cond.constantLong RX3 82 (-1), Cond.methodLink RX3 135 yX3_mayBeIn, Cond.static yX3_mayBeIn, Cond.code yX3_mayBeIn cX3_mayBeIn 2 (some .boolean), Cond.methodLink RX3 131 yX3_valueOf, Cond.static yX3_valueOf, Cond.code yX3_valueOf cX3_valueOf 3 (some .long), Cond.constantLong RX3 109 (65535)]
def wsX3_back_r3 : List Cond := [Cond.constant RX3 111 (2147483647), Cond.constant RX3 112 (2139095040), Cond.constantLong RX3 113 (2143289344), Cond.constantLong RX3 115 (9223372036854775807), Cond.constantLong RX3 117 (9218868437227405312), Cond.constantLong RX3 119 (9221120237041090560)]
def wsX3_back : List Cond := .code yX3_back cX3_back 8 (some .int) :: ((wsX3_back_r1 ++ (wsX3_back_r2 ++ wsX3_back_r3)) ++ wsX30)
def wsX3_equal_r1 : List Cond := [Cond.fieldLink RX3 7 "FieldLeavesModel" "slot" "[I", Cond.fieldLink RX3 160 "FieldLeavesModel" "newMany" "I", Cond.fieldLink RX3 59 "FieldLeavesModel" "oneObject" "[I", Cond.fieldLink RX3 47 "FieldLeavesModel" "newObject" "[I", Cond.fieldLink RX3 62 "FieldLeavesModel" "oneField" "[I", Cond.fieldLink RX3 50 "FieldLeavesModel" "newField" "[I", Cond.fieldLink RX3 65 "FieldLeavesModel" "oneValue" "[J", Cond.fieldLink RX3 53 "FieldLeavesModel" "newValue" "[J", Cond.methodLink RX3 84 yX3_isSlot, Cond.static yX3_isSlot, Cond.initialized RX3, Cond.code yX3_isSlot cX3_isSlot 1 (some .boolean), Cond.constantLong RX3 68 (11), Cond.methodLink RX3 70 yX3_in, Cond.static yX3_in, Cond.code yX3_in cX3_in 6 (some .boolean), Cond.methodLink RX3 181 yX3_find, Cond.instanceMethod yX3_find, Cond.selects RX3 yX3_find yX3_find, Cond.code yX3_find cX3_find 6 (some .boolean), Cond.fieldLink RX3 167 "FieldLeavesModel" "foundMany" "I", Cond.fieldLink RX3 44 "FieldLeavesModel" "found" "[I", Cond.fieldLink RX3 163 "FieldLeavesModel" "isRoom" "Z", Cond.fieldLink RX3 13 "FieldLeavesModel" "classOf" "[I"]
def wsX3_equal_r2 : List Cond := [Cond.fieldLink RX3 17 "FieldLeavesModel" "field" "[J", Cond.methodLink RX3 74 yX3_isLink, Cond.static yX3_isLink, Cond.code yX3_isLink cX3_isLink 1 (some .boolean), Cond.methodLink RX3 78 yX3_has, Cond.static yX3_has, Cond.code yX3_has cX3_has 2 (some .boolean), Cond.methodLink RX3 170 yX3_numberOf, Cond.instanceMethod yX3_numberOf, Cond.selects RX3 yX3_numberOf yX3_numberOf, Cond.code yX3_numberOf cX3_numberOf 3 (some .int), Cond.methodLink RX3 173 yX3_tellObject, Cond.instanceMethod yX3_tellObject, Cond.selects RX3 yX3_tellObject yX3_tellObject, Cond.code yX3_tellObject cX3_tellObject 7 none, Cond.fieldLink RX3 21 "FieldLeavesModel" "rowSize" "[I", Cond.fieldLink RX3 25 "FieldLeavesModel" "rows" "[I", Cond.constantLong RX3 82 (-1), Cond.methodLink RX3 177 yX3_tell, Cond.instanceMethod yX3_tell, Cond.selects RX3 yX3_tell yX3_tell, Cond.code yX3_tell cX3_tell 5 none]
def wsX3_equal : List Cond := .code yX3_equal cX3_equal 6 (some .int) :: ((wsX3_equal_r1 ++ wsX3_equal_r2) ++ wsX30)
def wsX3_isChanged : List Cond := .code yX3_isChanged cX3_isChanged 6 (some .boolean) :: ([.fieldLink RX3 17 "FieldLeavesModel" "field" "[J", .fieldLink RX3 21 "FieldLeavesModel" "rowSize" "[I", .fieldLink RX3 25 "FieldLeavesModel" "rows" "[I"] ++ wsX30)
def wsX3_changed : List Cond := .code yX3_changed cX3_changed 8 (some .int) :: ([.fieldLink RX3 7 "FieldLeavesModel" "slot" "[I", .fieldLink RX3 13 "FieldLeavesModel" "classOf" "[I", .methodLink RX3 84 yX3_isSlot, .static yX3_isSlot, .initialized RX3, .code yX3_isSlot cX3_isSlot 1 (some .boolean), .constantLong RX3 68 (11), .methodLink RX3 70 yX3_in, .static yX3_in, .code yX3_in cX3_in 6 (some .boolean), .methodLink RX3 78 yX3_has, .static yX3_has, .code yX3_has cX3_has 2 (some .boolean), .methodLink RX3 191 yX3_isChanged, .instanceMethod yX3_isChanged, .selects RX3 yX3_isChanged yX3_isChanged, .code yX3_isChanged cX3_isChanged 6 (some .boolean), .fieldLink RX3 17 "FieldLeavesModel" "field" "[J", .fieldLink RX3 21 "FieldLeavesModel" "rowSize" "[I", .fieldLink RX3 25 "FieldLeavesModel" "rows" "[I"] ++ wsX30)
def wsL_law_r1 : List Cond := [Cond.classLink RL 7 RX2, Cond.instantiable RX2 9, Cond.initialized RX2, Cond.classLink RL 10 RX3, Cond.instantiable RX3 23, Cond.initialized RX3, Cond.constantLong RL 45 (4294967295), Cond.methodLink RL 9 yX2_init, Cond.instanceMethod yX2_init, Cond.code yX2_init cX2_init 1 none, Cond.methodLink RX2 1 objectInit, Cond.instanceMethod objectInit, Cond.code objectInit ⟨#[0xb1]⟩ 1 none, Cond.classLink RX2 9 RX1, Cond.fieldLink RX2 11 "FieldLeaves" "slots" "[LFieldLeaves$Thing;", Cond.classLink RX2 15 RX0, Cond.instantiable RX0 4, Cond.initialized RX0, Cond.fieldLink RX2 18 "FieldLeaves" "current" "LFieldLeaves$LeafList;", Cond.fieldLink RX2 22 "FieldLeaves" "spare" "LFieldLeaves$LeafList;", Cond.fieldLink RX2 25 "FieldLeaves" "second" "LFieldLeaves$LeafList;", Cond.fieldLink RX2 28 "FieldLeaves" "found" "[LFieldLeaves$Thing;", Cond.fieldLink RX2 31 "FieldLeaves" "made" "[LFieldLeaves$Thing;", Cond.instanceMethod yX0_init]
def wsL_law_r2 : List Cond := [Cond.code yX0_init cX0_init 1 none, Cond.methodLink RX0 3 objectInit, Cond.arrayClass .int, Cond.fieldLink RX0 9 "FieldLeaves$LeafList" "numbers" "[I", Cond.fieldLink RX0 15 "FieldLeaves$LeafList" "fields" "[I", Cond.arrayClass .long, Cond.fieldLink RX0 18 "FieldLeaves$LeafList" "values" "[J", Cond.methodLink RL 12 yX3_init, Cond.instanceMethod yX3_init, Cond.code yX3_init cX3_init 2 none, Cond.methodLink RX3 1 objectInit, Cond.fieldLink RX3 7 "FieldLeavesModel" "slot" "[I", Cond.fieldLink RX3 13 "FieldLeavesModel" "classOf" "[I", Cond.constant RX3 16 (108800), Cond.fieldLink RX3 17 "FieldLeavesModel" "field" "[J", Cond.fieldLink RX3 21 "FieldLeavesModel" "rowSize" "[I", Cond.constant RX3 24 (128000), Cond.fieldLink RX3 25 "FieldLeavesModel" "rows" "[I", Cond.arrayClass .boolean, Cond.fieldLink RX3 28 "FieldLeavesModel" "isHeld" "[Z", Cond.fieldLink RX3 32 "FieldLeavesModel" "pile" "[I", Cond.fieldLink RX3 35 "FieldLeavesModel" "leafObject" "[I", Cond.fieldLink RX3 38 "FieldLeavesModel" "leafField" "[I", Cond.fieldLink RX3 41 "FieldLeavesModel" "leafValue" "[J"]
def wsL_law_r3 : List Cond := [Cond.fieldLink RX3 44 "FieldLeavesModel" "found" "[I", Cond.fieldLink RX3 47 "FieldLeavesModel" "newObject" "[I", Cond.fieldLink RX3 50 "FieldLeavesModel" "newField" "[I", Cond.fieldLink RX3 53 "FieldLeavesModel" "newValue" "[J", Cond.fieldLink RX3 56 "FieldLeavesModel" "made" "[I", Cond.fieldLink RX3 59 "FieldLeavesModel" "oneObject" "[I", Cond.fieldLink RX3 62 "FieldLeavesModel" "oneField" "[I", Cond.fieldLink RX3 65 "FieldLeavesModel" "oneValue" "[J", Cond.methodLink RL 13 yX2_make, Cond.instanceMethod yX2_make, Cond.selects RX2 yX2_make yX2_make, Cond.code yX2_make cX2_make 4 (some .int), Cond.instantiable RX1 6, Cond.initialized RX1, Cond.methodLink RX2 34 yX2_isSlot, Cond.static yX2_isSlot, Cond.code yX2_isSlot cX2_isSlot 1 (some .boolean), Cond.methodLink RX2 38 yX2_makerTakes, Cond.static yX2_makerTakes, Cond.code yX2_makerTakes cX2_makerTakes 2 (some .boolean), Cond.methodLink RX2 42 yX1_init, Cond.instanceMethod yX1_init, Cond.code yX1_init cX1_init 3 none, Cond.methodLink RX1 3 objectInit]
def wsL_law_r4 : List Cond := [Cond.fieldLink RX1 9 "FieldLeaves$Thing" "values" "[J", Cond.fieldLink RX1 15 "FieldLeaves$Thing" "classNumber" "I", Cond.methodLink RL 17 yX3_make, Cond.instanceMethod yX3_make, Cond.selects RX3 yX3_make yX3_make, Cond.code yX3_make cX3_make 4 (some .int), Cond.constantLong RX3 87 (4), Cond.constantLong RX3 89 (1000), Cond.methodLink RX3 84 yX3_isSlot, Cond.static yX3_isSlot, Cond.code yX3_isSlot cX3_isSlot 1 (some .boolean), Cond.constantLong RX3 68 (11), Cond.methodLink RX3 70 yX3_in, Cond.static yX3_in, Cond.code yX3_in cX3_in 6 (some .boolean), Cond.methodLink RX3 91 yX3_lookWhatIsHeld, Cond.instanceMethod yX3_lookWhatIsHeld, Cond.selects RX3 yX3_lookWhatIsHeld yX3_lookWhatIsHeld, Cond.code yX3_lookWhatIsHeld cX3_lookWhatIsHeld 5 none, Cond.methodLink RX3 74 yX3_isLink, Cond.static yX3_isLink, Cond.code yX3_isLink cX3_isLink 1 (some .boolean), Cond.methodLink RX3 78 yX3_has, Cond.static yX3_has]
def wsL_law_r5 : List Cond := [Cond.code yX3_has cX3_has 2 (some .boolean), Cond.methodLink RX3 94 yX3_born, Cond.instanceMethod yX3_born, Cond.selects RX3 yX3_born yX3_born, Cond.code yX3_born cX3_born 5 (some .int), Cond.constantLong RX3 82 (-1), Cond.methodLink RL 18 yX2_clear, Cond.instanceMethod yX2_clear, Cond.selects RX2 yX2_clear yX2_clear, Cond.code yX2_clear cX2_clear 3 (some .int), Cond.methodLink RL 22 yX3_clear, Cond.instanceMethod yX3_clear, Cond.selects RX3 yX3_clear yX3_clear, Cond.code yX3_clear cX3_clear 3 (some .int), Cond.methodLink RL 23 yX2_share, Cond.instanceMethod yX2_share, Cond.selects RX2 yX2_share yX2_share, Cond.code yX2_share cX2_share 3 (some .int), Cond.methodLink RL 27 yX3_share, Cond.instanceMethod yX3_share, Cond.selects RX3 yX3_share yX3_share, Cond.code yX3_share cX3_share 3 (some .int), Cond.methodLink RL 28 yX2_same, Cond.instanceMethod yX2_same]
def wsL_law_r6 : List Cond := [Cond.selects RX2 yX2_same yX2_same, Cond.code yX2_same cX2_same 3 (some .int), Cond.methodLink RL 31 yX3_same, Cond.instanceMethod yX3_same, Cond.selects RX3 yX3_same yX3_same, Cond.code yX3_same cX3_same 3 (some .int), Cond.methodLink RL 32 yX2_cls, Cond.instanceMethod yX2_cls, Cond.selects RX2 yX2_cls yX2_cls, Cond.code yX2_cls cX2_cls 3 (some .int), Cond.fieldLink RX2 45 "FieldLeaves$Thing" "classNumber" "I", Cond.methodLink RL 35 yX3_cls, Cond.instanceMethod yX3_cls, Cond.selects RX3 yX3_cls yX3_cls, Cond.code yX3_cls cX3_cls 2 (some .int), Cond.methodLink RL 36 yX2_is, Cond.instanceMethod yX2_is, Cond.selects RX2 yX2_is yX2_is, Cond.code yX2_is cX2_is 4 (some .int), Cond.methodLink RX2 49 yX1_isOf, Cond.instanceMethod yX1_isOf, Cond.selects RX1 yX1_isOf yX1_isOf, Cond.code yX1_isOf cX1_isOf 2 (some .boolean), Cond.methodLink RL 39 yX3_is]
def wsL_law_r7 : List Cond := [Cond.instanceMethod yX3_is, Cond.selects RX3 yX3_is yX3_is, Cond.code yX3_is cX3_is 3 (some .int), Cond.constantLong RX3 98 (5), Cond.methodLink RX3 100 yX3_isBelow, Cond.static yX3_isBelow, Cond.code yX3_isBelow cX3_isBelow 2 (some .boolean), Cond.methodLink RL 40 yX2_get, Cond.instanceMethod yX2_get, Cond.selects RX2 yX2_get yX2_get, Cond.code yX2_get cX2_get 5 (some .long), Cond.constantLong RX2 55 (-1), Cond.fieldLink RX2 57 "FieldLeaves" "OWNER" "[I", Cond.fieldLink RX2 65 "FieldLeaves$Thing" "values" "[J", Cond.methodLink RX2 52 yX2_isValueField, Cond.static yX2_isValueField, Cond.code yX2_isValueField cX2_isValueField 1 (some .boolean), Cond.fieldLink RX2 161 "FieldLeaves" "FORM" "[I", Cond.methodLink RX2 158 yX2_isField, Cond.static yX2_isField, Cond.code yX2_isField cX2_isField 1 (some .boolean), Cond.methodLink RX2 61 yX2_failureAs, Cond.static yX2_failureAs, Cond.code yX2_failureAs cX2_failureAs 2 (some .int)]
def wsL_law_r8 : List Cond := [Cond.methodLink RL 44 yX3_get, Cond.instanceMethod yX3_get, Cond.selects RX3 yX3_get yX3_get, Cond.code yX3_get cX3_get 3 (some .long), Cond.constantLong RX3 124 (-11), Cond.constantLong RX3 129 (-14), Cond.methodLink RX3 121 yX3_isPlain, Cond.static yX3_isPlain, Cond.code yX3_isPlain cX3_isPlain 1 (some .boolean), Cond.constantLong RX3 103 (7), Cond.constantLong RX3 105 (12), Cond.constantLong RX3 107 (14), Cond.methodLink RX3 126 yX3_isOther, Cond.instanceMethod yX3_isOther, Cond.selects RX3 yX3_isOther yX3_isOther, Cond.code yX3_isOther cX3_isOther 3 (some .boolean), Cond.methodLink RL 47 yX2_set, Cond.instanceMethod yX2_set, Cond.selects RX2 yX2_set yX2_set, Cond.code yX2_set cX2_set 7 (some .int), Cond.methodLink RX2 69 yX2_isFinal, Cond.static yX2_isFinal, Cond.code yX2_isFinal cX2_isFinal 1 (some .boolean), Cond.methodLink RX2 72 yX2_asTold]
def wsL_law_r9 : List Cond := [Cond.static yX2_asTold, Cond.code yX2_asTold cX2_asTold 3 (some .long), Cond.methodLink RX2 164 yX2_floatAsTold, Cond.static yX2_floatAsTold, Cond.code yX2_floatAsTold cX2_floatAsTold 1 (some .int), Cond.constant RX2 171 (2147483647), Cond.constant RX2 172 (2139095040), Cond.constant RX2 173 (2143289344), Cond.methodLink RX2 167 yX2_doubleAsTold, Cond.static yX2_doubleAsTold, Cond.code yX2_doubleAsTold cX2_doubleAsTold 2 (some .long), Cond.constantLong RX2 174 (9223372036854775807), Cond.constantLong RX2 176 (9218868437227405312), Cond.constantLong RX2 178 (9221120237041090560), Cond.methodLink RL 51 yX3_set, Cond.instanceMethod yX3_set, Cond.selects RX3 yX3_set yX3_set, Cond.code yX3_set cX3_set 5 (some .int), Cond.methodLink RX3 131 yX3_valueOf, Cond.static yX3_valueOf, Cond.code yX3_valueOf cX3_valueOf 3 (some .long), Cond.constantLong RX3 109 (65535), Cond.constant RX3 111 (2147483647), Cond.constant RX3 112 (2139095040)]
def wsL_law_r10 : List Cond := [Cond.constantLong RX3 113 (2143289344), Cond.constantLong RX3 115 (9223372036854775807), Cond.constantLong RX3 117 (9218868437227405312), Cond.constantLong RX3 119 (9221120237041090560), Cond.methodLink RL 52 yX2_link, Cond.instanceMethod yX2_link, Cond.selects RX2 yX2_link yX2_link, Cond.code yX2_link cX2_link 6 (some .int), Cond.methodLink RX2 76 yX2_isLinkField, Cond.static yX2_isLinkField, Cond.code yX2_isLinkField cX2_isLinkField 1 (some .boolean), Cond.methodLink RX2 79 yX2_wantedIn, Cond.static yX2_wantedIn, Cond.code yX2_wantedIn cX2_wantedIn 1 (some .int), Cond.methodLink RX2 83 yX1_hold, Cond.instanceMethod yX1_hold, Cond.selects RX1 yX1_hold yX1_hold, Cond.code yX1_hold cX1_hold 3 none, Cond.fieldLink RX1 19 "FieldLeaves$Thing" "baseLink" "LFieldLeaves$Thing;", Cond.fieldLink RX1 23 "FieldLeaves$Thing" "middleLink" "LFieldLeaves$Thing;", Cond.fieldLink RX1 26 "FieldLeaves$Thing" "strayBack" "LFieldLeaves$Thing;", Cond.methodLink RL 55 yX3_link, Cond.instanceMethod yX3_link, Cond.selects RX3 yX3_link yX3_link]
def wsL_law_r11 : List Cond := [Cond.code yX3_link cX3_link 4 (some .int), Cond.methodLink RX3 135 yX3_mayBeIn, Cond.static yX3_mayBeIn, Cond.code yX3_mayBeIn cX3_mayBeIn 2 (some .boolean), Cond.methodLink RL 56 yX2_follow, Cond.instanceMethod yX2_follow, Cond.selects RX2 yX2_follow yX2_follow, Cond.code yX2_follow cX2_follow 6 (some .int), Cond.methodLink RX2 87 yX1_held, Cond.instanceMethod yX1_held, Cond.selects RX1 yX1_held yX1_held, Cond.code yX1_held cX1_held 2 (some (.object "FieldLeaves$Thing")), Cond.methodLink RL 59 yX3_follow, Cond.instanceMethod yX3_follow, Cond.selects RX3 yX3_follow yX3_follow, Cond.code yX3_follow cX3_follow 4 (some .int), Cond.methodLink RL 60 yX2_row, Cond.instanceMethod yX2_row, Cond.selects RX2 yX2_row yX2_row, Cond.code yX2_row cX2_row 4 (some .int), Cond.fieldLink RX2 91 "FieldLeaves$Thing" "ints" "[I", Cond.methodLink RL 63 yX3_row, Cond.instanceMethod yX3_row, Cond.selects RX3 yX3_row yX3_row]
def wsL_law_r12 : List Cond := [Cond.code yX3_row cX3_row 4 (some .int), Cond.methodLink RL 64 yX2_put, Cond.instanceMethod yX2_put, Cond.selects RX2 yX2_put yX2_put, Cond.code yX2_put cX2_put 7 (some .int), Cond.methodLink RX2 94 yX2_failureOfRow, Cond.static yX2_failureOfRow, Cond.code yX2_failureOfRow cX2_failureOfRow 2 (some .int), Cond.methodLink RL 67 yX3_put, Cond.instanceMethod yX3_put, Cond.selects RX3 yX3_put yX3_put, Cond.code yX3_put cX3_put 6 (some .int), Cond.methodLink RX3 138 yX3_rowless, Cond.instanceMethod yX3_rowless, Cond.selects RX3 yX3_rowless yX3_rowless, Cond.code yX3_rowless cX3_rowless 2 (some .int), Cond.methodLink RL 68 yX2_length, Cond.instanceMethod yX2_length, Cond.selects RX2 yX2_length yX2_length, Cond.code yX2_length cX2_length 4 (some .int), Cond.methodLink RL 71 yX3_length, Cond.instanceMethod yX3_length, Cond.selects RX3 yX3_length yX3_length, Cond.code yX3_length cX3_length 3 (some .int)]
def wsL_law_r13 : List Cond := [Cond.methodLink RL 72 yX2_count, Cond.instanceMethod yX2_count, Cond.selects RX2 yX2_count yX2_count, Cond.code yX2_count cX2_count 5 (some .long), Cond.fieldLink RX2 98 "FieldLeaves" "COUNT_OF" "[I", Cond.methodLink RL 75 yX3_count, Cond.instanceMethod yX3_count, Cond.selects RX3 yX3_count yX3_count, Cond.code yX3_count cX3_count 3 (some .long), Cond.constantLong RX3 142 (2), Cond.methodLink RL 76 yX2_call, Cond.instanceMethod yX2_call, Cond.selects RX2 yX2_call yX2_call, Cond.code yX2_call cX2_call 5 (some .int), Cond.fieldLink RX2 114 "FieldLeaves$Thing" "baseLink" "LFieldLeaves$Thing;", Cond.methodLink RX2 101 yX1_name, Cond.instanceMethod yX1_name, Cond.selects RX1 yX1_name yX1_name, Cond.code yX1_name cX1_name 2 (some .int), Cond.methodLink RX2 105 yX1_secret, Cond.instanceMethod yX1_secret, Cond.selects RX1 yX1_secret yX1_secret, Cond.code yX1_secret cX1_secret 1 (some .int), Cond.methodLink RX2 108 yX1_depth]
def wsL_law_r14 : List Cond := [Cond.instanceMethod yX1_depth, Cond.selects RX1 yX1_depth yX1_depth, Cond.code yX1_depth cX1_depth 3 (some .int), Cond.methodLink RX1 29 yX1_leadsTo, Cond.instanceMethod yX1_leadsTo, Cond.selects RX1 yX1_leadsTo yX1_leadsTo, Cond.code yX1_leadsTo cX1_leadsTo 1 (some (.object "FieldLeaves$Thing")), Cond.methodLink RX2 111 yX1_kind, Cond.instanceMethod yX1_kind, Cond.selects RX1 yX1_kind yX1_kind, Cond.code yX1_kind cX1_kind 5 (some .int), Cond.methodLink RL 79 yX3_call, Cond.instanceMethod yX3_call, Cond.selects RX3 yX3_call yX3_call, Cond.code yX3_call cX3_call 5 (some .int), Cond.methodLink RX3 144 yX3_nameOf, Cond.instanceMethod yX3_nameOf, Cond.selects RX3 yX3_nameOf yX3_nameOf, Cond.code yX3_nameOf cX3_nameOf 4 (some .int), Cond.methodLink RX3 147 yX3_depthOf, Cond.instanceMethod yX3_depthOf, Cond.selects RX3 yX3_depthOf yX3_depthOf, Cond.code yX3_depthOf cX3_depthOf 5 (some .int), Cond.methodLink RX3 150 yX3_kindOf]
def wsL_law_r15 : List Cond := [Cond.instanceMethod yX3_kindOf, Cond.selects RX3 yX3_kindOf yX3_kindOf, Cond.code yX3_kindOf cX3_kindOf 6 (some .int), Cond.methodLink RL 80 yX2_raise, Cond.instanceMethod yX2_raise, Cond.selects RX2 yX2_raise yX2_raise, Cond.code yX2_raise cX2_raise 2 (some .int), Cond.methodLink RX2 118 yX2_thrown, Cond.static yX2_thrown, Cond.code yX2_thrown cX2_thrown 2 (some .int), Cond.methodLink RL 83 yX3_raise, Cond.instanceMethod yX3_raise, Cond.selects RX3 yX3_raise yX3_raise, Cond.code yX3_raise cX3_raise 3 (some .int), Cond.methodLink RL 84 yX2_passes, Cond.instanceMethod yX2_passes, Cond.selects RX2 yX2_passes yX2_passes, Cond.code yX2_passes cX2_passes 3 (some .int), Cond.fieldLink RX2 121 "FieldLeaves" "passedCount" "I", Cond.methodLink RL 87 yX3_passes, Cond.instanceMethod yX3_passes, Cond.selects RX3 yX3_passes yX3_passes, Cond.code yX3_passes cX3_passes 3 (some .int), Cond.fieldLink RX3 153 "FieldLeavesModel" "passed" "I"]
def wsL_law_r16 : List Cond := [Cond.methodLink RX3 157 yX3_raise, Cond.methodLink RL 88 yX2_passed, Cond.instanceMethod yX2_passed, Cond.selects RX2 yX2_passed yX2_passed, Cond.code yX2_passed cX2_passed 1 (some .int), Cond.methodLink RL 92 yX3_passed, Cond.instanceMethod yX3_passed, Cond.selects RX3 yX3_passed yX3_passed, Cond.code yX3_passed cX3_passed 1 (some .int), Cond.methodLink RL 93 yX2_leaves, Cond.instanceMethod yX2_leaves, Cond.selects RX2 yX2_leaves yX2_leaves, Cond.code yX2_leaves cX2_leaves 4 (some .int), Cond.fieldLink RX2 128 "FieldLeaves$LeafList" "size" "I", Cond.methodLink RX2 124 yX2_tell, Cond.instanceMethod yX2_tell, Cond.selects RX2 yX2_tell yX2_tell, Cond.code yX2_tell cX2_tell 4 (some .boolean), Cond.fieldLink RX2 188 "FieldLeaves" "foundCount" "I", Cond.methodLink RX2 184 yX2_findFrom, Cond.instanceMethod yX2_findFrom, Cond.selects RX2 yX2_findFrom yX2_findFrom, Cond.code yX2_findFrom cX2_findFrom 4 (some .boolean), Cond.fieldLink RX2 198 "FieldLeaves$Thing" "middleLink" "LFieldLeaves$Thing;"]
def wsL_law_r17 : List Cond := [Cond.fieldLink RX2 201 "FieldLeaves$Thing" "strayBack" "LFieldLeaves$Thing;", Cond.methodLink RX2 195 yX2_addFound, Cond.instanceMethod yX2_addFound, Cond.selects RX2 yX2_addFound yX2_addFound, Cond.code yX2_addFound cX2_addFound 2 (some .boolean), Cond.methodLink RX2 204 yX2_numberOf, Cond.instanceMethod yX2_numberOf, Cond.selects RX2 yX2_numberOf yX2_numberOf, Cond.code yX2_numberOf cX2_numberOf 3 (some .int), Cond.methodLink RX2 191 yX2_tellObject, Cond.instanceMethod yX2_tellObject, Cond.selects RX2 yX2_tellObject yX2_tellObject, Cond.code yX2_tellObject cX2_tellObject 6 (some .boolean), Cond.methodLink RX2 207 yX0_add, Cond.instanceMethod yX0_add, Cond.selects RX0 yX0_add yX0_add, Cond.code yX0_add cX0_add 5 (some .boolean), Cond.fieldLink RX0 22 "FieldLeaves$LeafList" "size" "I", Cond.methodLink RX2 211 yX2_tellField, Cond.instanceMethod yX2_tellField, Cond.selects RX2 yX2_tellField yX2_tellField, Cond.code yX2_tellField cX2_tellField 6 (some .boolean), Cond.methodLink RX2 215 yX2_tellRow, Cond.static yX2_tellRow]
def wsL_law_r18 : List Cond := [Cond.code yX2_tellRow cX2_tellRow 5 (some .boolean), Cond.methodLink RL 96 yX3_leaves, Cond.instanceMethod yX3_leaves, Cond.selects RX3 yX3_leaves yX3_leaves, Cond.code yX3_leaves cX3_leaves 3 (some .int), Cond.fieldLink RX3 160 "FieldLeavesModel" "newMany" "I", Cond.fieldLink RX3 184 "FieldLeavesModel" "leafMany" "I", Cond.methodLink RX3 181 yX3_find, Cond.instanceMethod yX3_find, Cond.selects RX3 yX3_find yX3_find, Cond.code yX3_find cX3_find 6 (some .boolean), Cond.fieldLink RX3 167 "FieldLeavesModel" "foundMany" "I", Cond.fieldLink RX3 163 "FieldLeavesModel" "isRoom" "Z", Cond.methodLink RX3 170 yX3_numberOf, Cond.instanceMethod yX3_numberOf, Cond.selects RX3 yX3_numberOf yX3_numberOf, Cond.code yX3_numberOf cX3_numberOf 3 (some .int), Cond.methodLink RX3 173 yX3_tellObject, Cond.instanceMethod yX3_tellObject, Cond.selects RX3 yX3_tellObject yX3_tellObject, Cond.code yX3_tellObject cX3_tellObject 7 none, Cond.methodLink RX3 177 yX3_tell, Cond.instanceMethod yX3_tell, Cond.selects RX3 yX3_tell yX3_tell]
def wsL_law_r19 : List Cond := [Cond.code yX3_tell cX3_tell 5 none, Cond.methodLink RL 97 yX2_leaf, Cond.instanceMethod yX2_leaf, Cond.selects RX2 yX2_leaf yX2_leaf, Cond.code yX2_leaf cX2_leaf 3 (some .long), Cond.fieldLink RX2 134 "FieldLeaves$LeafList" "numbers" "[I", Cond.fieldLink RX2 137 "FieldLeaves$LeafList" "fields" "[I", Cond.fieldLink RX2 140 "FieldLeaves$LeafList" "values" "[J", Cond.methodLink RX2 131 yX0_has, Cond.instanceMethod yX0_has, Cond.selects RX0 yX0_has yX0_has, Cond.code yX0_has cX0_has 2 (some .boolean), Cond.methodLink RL 100 yX3_leaf, Cond.instanceMethod yX3_leaf, Cond.selects RX3 yX3_leaf yX3_leaf, Cond.code yX3_leaf cX3_leaf 3 (some .long), Cond.methodLink RL 101 yX2_alter, Cond.instanceMethod yX2_alter, Cond.selects RX2 yX2_alter yX2_alter, Cond.code yX2_alter cX2_alter 4 (some .int), Cond.methodLink RL 105 yX3_alter, Cond.instanceMethod yX3_alter, Cond.selects RX3 yX3_alter yX3_alter, Cond.code yX3_alter cX3_alter 4 (some .int)]
def wsL_law_r20 : List Cond := [Cond.methodLink RL 106 yX2_back, Cond.instanceMethod yX2_back, Cond.selects RX2 yX2_back yX2_back, Cond.code yX2_back cX2_back 3 (some .int), Cond.fieldLink RX2 147 "FieldLeaves" "madeCount" "I", Cond.methodLink RX2 141 yX2_makeFromLeaves, Cond.instanceMethod yX2_makeFromLeaves, Cond.selects RX2 yX2_makeFromLeaves yX2_makeFromLeaves, Cond.code yX2_makeFromLeaves cX2_makeFromLeaves 4 (some .int), Cond.methodLink RX2 219 yX0_toldToMaker, Cond.instanceMethod yX0_toldToMaker, Cond.selects RX0 yX0_toldToMaker yX0_toldToMaker, Cond.code yX0_toldToMaker cX0_toldToMaker 3 (some .int), Cond.methodLink RX2 144 yX2_fillFromLeaves, Cond.instanceMethod yX2_fillFromLeaves, Cond.selects RX2 yX2_fillFromLeaves yX2_fillFromLeaves, Cond.code yX2_fillFromLeaves cX2_fillFromLeaves 4 (some .int), Cond.methodLink RX2 222 yX2_madeAs, Cond.instanceMethod yX2_madeAs, Cond.selects RX2 yX2_madeAs yX2_madeAs, Cond.code yX2_madeAs cX2_madeAs 3 (some (.object "FieldLeaves$Thing")), Cond.methodLink RX2 226 yX2_fillField, Cond.instanceMethod yX2_fillField, Cond.selects RX2 yX2_fillField yX2_fillField]
def wsL_law_r21 : List Cond := [Cond.code yX2_fillField cX2_fillField 5 (some .int), Cond.constantLong RX2 233 (20), Cond.methodLink RX2 230 yX2_fillLink, Cond.instanceMethod yX2_fillLink, Cond.selects RX2 yX2_fillLink yX2_fillLink, Cond.code yX2_fillLink cX2_fillLink 6 (some .int), Cond.methodLink RX2 235 yX2_fillPlace, Cond.static yX2_fillPlace, Cond.code yX2_fillPlace cX2_fillPlace 3 none, Cond.methodLink RL 109 yX3_back, Cond.instanceMethod yX3_back, Cond.selects RX3 yX3_back yX3_back, Cond.code yX3_back cX3_back 8 (some .int), Cond.methodLink RX3 187 yX3_told, Cond.instanceMethod yX3_told, Cond.selects RX3 yX3_told yX3_told, Cond.code yX3_told cX3_told 4 (some .long), Cond.methodLink RL 110 yX2_equal, Cond.instanceMethod yX2_equal, Cond.selects RX2 yX2_equal yX2_equal, Cond.code yX2_equal cX2_equal 5 (some .int), Cond.methodLink RX2 150 yX0_sameAs, Cond.instanceMethod yX0_sameAs, Cond.selects RX0 yX0_sameAs yX0_sameAs]
def wsL_law_r22 : List Cond := [Cond.code yX0_sameAs cX0_sameAs 3 (some .boolean), Cond.methodLink RL 113 yX3_equal, Cond.instanceMethod yX3_equal, Cond.selects RX3 yX3_equal yX3_equal, Cond.code yX3_equal cX3_equal 6 (some .int), Cond.methodLink RL 114 yX2_changed, Cond.instanceMethod yX2_changed, Cond.selects RX2 yX2_changed yX2_changed, Cond.code yX2_changed cX2_changed 8 (some .int), Cond.methodLink RX2 154 yX2_differ, Cond.static yX2_differ, Cond.code yX2_differ cX2_differ 3 (some .boolean), Cond.methodLink RX2 180 yX2_differInInts, Cond.static yX2_differInInts, Cond.code yX2_differInInts cX2_differInInts 3 (some .boolean), Cond.methodLink RL 117 yX3_changed, Cond.instanceMethod yX3_changed, Cond.selects RX3 yX3_changed yX3_changed, Cond.code yX3_changed cX3_changed 8 (some .int), Cond.methodLink RX3 191 yX3_isChanged, Cond.instanceMethod yX3_isChanged, Cond.selects RX3 yX3_isChanged yX3_isChanged, Cond.code yX3_isChanged cX3_isChanged 6 (some .boolean)]
def wsL_law : List Cond := (wsL_law_r1 ++ (wsL_law_r2 ++ (wsL_law_r3 ++ (wsL_law_r4 ++ (wsL_law_r5 ++ (wsL_law_r6 ++ (wsL_law_r7 ++ (wsL_law_r8 ++ (wsL_law_r9 ++ (wsL_law_r10 ++ (wsL_law_r11 ++ (wsL_law_r12 ++ (wsL_law_r13 ++ (wsL_law_r14 ++ (wsL_law_r15 ++ (wsL_law_r16 ++ (wsL_law_r17 ++ (wsL_law_r18 ++ (wsL_law_r19 ++ (wsL_law_r20 ++ (wsL_law_r21 ++ wsL_law_r22))))))))))))))))))))) ++ wsX20 ++ wsX30 ++ wsX00 ++ wsX10 ++ ([] : List Cond)
end
section
abbrev vwCl : List vw_C := [(RX0, TX0, 4), (RX1, TX1, 6), (RX2, TX2, 9), (RX3, TX3, 23)]
end
section
-- the static rows of the class, as numbers
def FORMt (j : Nat) : Int32 := [0, 1, 2, 3, 4, 5, 6, 7, 8, 9, 4, 8, 5, 4, 7, 8, 4].getD j 0
def OWNERt (j : Nat) : Int32 := [0, 0, 0, 0, 0, 0, 0, 0, 0, 0, 1, 1, 2, 2, 3, 3, 4].getD j 0
def COUNTt (j : Nat) : Int32 := [4, 10, 12].getD j 0
theorem vp_lt {i : Int32} {n : Nat} (h : vp_in i n) : i.toNatClampNeg < n := Nat.not_le.mp fun q => h (Or.inr q)
theorem FORMt_nat : ∀ j, j < 17 → (((FORMt j).toInt = 8 ↔ ((j : Int) = 8 ∨ (j : Int) = 11 ∨ (j : Int) = 15)) ∧ ((FORMt j).toInt = 9 ↔ (j : Int) = 9)) := by decide +kernel
theorem FORMt_is {f : Int32} (h : vp_in f 17) : (((FORMt (Int32.toNatClampNeg f)).toInt = 8 ↔ (f.toInt = 8 ∨ f.toInt = 11 ∨ f.toInt = 15)) ∧ ((FORMt (Int32.toNatClampNeg f)).toInt = 9 ↔ f.toInt = 9)) := by
  obtain ⟨j, hj, rfl⟩ := vp_in_of h (by decide)
  rw [nI_clamp (by omega), nI_toInt (by omega)]
  exact FORMt_nat j hj
theorem OWNERt_is {f : Int32} (_ : vp_in f 17) : True := trivial
theorem COUNTt_nat : ∀ j, j < 3 → (0 ≤ (COUNTt j).toInt ∧ (COUNTt j).toInt < 17) := by decide +kernel
theorem COUNTt_is {f : Int32} (h : vp_in f 3) : 0 ≤ (COUNTt (Int32.toNatClampNeg f)).toInt ∧ (COUNTt (Int32.toNatClampNeg f)).toInt < 17 := by
  obtain ⟨j, hj, rfl⟩ := vp_in_of h (by decide)
  rw [nI_clamp (by omega)]
  exact COUNTt_nat j hj
/-- a boolean answer -/
def bo (r : Int32) (P : Prop) : Prop := (r = 1 ∧ P) ∨ (r = 0 ∧ ¬ P)
/-- what every method of the class may take as given of the statics and the tables; TT: where the three static rows lie -/
def st_ok (TT : Nat × Nat × Nat) (A : Nat → Prop) (U : State) : Prop :=
  va_Z "FieldLeaves" "FORM" "[I" (.ref TT.1) A U U.heap ∧ va_T .int TT.1 17 (fun j => .int (FORMt j)) A U U.heap ∧ va_Z "FieldLeaves" "OWNER" "[I" (.ref TT.2.1) A U U.heap ∧ va_T .int TT.2.1 17 (fun j => .int (OWNERt j)) A U U.heap ∧ va_Z "FieldLeaves" "COUNT_OF" "[I" (.ref TT.2.2) A U U.heap ∧ va_T .int TT.2.2 3 (fun j => .int (COUNTt j)) A U U.heap ∧ va_AO RX1 U ∧ va_Nw (.methodLinkNest RX2 17 yX0_init "FieldLeaves") U ∧ va_Nw (.methodLinkNest RX0 26 yX2_isFinal "FieldLeaves") U ∧ va_Nw (.methodLinkNest RX0 30 yX2_asTold "FieldLeaves") U
section STOK
variable {TT : Nat × Nat × Nat} {A B : Nat → Prop} {s U : State}
theorem st_ok.zF (h : st_ok TT A s) : va_Z "FieldLeaves" "FORM" "[I" (.ref TT.1) A s s.heap := h.1
theorem st_ok.tF (h : st_ok TT A s) : va_T .int TT.1 17 (fun j => .int (FORMt j)) A s s.heap := h.2.1
theorem st_ok.zO (h : st_ok TT A s) : va_Z "FieldLeaves" "OWNER" "[I" (.ref TT.2.1) A s s.heap := h.2.2.1
theorem st_ok.tO (h : st_ok TT A s) : va_T .int TT.2.1 17 (fun j => .int (OWNERt j)) A s s.heap := h.2.2.2.1
theorem st_ok.zC (h : st_ok TT A s) : va_Z "FieldLeaves" "COUNT_OF" "[I" (.ref TT.2.2) A s s.heap := h.2.2.2.2.1
theorem st_ok.tC (h : st_ok TT A s) : va_T .int TT.2.2 3 (fun j => .int (COUNTt j)) A s s.heap := h.2.2.2.2.2.1
theorem st_ok.ao (h : st_ok TT A s) : va_AO RX1 s := h.2.2.2.2.2.2.1
theorem st_ok.n17 (h : st_ok TT A s) : va_Nw (.methodLinkNest RX2 17 yX0_init "FieldLeaves") s := h.2.2.2.2.2.2.2.1
theorem st_ok.n26 (h : st_ok TT A s) : va_Nw (.methodLinkNest RX0 26 yX2_isFinal "FieldLeaves") s := h.2.2.2.2.2.2.2.2.1
theorem st_ok.n30 (h : st_ok TT A s) : va_Nw (.methodLinkNest RX0 30 yX2_asTold "FieldLeaves") s := h.2.2.2.2.2.2.2.2.2
theorem st_call {H : Heap} {locs : List Loc} (h : st_ok TT A s) (hS : va_S A s.heap H locs) (hU : U.heap = H) (hW : s.WarmedH U.vm) (hF : ∀ q, B q → A q) : st_ok TT B U := by
  have hk : ∀ a : Nat, a < s.heap.size → ¬ A a → U.heap[a]? = s.heap[a]? := fun a h1 h2 => by rw [hU]; exact hS.2.1 a h1 h2
  obtain ⟨h1, h2, h3, h4, h5, h6, h7, h8, h9, h10⟩ := h
  exact ⟨((h1.moved hW.alike).kept hk).narrow hF, ((h2.moved hW.alike).kept hk).narrow hF, ((h3.moved hW.alike).kept hk).narrow hF, ((h4.moved hW.alike).kept hk).narrow hF, ((h5.moved hW.alike).kept hk).narrow hF, ((h6.moved hW.alike).kept hk).narrow hF, h7.moved hW.alike, va_Nw.warmM hW h8, va_Nw.warmM hW h9, va_Nw.warmM hW h10⟩
theorem st_blind (h : st_ok TT A U) (g : JFrame) (mk : MethodId) (a : Array Value) : st_ok TT A (U.calling g mk a) := by
  obtain ⟨h1, h2, h3, h4, h5, h6, h7, h8, h9, h10⟩ := h
  have r := Vm.Alike.refl U.vm
  exact ⟨va_Z.moved (u := U) (U := U.calling g mk a) r h1, va_T.moved (u := U) (U := U.calling g mk a) r h2, va_Z.moved (u := U) (U := U.calling g mk a) r h3, va_T.moved (u := U) (U := U.calling g mk a) r h4, va_Z.moved (u := U) (U := U.calling g mk a) r h5, va_T.moved (u := U) (U := U.calling g mk a) r h6, va_AO.moved (u := U) (U := U.calling g mk a) r h7, va_Nw.same rfl rfl h8, va_Nw.same rfl rfl h9, va_Nw.same rfl rfl h10⟩
end STOK
/-- a method's start: its cells ws, those that it may write wA, its rows' classes tys -/
def pr (dC : Nat → ClassId) (dI : Nat → Nat → Nat) (ws wA : va_W) (tys : List (ClassId × FieldType)) (sz : Nat) (TT : Nat × Nat × Nat) (U : State) : Prop :=
  U.heap.size = sz ∧ va_P (dC, dI) vwCl ws U.heap ∧ va_K (dC, dI) vwCl tys U ∧ va_D (fun _ => True) wA ∧ st_ok TT (va_A wA sz) U
section PRE
variable {dC : Nat → ClassId} {dI : Nat → Nat → Nat} {ws wA : va_W} {tys : List (ClassId × FieldType)} {sz : Nat} {TT : Nat × Nat × Nat} {av : List Value} {s : State} {H H1 : Heap} {A : Nat → Prop} {locs : List Loc}
theorem pr_blind : FrameBlind (va_Pc av (pr dC dI ws wA tys sz TT)) := fun a U g mk q => by
  obtain ⟨q0, q1, qP, qK, qD, qs⟩ := q
  exact ⟨q0, q1, qP, va_K.moved (u := U) (U := U.calling g mk a) (Vm.Alike.refl U.vm) qK, qD, st_blind qs g mk a⟩
theorem pr_S (hP : va_P (dC, dI) vwCl ws H) (hK : va_K (dC, dI) vwCl tys s) (hDt : va_D (fun _ => True) wA) (hst : st_ok TT A s) (hS : va_S A s.heap H locs) (hF : ∀ q, va_A wA H.size q → A q) : PreS s H (va_Pc av (pr dC dI ws wA tys H.size TT)) av :=
  ⟨pr_blind, fun U hU hW => ⟨rfl, by rw [hU], by rw [hU]; exact hP, va_K.moved hW.alike hK, hDt, st_call hst hS hU hW hF⟩⟩
theorem ro_free {H0 : Heap} (hS : va_S A H0 H locs) (hA : ∀ q : Nat, H0.size ≤ q → A q) : ∀ q, va_A [] H.size q → A q := fun q h => by
  rcases h with ⟨k, e, h⟩ | h
  · simp at h
  · exact hA q (Nat.le_trans hS.1 h)
theorem ro_keep (hP : va_P (dC, dI) vwCl ws H) (hk : ∀ q : Nat, q < H.size → ¬ va_A [] H.size q → H1[q]? = H[q]?) : va_P (dC, dI) vwCl ws H1 :=
  hP.kept (fun k q h => hk q.1 (hP k q h).lt (fun z => by
    rcases z with ⟨k, e, z⟩ | z
    · simp at z
    · exact absurd (hP k q h).lt (Nat.not_lt.mpr z)))
theorem vd_nil {A : Nat → Prop} : va_D A [] := ⟨fun i j p q h => by simp at h, fun k q h => by simp at h⟩
end PRE
theorem upd_all {f : Nat → Int32} {n k : Nat} {v : Int32} (h : ∀ j, j < n → f j = v) : ∀ j, j < n → upd f k v j = v := fun j hj => by
  by_cases e : j = k
  · rw [e]; exact pk_us
  · rw [pk_un e]; exact h j hj
theorem updZ_all {f : Nat → Int32} {n k : Nat} (h : ∀ j, j < n → f j = 0) : ∀ j, j < n → upd f k (vp_nar .boolean 0) j = 0 := by
  have e : vp_nar .boolean 0 = 0 := by decide
  rw [e]
  exact upd_all h
theorem newI (n : Nat) : ∀ cA : ClassId, vp_cell cA (n, .inl (fun _ => 0)) = arrV cA n (fun _ => defaultValue .int) := fun _ => rfl
theorem newJ (n : Nat) : ∀ cA : ClassId, vp_cell cA (n, .inr (.inl (fun _ => 0))) = arrV cA n (fun _ => defaultValue .long) := fun _ => rfl
theorem newZ (n : Nat) : ∀ cA : ClassId, vp_cell cA (n, .inl (fun _ => 0)) = arrV cA n (fun _ => defaultValue .boolean) := fun _ => rfl
end
section
-- what the first call on a fresh object answers
def sp_make (s c n : Int32) : Int32 := if 0 ≤ s.toInt ∧ s.toInt < 12 ∧ 0 ≤ c.toInt ∧ c.toInt ≤ 4 then (if c.toInt = 2 ∧ ¬ (0 ≤ n.toInt ∧ n.toInt ≤ 1000) then (-18) else 1) else (-1)
def sp_clear (s : Int32) : Int32 := if 0 ≤ s.toInt ∧ s.toInt < 12 then 0 else (-1)
def sp_share (s t : Int32) : Int32 := if 0 ≤ s.toInt ∧ s.toInt < 12 ∧ 0 ≤ t.toInt ∧ t.toInt < 12 then 1 else (-1)
def sp_same (s t : Int32) : Int32 := if 0 ≤ s.toInt ∧ s.toInt < 12 ∧ 0 ≤ t.toInt ∧ t.toInt < 12 then 1 else (-1)
def sp_cls (s : Int32) : Int32 := if 0 ≤ s.toInt ∧ s.toInt < 12 then (-4) else (-1)
def sp_is (s c : Int32) : Int32 := if 0 ≤ s.toInt ∧ s.toInt < 12 ∧ 0 ≤ c.toInt ∧ c.toInt ≤ 5 then 0 else (-1)
def sp_get (s f : Int32) : Int64 := if 0 ≤ s.toInt ∧ s.toInt < 12 ∧ 0 ≤ f.toInt ∧ f.toInt < 17 ∧ ¬ f.toInt = 8 ∧ ¬ f.toInt = 9 ∧ ¬ f.toInt = 11 ∧ ¬ f.toInt = 15 then (-11) else (-1)
def sp_set (s f : Int32) (_ : Int64) : Int32 := if 0 ≤ s.toInt ∧ s.toInt < 12 ∧ 0 ≤ f.toInt ∧ f.toInt < 17 ∧ ¬ f.toInt = 8 ∧ ¬ f.toInt = 9 ∧ ¬ f.toInt = 11 ∧ ¬ f.toInt = 15 then (-11) else (-1)
def sp_link (s f t : Int32) : Int32 := if 0 ≤ s.toInt ∧ s.toInt < 12 ∧ (f.toInt = 8 ∨ f.toInt = 11 ∨ f.toInt = 15) ∧ 0 ≤ t.toInt ∧ t.toInt < 12 then (-11) else (-1)
def sp_follow (s f t : Int32) : Int32 := if 0 ≤ s.toInt ∧ s.toInt < 12 ∧ (f.toInt = 8 ∨ f.toInt = 11 ∨ f.toInt = 15) ∧ 0 ≤ t.toInt ∧ t.toInt < 12 then (-11) else (-1)
def sp_row (s n : Int32) : Int32 := if 0 ≤ s.toInt ∧ s.toInt < 12 ∧ n.toInt ≤ 20 then (if n.toInt < 0 ∧ ¬ n.toInt = -4 then (-13) else (-11)) else (-1)
def sp_put (s _ _ : Int32) : Int32 := if 0 ≤ s.toInt ∧ s.toInt < 12 then (-11) else (-1)
def sp_length (s : Int32) : Int32 := if 0 ≤ s.toInt ∧ s.toInt < 12 then (-11) else (-1)
def sp_count (s c : Int32) : Int64 := if 0 ≤ s.toInt ∧ s.toInt < 12 ∧ 0 ≤ c.toInt ∧ c.toInt ≤ 2 then (-11) else (-1)
def sp_call (s c : Int32) : Int32 := if 0 ≤ s.toInt ∧ s.toInt < 12 ∧ 0 ≤ c.toInt ∧ c.toInt ≤ 4 then (-11) else (-1)
def sp_raise (s : Int32) : Int32 := if 0 ≤ s.toInt ∧ s.toInt < 12 then (-11) else (-1)
def sp_passes (s n : Int32) : Int32 := if 0 ≤ s.toInt ∧ s.toInt < 12 ∧ 1 ≤ n.toInt ∧ n.toInt ≤ 12 then (-11) else (-1)
def sp_passed : Int32 := 0
def sp_leaves (s : Int32) : Int32 := if 0 ≤ s.toInt ∧ s.toInt < 12 then (-11) else (-1)
def sp_leaf (_ _ : Int32) : Int64 := (-1)
def sp_alter (_ : Int32) (_ : Int64) : Int32 := (-1)
def sp_back (s : Int32) : Int32 := if 0 ≤ s.toInt ∧ s.toInt < 12 then (-3) else (-1)
def sp_equal (s t : Int32) : Int32 := if 0 ≤ s.toInt ∧ s.toInt < 12 ∧ 0 ≤ t.toInt ∧ t.toInt < 12 then 1 else (-1)
def sp_changed (s t k : Int32) : Int32 := if 0 ≤ s.toInt ∧ s.toInt < 12 ∧ 0 ≤ t.toInt ∧ t.toInt < 12 ∧ 0 ≤ k.toInt then (-11) else (-1)
end
section
-- THE CLASS'S HEAP, TYPED: K tells each cell's kind (0 LeafList, 1 Thing, 2 FieldLeaves, 3 long[17], 4 a row of at most 20 ints, 5 Thing[12], 6 Thing[24], 7 int[300], 8 long[300]), L the addresses, f the cells
def isr (K : Nat → Nat) (L : List Nat) (k x : Nat) : Prop := x ∈ L ∧ K x = k
def opr (K : Nat → Nat) (L : List Nat) (k : Nat) (o : Option Nat) : Prop := ∀ x, o = some x → isr K L k x
def ok1 (K : Nat → Nat) (L : List Nat) (e : va_E) : Prop := ∃ (cn : Int32) (v : Nat) (b m st i : Option Nat), e = .inr (1, [.int cn, .ref v, va_rf b, va_rf m, va_rf st, va_rf i]) ∧ isr K L 3 v ∧ opr K L 1 b ∧ opr K L 1 m ∧ opr K L 1 st ∧ opr K L 4 i
def ok2 (K : Nat → Nat) (L : List Nat) (e : va_E) : Prop := ∃ (q1 : Nat) (pc : Int32) (c1 c2 c3 q5 : Nat) (fc : Int32) (q7 : Nat) (mc : Int32), e = .inr (2, [.ref q1, .int pc, .ref c1, .ref c2, .ref c3, .ref q5, .int fc, .ref q7, .int mc]) ∧ isr K L 5 q1 ∧ isr K L 0 c1 ∧ isr K L 0 c2 ∧ isr K L 0 c3 ∧ isr K L 6 q5 ∧ (0 ≤ fc.toInt ∧ fc.toInt ≤ 24) ∧ isr K L 6 q7 ∧ (0 ≤ mc.toInt ∧ mc.toInt ≤ 24)
def ok0 (K : Nat → Nat) (L : List Nat) (e : va_E) : Prop := ∃ (n d v : Nat) (z : Int32), e = .inr (0, [.ref n, .ref d, .ref v, .int z]) ∧ isr K L 7 n ∧ isr K L 7 d ∧ isr K L 8 v ∧ (0 ≤ z.toInt ∧ z.toInt ≤ 300)
def okJ (kJ : ClassId) (n : Nat) (e : va_E) : Prop := ∃ g : Nat → Int64, e = .inl (kJ, n, .inr (.inl g))
def ok4 (kI : ClassId) (e : va_E) : Prop := ∃ (n : Nat) (g : Nat → Int32), e = .inl (kI, n, .inl g) ∧ n ≤ 20
def ok7 (kI : ClassId) (e : va_E) : Prop := ∃ g : Nat → Int32, e = .inl (kI, 300, .inl g)
def okA (kT : ClassId) (n : Nat) (K : Nat → Nat) (L : List Nat) (e : va_E) : Prop := ∃ g : Nat → Option Nat, e = .inl (kT, n, .inr (.inr (.inr (.inr g)))) ∧ ∀ j, j < n → opr K L 1 (g j)
def okc (kT kI kJ : ClassId) (K : Nat → Nat) (L : List Nat) (k : Nat) (e : va_E) : Prop := match k with
  | 0 => ok0 K L e
  | 1 => ok1 K L e
  | 2 => ok2 K L e
  | 3 => okJ kJ 17 e
  | 4 => ok4 kI e
  | 5 => okA kT 12 K L e
  | 6 => okA kT 24 K L e
  | 7 => ok7 kI e
  | 8 => okJ kJ 300 e
  | _ => False
def PI (kT kI kJ : ClassId) (K : Nat → Nat) (L : List Nat) (f : Nat → va_E) : Prop := ∀ a, a ∈ L → okc kT kI kJ K L (K a) (f a)
def EXT (K : Nat → Nat) (L : List Nat) (K' : Nat → Nat) (L' : List Nat) : Prop := ∀ a, a ∈ L → a ∈ L' ∧ K' a = K a
section TYP
variable {kT kI kJ : ClassId} {K K' : Nat → Nat} {L L' : List Nat} {f : Nat → va_E} {x k q : Nat} {e : va_E}
theorem PI.at (h : PI kT kI kJ K L f) (hx : isr K L k x) : okc kT kI kJ K L k (f x) := by
  have := h x hx.1
  rw [hx.2] at this
  exact this
theorem PI.a0 (h : PI kT kI kJ K L f) (hx : isr K L 0 x) : ok0 K L (f x) := h.at hx
theorem PI.a1 (h : PI kT kI kJ K L f) (hx : isr K L 1 x) : ok1 K L (f x) := h.at hx
theorem PI.a2 (h : PI kT kI kJ K L f) (hx : isr K L 2 x) : ok2 K L (f x) := h.at hx
theorem PI.a3 (h : PI kT kI kJ K L f) (hx : isr K L 3 x) : okJ kJ 17 (f x) := h.at hx
theorem PI.a4 (h : PI kT kI kJ K L f) (hx : isr K L 4 x) : ok4 kI (f x) := h.at hx
theorem PI.a5 (h : PI kT kI kJ K L f) (hx : isr K L 5 x) : okA kT 12 K L (f x) := h.at hx
theorem PI.a6 (h : PI kT kI kJ K L f) (hx : isr K L 6 x) : okA kT 24 K L (f x) := h.at hx
theorem PI.a7 (h : PI kT kI kJ K L f) (hx : isr K L 7 x) : ok7 kI (f x) := h.at hx
theorem PI.a8 (h : PI kT kI kJ K L f) (hx : isr K L 8 x) : okJ kJ 300 (f x) := h.at hx
theorem PI.put (h : PI kT kI kJ K L f) (hx : isr K L k x) (he : okc kT kI kJ K L k e) : PI kT kI kJ K L (va_up f x e) := fun a ha => by
  by_cases ea : a = x
  · subst ea
    rw [va_up_self, hx.2]
    exact he
  · rw [va_up_ne _ _ ea]
    exact h a ha
theorem isr.ext (h : isr K L k x) (hE : EXT K L K' L') : isr K' L' k x := ⟨(hE x h.1).1, (hE x h.1).2.trans h.2⟩
theorem opr.ext {o : Option Nat} (h : opr K L k o) (hE : EXT K L K' L') : opr K' L' k o := fun x e => (h x e).ext hE
theorem okc.ext (h : okc kT kI kJ K L k e) (hE : EXT K L K' L') : okc kT kI kJ K' L' k e := by
  unfold okc at h ⊢
  split at h <;> try exact h
  · obtain ⟨n, d, v, z, e, h1, h2, h3, h4⟩ := h
    exact ⟨n, d, v, z, e, h1.ext hE, h2.ext hE, h3.ext hE, h4⟩
  · obtain ⟨cn, v, b, m, st, i, e, h1, h2, h3, h4, h5⟩ := h
    exact ⟨cn, v, b, m, st, i, e, h1.ext hE, h2.ext hE, h3.ext hE, h4.ext hE, h5.ext hE⟩
  · obtain ⟨q1, pc, c1, c2, c3, q5, fc, q7, mc, e, h1, h2, h3, h4, h5, h6, h7, h8⟩ := h
    exact ⟨q1, pc, c1, c2, c3, q5, fc, q7, mc, e, h1.ext hE, h2.ext hE, h3.ext hE, h4.ext hE, h5.ext hE, h6, h7.ext hE, h8⟩
  · obtain ⟨g, e, h1⟩ := h
    exact ⟨g, e, fun j hj => (h1 j hj).ext hE⟩
  · obtain ⟨g, e, h1⟩ := h
    exact ⟨g, e, fun j hj => (h1 j hj).ext hE⟩
theorem EXT.rf : EXT K L K L := fun _ h => ⟨h, rfl⟩
theorem EXT.tr {K2 : Nat → Nat} {L2 : List Nat} (h : EXT K L K' L') (h2 : EXT K' L' K2 L2) : EXT K L K2 L2 := fun a ha => ⟨(h2 a (h a ha).1).1, ((h2 a (h a ha).1).2).trans (h a ha).2⟩
theorem EXT.new (hq : q ∉ L) : EXT K L (va_up K q k) (q :: L) := fun a ha => ⟨List.mem_cons_of_mem _ ha, va_up_ne _ _ (fun e => hq (e ▸ ha))⟩
theorem isr.new : isr (va_up K q k) (q :: L) k q := ⟨List.mem_cons_self, va_up_self _ _ _⟩
theorem PI.push (h : PI kT kI kJ K L f) (hq : q ∉ L) (he : okc kT kI kJ (va_up K q k) (q :: L) k e) : PI kT kI kJ (va_up K q k) (q :: L) (va_up f q e) := fun a ha => by
  rcases List.mem_cons.mp ha with ea | ha
  · subst ea
    rw [va_up_self, va_up_self]
    exact he
  · have ne : a ≠ q := fun ea => hq (ea ▸ ha)
    rw [va_up_ne _ _ ne, va_up_ne _ _ ne]
    exact (h a ha).ext (EXT.new hq)
theorem va_plg (hx : x ∈ L) (he : f x = e) : ∃ k : Nat, (va_pl L f)[k]? = some (x, e) := by
  obtain ⟨k, hk⟩ := va_pl_get (X := []) (f := f) hx
  exact ⟨k, by rw [← he]; exact hk⟩
theorem va_pls {A : Nat → Prop} {k : Nat} {e0 : va_E} (hD : va_D A (va_pl L f)) (hx : x ∈ L) (hk : (va_pl L f)[k]? = some (x, e0)) (e : va_E) : (va_pl L f).set k (x, e) = va_pl L (va_up f x e) := by
  have h0 : e0 = f x := by
    obtain ⟨a, _, h2⟩ := List.mem_map.mp (List.mem_of_getElem? hk)
    cases h2
    rfl
  rw [h0] at hk
  exact va_pl_set (X := []) hD hx hk
theorem pl_cons (hq : q ∉ L) : (q, e) :: va_pl L f = va_pl (q :: L) (va_up f q e) := by
  show _ = (q, va_up f q e q) :: L.map (fun a => (a, va_up f q e a))
  rw [va_up_self]
  congr 1
  refine List.map_congr_left (fun a ha => ?_)
  have ne : a ≠ q := fun ea => hq (by rw [← ea]; exact ha)
  rw [va_up_ne f e ne]
theorem wp_rot {D : va_G} {cl : List vw_C} {pl : va_W} {y : Nat × va_E} {H : Heap} (h : va_P D cl (pl ++ [y]) H) : va_P D cl (y :: pl) H := fun k z hk => by
  have hm : z ∈ pl ++ [y] := by
    rcases List.mem_cons.mp (List.mem_of_getElem? hk) with e | e
    · exact List.mem_append_right _ (by rw [e]; exact List.mem_singleton_self _)
    · exact List.mem_append_left _ e
  obtain ⟨i, hi⟩ := List.getElem?_of_mem hm
  exact h i z hi
theorem wd_rot {A : Nat → Prop} {pl : va_W} {y : Nat × va_E} (h : va_D A (pl ++ [y])) : va_D A (y :: pl) := by
  refine h.by (fun k => if k = 0 then pl.length else k - 1) (fun k z hk => ?_) (fun i j hi hj e => ?_)
  · cases k with
    | zero =>
      show (pl ++ [y])[if 0 = 0 then pl.length else 0 - 1]? = some z
      rw [if_pos rfl, List.getElem?_append_right (Nat.le_refl _), Nat.sub_self]
      exact hk
    | succ k =>
      have hl : k < pl.length := (List.getElem?_eq_some_iff.mp (show pl[k]? = some z from hk)).1
      show (pl ++ [y])[if k + 1 = 0 then pl.length else k + 1 - 1]? = some z
      rw [if_neg (Nat.succ_ne_zero k), Nat.add_sub_cancel, List.getElem?_append_left hl]
      exact hk
  · simp only [List.length_cons] at hi hj
    have e : (if i = 0 then pl.length else i - 1) = (if j = 0 then pl.length else j - 1) := e
    split at e <;> split at e <;> omega
theorem pl_free {A : Nat → Prop} {ws : va_W} {H0 H : Heap} {locs : List Loc} (hD : va_D A ws) (hS : va_S A H0 H locs) (hA : ∀ q : Nat, H0.size ≤ q → A q) : ∀ q, va_A ws H.size q → A q := fun q h => by
  rcases h with ⟨k, e, h⟩ | h
  · exact hD.2 k (q, e) h
  · exact hA q (Nat.le_trans hS.1 h)
theorem pl_new {A : Nat → Prop} {y : va_E} (hD : va_D A (va_pl L f ++ [(q, y)])) : q ∉ L := va_pl_fresh2 (X := []) hD
end TYP
/-- rows of one type have one class -/
theorem ty_one {D : va_G} {cl : List vw_C} {tys : List (ClassId × FieldType)} {U : State} {a b : ClassId} (hK : va_K D cl tys U) (i j : Nat) {ty : FieldType} (hi : tys[i]? = some (a, ty)) (hj : tys[j]? = some (b, ty)) (hp : ty = .int ∨ ty = .long) : a = b := by
  have h1 := (hK.2 i _ hi).2
  have h2 := (hK.2 j _ hj).2
  rcases hp with rfl | rfl
  · exact Option.some.inj (h1.symm.trans h2)
  · exact Option.some.inj (h1.symm.trans h2)
theorem nI_len {n : Nat} (h : n ≤ 20) : (Int32.ofNat n).toInt = (n : Int) := nI_toInt (n := n) (by omega)
theorem isr_ne {K : Nat → Nat} {L : List Nat} {k j x y : Nat} (hx : isr K L k x) (hy : isr K L j y) (h : k ≠ j) : x ≠ y := fun e => h (by rw [← hx.2, ← hy.2, e])
end
section
theorem vp_nil {D : va_G} {H : Heap} : va_P D vwCl [] H := fun k q h => by simp at h
theorem upr_all {K : Nat → Nat} {L : List Nat} {g : Nat → Option Nat} {n k : Nat} {o : Option Nat} (h : ∀ j, j < n → opr K L 1 (g j)) (ho : opr K L 1 o) : ∀ j, j < n → opr K L 1 (va_up g k o j) := fun j hj => by
  by_cases e : j = k
  · rw [e, va_up_self]; exact ho
  · rw [va_up_ne _ _ e]; exact h j hj
theorem row_len {kI : ClassId} {n m : Nat} {g h : Nat → Int32} (e : (Sum.inl (kI, n, .inl g) : va_E) = .inl (kI, m, .inl h)) : n = m := by
  injection e with e
  injection e with _ e
  injection e
theorem W_nameQ {p : Program} {l : Launch} {e : Env} {R : Room} {s : State} {m : MethodId} {args : Array Value} {below : List Frame} {meth : Method} {c : Code} {H : Heap} {locs : List Loc} {cells slots : Nat} {Q : State → Prop} {g : JFrame} (k : ∀ Q0 : State → Prop, Q0 = Q → W p l e R s m args below meth c H locs cells slots Q0 g) : W p l e R s m args below meth c H locs cells slots Q g := k Q rfl
theorem inc_toInt {x y : Int32} (e : y = x + 1) (h : x.toInt < 2147483647) : y.toInt = x.toInt + 1 := by
  have h1 := Int32.le_toInt x
  rw [e, Int32.toInt_add]
  have e1 : (1 : Int32).toInt = 1 := by decide
  rw [e1]
  exact Int.bmod_eq_of_le (by omega) (by omega)
theorem va_rf_inj {a b : Option Nat} (h : va_rf a = va_rf b) : a = b := by
  cases a <;> cases b <;> simp_all [va_rf]
theorem th_ints {e : va_E} {cn cn2 : Int32} {v v2 : Nat} {b m st i b2 m2 st2 i2 : Option Nat} (h : e = .inr (1, [.int cn, .ref v, va_rf b, va_rf m, va_rf st, va_rf i])) (h2 : e = .inr (1, [.int cn2, .ref v2, va_rf b2, va_rf m2, va_rf st2, va_rf i2])) : i = i2 := by
  have h := h.symm.trans h2
  injection h with h
  injection h with _ h
  injection h with _ h
  injection h with _ h
  injection h with _ h
  injection h with _ h
  injection h with _ h
  injection h with h _
  exact va_rf_inj h
def rowok (f : Nat → va_E) (x : Nat) (r : Int32) : Prop := r.toInt = 0 → ∀ (cn : Int32) (v : Nat) (b m st i : Option Nat), f x = .inr (1, [.int cn, .ref v, va_rf b, va_rf m, va_rf st, va_rf i]) → i ≠ none
/-- only cells of the kinds S have changed -/
def FR (S : Nat → Bool) (K : Nat → Nat) (L : List Nat) (f f2 : Nat → va_E) : Prop := ∀ a, a ∈ L → S (K a) = false → f2 a = f a
theorem fr_up {S : Nat → Bool} {K : Nat → Nat} {L : List Nat} {f f1 : Nat → va_E} {k x : Nat} {e : va_E} (h : FR S K L f f1) (hx : isr K L k x) (hk : S k = true) : FR S K L f (va_up f1 x e) := fun a ha hs => by
  rw [va_up_ne _ _ (fun ea => by rw [ea, hx.2, hk] at hs; cases hs)]
  exact h a ha hs
theorem FR.tr {S S2 : Nat → Bool} {K : Nat → Nat} {L : List Nat} {f f1 f2 : Nat → va_E} (h : FR S K L f f1) (h2 : FR S2 K L f1 f2) (hS : ∀ k, S k = false → S2 k = false) : FR S K L f f2 := fun a ha hs => (h2 a ha (hS _ hs)).trans (h a ha hs)
theorem FR.rf {S : Nat → Bool} {K : Nat → Nat} {L : List Nat} {f : Nat → va_E} : FR S K L f f := fun _ _ _ => rfl
/-- the LeafLists' kinds -/
def sL (k : Nat) : Bool := k == 0 || k == 7 || k == 8
def r01 (r : Int32) : Prop := r = 1 ∨ r = 0
theorem fold2 {kT kI kJ : ClassId} {K : Nat → Nat} {L : List Nat} {f : Nat → va_E} {D : va_G} {H : Heap} {A : Nat → Prop} {q u : Nat} {cn : Int32} {g : Nat → Int64} (hPI : PI kT kI kJ K L f) (hP : va_P D vwCl ((q, .inr (1, [.int cn, .ref u, .null, .null, .null, .null])) :: (u, .inl (kJ, 17, .inr (.inl g))) :: va_pl L f) H) (hD : va_D A ((q, .inr (1, [.int cn, .ref u, .null, .null, .null, .null])) :: (u, .inl (kJ, 17, .inr (.inl g))) :: va_pl L f)) : ∃ (K2 : Nat → Nat) (L2 : List Nat) (f2 : Nat → va_E), PI kT kI kJ K2 L2 f2 ∧ EXT K L K2 L2 ∧ isr K2 L2 1 q ∧ (∀ a, a ∈ L → f2 a = f a) ∧ va_P D vwCl (va_pl L2 f2) H ∧ va_D A (va_pl L2 f2) := by
  have hu : u ∉ L := fun h => by
    obtain ⟨i, hi⟩ := List.getElem?_of_mem (show (u, f u) ∈ va_pl L f from List.mem_map.mpr ⟨u, h, rfl⟩)
    have := hD.1 1 (i + 2) _ _ rfl hi rfl
    omega
  have hq : q ∉ u :: L := fun h => by
    rcases List.mem_cons.mp h with h | h
    · have := hD.1 0 1 _ _ rfl rfl h
      omega
    · obtain ⟨i, hi⟩ := List.getElem?_of_mem (show (q, f q) ∈ va_pl L f from List.mem_map.mpr ⟨q, h, rfl⟩)
      have := hD.1 0 (i + 2) _ _ rfl hi rfl
      omega
  rw [pl_cons hu, pl_cons hq] at hP hD
  refine ⟨_, _, _, (hPI.push (k := 3) hu ⟨g, rfl⟩).push (k := 1) hq ⟨cn, u, none, none, none, none, rfl, isr.ext isr.new (EXT.new hq), (fun _ h => by cases h), (fun _ h => by cases h), (fun _ h => by cases h), (fun _ h => by cases h)⟩, EXT.tr (EXT.new hu) (EXT.new hq), isr.new, fun a ha => (va_up_ne _ _ (fun e => hq (by rw [← e]; exact List.mem_cons_of_mem _ ha))).trans (va_up_ne _ _ (fun e => hu (by rw [← e]; exact ha))), hP, hD⟩
theorem fold1 {kT kI kJ : ClassId} {K : Nat → Nat} {L : List Nat} {f : Nat → va_E} {D : va_G} {H : Heap} {A : Nat → Prop} {q n : Nat} {g : Nat → Int32} (hPI : PI kT kI kJ K L f) (hn : n ≤ 20) (hP : va_P D vwCl (va_pl L f ++ [(q, .inl (kI, n, .inl g))]) H) (hD : va_D A (va_pl L f ++ [(q, .inl (kI, n, .inl g))])) : ∃ (K2 : Nat → Nat) (L2 : List Nat) (f2 : Nat → va_E), PI kT kI kJ K2 L2 f2 ∧ EXT K L K2 L2 ∧ isr K2 L2 4 q ∧ (∀ a, a ∈ L → f2 a = f a) ∧ va_P D vwCl (va_pl L2 f2) H ∧ va_D A (va_pl L2 f2) := by
  have hq := pl_new hD
  have hP := wp_rot hP
  have hD := wd_rot hD
  rw [pl_cons hq] at hP hD
  exact ⟨_, _, _, hPI.push (k := 4) hq ⟨n, g, rfl, hn⟩, EXT.new hq, isr.new, fun a ha => va_up_ne _ _ (fun e => hq (by rw [← e]; exact ha)), hP, hD⟩
end
section
set_option maxRecDepth 20000 in
theorem oi_t_X1_init : Cond.code objectInit ⟨#[0xb1]⟩ 1 none ∈ wsX1_init := List.mem_of_getElem? (i := 3) rfl
end
section
theorem clamp_int {i : Int32} (h : 0 ≤ i.toInt) : ((Int32.toNatClampNeg i : Nat) : Int) = i.toInt := by
  have hc : Int32.toNatClampNeg i = i.toInt.toNat := rfl
  omega
/-- the object h with foundCount fc: the places of found below fc hold objects -/
def FN (kT : ClassId) (K : Nat → Nat) (L : List Nat) (f : Nat → va_E) (h : Nat) (fc : Int32) : Prop := ∃ (q1 : Nat) (pc : Int32) (c1 c2 c3 q5 q7 : Nat) (mc : Int32) (g : Nat → Option Nat), f h = .inr (2, [.ref q1, .int pc, .ref c1, .ref c2, .ref c3, .ref q5, .int fc, .ref q7, .int mc]) ∧ isr K L 5 q1 ∧ isr K L 0 c1 ∧ isr K L 0 c2 ∧ isr K L 0 c3 ∧ isr K L 6 q5 ∧ (0 ≤ fc.toInt ∧ fc.toInt ≤ 24) ∧ isr K L 6 q7 ∧ (0 ≤ mc.toInt ∧ mc.toInt ≤ 24) ∧ f q5 = .inl (kT, 24, .inr (.inr (.inr (.inr g)))) ∧ (∀ j, j < 24 → opr K L 1 (g j)) ∧ ∀ j : Nat, (j : Int) < fc.toInt → g j ≠ none
theorem FN.fr {kT : ClassId} {K : Nat → Nat} {L : List Nat} {f f2 : Nat → va_E} {h : Nat} {fc : Int32} (hF : FN kT K L f h fc) (hh : isr K L 2 h) (hfr : FR sL K L f f2) : FN kT K L f2 h fc := by
  obtain ⟨q1, pc, c1, c2, c3, q5, q7, mc, g, e, h1, h2, h3, h4, h5, h6, h7, h8, e2, h9, h10⟩ := hF
  exact ⟨q1, pc, c1, c2, c3, q5, q7, mc, g, (hfr h hh.1 (by rw [hh.2]; rfl)).trans e, h1, h2, h3, h4, h5, h6, h7, h8, (hfr q5 h5.1 (by rw [h5.2]; rfl)).trans e2, h9, h10⟩
theorem nn_push {g : Nat → Option Nat} {fc z : Int32} {x : Nat} (h : ∀ j : Nat, (j : Int) < fc.toInt → g j ≠ none) (h0 : 0 ≤ fc.toInt) (hz : z.toInt = fc.toInt + 1) : ∀ j : Nat, (j : Int) < z.toInt → va_up g (Int32.toNatClampNeg fc) (some x) j ≠ none := fun j hj => by
  by_cases e : j = Int32.toNatClampNeg fc
  · rw [e, va_up_self]; exact fun h => by cases h
  · rw [va_up_ne _ _ e]
    have hc := clamp_int h0
    exact h j (by omega)
theorem nn_one {g : Nat → Option Nat} {x : Nat} : ∀ j : Nat, (j : Int) < (1 : Int32).toInt → va_up g (Int32.toNatClampNeg 0) (some x) j ≠ none := fun j hj => by
  have e1 : (1 : Int32).toInt = 1 := by decide
  have e : j = Int32.toNatClampNeg 0 := by
    have : Int32.toNatClampNeg 0 = 0 := by decide
    omega
  rw [e, va_up_self]
  exact fun h => by cases h
end
section
theorem l2i_small {x : Int64} {z : Int32} (e : z = x.toInt32) (h0 : 0 ≤ x.toInt) (h1 : x.toInt < 2147483648) : z.toInt = x.toInt := by
  rw [e, Int64.toInt_toInt32]
  exact Int.bmod_eq_of_le (by omega) (by omega)
theorem sub_toInt {x y z : Int32} (e : z = x - y) (h0 : 0 ≤ y.toInt) (h1 : y.toInt ≤ x.toInt) : z.toInt = x.toInt - y.toInt := by
  have h2 := Int32.toInt_lt x
  rw [e, Int32.toInt_sub]
  exact Int.bmod_eq_of_le (by omega) (by omega)
end
section
-- THE REFERENCE'S HEAP, TYPED: kind 10 the object, 11 .. 28 its rows, each a kind of its own
def rgS (g : Nat → Int32) : Prop := ∀ j, j < 12 → -1 ≤ (g j).toInt ∧ (g j).toInt < 6400
def rgF (g : Nat → Int64) : Prop := ∀ o f : Nat, o < 6400 → (f = 8 ∨ f = 11 ∨ f = 15) → -1 ≤ (g (17 * o + f)).toInt ∧ (g (17 * o + f)).toInt < 6400
def rgR (g : Nat → Int32) : Prop := ∀ j, j < 6400 → -1 ≤ (g j).toInt ∧ (g j).toInt ≤ 20
def rgP (n : Nat) (g : Nat → Int32) : Prop := ∀ j, j < n → 0 ≤ (g j).toInt ∧ (g j).toInt < 6400
def rgO (g : Nat → Int32) : Prop := ∀ j, j < 300 → 0 ≤ (g j).toInt ∧ (g j).toInt < 24
def rgD (g : Nat → Int32) : Prop := ∀ j, j < 300 → (-1 ≤ (g j).toInt ∧ (g j).toInt < 17) ∨ (100 ≤ (g j).toInt ∧ (g j).toInt < 120)
def rkI (kI : ClassId) (n : Nat) (P : (Nat → Int32) → Prop) (e : va_E) : Prop := ∃ g : Nat → Int32, e = .inl (kI, n, .inl g) ∧ P g
def rkJ (kJ : ClassId) (n : Nat) (P : (Nat → Int64) → Prop) (e : va_E) : Prop := ∃ g : Nat → Int64, e = .inl (kJ, n, .inr (.inl g)) ∧ P g
def rk10 (K : Nat → Nat) (L : List Nat) (e : va_E) : Prop := ∃ (s1 s2 s3 s4 s5 s6 s7 : Nat) (pa lm : Int32) (s8 s9 s10 : Nat) (fm : Int32) (s11 : Nat) (nm : Int32) (s12 s13 s14 : Nat) (rm : Int32) (s15 s16 s17 s18 : Nat), e = .inr (3, [.ref s1, .ref s2, .ref s3, .ref s4, .ref s5, .ref s6, .ref s7, .int pa, .int lm, .ref s8, .ref s9, .ref s10, .int fm, .ref s11, .int nm, .ref s12, .ref s13, .ref s14, .int rm, .ref s15, .ref s16, .ref s17, .ref s18]) ∧ isr K L 11 s1 ∧ isr K L 12 s2 ∧ isr K L 13 s3 ∧ isr K L 14 s4 ∧ isr K L 15 s5 ∧ isr K L 16 s6 ∧ isr K L 17 s7 ∧ (0 ≤ lm.toInt ∧ lm.toInt ≤ 300) ∧ isr K L 18 s8 ∧ isr K L 19 s9 ∧ isr K L 20 s10 ∧ (0 ≤ fm.toInt ∧ fm.toInt ≤ 24) ∧ isr K L 21 s11 ∧ (0 ≤ nm.toInt ∧ nm.toInt ≤ 300) ∧ isr K L 22 s12 ∧ isr K L 23 s13 ∧ isr K L 24 s14 ∧ r01 rm ∧ isr K L 25 s15 ∧ isr K L 26 s16 ∧ isr K L 27 s17 ∧ isr K L 28 s18
def okr (kI kJ kZ : ClassId) (K : Nat → Nat) (L : List Nat) (k : Nat) (e : va_E) : Prop := match k with
  | 10 => rk10 K L e
  | 11 => rkI kI 12 rgS e
  | 12 => rkI kI 6400 (fun _ => True) e
  | 13 => rkJ kJ 108800 rgF e
  | 14 => rkI kI 6400 rgR e
  | 15 => rkI kI 128000 (fun _ => True) e
  | 16 => rkI kZ 6400 (fun _ => True) e
  | 17 => rkI kI 6400 (rgP 6400) e
  | 18 => rkI kI 300 rgO e
  | 19 => rkI kI 300 rgD e
  | 20 => rkJ kJ 300 (fun _ => True) e
  | 21 => rkI kI 25 (rgP 25) e
  | 22 => rkI kI 300 rgO e
  | 23 => rkI kI 300 rgD e
  | 24 => rkJ kJ 300 (fun _ => True) e
  | 25 => rkI kI 24 (rgP 24) e
  | 26 => rkI kI 300 (fun _ => True) e
  | 27 => rkI kI 300 (fun _ => True) e
  | 28 => rkJ kJ 300 (fun _ => True) e
  | _ => False
def PR (kI kJ kZ : ClassId) (K : Nat → Nat) (L : List Nat) (f : Nat → va_E) : Prop := ∀ a, a ∈ L → okr kI kJ kZ K L (K a) (f a)
section RTYP
variable {kI kJ kZ : ClassId} {K : Nat → Nat} {L : List Nat} {f : Nat → va_E} {x k : Nat} {e : va_E}
theorem PR.at (h : PR kI kJ kZ K L f) (hx : isr K L k x) : okr kI kJ kZ K L k (f x) := by
  have := h x hx.1
  rw [hx.2] at this
  exact this
theorem PR.put (h : PR kI kJ kZ K L f) (hx : isr K L k x) (he : okr kI kJ kZ K L k e) : PR kI kJ kZ K L (va_up f x e) := fun a ha => by
  by_cases ea : a = x
  · subst ea
    rw [va_up_self, hx.2]
    exact he
  · rw [va_up_ne _ _ ea]
    exact h a ha
theorem PR.a10 (h : PR kI kJ kZ K L f) (hx : isr K L 10 x) : rk10 K L (f x) := h.at hx
theorem PR.a11 (h : PR kI kJ kZ K L f) (hx : isr K L 11 x) : rkI kI 12 rgS (f x) := h.at hx
theorem PR.a12 (h : PR kI kJ kZ K L f) (hx : isr K L 12 x) : rkI kI 6400 (fun _ => True) (f x) := h.at hx
theorem PR.a13 (h : PR kI kJ kZ K L f) (hx : isr K L 13 x) : rkJ kJ 108800 rgF (f x) := h.at hx
theorem PR.a14 (h : PR kI kJ kZ K L f) (hx : isr K L 14 x) : rkI kI 6400 rgR (f x) := h.at hx
theorem PR.a15 (h : PR kI kJ kZ K L f) (hx : isr K L 15 x) : rkI kI 128000 (fun _ => True) (f x) := h.at hx
theorem PR.a16 (h : PR kI kJ kZ K L f) (hx : isr K L 16 x) : rkI kZ 6400 (fun _ => True) (f x) := h.at hx
theorem PR.a17 (h : PR kI kJ kZ K L f) (hx : isr K L 17 x) : rkI kI 6400 (rgP 6400) (f x) := h.at hx
theorem PR.a18 (h : PR kI kJ kZ K L f) (hx : isr K L 18 x) : rkI kI 300 rgO (f x) := h.at hx
theorem PR.a19 (h : PR kI kJ kZ K L f) (hx : isr K L 19 x) : rkI kI 300 rgD (f x) := h.at hx
theorem PR.a20 (h : PR kI kJ kZ K L f) (hx : isr K L 20 x) : rkJ kJ 300 (fun _ => True) (f x) := h.at hx
theorem PR.a21 (h : PR kI kJ kZ K L f) (hx : isr K L 21 x) : rkI kI 25 (rgP 25) (f x) := h.at hx
theorem PR.a22 (h : PR kI kJ kZ K L f) (hx : isr K L 22 x) : rkI kI 300 rgO (f x) := h.at hx
theorem PR.a23 (h : PR kI kJ kZ K L f) (hx : isr K L 23 x) : rkI kI 300 rgD (f x) := h.at hx
theorem PR.a24 (h : PR kI kJ kZ K L f) (hx : isr K L 24 x) : rkJ kJ 300 (fun _ => True) (f x) := h.at hx
theorem PR.a25 (h : PR kI kJ kZ K L f) (hx : isr K L 25 x) : rkI kI 24 (rgP 24) (f x) := h.at hx
theorem PR.a26 (h : PR kI kJ kZ K L f) (hx : isr K L 26 x) : rkI kI 300 (fun _ => True) (f x) := h.at hx
theorem PR.a27 (h : PR kI kJ kZ K L f) (hx : isr K L 27 x) : rkI kI 300 (fun _ => True) (f x) := h.at hx
theorem PR.a28 (h : PR kI kJ kZ K L f) (hx : isr K L 28 x) : rkJ kJ 300 (fun _ => True) (f x) := h.at hx
end RTYP
-- arithmetic of the places
theorem mul_toInt {x y z : Int32} (e : z = x * y) (h0 : 0 ≤ x.toInt * y.toInt) (h1 : x.toInt * y.toInt < 2147483648) : z.toInt = x.toInt * y.toInt := by
  rw [e, Int32.toInt_mul]
  exact Int.bmod_eq_of_le (by omega) (by omega)
theorem mul17 {x z : Int32} (e : z = 17 * x) (h0 : 0 ≤ x.toInt) (h1 : x.toInt < 6400) : z.toInt = 17 * x.toInt := by
  have e17 : (17 : Int32).toInt = 17 := by decide
  rw [mul_toInt e (by rw [e17]; omega) (by rw [e17]; omega), e17]
theorem mul20 {x z : Int32} (e : z = 20 * x) (h0 : 0 ≤ x.toInt) (h1 : x.toInt < 6400) : z.toInt = 20 * x.toInt := by
  have e17 : (20 : Int32).toInt = 20 := by decide
  rw [mul_toInt e (by rw [e17]; omega) (by rw [e17]; omega), e17]
theorem add_toInt {x y z : Int32} (e : z = x + y) (h0 : -2147483648 ≤ x.toInt + y.toInt) (h1 : x.toInt + y.toInt < 2147483648) : z.toInt = x.toInt + y.toInt := by
  rw [e, Int32.toInt_add]
  exact Int.bmod_eq_of_le (by omega) (by omega)
theorem sub_toInt2 {x y z : Int32} (e : z = x - y) (h0 : -2147483648 ≤ x.toInt - y.toInt) (h1 : x.toInt - y.toInt < 2147483648) : z.toInt = x.toInt - y.toInt := by
  rw [e, Int32.toInt_sub]
  exact Int.bmod_eq_of_le (by omega) (by omega)
theorem l2i_sm {x : Int64} {z : Int32} (e : z = x.toInt32) (h0 : -2147483648 ≤ x.toInt) (h1 : x.toInt < 2147483648) : z.toInt = x.toInt := by
  rw [e, Int64.toInt_toInt32]
  exact Int.bmod_eq_of_le (by omega) (by omega)
theorem rgF.at {g : Nat → Int64} (h : rgF g) {o f w : Int32} (ho : 0 ≤ o.toInt ∧ o.toInt < 6400) (hf : f.toInt = 8 ∨ f.toInt = 11 ∨ f.toInt = 15) (hw : w.toInt = 17 * o.toInt + f.toInt) : -1 ≤ (g (Int32.toNatClampNeg w)).toInt ∧ (g (Int32.toNatClampNeg w)).toInt < 6400 := by
  have e1 := clamp_int ho.1
  have e2 := clamp_int (i := f) (by omega)
  have e3 := clamp_int (i := w) (by omega)
  have e : Int32.toNatClampNeg w = 17 * Int32.toNatClampNeg o + Int32.toNatClampNeg f := by omega
  rw [e]
  exact h _ _ (by omega) (by omega)
theorem updS {g : Nat → Int32} {P : Int32 → Prop} {n k : Nat} {v : Int32} (h : ∀ j, j < n → P (g j)) (hv : P v) : ∀ j, j < n → P (upd g k v j) := fun j hj => by
  by_cases e : j = k
  · rw [e, pk_us]; exact hv
  · rw [pk_un e]; exact h j hj
/-- a plain field is written: the links stay -/
theorem rgF.plain {g : Nat → Int64} (h : rgF g) {o f w : Int32} {v : Int64} (ho : 0 ≤ o.toInt ∧ o.toInt < 6400) (hf : 0 ≤ f.toInt ∧ f.toInt < 17 ∧ ¬ (f.toInt = 8 ∨ f.toInt = 11 ∨ f.toInt = 15)) (hw : w.toInt = 17 * o.toInt + f.toInt) : rgF (vp_updL g (Int32.toNatClampNeg w) v) := fun a b ha hb => by
  have e1 := clamp_int ho.1
  have e2 := clamp_int (i := f) hf.1
  have e3 := clamp_int (i := w) (by omega)
  rw [pk_uLn (by omega)]
  exact h a b ha hb
/-- a link is written -/
theorem rgF.link {g : Nat → Int64} (h : rgF g) {k : Nat} {v : Int64} (hv : -1 ≤ v.toInt ∧ v.toInt < 6400) : rgF (vp_updL g k v) := fun a b ha hb => by
  by_cases e : 17 * a + b = k
  · rw [e, pk_uLs]; exact hv
  · rw [pk_uLn e]; exact h a b ha hb
/-- an answer 0 says that the slot holds an object -/
def rless (kI : ClassId) (f : Nat → va_E) (g0 k : Nat) (r : Int32) : Prop := r.toInt = 0 → ∀ (s1 : Nat) (l : List Value) (g : Nat → Int32), f g0 = .inr (3, .ref s1 :: l) → f s1 = .inl (kI, 12, .inl g) → ¬ (g k).toInt = -1
theorem rl_mk {kI : ClassId} {f : Nat → va_E} {g0 k s1 : Nat} {l : List Value} {g : Nat → Int32} {r : Int32} (e1 : f g0 = .inr (3, .ref s1 :: l)) (e2 : f s1 = .inl (kI, 12, .inl g)) (h : ¬ (g k).toInt = -1) : rless kI f g0 k r := fun _ s2 l2 g2 h1 h2 => by
  have a := e1.symm.trans h1
  injection a with a
  injection a with _ a
  injection a with a _
  injection a with a
  subst a
  have b := e2.symm.trans h2
  injection b with b
  injection b with _ b
  injection b with _ b
  injection b with b
  subst b
  exact h
/-- a set of kinds -/
def sK (l : List Nat) (k : Nat) : Bool := l.contains k
/-- the one row of kind k1 says fields, the one of kind k2 values: a row's length is told as 0 to 20 -/
def XL (kI kJ : ClassId) (K : Nat → Nat) (L : List Nat) (f : Nat → va_E) (k1 k2 : Nat) : Prop := ∀ (q1 q2 : Nat) (gf : Nat → Int32) (gv : Nat → Int64), isr K L k1 q1 → isr K L k2 q2 → f q1 = .inl (kI, 300, .inl gf) → f q2 = .inl (kJ, 300, .inr (.inl gv)) → ∀ j, j < 300 → (gf j).toInt = 9 → 0 ≤ (gv j).toInt ∧ (gv j).toInt ≤ 20
def UN (K : Nat → Nat) (L : List Nat) : Prop := ∀ a b, a ∈ L → b ∈ L → K a = K b → a = b
theorem XL.fr {kI kJ : ClassId} {K : Nat → Nat} {L : List Nat} {f f2 : Nat → va_E} {k1 k2 : Nat} {S : Nat → Bool} (h : XL kI kJ K L f k1 k2) (hfr : FR S K L f f2) (h1 : S k1 = false) (h2 : S k2 = false) : XL kI kJ K L f2 k1 k2 := fun q1 q2 gf gv i1 i2 e1 e2 => h q1 q2 gf gv i1 i2 ((hfr q1 i1.1 (by rw [i1.2]; exact h1)).symm.trans e1) ((hfr q2 i2.1 (by rw [i2.2]; exact h2)).symm.trans e2)
theorem XL.mk {kI kJ : ClassId} {K : Nat → Nat} {L : List Nat} {f : Nat → va_E} {k1 k2 q1 q2 : Nat} {gf : Nat → Int32} {gv : Nat → Int64} (hU : UN K L) (i1 : isr K L k1 q1) (i2 : isr K L k2 q2) (e1 : f q1 = .inl (kI, 300, .inl gf)) (e2 : f q2 = .inl (kJ, 300, .inr (.inl gv))) (h : ∀ j, j < 300 → (gf j).toInt = 9 → 0 ≤ (gv j).toInt ∧ (gv j).toInt ≤ 20) : XL kI kJ K L f k1 k2 := fun p1 p2 hf hv j1 j2 d1 d2 => by
  have a1 := hU q1 p1 i1.1 j1.1 (i1.2.trans j1.2.symm)
  have a2 := hU q2 p2 i2.1 j2.1 (i2.2.trans j2.2.symm)
  subst a1
  subst a2
  have b := e1.symm.trans d1
  injection b with b
  injection b with _ b
  injection b with _ b
  injection b with b
  subst b
  have b := e2.symm.trans d2
  injection b with b
  injection b with _ b
  injection b with _ b
  injection b with b
  injection b with b
  subst b
  exact h
theorem sK_sub {l l2 : List Nat} (h : ∀ x ∈ l2, x ∈ l) : ∀ k, sK l k = false → sK l2 k = false := fun k hk => by
  cases h2 : sK l2 k with
  | false => rfl
  | true =>
    have h3 : k ∈ l2 := List.contains_iff_mem.mp h2
    have h4 : sK l k = true := List.contains_iff_mem.mpr (h k h3)
    rw [hk] at h4
    cases h4
theorem xl_upd {gf : Nat → Int32} {gv : Nat → Int64} {k : Nat} {v : Int64} (h : ∀ j, j < 300 → (gf j).toInt = 9 → 0 ≤ (gv j).toInt ∧ (gv j).toInt ≤ 20) (hk : ¬ (gf k).toInt = 9) : ∀ j, j < 300 → (gf j).toInt = 9 → 0 ≤ (vp_updL gv k v j).toInt ∧ (vp_updL gv k v j).toInt ≤ 20 := fun j hj h9 => by
  by_cases e : j = k
  · rw [e] at h9; exact absurd h9 hk
  · rw [pk_uLn e]; exact h j hj h9
theorem xl_new {gf : Nat → Int32} {gv : Nat → Int64} {k : Nat} {d : Int32} {v : Int64} (h : ∀ j, j < 300 → (gf j).toInt = 9 → 0 ≤ (gv j).toInt ∧ (gv j).toInt ≤ 20) (hv : d.toInt = 9 → 0 ≤ v.toInt ∧ v.toInt ≤ 20) : ∀ j, j < 300 → (upd gf k d j).toInt = 9 → 0 ≤ (vp_updL gv k v j).toInt ∧ (vp_updL gv k v j).toInt ≤ 20 := fun j hj h9 => by
  by_cases e : j = k
  · rw [e, pk_us] at h9
    rw [e, pk_uLs]
    exact hv h9
  · rw [pk_un e] at h9
    rw [pk_uLn e]
    exact h j hj h9
end
section
theorem XL.up {kI kJ : ClassId} {K : Nat → Nat} {L : List Nat} {f : Nat → va_E} {k1 k2 k x : Nat} {e : va_E} (h : XL kI kJ K L f k1 k2) (hx : isr K L k x) (h1 : k1 ≠ k) (h2 : k2 ≠ k) : XL kI kJ K L (va_up f x e) k1 k2 := fun q1 q2 gf gv i1 i2 e1 e2 => h q1 q2 gf gv i1 i2 ((va_up_ne f e (isr_ne i1 hx h1)).symm.trans e1) ((va_up_ne f e (isr_ne i2 hx h2)).symm.trans e2)
end
section
-- COUNTING what is held
def cnt (z : Nat → Int32) : Nat → Nat
  | 0 => 0
  | n + 1 => cnt z n + (if z n = 0 then 0 else 1)
theorem cnt_le (z : Nat → Int32) : ∀ n, cnt z n ≤ n
  | 0 => Nat.le_refl _
  | n + 1 => by
    have := cnt_le z n
    show cnt z n + _ ≤ n + 1
    split <;> omega
theorem cnt_lt {z : Nat → Int32} {k : Nat} (hk : z k = 0) : ∀ n, k < n → cnt z n < n
  | 0, h => absurd h (Nat.not_lt_zero _)
  | n + 1, h => by
    show cnt z n + _ < n + 1
    by_cases e : k = n
    · subst e
      rw [if_pos hk]
      have := cnt_le z k
      omega
    · have := cnt_lt hk n (by omega)
      split <;> omega
theorem cnt_congr {z y : Nat → Int32} : ∀ n, (∀ j, j < n → z j = y j) → cnt z n = cnt y n
  | 0, _ => rfl
  | n + 1, h => by
    show cnt z n + _ = cnt y n + _
    rw [cnt_congr n (fun j hj => h j (by omega)), h n (by omega)]
theorem cnt_upd {z : Nat → Int32} {k : Nat} {v : Int32} (hk : z k = 0) (hv : v ≠ 0) : ∀ n, k < n → cnt (upd z k v) n = cnt z n + 1
  | 0, h => absurd h (Nat.not_lt_zero _)
  | n + 1, h => by
    show cnt (upd z k v) n + _ = cnt z n + _ + 1
    by_cases e : k = n
    · subst e
      rw [pk_us, if_neg hv, if_pos hk, cnt_congr (z := upd z k v) (y := z) k (fun j hj => pk_un (by omega))]
    · rw [cnt_upd hk hv n (by omega), pk_un (fun q => e q.symm)]
      omega
theorem cnt_free {z : Nat → Int32} {n : Nat} (h : cnt z n < n) : ∃ k, k < n ∧ z k = 0 := by
  induction n with
  | zero => exact absurd h (Nat.not_lt_zero _)
  | succ n ih =>
    by_cases e : z n = 0
    · exact ⟨n, by omega, e⟩
    · have h : cnt z n + (if z n = 0 then 0 else 1) < n + 1 := h
      rw [if_neg e] at h
      obtain ⟨k, h1, h2⟩ := ih (by omega)
      exact ⟨k, by omega, h2⟩
/-- the list of what is marked -/
def mrk (z : Nat → Int32) : Nat → List Nat
  | 0 => []
  | n + 1 => if z n = 0 then mrk z n else n :: mrk z n
theorem mrk_len (z : Nat → Int32) : ∀ n, (mrk z n).length = cnt z n
  | 0 => rfl
  | n + 1 => by
    show (if z n = 0 then mrk z n else n :: mrk z n).length = cnt z n + (if z n = 0 then 0 else 1)
    split
    · rw [mrk_len z n, Nat.add_zero]
    · rw [List.length_cons, mrk_len z n]
theorem mrk_mem {z : Nat → Int32} {o : Nat} : ∀ n, o ∈ mrk z n → o < n ∧ z o ≠ 0
  | 0, h => absurd h List.not_mem_nil
  | n + 1, h => by
    have h : o ∈ (if z n = 0 then mrk z n else n :: mrk z n) := h
    split at h
    · have := mrk_mem n h
      exact ⟨by omega, this.2⟩
    · rename_i hz
      rcases List.mem_cons.mp h with e | h
      · subst e
        exact ⟨by omega, hz⟩
      · have := mrk_mem n h
        exact ⟨by omega, this.2⟩
theorem mrk_nd (z : Nat → Int32) : ∀ n, (mrk z n).Nodup
  | 0 => List.nodup_nil
  | n + 1 => by
    show (if z n = 0 then mrk z n else n :: mrk z n).Nodup
    split
    · exact mrk_nd z n
    · exact List.nodup_cons.mpr ⟨fun h => by have := (mrk_mem n h).1; omega, mrk_nd z n⟩
/-- a list without repeats among another's members is no longer -/
theorem nd_len : ∀ (l B : List Nat), l.Nodup → (∀ o ∈ l, o ∈ B) → l.length ≤ B.length
  | [], _, _, _ => Nat.zero_le _
  | a :: l, B, hn, hs => by
    have ha := hs a List.mem_cons_self
    have hn2 := List.nodup_cons.mp hn
    have h := nd_len l (B.erase a) hn2.2 (fun o ho => by
      have ne : o ≠ a := fun e => hn2.1 (by rw [← e]; exact ho)
      exact (List.mem_erase_of_ne ne).mpr (hs o (List.mem_cons_of_mem _ ho)))
    rw [List.length_erase_of_mem ha] at h
    have := List.length_pos_of_mem ha
    simp only [List.length_cons]
    omega
/-- a cover: every member of l is of the batch of one of T, and no batch has more than 24 in l -/
theorem nd_cover (b : Nat → Nat) : ∀ (T l : List Nat), l.Nodup → (∀ o ∈ l, ∃ t ∈ T, b o = b t) → (∀ (c : Nat) (m : List Nat), m.Nodup → (∀ o ∈ m, o ∈ l ∧ b o = c) → m.length ≤ 24) → l.length ≤ 24 * T.length
  | [], l, _, hc, _ => by
    cases l with
    | nil => exact Nat.zero_le _
    | cons a l =>
      obtain ⟨t, ht, _⟩ := hc a List.mem_cons_self
      exact absurd ht List.not_mem_nil
  | t :: T, l, hn, hc, hb => by
    have h1 : (l.filter (fun o => b o == b t)).length ≤ 24 := hb (b t) _ (hn.filter _) (fun o ho => by
      have := List.mem_filter.mp ho
      exact ⟨this.1, by simpa using this.2⟩)
    have h2 := nd_cover b T (l.filter (fun o => !(b o == b t))) (hn.filter _) (fun o ho => by
      have h := List.mem_filter.mp ho
      obtain ⟨u, hu, e⟩ := hc o h.1
      rcases List.mem_cons.mp hu with e2 | hu
      · subst e2
        have h3 := h.2
        simp [e] at h3
      · exact ⟨u, hu, e⟩) (fun c m hm hs => hb c m hm (fun o ho => ⟨(List.mem_filter.mp (hs o ho).1).1, (hs o ho).2⟩))
    have h3 : l.length = (l.filter (fun o => b o == b t)).length + (l.filter (fun o => !(b o == b t))).length := by
      clear h1 h2 hb hc hn
      induction l with
      | nil => rfl
      | cons a l ih =>
        by_cases e : b a == b t
        · simp [e, ih]; omega
        · simp [e, ih]; omega
    simp only [List.length_cons]
    omega
end
section
-- WHAT HOLDS WHAT in the reference: slots fS, classes fC, fields fF
def lkf (f : Nat) : Prop := f = 8 ∨ f = 11 ∨ f = 15
def hasP (c f : Int) : Prop := (c = 0 ∧ f < 10) ∨ (c = 1 ∧ f < 12) ∨ (c = 2 ∧ f < 14) ∨ (c = 3 ∧ (f = 14 ∨ f = 15)) ∨ (¬ c = 0 ∧ ¬ c = 1 ∧ ¬ c = 2 ∧ ¬ c = 3 ∧ f = 16)
def tgt (fF : Nat → Int64) (o f : Nat) : Nat := (fF (17 * o + f)).toInt.toNat
/-- the object o holds another through its field f -/
def lnk (fC : Nat → Int32) (fF : Nat → Int64) (o f : Nat) : Prop := lkf f ∧ hasP (fC o).toInt (f : Int) ∧ ¬ (fF (17 * o + f)).toInt = -1
/-- P holds of the slots' objects and goes along with what is held -/
def CL (fS fC : Nat → Int32) (fF : Nat → Int64) (P : Nat → Prop) : Prop := (∀ j, j < 12 → ¬ (fS j).toInt = -1 → P (fS j).toInt.toNat) ∧ ∀ o f, P o → lnk fC fF o f → P (tgt fF o f)
/-- z marks just what is held -/
def MK (fS fC : Nat → Int32) (fF : Nat → Int64) (z : Nat → Int32) : Prop := (∀ j, j < 12 → ¬ (fS j).toInt = -1 → z (fS j).toInt.toNat ≠ 0) ∧ (∀ o f, o < 6400 → z o ≠ 0 → lnk fC fF o f → z (tgt fF o f) ≠ 0) ∧ ∀ P : Nat → Prop, CL fS fC fF P → ∀ o, o < 6400 → z o ≠ 0 → P o
/-- A: what is alive; b: the batch of a place; E: the places and fields that link wrote; B: the places that ever were born -/
def GA (fS fC : Nat → Int32) (fF : Nat → Int64) (A : Nat → Prop) (b : Nat → Nat) (E : List (Nat × Nat)) (B : List Nat) : Prop := CL fS fC fF A ∧ (∀ o, A o → o < 6400 ∧ o ∈ B) ∧ (∀ o f, A o → lnk fC fF o f → (o, f) ∈ E ∨ b (tgt fF o f) = b o) ∧ ∀ (c : Nat) (l : List Nat), l.Nodup → (∀ o ∈ l, A o ∧ b o = c) → l.length ≤ 24
def GI (fS fC : Nat → Int32) (fF : Nat → Int64) (nE nB : Nat) : Prop := ∃ (A : Nat → Prop) (b : Nat → Nat) (E : List (Nat × Nat)) (B : List Nat), GA fS fC fF A b E B ∧ E.length ≤ nE ∧ B.length ≤ nB
section GHOST
variable {fS fC : Nat → Int32} {fF : Nat → Int64} {A : Nat → Prop} {b : Nat → Nat} {E : List (Nat × Nat)} {B : List Nat} {z : Nat → Int32} {nE nB : Nat}
/-- how many are held -/
theorem gi_count (h : GA fS fC fF A b E B) (hM : MK fS fC fF z) : cnt z 6400 ≤ B.length ∧ cnt z 6400 ≤ 24 * (12 + E.length) := by
  obtain ⟨hC, hB, hE, hb⟩ := h
  have hP : CL fS fC fF (fun o => A o ∧ ∃ t ∈ (List.range 12).map (fun j => (fS j).toInt.toNat) ++ E.map (fun p => tgt fF p.1 p.2), b o = b t) := by
    refine ⟨fun j hj hs => ⟨hC.1 j hj hs, _, List.mem_append_left _ (List.mem_map.mpr ⟨j, List.mem_range.mpr hj, rfl⟩), rfl⟩, fun o f hp hl => ?_⟩
    obtain ⟨ha, t, ht, e⟩ := hp
    refine ⟨hC.2 o f ha hl, ?_⟩
    rcases hE o f ha hl with h1 | h1
    · exact ⟨_, List.mem_append_right _ (List.mem_map.mpr ⟨(o, f), h1, rfl⟩), rfl⟩
    · exact ⟨t, ht, h1.trans e⟩
  have hm : ∀ o ∈ mrk z 6400, A o ∧ ∃ t ∈ (List.range 12).map (fun j => (fS j).toInt.toNat) ++ E.map (fun p => tgt fF p.1 p.2), b o = b t := fun o ho => hM.2.2 _ hP o (mrk_mem _ ho).1 (mrk_mem _ ho).2
  rw [← mrk_len z 6400]
  refine ⟨nd_len _ _ (mrk_nd z 6400) (fun o ho => (hB o (hm o ho).1).2), ?_⟩
  have h := nd_cover b _ (mrk z 6400) (mrk_nd z 6400) (fun o ho => (hm o ho).2) (fun c m hn hs => hb c m hn (fun o ho => ⟨(hm o (hs o ho).1).1, (hs o ho).2⟩))
  simpa using h
/-- what isn't held may be taken as dead -/
theorem ga_mark (hrS : rgS fS) (hrF : rgF fF) (h : GA fS fC fF A b E B) (hM : MK fS fC fF z) : GA fS fC fF (fun o => o < 6400 ∧ z o ≠ 0) b E B := by
  obtain ⟨hC, hB, hE, hb⟩ := h
  have hin : ∀ o, o < 6400 → z o ≠ 0 → A o := fun o h1 h2 => hM.2.2 A hC o h1 h2
  refine ⟨⟨fun j hj hs => ⟨?_, hM.1 j hj hs⟩, fun o f hp hl => ⟨?_, hM.2.1 o f hp.1 hp.2 hl⟩⟩, fun o ho => hB o (hin o ho.1 ho.2), fun o f ho hl => hE o f (hin o ho.1 ho.2) hl, fun c l hn hs => hb c l hn (fun o ho => ⟨hin o (hs o ho).1.1 (hs o ho).1.2, (hs o ho).2⟩)⟩
  · have := hrS j hj
    omega
  · have := hrF o f hp.1 hl.1
    have h3 := hl.2.2
    unfold tgt
    omega
/-- a slot gets what is held already, or nothing -/
theorem gi_slot {k : Nat} {v : Int32} (h : GI fS fC fF nE nB) (hv : ¬ v.toInt = -1 → ∀ A : Nat → Prop, CL fS fC fF A → A v.toInt.toNat) : GI (upd fS k v) fC fF nE nB := by
  obtain ⟨A, b, E, B, ⟨hC, hB, hE, hb⟩, h1, h2⟩ := h
  refine ⟨A, b, E, B, ⟨⟨fun j hj hs => ?_, hC.2⟩, hB, hE, hb⟩, h1, h2⟩
  by_cases e : j = k
  · subst e
    rw [pk_us] at hs ⊢
    exact hv hs A hC
  · rw [pk_un e] at hs ⊢
    exact hC.1 j hj hs
theorem lk_lt {f : Nat} (h : lkf f) : f < 17 := by
  unfold lkf at h
  omega
theorem idx_inj {o f o2 f2 : Nat} (hf : f < 17) (hf2 : f2 < 17) (h : 17 * o + f = 17 * o2 + f2) : o = o2 ∧ f = f2 := by omega
/-- a plain field is written -/
theorem gi_plain {k : Nat} {v : Int64} (h : GI fS fC fF nE nB) (hk : ∀ o f, lkf f → ¬ 17 * o + f = k) : GI fS fC (vp_updL fF k v) nE nB := by
  have e1 : ∀ o f, lkf f → vp_updL fF k v (17 * o + f) = fF (17 * o + f) := fun o f hf => pk_uLn (hk o f hf)
  have e2 : ∀ o f, lnk fC (vp_updL fF k v) o f → lnk fC fF o f ∧ tgt (vp_updL fF k v) o f = tgt fF o f := fun o f hl => by
    obtain ⟨l1, l2, l3⟩ := hl
    rw [e1 o f l1] at l3
    exact ⟨⟨l1, l2, l3⟩, by unfold tgt; rw [e1 o f l1]⟩
  obtain ⟨A, b, E, B, ⟨hC, hB, hE, hb⟩, h1, h2⟩ := h
  exact ⟨A, b, E, B, ⟨⟨hC.1, fun o f ho hl => by rw [(e2 o f hl).2]; exact hC.2 o f ho (e2 o f hl).1⟩, hB, fun o f ho hl => by rw [(e2 o f hl).2]; exact hE o f ho (e2 o f hl).1, hb⟩, h1, h2⟩
/-- link writes: one pair more -/
theorem gi_link {o f : Nat} {v : Int64} (h : GI fS fC fF nE nB) (hf : f < 17) (hv : ¬ v.toInt = -1 → ∀ A : Nat → Prop, CL fS fC fF A → A v.toInt.toNat) : GI fS fC (vp_updL fF (17 * o + f) v) (nE + 1) nB := by
  obtain ⟨A, b, E, B, ⟨hC, hB, hE, hb⟩, h1, h2⟩ := h
  have key : ∀ o2 f2, lnk fC (vp_updL fF (17 * o + f) v) o2 f2 → (o2 = o ∧ f2 = f ∧ ¬ v.toInt = -1 ∧ tgt (vp_updL fF (17 * o + f) v) o2 f2 = v.toInt.toNat) ∨ (lnk fC fF o2 f2 ∧ tgt (vp_updL fF (17 * o + f) v) o2 f2 = tgt fF o2 f2) := fun o2 f2 hl => by
    obtain ⟨l1, l2, l3⟩ := hl
    by_cases e : 17 * o2 + f2 = 17 * o + f
    · obtain ⟨a1, a2⟩ := idx_inj (lk_lt l1) hf e
      refine Or.inl ⟨a1, a2, ?_, ?_⟩
      · rw [e, pk_uLs] at l3; exact l3
      · unfold tgt; rw [e, pk_uLs]
    · rw [pk_uLn e] at l3
      exact Or.inr ⟨⟨l1, l2, l3⟩, by unfold tgt; rw [pk_uLn e]⟩
  refine ⟨A, b, (o, f) :: E, B, ⟨⟨hC.1, fun o2 f2 ho hl => ?_⟩, hB, fun o2 f2 ho hl => ?_, hb⟩, by simp only [List.length_cons]; omega, h2⟩
  · rcases key o2 f2 hl with ⟨-, -, a3, a4⟩ | ⟨a1, a2⟩
    · rw [a4]; exact hv a3 A hC
    · rw [a2]; exact hC.2 o2 f2 ho a1
  · rcases key o2 f2 hl with ⟨a1, a2, -, -⟩ | ⟨a1, a2⟩
    · left; rw [a1, a2]; exact List.mem_cons_self
    · rw [a2]
      rcases hE o2 f2 ho a1 with h | h
      · exact Or.inl (List.mem_cons_of_mem _ h)
      · exact Or.inr h
end GHOST
end
section
section GHOST3
variable {fS fC : Nat → Int32} {fF : Nat → Int64} {A : Nat → Prop} {b : Nat → Nat} {E : List (Nat × Nat)} {B N : List Nat} {nE nB : Nat}
theorem ga_plain {k : Nat} {v : Int64} (h : GA fS fC fF A b E B) (hk : ∀ o f, lkf f → ¬ 17 * o + f = k) : GA fS fC (vp_updL fF k v) A b E B := by
  have e1 : ∀ o f, lkf f → vp_updL fF k v (17 * o + f) = fF (17 * o + f) := fun o f hf => pk_uLn (hk o f hf)
  have e2 : ∀ o f, lnk fC (vp_updL fF k v) o f → lnk fC fF o f ∧ tgt (vp_updL fF k v) o f = tgt fF o f := fun o f hl => by
    obtain ⟨l1, l2, l3⟩ := hl
    rw [e1 o f l1] at l3
    exact ⟨⟨l1, l2, l3⟩, by unfold tgt; rw [e1 o f l1]⟩
  obtain ⟨hC, hB, hE, hb⟩ := h
  exact ⟨⟨hC.1, fun o f ho hl => by rw [(e2 o f hl).2]; exact hC.2 o f ho (e2 o f hl).1⟩, hB, fun o f ho hl => by rw [(e2 o f hl).2]; exact hE o f ho (e2 o f hl).1, hb⟩
/-- a link within a batch -/
theorem ga_in {o f : Nat} {v : Int64} (h : GA fS fC fF A b E B) (hf : f < 17) (hv : A v.toInt.toNat ∧ b v.toInt.toNat = b o) : GA fS fC (vp_updL fF (17 * o + f) v) A b E B := by
  obtain ⟨hC, hB, hE, hb⟩ := h
  have key : ∀ o2 f2, lnk fC (vp_updL fF (17 * o + f) v) o2 f2 → (o2 = o ∧ tgt (vp_updL fF (17 * o + f) v) o2 f2 = v.toInt.toNat) ∨ (lnk fC fF o2 f2 ∧ tgt (vp_updL fF (17 * o + f) v) o2 f2 = tgt fF o2 f2) := fun o2 f2 hl => by
    obtain ⟨l1, l2, l3⟩ := hl
    by_cases e : 17 * o2 + f2 = 17 * o + f
    · exact Or.inl ⟨(idx_inj (lk_lt l1) hf e).1, by unfold tgt; rw [e, pk_uLs]⟩
    · rw [pk_uLn e] at l3
      exact Or.inr ⟨⟨l1, l2, l3⟩, by unfold tgt; rw [pk_uLn e]⟩
  refine ⟨⟨hC.1, fun o2 f2 ho hl => ?_⟩, hB, fun o2 f2 ho hl => ?_, hb⟩
  · rcases key o2 f2 hl with ⟨-, a2⟩ | ⟨a1, a2⟩
    · rw [a2]; exact hv.1
    · rw [a2]; exact hC.2 o2 f2 ho a1
  · rcases key o2 f2 hl with ⟨a1, a2⟩ | ⟨a1, a2⟩
    · rw [a2, a1]; exact Or.inr hv.2
    · rw [a2]; exact hE o2 f2 ho a1
theorem ga_slot {k : Nat} {v : Int32} (h : GA fS fC fF A b E B) (hv : ¬ v.toInt = -1 → A v.toInt.toNat) : GA (upd fS k v) fC fF A b E B := by
  obtain ⟨hC, hB, hE, hb⟩ := h
  refine ⟨⟨fun j hj hs => ?_, hC.2⟩, hB, hE, hb⟩
  by_cases e : j = k
  · subst e
    rw [pk_us] at hs ⊢
    exact hv hs
  · rw [pk_un e] at hs ⊢
    exact hC.1 j hj hs
/-- a batch in the making: its places N, beside what was alive -/
def GN (fS fC : Nat → Int32) (fF : Nat → Int64) (A : Nat → Prop) (b : Nat → Nat) (E : List (Nat × Nat)) (B N : List Nat) : Prop := GA fS fC fF (fun x => A x ∨ x ∈ N) (fun x => if x ∈ N then 0 else b x + 1) E (N ++ B) ∧ (∀ x ∈ N, ¬ A x) ∧ N.length ≤ 24
theorem gn_0 (h : GA fS fC fF A b E B) : GN fS fC fF A b E B [] := by
  obtain ⟨hC, hB, hE, hb⟩ := h
  refine ⟨⟨⟨fun j hj hs => Or.inl (hC.1 j hj hs), fun o f ho hl => ?_⟩, fun o ho => ?_, fun o f ho hl => ?_, fun c l hn hs => ?_⟩, fun x hx => absurd hx List.not_mem_nil, Nat.zero_le _⟩
  · rcases ho with ho | ho
    · exact Or.inl (hC.2 o f ho hl)
    · exact absurd ho List.not_mem_nil
  · rcases ho with ho | ho
    · exact hB o ho
    · exact absurd ho List.not_mem_nil
  · rcases ho with ho | ho
    · rcases hE o f ho hl with h | h
      · exact Or.inl h
      · right; simp [h]
    · exact absurd ho List.not_mem_nil
  · cases c with
    | zero =>
      cases l with
      | nil => exact Nat.zero_le _
      | cons a l =>
        have := (hs a List.mem_cons_self).2
        simp at this
    | succ c =>
      refine hb c l hn (fun o ho => ?_)
      have h := hs o ho
      rcases h.1 with h1 | h1
      · exact ⟨h1, by simpa using h.2⟩
      · exact absurd h1 List.not_mem_nil
/-- a birth -/
theorem gn_born {o : Nat} {c : Int32} {fG : Nat → Int64} (h : GN fS fC fF A b E B N) (ho : o < 6400) (hA : ¬ A o) (hN : o ∉ N) (hlen : N.length + 1 ≤ 24) (h1 : ∀ o2 f, lkf f → o2 ≠ o → fG (17 * o2 + f) = fF (17 * o2 + f)) (h2 : ∀ f, lkf f → (fG (17 * o + f)).toInt = -1) : GN fS (upd fC o c) fG A b E B (o :: N) := by
  obtain ⟨⟨hC, hB, hE, hb⟩, hd, -⟩ := h
  have key : ∀ x f, lnk (upd fC o c) fG x f → x ≠ o ∧ lnk fC fF x f ∧ tgt fG x f = tgt fF x f := fun x f hl => by
    obtain ⟨l1, l2, l3⟩ := hl
    have ne : x ≠ o := fun e => by
      subst e
      exact l3 (h2 f l1)
    rw [h1 x f l1 ne] at l3
    rw [pk_un ne] at l2
    exact ⟨ne, ⟨l1, l2, l3⟩, by unfold tgt; rw [h1 x f l1 ne]⟩
  have up : ∀ x, (A x ∨ x ∈ N) → (A x ∨ x ∈ o :: N) := fun x hx => hx.elim Or.inl (fun q => Or.inr (List.mem_cons_of_mem _ q))
  have dn : ∀ x, x ≠ o → (A x ∨ x ∈ o :: N) → (A x ∨ x ∈ N) := fun x ne hx => hx.elim Or.inl (fun q => (List.mem_cons.mp q).elim (fun e => absurd e ne) Or.inr)
  have nm : ∀ x, (A x ∨ x ∈ N) → x ≠ o := fun x hx e => by
    subst e
    exact hx.elim hA hN
  have bb : ∀ x, x ≠ o → (if x ∈ o :: N then 0 else b x + 1) = (if x ∈ N then 0 else b x + 1) := fun x ne => by
    by_cases hx : x ∈ N
    · rw [if_pos (List.mem_cons_of_mem _ hx), if_pos hx]
    · rw [if_neg (fun q => (List.mem_cons.mp q).elim ne hx), if_neg hx]
  refine ⟨⟨⟨fun j hj hs => up _ (hC.1 j hj hs), fun x f hx hl => ?_⟩, fun x hx => ?_, fun x f hx hl => ?_, fun d l hn hs => ?_⟩, fun x hx => ?_, by simpa using hlen⟩
  · obtain ⟨ne, hl2, e⟩ := key x f hl
    rw [e]
    exact up _ (hC.2 x f (dn x ne hx) hl2)
  · by_cases e : x = o
    · subst e
      exact ⟨ho, List.mem_append_left _ List.mem_cons_self⟩
    · have := hB x (dn x e hx)
      refine ⟨this.1, ?_⟩
      rcases List.mem_append.mp this.2 with q | q
      · exact List.mem_append_left _ (List.mem_cons_of_mem _ q)
      · exact List.mem_append_right _ q
  · obtain ⟨ne, hl2, e⟩ := key x f hl
    rw [e]
    rcases hE x f (dn x ne hx) hl2 with q | q
    · exact Or.inl q
    · right
      have nt := nm _ (hC.2 x f (dn x ne hx) hl2)
      show (if tgt fF x f ∈ o :: N then 0 else b (tgt fF x f) + 1) = (if x ∈ o :: N then 0 else b x + 1)
      rw [bb _ nt, bb _ ne]
      exact q
  · cases d with
    | zero =>
      have : l.length ≤ (o :: N).length := nd_len l (o :: N) hn (fun x hx => by
        have h := (hs x hx).2
        by_cases q : x ∈ o :: N
        · exact q
        · simp [q] at h)
      simp only [List.length_cons] at this
      omega
    | succ d =>
      refine hb (d + 1) l hn (fun x hx => ?_)
      have h := hs x hx
      have ne : x ≠ o := fun e => by
        have := h.2
        simp [e] at this
      exact ⟨dn x ne h.1, (bb x ne).symm.trans h.2⟩
  · rcases List.mem_cons.mp hx with e | q
    · subst e; exact hA
    · exact hd x q
theorem gn_end (h : GN fS fC fF A b E B N) (hE : E.length ≤ nE) (hB : B.length ≤ nB) : GI fS fC fF nE (nB + N.length) := ⟨_, _, _, _, h.1, hE, by simp only [List.length_append]; omega⟩
end GHOST3
end
section
-- the reference's rows as functions, and what holds of them
def SV (kI kJ : ClassId) (K : Nat → Nat) (L : List Nat) (f : Nat → va_E) (fS fC : Nat → Int32) (fF : Nat → Int64) : Prop := (∀ q, isr K L 11 q → f q = .inl (kI, 12, .inl fS)) ∧ (∀ q, isr K L 12 q → f q = .inl (kI, 6400, .inl fC)) ∧ ∀ q, isr K L 13 q → f q = .inl (kJ, 108800, .inr (.inl fF))
def GX (kI kJ : ClassId) (K : Nat → Nat) (L : List Nat) (f : Nat → va_E) (nE nB : Nat) : Prop := ∃ (fS fC : Nat → Int32) (fF : Nat → Int64), SV kI kJ K L f fS fC fF ∧ GI fS fC fF nE nB
section SVS
variable {kI kJ : ClassId} {K : Nat → Nat} {L : List Nat} {f f2 : Nat → va_E} {fS fC : Nat → Int32} {fF : Nat → Int64} {nE nB : Nat} {S : Nat → Bool}
theorem SV.mk {q1 q2 q3 : Nat} (hU : UN K L) (i1 : isr K L 11 q1) (i2 : isr K L 12 q2) (i3 : isr K L 13 q3) (e1 : f q1 = .inl (kI, 12, .inl fS)) (e2 : f q2 = .inl (kI, 6400, .inl fC)) (e3 : f q3 = .inl (kJ, 108800, .inr (.inl fF))) : SV kI kJ K L f fS fC fF := ⟨fun q h => by
  have := hU q1 q i1.1 h.1 (i1.2.trans h.2.symm)
  rw [← this]; exact e1, fun q h => by
  have := hU q2 q i2.1 h.1 (i2.2.trans h.2.symm)
  rw [← this]; exact e2, fun q h => by
  have := hU q3 q i3.1 h.1 (i3.2.trans h.2.symm)
  rw [← this]; exact e3⟩
theorem SV.fr (h : SV kI kJ K L f fS fC fF) (hfr : FR S K L f f2) (h1 : S 11 = false) (h2 : S 12 = false) (h3 : S 13 = false) : SV kI kJ K L f2 fS fC fF := ⟨fun q i => (hfr q i.1 (by rw [i.2]; exact h1)).trans (h.1 q i), fun q i => (hfr q i.1 (by rw [i.2]; exact h2)).trans (h.2.1 q i), fun q i => (hfr q i.1 (by rw [i.2]; exact h3)).trans (h.2.2 q i)⟩
/-- a call that leaves slots, classes and fields alone -/
theorem GX.fr (h : GX kI kJ K L f nE nB) (hfr : FR S K L f f2) (h1 : S 11 = false) (h2 : S 12 = false) (h3 : S 13 = false) : GX kI kJ K L f2 nE nB := by
  obtain ⟨fS, fC, fF, hS, hG⟩ := h
  exact ⟨fS, fC, fF, hS.fr hfr h1 h2 h3, hG⟩
theorem rkI.of {n : Nat} {P : (Nat → Int32) → Prop} {e : va_E} {g : Nat → Int32} (h : rkI kI n P e) (he : e = .inl (kI, n, .inl g)) : P g := by
  obtain ⟨g2, e2, hp⟩ := h
  have b := e2.symm.trans he
  injection b with b
  injection b with _ b
  injection b with _ b
  injection b with b
  subst b
  exact hp
theorem rkJ.of {n : Nat} {P : (Nat → Int64) → Prop} {e : va_E} {g : Nat → Int64} (h : rkJ kJ n P e) (he : e = .inl (kJ, n, .inr (.inl g))) : P g := by
  obtain ⟨g2, e2, hp⟩ := h
  have b := e2.symm.trans he
  injection b with b
  injection b with _ b
  injection b with _ b
  injection b with b
  injection b with b
  subst b
  exact hp
theorem plain_ne {o f w : Int32} (ho : 0 ≤ o.toInt) (hf : 0 ≤ f.toInt ∧ f.toInt < 17 ∧ ¬ (f.toInt = 8 ∨ f.toInt = 11 ∨ f.toInt = 15)) (hw : w.toInt = 17 * o.toInt + f.toInt) : ∀ a b, lkf b → ¬ 17 * a + b = Int32.toNatClampNeg w := fun a b hb => by
  have e1 := clamp_int ho
  have e3 := clamp_int (i := w) (by omega)
  unfold lkf at hb
  omega
end SVS
end
section
section LINKS
variable {kI kJ : ClassId} {K : Nat → Nat} {L : List Nat} {f2 : Nat → va_E} {fS fC : Nat → Int32} {fF : Nat → Int64} {nE nB : Nat}
theorem GX.up (h : GX kI kJ K L f2 nE nB) : GX kI kJ K L f2 (nE + 1) nB := by
  obtain ⟨fS, fC, fF, hS, A, b, E, B, h1, h2, h3⟩ := h
  exact ⟨fS, fC, fF, hS, A, b, E, B, h1, by omega, h3⟩
theorem idx_clamp {o f w : Int32} (ho : 0 ≤ o.toInt) (hf : 0 ≤ f.toInt) (hw : w.toInt = 17 * o.toInt + f.toInt) : Int32.toNatClampNeg w = 17 * Int32.toNatClampNeg o + Int32.toNatClampNeg f := by
  have e1 := clamp_int ho
  have e2 := clamp_int hf
  have e3 := clamp_int (i := w) (by omega)
  omega
theorem follow_in {A : Nat → Prop} (hA : CL fS fC fF A) {s f o w z4 : Int32} {v : Int64} (hs : 0 ≤ s.toInt ∧ s.toInt < 12) (eo : o = fS (Int32.toNatClampNeg s)) (ho : 0 ≤ o.toInt ∧ o.toInt < 6400) (hf : f.toInt = 8 ∨ f.toInt = 11 ∨ f.toInt = 15) (hw : w.toInt = 17 * o.toInt + f.toInt) (hh : hasP (fC (Int32.toNatClampNeg o)).toInt f.toInt) (ev : v = fF (Int32.toNatClampNeg w)) (hz : z4.toInt = v.toInt) (hn : ¬ z4.toInt = -1) : A z4.toInt.toNat := by
  have e1 := clamp_int hs.1
  have e2 := clamp_int (i := f) (by omega)
  have hAo : A (Int32.toNatClampNeg o) := by
    have := hA.1 (Int32.toNatClampNeg s) (by omega) (by rw [← eo]; omega)
    rw [← eo] at this
    exact this
  rw [idx_clamp ho.1 (by omega) hw] at ev
  have hl : lnk fC fF (Int32.toNatClampNeg o) (Int32.toNatClampNeg f) := ⟨by unfold lkf; omega, by rw [e2]; exact hh, by rw [← ev]; omega⟩
  have := hA.2 _ _ hAo hl
  unfold tgt at this
  rw [← ev, ← hz] at this
  exact this
theorem link_ok {s f o w t u : Int32} (h : GI fS fC fF nE nB) (ho : 0 ≤ o.toInt) (hf : 0 ≤ f.toInt ∧ f.toInt < 17) (hw : w.toInt = 17 * o.toInt + f.toInt) (ht : 0 ≤ t.toInt ∧ t.toInt < 12) (eu : u = fS (Int32.toNatClampNeg t)) : GI fS fC (vp_updL fF (Int32.toNatClampNeg w) (Int32.toInt64 u)) (nE + 1) nB := by
  have e2 := clamp_int hf.1
  have e1 := clamp_int ht.1
  rw [idx_clamp ho hf.1 hw]
  refine gi_link h (by omega) (fun hn A hA => ?_)
  have e3 := Int32.toInt_toInt64 u
  rw [e3] at hn ⊢
  have := hA.1 (Int32.toNatClampNeg t) (by omega) (by rw [← eu]; exact hn)
  rw [← eu] at this
  exact this
end LINKS
end
section
-- THE PILE of lookWhatIsHeld: z marks, p the pile of height top, s slots looked at, o the object whose links below g have been looked at
def WL (fS fC : Nat → Int32) (fF : Nat → Int64) (z p : Nat → Int32) (top s : Int) (o : Nat) (g : Int) : Prop := (0 ≤ top ∧ top ≤ (cnt z 6400 : Int)) ∧ (∀ i : Nat, (i : Int) < top → z (p i).toInt.toNat ≠ 0) ∧ (∀ j : Nat, j < 12 → (j : Int) < s → ¬ (fS j).toInt = -1 → z (fS j).toInt.toNat ≠ 0) ∧ (∀ P : Nat → Prop, CL fS fC fF P → ∀ x, x < 6400 → z x ≠ 0 → P x) ∧ ∀ x, x < 6400 → z x ≠ 0 → (∃ i : Nat, (i : Int) < top ∧ (p i).toInt = (x : Int)) ∨ (∀ f, lnk fC fF x f → z (tgt fF x f) ≠ 0) ∨ (x = o ∧ ∀ f : Nat, (f : Int) < g → lnk fC fF x f → z (tgt fF x f) ≠ 0)
section WORK
variable {fS fC : Nat → Int32} {fF : Nat → Int64} {z p : Nat → Int32} {top s g : Int} {o : Nat}
theorem wl_0 (hz : ∀ j, j < 6400 → z j = 0) : WL fS fC fF z p 0 0 6400 0 := ⟨⟨Int.le_refl _, by omega⟩, fun i h => by omega, fun j _ h => by omega, fun P _ x hx h => absurd (hz x hx) h, fun x hx h => absurd (hz x hx) h⟩
theorem upd_ne0 {x y : Nat} {v : Int32} (hv : v ≠ 0) (h : z y ≠ 0) : upd z x v y ≠ 0 := by
  by_cases e : y = x
  · rw [e, pk_us]; exact hv
  · rw [pk_un e]; exact h
theorem wl_push {x : Nat} {v xv : Int32} (h : WL fS fC fF z p top s o g) (hx : x < 6400) (hz : z x = 0) (hv : v ≠ 0) (hxv : xv.toInt = (x : Int)) (hP : ∀ P : Nat → Prop, CL fS fC fF P → P x) : WL fS fC fF (upd z x v) (upd p top.toNat xv) (top + 1) s o g := by
  obtain ⟨⟨h1, h2⟩, h3, h4, h5, h6⟩ := h
  have hc := cnt_upd hz hv 6400 hx
  refine ⟨⟨by omega, by omega⟩, fun i hi => ?_, fun j hj hs hn => upd_ne0 hv (h4 j hj hs hn), fun P hC y hy hn => ?_, fun y hy hn => ?_⟩
  · by_cases e : i = top.toNat
    · rw [e, pk_us, hxv]
      show upd z x v (x : Int).toNat ≠ 0
      rw [Int.toNat_natCast, pk_us]
      exact hv
    · rw [pk_un e]
      exact upd_ne0 hv (h3 i (by omega))
  · by_cases e : y = x
    · subst e; exact hP P hC
    · rw [pk_un e] at hn
      exact h5 P hC y hy hn
  · by_cases e : y = x
    · subst e
      exact Or.inl ⟨top.toNat, by omega, by rw [pk_us]; exact hxv⟩
    · rw [pk_un e] at hn
      rcases h6 y hy hn with ⟨i, hi, e2⟩ | h | ⟨e2, h⟩
      · exact Or.inl ⟨i, by omega, by rw [pk_un (by omega)]; exact e2⟩
      · exact Or.inr (Or.inl fun f hl => upd_ne0 hv (h f hl))
      · exact Or.inr (Or.inr ⟨e2, fun f hf hl => upd_ne0 hv (h f hf hl)⟩)
theorem wl_slot {k : Nat} (h : WL fS fC fF z p top s o g) (hk : (k : Int) = s) (hs : ¬ (fS k).toInt = -1 → z (fS k).toInt.toNat ≠ 0) : WL fS fC fF z p top (s + 1) o g := by
  obtain ⟨h1, h3, h4, h5, h6⟩ := h
  refine ⟨h1, h3, fun j hj hjs hn => ?_, h5, h6⟩
  by_cases e : j = k
  · subst e; exact hs hn
  · exact h4 j hj (by omega) hn
theorem wl_pop {t : Nat} {ov : Int32} (h : WL fS fC fF z p top s 6400 0) (ht : (t : Int) + 1 = top) (e : ov = p t) (h0 : 0 ≤ ov.toInt) : WL fS fC fF z p (t : Int) s ov.toInt.toNat 8 := by
  obtain ⟨⟨h1, h2⟩, h3, h4, h5, h6⟩ := h
  refine ⟨⟨by omega, by omega⟩, fun i hi => h3 i (by omega), h4, h5, fun x hx hn => ?_⟩
  rcases h6 x hx hn with ⟨i, hi, e2⟩ | h | ⟨e2, h⟩
  · by_cases ei : i = t
    · subst ei
      rw [← e] at e2
      refine Or.inr (Or.inr ⟨by omega, fun f hf hl => ?_⟩)
      have := hl.1
      unfold lkf at this
      omega
    · exact Or.inl ⟨i, by omega, e2⟩
  · exact Or.inr (Or.inl h)
  · omega
theorem wl_link {k : Nat} (h : WL fS fC fF z p top s o g) (hk : (k : Int) = g) (hl : lnk fC fF o k → z (tgt fF o k) ≠ 0) : WL fS fC fF z p top s o (g + 1) := by
  obtain ⟨h1, h3, h4, h5, h6⟩ := h
  refine ⟨h1, h3, h4, h5, fun x hx hn => ?_⟩
  rcases h6 x hx hn with h | h | ⟨e2, h⟩
  · exact Or.inl h
  · exact Or.inr (Or.inl h)
  · refine Or.inr (Or.inr ⟨e2, fun f hf hl2 => ?_⟩)
    by_cases e : f = k
    · subst e; subst e2; exact hl hl2
    · exact h f (by omega) hl2
theorem wl_done (h : WL fS fC fF z p top s o 16) : WL fS fC fF z p top s 6400 0 := by
  obtain ⟨h1, h3, h4, h5, h6⟩ := h
  refine ⟨h1, h3, h4, h5, fun x hx hn => ?_⟩
  rcases h6 x hx hn with h | h | ⟨e2, h⟩
  · exact Or.inl h
  · exact Or.inr (Or.inl h)
  · refine Or.inr (Or.inl fun f hl => h f ?_ hl)
    have := hl.1
    unfold lkf at this
    omega
theorem wl_end (h : WL fS fC fF z p 0 12 6400 0) : MK fS fC fF z := by
  obtain ⟨h1, h3, h4, h5, h6⟩ := h
  refine ⟨fun j hj hs => h4 j hj (by omega) hs, fun x f hx hn hl => ?_, h5⟩
  rcases h6 x hx hn with ⟨i, hi, -⟩ | h | ⟨e2, -⟩
  · omega
  · exact h f hl
  · omega
/-- where something is unmarked the pile has room -/
theorem wl_room {x : Nat} (h : WL fS fC fF z p top s o g) (hx : x < 6400) (hz : z x = 0) : top < 6400 := by
  have := cnt_lt hz 6400 hx
  have := h.1
  omega
theorem wl_P {x : Nat} (h : WL fS fC fF z p top s o g) (hx : x < 6400) (hn : z x ≠ 0) : ∀ P : Nat → Prop, CL fS fC fF P → P x := fun P hC => h.2.2.2.1 P hC x hx hn
theorem wl_m {x : Nat} {v : Int32} (hx : x < 6400) (hz : z x = 0) (hv : v ≠ 0) : 6400 - cnt (upd z x v) 6400 + 1 = 6400 - cnt z 6400 := by
  have h1 := cnt_upd hz hv 6400 hx
  have h2 := cnt_le (upd z x v) 6400
  omega
end WORK
/-- the marks' row -/
def ZV (kZ : ClassId) (K : Nat → Nat) (L : List Nat) (f : Nat → va_E) (z : Nat → Int32) : Prop := ∀ q, isr K L 16 q → f q = .inl (kZ, 6400, .inl z)
def PV (kI : ClassId) (K : Nat → Nat) (L : List Nat) (f : Nat → va_E) (z : Nat → Int32) : Prop := ∀ q, isr K L 17 q → f q = .inl (kI, 6400, .inl z)
theorem ZV.mk {kZ : ClassId} {K : Nat → Nat} {L : List Nat} {f : Nat → va_E} {z : Nat → Int32} {q : Nat} (hU : UN K L) (i : isr K L 16 q) (e : f q = .inl (kZ, 6400, .inl z)) : ZV kZ K L f z := fun q2 h => by
  rw [← hU q q2 i.1 h.1 (i.2.trans h.2.symm)]; exact e
theorem PV.mk {kI : ClassId} {K : Nat → Nat} {L : List Nat} {f : Nat → va_E} {z : Nat → Int32} {q : Nat} (hU : UN K L) (i : isr K L 17 q) (e : f q = .inl (kI, 6400, .inl z)) : PV kI K L f z := fun q2 h => by
  rw [← hU q q2 i.1 h.1 (i.2.trans h.2.symm)]; exact e
end
section
theorem zi_step {z : Nat → Int32} {i i2 : Int32} (h : ∀ j : Nat, (j : Int) < i.toInt → z j = 0) (h0 : 0 ≤ i.toInt) (e : i2.toInt = i.toInt + 1) : ∀ j : Nat, (j : Int) < i2.toInt → upd z (Int32.toNatClampNeg i) (vp_nar .boolean 0) j = 0 := fun j hj => by
  have e0 : vp_nar .boolean 0 = 0 := by decide
  have hc := clamp_int h0
  by_cases ej : j = Int32.toNatClampNeg i
  · rw [ej, pk_us]; exact e0
  · rw [pk_un ej]; exact h j (by omega)
theorem nz1 : vp_nar .boolean 1 ≠ 0 := by decide
theorem z_of {z : Nat → Int32} {k : Nat} {v : Int32} (e : v = z k) (h : v.toInt = 0) : z k = 0 := by
  rw [← e]
  exact Int32.toInt_inj.mp (h.trans (by decide))
theorem z_ne {z : Nat → Int32} {k : Nat} {v : Int32} (e : v = z k) (h : ¬ v.toInt = 0) : z k ≠ 0 := fun h2 => h (by rw [e, h2]; decide)
theorem dec_toInt {x y : Int32} (e : y = x + (-1)) (h : 0 < x.toInt) : y.toInt = x.toInt - 1 := by
  have h2 := Int32.toInt_lt x
  rw [e, Int32.toInt_add]
  have e1 : (-1 : Int32).toInt = -1 := by decide
  rw [e1]
  exact Int.bmod_eq_of_le (by omega) (by omega)
theorem tgt_eq {fF : Nat → Int64} {o f w u : Int32} {v : Int64} (ho : 0 ≤ o.toInt) (hf : 0 ≤ f.toInt) (hw : w.toInt = 17 * o.toInt + f.toInt) (ev : v = fF (Int32.toNatClampNeg w)) (hz : u.toInt = v.toInt) : tgt fF (Int32.toNatClampNeg o) (Int32.toNatClampNeg f) = Int32.toNatClampNeg u := by
  unfold tgt
  rw [← idx_clamp ho hf hw, ← ev, ← hz]
  rfl
theorem lnk_mk {fC : Nat → Int32} {fF : Nat → Int64} {o f w u c : Int32} {v : Int64} (ho : 0 ≤ o.toInt) (hf : f.toInt = 8 ∨ f.toInt = 11 ∨ f.toInt = 15) (hw : w.toInt = 17 * o.toInt + f.toInt) (ec : c = fC (Int32.toNatClampNeg o)) (hc : hasP c.toInt f.toInt) (ev : v = fF (Int32.toNatClampNeg w)) (hz : u.toInt = v.toInt) (hn : ¬ u.toInt = -1) : lnk fC fF (Int32.toNatClampNeg o) (Int32.toNatClampNeg f) := by
  have e2 := clamp_int (i := f) (by omega)
  refine ⟨by unfold lkf; omega, by rw [e2, ← ec]; exact hc, ?_⟩
  rw [← idx_clamp ho (by omega) hw, ← ev]
  omega
end
section
-- A BIRTH: the first free place, and the fields it gets
def LF (z : Nat → Int32) (o : Nat) : Prop := o < 6400 ∧ z o = 0 ∧ ∀ j, j < o → z j ≠ 0
theorem LF.one {z : Nat → Int32} {o p : Nat} (h : LF z o) (h2 : LF z p) : o = p := by
  rcases Nat.lt_trichotomy o p with q | q | q
  · exact absurd h.2.1 (h2.2.2 o q)
  · exact q
  · exact absurd h2.2.1 (h.2.2 p q)
def BG (fF fG : Nat → Int64) (o : Nat) (i : Int) : Prop := (∀ o2 f, lkf f → o2 ≠ o → fG (17 * o2 + f) = fF (17 * o2 + f)) ∧ ∀ f, lkf f → (f : Int) < i → (fG (17 * o + f)).toInt = -1
section BORN
variable {fS fC : Nat → Int32} {fF fG : Nat → Int64} {z : Nat → Int32} {nE nB : Nat}
theorem bg_0 {o : Nat} : BG fF fF o 0 := ⟨fun _ _ _ _ => rfl, fun f _ h => by omega⟩
theorem bg_step {o i w : Int32} {v : Int64} (h : BG fF fG (Int32.toNatClampNeg o) i.toInt) (ho : 0 ≤ o.toInt) (hi : 0 ≤ i.toInt ∧ i.toInt < 17) (hw : w.toInt = 17 * o.toInt + i.toInt) (hv : v.toInt = -1 ∨ ¬ (i.toInt = 8 ∨ i.toInt = 11 ∨ i.toInt = 15)) : BG fF (vp_updL fG (Int32.toNatClampNeg w) v) (Int32.toNatClampNeg o) (i.toInt + 1) := by
  have e := idx_clamp ho hi.1 hw
  have ei := clamp_int hi.1
  rw [e]
  refine ⟨fun o2 f hf hn => ?_, fun f hf hl => ?_⟩
  · rw [pk_uLn (fun q => hn (idx_inj (lk_lt hf) (by omega) q).1)]
    exact h.1 o2 f hf hn
  · by_cases q : f = Int32.toNatClampNeg i
    · subst q
      rw [pk_uLs]
      rcases hv with hv | hv
      · exact hv
      · unfold lkf at hf
        omega
    · rw [pk_uLn (fun q2 => q (idx_inj (lk_lt hf) (by omega) q2).2)]
      exact h.2 f hf (by omega)
theorem bg_plain {o i w : Int32} {v : Int64} (h : BG fF fG (Int32.toNatClampNeg o) 17) (ho : 0 ≤ o.toInt) (hi : 0 ≤ i.toInt ∧ i.toInt < 17) (hw : w.toInt = 17 * o.toInt + i.toInt) (hv : ¬ (i.toInt = 8 ∨ i.toInt = 11 ∨ i.toInt = 15)) : BG fF (vp_updL fG (Int32.toNatClampNeg w) v) (Int32.toNatClampNeg o) 17 := by
  have e := idx_clamp ho hi.1 hw
  have ei := clamp_int hi.1
  rw [e]
  have ne : ∀ f, lkf f → f ≠ Int32.toNatClampNeg i := fun f hf q => by
    unfold lkf at hf
    omega
  refine ⟨fun o2 f hf hn => ?_, fun f hf hl => ?_⟩
  · rw [pk_uLn (fun q => hn (idx_inj (lk_lt hf) (by omega) q).1)]
    exact h.1 o2 f hf hn
  · rw [pk_uLn (fun q2 => ne f hf (idx_inj (lk_lt hf) (by omega) q2).2)]
    exact h.2 f hf (by omega)
theorem lf_step {i i2 : Int32} (h : ∀ j : Nat, (j : Int) < i.toInt → z j ≠ 0) (h0 : 0 ≤ i.toInt) (hz : z (Int32.toNatClampNeg i) ≠ 0) (e : i2.toInt = i.toInt + 1) : ∀ j : Nat, (j : Int) < i2.toInt → z j ≠ 0 := fun j hj => by
  have hc := clamp_int h0
  by_cases q : j = Int32.toNatClampNeg i
  · rw [q]; exact hz
  · exact h j (by omega)
theorem lf_lt {i : Int32} (h : ∀ j : Nat, (j : Int) < i.toInt → z j ≠ 0) (hc : cnt z 6400 < 6400) : i.toInt < 6400 := by
  obtain ⟨k, h1, h2⟩ := cnt_free hc
  by_cases q : i.toInt < 6400
  · exact q
  · exact absurd h2 (h k (by omega))
theorem lf_mk {i : Int32} (h : ∀ j : Nat, (j : Int) < i.toInt → z j ≠ 0) (h0 : 0 ≤ i.toInt ∧ i.toInt < 6400) (hz : z (Int32.toNatClampNeg i) = 0) : LF z (Int32.toNatClampNeg i) := by
  have hc := clamp_int h0.1
  exact ⟨by omega, hz, fun j hj => h j (by omega)⟩
theorem look_room (h : GI fS fC fF nE nB) (hM : MK fS fC fF z) (hcap : 24 * (12 + nE) ≤ 6376 ∨ nB ≤ 6376) : cnt z 6400 ≤ 6376 := by
  obtain ⟨A, b, E, B, hG, h1, h2⟩ := h
  have := gi_count hG hM
  omega
theorem gi_mono {nB2 : Nat} (h : GI fS fC fF nE nB) (hn : nB ≤ nB2) : GI fS fC fF nE nB2 := by
  obtain ⟨A, b, E, B, hG, h1, h2⟩ := h
  exact ⟨A, b, E, B, hG, h1, by omega⟩
theorem make_gi {o k : Nat} {c v : Int32} (hrS : rgS fS) (hrF : rgF fF) (h : GI fS fC fF nE nB) (hM : MK fS fC fF z) (hL : LF z o) (hB : BG fF fG o 17) (hv : v.toInt.toNat = o) : GI (upd fS k v) (upd fC o c) fG nE (nB + 24) := by
  obtain ⟨A, b, E, B, hG, h1, h2⟩ := h
  have g1 := gn_0 (ga_mark hrS hrF hG hM)
  have g2 := gn_born (c := c) g1 hL.1 (fun q => q.2 hL.2.1) List.not_mem_nil (by decide) hB.1 (fun f hf => hB.2 f hf (by have := lk_lt hf; omega))
  have g3 := ga_slot (k := k) (v := v) g2.1 (fun _ => Or.inr (by rw [hv]; exact List.mem_cons_self))
  exact ⟨_, _, _, _, g3, h1, by simp only [List.length_append, List.length_cons, List.length_nil]; omega⟩
end BORN
theorem GX.mono {kI kJ : ClassId} {K : Nat → Nat} {L : List Nat} {f2 : Nat → va_E} {nE nB nB2 : Nat} (h : GX kI kJ K L f2 nE nB) (hn : nB ≤ nB2) : GX kI kJ K L f2 nE nB2 := by
  obtain ⟨fS, fC, fF, hS, hG⟩ := h
  exact ⟨fS, fC, fF, hS, gi_mono hG hn⟩
end
section
-- THE ORDER of the leaves' objects; what the object's own ints are
def vAt (e : va_E) (i : Nat) : Int := match e with
  | .inr (_, l) => (match l[i]? with
    | some (.int v) => v.toInt
    | _ => 0)
  | _ => 0
def KP (f f2 : Nat → va_E) (g : Nat) : Prop := vAt (f2 g) 7 = vAt (f g) 7 ∧ vAt (f2 g) 8 = vAt (f g) 8
def OB (kI : ClassId) (K : Nat → Nat) (L : List Nat) (f : Nat → va_E) (k i : Nat) (c : Int) : Prop := ∀ (g q : Nat) (gO : Nat → Int32), isr K L 10 g → isr K L k q → f q = .inl (kI, 300, .inl gO) → ∀ j : Nat, (j : Int) < vAt (f g) i → (gO j).toInt ≤ c
def OR (kI : ClassId) (K : Nat → Nat) (L : List Nat) (f : Nat → va_E) (k i : Nat) : Prop := ∀ (g q : Nat) (gO : Nat → Int32), isr K L 10 g → isr K L k q → f q = .inl (kI, 300, .inl gO) → ∀ j : Nat, (j : Int) < vAt (f g) i → (gO j).toInt ≤ (gO ((vAt (f g) i).toNat - 1)).toInt
def XN (kI kJ : ClassId) (K : Nat → Nat) (L : List Nat) (f0 : Nat → va_E) (g : Nat) (c : Int) (f : Nat → va_E) : Prop := XL kI kJ K L f 23 24 ∧ (OB kI K L f 22 14 c ∧ OR kI K L f 22 14) ∧ KP f0 f g
section ORDER
variable {kI kJ : ClassId} {K : Nat → Nat} {L : List Nat} {f f1 f2 : Nat → va_E} {k i g q x : Nat} {c c2 : Int} {gO : Nat → Int32} {S : Nat → Bool}
theorem KP.rf : KP f f g := ⟨rfl, rfl⟩
theorem KP.tr (h : KP f f1 g) (h2 : KP f1 f2 g) : KP f f2 g := ⟨h2.1.trans h.1, h2.2.trans h.2⟩
theorem KP.same (h : KP f f1 g) (e : f2 g = f1 g) : KP f f2 g := ⟨by rw [e]; exact h.1, by rw [e]; exact h.2⟩
theorem KP.put {a b : va_E} (h : KP f f1 g) (e1 : f1 g = a) (e2 : f2 g = b) (hv : vAt b 7 = vAt a 7 ∧ vAt b 8 = vAt a 8) : KP f f2 g := ⟨by rw [e2, hv.1, ← e1]; exact h.1, by rw [e2, hv.2, ← e1]; exact h.2⟩
theorem OB.mk {m : Int} (hU : UN K L) (hg : isr K L 10 g) (hq : isr K L k q) (e : f q = .inl (kI, 300, .inl gO)) (em : vAt (f g) i = m) (h : ∀ j : Nat, (j : Int) < m → (gO j).toInt ≤ c) : OB kI K L f k i c := fun g2 q2 gP hg2 hq2 e2 j hj => by
  have a := hU g g2 hg.1 hg2.1 (hg.2.trans hg2.2.symm)
  have b := hU q q2 hq.1 hq2.1 (hq.2.trans hq2.2.symm)
  subst a
  subst b
  have d := e.symm.trans e2
  injection d with d
  injection d with _ d
  injection d with _ d
  injection d with d
  subst d
  rw [em] at hj
  exact h j hj
theorem OR.mk {m : Int} (hU : UN K L) (hg : isr K L 10 g) (hq : isr K L k q) (e : f q = .inl (kI, 300, .inl gO)) (em : vAt (f g) i = m) (h : ∀ j : Nat, (j : Int) < m → (gO j).toInt ≤ (gO (m.toNat - 1)).toInt) : OR kI K L f k i := fun g2 q2 gP hg2 hq2 e2 j hj => by
  have a := hU g g2 hg.1 hg2.1 (hg.2.trans hg2.2.symm)
  have b := hU q q2 hq.1 hq2.1 (hq.2.trans hq2.2.symm)
  subst a
  subst b
  have d := e.symm.trans e2
  injection d with d
  injection d with _ d
  injection d with _ d
  injection d with d
  subst d
  rw [em] at hj ⊢
  exact h j hj
theorem OB.at {m : Int} (h : OB kI K L f k i c) (hg : isr K L 10 g) (hq : isr K L k q) (e : f q = .inl (kI, 300, .inl gO)) (em : vAt (f g) i = m) : ∀ j : Nat, (j : Int) < m → (gO j).toInt ≤ c := fun j hj => h g q gO hg hq e j (by rw [em]; exact hj)
theorem OR.at {m : Int} (h : OR kI K L f k i) (hg : isr K L 10 g) (hq : isr K L k q) (e : f q = .inl (kI, 300, .inl gO)) (em : vAt (f g) i = m) : ∀ j : Nat, (j : Int) < m → (gO j).toInt ≤ (gO (m.toNat - 1)).toInt := fun j hj => by
  have := h g q gO hg hq e j (by rw [em]; exact hj)
  rw [em] at this
  exact this
theorem OR.fr (h : OR kI K L f k i) (hfr : FR S K L f f2) (h1 : S 10 = false) (h2 : S k = false) : OR kI K L f2 k i := fun g q gO hg hq e j hj => by
  have eg := hfr g hg.1 (by rw [hg.2]; exact h1)
  have eq := hfr q hq.1 (by rw [hq.2]; exact h2)
  rw [eg] at hj ⊢
  exact h g q gO hg hq (eq.symm.trans e) j hj
/-- the row is kept, and the number of the leaves -/
theorem OR.kp (h : OR kI K L f k 8) (hU : UN K L) (hg : isr K L 10 g) (hfr : FR S K L f f2) (h2 : S k = false) (hk : vAt (f2 g) 8 = vAt (f g) 8) : OR kI K L f2 k 8 := fun g2 q gO hg2 hq e j hj => by
  have a := hU g g2 hg.1 hg2.1 (hg.2.trans hg2.2.symm)
  subst a
  have eq := hfr q hq.1 (by rw [hq.2]; exact h2)
  rw [hk] at hj ⊢
  exact h g q gO hg2 hq (eq.symm.trans e) j hj
theorem OR.up {e : va_E} (h : OR kI K L f k i) (hx : isr K L x q) (h1 : 10 ≠ x) (h2 : k ≠ x) : OR kI K L (va_up f q e) k i := fun g q2 gO hg hq e2 j hj => by
  rw [va_up_ne f e (isr_ne hg hx h1)] at hj ⊢
  exact h g q2 gO hg hq ((va_up_ne f e (isr_ne hq hx h2)).symm.trans e2) j hj
theorem nb_push {n o y : Int32} (h : ∀ j : Nat, (j : Int) < n.toInt → (gO j).toInt ≤ o.toInt) (hn : 0 ≤ n.toInt) (hy : y.toInt = n.toInt + 1) : ∀ j : Nat, (j : Int) < y.toInt → (upd gO (Int32.toNatClampNeg n) o j).toInt ≤ o.toInt := fun j hj => by
  have hc := clamp_int hn
  by_cases e : j = Int32.toNatClampNeg n
  · rw [e, pk_us]; exact Int.le_refl _
  · rw [pk_un e]; exact h j (by omega)
theorem or_push {n o y : Int32} (h : ∀ j : Nat, (j : Int) < n.toInt → (gO j).toInt ≤ o.toInt) (hn : 0 ≤ n.toInt) (hy : y.toInt = n.toInt + 1) : ∀ j : Nat, (j : Int) < y.toInt → (upd gO (Int32.toNatClampNeg n) o j).toInt ≤ (upd gO (Int32.toNatClampNeg n) o (y.toInt.toNat - 1)).toInt := fun j hj => by
  have hc := clamp_int hn
  have e : y.toInt.toNat - 1 = Int32.toNatClampNeg n := by omega
  rw [e, pk_us]
  exact nb_push h hn hy j hj
theorem XN.up (h : XN kI kJ K L f g c f2) (hc : c ≤ c2) : XN kI kJ K L f g c2 f2 := ⟨h.1, ⟨fun g q gO hg hq e j hj => Int.le_trans (h.2.1.1 g q gO hg hq e j hj) hc, h.2.1.2⟩, h.2.2⟩
theorem XN.zero (hU : UN K L) (hg : isr K L 10 g) (hX : XL kI kJ K L f2 23 24) (hv : vAt (f2 g) 14 = 0) (hk : KP f f2 g) : XN kI kJ K L f g c f2 := by
  have e : ∀ g2, isr K L 10 g2 → vAt (f2 g2) 14 = 0 := fun g2 hg2 => by
    have a := hU g g2 hg.1 hg2.1 (hg.2.trans hg2.2.symm)
    subst a
    exact hv
  exact ⟨hX, ⟨fun g2 q gO h2 _ _ j hj => by rw [e g2 h2] at hj; omega, fun g2 q gO h2 _ _ j hj => by rw [e g2 h2] at hj; omega⟩, hk⟩
/-- the copy of a row so far -/
theorem cp_step {gA gB : Nat → Int32} {i y : Int32} {v : Int32} (h : ∀ j : Nat, (j : Int) < i.toInt → gA j = gB j) (h0 : 0 ≤ i.toInt) (ev : v = gB (Int32.toNatClampNeg i)) (hy : y.toInt = i.toInt + 1) : ∀ j : Nat, (j : Int) < y.toInt → upd gA (Int32.toNatClampNeg i) v j = gB j := fun j hj => by
  have hc := clamp_int h0
  by_cases e : j = Int32.toNatClampNeg i
  · rw [e, pk_us]; exact ev
  · rw [pk_un e]; exact h j (by omega)
theorem cp_end {gA gB : Nat → Int32} {m : Int} (h : ∀ j : Nat, (j : Int) < m → gA j = gB j) (h2 : ∀ j : Nat, (j : Int) < m → (gB j).toInt ≤ (gB (m.toNat - 1)).toInt) : ∀ j : Nat, (j : Int) < m → (gA j).toInt ≤ (gA (m.toNat - 1)).toInt := fun j hj => by
  rw [h j hj, h (m.toNat - 1) (by omega)]
  exact h2 j hj
end ORDER
end
section
-- A BATCH in the making: what back does
def CPY (kI : ClassId) (K : Nat → Nat) (L : List Nat) (f : Nat → va_E) (ka kb : Nat) (i : Int) : Prop := ∀ (qa qb : Nat) (ga gb : Nat → Int32), isr K L ka qa → isr K L kb qb → f qa = .inl (kI, 300, .inl ga) → f qb = .inl (kI, 300, .inl gb) → ∀ j : Nat, (j : Int) < i → ga j = gb j
theorem CPY.mk {kI : ClassId} {K : Nat → Nat} {L : List Nat} {f : Nat → va_E} {ka kb qa qb : Nat} {i : Int} {ga gb : Nat → Int32} (hU : UN K L) (ia : isr K L ka qa) (ib : isr K L kb qb) (ea : f qa = .inl (kI, 300, .inl ga)) (eb : f qb = .inl (kI, 300, .inl gb)) (h : ∀ j : Nat, (j : Int) < i → ga j = gb j) : CPY kI K L f ka kb i := fun q1 q2 g1 g2 i1 i2 e1 e2 j hj => by
  have a := hU qa q1 ia.1 i1.1 (ia.2.trans i1.2.symm)
  have b := hU qb q2 ib.1 i2.1 (ib.2.trans i2.2.symm)
  subst a
  subst b
  have d := ea.symm.trans e1
  injection d with d
  injection d with _ d
  injection d with _ d
  injection d with d
  subst d
  have d := eb.symm.trans e2
  injection d with d
  injection d with _ d
  injection d with _ d
  injection d with d
  subst d
  exact h j hj
def MV (kI : ClassId) (K : Nat → Nat) (L : List Nat) (f : Nat → va_E) (z : Nat → Int32) : Prop := ∀ q, isr K L 25 q → f q = .inl (kI, 24, .inl z)
theorem MV.mk {kI : ClassId} {K : Nat → Nat} {L : List Nat} {f : Nat → va_E} {z : Nat → Int32} {q : Nat} (hU : UN K L) (i : isr K L 25 q) (e : f q = .inl (kI, 24, .inl z)) : MV kI K L f z := fun q2 h => by
  rw [← hU q q2 i.1 h.1 (i.2.trans h.2.symm)]; exact e
def BB (A : Nat → Prop) (b : Nat → Nat) (E : List (Nat × Nat)) (B : List Nat) (fS fC : Nat → Int32) (fF : Nat → Int64) (z gM : Nat → Int32) (j : Int) : Prop := ∃ N : List Nat, GN fS fC fF A b E B N ∧ (N.length : Int) = j ∧ (∀ x, A x → z x ≠ 0) ∧ (∀ x ∈ N, z x ≠ 0) ∧ (cnt z 6400 : Int) ≤ 6376 + j ∧ ∀ i : Nat, (i : Int) < j → (gM i).toInt.toNat ∈ N
section BATCH
variable {fS fC : Nat → Int32} {fF fG : Nat → Int64} {A : Nat → Prop} {b : Nat → Nat} {E : List (Nat × Nat)} {B : List Nat} {z gM : Nat → Int32} {j : Int} {nE nB : Nat}
theorem bb_0 (hrS : rgS fS) (hrF : rgF fF) (h : GA fS fC fF A b E B) (hM : MK fS fC fF z) (hc : cnt z 6400 ≤ 6376) : BB (fun o => o < 6400 ∧ z o ≠ 0) b E B fS fC fF z gM 0 := ⟨[], gn_0 (ga_mark hrS hrF h hM), rfl, fun _ h => h.2, fun x hx => absurd hx List.not_mem_nil, by omega, fun i hi => by omega⟩
theorem bb_room (h : BB A b E B fS fC fF z gM j) (hj : j < 24) : cnt z 6400 < 6400 := by
  obtain ⟨N, h1, h2, h3, h4, h5, h6⟩ := h
  omega
theorem bb_step {o k : Nat} {c v : Int32} (h : BB A b E B fS fC fF z gM j) (hL : LF z o) (hB : BG fF fG o 17) (hj : j < 24) (hv : v.toInt.toNat = o) (hk : (k : Int) = j) : BB A b E B fS (upd fC o c) fG (upd z o (vp_nar .boolean 1)) (upd gM k v) (j + 1) := by
  obtain ⟨N, h1, h2, h3, h4, h5, h6⟩ := h
  have hc := cnt_upd hL.2.1 nz1 6400 hL.1
  refine ⟨o :: N, gn_born h1 hL.1 (fun q => h3 o q hL.2.1) (fun q => h4 o q hL.2.1) (by omega) hB.1 (fun f hf => hB.2 f hf (by have := lk_lt hf; omega)), by simp only [List.length_cons]; omega, fun x hx => upd_ne0 nz1 (h3 x hx), fun x hx => ?_, by omega, fun i hi => ?_⟩
  · by_cases e : x = o
    · rw [e, pk_us]; exact nz1
    · exact upd_ne0 nz1 (h4 x ((List.mem_cons.mp hx).elim (fun q => absurd q e) id))
  · by_cases e : i = k
    · rw [e, pk_us, hv]; exact List.mem_cons_self
    · rw [pk_un e]; exact List.mem_cons_of_mem _ (h6 i (by omega))
theorem bb_plain {k : Nat} {v : Int64} (h : BB A b E B fS fC fF z gM j) (hk : ∀ o f, lkf f → ¬ 17 * o + f = k) : BB A b E B fS fC (vp_updL fF k v) z gM j := by
  obtain ⟨N, h1, h2⟩ := h
  exact ⟨N, ⟨ga_plain h1.1 hk, h1.2⟩, h2⟩
theorem bb_link {o f w p q u : Int32} (h : BB A b E B fS fC fF z gM j) (hp : 0 ≤ p.toInt ∧ p.toInt < j) (hq : 0 ≤ q.toInt ∧ q.toInt < j) (eo : o = gM (Int32.toNatClampNeg p)) (eu : u = gM (Int32.toNatClampNeg q)) (ho : 0 ≤ o.toInt) (hf : 0 ≤ f.toInt ∧ f.toInt < 17) (hw : w.toInt = 17 * o.toInt + f.toInt) : BB A b E B fS fC (vp_updL fF (Int32.toNatClampNeg w) (Int32.toInt64 u)) z gM j := by
  obtain ⟨N, h1, h2, h3, h4, h5, h6⟩ := h
  have ep := clamp_int hp.1
  have eq := clamp_int hq.1
  have ef := clamp_int hf.1
  have m1 := h6 (Int32.toNatClampNeg p) (by omega)
  have m2 := h6 (Int32.toNatClampNeg q) (by omega)
  rw [← eo] at m1
  rw [← eu] at m2
  have m1 : Int32.toNatClampNeg o ∈ N := m1
  refine ⟨N, ⟨?_, h1.2⟩, h2, h3, h4, h5, h6⟩
  rw [idx_clamp ho hf.1 hw]
  have e3 := Int32.toInt_toInt64 u
  refine ga_in h1.1 (by omega) ⟨?_, ?_⟩
  · rw [e3]; exact Or.inr m2
  · rw [e3, if_pos m2, if_pos m1]
theorem bb_end (h : BB A b E B fS fC fF z gM j) (hE : E.length ≤ nE) (hB : B.length ≤ nB) : GI fS fC fF nE (nB + 24) := by
  obtain ⟨N, h1, h2⟩ := h
  exact gi_mono (gn_end h1 hE hB) (by have := h1.2.2; omega)
theorem bb_slot {k : Nat} {v : Int32} (h : BB A b E B fS fC fF z gM j) (hE : E.length ≤ nE) (hB : B.length ≤ nB) (hj : 0 < j) (hv : v = gM (Int32.toNatClampNeg 0)) : GI (upd fS k v) fC fF nE (nB + 24) := by
  obtain ⟨N, h1, h2, h3, h4, h5, h6⟩ := h
  have m := h6 0 hj
  have e0 : Int32.toNatClampNeg 0 = 0 := by decide
  rw [e0] at hv
  rw [← hv] at m
  refine ⟨_, _, _, _, ga_slot (k := k) (v := v) h1.1 (fun _ => Or.inr m), hE, ?_⟩
  have := h1.2.2
  simp only [List.length_append]
  omega
end BATCH
end
section
-- CELLS TOLD ONE BY ONE, as a pool
section FOLD
variable {A : Nat → Prop} {K : Nat → Nat} {L : List Nat} {f : Nat → va_E} {kT kI kJ kZ : ClassId}
theorem wd_tail {y : Nat × va_E} {ws : va_W} (h : va_D A (y :: ws)) : va_D A ws := ⟨fun i j p q hi hj e => Nat.succ.inj (h.1 (i + 1) (j + 1) p q hi hj e), fun k q hk => h.2 (k + 1) q hk⟩
theorem pool_mk : ∀ (ws : List (Nat × va_E × Nat)), va_D A (ws.map (fun w => (w.1, w.2.1))) → ∃ (K : Nat → Nat) (L : List Nat) (f : Nat → va_E), va_pl L f = ws.map (fun w => (w.1, w.2.1)) ∧ (∀ w ∈ ws, isr K L w.2.2 w.1 ∧ f w.1 = w.2.1) ∧ ∀ a ∈ L, ∃ w ∈ ws, a = w.1
  | [], _ => ⟨fun _ => 0, [], fun _ => .inr (0, []), rfl, fun _ h => absurd h List.not_mem_nil, fun _ h => absurd h List.not_mem_nil⟩
  | w :: ws, hD => by
    obtain ⟨K, L, f, h1, h2, h3⟩ := pool_mk ws (wd_tail hD)
    have hn : ∀ v ∈ ws, v.1 ≠ w.1 := fun v hv e => by
      obtain ⟨i, hi⟩ := List.getElem?_of_mem (List.mem_map.mpr ⟨v, hv, rfl⟩ : (v.1, v.2.1) ∈ ws.map (fun w => (w.1, w.2.1)))
      have := hD.1 (i + 1) 0 _ _ hi rfl e
      omega
    have hq : w.1 ∉ L := fun h => by
      obtain ⟨v, hv, e⟩ := h3 _ h
      exact hn v hv e.symm
    refine ⟨va_up K w.1 w.2.2, w.1 :: L, va_up f w.1 w.2.1, ?_, fun v hv => ?_, fun a ha => ?_⟩
    · rw [← pl_cons hq, h1]
      rfl
    · rcases List.mem_cons.mp hv with e | hv
      · subst e
        exact ⟨isr.new, va_up_self _ _ _⟩
      · have := h2 v hv
        exact ⟨this.1.ext (EXT.new hq), (va_up_ne _ _ (hn v hv)).trans this.2⟩
    · rcases List.mem_cons.mp ha with e | ha
      · exact ⟨w, List.mem_cons_self, e⟩
      · obtain ⟨v, hv, e⟩ := h3 a ha
        exact ⟨v, List.mem_cons_of_mem _ hv, e⟩
theorem PI.mk {ws : List (Nat × va_E × Nat)} (h2 : ∀ w ∈ ws, isr K L w.2.2 w.1 ∧ f w.1 = w.2.1) (h3 : ∀ a ∈ L, ∃ w ∈ ws, a = w.1) (h : ∀ w ∈ ws, okc kT kI kJ K L w.2.2 w.2.1) : PI kT kI kJ K L f := fun a ha => by
  obtain ⟨w, hw, e⟩ := h3 a ha
  subst e
  rw [(h2 w hw).1.2, (h2 w hw).2]
  exact h w hw
theorem PR.mk {ws : List (Nat × va_E × Nat)} (h2 : ∀ w ∈ ws, isr K L w.2.2 w.1 ∧ f w.1 = w.2.1) (h3 : ∀ a ∈ L, ∃ w ∈ ws, a = w.1) (h : ∀ w ∈ ws, okr kI kJ kZ K L w.2.2 w.2.1) : PR kI kJ kZ K L f := fun a ha => by
  obtain ⟨w, hw, e⟩ := h3 a ha
  subst e
  rw [(h2 w hw).1.2, (h2 w hw).2]
  exact h w hw
theorem nd_inj : ∀ (ws : List (Nat × va_E × Nat)), (ws.map (fun w => w.2.2)).Nodup → ∀ w ∈ ws, ∀ v ∈ ws, w.2.2 = v.2.2 → w = v
  | [], _, _, h, _, _, _ => absurd h List.not_mem_nil
  | x :: ws, hn, w, hw, v, hv, e => by
    have h2 := List.nodup_cons.mp hn
    rcases List.mem_cons.mp hw with a | a <;> rcases List.mem_cons.mp hv with b | b
    · rw [a, b]
    · exact absurd (List.mem_map.mpr ⟨v, b, by rw [← e, a]⟩) h2.1
    · exact absurd (List.mem_map.mpr ⟨w, a, by rw [e, b]⟩) h2.1
    · exact nd_inj ws h2.2 w a v b e
theorem UN.mk {ws : List (Nat × va_E × Nat)} (h2 : ∀ w ∈ ws, isr K L w.2.2 w.1 ∧ f w.1 = w.2.1) (h3 : ∀ a ∈ L, ∃ w ∈ ws, a = w.1) (hn : (ws.map (fun w => w.2.2)).Nodup) : UN K L := fun a b ha hb e => by
  obtain ⟨w, hw, ea⟩ := h3 a ha
  obtain ⟨v, hv, eb⟩ := h3 b hb
  subst ea
  subst eb
  rw [(h2 w hw).1.2, (h2 v hv).1.2] at e
  rw [nd_inj ws hn w hw v hv e]
theorem ty_oneB {D : va_G} {cl : List vw_C} {tys : List (ClassId × FieldType)} {U : State} {a b : ClassId} (hK : va_K D cl tys U) (i j : Nat) (hi : tys[i]? = some (a, .boolean)) (hj : tys[j]? = some (b, .boolean)) : a = b := Option.some.inj ((hK.2 i _ hi).2.symm.trans (hK.2 j _ hj).2)
theorem ty_oneO {D : va_G} {cl : List vw_C} {tys : List (ClassId × FieldType)} {U : State} {a b : ClassId} {C : String} (hK : va_K D cl tys U) (i j : Nat) (hi : tys[i]? = some (a, .object C)) (hj : tys[j]? = some (b, .object C)) : a = b := by
  obtain ⟨_, _, _, _, _, h1⟩ := (hK.2 i _ hi).2
  obtain ⟨_, _, _, _, _, h2⟩ := (hK.2 j _ hj).2
  exact Option.some.inj (h1.symm.trans h2)
end FOLD
theorem gi_0 {fS fC : Nat → Int32} {fF : Nat → Int64} (h : ∀ j, j < 12 → fS j = -1) : GI fS fC fF 0 0 := ⟨fun _ => False, fun _ => 0, [], [], ⟨⟨fun j hj hs => hs (by rw [h j hj]; decide), fun _ _ h _ => h⟩, fun _ h => h.elim, fun _ _ h _ => h.elim, fun c l _ hs => by
  cases l with
  | nil => exact Nat.zero_le _
  | cons a l => exact (hs a List.mem_cons_self).1.elim⟩, Nat.le_refl _, Nat.le_refl _⟩
theorem i32_0 : Int32.toInt 0 = 0 := by decide
theorem i64_0 : Int64.toInt 0 = 0 := by decide
end
section
set_option maxRecDepth 20000 in
theorem oi_k_X0_init : Cond.code objectInit ⟨#[0xb1]⟩ 1 none ∈ wsX0_init := List.mem_of_getElem? (i := 3) rfl
set_option maxRecDepth 20000 in
theorem oi_k_X2_init : Cond.code objectInit ⟨#[0xb1]⟩ 1 none ∈ wsX2_init := List.mem_of_getElem? (i := 3) rfl
set_option maxRecDepth 20000 in
theorem oi_k_X3_init : Cond.code objectInit ⟨#[0xb1]⟩ 1 none ∈ wsX3_init := List.mem_of_getElem? (i := 3) rfl
end
section
-- THE LAW'S STATE: the class's pool and the reference's, side by side
def DJ (U V : va_W) : Prop := ∀ p ∈ U, ∀ q ∈ V, p.1 ≠ q.1
section DJS
variable {D : va_G} {cl : List vw_C} {U V V' : va_W} {H H1 : Heap} {A : Nat → Prop}
theorem DJ.symm (h : DJ U V) : DJ V U := fun p hp q hq e => h q hq p hp e.symm
theorem wp_lt (hP : va_P D cl U H) {p : Nat × va_E} (hp : p ∈ U) : p.1 < H.size := by
  obtain ⟨k, hk⟩ := List.getElem?_of_mem hp
  exact (hP k p hk).lt
theorem dj_A (hP : va_P D cl U H) (hd : DJ U V) {p : Nat × va_E} (hp : p ∈ U) : ¬ va_A V H.size p.1 := fun h => by
  rcases h with ⟨k, e, h⟩ | h
  · exact hd p hp _ (List.mem_of_getElem? h) rfl
  · exact absurd (wp_lt hP hp) (Nat.not_lt.mpr h)
theorem dj_keep (hP : va_P D cl U H) (hd : DJ U V) (hk : ∀ q : Nat, q < H.size → ¬ va_A V H.size q → H1[q]? = H[q]?) : va_P D cl U H1 :=
  hP.kept (fun k q h => hk q.1 (hP k q h).lt (dj_A hP hd (List.mem_of_getElem? h)))
theorem dj_new (hP : va_P D cl U H) (hd : DJ U V) (hD : va_D (va_A V H.size) V') : DJ U V' := fun p hp q hq e => by
  obtain ⟨k, hk⟩ := List.getElem?_of_mem hq
  have h := hD.2 k q hk
  rw [← e] at h
  exact dj_A hP hd hp h
theorem dj_app (h : va_D A (U ++ V)) : DJ U V := fun p hp q hq e => by
  obtain ⟨i, hi⟩ := List.getElem?_of_mem hp
  obtain ⟨j, hj⟩ := List.getElem?_of_mem hq
  have li := (List.getElem?_eq_some_iff.mp hi).1
  have h1 : (U ++ V)[i]? = some p := by rw [List.getElem?_append_left li]; exact hi
  have h2 : (U ++ V)[U.length + j]? = some q := by rw [List.getElem?_append_right (by omega), Nat.add_sub_cancel_left]; exact hj
  have := h.1 _ _ _ _ h1 h2 e
  omega
theorem wp_left (h : va_P D cl (U ++ V) H) : va_P D cl U H := fun k q hk => h k q (by rw [List.getElem?_append_left (List.getElem?_eq_some_iff.mp hk).1]; exact hk)
theorem wp_right (h : va_P D cl (U ++ V) H) : va_P D cl V H := fun k q hk => h (U.length + k) q (by rw [List.getElem?_append_right (by omega), Nat.add_sub_cancel_left]; exact hk)
theorem wd_left (h : va_D A (U ++ V)) : va_D A U := ⟨fun i j p q hi hj e => h.1 i j p q (by rw [List.getElem?_append_left (List.getElem?_eq_some_iff.mp hi).1]; exact hi) (by rw [List.getElem?_append_left (List.getElem?_eq_some_iff.mp hj).1]; exact hj) e, fun k q hk => h.2 k q (by rw [List.getElem?_append_left (List.getElem?_eq_some_iff.mp hk).1]; exact hk)⟩
theorem wd_right (h : va_D A (U ++ V)) : va_D A V := ⟨fun i j p q hi hj e => by
  have := h.1 (U.length + i) (U.length + j) p q (by rw [List.getElem?_append_right (by omega), Nat.add_sub_cancel_left]; exact hi) (by rw [List.getElem?_append_right (by omega), Nat.add_sub_cancel_left]; exact hj) e
  omega, fun k q hk => h.2 (U.length + k) q (by rw [List.getElem?_append_right (by omega), Nat.add_sub_cancel_left]; exact hk)⟩
end DJS
def RJ (kI kJ kZ : ClassId) (K : Nat → Nat) (L : List Nat) (f : Nat → va_E) (g0 nE nJ : Nat) : Prop := PR kI kJ kZ K L f ∧ UN K L ∧ isr K L 10 g0 ∧ XL kI kJ K L f 23 24 ∧ XL kI kJ K L f 19 20 ∧ OR kI K L f 18 8 ∧ GX kI kJ K L f nE (24 * nJ)
def LI (dC : Nat → ClassId) (dI : Nat → Nat → Nat) (A : Nat → Prop) (kT kI kJ kZ : ClassId) (h0 g0 n : Nat) (H : Heap) : Prop := ∃ (K1 : Nat → Nat) (L1 : List Nat) (f1 : Nat → va_E) (K2 : Nat → Nat) (L2 : List Nat) (f2 : Nat → va_E) (nE nJ : Nat), (PI kT kI kJ K1 L1 f1 ∧ isr K1 L1 2 h0) ∧ RJ kI kJ kZ K2 L2 f2 g0 nE nJ ∧ nE + nJ ≤ n ∧ (va_P (dC, dI) vwCl (va_pl L1 f1) H ∧ va_D A (va_pl L1 f1)) ∧ (va_P (dC, dI) vwCl (va_pl L2 f2) H ∧ va_D A (va_pl L2 f2)) ∧ DJ (va_pl L1 f1) (va_pl L2 f2)
section RJS
variable {kI kJ kZ : ClassId} {K : Nat → Nat} {L : List Nat} {f f2 : Nat → va_E} {g0 nE nJ : Nat} {S : Nat → Bool}
/-- a call that leaves slots, classes, fields, leaves and the object alone -/
theorem RJ.fr (h : RJ kI kJ kZ K L f g0 nE nJ) (hP : PR kI kJ kZ K L f2) (hfr : FR S K L f f2) (h10 : S 10 = false) (h18 : S 18 = false) (h19 : S 19 = false) (h20 : S 20 = false) (h23 : S 23 = false) (h24 : S 24 = false) {nE2 nJ2 : Nat} (hG : GX kI kJ K L f2 nE2 (24 * nJ2)) : RJ kI kJ kZ K L f2 g0 nE2 nJ2 := ⟨hP, h.2.1, h.2.2.1, h.2.2.2.1.fr hfr h23 h24, h.2.2.2.2.1.fr hfr h19 h20, h.2.2.2.2.2.1.fr hfr h10 h18, hG⟩
end RJS
theorem gj_1 {nJ : Nat} : 24 * (nJ + 1) = 24 * nJ + 24 := by omega
end
section
-- VIEWS of cells: what an object's fields and a row's places hold
def cI (e : va_E) (i : Nat) : Int32 := match e with
  | .inr (_, l) => (match l[i]? with
    | some (.int v) => v
    | _ => 0)
  | _ => 0
def cR (e : va_E) (i : Nat) : Option Nat := match e with
  | .inr (_, l) => (match l[i]? with
    | some (.ref v) => some v
    | _ => none)
  | _ => none
def cP (e : va_E) (i : Nat) : Nat := (cR e i).getD 0
def aI (e : va_E) : Nat → Int32 := match e with
  | .inl (_, _, .inl g) => g
  | _ => fun _ => 0
def aJ (e : va_E) : Nat → Int64 := match e with
  | .inl (_, _, .inr (.inl g)) => g
  | _ => fun _ => 0
def aR (e : va_E) : Nat → Option Nat := match e with
  | .inl (_, _, .inr (.inr (.inr (.inr g)))) => g
  | _ => fun _ => none
def aN (e : va_E) : Nat := match e with
  | .inl (_, n, _) => n
  | _ => 0
/-- writes: a place of a row, a field of an object -/
def s_R (f : Nat → va_E) (a j : Nat) (o : Option Nat) : Nat → va_E := va_up f a (match f a with
  | .inl (c, n, .inr (.inr (.inr (.inr g)))) => .inl (c, n, .inr (.inr (.inr (.inr (va_up g j o)))))
  | e => e)
def s_J (f : Nat → va_E) (a j : Nat) (v : Int64) : Nat → va_E := va_up f a (match f a with
  | .inl (c, n, .inr (.inl g)) => .inl (c, n, .inr (.inl (vp_updL g j v)))
  | e => e)
def s_I (f : Nat → va_E) (a j : Nat) (v : Int32) : Nat → va_E := va_up f a (match f a with
  | .inl (c, n, .inl g) => .inl (c, n, .inl (upd g j v))
  | e => e)
def s_F (f : Nat → va_E) (a i : Nat) (v : Value) : Nat → va_E := va_up f a (match f a with
  | .inr (c, l) => .inr (c, l.set i v)
  | e => e)
-- the class: slots, an object's class, values, links, row; a list's rows
def g_sl (f : Nat → va_E) (h : Nat) : Nat → Option Nat := aR (f (cP (f h) 0))
def g_cn (f : Nat → va_E) (t : Nat) : Int32 := cI (f t) 0
def g_vl (f : Nat → va_E) (t : Nat) : Nat → Int64 := aJ (f (cP (f t) 1))
def g_lk (f : Nat → va_E) (t : Nat) (j : Int) : Option Nat := if j = 8 then cR (f t) 2 else if j = 11 then cR (f t) 3 else if j = 15 then cR (f t) 4 else none
def g_rw (f : Nat → va_E) (t : Nat) : Option (Nat × (Nat → Int32)) := (cR (f t) 5).map (fun r => (aN (f r), aI (f r)))
def l_n (f : Nat → va_E) (x : Nat) : Nat → Int32 := aI (f (cP (f x) 0))
def l_d (f : Nat → va_E) (x : Nat) : Nat → Int32 := aI (f (cP (f x) 1))
def l_v (f : Nat → va_E) (x : Nat) : Nat → Int64 := aJ (f (cP (f x) 2))
def l_z (f : Nat → va_E) (x : Nat) : Int32 := cI (f x) 3
section VIEWS
variable {f : Nat → va_E} {x h a j q1 q5 q7 c1 c2 c3 v n : Nat} {cc kT kI kJ : ClassId} {cn pc fc mc z : Int32} {b m st i : Option Nat} {gI : Nat → Int32} {gJ : Nat → Int64} {gR : Nat → Option Nat} {l : List Value}
theorem rf_view (o : Option Nat) : (match (some (va_rf o) : Option Value) with
    | some (.ref v) => some v
    | _ => none) = o := by cases o <;> rfl
theorem th_cn (e : f x = .inr (1, [.int cn, .ref v, va_rf b, va_rf m, va_rf st, va_rf i])) : g_cn f x = cn := by unfold g_cn; rw [e]; rfl
theorem th_pv (e : f x = .inr (1, [.int cn, .ref v, va_rf b, va_rf m, va_rf st, va_rf i])) : cP (f x) 1 = v := by rw [e]; rfl
theorem th_vl (e : f x = .inr (1, [.int cn, .ref v, va_rf b, va_rf m, va_rf st, va_rf i])) (ea : f v = .inl (kJ, 17, .inr (.inl gJ))) : g_vl f x = gJ := by unfold g_vl; rw [th_pv e, ea]; rfl
theorem th_b (e : f x = .inr (1, [.int cn, .ref v, va_rf b, va_rf m, va_rf st, va_rf i])) : cR (f x) 2 = b := by rw [e]; exact rf_view b
theorem th_m (e : f x = .inr (1, [.int cn, .ref v, va_rf b, va_rf m, va_rf st, va_rf i])) : cR (f x) 3 = m := by rw [e]; exact rf_view m
theorem th_s (e : f x = .inr (1, [.int cn, .ref v, va_rf b, va_rf m, va_rf st, va_rf i])) : cR (f x) 4 = st := by rw [e]; exact rf_view st
theorem th_i (e : f x = .inr (1, [.int cn, .ref v, va_rf b, va_rf m, va_rf st, va_rf i])) : cR (f x) 5 = i := by rw [e]; exact rf_view i
theorem th_lk (e : f x = .inr (1, [.int cn, .ref v, va_rf b, va_rf m, va_rf st, va_rf i])) (w : Int) : g_lk f x w = if w = 8 then b else if w = 11 then m else if w = 15 then st else none := by unfold g_lk; rw [th_b e, th_m e, th_s e]
theorem th_rw (e : f x = .inr (1, [.int cn, .ref v, va_rf b, va_rf m, va_rf st, va_rf i])) : g_rw f x = i.map (fun r => (aN (f r), aI (f r))) := by unfold g_rw; rw [th_i e]
theorem th_rw0 (e : f x = .inr (1, [.int cn, .ref v, va_rf b, va_rf m, va_rf st, va_rf none])) : g_rw f x = none := by rw [th_rw e]; rfl
theorem th_rw1 (e : f x = .inr (1, [.int cn, .ref v, va_rf b, va_rf m, va_rf st, va_rf (some a)])) (ea : f a = .inl (kI, n, .inl gI)) : g_rw f x = some (n, gI) := by rw [th_rw e]; show some (aN (f a), aI (f a)) = _; rw [ea]; rfl
theorem th_pi (e : f x = .inr (1, [.int cn, .ref v, va_rf b, va_rf m, va_rf st, va_rf (some a)])) : cP (f x) 5 = a := by unfold cP; rw [th_i e]; rfl
theorem ob_q1 (e : f h = .inr (2, .ref q1 :: l)) : cP (f h) 0 = q1 := by rw [e]; rfl
theorem ob_sl (e : f h = .inr (2, .ref q1 :: l)) (ea : f q1 = .inl (kT, 12, .inr (.inr (.inr (.inr gR))))) : g_sl f h = gR := by unfold g_sl; rw [ob_q1 e, ea]; rfl
theorem ob_pc (e : f h = .inr (2, [.ref q1, .int pc, .ref c1, .ref c2, .ref c3, .ref q5, .int fc, .ref q7, .int mc])) : cI (f h) 1 = pc := by rw [e]; rfl
theorem ob_c1 (e : f h = .inr (2, [.ref q1, .int pc, .ref c1, .ref c2, .ref c3, .ref q5, .int fc, .ref q7, .int mc])) : cP (f h) 2 = c1 := by rw [e]; rfl
theorem ob_c2 (e : f h = .inr (2, [.ref q1, .int pc, .ref c1, .ref c2, .ref c3, .ref q5, .int fc, .ref q7, .int mc])) : cP (f h) 3 = c2 := by rw [e]; rfl
theorem ob_c3 (e : f h = .inr (2, [.ref q1, .int pc, .ref c1, .ref c2, .ref c3, .ref q5, .int fc, .ref q7, .int mc])) : cP (f h) 4 = c3 := by rw [e]; rfl
theorem ob_q5 (e : f h = .inr (2, [.ref q1, .int pc, .ref c1, .ref c2, .ref c3, .ref q5, .int fc, .ref q7, .int mc])) : cP (f h) 5 = q5 := by rw [e]; rfl
theorem ob_fc (e : f h = .inr (2, [.ref q1, .int pc, .ref c1, .ref c2, .ref c3, .ref q5, .int fc, .ref q7, .int mc])) : cI (f h) 6 = fc := by rw [e]; rfl
theorem ob_q7 (e : f h = .inr (2, [.ref q1, .int pc, .ref c1, .ref c2, .ref c3, .ref q5, .int fc, .ref q7, .int mc])) : cP (f h) 7 = q7 := by rw [e]; rfl
theorem ob_mc (e : f h = .inr (2, [.ref q1, .int pc, .ref c1, .ref c2, .ref c3, .ref q5, .int fc, .ref q7, .int mc])) : cI (f h) 8 = mc := by rw [e]; rfl
theorem li_pn (e : f x = .inr (0, [.ref a, .ref j, .ref v, .int z])) : cP (f x) 0 = a := by rw [e]; rfl
theorem li_pd (e : f x = .inr (0, [.ref a, .ref j, .ref v, .int z])) : cP (f x) 1 = j := by rw [e]; rfl
theorem li_pv (e : f x = .inr (0, [.ref a, .ref j, .ref v, .int z])) : cP (f x) 2 = v := by rw [e]; rfl
theorem li_z (e : f x = .inr (0, [.ref a, .ref j, .ref v, .int z])) : l_z f x = z := by unfold l_z; rw [e]; rfl
theorem li_n (e : f x = .inr (0, [.ref a, .ref j, .ref v, .int z])) (ea : f a = .inl (kI, 300, .inl gI)) : l_n f x = gI := by unfold l_n; rw [li_pn e, ea]; rfl
theorem li_d (e : f x = .inr (0, [.ref a, .ref j, .ref v, .int z])) (ea : f j = .inl (kI, 300, .inl gI)) : l_d f x = gI := by unfold l_d; rw [li_pd e, ea]; rfl
theorem li_v (e : f x = .inr (0, [.ref a, .ref j, .ref v, .int z])) (ea : f v = .inl (kJ, 300, .inr (.inl gJ))) : l_v f x = gJ := by unfold l_v; rw [li_pv e, ea]; rfl
theorem s_R_of {k : Nat} {o : Option Nat} (e : f a = .inl (cc, n, .inr (.inr (.inr (.inr gR))))) : s_R f a k o = va_up f a (.inl (cc, n, .inr (.inr (.inr (.inr (va_up gR k o)))))) := by unfold s_R; rw [e]
theorem s_J_of {k : Nat} {w : Int64} (e : f a = .inl (cc, n, .inr (.inl gJ))) : s_J f a k w = va_up f a (.inl (cc, n, .inr (.inl (vp_updL gJ k w)))) := by unfold s_J; rw [e]
theorem s_I_of {k : Nat} {w : Int32} (e : f a = .inl (cc, n, .inl gI)) : s_I f a k w = va_up f a (.inl (cc, n, .inl (upd gI k w))) := by unfold s_I; rw [e]
theorem s_F_of {k c : Nat} {w : Value} (e : f a = .inr (c, l)) : s_F f a k w = va_up f a (.inr (c, l.set k w)) := by unfold s_F; rw [e]
end VIEWS
-- NUMBERS: slots, fields, classes
abbrev cl (s : Int32) : Nat := Int32.toNatClampNeg s
abbrev i_s (s : Int32) : Prop := 0 ≤ s.toInt ∧ s.toInt < 12
abbrev i_l (w : Int32) : Prop := w.toInt = 8 ∨ w.toInt = 11 ∨ w.toInt = 15
abbrev i_v (w : Int32) : Prop := (0 ≤ w.toInt ∧ w.toInt < 17) ∧ ¬ (w.toInt = 8 ∨ w.toInt = 11 ∨ w.toInt = 15) ∧ ¬ w.toInt = 9
/-- an object of the class c is of the class w -/
abbrev i_o (c w : Int32) : Prop := (w.toInt = 5 ∧ ¬ c.toInt = 4) ∨ (¬ w.toInt = 5 ∧ w.toInt ≤ 2 ∧ w.toInt ≤ c.toInt ∧ c.toInt ≤ 2) ∨ (¬ w.toInt = 5 ∧ ¬ w.toInt ≤ 2 ∧ c.toInt = w.toInt)
def wan (w : Int32) : Int32 := if w.toInt = 8 then 0 else if w.toInt = 11 then 1 else 5
def f_told (b : Int32) : Int32 := if 2139095040 < (b &&& 2147483647).toInt then 2143289344 else b
def d_told (b : Int64) : Int64 := if 9218868437227405312 < (b &&& 9223372036854775807).toInt then 9221120237041090560 else b
-- new cells, told
theorem fold2x {kT kI kJ : ClassId} {K : Nat → Nat} {L : List Nat} {f : Nat → va_E} {D : va_G} {H : Heap} {A : Nat → Prop} {q u : Nat} {cn : Int32} {g : Nat → Int64} (hPI : PI kT kI kJ K L f) (hP : va_P D vwCl ((q, .inr (1, [.int cn, .ref u, .null, .null, .null, .null])) :: (u, .inl (kJ, 17, .inr (.inl g))) :: va_pl L f) H) (hD : va_D A ((q, .inr (1, [.int cn, .ref u, .null, .null, .null, .null])) :: (u, .inl (kJ, 17, .inr (.inl g))) :: va_pl L f)) : ∃ (K2 : Nat → Nat) (L2 : List Nat) (f2 : Nat → va_E), PI kT kI kJ K2 L2 f2 ∧ EXT K L K2 L2 ∧ isr K2 L2 1 q ∧ (∀ a, a ∈ L → f2 a = f a) ∧ va_P D vwCl (va_pl L2 f2) H ∧ va_D A (va_pl L2 f2) ∧ (q ∉ L ∧ u ∉ L ∧ q ≠ u ∧ K2 = va_up (va_up K u 3) q 1 ∧ L2 = q :: u :: L ∧ f2 = va_up (va_up f u (.inl (kJ, 17, .inr (.inl g)))) q (.inr (1, [.int cn, .ref u, va_rf none, va_rf none, va_rf none, va_rf none]))) := by
  have hu : u ∉ L := fun h => by
    obtain ⟨i, hi⟩ := List.getElem?_of_mem (show (u, f u) ∈ va_pl L f from List.mem_map.mpr ⟨u, h, rfl⟩)
    have := hD.1 1 (i + 2) _ _ rfl hi rfl
    omega
  have hq : q ∉ u :: L := fun h => by
    rcases List.mem_cons.mp h with h | h
    · have := hD.1 0 1 _ _ rfl rfl h
      omega
    · obtain ⟨i, hi⟩ := List.getElem?_of_mem (show (q, f q) ∈ va_pl L f from List.mem_map.mpr ⟨q, h, rfl⟩)
      have := hD.1 0 (i + 2) _ _ rfl hi rfl
      omega
  rw [pl_cons hu, pl_cons hq] at hP hD
  refine ⟨_, _, _, (hPI.push (k := 3) hu ⟨g, rfl⟩).push (k := 1) hq ⟨cn, u, none, none, none, none, rfl, isr.ext isr.new (EXT.new hq), (fun _ h => by cases h), (fun _ h => by cases h), (fun _ h => by cases h), (fun _ h => by cases h)⟩, EXT.tr (EXT.new hu) (EXT.new hq), isr.new, fun a ha => (va_up_ne _ _ (fun e => hq (by rw [← e]; exact List.mem_cons_of_mem _ ha))).trans (va_up_ne _ _ (fun e => hu (by rw [← e]; exact ha))), hP, hD, fun h => hq (List.mem_cons_of_mem _ h), hu, fun e => hq (by rw [e]; exact List.mem_cons_self), rfl, rfl, rfl⟩
theorem fold1x {kT kI kJ : ClassId} {K : Nat → Nat} {L : List Nat} {f : Nat → va_E} {D : va_G} {H : Heap} {A : Nat → Prop} {q n : Nat} {g : Nat → Int32} (hPI : PI kT kI kJ K L f) (hn : n ≤ 20) (hP : va_P D vwCl (va_pl L f ++ [(q, .inl (kI, n, .inl g))]) H) (hD : va_D A (va_pl L f ++ [(q, .inl (kI, n, .inl g))])) : ∃ (K2 : Nat → Nat) (L2 : List Nat) (f2 : Nat → va_E), PI kT kI kJ K2 L2 f2 ∧ EXT K L K2 L2 ∧ isr K2 L2 4 q ∧ (∀ a, a ∈ L → f2 a = f a) ∧ va_P D vwCl (va_pl L2 f2) H ∧ va_D A (va_pl L2 f2) ∧ (q ∉ L ∧ K2 = va_up K q 4 ∧ L2 = q :: L ∧ f2 = va_up f q (.inl (kI, n, .inl g))) := by
  have hq := pl_new hD
  have hP := wp_rot hP
  have hD := wd_rot hD
  rw [pl_cons hq] at hP hD
  exact ⟨_, _, _, hPI.push (k := 4) hq ⟨n, g, rfl, hn⟩, EXT.new hq, isr.new, fun a ha => va_up_ne _ _ (fun e => hq (by rw [← e]; exact ha)), hP, hD, hq, rfl, rfl, rfl⟩
end
section
-- WHAT THE CLASS ANSWERS AND CHANGES, call by call
def sp_wan (w : Int32) : Int32 := if w.toInt = 8 then 0 else if w.toInt = 11 then 1 else 5
def sp_ft (b : Int32) : Int32 := if 2139095040 < (b &&& 2147483647).toInt then 2143289344 else b
def sp_dt (b : Int64) : Int64 := if 9218868437227405312 < (b &&& 9223372036854775807).toInt then 9221120237041090560 else b
def ks_as (w : Int32) (v : Int64) : Int64 := if (FORMt (Int32.toNatClampNeg w)).toInt = 0 then v &&& 1 else if (FORMt (Int32.toNatClampNeg w)).toInt = 1 then v.toInt32.toInt8.toInt32.toInt64 else if (FORMt (Int32.toNatClampNeg w)).toInt = 2 then v.toInt32.toInt16.toInt32.toInt64 else if (FORMt (Int32.toNatClampNeg w)).toInt = 3 then (v.toInt32.toUInt32 % 65536).toInt32.toInt64 else if (FORMt (Int32.toNatClampNeg w)).toInt = 4 then v.toInt32.toInt64 else if (FORMt (Int32.toNatClampNeg w)).toInt = 6 then (sp_ft v.toInt32).toInt64 else if (FORMt (Int32.toNatClampNeg w)).toInt = 7 then sp_dt v else v
def ks_hold (f : Nat → va_E) (x : Nat) (w : Int32) (o : Option Nat) : Nat → va_E := if w.toInt = 8 then s_F f x 2 (va_rf o) else if w.toInt = 11 then s_F f x 3 (va_rf o) else if w.toInt = 15 then s_F f x 4 (va_rf o) else f
def ks_lead (c : Int32) (N : Int → Option Nat) : Option Nat := if c.toInt = 0 then N 8 else if c.toInt = 3 then N 15 else N 11
def ks_name (c : Int32) (V : Nat → Int64) : Int32 := if c.toInt = 0 then 1 + (V 4).toInt32 else 10 * (1 + (V 4).toInt32) + (V 10).toInt32 + (V 13).toInt32
def ks_secret (V : Nat → Int64) : Int32 := (V 1).toInt32 + (V 2).toInt32
def g_nx (f : Nat → va_E) (t : Nat) : Option Nat := ks_lead (g_cn f t) (g_lk f t)
def dp (nx : Nat → Option Nat) : Nat → Option Nat → Nat
  | 0, _ => 0
  | _ + 1, none => 0
  | n + 1, some t => dp nx n (nx t) + 1
theorem dp_none (nx : Nat → Option Nat) (n : Nat) : dp nx n none = 0 := by cases n <;> rfl
theorem dp_zero (nx : Nat → Option Nat) (o : Option Nat) : dp nx 0 o = 0 := rfl
theorem dp_step {nx : Nat → Option Nat} {i i2 : Int32} {y : Nat} {o : Option Nat} {T : Int} (h : i.toInt + (dp nx (50 - i.toInt).toNat (some y) : Int) = T) (hi : i.toInt < 50) (e : i2.toInt = i.toInt + 1) (ho : o = nx y) : i2.toInt + (dp nx (50 - i2.toInt).toNat o : Int) = T := by
  have e1 : (50 - i.toInt).toNat = (50 - i2.toInt).toNat + 1 := by omega
  rw [e1] at h
  subst ho
  have h2 : dp nx ((50 - i2.toInt).toNat + 1) (some y) = dp nx (50 - i2.toInt).toNat (nx y) + 1 := rfl
  rw [h2] at h
  omega
theorem dp_end {nx : Nat → Option Nat} {i : Int32} {o : Option Nat} {T : Int} (h : i.toInt + (dp nx (50 - i.toInt).toNat o : Int) = T) (he : o = none ∨ 50 ≤ i.toInt) : i.toInt = T := by
  rcases he with rfl | he
  · rw [dp_none] at h; omega
  · have e1 : (50 - i.toInt).toNat = 0 := by omega
    rw [e1, dp_zero] at h
    omega
def kd (c : Nat → Int32) (b : Nat → Option Nat) : Nat → Option Nat → Int32 → Int32 → Int32
  | 0, _, _, s => s
  | _ + 1, none, _, s => s
  | n + 1, some t, w, s => kd c b n (b t) (w * 10) (s + w * (c t + 1))
theorem kd_none (c : Nat → Int32) (b : Nat → Option Nat) (n : Nat) (w s : Int32) : kd c b n none w s = s := by cases n <;> rfl
theorem kd_step {c : Nat → Int32} {b : Nat → Option Nat} {i i2 w w2 s s2 T : Int32} {y : Nat} {o : Option Nat} (h : kd c b (8 - i.toInt).toNat (some y) w s = T) (hi : i.toInt < 8) (e : i2.toInt = i.toInt + 1) (hw : w2 = w * 10) (hs : s2 = s + w * (c y + 1)) (ho : o = b y) : kd c b (8 - i2.toInt).toNat o w2 s2 = T := by
  have e1 : (8 - i.toInt).toNat = (8 - i2.toInt).toNat + 1 := by omega
  rw [e1] at h
  subst ho hw hs
  exact h
theorem kd_end {c : Nat → Int32} {b : Nat → Option Nat} {i w s T : Int32} {o : Option Nat} (h : kd c b (8 - i.toInt).toNat o w s = T) (he : o = none ∨ 8 ≤ i.toInt) : s = T := by
  rcases he with rfl | he
  · rw [kd_none] at h; exact h
  · have e1 : (8 - i.toInt).toNat = 0 := by omega
    rw [e1] at h
    exact h
def ks_kind (c : Nat → Int32) (b : Nat → Option Nat) (x : Nat) : Int32 := if (c x).toInt = 3 then 7 else kd c b 8 (some x) 1 0
def ks_add (f : Nat → va_E) (x : Nat) (n d : Int32) (v : Int64) : Nat → va_E := if (l_z f x).toInt < 300 then s_F (s_J (s_I (s_I f (cP (f x) 0) (Int32.toNatClampNeg (l_z f x)) n) (cP (f x) 1) (Int32.toNatClampNeg (l_z f x)) d) (cP (f x) 2) (Int32.toNatClampNeg (l_z f x)) v) x 3 (.int (l_z f x + 1)) else f
def ks_same (S : Nat → Option Nat) (s t : Int32) : Int32 := if (0 ≤ s.toInt ∧ s.toInt < 12) ∧ (0 ≤ t.toInt ∧ t.toInt < 12) then (if S (Int32.toNatClampNeg s) = S (Int32.toNatClampNeg t) then 1 else 0) else -1
def ks_cls (S : Nat → Option Nat) (C : Nat → Int32) (s : Int32) : Int32 := if (0 ≤ s.toInt ∧ s.toInt < 12) then (match S (Int32.toNatClampNeg s) with
  | none => -4
  | some x => C x) else -1
def ks_is (S : Nat → Option Nat) (C : Nat → Int32) (s w : Int32) : Int32 := if (0 ≤ s.toInt ∧ s.toInt < 12) ∧ 0 ≤ w.toInt ∧ w.toInt ≤ 5 then (match S (Int32.toNatClampNeg s) with
  | none => 0
  | some x => if ((w.toInt = 5 ∧ ¬ (C x).toInt = 4) ∨ (¬ w.toInt = 5 ∧ w.toInt ≤ 2 ∧ w.toInt ≤ (C x).toInt ∧ (C x).toInt ≤ 2) ∨ (¬ w.toInt = 5 ∧ ¬ w.toInt ≤ 2 ∧ (C x).toInt = w.toInt)) then 1 else 0) else -1
def ks_get (S : Nat → Option Nat) (C : Nat → Int32) (V : Nat → Nat → Int64) (s w : Int32) : Int64 := if (0 ≤ s.toInt ∧ s.toInt < 12) ∧ (0 ≤ w.toInt ∧ w.toInt < 17 ∧ ¬ w.toInt = 8 ∧ ¬ w.toInt = 9 ∧ ¬ w.toInt = 11 ∧ ¬ w.toInt = 15) then (match S (Int32.toNatClampNeg s) with
  | none => -11
  | some x => if (((OWNERt (Int32.toNatClampNeg w)).toInt = 5 ∧ ¬ (C x).toInt = 4) ∨ (¬ (OWNERt (Int32.toNatClampNeg w)).toInt = 5 ∧ (OWNERt (Int32.toNatClampNeg w)).toInt ≤ 2 ∧ (OWNERt (Int32.toNatClampNeg w)).toInt ≤ (C x).toInt ∧ (C x).toInt ≤ 2) ∨ (¬ (OWNERt (Int32.toNatClampNeg w)).toInt = 5 ∧ ¬ (OWNERt (Int32.toNatClampNeg w)).toInt ≤ 2 ∧ (C x).toInt = (OWNERt (Int32.toNatClampNeg w)).toInt)) then V x (Int32.toNatClampNeg w) else -14) else -1
def ks_length (S : Nat → Option Nat) (C : Nat → Int32) (R : Nat → Option (Nat × (Nat → Int32))) (s : Int32) : Int32 := if (0 ≤ s.toInt ∧ s.toInt < 12) then (match S (Int32.toNatClampNeg s) with
  | none => -11
  | some x => if (0 ≤ (C x).toInt ∧ (C x).toInt ≤ 2) then (match R x with
    | none => -11
    | some r => Int32.ofNat r.1) else -14) else -1
def ks_count (S : Nat → Option Nat) (C : Nat → Int32) (V : Nat → Nat → Int64) (s w : Int32) : Int64 := if (0 ≤ s.toInt ∧ s.toInt < 12) ∧ 0 ≤ w.toInt ∧ w.toInt ≤ 2 then (match S (Int32.toNatClampNeg s) with
  | none => -11
  | some x => if ((w.toInt = 5 ∧ ¬ (C x).toInt = 4) ∨ (¬ w.toInt = 5 ∧ w.toInt ≤ 2 ∧ w.toInt ≤ (C x).toInt ∧ (C x).toInt ≤ 2) ∨ (¬ w.toInt = 5 ∧ ¬ w.toInt ≤ 2 ∧ (C x).toInt = w.toInt)) then V x (Int32.toNatClampNeg (COUNTt (Int32.toNatClampNeg w))) else -14) else -1
def ks_thrown (C : Nat → Int32) (V : Nat → Nat → Int64) (x : Nat) : Int32 := if (C x).toInt = 4 then (V x 16).toInt32 else -14
def ks_raise (S : Nat → Option Nat) (C : Nat → Int32) (V : Nat → Nat → Int64) (s : Int32) : Int32 := if (0 ≤ s.toInt ∧ s.toInt < 12) then (match S (Int32.toNatClampNeg s) with
  | none => -11
  | some x => ks_thrown C V x) else -1
def ks_leaf (z : Int32) (n d : Nat → Int32) (v : Nat → Int64) (k w : Int32) : Int64 := if (0 ≤ k.toInt ∧ k.toInt < z.toInt) ∧ 0 ≤ w.toInt ∧ w.toInt ≤ 2 then (if w.toInt = 0 then (n (Int32.toNatClampNeg k)).toInt64 else if w.toInt = 1 then (d (Int32.toNatClampNeg k)).toInt64 else v (Int32.toNatClampNeg k)) else -1
def ks_call (S : Nat → Option Nat) (C : Nat → Int32) (V : Nat → Nat → Int64) (N : Nat → Int → Option Nat) (dpt : Nat → Int32 → Prop) (s w r : Int32) : Prop := if (0 ≤ s.toInt ∧ s.toInt < 12) ∧ 0 ≤ w.toInt ∧ w.toInt ≤ 4 then (match S (Int32.toNatClampNeg s) with
  | none => r = -11
  | some x => if w.toInt = 2 ∨ w.toInt = 3 then (if ¬ (C x).toInt = 4 then (if w.toInt = 2 then dpt x r else r = ks_kind C (fun t => N t 8) x) else r = -14) else (if (0 ≤ (C x).toInt ∧ (C x).toInt ≤ 2) then (if w.toInt = 0 then r = ks_name (C x) (V x) else if w.toInt = 1 then r = ks_secret (V x) else (match N x 8 with
    | none => r = -11
    | some y => r = ks_name (C y) (V y))) else r = -14)) else r = -1
def g_dp (f : Nat → va_E) (x : Nat) (r : Int32) : Prop := r.toInt = (dp (g_nx f) 50 (g_nx f x) : Int)
def ks_clear (f : Nat → va_E) (h : Nat) (s : Int32) : (Nat → va_E) × Int32 := if (0 ≤ s.toInt ∧ s.toInt < 12) then (s_R f (cP (f h) 0) (Int32.toNatClampNeg s) none, match g_sl f h (Int32.toNatClampNeg s) with
  | none => 0
  | some _ => 1) else (f, -1)
def ks_shr (f : Nat → va_E) (h : Nat) (s t : Int32) : (Nat → va_E) × Int32 := if (0 ≤ s.toInt ∧ s.toInt < 12) ∧ (0 ≤ t.toInt ∧ t.toInt < 12) then (s_R f (cP (f h) 0) (Int32.toNatClampNeg t) (g_sl f h (Int32.toNatClampNeg s)), 1) else (f, -1)
def ks_set (f : Nat → va_E) (h : Nat) (s w : Int32) (v : Int64) : (Nat → va_E) × Int32 := if (0 ≤ s.toInt ∧ s.toInt < 12) ∧ (0 ≤ w.toInt ∧ w.toInt < 17 ∧ ¬ w.toInt = 8 ∧ ¬ w.toInt = 9 ∧ ¬ w.toInt = 11 ∧ ¬ w.toInt = 15) then (match g_sl f h (Int32.toNatClampNeg s) with
  | none => (f, -11)
  | some x => if (((OWNERt (Int32.toNatClampNeg w)).toInt = 5 ∧ ¬ (g_cn f x).toInt = 4) ∨ (¬ (OWNERt (Int32.toNatClampNeg w)).toInt = 5 ∧ (OWNERt (Int32.toNatClampNeg w)).toInt ≤ 2 ∧ (OWNERt (Int32.toNatClampNeg w)).toInt ≤ (g_cn f x).toInt ∧ (g_cn f x).toInt ≤ 2) ∨ (¬ (OWNERt (Int32.toNatClampNeg w)).toInt = 5 ∧ ¬ (OWNERt (Int32.toNatClampNeg w)).toInt ≤ 2 ∧ (g_cn f x).toInt = (OWNERt (Int32.toNatClampNeg w)).toInt)) then (if w.toInt = 13 ∨ w.toInt = 16 then (f, -17) else (s_J f (cP (f x) 1) (Int32.toNatClampNeg w) (ks_as w v), 1)) else (f, -14)) else (f, -1)
def ks_link (f : Nat → va_E) (h : Nat) (s w t : Int32) : (Nat → va_E) × Int32 := if (0 ≤ s.toInt ∧ s.toInt < 12) ∧ (w.toInt = 8 ∨ w.toInt = 11 ∨ w.toInt = 15) ∧ (0 ≤ t.toInt ∧ t.toInt < 12) then (match g_sl f h (Int32.toNatClampNeg s), g_sl f h (Int32.toNatClampNeg t) with
  | none, none => (f, -11)
  | none, some y => if (((sp_wan w).toInt = 5 ∧ ¬ (g_cn f y).toInt = 4) ∨ (¬ (sp_wan w).toInt = 5 ∧ (sp_wan w).toInt ≤ 2 ∧ (sp_wan w).toInt ≤ (g_cn f y).toInt ∧ (g_cn f y).toInt ≤ 2) ∨ (¬ (sp_wan w).toInt = 5 ∧ ¬ (sp_wan w).toInt ≤ 2 ∧ (g_cn f y).toInt = (sp_wan w).toInt)) then (f, -11) else (f, -14)
  | some x, none => if (((OWNERt (Int32.toNatClampNeg w)).toInt = 5 ∧ ¬ (g_cn f x).toInt = 4) ∨ (¬ (OWNERt (Int32.toNatClampNeg w)).toInt = 5 ∧ (OWNERt (Int32.toNatClampNeg w)).toInt ≤ 2 ∧ (OWNERt (Int32.toNatClampNeg w)).toInt ≤ (g_cn f x).toInt ∧ (g_cn f x).toInt ≤ 2) ∨ (¬ (OWNERt (Int32.toNatClampNeg w)).toInt = 5 ∧ ¬ (OWNERt (Int32.toNatClampNeg w)).toInt ≤ 2 ∧ (g_cn f x).toInt = (OWNERt (Int32.toNatClampNeg w)).toInt)) then (ks_hold f x w none, 1) else (f, -14)
  | some x, some y => if (((OWNERt (Int32.toNatClampNeg w)).toInt = 5 ∧ ¬ (g_cn f x).toInt = 4) ∨ (¬ (OWNERt (Int32.toNatClampNeg w)).toInt = 5 ∧ (OWNERt (Int32.toNatClampNeg w)).toInt ≤ 2 ∧ (OWNERt (Int32.toNatClampNeg w)).toInt ≤ (g_cn f x).toInt ∧ (g_cn f x).toInt ≤ 2) ∨ (¬ (OWNERt (Int32.toNatClampNeg w)).toInt = 5 ∧ ¬ (OWNERt (Int32.toNatClampNeg w)).toInt ≤ 2 ∧ (g_cn f x).toInt = (OWNERt (Int32.toNatClampNeg w)).toInt)) then (if (((sp_wan w).toInt = 5 ∧ ¬ (g_cn f y).toInt = 4) ∨ (¬ (sp_wan w).toInt = 5 ∧ (sp_wan w).toInt ≤ 2 ∧ (sp_wan w).toInt ≤ (g_cn f y).toInt ∧ (g_cn f y).toInt ≤ 2) ∨ (¬ (sp_wan w).toInt = 5 ∧ ¬ (sp_wan w).toInt ≤ 2 ∧ (g_cn f y).toInt = (sp_wan w).toInt)) then (ks_hold f x w (some y), 1) else (f, -14)) else (f, -14)) else (f, -1)
def ks_follow (f : Nat → va_E) (h : Nat) (s w t : Int32) : (Nat → va_E) × Int32 := if (0 ≤ s.toInt ∧ s.toInt < 12) ∧ (w.toInt = 8 ∨ w.toInt = 11 ∨ w.toInt = 15) ∧ (0 ≤ t.toInt ∧ t.toInt < 12) then (match g_sl f h (Int32.toNatClampNeg s) with
  | none => (f, -11)
  | some x => if (((OWNERt (Int32.toNatClampNeg w)).toInt = 5 ∧ ¬ (g_cn f x).toInt = 4) ∨ (¬ (OWNERt (Int32.toNatClampNeg w)).toInt = 5 ∧ (OWNERt (Int32.toNatClampNeg w)).toInt ≤ 2 ∧ (OWNERt (Int32.toNatClampNeg w)).toInt ≤ (g_cn f x).toInt ∧ (g_cn f x).toInt ≤ 2) ∨ (¬ (OWNERt (Int32.toNatClampNeg w)).toInt = 5 ∧ ¬ (OWNERt (Int32.toNatClampNeg w)).toInt ≤ 2 ∧ (g_cn f x).toInt = (OWNERt (Int32.toNatClampNeg w)).toInt)) then (s_R f (cP (f h) 0) (Int32.toNatClampNeg t) (g_lk f x w.toInt), 1) else (f, -14)) else (f, -1)
def ks_put (f : Nat → va_E) (h : Nat) (s i v : Int32) : (Nat → va_E) × Int32 := if (0 ≤ s.toInt ∧ s.toInt < 12) then (match g_sl f h (Int32.toNatClampNeg s) with
  | none => (f, -11)
  | some x => if (0 ≤ (g_cn f x).toInt ∧ (g_cn f x).toInt ≤ 2) then (match g_rw f x with
    | none => (f, -11)
    | some r => if 0 ≤ i.toInt ∧ i.toInt < (r.1 : Int) then (s_I f (cP (f x) 5) (Int32.toNatClampNeg i) v, r.2 (Int32.toNatClampNeg i)) else (f, -12)) else (f, -14)) else (f, -1)
def ks_passes (f : Nat → va_E) (h : Nat) (s n : Int32) : (Nat → va_E) × Int32 := if (0 ≤ s.toInt ∧ s.toInt < 12) ∧ 1 ≤ n.toInt ∧ n.toInt ≤ 12 then (s_F f h 1 (.int n), match g_sl (s_F f h 1 (.int n)) h (Int32.toNatClampNeg s) with
  | none => -11
  | some x => ks_thrown (g_cn (s_F f h 1 (.int n))) (g_vl (s_F f h 1 (.int n))) x) else (f, -1)
def ks_alter (f : Nat → va_E) (h : Nat) (k : Int32) (v : Int64) : (Nat → va_E) × Int32 := if (0 ≤ k.toInt ∧ k.toInt < (l_z f (cP (f h) 2)).toInt) ∧ ¬ (l_d f (cP (f h) 2) (Int32.toNatClampNeg k)).toInt = -1 ∧ ¬ (l_d f (cP (f h) 2) (Int32.toNatClampNeg k)).toInt = 9 then (s_J f (cP (f (cP (f h) 2)) 2) (Int32.toNatClampNeg k) v, 1) else (f, -1)
theorem cl_0 : Int32.toNatClampNeg 0 = 0 := by decide
theorem cl_1 : Int32.toNatClampNeg 1 = 1 := by decide
theorem cl_2 : Int32.toNatClampNeg 2 = 2 := by decide
theorem cl_4 : Int32.toNatClampNeg 4 = 4 := by decide
theorem cl_10 : Int32.toNatClampNeg 10 = 10 := by decide
theorem cl_13 : Int32.toNatClampNeg 13 = 13 := by decide
theorem cl_16 : Int32.toNatClampNeg 16 = 16 := by decide
end
section
-- THE PURE PICTURE: what is found, leaves
theorem oN_toInt {n : Nat} (h : n < 2147483648) : (Int32.ofNat n).toInt = (n : Int) := nI_toInt (n := n) (by omega)
def LSv (z : Int32) (n d : Nat → Int32) (v : Nat → Int64) (l : List (Int32 × Int32 × Int64)) : Prop := z.toInt = (l.length : Int) ∧ ∀ i a b c, l[i]? = some (a, b, c) → n i = a ∧ d i = b ∧ v i = c
section LSVS
variable {z z2 : Int32} {n d : Nat → Int32} {v : Nat → Int64} {l l2 : List (Int32 × Int32 × Int64)}
theorem LSv.nil (h : z.toInt = 0) : LSv z n d v [] := ⟨h, fun i a b c e => by simp at e⟩
theorem LSv.push {a b : Int32} {c : Int64} (h : LSv z n d v l) (e : z2.toInt = z.toInt + 1) : LSv z2 (upd n (Int32.toNatClampNeg z) a) (upd d (Int32.toNatClampNeg z) b) (vp_updL v (Int32.toNatClampNeg z) c) (l ++ [(a, b, c)]) := by
  have hz := clamp_int (i := z) (by have := h.1; omega)
  have hk : Int32.toNatClampNeg z = l.length := by have := h.1; omega
  refine ⟨by rw [List.length_append]; have := h.1; simp; omega, fun i a2 b2 c2 e2 => ?_⟩
  rw [hk]
  rcases Nat.lt_trichotomy i l.length with hi | hi | hi
  · rw [List.getElem?_append_left hi] at e2
    rw [pk_un (by omega), pk_un (by omega), pk_uLn (by omega)]
    exact h.2 i a2 b2 c2 e2
  · subst hi
    rw [List.getElem?_append_right (Nat.le_refl _), Nat.sub_self] at e2
    simp at e2
    obtain ⟨rfl, rfl, rfl⟩ := e2
    exact ⟨pk_us, pk_us, pk_uLs⟩
  · rw [List.getElem?_eq_none (by simp; omega)] at e2
    cases e2
theorem LSv.len (h : LSv z n d v l) : l.length = Int32.toNatClampNeg z := by
  have hz := clamp_int (i := z) (by have := h.1; omega)
  have := h.1
  omega
theorem LSv.at (h : LSv z n d v l) {k : Int32} (h0 : 0 ≤ k.toInt) (h1 : k.toInt < z.toInt) : l[Int32.toNatClampNeg k]? = some (n (Int32.toNatClampNeg k), d (Int32.toNatClampNeg k), v (Int32.toNatClampNeg k)) := by
  have hk := clamp_int h0
  have hl : Int32.toNatClampNeg k < l.length := by have := h.1; omega
  have e := List.getElem?_eq_getElem hl
  obtain ⟨h1, h2, h3⟩ := h.2 _ _ _ _ e
  rw [e, h1, h2, h3]
  rfl
end LSVS
/-- one more found, if it is new -/
def ad (l : List Nat) (o : Option Nat) : List Nat := match o with
  | none => l
  | some t => if t ∈ l then l else l ++ [t]
def st3 (N : Nat → Int → Option Nat) (l : List Nat) (t : Nat) : List Nat := ad (ad (ad l (N t 8)) (N t 11)) (N t 15)
def fd (N : Nat → Int → Option Nat) : Nat → Nat → List Nat → Option (List Nat)
  | 0, _, l => some l
  | n + 1, i, l => match l[i]? with
    | none => some l
    | some t => if (st3 N l t).length ≤ 24 then fd N n (i + 1) (st3 N l t) else none
/-- the number of what is found -/
def nbr (no : Int32) (l : List Nat) (t : Nat) : Int32 := if t ∈ l then Int32.ofNat (l.idxOf t) else no
def rowL (k : Int32) (m : Nat) (g : Nat → Int32) : List (Int32 × Int32 × Int64) := (k, 9, (Int32.ofNat m).toInt64) :: (List.range m).map (fun i => (k, 100 + Int32.ofNat i, (g i).toInt64))
/-- the leaves of one field -/
def lff (nb : Nat → Int32) (V : Nat → Int64) (N : Int → Option Nat) (R : Option (Nat × (Nat → Int32))) (k : Int32) (j : Nat) : List (Int32 × Int32 × Int64) := if j = 8 ∨ j = 11 ∨ j = 15 then (match N (j : Int) with
  | none => []
  | some u => [(k, Int32.ofNat j, (nb u).toInt64)]) else if j = 9 then (match R with
  | none => []
  | some r => rowL k r.1 r.2) else if V j = 0 then [] else [(k, Int32.ofNat j, V j)]
/-- the leaves of the fields below j -/
def lfs (F : Nat → List (Int32 × Int32 × Int64)) : Nat → List (Int32 × Int32 × Int64)
  | 0 => []
  | j + 1 => lfs F j ++ F j
def lob (c : Int32) (F : Nat → List (Int32 × Int32 × Int64)) (k : Int32) : List (Int32 × Int32 × Int64) := (k, -1, c.toInt64) :: lfs F 17
/-- the leaves of the objects below k -/
def lall (O : Nat → List (Int32 × Int32 × Int64)) : Nat → List (Int32 × Int32 × Int64)
  | 0 => []
  | k + 1 => lall O k ++ O k
section ADS
variable {l : List Nat} {o : Option Nat} {t : Nat} {N : Nat → Int → Option Nat}
theorem ad_len (l : List Nat) (o : Option Nat) : l.length ≤ (ad l o).length := by
  unfold ad
  split
  · exact Nat.le_refl _
  · split
    · exact Nat.le_refl _
    · simp
theorem ad_pre (l : List Nat) (o : Option Nat) : ∃ m, ad l o = l ++ m := by
  unfold ad
  split
  · exact ⟨[], by simp⟩
  · split
    · exact ⟨[], by simp⟩
    · exact ⟨_, rfl⟩
theorem ad_at {i t : Nat} (h : l[i]? = some t) : (ad l o)[i]? = some t := by
  obtain ⟨m, e⟩ := ad_pre l o
  rw [e, List.getElem?_append_left (List.getElem?_eq_some_iff.mp h).1]
  exact h
theorem ad_new (h : t ∉ l) : ad l (some t) = l ++ [t] := by unfold ad; simp [h]
theorem ad_old (h : t ∈ l) : ad l (some t) = l := by unfold ad; simp [h]
theorem ad_none : ad l none = l := rfl
theorem st3_over1 (h : 24 < (ad l (N t 8)).length) : ¬ (st3 N l t).length ≤ 24 := by
  have h1 := ad_len (ad l (N t 8)) (N t 11)
  have h2 := ad_len (ad (ad l (N t 8)) (N t 11)) (N t 15)
  unfold st3
  omega
theorem st3_over2 (h : 24 < (ad (ad l (N t 8)) (N t 11)).length) : ¬ (st3 N l t).length ≤ 24 := by
  have h2 := ad_len (ad (ad l (N t 8)) (N t 11)) (N t 15)
  unfold st3
  omega
theorem fd_step {n i : Nat} (h : l[i]? = some t) (hs : (st3 N l t).length ≤ 24) : fd N (n + 1) i l = fd N n (i + 1) (st3 N l t) := by
  show (match l[i]? with
    | none => some l
    | some t => if (st3 N l t).length ≤ 24 then fd N n (i + 1) (st3 N l t) else none) = _
  rw [h]
  exact if_pos hs
theorem fd_over {n i : Nat} (h : l[i]? = some t) (hs : ¬ (st3 N l t).length ≤ 24) : fd N (n + 1) i l = none := by
  show (match l[i]? with
    | none => some l
    | some t => if (st3 N l t).length ≤ 24 then fd N n (i + 1) (st3 N l t) else none) = _
  rw [h]
  exact if_neg hs
theorem fd_end {n i : Nat} (h : l.length ≤ i) : fd N n i l = some l := by
  cases n with
  | zero => rfl
  | succ n =>
    show (match l[i]? with
    | none => some l
    | some t => if (st3 N l t).length ≤ 24 then fd N n (i + 1) (st3 N l t) else none) = _
    rw [List.getElem?_eq_none h]
theorem nbr_at {no : Int32} {i : Nat} (h : l[i]? = some t) (hn : ∀ j, j < i → ¬ l[j]? = some t) : nbr no l t = Int32.ofNat i := by
  have hm : t ∈ l := List.mem_of_getElem? h
  have hi := (List.getElem?_eq_some_iff.mp h)
  unfold nbr
  rw [if_pos hm]
  congr 1
  have h1 : l.idxOf t < l.length := List.idxOf_lt_length_iff.mpr hm
  have h2 : l[l.idxOf t]? = some t := by rw [List.getElem?_eq_getElem h1]; simp
  rcases Nat.lt_trichotomy (l.idxOf t) i with h3 | h3 | h3
  · exact absurd h2 (hn _ h3)
  · exact h3
  · have h4 := List.not_of_lt_findIdx (p := (· == t)) (xs := l) (i := i) h3
    simp [hi.2] at h4
theorem nbr_no {no : Int32} (hn : ∀ j, j < l.length → ¬ l[j]? = some t) : nbr no l t = no := by
  unfold nbr
  rw [if_neg]
  intro hm
  obtain ⟨i, hi, e⟩ := List.getElem_of_mem hm
  exact hn i hi (by rw [List.getElem?_eq_getElem hi, e])
theorem mem_at {i : Nat} (h : l[i]? = some t) : t ∈ l := List.mem_of_getElem? h
end ADS
end
section
-- WHO OWNS A ROW: a list its three, an object its values and its ints
def OWN (K : Nat → Nat) (L : List Nat) (f : Nat → va_E) (ow : Nat → Nat) : Prop := (∀ x, isr K L 0 x → ow (cP (f x) 0) = 2 * x ∧ ow (cP (f x) 1) = 2 * x + 1 ∧ ow (cP (f x) 2) = x) ∧ ∀ t, isr K L 1 t → ow (cP (f t) 1) = t ∧ ∀ r, cR (f t) 5 = some r → ow r = t
def LSt (f : Nat → va_E) (x : Nat) (l : List (Int32 × Int32 × Int64)) : Prop := LSv (l_z f x) (l_n f x) (l_d f x) (l_v f x) l
/-- only the list y and its rows have changed; it holds the same rows -/
def TL (K : Nat → Nat) (L : List Nat) (ow : Nat → Nat) (y : Nat) (f f2 : Nat → va_E) : Prop := (∀ a, a ∈ L → ¬ (a = y ∨ (K a = 7 ∧ (ow a = 2 * y ∨ ow a = 2 * y + 1)) ∨ (K a = 8 ∧ ow a = y)) → f2 a = f a) ∧ cP (f2 y) 0 = cP (f y) 0 ∧ cP (f2 y) 1 = cP (f y) 1 ∧ cP (f2 y) 2 = cP (f y) 2
section OWNS
variable {kT kI kJ : ClassId} {K : Nat → Nat} {L : List Nat} {f f1 f2 : Nat → va_E} {ow : Nat → Nat} {x y a t : Nat} {l : List (Int32 × Int32 × Int64)}
theorem TL.rf : TL K L ow y f f := ⟨fun _ _ _ => rfl, rfl, rfl, rfl⟩
theorem TL.tr (h : TL K L ow y f f1) (h2 : TL K L ow y f1 f2) : TL K L ow y f f2 := ⟨fun a ha hn => (h2.1 a ha hn).trans (h.1 a ha hn), h2.2.1.trans h.2.1, h2.2.2.1.trans h.2.2.1, h2.2.2.2.trans h.2.2.2⟩
theorem TL.at (h : TL K L ow y f f2) (hy : isr K L 0 y) {k : Nat} (ha : isr K L k a) (hk : ¬ k = 0 ∧ ¬ k = 7 ∧ ¬ k = 8) : f2 a = f a := h.1 a ha.1 (fun hn => by
  rcases hn with e | ⟨e, -⟩ | ⟨e, -⟩
  · exact isr_ne ha hy hk.1 e
  · rw [ha.2] at e; exact hk.2.1 e
  · rw [ha.2] at e; exact hk.2.2 e)
theorem TL.fr (h : TL K L ow y f f2) (hy : isr K L 0 y) : FR sL K L f f2 := fun a ha hs => h.1 a ha (fun hn => by
  rcases hn with e | ⟨e, -⟩ | ⟨e, -⟩
  · subst e; rw [hy.2] at hs; cases hs
  · rw [e] at hs; cases hs
  · rw [e] at hs; cases hs)
theorem TL.li (h : TL K L ow y f f2) (hx : isr K L 0 x) (hne : x ≠ y) : f2 x = f x := h.1 x hx.1 (fun hn => by
  rcases hn with e | ⟨e, -⟩ | ⟨e, -⟩
  · exact hne e
  · rw [hx.2] at e; cases e
  · rw [hx.2] at e; cases e)
theorem TL.own (h : TL K L ow y f f2) (hy : isr K L 0 y) (hO : OWN K L f ow) : OWN K L f2 ow := by
  refine ⟨fun x hx => ?_, fun t ht => ?_⟩
  · by_cases e : x = y
    · subst e
      rw [h.2.1, h.2.2.1, h.2.2.2]
      exact hO.1 x hx
    · rw [h.li hx e]
      exact hO.1 x hx
  · rw [h.at hy ht (by decide)]
    exact hO.2 t ht
/-- another list is as it was -/
theorem TL.ls (h : TL K L ow y f f2) (hPI : PI kT kI kJ K L f) (hO : OWN K L f ow) (hy : isr K L 0 y) (hx : isr K L 0 x) (hne : x ≠ y) : l_z f2 x = l_z f x ∧ l_n f2 x = l_n f x ∧ l_d f2 x = l_d f x ∧ l_v f2 x = l_v f x := by
  obtain ⟨a, b, c, z, e, ha, hb, hc, hz⟩ := hPI.a0 hx
  have e2 := h.li hx hne
  have o := hO.1 x hx
  rw [li_pn e, li_pd e, li_pv e] at o
  have ea : f2 a = f a := h.1 a ha.1 (fun hn => by
    rcases hn with q | ⟨-, q⟩ | ⟨q, -⟩
    · exact isr_ne ha hy (by decide) q
    · omega
    · rw [ha.2] at q; cases q)
  have eb : f2 b = f b := h.1 b hb.1 (fun hn => by
    rcases hn with q | ⟨-, q⟩ | ⟨q, -⟩
    · exact isr_ne hb hy (by decide) q
    · omega
    · rw [hb.2] at q; cases q)
  have ec : f2 c = f c := h.1 c hc.1 (fun hn => by
    rcases hn with q | ⟨q, -⟩ | ⟨-, q⟩
    · exact isr_ne hc hy (by decide) q
    · rw [hc.2] at q; cases q
    · omega)
  unfold l_z l_n l_d l_v
  rw [e2, li_pn e, li_pd e, li_pv e, ea, eb, ec]
  exact ⟨rfl, rfl, rfl, rfl⟩
/-- a leaf more -/
theorem add_ok {n d : Int32} {v : Int64} (hPI : PI kT kI kJ K L f) (hO : OWN K L f ow) (hy : isr K L 0 y) (hl : LSt f y l) (hz : (l_z f y).toInt < 300) (e2 : f2 = ks_add f y n d v) : TL K L ow y f f2 ∧ LSt f2 y (l ++ [(n, d, v)]) := by
  obtain ⟨a, b, c, z, e, ha, hb, hc, hzr⟩ := hPI.a0 hy
  obtain ⟨ga, ea⟩ := hPI.a7 ha
  obtain ⟨gb, eb⟩ := hPI.a7 hb
  obtain ⟨gc, ec⟩ := hPI.a8 hc
  have o := hO.1 y hy
  rw [li_pn e, li_pd e, li_pv e] at o
  have nab : b ≠ a := fun q => by rw [q] at o; omega
  have nac : c ≠ a := isr_ne hc ha (by decide)
  have nbc : c ≠ b := isr_ne hc hb (by decide)
  have nya : y ≠ a := isr_ne hy ha (by decide)
  have nyb : y ≠ b := isr_ne hy hb (by decide)
  have nyc : y ≠ c := isr_ne hy hc (by decide)
  unfold LSt at hl ⊢
  rw [li_z e] at hz
  rw [li_z e, li_n e ea, li_d e eb, li_v e ec] at hl
  unfold ks_add at e2
  rw [li_z e, if_pos hz, li_pn e, li_pd e, li_pv e, s_I_of ea] at e2
  generalize h1 : va_up f a (.inl (kI, 300, .inl (upd ga (Int32.toNatClampNeg z) n))) = f1 at e2
  have eb1 : f1 b = .inl (kI, 300, .inl gb) := by rw [← h1, va_up_ne _ _ nab]; exact eb
  rw [s_I_of eb1] at e2
  generalize h3 : va_up f1 b (.inl (kI, 300, .inl (upd gb (Int32.toNatClampNeg z) d))) = f3 at e2
  have ec3 : f3 c = .inl (kJ, 300, .inr (.inl gc)) := by rw [← h3, va_up_ne _ _ nbc, ← h1, va_up_ne _ _ nac]; exact ec
  rw [s_J_of ec3] at e2
  generalize h4 : va_up f3 c (.inl (kJ, 300, .inr (.inl (vp_updL gc (Int32.toNatClampNeg z) v)))) = f4 at e2
  have ey4 : f4 y = .inr (0, [.ref a, .ref b, .ref c, .int z]) := by rw [← h4, va_up_ne _ _ nyc, ← h3, va_up_ne _ _ nyb, ← h1, va_up_ne _ _ nya]; exact e
  rw [s_F_of ey4] at e2
  have ey : f2 y = .inr (0, [.ref a, .ref b, .ref c, .int (z + 1)]) := by rw [e2, va_up_self]; rfl
  have eo : ∀ q, q ≠ y → q ≠ a → q ≠ b → q ≠ c → f2 q = f q := fun q q1 q2 q3 q4 => by rw [e2, va_up_ne _ _ q1, ← h4, va_up_ne _ _ q4, ← h3, va_up_ne _ _ q3, ← h1, va_up_ne _ _ q2]
  have ea2 : f2 a = .inl (kI, 300, .inl (upd ga (Int32.toNatClampNeg z) n)) := by rw [e2, va_up_ne _ _ nya.symm, ← h4, va_up_ne _ _ nac.symm, ← h3, va_up_ne _ _ nab.symm, ← h1, va_up_self]
  have eb2 : f2 b = .inl (kI, 300, .inl (upd gb (Int32.toNatClampNeg z) d)) := by rw [e2, va_up_ne _ _ nyb.symm, ← h4, va_up_ne _ _ nbc.symm, ← h3, va_up_self]
  have ec2 : f2 c = .inl (kJ, 300, .inr (.inl (vp_updL gc (Int32.toNatClampNeg z) v))) := by rw [e2, va_up_ne _ _ nyc.symm, ← h4, va_up_self]
  refine ⟨⟨fun q hq hn => ?_, by rw [li_pn ey, li_pn e], by rw [li_pd ey, li_pd e], by rw [li_pv ey, li_pv e]⟩, ?_⟩
  · refine eo q (fun h => hn (Or.inl h)) (fun h => hn (Or.inr (Or.inl ⟨by rw [h]; exact ha.2, by rw [h]; omega⟩))) (fun h => hn (Or.inr (Or.inl ⟨by rw [h]; exact hb.2, by rw [h]; omega⟩))) (fun h => hn (Or.inr (Or.inr ⟨by rw [h]; exact hc.2, by rw [h]; omega⟩)))
  · rw [li_z ey, li_n ey ea2, li_d ey eb2, li_v ey ec2]
    exact hl.push (inc_toInt rfl (by omega))
end OWNS
end
section
-- WHAT IS FOUND: the list l stands in the row found
def FS (f : Nat → va_E) (h : Nat) (l : List Nat) : Prop := (cI (f h) 6).toInt = (l.length : Int) ∧ ∀ i t, l[i]? = some t → aR (f (cP (f h) 5)) i = some t
/-- the object h holds the same rows and lists -/
def PHK (f f2 : Nat → va_E) (h : Nat) : Prop := cP (f2 h) 0 = cP (f h) 0 ∧ cI (f2 h) 1 = cI (f h) 1 ∧ cP (f2 h) 2 = cP (f h) 2 ∧ cP (f2 h) 3 = cP (f h) 3 ∧ cP (f2 h) 4 = cP (f h) 4 ∧ cP (f2 h) 5 = cP (f h) 5 ∧ cP (f2 h) 7 = cP (f h) 7 ∧ cI (f2 h) 8 = cI (f h) 8
def FF (K : Nat → Nat) (L : List Nat) (h : Nat) (f f2 : Nat → va_E) : Prop := FR (sK [2, 6]) K L f f2 ∧ PHK f f2 h
/-- only the list y with its rows, what is found, and nothing else -/
def TF (K : Nat → Nat) (L : List Nat) (ow : Nat → Nat) (y h : Nat) (f f2 : Nat → va_E) : Prop := (∀ a, a ∈ L → ¬ (a = y ∨ (K a = 7 ∧ (ow a = 2 * y ∨ ow a = 2 * y + 1)) ∨ (K a = 8 ∧ ow a = y)) → ¬ K a = 2 → ¬ K a = 6 → f2 a = f a) ∧ (cP (f2 y) 0 = cP (f y) 0 ∧ cP (f2 y) 1 = cP (f y) 1 ∧ cP (f2 y) 2 = cP (f y) 2) ∧ PHK f f2 h
section FOUND
variable {kT kI kJ : ClassId} {K : Nat → Nat} {L : List Nat} {f f1 f2 : Nat → va_E} {ow : Nat → Nat} {x y a t h q1 q5 q7 c1 c2 c3 x0 : Nat} {pc fc mc i i2 : Int32} {l : List Nat} {g : Nat → Option Nat} {o : Option Nat}
theorem PHK.rf : PHK f f h := ⟨rfl, rfl, rfl, rfl, rfl, rfl, rfl, rfl⟩
theorem PHK.tr (h1 : PHK f f1 h) (h2 : PHK f1 f2 h) : PHK f f2 h := ⟨h2.1.trans h1.1, h2.2.1.trans h1.2.1, h2.2.2.1.trans h1.2.2.1, h2.2.2.2.1.trans h1.2.2.2.1, h2.2.2.2.2.1.trans h1.2.2.2.2.1, h2.2.2.2.2.2.1.trans h1.2.2.2.2.2.1, h2.2.2.2.2.2.2.1.trans h1.2.2.2.2.2.2.1, h2.2.2.2.2.2.2.2.trans h1.2.2.2.2.2.2.2⟩
theorem PHK.of (e : f2 h = f h) : PHK f f2 h := by unfold PHK; rw [e]; exact ⟨rfl, rfl, rfl, rfl, rfl, rfl, rfl, rfl⟩
theorem FF.rf : FF K L h f f := ⟨FR.rf, PHK.rf⟩
theorem FF.tr (h1 : FF K L h f f1) (h2 : FF K L h f1 f2) : FF K L h f f2 := ⟨FR.tr h1.1 h2.1 (fun _ q => q), h1.2.tr h2.2⟩
theorem FF.at {k : Nat} (hF : FF K L h f f2) (ha : isr K L k a) (hk : sK [2, 6] k = false) : f2 a = f a := hF.1 a ha.1 (by rw [ha.2]; exact hk)
theorem FF.lk (hF : FF K L h f f2) (ht : isr K L 1 t) : g_lk f2 t = g_lk f t := by
  funext w
  unfold g_lk
  rw [hF.at ht rfl]
theorem TF.rf : TF K L ow y h f f := ⟨fun _ _ _ _ _ => rfl, ⟨rfl, rfl, rfl⟩, PHK.rf⟩
theorem TF.tr (h1 : TF K L ow y h f f1) (h2 : TF K L ow y h f1 f2) : TF K L ow y h f f2 := ⟨fun a ha hn k2 k6 => (h2.1 a ha hn k2 k6).trans (h1.1 a ha hn k2 k6), ⟨h2.2.1.1.trans h1.2.1.1, h2.2.1.2.1.trans h1.2.1.2.1, h2.2.1.2.2.trans h1.2.1.2.2⟩, h1.2.2.tr h2.2.2⟩
theorem TF.ofTL (hh : isr K L 2 h) (hy : isr K L 0 y) (hT : TL K L ow y f f2) : TF K L ow y h f f2 := ⟨fun a ha hn _ _ => hT.1 a ha hn, hT.2, PHK.of (hT.at hy hh (by decide))⟩
theorem TF.ofFF (hy : isr K L 0 y) (hF : FF K L h f f2) : TF K L ow y h f f2 := by
  refine ⟨fun a ha _ k2 k6 => hF.1 a ha ?_, ?_, hF.2⟩
  · show List.contains [2, 6] (K a) = false
    simp [k2, k6]
  · rw [hF.at hy rfl]
    exact ⟨rfl, rfl, rfl⟩
theorem TF.at {k : Nat} (hT : TF K L ow y h f f2) (hy : isr K L 0 y) (ha : isr K L k a) (hk : ¬ k = 0 ∧ ¬ k = 7 ∧ ¬ k = 8 ∧ ¬ k = 2 ∧ ¬ k = 6) : f2 a = f a := hT.1 a ha.1 (fun hn => by
  rcases hn with e | ⟨e, -⟩ | ⟨e, -⟩
  · exact isr_ne ha hy hk.1 e
  · rw [ha.2] at e; exact hk.2.1 e
  · rw [ha.2] at e; exact hk.2.2.1 e) (by rw [ha.2]; exact hk.2.2.2.1) (by rw [ha.2]; exact hk.2.2.2.2)
theorem TF.own (hT : TF K L ow y h f f2) (hy : isr K L 0 y) (hO : OWN K L f ow) : OWN K L f2 ow := by
  refine ⟨fun x hx => ?_, fun t ht => ?_⟩
  · by_cases e : x = y
    · subst e
      rw [hT.2.1.1, hT.2.1.2.1, hT.2.1.2.2]
      exact hO.1 x hx
    · rw [hT.1 x hx.1 (fun hn => by
        rcases hn with q | ⟨q, -⟩ | ⟨q, -⟩
        · exact e q
        · rw [hx.2] at q; cases q
        · rw [hx.2] at q; cases q) (by rw [hx.2]; decide) (by rw [hx.2]; decide)]
      exact hO.1 x hx
  · rw [hT.at hy ht (by decide)]
    exact hO.2 t ht
theorem TF.ls (hT : TF K L ow y h f f2) (hPI : PI kT kI kJ K L f) (hO : OWN K L f ow) (hy : isr K L 0 y) (hx : isr K L 0 x) (hne : x ≠ y) : l_z f2 x = l_z f x ∧ l_n f2 x = l_n f x ∧ l_d f2 x = l_d f x ∧ l_v f2 x = l_v f x := by
  obtain ⟨a, b, c, z, e, ha, hb, hc, hz⟩ := hPI.a0 hx
  have e2 : f2 x = f x := hT.1 x hx.1 (fun hn => by
    rcases hn with q | ⟨q, -⟩ | ⟨q, -⟩
    · exact hne q
    · rw [hx.2] at q; cases q
    · rw [hx.2] at q; cases q) (by rw [hx.2]; decide) (by rw [hx.2]; decide)
  have o := hO.1 x hx
  rw [li_pn e, li_pd e, li_pv e] at o
  have ea : f2 a = f a := hT.1 a ha.1 (fun hn => by
    rcases hn with q | ⟨-, q⟩ | ⟨q, -⟩
    · exact isr_ne ha hy (by decide) q
    · omega
    · rw [ha.2] at q; cases q) (by rw [ha.2]; decide) (by rw [ha.2]; decide)
  have eb : f2 b = f b := hT.1 b hb.1 (fun hn => by
    rcases hn with q | ⟨-, q⟩ | ⟨q, -⟩
    · exact isr_ne hb hy (by decide) q
    · omega
    · rw [hb.2] at q; cases q) (by rw [hb.2]; decide) (by rw [hb.2]; decide)
  have ec : f2 c = f c := hT.1 c hc.1 (fun hn => by
    rcases hn with q | ⟨q, -⟩ | ⟨-, q⟩
    · exact isr_ne hc hy (by decide) q
    · rw [hc.2] at q; cases q
    · omega) (by rw [hc.2]; decide) (by rw [hc.2]; decide)
  unfold l_z l_n l_d l_v
  rw [e2, li_pn e, li_pd e, li_pv e, ea, eb, ec]
  exact ⟨rfl, rfl, rfl, rfl⟩
theorem FS.mk (e : f h = .inr (2, [.ref q1, .int pc, .ref c1, .ref c2, .ref c3, .ref q5, .int fc, .ref q7, .int mc])) (ea : f q5 = .inl (kT, 24, .inr (.inr (.inr (.inr g))))) (hl : fc.toInt = (l.length : Int)) (hg : ∀ i t, l[i]? = some t → g i = some t) : FS f h l := by
  refine ⟨by rw [ob_fc e]; exact hl, fun i t ht => ?_⟩
  rw [ob_q5 e, ea]
  exact hg i t ht
theorem FS.un (hF : FS f h l) (e : f h = .inr (2, [.ref q1, .int pc, .ref c1, .ref c2, .ref c3, .ref q5, .int fc, .ref q7, .int mc])) (ea : f q5 = .inl (kT, 24, .inr (.inr (.inr (.inr g))))) : fc.toInt = (l.length : Int) ∧ ∀ i t, l[i]? = some t → g i = some t := by
  have h1 := hF.1
  have h2 := hF.2
  rw [ob_fc e] at h1
  rw [ob_q5 e, ea] at h2
  exact ⟨h1, h2⟩
theorem fs_nn (hF : fc.toInt = (l.length : Int) ∧ ∀ i t, l[i]? = some t → g i = some t) : ∀ j : Nat, (j : Int) < fc.toInt → g j ≠ none := fun j hj => by
  have hl : j < l.length := by have := hF.1; omega
  rw [hF.2 j _ (List.getElem?_eq_getElem hl)]
  exact fun h => by cases h
theorem fs_at (hF : fc.toInt = (l.length : Int) ∧ ∀ i t, l[i]? = some t → g i = some t) (h0 : 0 ≤ i.toInt) (hi : i.toInt < fc.toInt) (eo : g (Int32.toNatClampNeg i) = some t) : l[Int32.toNatClampNeg i]? = some t := by
  have hc := clamp_int h0
  have hl : Int32.toNatClampNeg i < l.length := by have := hF.1; omega
  have e := List.getElem?_eq_getElem hl
  have e2 := (hF.2 _ _ e).symm.trans eo
  rw [e, e2]
theorem fs_no (hF : fc.toInt = (l.length : Int) ∧ ∀ i t, l[i]? = some t → g i = some t) (hI : ∀ j : Nat, (j : Int) < i.toInt → ¬ l[j]? = some x0) (h0 : 0 ≤ i.toInt) (eo : g (Int32.toNatClampNeg i) = o) (hne : ¬ o = some x0) (e2 : i2.toInt = i.toInt + 1) : ∀ j : Nat, (j : Int) < i2.toInt → ¬ l[j]? = some x0 := fun j hj hl => by
  have hc := clamp_int h0
  by_cases e : (j : Int) < i.toInt
  · exact hI j e hl
  · have ej : j = Int32.toNatClampNeg i := by omega
    rw [ej] at hl
    exact hne (eo.symm.trans (hF.2 _ _ hl))
theorem fs_hit (hF : fc.toInt = (l.length : Int) ∧ ∀ i t, l[i]? = some t → g i = some t) (hI : ∀ j : Nat, (j : Int) < i.toInt → ¬ l[j]? = some x0) (h0 : 0 ≤ i.toInt) (hi : i.toInt < fc.toInt) (eo : g (Int32.toNatClampNeg i) = o) (ho : o = some x0) {no : Int32} : i = nbr no l x0 := by
  have hc := clamp_int h0
  rw [nbr_at (fs_at hF h0 hi (eo.trans ho)) (fun j hj => hI j (by omega))]
  apply Int32.toInt_inj.mp
  rw [oN_toInt (n := Int32.toNatClampNeg i) (by have := Int32.toInt_lt i; omega)]
  omega
theorem fs_miss (hF : fc.toInt = (l.length : Int) ∧ ∀ i t, l[i]? = some t → g i = some t) (hI : ∀ j : Nat, (j : Int) < i.toInt → ¬ l[j]? = some x0) (hi : ¬ i.toInt < fc.toInt) {no : Int32} : no = nbr no l x0 := by
  rw [nbr_no (fun j hj => hI j (by have := hF.1; omega))]
theorem nbr_in {no : Int32} (hl : l.length ≤ 24) (hn : no.toInt < 0) : (0 ≤ (nbr no l x0).toInt ↔ x0 ∈ l) := by
  unfold nbr
  split
  · rename_i hm
    have h1 : l.idxOf x0 < l.length := List.idxOf_lt_length_iff.mpr hm
    rw [oN_toInt (n := l.idxOf x0) (by omega)]
    exact ⟨fun _ => hm, fun _ => by omega⟩
  · rename_i hm
    exact ⟨fun h => by omega, fun h => absurd h hm⟩
theorem fs_push {z : Int32} (hF : fc.toInt = (l.length : Int) ∧ ∀ i t, l[i]? = some t → g i = some t) (hz : z.toInt = fc.toInt + 1) : z.toInt = ((l ++ [x0]).length : Int) ∧ ∀ i t, (l ++ [x0])[i]? = some t → va_up g (Int32.toNatClampNeg fc) (some x0) i = some t := by
  have hc := clamp_int (i := fc) (by have := hF.1; omega)
  have hk : Int32.toNatClampNeg fc = l.length := by have := hF.1; omega
  refine ⟨by rw [List.length_append]; have := hF.1; simp; omega, fun i t e => ?_⟩
  rw [hk]
  rcases Nat.lt_trichotomy i l.length with hi | hi | hi
  · rw [List.getElem?_append_left hi] at e
    rw [va_up_ne _ _ (by omega)]
    exact hF.2 i t e
  · subst hi
    rw [List.getElem?_append_right (Nat.le_refl _), Nat.sub_self] at e
    rw [va_up_self]
    exact e
  · rw [List.getElem?_eq_none (by simp; omega)] at e
    cases e
theorem fs_one {z k0 : Int32} (hz : z.toInt = 1) (hk : Int32.toNatClampNeg k0 = 0) : z.toInt = (([x0] : List Nat).length : Int) ∧ ∀ i t, ([x0] : List Nat)[i]? = some t → va_up g (Int32.toNatClampNeg k0) (some x0) i = some t := by
  refine ⟨by simp [hz], fun i t e => ?_⟩
  rw [hk]
  cases i with
  | zero => rw [va_up_self]; exact e
  | succ i => simp at e
theorem ad_all (hl : ∀ t ∈ l, isr K L 1 t) (ho : opr K L 1 o) : ∀ t ∈ ad l o, isr K L 1 t := by
  unfold ad
  split
  · exact hl
  · rename_i u
    split
    · exact hl
    · intro t ht
      rcases List.mem_append.mp ht with h | h
      · exact hl t h
      · rw [List.mem_singleton.mp h]
        exact ho u rfl
end FOUND
section FDS
variable {N : Nat → Int → Option Nat} {l : List Nat} {t : Nat} {i i2 : Int32} {a b c : Option Nat}
theorem st3_is (h8 : N t 8 = a) (h11 : N t 11 = b) (h15 : N t 15 = c) : st3 N l t = ad (ad (ad l a) b) c := by unfold st3; rw [h8, h11, h15]
theorem fd_over1 (h0 : 0 ≤ i.toInt) (h1 : i.toInt < 24) (hat : l[Int32.toNatClampNeg i]? = some t) (hs : ¬ (st3 N l t).length ≤ 24) : fd N (25 - i.toInt).toNat i.toInt.toNat l = none := by
  have e : (25 - i.toInt).toNat = (24 - i.toInt).toNat + 1 := by omega
  rw [e]
  exact fd_over hat hs
theorem fd_step1 (h0 : 0 ≤ i.toInt) (h1 : i.toInt < 24) (hat : l[Int32.toNatClampNeg i]? = some t) (hs : (st3 N l t).length ≤ 24) (e2 : i2.toInt = i.toInt + 1) : fd N (25 - i2.toInt).toNat i2.toInt.toNat (st3 N l t) = fd N (25 - i.toInt).toNat i.toInt.toNat l := by
  have e : (25 - i.toInt).toNat = (25 - i2.toInt).toNat + 1 := by omega
  have e3 : i2.toInt.toNat = Int32.toNatClampNeg i + 1 := by
    have hc := clamp_int h0
    omega
  rw [e, e3]
  exact (fd_step hat hs).symm
end FDS
end
section
-- WHAT IS TOLD: lemmas of the leaves of one object
def rowLp (k : Int32) (m : Nat) (g : Nat → Int32) (i : Nat) : List (Int32 × Int32 × Int64) := (k, 9, (Int32.ofNat m).toInt64) :: (List.range i).map (fun i => (k, 100 + Int32.ofNat i, (g i).toInt64))
theorem ofNat_clamp {i : Int32} (h : 0 ≤ i.toInt) : Int32.ofNat (Int32.toNatClampNeg i) = i := by
  have hc := clamp_int h
  apply Int32.toInt_inj.mp
  rw [oN_toInt (n := Int32.toNatClampNeg i) (by have := Int32.toInt_lt i; omega)]
  omega
section TOLD
variable {nb : Nat → Int32} {V : Nat → Int64} {N : Int → Option Nat} {R : Option (Nat × (Nat → Int32))} {k w : Int32} {ll : List (Int32 × Int32 × Int64)} {F : Nat → List (Int32 × Int32 × Int64)}
theorem row_step {m : Nat} {g : Nat → Int32} {i i2 d v : Int32} (h0 : 0 ≤ i.toInt) (ed : d = 100 + i) (ev : v = g (Int32.toNatClampNeg i)) (e2 : i2.toInt = i.toInt + 1) : ll ++ rowLp k m g (Int32.toNatClampNeg i2) = (ll ++ rowLp k m g (Int32.toNatClampNeg i)) ++ [(k, d, v.toInt64)] := by
  have h1 := clamp_int h0
  have h2 := clamp_int (i := i2) (by omega)
  have e : Int32.toNatClampNeg i2 = Int32.toNatClampNeg i + 1 := by omega
  unfold rowLp
  rw [e, List.range_succ, List.map_append, ed, ev, List.append_assoc]
  simp only [List.map_cons, List.map_nil, List.cons_append, ofNat_clamp h0]
theorem row_0 {m : Nat} {g : Nat → Int32} : ll ++ rowLp k m g 0 = ll ++ [(k, 9, (Int32.ofNat m).toInt64)] := rfl
theorem row_end {m : Nat} {g : Nat → Int32} : rowLp k m g m = rowL k m g := rfl
theorem row_le {m i : Nat} {g : Nat → Int32} (h : i ≤ m) : (ll ++ rowLp k m g i).length ≤ (ll ++ rowL k m g).length := by
  unfold rowLp rowL
  simp
  omega
theorem lff_l0 (hw : w.toInt = 8 ∨ w.toInt = 11 ∨ w.toInt = 15) (hN : N w.toInt = none) : lff nb V N R k (Int32.toNatClampNeg w) = [] := by
  have hc := clamp_int (i := w) (by omega)
  unfold lff
  rw [if_pos (by omega), hc, hN]
theorem lff_l1 {u : Nat} (hw : w.toInt = 8 ∨ w.toInt = 11 ∨ w.toInt = 15) (hN : N w.toInt = some u) : lff nb V N R k (Int32.toNatClampNeg w) = [(k, w, (nb u).toInt64)] := by
  have hc := clamp_int (i := w) (by omega)
  unfold lff
  rw [if_pos (by omega), hc, hN, ofNat_clamp (by omega)]
theorem lff_r0 (hw : w.toInt = 9) (hR : R = none) : lff nb V N R k (Int32.toNatClampNeg w) = [] := by
  have hc := clamp_int (i := w) (by omega)
  unfold lff
  rw [if_neg (by omega), if_pos (by omega), hR]
theorem lff_r1 {m : Nat} {g : Nat → Int32} (hw : w.toInt = 9) (hR : R = some (m, g)) : lff nb V N R k (Int32.toNatClampNeg w) = rowL k m g := by
  have hc := clamp_int (i := w) (by omega)
  unfold lff
  rw [if_neg (by omega), if_pos (by omega), hR]
theorem lff_v0 (hw : 0 ≤ w.toInt ∧ ¬ (w.toInt = 8 ∨ w.toInt = 11 ∨ w.toInt = 15) ∧ ¬ w.toInt = 9) (hV : V (Int32.toNatClampNeg w) = 0) : lff nb V N R k (Int32.toNatClampNeg w) = [] := by
  have hc := clamp_int (i := w) (by omega)
  unfold lff
  rw [if_neg (by omega), if_neg (by omega), if_pos hV]
theorem lff_v1 (hw : 0 ≤ w.toInt ∧ ¬ (w.toInt = 8 ∨ w.toInt = 11 ∨ w.toInt = 15) ∧ ¬ w.toInt = 9) (hV : ¬ V (Int32.toNatClampNeg w) = 0) : lff nb V N R k (Int32.toNatClampNeg w) = [(k, w, V (Int32.toNatClampNeg w))] := by
  have hc := clamp_int (i := w) (by omega)
  unfold lff
  rw [if_neg (by omega), if_neg (by omega), if_neg hV, ofNat_clamp (by omega)]
theorem lfs_mono {i j : Nat} (h : i ≤ j) : (lfs F i).length ≤ (lfs F j).length := by
  induction j with
  | zero => rw [Nat.le_zero.mp h]; exact Nat.le_refl _
  | succ j ih =>
    by_cases e : i = j + 1
    · rw [e]; exact Nat.le_refl _
    · show _ ≤ (lfs F j ++ F j).length
      have := ih (by omega)
      simp
      omega
theorem lfs_step {i i2 : Int32} {x : Int32 × Int32 × Int64} (h0 : 0 ≤ i.toInt) (e2 : i2.toInt = i.toInt + 1) : ll ++ x :: lfs F (Int32.toNatClampNeg i2) = (ll ++ x :: lfs F (Int32.toNatClampNeg i)) ++ F (Int32.toNatClampNeg i) := by
  have h1 := clamp_int h0
  have h2 := clamp_int (i := i2) (by omega)
  have e : Int32.toNatClampNeg i2 = Int32.toNatClampNeg i + 1 := by omega
  rw [e]
  show ll ++ x :: (lfs F _ ++ F _) = _
  simp
theorem lob_le {c : Int32} {i : Int32} (h0 : 0 ≤ i.toInt) (h1 : i.toInt < 17) : ((ll ++ (k, -1, c.toInt64) :: lfs F (Int32.toNatClampNeg i)) ++ F (Int32.toNatClampNeg i)).length ≤ (ll ++ lob c F k).length := by
  have hc := clamp_int h0
  have h := lfs_mono (F := F) (i := Int32.toNatClampNeg i + 1) (j := 17) (by omega)
  have e : lfs F (Int32.toNatClampNeg i + 1) = lfs F (Int32.toNatClampNeg i) ++ F (Int32.toNatClampNeg i) := rfl
  rw [e] at h
  unfold lob
  simp at h ⊢
  omega
theorem lall_mono {O : Nat → List (Int32 × Int32 × Int64)} {i j : Nat} (h : i ≤ j) : (lall O i).length ≤ (lall O j).length := by
  induction j with
  | zero => rw [Nat.le_zero.mp h]; exact Nat.le_refl _
  | succ j ih =>
    by_cases e : i = j + 1
    · rw [e]; exact Nat.le_refl _
    · show _ ≤ (lall O j ++ O j).length
      have := ih (by omega)
      simp
      omega
theorem lall_step {O : Nat → List (Int32 × Int32 × Int64)} {i i2 : Int32} (h0 : 0 ≤ i.toInt) (e2 : i2.toInt = i.toInt + 1) : lall O (Int32.toNatClampNeg i2) = lall O (Int32.toNatClampNeg i) ++ O (Int32.toNatClampNeg i) := by
  have h1 := clamp_int h0
  have h2 := clamp_int (i := i2) (by omega)
  have e : Int32.toNatClampNeg i2 = Int32.toNatClampNeg i + 1 := by omega
  rw [e]
  rfl
end TOLD
section TOLD2
variable {kT kI kJ : ClassId} {K : Nat → Nat} {L : List Nat} {f f2 : Nat → va_E} {ow : Nat → Nat} {x y t h : Nat} {l : List (Int32 × Int32 × Int64)} {lf : List Nat} {r n d : Int32} {v : Int64}
/-- the views of an object stay -/
theorem TL.th (hT : TL K L ow y f f2) (hPI : PI kT kI kJ K L f) (hy : isr K L 0 y) (ht : isr K L 1 t) : g_cn f2 t = g_cn f t ∧ g_vl f2 t = g_vl f t ∧ g_lk f2 t = g_lk f t ∧ g_rw f2 t = g_rw f t := by
  obtain ⟨cn, u, b, m, st, i, e, hu, hb, hm, hs, hi⟩ := hPI.a1 ht
  have e2 := hT.at hy ht (by decide)
  have eu := hT.at hy hu (by decide)
  refine ⟨by unfold g_cn; rw [e2], by unfold g_vl; rw [e2, th_pv e, eu], by funext w; unfold g_lk; rw [e2], ?_⟩
  unfold g_rw
  rw [e2, th_i e]
  cases i with
  | none => rfl
  | some r =>
    show some (aN (f2 r), aI (f2 r)) = some (aN (f r), aI (f r))
    rw [hT.at hy (hi r rfl) (by decide)]
theorem TL.fs (hT : TL K L ow y f f2) (hPI : PI kT kI kJ K L f) (hy : isr K L 0 y) (hh : isr K L 2 h) (hF : FS f h lf) : FS f2 h lf := by
  obtain ⟨q1, pc, c1, c2, c3, q5, fc, q7, mc, e, h1, h2, h3, h4, h5, h6, h7, h8⟩ := hPI.a2 hh
  have e2 := hT.at hy hh (by decide)
  unfold FS
  rw [e2, ob_q5 e, hT.at hy h5 (by decide)]
  have := hF
  unfold FS at this
  rw [ob_q5 e] at this
  exact this
/-- a leaf told, or no room -/
theorem add_told (hPI : PI kT kI kJ K L f) (hO : OWN K L f ow) (hy : isr K L 0 y) (hl : LSt f y l) (hw : bo r ((l_z f y).toInt < 300)) (e2 : f2 = ks_add f y n d v) : (TL K L ow y f f2 ∧ OWN K L f2 ow) ∧ ((r = 1 ∧ LSt f2 y (l ++ [(n, d, v)]) ∧ (l ++ [(n, d, v)]).length ≤ 300) ∨ (r = 0 ∧ 300 < (l ++ [(n, d, v)]).length)) := by
  have hz := hl.1
  rcases hw with ⟨rfl, hp⟩ | ⟨rfl, hp⟩
  · obtain ⟨h1, h2⟩ := add_ok hPI hO hy hl hp e2
    exact ⟨⟨h1, h1.own hy hO⟩, Or.inl ⟨rfl, h2, by rw [List.length_append]; simp; omega⟩⟩
  · have e3 : f2 = f := by rw [e2]; unfold ks_add; rw [if_neg hp]
    rw [e3]
    exact ⟨⟨TL.rf, hO⟩, Or.inr ⟨rfl, by rw [List.length_append]; simp; omega⟩⟩
end TOLD2
theorem LSt.le {kT kI kJ : ClassId} {K : Nat → Nat} {L : List Nat} {f : Nat → va_E} {y : Nat} {l : List (Int32 × Int32 × Int64)} (hl : LSt f y l) (hPI : PI kT kI kJ K L f) (hy : isr K L 0 y) : l.length ≤ 300 := by
  obtain ⟨a, b, c, z, e, ha, hb, hc, hz⟩ := hPI.a0 hy
  have h := hl.1
  rw [li_z e] at h
  omega
theorem row_fin {k : Int32} {m : Nat} {g : Nat → Int32} {i : Int32} (h0 : 0 ≤ i.toInt) (e : i.toInt = (m : Int)) : rowLp k m g (Int32.toNatClampNeg i) = rowL k m g := by
  have hc := clamp_int h0
  have e2 : Int32.toNatClampNeg i = m := by omega
  rw [e2]
  rfl
theorem lob_fin {k c : Int32} {F : Nat → List (Int32 × Int32 × Int64)} {i : Int32} (h0 : 0 ≤ i.toInt) (e : i.toInt = 17) : (k, (-1 : Int32), c.toInt64) :: lfs F (Int32.toNatClampNeg i) = lob c F k := by
  have hc := clamp_int h0
  have e2 : Int32.toNatClampNeg i = 17 := by omega
  rw [e2]
  rfl
end
section
-- ALL LEAVES of an object
def tls (no : Int32) (C : Nat → Int32) (V : Nat → Nat → Int64) (N : Nat → Int → Option Nat) (R : Nat → Option (Nat × (Nat → Int32))) (l : List Nat) (k : Nat) : List (Int32 × Int32 × Int64) := lob (C (l.getD k 0)) (lff (nbr no l) (V (l.getD k 0)) (N (l.getD k 0)) (R (l.getD k 0)) (Int32.ofNat k)) (Int32.ofNat k)
def tlS (no : Int32) (C : Nat → Int32) (V : Nat → Nat → Int64) (N : Nat → Int → Option Nat) (R : Nat → Option (Nat × (Nat → Int32))) (x : Nat) : Option (List (Int32 × Int32 × Int64)) := match fd N 25 0 [x] with
  | none => none
  | some l => if (lall (tls no C V N R l) l.length).length ≤ 300 then some (lall (tls no C V N R l) l.length) else none
section TELLS
variable {kT kI kJ : ClassId} {K : Nat → Nat} {L : List Nat} {f f1 f2 : Nat → va_E} {ow : Nat → Nat} {x y t h : Nat} {lf : List Nat}
theorem TF.th (hT : TF K L ow y h f f2) (hPI : PI kT kI kJ K L f) (hy : isr K L 0 y) (ht : isr K L 1 t) : g_cn f2 t = g_cn f t ∧ g_vl f2 t = g_vl f t ∧ g_lk f2 t = g_lk f t ∧ g_rw f2 t = g_rw f t := by
  obtain ⟨cn, u, b, m, st, i, e, hu, hb, hm, hs, hi⟩ := hPI.a1 ht
  have e2 := hT.at hy ht (by decide)
  have eu := hT.at hy hu (by decide)
  refine ⟨by unfold g_cn; rw [e2], by unfold g_vl; rw [e2, th_pv e, eu], by funext w; unfold g_lk; rw [e2], ?_⟩
  unfold g_rw
  rw [e2, th_i e]
  cases i with
  | none => rfl
  | some r =>
    show some (aN (f2 r), aI (f2 r)) = some (aN (f r), aI (f r))
    rw [hT.at hy (hi r rfl) (by decide)]
/-- the list is emptied -/
theorem size_0 {a b c : Nat} {z z2 : Int32} (hy : isr K L 0 y) (e : f y = .inr (0, [.ref a, .ref b, .ref c, .int z])) (e2 : va_up f y (.inr (0, [.ref a, .ref b, .ref c, .int z2])) = f2) (hz : z2.toInt = 0) : TL K L ow y f f2 ∧ LSt f2 y [] ∧ g_lk f2 = g_lk f := by
  have ey : f2 y = .inr (0, [.ref a, .ref b, .ref c, .int z2]) := by rw [← e2, va_up_self]
  refine ⟨⟨fun q hq hn => ?_, by rw [li_pn ey, li_pn e], by rw [li_pd ey, li_pd e], by rw [li_pv ey, li_pv e]⟩, LSv.nil (by rw [li_z ey]; exact hz), ?_⟩
  · rw [← e2, va_up_ne _ _ (fun h => hn (Or.inl h))]
  · funext t w
    by_cases et : t = y
    · subst et
      unfold g_lk
      rw [ey, e]
      rfl
    · unfold g_lk
      rw [← e2, va_up_ne _ _ et]
theorem getD_at {i : Int32} (h0 : 0 ≤ i.toInt) (h1 : i.toInt < (lf.length : Int)) : lf[Int32.toNatClampNeg i]? = some (lf.getD (Int32.toNatClampNeg i) 0) := by
  have hc := clamp_int h0
  have hl : Int32.toNatClampNeg i < lf.length := by omega
  rw [List.getD_eq_getElem?_getD, List.getElem?_eq_getElem hl]
  rfl
theorem tlS_none1 {no : Int32} {C : Nat → Int32} {V : Nat → Nat → Int64} {N : Nat → Int → Option Nat} {R : Nat → Option (Nat × (Nat → Int32))} (h : ¬ (fd N 25 0 [x]).isSome = true) : tlS no C V N R x = none := by
  unfold tlS
  cases e : fd N 25 0 [x] with
  | none => rfl
  | some l => rw [e] at h; exact absurd rfl h
theorem tlS_none2 {no : Int32} {C : Nat → Int32} {V : Nat → Nat → Int64} {N : Nat → Int → Option Nat} {R : Nat → Option (Nat × (Nat → Int32))} (h : fd N 25 0 [x] = some lf) (h2 : 300 < (lall (tls no C V N R lf) lf.length).length) : tlS no C V N R x = none := by
  unfold tlS
  rw [h]
  exact if_neg (by omega)
theorem tlS_some {no : Int32} {C : Nat → Int32} {V : Nat → Nat → Int64} {N : Nat → Int → Option Nat} {R : Nat → Option (Nat × (Nat → Int32))} (h : fd N 25 0 [x] = some lf) (h2 : (lall (tls no C V N R lf) lf.length).length ≤ 300) : tlS no C V N R x = some (lall (tls no C V N R lf) lf.length) := by
  unfold tlS
  rw [h]
  exact if_pos h2
/-- how the object told next stands among all -/
theorem tls_at {no : Int32} {C : Nat → Int32} {V : Nat → Nat → Int64} {N : Nat → Int → Option Nat} {R : Nat → Option (Nat × (Nat → Int32))} {i : Int32} (h0 : 0 ≤ i.toInt) : tls no C V N R lf (Int32.toNatClampNeg i) = lob (C (lf.getD (Int32.toNatClampNeg i) 0)) (lff (nbr no lf) (V (lf.getD (Int32.toNatClampNeg i) 0)) (N (lf.getD (Int32.toNatClampNeg i) 0)) (R (lf.getD (Int32.toNatClampNeg i) 0)) i) i := by
  unfold tls
  rw [ofNat_clamp h0]
end TELLS
theorem FF.ls {kT kI kJ : ClassId} {K : Nat → Nat} {L : List Nat} {f f2 : Nat → va_E} {h y : Nat} {l : List (Int32 × Int32 × Int64)} (hF : FF K L h f f2) (hPI : PI kT kI kJ K L f) (hy : isr K L 0 y) (hl : LSt f y l) : LSt f2 y l := by
  obtain ⟨a, b, c, z, e, ha, hb, hc, hz⟩ := hPI.a0 hy
  unfold LSt l_z l_n l_d l_v at hl ⊢
  rw [li_pn e, li_pd e, li_pv e] at hl
  rw [hF.at hy rfl, li_pn e, li_pd e, li_pv e, hF.at ha rfl, hF.at hb rfl, hF.at hc rfl]
  exact hl
end
section
-- WHAT leaves, make, row ANSWER AND CHANGE
def ks_lv (f : Nat → va_E) (h : Nat) (s r : Int32) : Prop := if (0 ≤ s.toInt ∧ s.toInt < 12) then (match g_sl f h (Int32.toNatClampNeg s) with
  | none => r = -11
  | some x => (match tlS (-1) (g_cn f) (g_vl f) (g_lk f) (g_rw f) x with
    | none => r = -3
    | some ls => r.toInt = (ls.length : Int))) else r = -1
def ks_lvh (K : Nat → Nat) (L : List Nat) (ow : Nat → Nat) (f : Nat → va_E) (h : Nat) (s : Int32) (f2 : Nat → va_E) : Prop := if (0 ≤ s.toInt ∧ s.toInt < 12) then (match g_sl f h (Int32.toNatClampNeg s) with
  | none => f2 = f
  | some x => (match tlS (-1) (g_cn f) (g_vl f) (g_lk f) (g_rw f) x with
    | none => TF K L ow (cP (f h) 3) h f f2
    | some ls => ∃ f1, TF K L ow (cP (f h) 3) h f f1 ∧ LSt f1 (cP (f h) 3) ls ∧ f2 = s_F (s_F f1 h 2 (.ref (cP (f h) 3))) h 3 (.ref (cP (f h) 2)))) else f2 = f
def ks_vals (c n : Int32) : Nat → Int64 := if c.toInt = 2 then vp_updL (fun _ => 0) (Int32.toNatClampNeg 13) n.toInt64 else if c.toInt = 4 then vp_updL (fun _ => 0) (Int32.toNatClampNeg 16) n.toInt64 else fun _ => 0
def ks_mk (kJ : ClassId) (K : Nat → Nat) (L : List Nat) (f : Nat → va_E) (h : Nat) (s c n : Int32) (K2 : Nat → Nat) (L2 : List Nat) (f2 : Nat → va_E) : Prop := (¬ ((0 ≤ s.toInt ∧ s.toInt < 12) ∧ (0 ≤ c.toInt ∧ c.toInt ≤ 4) ∧ (¬ c.toInt = 2 ∨ (0 ≤ n.toInt ∧ n.toInt ≤ 1000))) ∧ K2 = K ∧ L2 = L ∧ f2 = f) ∨ (((0 ≤ s.toInt ∧ s.toInt < 12) ∧ (0 ≤ c.toInt ∧ c.toInt ≤ 4) ∧ (¬ c.toInt = 2 ∨ (0 ≤ n.toInt ∧ n.toInt ≤ 1000))) ∧ ∃ q u : Nat, (q ∉ L ∧ u ∉ L ∧ q ≠ u ∧ K2 = va_up (va_up K u 3) q 1 ∧ L2 = q :: u :: L) ∧ f2 = s_R (va_up (va_up f u (.inl (kJ, 17, .inr (.inl (ks_vals c n))))) q (.inr (1, [.int c, .ref u, va_rf none, va_rf none, va_rf none, va_rf none]))) (cP (f h) 0) (Int32.toNatClampNeg s) (some q))
def ks_rw (S : Nat → Option Nat) (C : Nat → Int32) (s n : Int32) : Int32 := if (0 ≤ s.toInt ∧ s.toInt < 12) ∧ n.toInt ≤ 20 then (match S (Int32.toNatClampNeg s) with
  | none => if n.toInt < 0 ∧ ¬ n.toInt = -4 then -13 else -11
  | some x => if (0 ≤ (C x).toInt ∧ (C x).toInt ≤ 2) then (if n.toInt < 0 ∧ ¬ n.toInt = -4 then -13 else n) else -14) else -1
def ks_rwh (kI : ClassId) (K : Nat → Nat) (L : List Nat) (f : Nat → va_E) (h : Nat) (s n : Int32) (K2 : Nat → Nat) (L2 : List Nat) (f2 : Nat → va_E) : Prop := ((∀ x, (0 ≤ s.toInt ∧ s.toInt < 12) → g_sl f h (Int32.toNatClampNeg s) = some x → n.toInt ≤ 20 → (0 ≤ n.toInt ∨ n.toInt = -4) → ¬ (0 ≤ (g_cn f x).toInt ∧ (g_cn f x).toInt ≤ 2)) ∧ K2 = K ∧ L2 = L ∧ f2 = f) ∨ ∃ x, ((0 ≤ s.toInt ∧ s.toInt < 12) ∧ g_sl f h (Int32.toNatClampNeg s) = some x ∧ n.toInt ≤ 20 ∧ (0 ≤ (g_cn f x).toInt ∧ (g_cn f x).toInt ≤ 2)) ∧ ((n.toInt = -4 ∧ K2 = K ∧ L2 = L ∧ f2 = s_F f x 5 (va_rf none)) ∨ (0 ≤ n.toInt ∧ ∃ q : Nat, (q ∉ L ∧ K2 = va_up K q 4 ∧ L2 = q :: L) ∧ f2 = s_F (va_up f q (.inl (kI, (Int32.toNatClampNeg n), .inl (fun _ => 0)))) x 5 (va_rf (some q))))
end
section
set_option maxRecDepth 20000 in
theorem oi_u_X1_init : Cond.code objectInit ⟨#[0xb1]⟩ 1 none ∈ wsX1_init := List.mem_of_getElem? (i := 3) rfl
end
section
-- MADE FROM LEAVES, purely: what makers are told, what is filled in
def tm : List (Int32 × Int32 × Int64) → Int32
  | [] => 0
  | x :: t => if x.2.1.toInt = -1 then 0 else if x.2.1.toInt = 13 ∨ x.2.1.toInt = 16 then (ks_as x.2.1 x.2.2).toInt32 else tm t
def mkl : List (Int32 × Int32 × Int64) → List (Int32 × Int32)
  | [] => []
  | x :: t => if x.2.1.toInt = -1 then (x.2.2.toInt32, tm t) :: mkl t else mkl t
def tak (x : Int32 × Int32) : Prop := ¬ x.1.toInt = 2 ∨ (0 ≤ x.2.toInt ∧ x.2.toInt ≤ 1000)
/-- what is wrong with a leaf: n objects of the classes cs -/
def fcd (n : Nat) (cs : Nat → Int32) (x : Int32 × Int32 × Int64) : Int32 := if 0 ≤ x.1.toInt ∧ x.1.toInt < (n : Int) then (if x.2.1.toInt = 8 ∨ x.2.1.toInt = 11 ∨ x.2.1.toInt = 15 then (if 0 ≤ x.2.2.toInt ∧ x.2.2.toInt < (n : Int) then (if (((sp_wan x.2.1).toInt = 5 ∧ ¬ (cs x.2.2.toInt.toNat).toInt = 4) ∨ (¬ (sp_wan x.2.1).toInt = 5 ∧ (sp_wan x.2.1).toInt ≤ 2 ∧ (sp_wan x.2.1).toInt ≤ (cs x.2.2.toInt.toNat).toInt ∧ (cs x.2.2.toInt.toNat).toInt ≤ 2) ∨ (¬ (sp_wan x.2.1).toInt = 5 ∧ ¬ (sp_wan x.2.1).toInt ≤ 2 ∧ (cs x.2.2.toInt.toNat).toInt = (sp_wan x.2.1).toInt)) then 0 else -14) else -12) else 0) else -12
def fcl (n : Nat) (cs : Nat → Int32) : List (Int32 × Int32 × Int64) → Int32
  | [] => 0
  | x :: t => if fcd n cs x = 0 then fcl n cs t else fcd n cs x
def stV (x : Int32 × Int32 × Int64) (V : Nat → Nat → Int64) : Nat → Nat → Int64 := if (0 ≤ x.2.1.toInt ∧ x.2.1.toInt < 17 ∧ ¬ x.2.1.toInt = 8 ∧ ¬ x.2.1.toInt = 9 ∧ ¬ x.2.1.toInt = 11 ∧ ¬ x.2.1.toInt = 15) ∧ ¬ (x.2.1.toInt = 13 ∨ x.2.1.toInt = 16) then va_up V (Int32.toNatClampNeg x.1) (vp_updL (V (Int32.toNatClampNeg x.1)) (Int32.toNatClampNeg x.2.1) (ks_as x.2.1 x.2.2)) else V
def stN (x : Int32 × Int32 × Int64) (N : Nat → Int → Option Nat) : Nat → Int → Option Nat := if x.2.1.toInt = 8 ∨ x.2.1.toInt = 11 ∨ x.2.1.toInt = 15 then va_up N (Int32.toNatClampNeg x.1) (fun w => if w = x.2.1.toInt then some x.2.2.toInt.toNat else N (Int32.toNatClampNeg x.1) w) else N
def stR (x : Int32 × Int32 × Int64) (R : Nat → Option (Nat × (Nat → Int32))) : Nat → Option (Nat × (Nat → Int32)) := if x.2.1.toInt = 9 then va_up R (Int32.toNatClampNeg x.1) (if 0 ≤ x.2.2.toInt ∧ x.2.2.toInt ≤ 20 then some (x.2.2.toInt.toNat, fun _ => 0) else none) else if 100 ≤ x.2.1.toInt then va_up R (Int32.toNatClampNeg x.1) ((R (Int32.toNatClampNeg x.1)).map (fun r => if x.2.1.toInt - 100 < (r.1 : Int) then (r.1, upd r.2 (x.2.1.toInt - 100).toNat x.2.2.toInt32) else r)) else R
section BACKP
variable {z : Int32} {n d : Nat → Int32} {v : Nat → Int64} {l : List (Int32 × Int32 × Int64)} {i i2 : Int32}
theorem cl_succ (h0 : 0 ≤ i.toInt) (e : i2.toInt = i.toInt + 1) : Int32.toNatClampNeg i2 = Int32.toNatClampNeg i + 1 := by
  have h1 := clamp_int h0
  have h2 := clamp_int (i := i2) (by omega)
  omega
theorem drop_at (h : LSv z n d v l) (h0 : 0 ≤ i.toInt) (h1 : i.toInt < z.toInt) : l.drop (Int32.toNatClampNeg i) = (n (Int32.toNatClampNeg i), d (Int32.toNatClampNeg i), v (Int32.toNatClampNeg i)) :: l.drop (Int32.toNatClampNeg i + 1) := by
  have e := h.at h0 h1
  obtain ⟨hl, e2⟩ := List.getElem?_eq_some_iff.mp e
  rw [List.drop_eq_getElem_cons hl, e2]
theorem drop_end (h : LSv z n d v l) (h0 : 0 ≤ i.toInt) (h1 : ¬ i.toInt < z.toInt) : l.drop (Int32.toNatClampNeg i) = [] := by
  have hc := clamp_int h0
  have := h.1
  exact List.drop_eq_nil_of_le (by omega)
theorem tm_next (h : LSv z n d v l) (h0 : 0 ≤ i.toInt) (h1 : i.toInt < z.toInt) (hn : ¬ (d (Int32.toNatClampNeg i)).toInt = -1) (hf : ¬ ((d (Int32.toNatClampNeg i)).toInt = 13 ∨ (d (Int32.toNatClampNeg i)).toInt = 16)) (e : i2.toInt = i.toInt + 1) : tm (l.drop (Int32.toNatClampNeg i2)) = tm (l.drop (Int32.toNatClampNeg i)) := by
  rw [drop_at h h0 h1, cl_succ h0 e]
  show _ = (if _ then _ else _)
  rw [if_neg hn, if_neg hf]
theorem tm_hit (h : LSv z n d v l) (h0 : 0 ≤ i.toInt) (h1 : i.toInt < z.toInt) (hn : ¬ (d (Int32.toNatClampNeg i)).toInt = -1) (hf : (d (Int32.toNatClampNeg i)).toInt = 13 ∨ (d (Int32.toNatClampNeg i)).toInt = 16) : tm (l.drop (Int32.toNatClampNeg i)) = (ks_as (d (Int32.toNatClampNeg i)) (v (Int32.toNatClampNeg i))).toInt32 := by
  rw [drop_at h h0 h1]
  show (if _ then _ else _) = _
  rw [if_neg hn, if_pos hf]
theorem tm_stop (h : LSv z n d v l) (h0 : 0 ≤ i.toInt) (h1 : i.toInt < z.toInt) (hn : (d (Int32.toNatClampNeg i)).toInt = -1) : tm (l.drop (Int32.toNatClampNeg i)) = 0 := by
  rw [drop_at h h0 h1]
  exact if_pos hn
theorem tm_end (h : LSv z n d v l) (h0 : 0 ≤ i.toInt) (h1 : ¬ i.toInt < z.toInt) : tm (l.drop (Int32.toNatClampNeg i)) = 0 := by
  rw [drop_end h h0 h1]
  rfl
theorem mkl_hit (h : LSv z n d v l) (h0 : 0 ≤ i.toInt) (h1 : i.toInt < z.toInt) (hn : (d (Int32.toNatClampNeg i)).toInt = -1) (e : i2.toInt = i.toInt + 1) : mkl (l.drop (Int32.toNatClampNeg i)) = ((v (Int32.toNatClampNeg i)).toInt32, tm (l.drop (Int32.toNatClampNeg i + 1))) :: mkl (l.drop (Int32.toNatClampNeg i2)) := by
  rw [drop_at h h0 h1, cl_succ h0 e]
  exact if_pos hn
theorem mkl_next (h : LSv z n d v l) (h0 : 0 ≤ i.toInt) (h1 : i.toInt < z.toInt) (hn : ¬ (d (Int32.toNatClampNeg i)).toInt = -1) (e : i2.toInt = i.toInt + 1) : mkl (l.drop (Int32.toNatClampNeg i)) = mkl (l.drop (Int32.toNatClampNeg i2)) := by
  rw [drop_at h h0 h1, cl_succ h0 e]
  exact if_neg hn
theorem mkl_end (h : LSv z n d v l) (h0 : 0 ≤ i.toInt) (h1 : ¬ i.toInt < z.toInt) : mkl (l.drop (Int32.toNatClampNeg i)) = [] := by
  rw [drop_end h h0 h1]
  rfl
theorem fcl_next {m : Nat} {cs : Nat → Int32} (h : LSv z n d v l) (h0 : 0 ≤ i.toInt) (h1 : i.toInt < z.toInt) (hn : fcd m cs (n (Int32.toNatClampNeg i), d (Int32.toNatClampNeg i), v (Int32.toNatClampNeg i)) = 0) (e : i2.toInt = i.toInt + 1) : fcl m cs (l.drop (Int32.toNatClampNeg i)) = fcl m cs (l.drop (Int32.toNatClampNeg i2)) := by
  rw [drop_at h h0 h1, cl_succ h0 e]
  exact if_pos hn
theorem fcl_hit {m : Nat} {cs : Nat → Int32} (h : LSv z n d v l) (h0 : 0 ≤ i.toInt) (h1 : i.toInt < z.toInt) (hn : ¬ fcd m cs (n (Int32.toNatClampNeg i), d (Int32.toNatClampNeg i), v (Int32.toNatClampNeg i)) = 0) : fcl m cs (l.drop (Int32.toNatClampNeg i)) = fcd m cs (n (Int32.toNatClampNeg i), d (Int32.toNatClampNeg i), v (Int32.toNatClampNeg i)) := by
  rw [drop_at h h0 h1]
  exact if_neg hn
theorem fcl_end {m : Nat} {cs : Nat → Int32} (h : LSv z n d v l) (h0 : 0 ≤ i.toInt) (h1 : ¬ i.toInt < z.toInt) : fcl m cs (l.drop (Int32.toNatClampNeg i)) = 0 := by
  rw [drop_end h h0 h1]
  rfl
theorem take_at (h : LSv z n d v l) (h0 : 0 ≤ i.toInt) (h1 : i.toInt < z.toInt) (e : i2.toInt = i.toInt + 1) : l.take (Int32.toNatClampNeg i2) = l.take (Int32.toNatClampNeg i) ++ [(n (Int32.toNatClampNeg i), d (Int32.toNatClampNeg i), v (Int32.toNatClampNeg i))] := by
  have e3 := h.at h0 h1
  rw [cl_succ h0 e, List.take_add_one, e3]
  rfl
theorem take_all (h : LSv z n d v l) (h0 : 0 ≤ i.toInt) (h1 : ¬ i.toInt < z.toInt) : l.take (Int32.toNatClampNeg i) = l := by
  have hc := clamp_int h0
  have := h.1
  exact List.take_of_length_le (by omega)
end BACKP
end
section
-- OBJECTS IN THE MAKING: qs their cells, cs classes, V values, N links by numbers, R rows; K, L, f the heap ahead
def PHM (f f2 : Nat → va_E) (h : Nat) : Prop := cP (f2 h) 0 = cP (f h) 0 ∧ cI (f2 h) 1 = cI (f h) 1 ∧ cP (f2 h) 2 = cP (f h) 2 ∧ cP (f2 h) 3 = cP (f h) 3 ∧ cP (f2 h) 4 = cP (f h) 4 ∧ cP (f2 h) 5 = cP (f h) 5 ∧ cP (f2 h) 7 = cP (f h) 7
def MDo (L : List Nat) (fl : Nat → va_E) (qs : Nat → Nat) (c : Int32) (V : Nat → Int64) (N : Int → Option Nat) (R : Option (Nat × (Nat → Int32))) (x : Nat) : Prop := g_cn fl x = c ∧ g_vl fl x = V ∧ (∀ w, g_lk fl x w = (N w).map qs) ∧ g_rw fl x = R ∧ cP (fl x) 1 ∉ L ∧ ∀ r, cR (fl x) 5 = some r → r ∉ L
def MDf (K : Nat → Nat) (L : List Nat) (f : Nat → va_E) (h : Nat) (Kl : Nat → Nat) (Ll : List Nat) (fl : Nat → va_E) (ow : Nat → Nat) (n : Nat) (qs : Nat → Nat) (cs : Nat → Int32) (V : Nat → Nat → Int64) (N : Nat → Int → Option Nat) (R : Nat → Option (Nat × (Nat → Int32))) : Prop := ((∀ a, a ∈ L → ¬ a = h → ¬ K a = 6 → fl a = f a) ∧ PHM f fl h) ∧ OWN Kl Ll fl ow ∧ ((cI (fl h) 8).toInt = (n : Int) ∧ ∀ i, i < n → aR (fl (cP (fl h) 7)) i = some (qs i) ∧ isr Kl Ll 1 (qs i) ∧ qs i ∉ L) ∧ (∀ i j, i < n → j < n → qs i = qs j → i = j) ∧ ∀ i, i < n → MDo L fl qs (cs i) (V i) (N i) (R i) (qs i)
theorem ne_of {a q : Nat} {Ll : List Nat} (ha : a ∈ Ll) (hq : q ∉ Ll) : a ≠ q := fun e => hq (by rw [← e]; exact ha)
section MADE
variable {kT kI kJ : ClassId} {K Kl K2 : Nat → Nat} {L Ll L2 : List Nat} {f fl f1 f2 : Nat → va_E} {ow : Nat → Nat} {x h q u a n q1 q5 q7 c1 c2 c3 : Nat} {pc fc mc : Int32} {qs : Nat → Nat} {cs : Nat → Int32} {V : Nat → Nat → Int64} {N : Nat → Int → Option Nat} {R : Nat → Option (Nat × (Nat → Int32))}
theorem PHM.rf : PHM f f h := ⟨rfl, rfl, rfl, rfl, rfl, rfl, rfl⟩
theorem PHM.tr (h1 : PHM f f1 h) (h2 : PHM f1 f2 h) : PHM f f2 h := ⟨h2.1.trans h1.1, h2.2.1.trans h1.2.1, h2.2.2.1.trans h1.2.2.1, h2.2.2.2.1.trans h1.2.2.2.1, h2.2.2.2.2.1.trans h1.2.2.2.2.1, h2.2.2.2.2.2.1.trans h1.2.2.2.2.2.1, h2.2.2.2.2.2.2.trans h1.2.2.2.2.2.2⟩
theorem PHM.of (e : f2 h = f h) : PHM f f2 h := by unfold PHM; rw [e]; exact ⟨rfl, rfl, rfl, rfl, rfl, rfl, rfl⟩
/-- an object whose cells stay -/
theorem MDo.keep {c : Int32} {V : Nat → Int64} {N : Int → Option Nat} {R : Option (Nat × (Nat → Int32))} (hM : MDo L fl qs c V N R x) (e1 : f2 x = fl x) (e2 : f2 (cP (fl x) 1) = fl (cP (fl x) 1)) (e3 : ∀ r, cR (fl x) 5 = some r → f2 r = fl r) : MDo L f2 qs c V N R x := by
  obtain ⟨h1, h2, h3, h4, h5, h6⟩ := hM
  refine ⟨by unfold g_cn; rw [e1]; exact h1, by unfold g_vl; rw [e1, e2]; exact h2, fun w => by unfold g_lk; rw [e1]; exact h3 w, ?_, by rw [e1]; exact h5, by rw [e1]; exact h6⟩
  unfold g_rw
  rw [e1, ← h4]
  unfold g_rw
  cases hr : cR (fl x) 5 with
  | none => rfl
  | some r =>
    show some (aN (f2 r), aI (f2 r)) = some (aN (fl r), aI (fl r))
    rw [e3 r hr]
theorem MDo.mp {c : Int32} {V : Nat → Int64} {N : Int → Option Nat} {R : Option (Nat × (Nat → Int32))} {qs2 : Nat → Nat} (hM : MDo L fl qs c V N R x) (e : ∀ w, (N w).map qs2 = (N w).map qs) : MDo L fl qs2 c V N R x := ⟨hM.1, hM.2.1, fun w => by rw [e w]; exact hM.2.2.1 w, hM.2.2.2⟩
theorem ow_pv (hPI : PI kT kI kJ Kl Ll fl) (ht : isr Kl Ll 1 x) : isr Kl Ll 3 (cP (fl x) 1) := by
  obtain ⟨cn, v, b, m, st, i, e, hv, hb, hm, hs, hi⟩ := hPI.a1 ht
  rw [th_pv e]
  exact hv
theorem ow_pi (hPI : PI kT kI kJ Kl Ll fl) (ht : isr Kl Ll 1 x) {r : Nat} (hr : cR (fl x) 5 = some r) : isr Kl Ll 4 r := by
  obtain ⟨cn, v, b, m, st, i, e, hv, hb, hm, hs, hi⟩ := hPI.a1 ht
  rw [th_i e] at hr
  exact hi r hr
theorem mdf_0 (hO : OWN K L f2 ow) (hF : (∀ a, a ∈ L → ¬ a = h → ¬ K a = 6 → f2 a = f a) ∧ PHM f f2 h) (hc : (cI (f2 h) 8).toInt = 0) : MDf K L f h K L f2 ow 0 qs cs V N R := ⟨hF, hO, ⟨hc, fun i hi => absurd hi (Nat.not_lt_zero _)⟩, fun i j hi => absurd hi (Nat.not_lt_zero _), fun i hi => absurd hi (Nat.not_lt_zero _)⟩
/-- one more is made -/
theorem mdf_push {c t z : Int32} {g : Nat → Option Nat} {fa fb : Nat → va_E} (hE : EXT K L Kl Ll) (hhL : isr K L 2 h) (hPI : PI kT kI kJ Kl Ll fl) (hM : MDf K L f h Kl Ll fl ow n qs cs V N R) (hN0 : ∀ i w, N i w = none) (hR0 : ∀ i, R i = none) (e : fl h = .inr (2, [.ref q1, .int pc, .ref c1, .ref c2, .ref c3, .ref q5, .int fc, .ref q7, .int mc])) (h7 : isr Kl Ll 6 q7) (e7 : fl q7 = .inl (kT, 24, .inr (.inr (.inr (.inr g)))))
    (hnf : q ∉ Ll ∧ u ∉ Ll ∧ q ≠ u ∧ K2 = va_up (va_up Kl u 3) q 1 ∧ L2 = q :: u :: Ll ∧ fa = va_up (va_up fl u (.inl (kJ, 17, .inr (.inl (ks_vals c t))))) q (.inr (1, [.int c, .ref u, va_rf none, va_rf none, va_rf none, va_rf none]))) (eb : va_up fa q7 (.inl (kT, 24, .inr (.inr (.inr (.inr (va_up g (Int32.toNatClampNeg mc) (some q))))))) = fb) (e2 : va_up fb h (.inr (2, [.ref q1, .int pc, .ref c1, .ref c2, .ref c3, .ref q5, .int fc, .ref q7, .int z])) = f2) (hz : z.toInt = mc.toInt + 1) :
    MDf K L f h K2 L2 f2 (va_up ow u q) (n + 1) (va_up qs n q) (va_up cs n c) (va_up V n (ks_vals c t)) N R := by
  obtain ⟨⟨hF, hH⟩, hO, ⟨hc, hm⟩, hinj, hobj⟩ := hM
  obtain ⟨hq, hu, hqu, rfl, rfl, hfa⟩ := hnf
  have hh := hhL.ext hE
  rw [ob_mc e] at hc
  rw [ob_q7 e, e7] at hm
  have hn : Int32.toNatClampNeg mc = n := by
    have := clamp_int (i := mc) (by omega)
    omega
  have nh7 : h ≠ q7 := isr_ne hh h7 (by decide)
  have nhq : h ≠ q := fun e => hq (e ▸ hh.1)
  have nhu : h ≠ u := fun e => hu (e ▸ hh.1)
  have n7q : q7 ≠ q := fun e => hq (e ▸ h7.1)
  have n7u : q7 ≠ u := fun e => hu (e ▸ h7.1)
  have eh : f2 h = .inr (2, [.ref q1, .int pc, .ref c1, .ref c2, .ref c3, .ref q5, .int fc, .ref q7, .int z]) := by rw [← e2, va_up_self]
  have e72 : f2 q7 = .inl (kT, 24, .inr (.inr (.inr (.inr (va_up g (Int32.toNatClampNeg mc) (some q)))))) := by rw [← e2, va_up_ne _ _ nh7.symm, ← eb, va_up_self]
  have eq2 : f2 q = .inr (1, [.int c, .ref u, va_rf none, va_rf none, va_rf none, va_rf none]) := by rw [← e2, va_up_ne _ _ nhq.symm, ← eb, va_up_ne _ _ n7q.symm, hfa, va_up_self]
  have eu2 : f2 u = .inl (kJ, 17, .inr (.inl (ks_vals c t))) := by rw [← e2, va_up_ne _ _ nhu.symm, ← eb, va_up_ne _ _ n7u.symm, hfa, va_up_ne _ _ hqu.symm, va_up_self]
  have eo : ∀ a, a ∈ Ll → a ≠ h → a ≠ q7 → f2 a = fl a := fun a ha n1 n2 => by
    rw [← e2, va_up_ne _ _ n1, ← eb, va_up_ne _ _ n2, hfa, va_up_ne _ _ (ne_of ha hq), va_up_ne _ _ (ne_of ha hu)]
  have eK : ∀ k a, isr Kl Ll k a → ¬ k = 2 → ¬ k = 6 → f2 a = fl a := fun k a ha k2 k6 => eo a ha.1 (isr_ne ha hh k2) (isr_ne ha h7 k6)
  have hEx : EXT Kl Ll (va_up (va_up Kl u 3) q 1) (q :: u :: Ll) := EXT.tr (EXT.new hu) (EXT.new (fun hx => by
    rcases List.mem_cons.mp hx with e | e
    · exact hqu e
    · exact hq e))
  have hback : ∀ k a, isr (va_up (va_up Kl u 3) q 1) (q :: u :: Ll) k a → a ≠ q → a ≠ u → isr Kl Ll k a := fun k a ha n1 n2 => by
    obtain ⟨h1, h2⟩ := ha
    rw [va_up_ne _ _ n1, va_up_ne _ _ n2] at h2
    rcases List.mem_cons.mp h1 with e | h1
    · exact absurd e n1
    · rcases List.mem_cons.mp h1 with e | h1
      · exact absurd e n2
      · exact ⟨h1, h2⟩
  have hkq : (va_up (va_up Kl u 3) q 1) q = 1 := va_up_self _ _ _
  have hku : (va_up (va_up Kl u 3) q 1) u = 3 := by rw [va_up_ne _ _ hqu.symm, va_up_self]
  refine ⟨⟨fun a ha n1 k6 => ?_, ?_⟩, ⟨fun y hy => ?_, fun y hy => ?_⟩, ⟨by rw [ob_mc eh, hz]; omega, fun i hi => ?_⟩, fun i j hi hj => ?_, fun i hi => ?_⟩
  · have hal := hE a ha
    rw [eo a hal.1 n1 (fun e9 => k6 (by rw [← hal.2, e9]; exact h7.2))]
    exact hF a ha n1 k6
  · refine hH.tr ?_
    unfold PHM
    rw [eh, e]
    exact ⟨rfl, rfl, rfl, rfl, rfl, rfl, rfl⟩
  · have n1 : y ≠ q := fun e9 => by have h9 := hy.2; rw [e9, hkq] at h9; cases h9
    have n2 : y ≠ u := fun e9 => by have h9 := hy.2; rw [e9, hku] at h9; cases h9
    have hy2 := hback 0 y hy n1 n2
    obtain ⟨a, b, d, z0, ey, ha, hb, hd, _⟩ := hPI.a0 hy2
    have o := hO.1 y hy2
    rw [eK 0 y hy2 (by decide) (by decide)]
    rw [li_pn ey, li_pd ey, li_pv ey] at o ⊢
    rw [va_up_ne _ _ (ne_of ha.1 hu), va_up_ne _ _ (ne_of hb.1 hu), va_up_ne _ _ (ne_of hd.1 hu)]
    exact o
  · by_cases n1 : y = q
    · subst n1
      rw [th_pv eq2, th_i eq2, va_up_self]
      exact ⟨rfl, fun r hr => by cases hr⟩
    · have n2 : y ≠ u := fun e9 => by have h9 := hy.2; rw [e9, hku] at h9; cases h9
      have hy2 := hback 1 y hy n1 n2
      have o := hO.2 y hy2
      rw [eK 1 y hy2 (by decide) (by decide)]
      rw [va_up_ne _ _ (ne_of (ow_pv hPI hy2).1 hu)]
      refine ⟨o.1, fun r hr => ?_⟩
      rw [va_up_ne _ _ (ne_of (ow_pi hPI hy2 hr).1 hu)]
      exact o.2 r hr
  · rw [ob_q7 eh, e72, hn]
    by_cases ei : i = n
    · subst ei
      rw [va_up_self]
      refine ⟨?_, ⟨List.mem_cons_self, hkq⟩, fun h9 => hq (hE q h9).1⟩
      show va_up g i (some q) i = some q
      rw [va_up_self]
    · have hi2 : i < n := by omega
      obtain ⟨m1, m2, m3⟩ := hm i hi2
      rw [va_up_ne _ _ ei]
      refine ⟨?_, m2.ext hEx, m3⟩
      show va_up g n (some q) i = some (qs i)
      rw [va_up_ne _ _ ei]
      exact m1
  · intro e9
    by_cases ei : i = n
    · by_cases ej : j = n
      · rw [ei, ej]
      · rw [ei, va_up_self, va_up_ne _ _ ej] at e9
        exact absurd (e9 ▸ (hm j (by omega)).2.1.1) hq
    · by_cases ej : j = n
      · rw [ej, va_up_self, va_up_ne _ _ ei] at e9
        exact absurd (e9 ▸ (hm i (by omega)).2.1.1) hq
      · rw [va_up_ne _ _ ei, va_up_ne _ _ ej] at e9
        exact hinj i j (by omega) (by omega) e9
  · by_cases ei : i = n
    · subst ei
      rw [va_up_self, va_up_self, va_up_self]
      refine ⟨th_cn eq2, th_vl eq2 eu2, fun w => ?_, by rw [hR0]; exact th_rw0 eq2, by rw [th_pv eq2]; exact fun h9 => hu (hE u h9).1, fun r hr => by rw [th_i eq2] at hr; cases hr⟩
      rw [th_lk eq2, hN0]
      split <;> first | rfl | (split <;> first | rfl | (split <;> rfl))
    · rw [va_up_ne _ _ ei, va_up_ne _ _ ei, va_up_ne _ _ ei]
      have hi2 : i < n := by omega
      have m2 := (hm i hi2).2.1
      exact ((hobj i hi2).mp (fun w => by rw [hN0]; rfl)).keep (eK 1 _ m2 (by decide) (by decide)) (eK 3 _ (ow_pv hPI m2) (by decide) (by decide)) (fun r hr => eK 4 _ (ow_pi hPI m2 hr) (by decide) (by decide))
end MADE
end
section
-- FILLING what was made
theorem va_up_id {α : Type} (g : Nat → α) (a : Nat) : va_up g a (g a) = g := by
  funext i
  by_cases e : i = a
  · rw [e, va_up_self]
  · rw [va_up_ne _ _ e]
section FILL
variable {kT kI kJ : ClassId} {K Kl K2 : Nat → Nat} {L Ll L2 : List Nat} {f fl f2 : Nat → va_E} {ow ow2 : Nat → Nat} {x h q a n : Nat} {qs : Nat → Nat} {cs : Nat → Int32} {V : Nat → Nat → Int64} {N : Nat → Int → Option Nat} {R : Nat → Option (Nat × (Nat → Int32))} {Va : Nat → Int64} {Na : Int → Option Nat} {Ra : Option (Nat × (Nat → Int32))}
theorem mdf_set (hM : MDf K L f h Kl Ll fl ow n qs cs V N R) (hhL : h ∈ L) (hf : ∀ b, b ∈ L → f2 b = fl b) (h7 : f2 (cP (fl h) 7) = fl (cP (fl h) 7)) (hO2 : OWN K2 L2 f2 ow2) (hE : EXT Kl Ll K2 L2) (hoth : ∀ i, i < n → i ≠ a → MDo L f2 qs (cs i) (V i) (N i) (R i) (qs i)) (ha : MDo L f2 qs (cs a) Va Na Ra (qs a)) : MDf K L f h K2 L2 f2 ow2 n qs cs (va_up V a Va) (va_up N a Na) (va_up R a Ra) := by
  obtain ⟨⟨hF, hH⟩, hO, ⟨hc, hm⟩, hinj, hobj⟩ := hM
  refine ⟨⟨fun b hb n1 k6 => (hf b hb).trans (hF b hb n1 k6), hH.tr (PHM.of (hf h hhL))⟩, hO2, ⟨by rw [hf h hhL]; exact hc, fun i hi => ?_⟩, hinj, fun i hi => ?_⟩
  · rw [hf h hhL, h7]
    obtain ⟨m1, m2, m3⟩ := hm i hi
    exact ⟨m1, m2.ext hE, m3⟩
  · by_cases e : i = a
    · rw [e, va_up_self, va_up_self, va_up_self]
      exact ha
    · rw [va_up_ne _ _ e, va_up_ne _ _ e, va_up_ne _ _ e]
      exact hoth i hi e
theorem own_same (hO : OWN K L f ow) (h0 : ∀ y, isr K L 0 y → f2 y = f y) (h1 : ∀ y, isr K L 1 y → f2 y = f y) : OWN K L f2 ow := ⟨fun y hy => by rw [h0 y hy]; exact hO.1 y hy, fun y hy => by rw [h1 y hy]; exact hO.2 y hy⟩
/-- a value is written -/
theorem mdf_val {j : Nat} {w : Int64} (hhL : isr K L 2 h) (hE : EXT K L Kl Ll) (hPI : PI kT kI kJ Kl Ll fl) (hM : MDf K L f h Kl Ll fl ow n qs cs V N R) (ha : a < n) (e2 : f2 = s_J fl (cP (fl (qs a)) 1) j w) : MDf K L f h Kl Ll f2 ow n qs cs (va_up V a (vp_updL (V a) j w)) N R := by
  have hM0 := hM
  obtain ⟨⟨hF, hH⟩, hO, ⟨hc, hm⟩, hinj, hobj⟩ := hM
  have hx := (hm a ha).2.1
  obtain ⟨cn, v, b, m, st, i, e, hv, hb, hmm, hs, hi⟩ := hPI.a1 hx
  obtain ⟨g, eg⟩ := hPI.a3 hv
  rw [th_pv e, s_J_of eg] at e2
  have hxo := hobj a ha
  have hvL : v ∉ L := by have := hxo.2.2.2.2.1; rw [th_pv e] at this; exact this
  have eo : ∀ y, y ≠ v → f2 y = fl y := fun y hy => by rw [e2, va_up_ne _ _ hy]
  have eK : ∀ k y, isr Kl Ll k y → ¬ k = 3 → f2 y = fl y := fun k y hy hk => eo y (isr_ne hy hv hk)
  obtain ⟨q1, pc, c1, c2, c3, q5, fc, q7, mc, eh, h1, h2, h3, h4, h5, h6, h7, h8⟩ := hPI.a2 (hhL.ext hE)
  have hV : g_vl fl (qs a) = g := th_vl e eg
  have key := mdf_set (a := a) (Va := vp_updL (V a) j w) (Na := N a) (Ra := R a) (K2 := Kl) (L2 := Ll) (f2 := f2) (ow2 := ow) hM0 hhL.1 (fun y hy => eo y (ne_of hy hvL)) (by rw [ob_q7 eh]; exact eK 6 _ h7 (by decide)) (own_same hO (fun y hy => eK 0 y hy (by decide)) (fun y hy => eK 1 y hy (by decide))) EXT.rf (fun k hk hne => ?_) ?_
  · rw [va_up_id, va_up_id] at key
    exact key
  · have hk1 := (hm k hk).2.1
    refine (hobj k hk).keep (eK 1 _ hk1 (by decide)) (eo _ (fun e9 => ?_)) (fun r hr => eK 4 _ (ow_pi hPI hk1 hr) (by decide))
    have o1 := (hO.2 _ hk1).1
    have o2 := (hO.2 _ hx).1
    rw [th_pv e] at o2
    rw [e9, o2] at o1
    exact hne (hinj k a hk ha o1.symm)
  · obtain ⟨p1, p2, p3, p4, p5, p6⟩ := hxo
    have e1 := eK 1 _ hx (by decide)
    refine ⟨by unfold g_cn; rw [e1]; exact p1, ?_, fun w => by unfold g_lk; rw [e1]; exact p3 w, ?_, by rw [e1]; exact p5, by rw [e1]; exact p6⟩
    · unfold g_vl
      rw [e1, th_pv e, e2, va_up_self, ← p2, hV]
      rfl
    · rw [← p4]
      unfold g_rw
      rw [e1]
      cases hr : cR (fl (qs a)) 5 with
      | none => rfl
      | some r =>
        show some (aN (f2 r), aI (f2 r)) = some (aN (fl r), aI (fl r))
        rw [eK 4 _ (ow_pi hPI hx hr) (by decide)]
/-- a field of the object itself is written: a link -/
theorem mdf_link {w : Int32} {y : Nat} (hw : w.toInt = 8 ∨ w.toInt = 11 ∨ w.toInt = 15) (hhL : isr K L 2 h) (hE : EXT K L Kl Ll) (hPI : PI kT kI kJ Kl Ll fl) (hM : MDf K L f h Kl Ll fl ow n qs cs V N R) (ha : a < n) (e2 : f2 = ks_hold fl (qs a) w (some (qs y))) : MDf K L f h Kl Ll f2 ow n qs cs V (va_up N a (fun u => if u = w.toInt then some y else N a u)) R := by
  have hM0 := hM
  obtain ⟨⟨hF, hH⟩, hO, ⟨hc, hm⟩, hinj, hobj⟩ := hM
  have hx := (hm a ha).2.1
  obtain ⟨cn, v, b, m, st, i, e, hv, hb, hmm, hs, hi⟩ := hPI.a1 hx
  have hxL := (hm a ha).2.2
  have hxo := hobj a ha
  have ex : ∃ b2 m2 s2, f2 = va_up fl (qs a) (.inr (1, [.int cn, .ref v, va_rf b2, va_rf m2, va_rf s2, va_rf i])) ∧ ∀ u : Int, (if u = 8 then b2 else if u = 11 then m2 else if u = 15 then s2 else none) = if u = w.toInt then some (qs y) else if u = 8 then b else if u = 11 then m else if u = 15 then st else none := by
    rw [e2]
    unfold ks_hold
    rcases hw with hw | hw | hw
    · refine ⟨some (qs y), m, st, by rw [if_pos hw, s_F_of e]; rfl, fun u => ?_⟩
      rw [hw]
      split <;> rfl
    · refine ⟨b, some (qs y), st, by rw [if_neg (by omega), if_pos hw, s_F_of e]; rfl, fun u => ?_⟩
      rw [hw]
      by_cases h8 : u = 8
      · rw [if_pos h8, if_neg (by omega), if_pos h8]
      · rw [if_neg h8]
        (repeat' split) <;> first | rfl | (exfalso; omega) | simp_all
    · refine ⟨b, m, some (qs y), by rw [if_neg (by omega), if_neg (by omega), if_pos hw, s_F_of e]; rfl, fun u => ?_⟩
      rw [hw]
      by_cases h8 : u = 8
      · rw [if_pos h8, if_neg (by omega), if_pos h8]
      · rw [if_neg h8]
        by_cases h11 : u = 11
        · rw [if_pos h11, if_neg (by omega), if_neg h8, if_pos h11]
        · rw [if_neg h11]
          (repeat' split) <;> first | rfl | (exfalso; omega) | simp_all
  obtain ⟨b2, m2, s2, e3, hl⟩ := ex
  have eo : ∀ z, z ≠ qs a → f2 z = fl z := fun z hz => by rw [e3, va_up_ne _ _ hz]
  have eK : ∀ k z, isr Kl Ll k z → ¬ k = 1 → f2 z = fl z := fun k z hz hk => eo z (isr_ne hz hx hk)
  have ex2 : f2 (qs a) = .inr (1, [.int cn, .ref v, va_rf b2, va_rf m2, va_rf s2, va_rf i]) := by rw [e3, va_up_self]
  obtain ⟨q1, pc, c1, c2, c3, q5, fc, q7, mc, eh, h1, h2, h3, h4, h5, h6, h7, h8⟩ := hPI.a2 (hhL.ext hE)
  have hO2 : OWN Kl Ll f2 ow := by
    refine ⟨fun z hz => by rw [eK 0 z hz (by decide)]; exact hO.1 z hz, fun z hz => ?_⟩
    by_cases ez : z = qs a
    · have o := hO.2 _ hx
      rw [th_pv e, th_i e] at o
      rw [ez, th_pv ex2, th_i ex2]
      exact o
    · rw [eo z ez]
      exact hO.2 z hz
  have key := mdf_set (a := a) (Va := V a) (Na := fun u => if u = w.toInt then some y else N a u) (Ra := R a) (K2 := Kl) (L2 := Ll) (f2 := f2) (ow2 := ow) hM0 hhL.1 (fun z hz => eo z (ne_of hz hxL)) (by rw [ob_q7 eh]; exact eK 6 _ h7 (by decide)) hO2 EXT.rf (fun k hk hne => ?_) ?_
  · rw [va_up_id, va_up_id] at key
    exact key
  · have hk1 := (hm k hk).2.1
    exact (hobj k hk).keep (eo _ (fun e9 => hne (hinj k a hk ha e9))) (eK 3 _ (ow_pv hPI hk1) (by decide)) (fun r hr => eK 4 _ (ow_pi hPI hk1 hr) (by decide))
  · obtain ⟨p1, p2, p3, p4, p5, p6⟩ := hxo
    refine ⟨?_, ?_, fun u => ?_, ?_, ?_, ?_⟩
    · rw [th_cn ex2, ← p1, th_cn e]
    · unfold g_vl at p2 ⊢
      rw [th_pv e] at p2
      rw [th_pv ex2, eK 3 _ hv (by decide)]
      exact p2
    · rw [th_lk ex2, hl u]
      have p := p3 u
      rw [th_lk e] at p
      by_cases hu : u = w.toInt
      · rw [if_pos hu]
        show _ = Option.map qs (if u = w.toInt then some y else N a u)
        rw [if_pos hu]; rfl
      · rw [if_neg hu]
        show _ = Option.map qs (if u = w.toInt then some y else N a u)
        rw [if_neg hu]; exact p
    · rw [← p4]
      unfold g_rw
      rw [th_i ex2, th_i e]
      cases i with
      | none => rfl
      | some r =>
        show some (aN (f2 r), aI (f2 r)) = some (aN (fl r), aI (fl r))
        rw [eK 4 _ (hi r rfl) (by decide)]
    · rw [th_pv ex2]; rw [th_pv e] at p5; exact p5
    · rw [th_i ex2]; rw [th_i e] at p6; exact p6
/-- a place of a row is written -/
theorem mdf_place {r m j : Nat} {g : Nat → Int32} {w : Int32} (hhL : isr K L 2 h) (hE : EXT K L Kl Ll) (hPI : PI kT kI kJ Kl Ll fl) (hM : MDf K L f h Kl Ll fl ow n qs cs V N R) (ha : a < n) (hr : cR (fl (qs a)) 5 = some r) (er : fl r = .inl (kI, m, .inl g)) (e2 : f2 = s_I fl r j w) : MDf K L f h Kl Ll f2 ow n qs cs V N (va_up R a (some (m, upd g j w))) := by
  have hM0 := hM
  obtain ⟨⟨hF, hH⟩, hO, ⟨hc, hm⟩, hinj, hobj⟩ := hM
  have hx := (hm a ha).2.1
  have hxo := hobj a ha
  have hr4 := ow_pi hPI hx hr
  have hrL := hxo.2.2.2.2.2 r hr
  rw [s_I_of er] at e2
  have eo : ∀ y, y ≠ r → f2 y = fl y := fun y hy => by rw [e2, va_up_ne _ _ hy]
  have eK : ∀ k y, isr Kl Ll k y → ¬ k = 4 → f2 y = fl y := fun k y hy hk => eo y (isr_ne hy hr4 hk)
  obtain ⟨q1, pc, c1, c2, c3, q5, fc, q7, mc, eh, h1, h2, h3, h4, h5, h6, h7, h8⟩ := hPI.a2 (hhL.ext hE)
  have key := mdf_set (a := a) (Va := V a) (Na := N a) (Ra := some (m, upd g j w)) (K2 := Kl) (L2 := Ll) (f2 := f2) (ow2 := ow) hM0 hhL.1 (fun y hy => eo y (ne_of hy hrL)) (by rw [ob_q7 eh]; exact eK 6 _ h7 (by decide)) (own_same hO (fun y hy => eK 0 y hy (by decide)) (fun y hy => eK 1 y hy (by decide))) EXT.rf (fun k hk hne => ?_) ?_
  · rw [va_up_id, va_up_id] at key
    exact key
  · have hk1 := (hm k hk).2.1
    refine (hobj k hk).keep (eK 1 _ hk1 (by decide)) (eK 3 _ (ow_pv hPI hk1) (by decide)) (fun r2 hr2 => eo _ (fun e9 => ?_))
    have o1 := (hO.2 _ hk1).2 r2 hr2
    have o2 := (hO.2 _ hx).2 r hr
    rw [e9, o2] at o1
    exact hne (hinj k a hk ha o1.symm)
  · obtain ⟨p1, p2, p3, p4, p5, p6⟩ := hxo
    have e1 := eK 1 _ hx (by decide)
    refine ⟨by unfold g_cn; rw [e1]; exact p1, by unfold g_vl; rw [e1, eK 3 _ (ow_pv hPI hx) (by decide)]; exact p2, fun w => by unfold g_lk; rw [e1]; exact p3 w, ?_, by rw [e1]; exact p5, by rw [e1]; exact p6⟩
    unfold g_rw
    rw [e1, hr]
    show some (aN (f2 r), aI (f2 r)) = _
    rw [e2, va_up_self]
    rfl
/-- the row is taken away -/
theorem mdf_row0 (hhL : isr K L 2 h) (hE : EXT K L Kl Ll) (hPI : PI kT kI kJ Kl Ll fl) (hM : MDf K L f h Kl Ll fl ow n qs cs V N R) (ha : a < n) (e2 : f2 = s_F fl (qs a) 5 (va_rf none)) : MDf K L f h Kl Ll f2 ow n qs cs V N (va_up R a none) := by
  have hM0 := hM
  obtain ⟨⟨hF, hH⟩, hO, ⟨hc, hm⟩, hinj, hobj⟩ := hM
  have hx := (hm a ha).2.1
  obtain ⟨cn, v, b, m, st, i, e, hv, hb, hmm, hs, hi⟩ := hPI.a1 hx
  have hxL := (hm a ha).2.2
  have hxo := hobj a ha
  have e3 : f2 = va_up fl (qs a) (.inr (1, [.int cn, .ref v, va_rf b, va_rf m, va_rf st, va_rf none])) := by rw [e2, s_F_of e]; rfl
  have eo : ∀ z, z ≠ qs a → f2 z = fl z := fun z hz => by rw [e3, va_up_ne _ _ hz]
  have eK : ∀ k z, isr Kl Ll k z → ¬ k = 1 → f2 z = fl z := fun k z hz hk => eo z (isr_ne hz hx hk)
  have ex2 : f2 (qs a) = .inr (1, [.int cn, .ref v, va_rf b, va_rf m, va_rf st, va_rf none]) := by rw [e3, va_up_self]
  obtain ⟨q1, pc, c1, c2, c3, q5, fc, q7, mc, eh, h1, h2, h3, h4, h5, h6, h7, h8⟩ := hPI.a2 (hhL.ext hE)
  have hO2 : OWN Kl Ll f2 ow := by
    refine ⟨fun z hz => by rw [eK 0 z hz (by decide)]; exact hO.1 z hz, fun z hz => ?_⟩
    by_cases ez : z = qs a
    · have o := hO.2 _ hx
      rw [th_pv e] at o
      rw [ez, th_pv ex2, th_i ex2]
      exact ⟨o.1, fun r hr => by cases hr⟩
    · rw [eo z ez]
      exact hO.2 z hz
  have key := mdf_set (a := a) (Va := V a) (Na := N a) (Ra := none) (K2 := Kl) (L2 := Ll) (f2 := f2) (ow2 := ow) hM0 hhL.1 (fun z hz => eo z (ne_of hz hxL)) (by rw [ob_q7 eh]; exact eK 6 _ h7 (by decide)) hO2 EXT.rf (fun k hk hne => ?_) ?_
  · rw [va_up_id, va_up_id] at key
    exact key
  · have hk1 := (hm k hk).2.1
    exact (hobj k hk).keep (eo _ (fun e9 => hne (hinj k a hk ha e9))) (eK 3 _ (ow_pv hPI hk1) (by decide)) (fun r hr => eK 4 _ (ow_pi hPI hk1 hr) (by decide))
  · obtain ⟨p1, p2, p3, p4, p5, p6⟩ := hxo
    refine ⟨by rw [th_cn ex2, ← p1, th_cn e], ?_, fun u => by rw [th_lk ex2, ← p3 u, th_lk e], th_rw0 ex2, by rw [th_pv ex2]; rw [th_pv e] at p5; exact p5, fun r hr => by rw [th_i ex2] at hr; cases hr⟩
    unfold g_vl at p2 ⊢
    rw [th_pv e] at p2
    rw [th_pv ex2, eK 3 _ hv (by decide)]
    exact p2
/-- a new row -/
theorem mdf_row1 {j : Nat} (hhL : isr K L 2 h) (hE : EXT K L Kl Ll) (hPI : PI kT kI kJ Kl Ll fl) (hM : MDf K L f h Kl Ll fl ow n qs cs V N R) (ha : a < n) (hq : q ∉ Ll) (e2 : f2 = s_F (va_up fl q (.inl (kI, j, .inl (fun _ => 0)))) (qs a) 5 (va_rf (some q))) : MDf K L f h (va_up Kl q 4) (q :: Ll) f2 (va_up ow q (qs a)) n qs cs V N (va_up R a (some (j, fun _ => 0))) := by
  have hM0 := hM
  obtain ⟨⟨hF, hH⟩, hO, ⟨hc, hm⟩, hinj, hobj⟩ := hM
  have hx := (hm a ha).2.1
  obtain ⟨cn, v, b, m, st, i, e, hv, hb, hmm, hs, hi⟩ := hPI.a1 hx
  have hxL := (hm a ha).2.2
  have hxo := hobj a ha
  have hqx : qs a ≠ q := ne_of hx.1 hq
  have e3 : f2 = va_up (va_up fl q (.inl (kI, j, .inl (fun _ => 0)))) (qs a) (.inr (1, [.int cn, .ref v, va_rf b, va_rf m, va_rf st, va_rf (some q)])) := by
    rw [e2, s_F_of (show va_up fl q (.inl (kI, j, .inl (fun _ => 0))) (qs a) = _ from by rw [va_up_ne _ _ hqx]; exact e)]
    rfl
  have eo : ∀ z, z ∈ Ll → z ≠ qs a → f2 z = fl z := fun z hz hz2 => by rw [e3, va_up_ne _ _ hz2, va_up_ne _ _ (ne_of hz hq)]
  have eK : ∀ k z, isr Kl Ll k z → ¬ k = 1 → f2 z = fl z := fun k z hz hk => eo z hz.1 (isr_ne hz hx hk)
  have ex2 : f2 (qs a) = .inr (1, [.int cn, .ref v, va_rf b, va_rf m, va_rf st, va_rf (some q)]) := by rw [e3, va_up_self]
  have eq2 : f2 q = .inl (kI, j, .inl (fun _ => 0)) := by rw [e3, va_up_ne _ _ hqx.symm, va_up_self]
  obtain ⟨q1, pc, c1, c2, c3, q5, fc, q7, mc, eh, h1, h2, h3, h4, h5, h6, h7, h8⟩ := hPI.a2 (hhL.ext hE)
  have hback : ∀ k z, isr (va_up Kl q 4) (q :: Ll) k z → ¬ k = 4 → isr Kl Ll k z := fun k z hz hk => by
    obtain ⟨z1, z2⟩ := hz
    have n1 : z ≠ q := fun e9 => by rw [e9, va_up_self] at z2; exact hk z2.symm
    rw [va_up_ne _ _ n1] at z2
    rcases List.mem_cons.mp z1 with e | z1
    · exact absurd e n1
    · exact ⟨z1, z2⟩
  have hO2 : OWN (va_up Kl q 4) (q :: Ll) f2 (va_up ow q (qs a)) := by
    refine ⟨fun z hz => ?_, fun z hz => ?_⟩
    · have hz2 := hback 0 z hz (by decide)
      obtain ⟨a1, b1, d1, z0, ey, ha1, hb1, hd1, _⟩ := hPI.a0 hz2
      have o := hO.1 z hz2
      rw [eK 0 z hz2 (by decide)]
      rw [li_pn ey, li_pd ey, li_pv ey] at o ⊢
      rw [va_up_ne _ _ (ne_of ha1.1 hq), va_up_ne _ _ (ne_of hb1.1 hq), va_up_ne _ _ (ne_of hd1.1 hq)]
      exact o
    · have hz2 := hback 1 z hz (by decide)
      have o := hO.2 z hz2
      by_cases ez : z = qs a
      · rw [ez, th_pv ex2, th_i ex2]
        rw [ez, th_pv e] at o
        refine ⟨by rw [va_up_ne _ _ (ne_of hv.1 hq)]; exact o.1, fun r hr => ?_⟩
        cases hr
        exact va_up_self _ _ _
      · rw [eo z hz2.1 ez, va_up_ne _ _ (ne_of (ow_pv hPI hz2).1 hq)]
        exact ⟨o.1, fun r hr => by rw [va_up_ne _ _ (ne_of (ow_pi hPI hz2 hr).1 hq)]; exact o.2 r hr⟩
  have key := mdf_set (a := a) (Va := V a) (Na := N a) (Ra := some (j, fun _ => 0)) (K2 := va_up Kl q 4) (L2 := q :: Ll) (f2 := f2) (ow2 := va_up ow q (qs a)) hM0 hhL.1 (fun z hz => eo z (hE z hz).1 (ne_of hz hxL)) (by rw [ob_q7 eh]; exact eK 6 _ h7 (by decide)) hO2 (EXT.new hq) (fun k hk hne => ?_) ?_
  · rw [va_up_id, va_up_id] at key
    exact key
  · have hk1 := (hm k hk).2.1
    exact (hobj k hk).keep (eo _ hk1.1 (fun e9 => hne (hinj k a hk ha e9))) (eK 3 _ (ow_pv hPI hk1) (by decide)) (fun r hr => eK 4 _ (ow_pi hPI hk1 hr) (by decide))
  · obtain ⟨p1, p2, p3, p4, p5, p6⟩ := hxo
    refine ⟨by rw [th_cn ex2, ← p1, th_cn e], ?_, fun u => by rw [th_lk ex2, ← p3 u, th_lk e], th_rw1 ex2 eq2, by rw [th_pv ex2]; rw [th_pv e] at p5; exact p5, fun r hr => by rw [th_i ex2] at hr; cases hr; exact fun h9 => hq (hE q h9).1⟩
    unfold g_vl at p2 ⊢
    rw [th_pv e] at p2
    rw [th_pv ex2, eK 3 _ hv (by decide)]
    exact p2
end FILL
end
section
-- WHAT FILLING A FIELD DOES
def ks_ma (f : Nat → va_E) (h : Nat) (v : Int64) : Option Nat := if 0 ≤ v.toInt ∧ v.toInt < (cI (f h) 8).toInt then aR (f (cP (f h) 7)) v.toInt.toNat else none
theorem cl_l2i {z : Int32} {v : Int64} (h : z.toInt = v.toInt) : Int32.toNatClampNeg z = v.toInt.toNat := by
  show z.toInt.toNat = _
  rw [h]
theorem ob_ma {f : Nat → va_E} {h q7 : Nat} {q1 c1 c2 c3 q5 : Nat} {pc fc mc : Int32} {kT : ClassId} {g : Nat → Option Nat} (e : f h = .inr (2, [.ref q1, .int pc, .ref c1, .ref c2, .ref c3, .ref q5, .int fc, .ref q7, .int mc])) (e7 : f q7 = .inl (kT, 24, .inr (.inr (.inr (.inr g))))) (v : Int64) : ks_ma f h v = if 0 ≤ v.toInt ∧ v.toInt < mc.toInt then g v.toInt.toNat else none := by
  unfold ks_ma
  rw [ob_mc e, ob_q7 e, e7]
  rfl
def ks_fp (f : Nat → va_E) (x : Nat) (p v : Int32) : Nat → va_E := if p.toInt < (aN (f x) : Int) then s_I f x (Int32.toNatClampNeg p) v else f
def ks_flr (f : Nat → va_E) (h : Nat) (w : Int32) (v : Int64) : Int32 := match ks_ma f h v with
  | none => -12
  | some y => if (((sp_wan w).toInt = 5 ∧ ¬ (g_cn f y).toInt = 4) ∨ (¬ (sp_wan w).toInt = 5 ∧ (sp_wan w).toInt ≤ 2 ∧ (sp_wan w).toInt ≤ (g_cn f y).toInt ∧ (g_cn f y).toInt ≤ 2) ∨ (¬ (sp_wan w).toInt = 5 ∧ ¬ (sp_wan w).toInt ≤ 2 ∧ (g_cn f y).toInt = (sp_wan w).toInt)) then 0 else -14
def ks_fl (f : Nat → va_E) (h x : Nat) (w : Int32) (v : Int64) : Nat → va_E := match ks_ma f h v with
  | none => f
  | some y => if (((sp_wan w).toInt = 5 ∧ ¬ (g_cn f y).toInt = 4) ∨ (¬ (sp_wan w).toInt = 5 ∧ (sp_wan w).toInt ≤ 2 ∧ (sp_wan w).toInt ≤ (g_cn f y).toInt ∧ (g_cn f y).toInt ≤ 2) ∨ (¬ (sp_wan w).toInt = 5 ∧ ¬ (sp_wan w).toInt ≤ 2 ∧ (g_cn f y).toInt = (sp_wan w).toInt)) then ks_hold f x w (some y) else f
def ks_ffr (f : Nat → va_E) (h : Nat) (w : Int32) (v : Int64) : Int32 := if (w.toInt = 8 ∨ w.toInt = 11 ∨ w.toInt = 15) then ks_flr f h w v else 0
def ks_ff (kI : ClassId) (K : Nat → Nat) (L : List Nat) (f : Nat → va_E) (h x : Nat) (w : Int32) (v : Int64) (K2 : Nat → Nat) (L2 : List Nat) (f2 : Nat → va_E) : Prop := ((K2 = K ∧ L2 = L) ∧ (((w.toInt = 8 ∨ w.toInt = 11 ∨ w.toInt = 15) ∧ f2 = ks_fl f h x w v) ∨ (w.toInt = 9 ∧ ¬ (0 ≤ v.toInt ∧ v.toInt ≤ 20) ∧ f2 = s_F f x 5 (va_rf none)) ∨ (100 ≤ w.toInt ∧ ((cR (f x) 5 = none ∧ f2 = f) ∨ ∃ r p : Nat, cR (f x) 5 = some r ∧ (p : Int) = w.toInt - 100 ∧ f2 = (if (p : Int) < (aN (f r) : Int) then s_I f r p v.toInt32 else f))) ∨ (((0 ≤ w.toInt ∧ w.toInt < 17 ∧ ¬ w.toInt = 8 ∧ ¬ w.toInt = 9 ∧ ¬ w.toInt = 11 ∧ ¬ w.toInt = 15) ∧ ¬ (w.toInt = 13 ∨ w.toInt = 16)) ∧ f2 = s_J f (cP (f x) 1) (Int32.toNatClampNeg w) (ks_as w v)) ∨ ((¬ (w.toInt = 8 ∨ w.toInt = 11 ∨ w.toInt = 15) ∧ ¬ w.toInt = 9 ∧ w.toInt < 100 ∧ ¬ ((0 ≤ w.toInt ∧ w.toInt < 17 ∧ ¬ w.toInt = 8 ∧ ¬ w.toInt = 9 ∧ ¬ w.toInt = 11 ∧ ¬ w.toInt = 15) ∧ ¬ (w.toInt = 13 ∨ w.toInt = 16))) ∧ f2 = f))) ∨ ((w.toInt = 9 ∧ 0 ≤ v.toInt ∧ v.toInt ≤ 20) ∧ ∃ q : Nat, (q ∉ L ∧ K2 = va_up K q 4 ∧ L2 = q :: L) ∧ f2 = s_F (va_up f q (.inl (kI, v.toInt.toNat, .inl (fun _ => 0)))) x 5 (va_rf (some q)))
end
section
-- FROM LEAVES TO OBJECTS: steps
def csM (M : List (Int32 × Int32)) (i : Nat) : Int32 := (M.getD i (0, 0)).1
def vsM (M : List (Int32 × Int32)) (i : Nat) : Nat → Int64 := ks_vals (M.getD i (0, 0)).1 (M.getD i (0, 0)).2
section STEPS
variable {kT kI kJ : ClassId} {K Kl K2 : Nat → Nat} {L Ll L2 : List Nat} {f fl f2 : Nat → va_E} {ow : Nat → Nat} {h n : Nat} {qs : Nat → Nat} {cs cs2 : Nat → Int32} {V V2 : Nat → Nat → Int64} {N N2 : Nat → Int → Option Nat} {R R2 : Nat → Option (Nat × (Nat → Int32))} {ll : List (Int32 × Int32 × Int64)} {M : List (Int32 × Int32)}
theorem MDf.cg (hM : MDf K L f h Kl Ll fl ow n qs cs V N R) (hc : ∀ i, i < n → cs2 i = cs i ∧ V2 i = V i) : MDf K L f h Kl Ll fl ow n qs cs2 V2 N R := ⟨hM.1, hM.2.1, hM.2.2.1, hM.2.2.2.1, fun i hi => by
  rw [(hc i hi).1, (hc i hi).2]
  exact hM.2.2.2.2 i hi⟩
/-- the list of leaves is as it was -/
theorem MDf.ls (hM : MDf K L f h Kl Ll fl ow n qs cs V N R) (hPI : PI kT kI kJ K L f) (hh : isr K L 2 h) (hl : LSt f (cP (f h) 2) ll) : LSt fl (cP (fl h) 2) ll := by
  obtain ⟨q1, pc, c1, c2, c3, q5, fc, q7, mc, eh, h1, h2, h3, h4, h5, h6, h7, h8⟩ := hPI.a2 hh
  obtain ⟨a, b, c, z, e, ha, hb, hc, hz⟩ := hPI.a0 h2
  have eK : ∀ k y, isr K L k y → ¬ k = 2 → ¬ k = 6 → fl y = f y := fun k y hy k2 k6 => hM.1.1 y hy.1 (isr_ne hy hh k2) (by rw [hy.2]; exact k6)
  rw [hM.1.2.2.2.1]
  rw [ob_c1 eh] at hl ⊢
  unfold LSt l_z l_n l_d l_v at hl ⊢
  rw [li_pn e, li_pd e, li_pv e] at hl
  rw [eK 0 c1 h2 (by decide) (by decide), li_pn e, li_pd e, li_pv e, eK 7 a ha (by decide) (by decide), eK 7 b hb (by decide) (by decide), eK 8 c hc (by decide) (by decide)]
  exact hl
theorem MDf.ma (hM : MDf K L f h Kl Ll fl ow n qs cs V N R) (v : Int64) : ks_ma fl h v = if 0 ≤ v.toInt ∧ v.toInt < (n : Int) then some (qs v.toInt.toNat) else none := by
  unfold ks_ma
  rw [hM.2.2.1.1]
  split
  · rename_i hv
    exact (hM.2.2.1.2 v.toInt.toNat (by omega)).1
  · rfl
theorem M_snoc {c t : Int32} (hM : ∀ i c t, M[i]? = some (c, t) → cs i = c ∧ V i = ks_vals c t) : ∀ i c2 t2, (M ++ [(c, t)])[i]? = some (c2, t2) → va_up cs M.length c i = c2 ∧ va_up V M.length (ks_vals c t) i = ks_vals c2 t2 := fun i c2 t2 e => by
  rcases Nat.lt_trichotomy i M.length with hi | hi | hi
  · rw [List.getElem?_append_left hi] at e
    rw [va_up_ne _ _ (by omega), va_up_ne _ _ (by omega)]
    exact hM i c2 t2 e
  · subst hi
    rw [List.getElem?_append_right (Nat.le_refl _), Nat.sub_self] at e
    simp at e
    rw [va_up_self, va_up_self, e.1, e.2]
    exact ⟨rfl, rfl⟩
  · rw [List.getElem?_eq_none (by simp; omega)] at e
    cases e
theorem M_get (hM : ∀ i c t, M[i]? = some (c, t) → cs i = c ∧ V i = ks_vals c t) : ∀ i, i < M.length → csM M i = cs i ∧ vsM M i = V i := fun i hi => by
  have e : M[i]? = some (M.getD i (0, 0)) := by rw [List.getD_eq_getElem?_getD, List.getElem?_eq_getElem hi]; rfl
  obtain ⟨h1, h2⟩ := hM i _ _ e
  exact ⟨h1.symm, h2.symm⟩
theorem tak_snoc {x : Int32 × Int32} (hM : ∀ y ∈ M, tak y) (hx : tak x) : ∀ y ∈ M ++ [x], tak y := fun y hy => by
  rcases List.mem_append.mp hy with h | h
  · exact hM y h
  · rw [List.mem_singleton.mp h]; exact hx
theorem mkl_done {m : List (Int32 × Int32)} (e : mkl ll = M ++ m) (h24 : (mkl ll).length ≤ 24) (hM : 24 ≤ M.length) : mkl ll = M := by
  have h1 := congrArg List.length e
  rw [List.length_append] at h1
  have h2 : m = [] := List.length_eq_zero_iff.mp (by omega)
  rw [e, h2, List.append_nil]
/-- one leaf is filled in -/
theorem fill_step {w : Int32} {a : Int32} {v : Int64} (hhL : isr K L 2 h) (hE : EXT K L Kl Ll) (hPI : PI kT kI kJ Kl Ll fl) (hM : MDf K L f h Kl Ll fl ow n qs cs V N R) (ha : 0 ≤ a.toInt ∧ a.toInt < (n : Int)) (hff : ks_ff kI Kl Ll fl h (qs (Int32.toNatClampNeg a)) w v K2 L2 f2) : ks_ffr fl h w v = fcd n cs (a, w, v) ∧ ∃ (ow2 : Nat → Nat) (V2 : Nat → Nat → Int64) (N2 : Nat → Int → Option Nat) (R2 : Nat → Option (Nat × (Nat → Int32))), MDf K L f h K2 L2 f2 ow2 n qs cs V2 N2 R2 ∧ (fcd n cs (a, w, v) = 0 → V2 = stV (a, w, v) V ∧ N2 = stN (a, w, v) N ∧ R2 = stR (a, w, v) R) := by
  have hca := clamp_int ha.1
  have han : Int32.toNatClampNeg a < n := by omega
  have hma := hM.ma v
  have hcs : ∀ y, y < n → g_cn fl (qs y) = cs y := fun y hy => (hM.2.2.2.2 y hy).1
  have hR : g_rw fl (qs (Int32.toNatClampNeg a)) = R (Int32.toNatClampNeg a) := (hM.2.2.2.2 _ han).2.2.2.1
  rcases hff with ⟨⟨rfl, rfl⟩, ⟨hw, e2⟩ | ⟨hw, hv, e2⟩ | ⟨hw, hr⟩ | ⟨hw, e2⟩ | ⟨hw, rfl⟩⟩ | ⟨hw, q, ⟨hq, rfl, rfl⟩, e2⟩
  · have e0 : fcd n cs (a, w, v) = if 0 ≤ v.toInt ∧ v.toInt < (n : Int) then (if (((sp_wan w).toInt = 5 ∧ ¬ (cs v.toInt.toNat).toInt = 4) ∨ (¬ (sp_wan w).toInt = 5 ∧ (sp_wan w).toInt ≤ 2 ∧ (sp_wan w).toInt ≤ (cs v.toInt.toNat).toInt ∧ (cs v.toInt.toNat).toInt ≤ 2) ∨ (¬ (sp_wan w).toInt = 5 ∧ ¬ (sp_wan w).toInt ≤ 2 ∧ (cs v.toInt.toNat).toInt = (sp_wan w).toInt)) then 0 else -14) else -12 := by
      unfold fcd
      rw [if_pos ha, if_pos hw]
    have e1 : ks_ffr fl h w v = fcd n cs (a, w, v) := by
      rw [e0]
      unfold ks_ffr ks_flr
      rw [if_pos hw, hma]
      by_cases hv : 0 ≤ v.toInt ∧ v.toInt < (n : Int)
      · rw [if_pos hv, if_pos hv]
        show (if (((sp_wan w).toInt = 5 ∧ ¬ (g_cn fl (qs v.toInt.toNat)).toInt = 4) ∨ (¬ (sp_wan w).toInt = 5 ∧ (sp_wan w).toInt ≤ 2 ∧ (sp_wan w).toInt ≤ (g_cn fl (qs v.toInt.toNat)).toInt ∧ (g_cn fl (qs v.toInt.toNat)).toInt ≤ 2) ∨ (¬ (sp_wan w).toInt = 5 ∧ ¬ (sp_wan w).toInt ≤ 2 ∧ (g_cn fl (qs v.toInt.toNat)).toInt = (sp_wan w).toInt)) then (0 : Int32) else -14) = _
        rw [hcs v.toInt.toNat (by omega)]
      · rw [if_neg hv, if_neg hv]
    refine ⟨e1, ?_⟩
    by_cases hz : fcd n cs (a, w, v) = 0
    · rw [e0] at hz
      by_cases hv : 0 ≤ v.toInt ∧ v.toInt < (n : Int)
      · rw [if_pos hv] at hz
        by_cases ho : (((sp_wan w).toInt = 5 ∧ ¬ (cs v.toInt.toNat).toInt = 4) ∨ (¬ (sp_wan w).toInt = 5 ∧ (sp_wan w).toInt ≤ 2 ∧ (sp_wan w).toInt ≤ (cs v.toInt.toNat).toInt ∧ (cs v.toInt.toNat).toInt ≤ 2) ∨ (¬ (sp_wan w).toInt = 5 ∧ ¬ (sp_wan w).toInt ≤ 2 ∧ (cs v.toInt.toNat).toInt = (sp_wan w).toInt))
        · have e3 : f2 = ks_hold fl (qs (Int32.toNatClampNeg a)) w (some (qs v.toInt.toNat)) := by
            rw [e2]
            unfold ks_fl
            rw [hma, if_pos hv]
            show (if (((sp_wan w).toInt = 5 ∧ ¬ (g_cn fl (qs v.toInt.toNat)).toInt = 4) ∨ (¬ (sp_wan w).toInt = 5 ∧ (sp_wan w).toInt ≤ 2 ∧ (sp_wan w).toInt ≤ (g_cn fl (qs v.toInt.toNat)).toInt ∧ (g_cn fl (qs v.toInt.toNat)).toInt ≤ 2) ∨ (¬ (sp_wan w).toInt = 5 ∧ ¬ (sp_wan w).toInt ≤ 2 ∧ (g_cn fl (qs v.toInt.toNat)).toInt = (sp_wan w).toInt)) then _ else _) = _
            rw [hcs v.toInt.toNat (by omega), if_pos ho]
          refine ⟨ow, _, _, _, mdf_link hw hhL hE hPI hM han e3, fun _ => ⟨?_, ?_, ?_⟩⟩
          · unfold stV; rw [if_neg (by show ¬ ((0 ≤ w.toInt ∧ w.toInt < 17 ∧ ¬ w.toInt = 8 ∧ ¬ w.toInt = 9 ∧ ¬ w.toInt = 11 ∧ ¬ w.toInt = 15) ∧ ¬ (w.toInt = 13 ∨ w.toInt = 16)); omega)]
          · unfold stN; rw [if_pos hw]
          · unfold stR; rw [if_neg (by show ¬ w.toInt = 9; omega), if_neg (by show ¬ 100 ≤ w.toInt; omega)]
        · rw [if_neg ho] at hz; exact absurd hz (by decide)
      · rw [if_neg hv] at hz; exact absurd hz (by decide)
    · have e3 : f2 = fl := by
        rw [e2]
        unfold ks_fl
        rw [hma]
        by_cases hv : 0 ≤ v.toInt ∧ v.toInt < (n : Int)
        · rw [if_pos hv]
          show (if (((sp_wan w).toInt = 5 ∧ ¬ (g_cn fl (qs v.toInt.toNat)).toInt = 4) ∨ (¬ (sp_wan w).toInt = 5 ∧ (sp_wan w).toInt ≤ 2 ∧ (sp_wan w).toInt ≤ (g_cn fl (qs v.toInt.toNat)).toInt ∧ (g_cn fl (qs v.toInt.toNat)).toInt ≤ 2) ∨ (¬ (sp_wan w).toInt = 5 ∧ ¬ (sp_wan w).toInt ≤ 2 ∧ (g_cn fl (qs v.toInt.toNat)).toInt = (sp_wan w).toInt)) then _ else _) = _
          rw [hcs v.toInt.toNat (by omega)]
          rw [e0, if_pos hv] at hz
          by_cases ho : (((sp_wan w).toInt = 5 ∧ ¬ (cs v.toInt.toNat).toInt = 4) ∨ (¬ (sp_wan w).toInt = 5 ∧ (sp_wan w).toInt ≤ 2 ∧ (sp_wan w).toInt ≤ (cs v.toInt.toNat).toInt ∧ (cs v.toInt.toNat).toInt ≤ 2) ∨ (¬ (sp_wan w).toInt = 5 ∧ ¬ (sp_wan w).toInt ≤ 2 ∧ (cs v.toInt.toNat).toInt = (sp_wan w).toInt))
          · rw [if_pos ho] at hz; exact absurd rfl hz
          · rw [if_neg ho]
        · rw [if_neg hv]
      rw [e3]
      exact ⟨ow, V, N, R, hM, fun h9 => absurd h9 hz⟩
  · have e0 : fcd n cs (a, w, v) = 0 := by unfold fcd; rw [if_pos ha, if_neg (by show ¬ (w.toInt = 8 ∨ w.toInt = 11 ∨ w.toInt = 15); omega)]
    refine ⟨by rw [e0]; unfold ks_ffr; rw [if_neg (by omega)], ow, _, _, _, mdf_row0 hhL hE hPI hM han e2, fun _ => ⟨?_, ?_, ?_⟩⟩
    · unfold stV; rw [if_neg (by show ¬ ((0 ≤ w.toInt ∧ w.toInt < 17 ∧ ¬ w.toInt = 8 ∧ ¬ w.toInt = 9 ∧ ¬ w.toInt = 11 ∧ ¬ w.toInt = 15) ∧ ¬ (w.toInt = 13 ∨ w.toInt = 16)); omega)]
    · unfold stN; rw [if_neg (by show ¬ (w.toInt = 8 ∨ w.toInt = 11 ∨ w.toInt = 15); omega)]
    · unfold stR; rw [if_pos hw, if_neg hv]
  · have e0 : fcd n cs (a, w, v) = 0 := by unfold fcd; rw [if_pos ha, if_neg (by show ¬ (w.toInt = 8 ∨ w.toInt = 11 ∨ w.toInt = 15); omega)]
    refine ⟨by rw [e0]; unfold ks_ffr; rw [if_neg (by omega)], ?_⟩
    have hV : stV (a, w, v) V = V := by unfold stV; rw [if_neg (by show ¬ ((0 ≤ w.toInt ∧ w.toInt < 17 ∧ ¬ w.toInt = 8 ∧ ¬ w.toInt = 9 ∧ ¬ w.toInt = 11 ∧ ¬ w.toInt = 15) ∧ ¬ (w.toInt = 13 ∨ w.toInt = 16)); omega)]
    have hN : stN (a, w, v) N = N := by unfold stN; rw [if_neg (by show ¬ (w.toInt = 8 ∨ w.toInt = 11 ∨ w.toInt = 15); omega)]
    have hRR : stR (a, w, v) R = va_up R (Int32.toNatClampNeg a) ((R (Int32.toNatClampNeg a)).map (fun r => if w.toInt - 100 < (r.1 : Int) then (r.1, upd r.2 (w.toInt - 100).toNat v.toInt32) else r)) := by
      unfold stR; rw [if_neg (by show ¬ w.toInt = 9; omega), if_pos hw]
    rw [hV, hN, hRR]
    rcases hr with ⟨hr, rfl⟩ | ⟨r, p, hr, hp, e2⟩
    · have hR0 : R (Int32.toNatClampNeg a) = none := by rw [← hR]; unfold g_rw; rw [hr]; rfl
      refine ⟨ow, V, N, R, hM, fun _ => ⟨rfl, rfl, ?_⟩⟩
      rw [hR0]
      show R = va_up R _ none
      rw [← hR0, va_up_id]
    · obtain ⟨m, g, er, hm20⟩ := hPI.a4 (ow_pi hPI (hM.2.2.1.2 _ han).2.1 hr)
      have hR1 : R (Int32.toNatClampNeg a) = some (m, g) := by
        rw [← hR]; unfold g_rw; rw [hr]
        show some (aN (fl r), aI (fl r)) = _
        rw [er]; rfl
      have eN : aN (fl r) = m := by rw [er]; rfl
      rw [eN] at e2
      have hpn : (w.toInt - 100).toNat = p := by omega
      rw [hR1]
      show ∃ ow2 V2 N2 R2, _ ∧ (_ → V2 = V ∧ N2 = N ∧ R2 = va_up R _ (some (if w.toInt - 100 < (m : Int) then (m, upd g (w.toInt - 100).toNat v.toInt32) else (m, g))))
      by_cases hlt : (p : Int) < (m : Int)
      · rw [if_pos hlt] at e2
        refine ⟨ow, V, N, _, mdf_place hhL hE hPI hM han hr er e2, fun _ => ⟨rfl, rfl, ?_⟩⟩
        rw [if_pos (by omega), hpn]
      · rw [if_neg hlt] at e2
        rw [e2]
        refine ⟨ow, V, N, R, hM, fun _ => ⟨rfl, rfl, ?_⟩⟩
        rw [if_neg (by omega), ← hR1, va_up_id]
  · have e0 : fcd n cs (a, w, v) = 0 := by unfold fcd; rw [if_pos ha, if_neg (by show ¬ (w.toInt = 8 ∨ w.toInt = 11 ∨ w.toInt = 15); omega)]
    refine ⟨by rw [e0]; unfold ks_ffr; rw [if_neg (by omega)], ow, _, _, _, mdf_val hhL hE hPI hM han e2, fun _ => ⟨?_, ?_, ?_⟩⟩
    · unfold stV; rw [if_pos hw]
    · unfold stN; rw [if_neg (by show ¬ (w.toInt = 8 ∨ w.toInt = 11 ∨ w.toInt = 15); omega)]
    · unfold stR; rw [if_neg (by show ¬ w.toInt = 9; omega), if_neg (by show ¬ 100 ≤ w.toInt; omega)]
  · have e0 : fcd n cs (a, w, v) = 0 := by unfold fcd; rw [if_pos ha, if_neg hw.1]
    refine ⟨by rw [e0]; unfold ks_ffr; rw [if_neg hw.1], ow, V, N, R, hM, fun _ => ⟨?_, ?_, ?_⟩⟩
    · unfold stV; rw [if_neg hw.2.2.2]
    · unfold stN; rw [if_neg hw.1]
    · unfold stR; rw [if_neg hw.2.1, if_neg (by show ¬ 100 ≤ w.toInt; omega)]
  · have e0 : fcd n cs (a, w, v) = 0 := by unfold fcd; rw [if_pos ha, if_neg (by show ¬ (w.toInt = 8 ∨ w.toInt = 11 ∨ w.toInt = 15); omega)]
    refine ⟨by rw [e0]; unfold ks_ffr; rw [if_neg (by omega)], _, _, _, _, mdf_row1 hhL hE hPI hM han hq e2, fun _ => ⟨?_, ?_, ?_⟩⟩
    · unfold stV; rw [if_neg (by show ¬ ((0 ≤ w.toInt ∧ w.toInt < 17 ∧ ¬ w.toInt = 8 ∧ ¬ w.toInt = 9 ∧ ¬ w.toInt = 11 ∧ ¬ w.toInt = 15) ∧ ¬ (w.toInt = 13 ∨ w.toInt = 16)); omega)]
    · unfold stN; rw [if_neg (by show ¬ (w.toInt = 8 ∨ w.toInt = 11 ∨ w.toInt = 15); omega)]
    · unfold stR; rw [if_pos hw.1, if_pos hw.2]
end STEPS
section STEPS2
variable {K Kl : Nat → Nat} {L Ll : List Nat} {f fl : Nat → va_E} {ow : Nat → Nat} {h n y : Nat} {qs : Nat → Nat} {cs : Nat → Int32} {V : Nat → Nat → Int64} {N : Nat → Int → Option Nat} {R : Nat → Option (Nat × (Nat → Int32))} {a : Int32}
theorem ma_some (hM : MDf K L f h Kl Ll fl ow n qs cs V N R) (hq : some y = ks_ma fl h (Int32.toInt64 a)) : (0 ≤ a.toInt ∧ a.toInt < (n : Int)) ∧ y = qs (Int32.toNatClampNeg a) := by
  rw [hM.ma, Int32.toInt_toInt64] at hq
  by_cases hv : 0 ≤ a.toInt ∧ a.toInt < (n : Int)
  · rw [if_pos hv] at hq
    exact ⟨hv, Option.some.inj hq⟩
  · rw [if_neg hv] at hq
    cases hq
theorem ma_none (hM : MDf K L f h Kl Ll fl ow n qs cs V N R) (hq : none = ks_ma fl h (Int32.toInt64 a)) : ¬ (0 ≤ a.toInt ∧ a.toInt < (n : Int)) := fun hv => by
  rw [hM.ma, Int32.toInt_toInt64, if_pos hv] at hq
  cases hq
theorem fcd_out {x : Int32 × Int32 × Int64} (h : ¬ (0 ≤ x.1.toInt ∧ x.1.toInt < (n : Int))) : fcd n cs x = -12 := if_neg h
end STEPS2
end
section
-- WHAT back ANSWERS AND CHANGES
def bkok (ll : List (Int32 × Int32 × Int64)) (s : Int32) : Prop := (0 ≤ s.toInt ∧ s.toInt < 12) ∧ ¬ ll = [] ∧ (∀ x ∈ mkl ll, tak x) ∧ fcl (mkl ll).length (csM (mkl ll)) ll = 0
def ks_bk (ll : List (Int32 × Int32 × Int64)) (s r : Int32) : Prop := (¬ (0 ≤ s.toInt ∧ s.toInt < 12) → r = -1) ∧ ((0 ≤ s.toInt ∧ s.toInt < 12) → ll = [] → r = -3) ∧ ((0 ≤ s.toInt ∧ s.toInt < 12) → ¬ ll = [] → (∃ x, x ∈ mkl ll ∧ ¬ tak x) → r = -18) ∧ ((0 ≤ s.toInt ∧ s.toInt < 12) → ¬ ll = [] → (∀ x ∈ mkl ll, tak x) → ¬ fcl (mkl ll).length (csM (mkl ll)) ll = 0 → r = fcl (mkl ll).length (csM (mkl ll)) ll) ∧ (bkok ll s → r.toInt = ((mkl ll).length : Int))
def ks_bkh (K : Nat → Nat) (L : List Nat) (f : Nat → va_E) (h : Nat) (ll : List (Int32 × Int32 × Int64)) (s : Int32) (K2 : Nat → Nat) (L2 : List Nat) (f2 : Nat → va_E) : Prop := ∃ ow2 : Nat → Nat, OWN K2 L2 f2 ow2 ∧ (¬ bkok ll s → (∀ a, a ∈ L → ¬ a = h → ¬ K a = 6 → f2 a = f a) ∧ PHM f f2 h) ∧ (bkok ll s → ∃ (fm : Nat → va_E) (qs : Nat → Nat), MDf K L f h K2 L2 fm ow2 (mkl ll).length qs (csM (mkl ll)) (ll.foldl (fun s x => stV x s) (vsM (mkl ll))) (ll.foldl (fun s x => stN x s) (fun _ _ => none)) (ll.foldl (fun s x => stR x s) (fun _ => none)) ∧ f2 = s_R fm (cP (f h) 0) (Int32.toNatClampNeg s) (some (qs 0)))
theorem bk_len {z : Int32} {n d : Nat → Int32} {v : Nat → Int64} {ll : List (Int32 × Int32 × Int64)} (h : LSv z n d v ll) : (z.toInt = 0 ↔ ll = []) := by
  rw [← List.length_eq_zero_iff]
  have := h.1
  constructor <;> omega
theorem bk_own {kT kI kJ : ClassId} {K Kl : Nat → Nat} {L Ll : List Nat} {f2 fm : Nat → va_E} {ow : Nat → Nat} {h q1 : Nat} {e : va_E} (hh : isr K L 2 h) (hE : EXT K L Kl Ll) (hPI : PI kT kI kJ Kl Ll fm) (hO : OWN Kl Ll fm ow) (hq : isr Kl Ll 5 q1) (e2 : va_up fm q1 e = f2) : OWN Kl Ll f2 ow := own_same hO (fun y hy => by rw [← e2, va_up_ne _ _ (isr_ne hy hq (by decide))]) (fun y hy => by rw [← e2, va_up_ne _ _ (isr_ne hy hq (by decide))])
end
section
-- WHAT THE REFERENCE ANSWERS AND CHANGES, call by call
def RV (kI kJ : ClassId) (K : Nat → Nat) (L : List Nat) (f : Nat → va_E) (g : Nat) (fS fC : Nat → Int32) (fF : Nat → Int64) (fR fW lo ld : Nat → Int32) (lv : Nat → Int64) (lm pa : Int32) : Prop := SV kI kJ K L f fS fC fF ∧ ((∀ q, isr K L 14 q → f q = .inl (kI, 6400, .inl fR)) ∧ ∀ q, isr K L 15 q → f q = .inl (kI, 128000, .inl fW)) ∧ ((∀ q, isr K L 18 q → f q = .inl (kI, 300, .inl lo)) ∧ (∀ q, isr K L 19 q → f q = .inl (kI, 300, .inl ld)) ∧ ∀ q, isr K L 20 q → f q = .inl (kJ, 300, .inr (.inl lv))) ∧ cI (f g) 8 = lm ∧ cI (f g) 7 = pa
theorem un_row {K : Nat → Nat} {L : List Nat} {f : Nat → va_E} {k q0 : Nat} {e : va_E} (hU : UN K L) (i : isr K L k q0) (he : f q0 = e) : ∀ q, isr K L k q → f q = e := fun q h => by
  have a := hU q0 q i.1 h.1 (i.2.trans h.2.symm)
  subst a
  exact he
theorem idx20 {o f w : Int32} (ho : 0 ≤ o.toInt) (hf : 0 ≤ f.toInt) (hw : w.toInt = 20 * o.toInt + f.toInt) : Int32.toNatClampNeg w = 20 * Int32.toNatClampNeg o + Int32.toNatClampNeg f := by
  have e1 := clamp_int ho
  have e2 := clamp_int hf
  have e3 := clamp_int (i := w) (by omega)
  omega
def rs_same (fS : Nat → Int32) (s t : Int32) : Int32 := if (0 ≤ s.toInt ∧ s.toInt < 12) ∧ (0 ≤ t.toInt ∧ t.toInt < 12) then (if (fS (Int32.toNatClampNeg s)).toInt = (fS (Int32.toNatClampNeg t)).toInt then 1 else 0) else -1
def rs_cls (fS fC : Nat → Int32) (s : Int32) : Int32 := if (0 ≤ s.toInt ∧ s.toInt < 12) then (if (fS (Int32.toNatClampNeg s)).toInt = -1 then -4 else (fC (Int32.toNatClampNeg (fS (Int32.toNatClampNeg s))))) else -1
def rs_is (fS fC : Nat → Int32) (s w : Int32) : Int32 := if (0 ≤ s.toInt ∧ s.toInt < 12) ∧ 0 ≤ w.toInt ∧ w.toInt ≤ 5 then (if (fS (Int32.toNatClampNeg s)).toInt = -1 then 0 else if ((w.toInt = 5 ∧ ((fC (Int32.toNatClampNeg (fS (Int32.toNatClampNeg s))))).toInt < 4) ∨ (¬ w.toInt = 5 ∧ (((fC (Int32.toNatClampNeg (fS (Int32.toNatClampNeg s))))).toInt = w.toInt ∨ (w.toInt < ((fC (Int32.toNatClampNeg (fS (Int32.toNatClampNeg s))))).toInt ∧ ((fC (Int32.toNatClampNeg (fS (Int32.toNatClampNeg s))))).toInt < 3)))) then 1 else 0) else -1
def rs_get (fS fC : Nat → Int32) (fF : Nat → Int64) (s w : Int32) : Int64 := if (0 ≤ s.toInt ∧ s.toInt < 12) ∧ (0 ≤ w.toInt ∧ w.toInt < 17 ∧ ¬ w.toInt = 8 ∧ ¬ w.toInt = 9 ∧ ¬ w.toInt = 11 ∧ ¬ w.toInt = 15) then (if (fS (Int32.toNatClampNeg s)).toInt = -1 then -11 else if ((((fC (Int32.toNatClampNeg (fS (Int32.toNatClampNeg s))))).toInt = 0 ∧ w.toInt < 10) ∨ (((fC (Int32.toNatClampNeg (fS (Int32.toNatClampNeg s))))).toInt = 1 ∧ w.toInt < 12) ∨ (((fC (Int32.toNatClampNeg (fS (Int32.toNatClampNeg s))))).toInt = 2 ∧ w.toInt < 14) ∨ (((fC (Int32.toNatClampNeg (fS (Int32.toNatClampNeg s))))).toInt = 3 ∧ (w.toInt = 14 ∨ w.toInt = 15)) ∨ (¬ ((fC (Int32.toNatClampNeg (fS (Int32.toNatClampNeg s))))).toInt = 0 ∧ ¬ ((fC (Int32.toNatClampNeg (fS (Int32.toNatClampNeg s))))).toInt = 1 ∧ ¬ ((fC (Int32.toNatClampNeg (fS (Int32.toNatClampNeg s))))).toInt = 2 ∧ ¬ ((fC (Int32.toNatClampNeg (fS (Int32.toNatClampNeg s))))).toInt = 3 ∧ w.toInt = 16)) then (fF (17 * (Int32.toNatClampNeg (fS (Int32.toNatClampNeg s))) + (Int32.toNatClampNeg w))) else -14) else -1
def rs_length (fS fC : Nat → Int32) (fR : Nat → Int32) (s : Int32) : Int32 := if (0 ≤ s.toInt ∧ s.toInt < 12) then (if (fS (Int32.toNatClampNeg s)).toInt = -1 then -11 else if ((((fC (Int32.toNatClampNeg (fS (Int32.toNatClampNeg s))))).toInt = 0) ∨ (((fC (Int32.toNatClampNeg (fS (Int32.toNatClampNeg s))))).toInt = 1) ∨ (((fC (Int32.toNatClampNeg (fS (Int32.toNatClampNeg s))))).toInt = 2)) then (if (fR (Int32.toNatClampNeg (fS (Int32.toNatClampNeg s)))).toInt = -1 then -11 else fR (Int32.toNatClampNeg (fS (Int32.toNatClampNeg s)))) else -14) else -1
def rs_count (fS fC : Nat → Int32) (fF : Nat → Int64) (s w : Int32) : Int64 := if (0 ≤ s.toInt ∧ s.toInt < 12) ∧ 0 ≤ w.toInt ∧ w.toInt ≤ 2 then (if (fS (Int32.toNatClampNeg s)).toInt = -1 then -11 else if ((w.toInt = 5 ∧ ((fC (Int32.toNatClampNeg (fS (Int32.toNatClampNeg s))))).toInt < 4) ∨ (¬ w.toInt = 5 ∧ (((fC (Int32.toNatClampNeg (fS (Int32.toNatClampNeg s))))).toInt = w.toInt ∨ (w.toInt < ((fC (Int32.toNatClampNeg (fS (Int32.toNatClampNeg s))))).toInt ∧ ((fC (Int32.toNatClampNeg (fS (Int32.toNatClampNeg s))))).toInt < 3)))) then (if w.toInt = 0 then (fF (17 * (Int32.toNatClampNeg (fS (Int32.toNatClampNeg s))) + 4)) else if w.toInt = 1 then (fF (17 * (Int32.toNatClampNeg (fS (Int32.toNatClampNeg s))) + 10)) else (fF (17 * (Int32.toNatClampNeg (fS (Int32.toNatClampNeg s))) + 12))) else -14) else -1
def rs_raise (fS fC : Nat → Int32) (fF : Nat → Int64) (s : Int32) : Int32 := if (0 ≤ s.toInt ∧ s.toInt < 12) then (if (fS (Int32.toNatClampNeg s)).toInt = -1 then -11 else if (fC (Int32.toNatClampNeg (fS (Int32.toNatClampNeg s)))).toInt = 4 then (fF (17 * (Int32.toNatClampNeg (fS (Int32.toNatClampNeg s))) + 16)).toInt32 else -14) else -1
def rs_name (c : Int32) (V : Nat → Int64) : Int32 := if 0 < c.toInt then (if c.toInt = 2 then 10 * (1 + (V 4).toInt32) + (V 10).toInt32 + (V 13).toInt32 else 10 * (1 + (V 4).toInt32) + (V 10).toInt32) else (if c.toInt = 2 then 1 + (V 4).toInt32 + (V 13).toInt32 else 1 + (V 4).toInt32)
end
section
-- WHAT THE REFERENCE ANSWERS, where it walks along links; what its writes change
def r_nx (fC : Nat → Int32) (fF : Nat → Int64) (o : Nat) : Option Nat := if (fF (17 * o + (if (fC o).toInt = 0 then 8 else if (fC o).toInt = 3 then 15 else 11))).toInt = -1 then none else some (fF (17 * o + (if (fC o).toInt = 0 then 8 else if (fC o).toInt = 3 then 15 else 11))).toInt.toNat
def r_n8 (fF : Nat → Int64) (o : Nat) : Option Nat := if (fF (17 * o + 8)).toInt = -1 then none else some (fF (17 * o + 8)).toInt.toNat
def rkd (fC : Nat → Int32) (fF : Nat → Int64) : Nat → Option Nat → Int32 → Int32 → Int32
  | 0, _, _, s => s
  | _ + 1, none, _, s => s
  | n + 1, some t, w, s => rkd fC fF n (if (fC t).toInt = 3 then none else r_n8 fF t) (w * 10) (s + w * (if (fC t).toInt = 3 then 7 else fC t + 1))
theorem rkd_none (fC : Nat → Int32) (fF : Nat → Int64) (n : Nat) (w s : Int32) : rkd fC fF n none w s = s := by cases n <;> rfl
/-- a place or none, as the reference says it -/
def plc (v : Int32) : Option Nat := if v.toInt = -1 then none else some v.toInt.toNat
theorem plc_none {v : Int32} (h : v.toInt = -1) : plc v = none := if_pos h
theorem plc_some {v : Int32} (h : ¬ v.toInt = -1) : plc v = some v.toInt.toNat := if_neg h
theorem rkd_step {fC : Nat → Int32} {fF : Nat → Int64} {i i2 w w2 s s2 T v v2 : Int32} (h : rkd fC fF (8 - i.toInt).toNat (plc v) w s = T) (hi : i.toInt < 8) (hv : ¬ v.toInt = -1) (e : i2.toInt = i.toInt + 1) (hw : w2 = w * 10) (hs : s2 = s + w * (if (fC v.toInt.toNat).toInt = 3 then 7 else fC v.toInt.toNat + 1)) (ho : plc v2 = (if (fC v.toInt.toNat).toInt = 3 then none else r_n8 fF v.toInt.toNat)) : rkd fC fF (8 - i2.toInt).toNat (plc v2) w2 s2 = T := by
  have e1 : (8 - i.toInt).toNat = (8 - i2.toInt).toNat + 1 := by omega
  rw [e1, plc_some hv] at h
  rw [ho, hw, hs]
  exact h
theorem rkd_end {fC : Nat → Int32} {fF : Nat → Int64} {i w s T v : Int32} (h : rkd fC fF (8 - i.toInt).toNat (plc v) w s = T) (he : v.toInt = -1 ∨ 8 ≤ i.toInt) : s = T := by
  rcases he with he | he
  · rw [plc_none he, rkd_none] at h; exact h
  · have e1 : (8 - i.toInt).toNat = 0 := by omega
    rw [e1] at h
    exact h
theorem rdp_step {nx : Nat → Option Nat} {i i2 v v2 : Int32} {T : Int} (h : i.toInt + (dp nx (51 - (i.toInt + 1)).toNat (plc v) : Int) = T) (hi : i.toInt < 50) (hv : ¬ v.toInt = -1) (e : i2.toInt = i.toInt + 1) (ho : plc v2 = nx v.toInt.toNat) : i2.toInt + (dp nx (51 - (i2.toInt + 1)).toNat (plc v2) : Int) = T := by
  have e1 : (51 - (i.toInt + 1)).toNat = (51 - (i2.toInt + 1)).toNat + 1 := by omega
  rw [e1, plc_some hv] at h
  rw [ho]
  have h2 : dp nx ((51 - (i2.toInt + 1)).toNat + 1) (some v.toInt.toNat) = dp nx (51 - (i2.toInt + 1)).toNat (nx v.toInt.toNat) + 1 := rfl
  rw [h2] at h
  omega
theorem rdp_end {nx : Nat → Option Nat} {i v : Int32} {T : Int} (h : i.toInt + (dp nx (51 - (i.toInt + 1)).toNat (plc v) : Int) = T) (he : v.toInt = -1 ∨ 50 ≤ i.toInt) : i.toInt = T := by
  rcases he with he | he
  · rw [plc_none he, dp_none] at h; omega
  · have e1 : (51 - (i.toInt + 1)).toNat = 0 := by omega
    rw [e1, dp_zero] at h
    omega
def rs_call (fS fC : Nat → Int32) (fF : Nat → Int64) (s w r : Int32) : Prop := if (0 ≤ s.toInt ∧ s.toInt < 12) ∧ 0 ≤ w.toInt ∧ w.toInt ≤ 4 then (if (fS (Int32.toNatClampNeg s)).toInt = -1 then r = -11 else if w.toInt = 2 ∨ w.toInt = 3 then (if (fC (Int32.toNatClampNeg (fS (Int32.toNatClampNeg s)))).toInt < 4 then (if w.toInt = 2 then r.toInt + 1 = (dp (r_nx fC fF) 51 (some (Int32.toNatClampNeg (fS (Int32.toNatClampNeg s)))) : Int) else r = rkd fC fF 8 (some (Int32.toNatClampNeg (fS (Int32.toNatClampNeg s)))) 1 0) else r = -14) else (if ((fC (Int32.toNatClampNeg (fS (Int32.toNatClampNeg s)))).toInt = 0 ∨ (0 < (fC (Int32.toNatClampNeg (fS (Int32.toNatClampNeg s)))).toInt ∧ (fC (Int32.toNatClampNeg (fS (Int32.toNatClampNeg s)))).toInt < 3)) then (if w.toInt = 0 then r = rs_name (fC (Int32.toNatClampNeg (fS (Int32.toNatClampNeg s)))) (fun j => fF (17 * (Int32.toNatClampNeg (fS (Int32.toNatClampNeg s))) + j)) else if w.toInt = 1 then r = (fF (17 * (Int32.toNatClampNeg (fS (Int32.toNatClampNeg s))) + 1) + fF (17 * (Int32.toNatClampNeg (fS (Int32.toNatClampNeg s))) + 2)).toInt32 else (if (fF (17 * (Int32.toNatClampNeg (fS (Int32.toNatClampNeg s))) + 8)).toInt = -1 then r = -11 else r = rs_name (fC (fF (17 * (Int32.toNatClampNeg (fS (Int32.toNatClampNeg s))) + 8)).toInt.toNat) (fun j => fF (17 * (fF (17 * (Int32.toNatClampNeg (fS (Int32.toNatClampNeg s))) + 8)).toInt.toNat + j)))) else r = -14)) else r = -1
end
section
-- THE REFERENCE'S OBJECTS, seen as the class's are
def hs (c j : Int) : Bool := decide ((c = 0 ∧ j < 10) ∨ (c = 1 ∧ j < 12) ∨ (c = 2 ∧ j < 14) ∨ (c = 3 ∧ (j = 14 ∨ j = 15)) ∨ (¬ c = 0 ∧ ¬ c = 1 ∧ ¬ c = 2 ∧ ¬ c = 3 ∧ j = 16))
theorem hs_iff {c j : Int} : hs c j = true ↔ ((c = 0 ∧ j < 10) ∨ (c = 1 ∧ j < 12) ∨ (c = 2 ∧ j < 14) ∨ (c = 3 ∧ (j = 14 ∨ j = 15)) ∨ (¬ c = 0 ∧ ¬ c = 1 ∧ ¬ c = 2 ∧ ¬ c = 3 ∧ j = 16)) := by
  unfold hs
  exact decide_eq_true_iff
def r_ob (v : Int32) : Option Nat := if v.toInt = -1 then none else some (Int32.toNatClampNeg v)
def r_vl (fC : Nat → Int32) (fF : Nat → Int64) (o j : Nat) : Int64 := if hs (fC o).toInt (j : Int) = true then fF (17 * o + j) else 0
def r_lk (fC : Nat → Int32) (fF : Nat → Int64) (o : Nat) (w : Int) : Option Nat := if (w = 8 ∨ w = 11 ∨ w = 15) ∧ hs (fC o).toInt w = true ∧ ¬ (fF (17 * o + w.toNat)).toInt = -1 then some (fF (17 * o + w.toNat)).toInt.toNat else none
def r_rw (fC fR fW : Nat → Int32) (o : Nat) : Option (Nat × (Nat → Int32)) := if hs (fC o).toInt 9 = true ∧ ¬ (fR o).toInt = -1 then some ((fR o).toInt.toNat, fun i => fW (20 * o + i)) else none
/-- two rows with the same ints -/
def reqv (a b : Option (Nat × (Nat → Int32))) : Prop := (a = none ∧ b = none) ∨ ∃ m g g2, a = some (m, g) ∧ b = some (m, g2) ∧ ∀ i, i < m → g i = g2 i
/-- what a link field may hold -/
def mayI (c w : Int) : Prop := (w = 8 ∧ c < 3) ∨ (¬ w = 8 ∧ w = 11 ∧ (c = 1 ∨ c = 2)) ∨ (¬ w = 8 ∧ ¬ w = 11 ∧ c < 4)
/-- an object of the class (its class, values, links, row) and the reference's at place o -/
def OTv (C : Int32) (V : Nat → Int64) (N : Int → Option Nat) (R : Option (Nat × (Nat → Int32))) (rho : Nat → Nat) (fC : Nat → Int32) (fF : Nat → Int64) (fR fW : Nat → Int32) (o : Nat) : Prop := C = fC o ∧ (∀ j, j < 17 → ¬ lkf j → ¬ j = 9 → V j = r_vl fC fF o j) ∧ (∀ w, N w = (r_lk fC fF o w).map rho) ∧ reqv R (r_rw fC fR fW o)
def OTf (f : Nat → va_E) (rho : Nat → Nat) (fC : Nat → Int32) (fF : Nat → Int64) (fR fW : Nat → Int32) (o : Nat) : Prop := OTv (g_cn f (rho o)) (g_vl f (rho o)) (g_lk f (rho o)) (g_rw f (rho o)) rho fC fF fR fW o
/-- what the reference's places hold is alive and may be there -/
def RCL (fC : Nat → Int32) (fF : Nat → Int64) (A : Nat → Prop) : Prop := ∀ o w t, A o → r_lk fC fF o w = some t → A t ∧ mayI (fC t).toInt w
/-- THE TIE of the slots and the objects: A alive places, rho place to cell -/
def TIE (K : Nat → Nat) (L : List Nat) (f : Nat → va_E) (h : Nat) (fS fC : Nat → Int32) (fF : Nat → Int64) (fR fW : Nat → Int32) (A : Nat → Prop) (rho : Nat → Nat) : Prop := (∀ j, j < 12 → g_sl f h j = (r_ob (fS j)).map rho) ∧ (∀ j o, j < 12 → r_ob (fS j) = some o → A o) ∧ (∀ o, A o → o < 6400 ∧ isr K L 1 (rho o) ∧ (0 ≤ (fC o).toInt ∧ (fC o).toInt ≤ 4) ∧ OTf f rho fC fF fR fW o) ∧ RCL fC fF A ∧ ∀ a b, A a → A b → rho a = rho b → a = b
section RVIEWS
variable {fS fC : Nat → Int32} {fF : Nat → Int64} {fR fW : Nat → Int32} {o : Nat} {w : Int}
theorem r_ob_none {v : Int32} (h : v.toInt = -1) : r_ob v = none := if_pos h
theorem r_ob_some {v : Int32} (h : ¬ v.toInt = -1) : r_ob v = some (Int32.toNatClampNeg v) := if_neg h
theorem r_vl_in {j : Nat} (h : hs (fC o).toInt (j : Int) = true) : r_vl fC fF o j = fF (17 * o + j) := if_pos h
theorem r_vl_no {j : Nat} (h : ¬ hs (fC o).toInt (j : Int) = true) : r_vl fC fF o j = 0 := if_neg h
theorem reqv.rf (a : Option (Nat × (Nat → Int32))) : reqv a a := by
  cases a with
  | none => exact Or.inl ⟨rfl, rfl⟩
  | some r => exact Or.inr ⟨r.1, r.2, r.2, rfl, rfl, fun _ _ => rfl⟩
theorem reqv.none {b : Option (Nat × (Nat → Int32))} (h : reqv none b) : b = none := by
  rcases h with h | ⟨m, g, g2, h, _⟩
  · exact h.2
  · cases h
theorem reqv.some {r : Nat × (Nat → Int32)} {b : Option (Nat × (Nat → Int32))} (h : reqv (some r) b) : ∃ g2, b = Option.some (r.1, g2) ∧ ∀ i, i < r.1 → r.2 i = g2 i := by
  rcases h with h | ⟨m, g, g2, h, h2, h3⟩
  · cases h.1
  · cases h
    exact ⟨g2, h2, h3⟩
theorem r_lk_links (h : r_lk fC fF o w = some 0 ∨ ∃ t, r_lk fC fF o w = some t) : (w = 8 ∨ w = 11 ∨ w = 15) ∧ hs (fC o).toInt w = true ∧ ¬ (fF (17 * o + w.toNat)).toInt = -1 := by
  unfold r_lk at h
  by_cases hp : (w = 8 ∨ w = 11 ∨ w = 15) ∧ hs (fC o).toInt w = true ∧ ¬ (fF (17 * o + w.toNat)).toInt = -1
  · exact hp
  · rw [if_neg hp] at h
    rcases h with h | ⟨t, h⟩ <;> cases h
theorem r_lk_in {t : Nat} (h : r_lk fC fF o w = some t) : ((w = 8 ∨ w = 11 ∨ w = 15) ∧ hs (fC o).toInt w = true ∧ ¬ (fF (17 * o + w.toNat)).toInt = -1) ∧ t = (fF (17 * o + w.toNat)).toInt.toNat := by
  have hp := r_lk_links (Or.inr ⟨t, h⟩)
  unfold r_lk at h
  rw [if_pos hp] at h
  cases h
  exact ⟨hp, rfl⟩
theorem r_lk_of (h1 : w = 8 ∨ w = 11 ∨ w = 15) (h2 : hs (fC o).toInt w = true) : r_lk fC fF o w = if (fF (17 * o + w.toNat)).toInt = -1 then none else some (fF (17 * o + w.toNat)).toInt.toNat := by
  unfold r_lk
  by_cases h : (fF (17 * o + w.toNat)).toInt = -1
  · rw [if_neg (fun q => q.2.2 h), if_pos h]
  · rw [if_pos ⟨h1, h2, h⟩, if_neg h]
/-- closed for the reference's own counting -/
theorem rcl_cl {A : Nat → Prop} (h : RCL fC fF A) (hs0 : ∀ j o, j < 12 → r_ob (fS j) = some o → A o) : CL fS fC fF A := by
  refine ⟨fun j hj hn => hs0 j _ hj (r_ob_some hn), fun o f ho hl => ?_⟩
  obtain ⟨l1, l2, l3⟩ := hl
  have l1' := l1
  unfold lkf at l1'
  have e : ((f : Int)).toNat = f := Int.toNat_natCast f
  have hh : hs (fC o).toInt (f : Int) = true := hs_iff.mpr l2
  have := r_lk_of (fC := fC) (fF := fF) (o := o) (w := (f : Int)) (by omega) hh
  rw [e, if_neg l3] at this
  exact (h o _ _ ho this).1
end RVIEWS
section TIES
variable {K : Nat → Nat} {L : List Nat} {f : Nat → va_E} {h : Nat} {fS fC : Nat → Int32} {fF : Nat → Int64} {fR fW : Nat → Int32} {A : Nat → Prop} {rho : Nat → Nat} {s t w : Int32}
theorem TIE.sl (hT : TIE K L f h fS fC fF fR fW A rho) (hs : 0 ≤ s.toInt ∧ s.toInt < 12) : ((fS (Int32.toNatClampNeg s)).toInt = -1 ∧ g_sl f h (Int32.toNatClampNeg s) = none) ∨ (¬ (fS (Int32.toNatClampNeg s)).toInt = -1 ∧ g_sl f h (Int32.toNatClampNeg s) = some (rho (Int32.toNatClampNeg (fS (Int32.toNatClampNeg s)))) ∧ A (Int32.toNatClampNeg (fS (Int32.toNatClampNeg s)))) := by
  have hc := clamp_int hs.1
  have h1 := hT.1 (Int32.toNatClampNeg s) (by omega)
  by_cases hn : (fS (Int32.toNatClampNeg s)).toInt = -1
  · rw [r_ob_none hn] at h1
    exact Or.inl ⟨hn, h1⟩
  · have h2 := hT.2.1 (Int32.toNatClampNeg s) _ (by omega) (r_ob_some hn)
    rw [r_ob_some hn] at h1
    exact Or.inr ⟨hn, h1, h2⟩
theorem TIE.cn (hT : TIE K L f h fS fC fF fR fW A rho) {o : Nat} (ho : A o) : g_cn f (rho o) = fC o ∧ 0 ≤ (fC o).toInt ∧ (fC o).toInt ≤ 4 := ⟨(hT.2.2.1 o ho).2.2.2.1, (hT.2.2.1 o ho).2.2.1⟩
theorem TIE.vl (hT : TIE K L f h fS fC fF fR fW A rho) {o j : Nat} (ho : A o) (h1 : j < 17) (h2 : ¬ lkf j) (h3 : ¬ j = 9) : g_vl f (rho o) j = r_vl fC fF o j := (hT.2.2.1 o ho).2.2.2.2.1 j h1 h2 h3
theorem TIE.lk (hT : TIE K L f h fS fC fF fR fW A rho) {o : Nat} (ho : A o) (w : Int) : g_lk f (rho o) w = (r_lk fC fF o w).map rho := (hT.2.2.1 o ho).2.2.2.2.2.1 w
theorem TIE.rw (hT : TIE K L f h fS fC fF fR fW A rho) {o : Nat} (ho : A o) : reqv (g_rw f (rho o)) (r_rw fC fR fW o) := (hT.2.2.1 o ho).2.2.2.2.2.2
theorem tie_same (hrS : rgS fS) (hT : TIE K L f h fS fC fF fR fW A rho) : ks_same (g_sl f h) s t = rs_same fS s t := by
  unfold ks_same rs_same
  by_cases hp : (0 ≤ s.toInt ∧ s.toInt < 12) ∧ (0 ≤ t.toInt ∧ t.toInt < 12)
  · rw [if_pos hp, if_pos hp]
    rcases hT.sl hp.1 with ⟨a1, a2⟩ | ⟨a1, a2, a3⟩
    · rcases hT.sl hp.2 with ⟨b1, b2⟩ | ⟨b1, b2, b3⟩
      · rw [a2, b2, if_pos rfl, if_pos (by omega)]
      · rw [a2, b2, if_neg (by intro q; cases q), if_neg (by omega)]
    · rcases hT.sl hp.2 with ⟨b1, b2⟩ | ⟨b1, b2, b3⟩
      · rw [a2, b2, if_neg (by intro q; cases q), if_neg (by omega)]
      · rw [a2, b2]
        by_cases e : (fS (Int32.toNatClampNeg s)).toInt = (fS (Int32.toNatClampNeg t)).toInt
        · rw [Int32.toInt_inj.mp e, if_pos rfl, if_pos rfl]
        · rw [if_neg e, if_neg]
          intro q
          injection q with q
          have q2 := hT.2.2.2.2 _ _ a3 b3 q
          have hs1 := clamp_int hp.1.1
          have hs2 := clamp_int hp.2.1
          have r1 := hrS (Int32.toNatClampNeg s) (by omega)
          have r2 := hrS (Int32.toNatClampNeg t) (by omega)
          have e1 := clamp_int (i := fS (Int32.toNatClampNeg s)) (by omega)
          have e2 := clamp_int (i := fS (Int32.toNatClampNeg t)) (by omega)
          omega
  · rw [if_neg hp, if_neg hp]
end TIES
theorem OWN_nat : ∀ j, j < 17 → (OWNERt j).toInt = (if j < 10 then 0 else if j < 12 then 1 else if j < 14 then 2 else if j < 16 then 3 else 4) := by decide +kernel
theorem COUNT_nat : ∀ j, j < 3 → (COUNTt j) = (if j = 0 then 4 else if j = 1 then 10 else 12) := by decide +kernel
section OWNH
variable {c w : Int32}
/-- being of a field's owner is having the field -/
theorem own_has (hc : 0 ≤ c.toInt ∧ c.toInt ≤ 4) (hw : 0 ≤ w.toInt ∧ w.toInt < 17) : (((OWNERt (Int32.toNatClampNeg w)).toInt = 5 ∧ ¬ c.toInt = 4) ∨ (¬ (OWNERt (Int32.toNatClampNeg w)).toInt = 5 ∧ (OWNERt (Int32.toNatClampNeg w)).toInt ≤ 2 ∧ (OWNERt (Int32.toNatClampNeg w)).toInt ≤ c.toInt ∧ c.toInt ≤ 2) ∨ (¬ (OWNERt (Int32.toNatClampNeg w)).toInt = 5 ∧ ¬ (OWNERt (Int32.toNatClampNeg w)).toInt ≤ 2 ∧ c.toInt = (OWNERt (Int32.toNatClampNeg w)).toInt)) ↔ hs c.toInt w.toInt = true := by
  have hcl := clamp_int hw.1
  rw [hs_iff, OWN_nat _ (by omega)]
  (repeat' split) <;> omega
theorem wan_may (hc : 0 ≤ c.toInt ∧ c.toInt ≤ 4) (hw : w.toInt = 8 ∨ w.toInt = 11 ∨ w.toInt = 15) : (((sp_wan w).toInt = 5 ∧ ¬ c.toInt = 4) ∨ (¬ (sp_wan w).toInt = 5 ∧ (sp_wan w).toInt ≤ 2 ∧ (sp_wan w).toInt ≤ c.toInt ∧ c.toInt ≤ 2) ∨ (¬ (sp_wan w).toInt = 5 ∧ ¬ (sp_wan w).toInt ≤ 2 ∧ c.toInt = (sp_wan w).toInt)) ↔ mayI c.toInt w.toInt := by
  unfold sp_wan mayI
  have k0 : Int32.toInt 0 = 0 := by decide
  have k1 : Int32.toInt 1 = 1 := by decide
  have k5 : Int32.toInt 5 = 5 := by decide
  (repeat' split) <;> omega
end OWNH
section TIER
variable {K : Nat → Nat} {L : List Nat} {f : Nat → va_E} {h : Nat} {fS fC : Nat → Int32} {fF : Nat → Int64} {fR fW : Nat → Int32} {A : Nat → Prop} {rho : Nat → Nat} {s t w : Int32}
theorem tie_cls (hT : TIE K L f h fS fC fF fR fW A rho) : ks_cls (g_sl f h) (g_cn f) s = rs_cls fS fC s := by
  unfold ks_cls rs_cls
  by_cases hp : 0 ≤ s.toInt ∧ s.toInt < 12
  · rw [if_pos hp, if_pos hp]
    rcases hT.sl hp with ⟨a1, a2⟩ | ⟨a1, a2, a3⟩
    · rw [a2, if_pos a1]
    · rw [a2, if_neg a1]
      exact (hT.cn a3).1
  · rw [if_neg hp, if_neg hp]
theorem tie_is (hT : TIE K L f h fS fC fF fR fW A rho) : ks_is (g_sl f h) (g_cn f) s w = rs_is fS fC s w := by
  unfold ks_is rs_is
  by_cases hp : (0 ≤ s.toInt ∧ s.toInt < 12) ∧ 0 ≤ w.toInt ∧ w.toInt ≤ 5
  · rw [if_pos hp, if_pos hp]
    rcases hT.sl hp.1 with ⟨a1, a2⟩ | ⟨a1, a2, a3⟩
    · rw [a2, if_pos a1]
    · rw [a2, if_neg a1]
      obtain ⟨c1, c2⟩ := hT.cn a3
      simp only [c1]
      (repeat' split) <;> first | rfl | (exfalso; omega)
  · rw [if_neg hp, if_neg hp]
theorem tie_get (hT : TIE K L f h fS fC fF fR fW A rho) : ks_get (g_sl f h) (g_cn f) (g_vl f) s w = rs_get fS fC fF s w := by
  unfold ks_get rs_get
  by_cases hp : (0 ≤ s.toInt ∧ s.toInt < 12) ∧ (0 ≤ w.toInt ∧ w.toInt < 17 ∧ ¬ w.toInt = 8 ∧ ¬ w.toInt = 9 ∧ ¬ w.toInt = 11 ∧ ¬ w.toInt = 15)
  · rw [if_pos hp, if_pos hp]
    have hcl := clamp_int hp.2.1
    rcases hT.sl hp.1 with ⟨a1, a2⟩ | ⟨a1, a2, a3⟩
    · rw [a2, if_pos a1]
    · rw [a2, if_neg a1]
      obtain ⟨c1, c2⟩ := hT.cn a3
      simp only [c1]
      by_cases hh : hs (fC (Int32.toNatClampNeg (fS (Int32.toNatClampNeg s)))).toInt w.toInt = true
      · rw [if_pos ((own_has c2 (by omega)).mpr hh), if_pos (hs_iff.mp hh), hT.vl a3 (by omega) (by unfold lkf; omega) (by omega), r_vl_in (by rw [hcl]; exact hh)]
      · rw [if_neg (mt (own_has c2 (by omega)).mp hh), if_neg (mt hs_iff.mpr hh)]
  · rw [if_neg hp, if_neg hp]
theorem tie_count (hT : TIE K L f h fS fC fF fR fW A rho) : ks_count (g_sl f h) (g_cn f) (g_vl f) s w = rs_count fS fC fF s w := by
  unfold ks_count rs_count
  by_cases hp : (0 ≤ s.toInt ∧ s.toInt < 12) ∧ 0 ≤ w.toInt ∧ w.toInt ≤ 2
  · rw [if_pos hp, if_pos hp]
    have hcl := clamp_int hp.2.1
    rcases hT.sl hp.1 with ⟨a1, a2⟩ | ⟨a1, a2, a3⟩
    · rw [a2, if_pos a1]
    · rw [a2, if_neg a1]
      obtain ⟨c1, c2⟩ := hT.cn a3
      simp only [c1]
      generalize he : Int32.toNatClampNeg (fS (Int32.toNatClampNeg s)) = o at *
      by_cases hh : w.toInt ≤ (fC o).toInt ∧ (fC o).toInt ≤ 2
      · rw [if_pos (by omega), if_pos (by omega), COUNT_nat _ (by omega)]
        rcases (show w.toInt = 0 ∨ w.toInt = 1 ∨ w.toInt = 2 by omega) with q | q | q
        · rw [if_pos (by omega), if_pos q, cl_4, hT.vl a3 (by omega) (by unfold lkf; omega) (by omega), r_vl_in (hs_iff.mpr (by omega))]
        · rw [if_neg (by omega), if_pos (by omega), if_neg (by omega), if_pos q, cl_10, hT.vl a3 (by omega) (by unfold lkf; omega) (by omega), r_vl_in (hs_iff.mpr (by omega))]
        · rw [if_neg (by omega), if_neg (by omega), if_neg (by omega), if_neg (by omega), show Int32.toNatClampNeg 12 = 12 from by decide, hT.vl a3 (by omega) (by unfold lkf; omega) (by omega), r_vl_in (hs_iff.mpr (by omega))]
      · rw [if_neg (by omega), if_neg (by omega)]
  · rw [if_neg hp, if_neg hp]
theorem tie_raise (hT : TIE K L f h fS fC fF fR fW A rho) : ks_raise (g_sl f h) (g_cn f) (g_vl f) s = rs_raise fS fC fF s := by
  unfold ks_raise rs_raise
  by_cases hp : 0 ≤ s.toInt ∧ s.toInt < 12
  · rw [if_pos hp, if_pos hp]
    rcases hT.sl hp with ⟨a1, a2⟩ | ⟨a1, a2, a3⟩
    · rw [a2, if_pos a1]
    · rw [a2, if_neg a1]
      obtain ⟨c1, c2⟩ := hT.cn a3
      unfold ks_thrown
      simp only [c1]
      by_cases hh : (fC (Int32.toNatClampNeg (fS (Int32.toNatClampNeg s)))).toInt = 4
      · rw [if_pos hh, if_pos hh, hT.vl a3 (by omega) (by unfold lkf; omega) (by omega), r_vl_in (hs_iff.mpr (by omega))]
      · rw [if_neg hh, if_neg hh]
  · rw [if_neg hp, if_neg hp]
theorem tie_length (hrR : rgR fR) (hT : TIE K L f h fS fC fF fR fW A rho) : ks_length (g_sl f h) (g_cn f) (g_rw f) s = rs_length fS fC fR s := by
  unfold ks_length rs_length
  by_cases hp : 0 ≤ s.toInt ∧ s.toInt < 12
  · rw [if_pos hp, if_pos hp]
    rcases hT.sl hp with ⟨a1, a2⟩ | ⟨a1, a2, a3⟩
    · rw [a2, if_pos a1]
    · rw [a2, if_neg a1]
      obtain ⟨c1, c2⟩ := hT.cn a3
      have hr := hT.rw a3
      have hlt := (hT.2.2.1 _ a3).1
      simp only [c1]
      generalize he : Int32.toNatClampNeg (fS (Int32.toNatClampNeg s)) = o at *
      by_cases hh : (fC o).toInt ≤ 2
      · rw [if_pos (by omega), if_pos (by omega)]
        have h9 : hs (fC o).toInt 9 = true := hs_iff.mpr (by omega)
        by_cases hn : (fR o).toInt = -1
        · rw [if_pos hn]
          have : r_rw fC fR fW o = none := by unfold r_rw; exact if_neg (fun q => q.2 hn)
          rw [this] at hr
          rcases hr with ⟨e, -⟩ | ⟨m, g, g2, -, e, -⟩
          · rw [e]
          · cases e
        · rw [if_neg hn]
          have : r_rw fC fR fW o = some ((fR o).toInt.toNat, fun i => fW (20 * o + i)) := by unfold r_rw; exact if_pos ⟨h9, hn⟩
          rw [this] at hr
          rcases hr with ⟨-, e⟩ | ⟨m, g, g2, e1, e2, -⟩
          · cases e
          · cases e2
            rw [e1]
            have hb := hrR o hlt
            exact ofNat_clamp (i := fR o) (by omega)
      · rw [if_neg (by omega), if_neg (by omega)]
  · rw [if_neg hp, if_neg hp]
end TIER
end
section
theorem dp_succ (nx : Nat → Option Nat) (n t : Nat) : dp nx (n + 1) (some t) = dp nx n (nx t) + 1 := rfl
section TIEC
variable {K : Nat → Nat} {L : List Nat} {f : Nat → va_E} {h : Nat} {fS fC : Nat → Int32} {fF : Nat → Int64} {fR fW : Nat → Int32} {A : Nat → Prop} {rho : Nat → Nat} {s t w : Int32}
theorem tie_nx (hT : TIE K L f h fS fC fF fR fW A rho) {o : Nat} (ho : A o) (hc : (fC o).toInt < 4) : g_nx f (rho o) = (r_nx fC fF o).map rho ∧ ∀ t, r_nx fC fF o = some t → A t ∧ (fC t).toInt < 4 := by
  obtain ⟨c1, c2⟩ := hT.cn ho
  have key : ∀ (w : Int) (j : Nat), w = 8 ∨ w = 11 ∨ w = 15 → w.toNat = j → hs (fC o).toInt w = true → (if (fC o).toInt = 0 then 8 else if (fC o).toInt = 3 then 15 else 11) = j → ks_lead (fC o) (g_lk f (rho o)) = g_lk f (rho o) w → g_nx f (rho o) = (r_nx fC fF o).map rho ∧ ∀ t, r_nx fC fF o = some t → A t ∧ (fC t).toInt < 4 := fun w j hw hj hh e1 e2 => by
    have e3 : r_nx fC fF o = r_lk fC fF o w := by
      rw [r_lk_of hw hh, hj]
      unfold r_nx
      rw [e1]
    rw [e3]
    refine ⟨?_, fun t ht => ?_⟩
    · unfold g_nx
      rw [c1, e2]
      exact hT.lk ho w
    · obtain ⟨a1, a2⟩ := hT.2.2.2.1 o w t ho ht
      refine ⟨a1, ?_⟩
      unfold mayI at a2
      omega
  by_cases h0 : (fC o).toInt = 0
  · exact key 8 8 (by omega) rfl (hs_iff.mpr (by omega)) (by rw [if_pos h0]) (by unfold ks_lead; rw [if_pos h0])
  · by_cases h3 : (fC o).toInt = 3
    · exact key 15 15 (by omega) rfl (hs_iff.mpr (by omega)) (by rw [if_neg h0, if_pos h3]) (by unfold ks_lead; rw [if_neg h0, if_pos h3])
    · exact key 11 11 (by omega) rfl (hs_iff.mpr (by omega)) (by rw [if_neg h0, if_neg h3]) (by unfold ks_lead; rw [if_neg h0, if_neg h3])
theorem tie_dp (hT : TIE K L f h fS fC fF fR fW A rho) (n : Nat) : ∀ (p : Option Nat), (∀ t, p = some t → A t ∧ (fC t).toInt < 4) → dp (g_nx f) n (p.map rho) = dp (r_nx fC fF) n p := by
  induction n with
  | zero => intro p _; rw [dp_zero, dp_zero]
  | succ n ih =>
    intro p hp
    cases p with
    | none => rw [Option.map_none, dp_none, dp_none]
    | some t =>
      obtain ⟨h1, h2⟩ := hp t rfl
      obtain ⟨e1, e2⟩ := tie_nx hT h1 h2
      rw [Option.map_some, dp_succ, dp_succ, e1, ih _ e2]
theorem tie_n8 (hT : TIE K L f h fS fC fF fR fW A rho) {o : Nat} (ho : A o) (hc : (fC o).toInt < 3) : g_lk f (rho o) 8 = (r_n8 fF o).map rho ∧ ∀ t, r_n8 fF o = some t → A t ∧ (fC t).toInt < 3 := by
  obtain ⟨c1, c2⟩ := hT.cn ho
  have e3 : r_n8 fF o = r_lk fC fF o 8 := by
    rw [r_lk_of (by omega) (hs_iff.mpr (by omega))]
    rfl
  rw [e3]
  refine ⟨hT.lk ho 8, fun t ht => ?_⟩
  obtain ⟨a1, a2⟩ := hT.2.2.2.1 o 8 t ho ht
  refine ⟨a1, ?_⟩
  unfold mayI at a2
  omega
theorem tie_kd (hT : TIE K L f h fS fC fF fR fW A rho) : ∀ (n : Nat) (p : Option Nat) (w s : Int32), (∀ t, p = some t → A t ∧ (fC t).toInt < 3) → kd (g_cn f) (fun t => g_lk f t 8) n (p.map rho) w s = rkd fC fF n p w s
  | 0, _, _, _, _ => rfl
  | n + 1, none, _, _, _ => rfl
  | n + 1, some t, w, s, hp => by
    obtain ⟨h1, h2⟩ := hp t rfl
    obtain ⟨e1, e2⟩ := tie_n8 hT h1 h2
    show kd (g_cn f) (fun t => g_lk f t 8) n (g_lk f (rho t) 8) (w * 10) (s + w * (g_cn f (rho t) + 1)) = rkd fC fF n (if (fC t).toInt = 3 then none else r_n8 fF t) (w * 10) (s + w * (if (fC t).toInt = 3 then 7 else fC t + 1))
    rw [e1, tie_kd hT n _ _ _ e2, (hT.cn h1).1, if_neg (by omega), if_neg (by omega)]
theorem tie_name (hT : TIE K L f h fS fC fF fR fW A rho) {o : Nat} (ho : A o) (hc : (fC o).toInt < 3) : ks_name (g_cn f (rho o)) (g_vl f (rho o)) = rs_name (fC o) (fun j => fF (17 * o + j)) := by
  obtain ⟨c1, c2⟩ := hT.cn ho
  unfold ks_name rs_name
  rw [c1, hT.vl ho (j := 4) (by omega) (by unfold lkf; omega) (by omega), hT.vl ho (j := 10) (by omega) (by unfold lkf; omega) (by omega), hT.vl ho (j := 13) (by omega) (by unfold lkf; omega) (by omega)]
  rw [r_vl_in (j := 4) (hs_iff.mpr (by omega))]
  by_cases h0 : (fC o).toInt = 0
  · rw [if_pos h0, if_neg (by omega), if_neg (by omega)]
  · rw [if_neg h0, if_pos (by omega), r_vl_in (j := 10) (hs_iff.mpr (by omega))]
    by_cases h2 : (fC o).toInt = 2
    · rw [if_pos h2, r_vl_in (j := 13) (hs_iff.mpr (by omega))]
    · rw [if_neg h2, r_vl_no (j := 13) (mt hs_iff.mp (by omega))]
      have e0 : Int64.toInt32 0 = 0 := by decide
      rw [e0, Int32.add_zero]
theorem tie_call {r r2 : Int32} (hT : TIE K L f h fS fC fF fR fW A rho) (h1 : ks_call (g_sl f h) (g_cn f) (g_vl f) (g_lk f) (g_dp f) s w r) (h2 : rs_call fS fC fF s w r2) : r = r2 := by
  unfold ks_call at h1
  unfold rs_call at h2
  by_cases hp : (0 ≤ s.toInt ∧ s.toInt < 12) ∧ 0 ≤ w.toInt ∧ w.toInt ≤ 4
  · rw [if_pos hp] at h1 h2
    rcases hT.sl hp.1 with ⟨a1, a2⟩ | ⟨a1, a2, a3⟩
    · rw [a2] at h1
      rw [if_pos a1] at h2
      exact h1.trans h2.symm
    · rw [a2] at h1
      rw [if_neg a1] at h2
      obtain ⟨c1, c2⟩ := hT.cn a3
      simp only [c1] at h1
      generalize he : Int32.toNatClampNeg (fS (Int32.toNatClampNeg s)) = o at *
      by_cases hw : w.toInt = 2 ∨ w.toInt = 3
      · rw [if_pos hw] at h1 h2
        by_cases hc : (fC o).toInt < 4
        · rw [if_pos (by omega)] at h1
          rw [if_pos hc] at h2
          by_cases hw2 : w.toInt = 2
          · rw [if_pos hw2] at h1 h2
            unfold g_dp at h1
            obtain ⟨e1, e2⟩ := tie_nx hT a3 hc
            rw [e1, tie_dp hT 50 _ e2] at h1
            have e5 : dp (r_nx fC fF) 51 (some o) = dp (r_nx fC fF) 50 (r_nx fC fF o) + 1 := dp_succ _ _ _
            rw [e5] at h2
            apply Int32.toInt_inj.mp
            omega
          · rw [if_neg hw2] at h1 h2
            unfold ks_kind at h1
            rw [c1] at h1
            by_cases h3 : (fC o).toInt = 3
            · rw [if_pos h3] at h1
              have e5 : rkd fC fF 8 (some o) 1 0 = rkd fC fF 7 (if (fC o).toInt = 3 then none else r_n8 fF o) (1 * 10) (0 + 1 * (if (fC o).toInt = 3 then 7 else fC o + 1)) := rfl
              rw [e5, if_pos h3, if_pos h3, rkd_none] at h2
              rw [h1, h2]
              decide
            · rw [if_neg h3] at h1
              have := tie_kd hT 8 (some o) 1 0 (fun t ht => by cases ht; exact ⟨a3, by omega⟩)
              rw [h1, h2, ← this]
              rfl
        · rw [if_neg (by omega)] at h1
          rw [if_neg hc] at h2
          exact h1.trans h2.symm
      · rw [if_neg hw] at h1 h2
        by_cases hc : (fC o).toInt < 3
        · rw [if_pos (by omega)] at h1 h2
          by_cases hw0 : w.toInt = 0
          · rw [if_pos hw0] at h1 h2
            rw [h1, h2, ← tie_name hT a3 hc, c1]
          · rw [if_neg hw0] at h1 h2
            by_cases hw1 : w.toInt = 1
            · rw [if_pos hw1] at h1 h2
              unfold ks_secret at h1
              rw [h1, h2, hT.vl a3 (j := 1) (by omega) (by unfold lkf; omega) (by omega), hT.vl a3 (j := 2) (by omega) (by unfold lkf; omega) (by omega), r_vl_in (j := 1) (hs_iff.mpr (by omega)), r_vl_in (j := 2) (hs_iff.mpr (by omega)), Int64.toInt32_add]
            · rw [if_neg hw1] at h1 h2
              obtain ⟨e1, e2⟩ := tie_n8 hT a3 hc
              rw [e1] at h1
              unfold r_n8 at h1 e2
              by_cases hn : (fF (17 * o + 8)).toInt = -1
              · rw [if_pos hn] at h1 h2
                exact h1.trans h2.symm
              · rw [if_neg hn] at h1 h2
                obtain ⟨b1, b2⟩ := e2 _ (if_neg hn)
                rw [h2, ← tie_name hT b1 b2]
                exact h1
        · rw [if_neg (by omega)] at h1 h2
          exact h1.trans h2.symm
  · rw [if_neg hp] at h1 h2
    exact h1.trans h2.symm
end TIEC
end
