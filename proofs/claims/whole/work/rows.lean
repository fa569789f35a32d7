section
-- ===== PART A: goes FIRST, ahead of the names: the tables' words, and 'selects' of the private methods out of them =====
/-- a private method of a class that the tables say can be made, by its rows of tables_1 -/
def lw_okq (q : MethodName × Nat) : Prop := (q.1.cls ≠ "java/lang/invoke/MethodHandle" ∧ q.1.cls ≠ "java/lang/invoke/VarHandle") ∧ Cond.instantiable q.1.cls q.2 ∈ tables_1 ∧ Cond.privateMethod q.1 ∈ tables_1 ∧ Cond.instanceMethod q.1 ∈ tables_1
theorem lw_p0 : lw_okq (⟨"LooksTogether$Table", "areUnlike", "(II)Z"⟩, 11) := ⟨⟨by decide +kernel, by decide +kernel⟩, List.mem_of_getElem? (i := 20) (by decide +kernel), List.mem_of_getElem? (i := 286) (by decide +kernel), List.mem_of_getElem? (i := 287) (by decide +kernel)⟩
theorem lw_p1 : lw_okq (⟨"LooksTogether$Table", "addToSums", "(III)V"⟩, 11) := ⟨⟨by decide +kernel, by decide +kernel⟩, List.mem_of_getElem? (i := 20) (by decide +kernel), List.mem_of_getElem? (i := 293) (by decide +kernel), List.mem_of_getElem? (i := 294) (by decide +kernel)⟩
theorem lw_p2 : lw_okq (⟨"LooksTogether", "canBeSearched", "()Z"⟩, 4) := ⟨⟨by decide +kernel, by decide +kernel⟩, List.mem_of_getElem? (i := 12) (by decide +kernel), List.mem_of_getElem? (i := 352) (by decide +kernel), List.mem_of_getElem? (i := 353) (by decide +kernel)⟩
theorem lw_p3 : lw_okq (⟨"LooksTogether$Parting", "findRow", "(LLooksTogether$Table;)I"⟩, 6) := ⟨⟨by decide +kernel, by decide +kernel⟩, List.mem_of_getElem? (i := 72) (by decide +kernel), List.mem_of_getElem? (i := 367) (by decide +kernel), List.mem_of_getElem? (i := 368) (by decide +kernel)⟩
theorem lw_p4 : lw_okq (⟨"LooksTogether$Parting", "change", "(LLooksTogether$Table;II)V"⟩, 6) := ⟨⟨by decide +kernel, by decide +kernel⟩, List.mem_of_getElem? (i := 72) (by decide +kernel), List.mem_of_getElem? (i := 373) (by decide +kernel), List.mem_of_getElem? (i := 374) (by decide +kernel)⟩
theorem lw_p5 : lw_okq (⟨"LooksTogether$Parting", "fits", "(LLooksTogether$Table;I)Z"⟩, 6) := ⟨⟨by decide +kernel, by decide +kernel⟩, List.mem_of_getElem? (i := 72) (by decide +kernel), List.mem_of_getElem? (i := 378) (by decide +kernel), List.mem_of_getElem? (i := 379) (by decide +kernel)⟩
theorem lw_p6 : lw_okq (⟨"LooksTogether$Rays", "findPairsAndThrees", "()V"⟩, 12) := ⟨⟨by decide +kernel, by decide +kernel⟩, List.mem_of_getElem? (i := 101) (by decide +kernel), List.mem_of_getElem? (i := 445) (by decide +kernel), List.mem_of_getElem? (i := 446) (by decide +kernel)⟩
theorem lw_p7 : lw_okq (⟨"LooksTogether$Rays", "findThreesOf", "(II)V"⟩, 12) := ⟨⟨by decide +kernel, by decide +kernel⟩, List.mem_of_getElem? (i := 101) (by decide +kernel), List.mem_of_getElem? (i := 449) (by decide +kernel), List.mem_of_getElem? (i := 450) (by decide +kernel)⟩
theorem lw_p8 : lw_okq (⟨"LooksTogether$Rays", "areColours", "(I)Z"⟩, 12) := ⟨⟨by decide +kernel, by decide +kernel⟩, List.mem_of_getElem? (i := 101) (by decide +kernel), List.mem_of_getElem? (i := 453) (by decide +kernel), List.mem_of_getElem? (i := 454) (by decide +kernel)⟩
theorem lw_p9 : lw_okq (⟨"LooksTogetherModel", "isSet", "(I)Z"⟩, 19) := ⟨⟨by decide +kernel, by decide +kernel⟩, List.mem_of_getElem? (i := 508) (by decide +kernel), List.mem_of_getElem? (i := 595) (by decide +kernel), List.mem_of_getElem? (i := 596) (by decide +kernel)⟩
theorem lw_p10 : lw_okq (⟨"LooksTogetherModel", "sumOf", "(I)I"⟩, 19) := ⟨⟨by decide +kernel, by decide +kernel⟩, List.mem_of_getElem? (i := 508) (by decide +kernel), List.mem_of_getElem? (i := 600) (by decide +kernel), List.mem_of_getElem? (i := 601) (by decide +kernel)⟩
theorem lw_p11 : lw_okq (⟨"LooksTogetherModel", "isJoint", "(II)Z"⟩, 19) := ⟨⟨by decide +kernel, by decide +kernel⟩, List.mem_of_getElem? (i := 508) (by decide +kernel), List.mem_of_getElem? (i := 608) (by decide +kernel), List.mem_of_getElem? (i := 609) (by decide +kernel)⟩
theorem lw_p12 : lw_okq (⟨"LooksTogetherModel", "hiddenMany", "()I"⟩, 19) := ⟨⟨by decide +kernel, by decide +kernel⟩, List.mem_of_getElem? (i := 508) (by decide +kernel), List.mem_of_getElem? (i := 627) (by decide +kernel), List.mem_of_getElem? (i := 628) (by decide +kernel)⟩
theorem lw_p13 : lw_okq (⟨"LooksTogetherModel", "jointOf", "(II)I"⟩, 19) := ⟨⟨by decide +kernel, by decide +kernel⟩, List.mem_of_getElem? (i := 508) (by decide +kernel), List.mem_of_getElem? (i := 631) (by decide +kernel), List.mem_of_getElem? (i := 632) (by decide +kernel)⟩
theorem lw_p14 : lw_okq (⟨"LooksTogetherModel", "findQuarrel", "()I"⟩, 19) := ⟨⟨by decide +kernel, by decide +kernel⟩, List.mem_of_getElem? (i := 508) (by decide +kernel), List.mem_of_getElem? (i := 639) (by decide +kernel), List.mem_of_getElem? (i := 640) (by decide +kernel)⟩
theorem lw_p15 : lw_okq (⟨"LooksTogetherModel", "areUnlike", "(II)Z"⟩, 19) := ⟨⟨by decide +kernel, by decide +kernel⟩, List.mem_of_getElem? (i := 508) (by decide +kernel), List.mem_of_getElem? (i := 643) (by decide +kernel), List.mem_of_getElem? (i := 644) (by decide +kernel)⟩
def lw_privs_1 : List (MethodName × Nat) := [(⟨"LooksTogether$Table", "areUnlike", "(II)Z"⟩, 11), (⟨"LooksTogether$Table", "addToSums", "(III)V"⟩, 11), (⟨"LooksTogether", "canBeSearched", "()Z"⟩, 4), (⟨"LooksTogether$Parting", "findRow", "(LLooksTogether$Table;)I"⟩, 6), (⟨"LooksTogether$Parting", "change", "(LLooksTogether$Table;II)V"⟩, 6), (⟨"LooksTogether$Parting", "fits", "(LLooksTogether$Table;I)Z"⟩, 6), (⟨"LooksTogether$Rays", "findPairsAndThrees", "()V"⟩, 12), (⟨"LooksTogether$Rays", "findThreesOf", "(II)V"⟩, 12), (⟨"LooksTogether$Rays", "areColours", "(I)Z"⟩, 12), (⟨"LooksTogetherModel", "isSet", "(I)Z"⟩, 19), (⟨"LooksTogetherModel", "sumOf", "(I)I"⟩, 19), (⟨"LooksTogetherModel", "isJoint", "(II)Z"⟩, 19), (⟨"LooksTogetherModel", "hiddenMany", "()I"⟩, 19), (⟨"LooksTogetherModel", "jointOf", "(II)I"⟩, 19), (⟨"LooksTogetherModel", "findQuarrel", "()I"⟩, 19), (⟨"LooksTogetherModel", "areUnlike", "(II)Z"⟩, 19)]
theorem lw_r1 : ∀ q ∈ lw_privs_1, lw_okq q := List.forall_mem_cons.mpr ⟨lw_p0, List.forall_mem_cons.mpr ⟨lw_p1, List.forall_mem_cons.mpr ⟨lw_p2, List.forall_mem_cons.mpr ⟨lw_p3, List.forall_mem_cons.mpr ⟨lw_p4, List.forall_mem_cons.mpr ⟨lw_p5, List.forall_mem_cons.mpr ⟨lw_p6, List.forall_mem_cons.mpr ⟨lw_p7, List.forall_mem_cons.mpr ⟨lw_p8, List.forall_mem_cons.mpr ⟨lw_p9, List.forall_mem_cons.mpr ⟨lw_p10, List.forall_mem_cons.mpr ⟨lw_p11, List.forall_mem_cons.mpr ⟨lw_p12, List.forall_mem_cons.mpr ⟨lw_p13, List.forall_mem_cons.mpr ⟨lw_p14, List.forall_mem_cons.mpr ⟨lw_p15, fun _ h => absurd h List.not_mem_nil⟩⟩⟩⟩⟩⟩⟩⟩⟩⟩⟩⟩⟩⟩⟩⟩
theorem lw_p16 : lw_okq (⟨"LooksTogetherModel", "sumBy", "(III)I"⟩, 19) := ⟨⟨by decide +kernel, by decide +kernel⟩, List.mem_of_getElem? (i := 508) (by decide +kernel), List.mem_of_getElem? (i := 647) (by decide +kernel), List.mem_of_getElem? (i := 648) (by decide +kernel)⟩
theorem lw_p17 : lw_okq (⟨"LooksTogetherModel", "isPossible", "(I)Z"⟩, 19) := ⟨⟨by decide +kernel, by decide +kernel⟩, List.mem_of_getElem? (i := 508) (by decide +kernel), List.mem_of_getElem? (i := 659) (by decide +kernel), List.mem_of_getElem? (i := 660) (by decide +kernel)⟩
theorem lw_p18 : lw_okq (⟨"LooksTogetherModel", "isLost", "(II)Z"⟩, 19) := ⟨⟨by decide +kernel, by decide +kernel⟩, List.mem_of_getElem? (i := 508) (by decide +kernel), List.mem_of_getElem? (i := 667) (by decide +kernel), List.mem_of_getElem? (i := 668) (by decide +kernel)⟩
theorem lw_p19 : lw_okq (⟨"LooksTogetherModel", "bestOf", "()I"⟩, 19) := ⟨⟨by decide +kernel, by decide +kernel⟩, List.mem_of_getElem? (i := 508) (by decide +kernel), List.mem_of_getElem? (i := 675) (by decide +kernel), List.mem_of_getElem? (i := 676) (by decide +kernel)⟩
theorem lw_p20 : lw_okq (⟨"LooksTogetherModel", "stakeOf", "(I)I"⟩, 19) := ⟨⟨by decide +kernel, by decide +kernel⟩, List.mem_of_getElem? (i := 508) (by decide +kernel), List.mem_of_getElem? (i := 679) (by decide +kernel), List.mem_of_getElem? (i := 680) (by decide +kernel)⟩
theorem lw_p21 : lw_okq (⟨"LooksTogetherModel", "worthOf", "()I"⟩, 19) := ⟨⟨by decide +kernel, by decide +kernel⟩, List.mem_of_getElem? (i := 508) (by decide +kernel), List.mem_of_getElem? (i := 691) (by decide +kernel), List.mem_of_getElem? (i := 692) (by decide +kernel)⟩
theorem lw_p22 : lw_okq (⟨"LooksTogetherModel", "isPartable", "()Z"⟩, 19) := ⟨⟨by decide +kernel, by decide +kernel⟩, List.mem_of_getElem? (i := 508) (by decide +kernel), List.mem_of_getElem? (i := 703) (by decide +kernel), List.mem_of_getElem? (i := 704) (by decide +kernel)⟩
theorem lw_p23 : lw_okq (⟨"LooksTogetherModel", "search", "()I"⟩, 19) := ⟨⟨by decide +kernel, by decide +kernel⟩, List.mem_of_getElem? (i := 508) (by decide +kernel), List.mem_of_getElem? (i := 708) (by decide +kernel), List.mem_of_getElem? (i := 709) (by decide +kernel)⟩
theorem lw_p24 : lw_okq (⟨"LooksTogetherModel", "stands", "(II)V"⟩, 19) := ⟨⟨by decide +kernel, by decide +kernel⟩, List.mem_of_getElem? (i := 508) (by decide +kernel), List.mem_of_getElem? (i := 712) (by decide +kernel), List.mem_of_getElem? (i := 713) (by decide +kernel)⟩
theorem lw_p25 : lw_okq (⟨"LooksTogetherModel", "canStand", "(I)Z"⟩, 19) := ⟨⟨by decide +kernel, by decide +kernel⟩, List.mem_of_getElem? (i := 508) (by decide +kernel), List.mem_of_getElem? (i := 716) (by decide +kernel), List.mem_of_getElem? (i := 717) (by decide +kernel)⟩
theorem lw_p26 : lw_okq (⟨"LooksTogetherModel", "isProof", "(I)Z"⟩, 19) := ⟨⟨by decide +kernel, by decide +kernel⟩, List.mem_of_getElem? (i := 508) (by decide +kernel), List.mem_of_getElem? (i := 737) (by decide +kernel), List.mem_of_getElem? (i := 738) (by decide +kernel)⟩
theorem lw_p27 : lw_okq (⟨"LooksTogetherModel", "squareOf", "(I)I"⟩, 19) := ⟨⟨by decide +kernel, by decide +kernel⟩, List.mem_of_getElem? (i := 508) (by decide +kernel), List.mem_of_getElem? (i := 755) (by decide +kernel), List.mem_of_getElem? (i := 756) (by decide +kernel)⟩
theorem lw_p28 : lw_okq (⟨"LooksTogetherModel", "areSquare", "(II)Z"⟩, 19) := ⟨⟨by decide +kernel, by decide +kernel⟩, List.mem_of_getElem? (i := 508) (by decide +kernel), List.mem_of_getElem? (i := 759) (by decide +kernel), List.mem_of_getElem? (i := 760) (by decide +kernel)⟩
theorem lw_p29 : lw_okq (⟨"LooksTogetherModel", "findThrees", "()I"⟩, 19) := ⟨⟨by decide +kernel, by decide +kernel⟩, List.mem_of_getElem? (i := 508) (by decide +kernel), List.mem_of_getElem? (i := 768) (by decide +kernel), List.mem_of_getElem? (i := 769) (by decide +kernel)⟩
theorem lw_p30 : lw_okq (⟨"LooksTogetherModel", "isColour", "(I)Z"⟩, 19) := ⟨⟨by decide +kernel, by decide +kernel⟩, List.mem_of_getElem? (i := 508) (by decide +kernel), List.mem_of_getElem? (i := 772) (by decide +kernel), List.mem_of_getElem? (i := 773) (by decide +kernel)⟩
def lw_privs_2 : List (MethodName × Nat) := [(⟨"LooksTogetherModel", "sumBy", "(III)I"⟩, 19), (⟨"LooksTogetherModel", "isPossible", "(I)Z"⟩, 19), (⟨"LooksTogetherModel", "isLost", "(II)Z"⟩, 19), (⟨"LooksTogetherModel", "bestOf", "()I"⟩, 19), (⟨"LooksTogetherModel", "stakeOf", "(I)I"⟩, 19), (⟨"LooksTogetherModel", "worthOf", "()I"⟩, 19), (⟨"LooksTogetherModel", "isPartable", "()Z"⟩, 19), (⟨"LooksTogetherModel", "search", "()I"⟩, 19), (⟨"LooksTogetherModel", "stands", "(II)V"⟩, 19), (⟨"LooksTogetherModel", "canStand", "(I)Z"⟩, 19), (⟨"LooksTogetherModel", "isProof", "(I)Z"⟩, 19), (⟨"LooksTogetherModel", "squareOf", "(I)I"⟩, 19), (⟨"LooksTogetherModel", "areSquare", "(II)Z"⟩, 19), (⟨"LooksTogetherModel", "findThrees", "()I"⟩, 19), (⟨"LooksTogetherModel", "isColour", "(I)Z"⟩, 19)]
theorem lw_r2 : ∀ q ∈ lw_privs_2, lw_okq q := List.forall_mem_cons.mpr ⟨lw_p16, List.forall_mem_cons.mpr ⟨lw_p17, List.forall_mem_cons.mpr ⟨lw_p18, List.forall_mem_cons.mpr ⟨lw_p19, List.forall_mem_cons.mpr ⟨lw_p20, List.forall_mem_cons.mpr ⟨lw_p21, List.forall_mem_cons.mpr ⟨lw_p22, List.forall_mem_cons.mpr ⟨lw_p23, List.forall_mem_cons.mpr ⟨lw_p24, List.forall_mem_cons.mpr ⟨lw_p25, List.forall_mem_cons.mpr ⟨lw_p26, List.forall_mem_cons.mpr ⟨lw_p27, List.forall_mem_cons.mpr ⟨lw_p28, List.forall_mem_cons.mpr ⟨lw_p29, List.forall_mem_cons.mpr ⟨lw_p30, fun _ h => absurd h List.not_mem_nil⟩⟩⟩⟩⟩⟩⟩⟩⟩⟩⟩⟩⟩⟩⟩
def lw_privs : List (MethodName × Nat) := lw_privs_1 ++ (lw_privs_2)
def lw_tbl : List Cond := k2_sels lw_privs ++ tables_1
theorem lw_privs_ok : ∀ q ∈ lw_privs, lw_okq q := by
  show ∀ q ∈ lw_privs_1 ++ (lw_privs_2), lw_okq q
  exact List.forall_mem_append.mpr ⟨lw_r1, lw_r2⟩
end
section
def RX0 : String := "LooksTogether$Parting"
def TX0 : u_T := fun k => match k with
  | 0 => ("LooksTogether$Parting", "row", "[I", true)
  | 1 => ("LooksTogether$Parting", "left", "[I", true)
  | 2 => ("LooksTogether$Parting", "total", "I", false)
  | 3 => ("LooksTogether$Parting", "tried", "I", false)
  | 4 => ("LooksTogether$Parting", "outcome", "I", false)
  | _ => ("LooksTogether$Parting", "changesSeen", "I", false)
def tyX0 : Nat → FieldType := fun k => match k with
  | 0 => .array .int
  | 1 => .array .int
  | 2 => .int
  | 3 => .int
  | 4 => .int
  | _ => .int
abbrev wsX00 : List Cond := u_ws RX0 TX0 6
theorem nmX0 : ∀ a, a < 6 → ∀ b, b < 6 → a ≠ b → (TX0 a).2.1 ≠ (TX0 b).2.1 := by decide +kernel
theorem tyX0_ok : ∀ k, k < 6 → parseFieldDescriptor (TX0 k).2.2.1 = some (tyX0 k) := by decide +kernel
abbrev cX0_init : ByteArray := prog_2_method_1_code
def yX0_init : MethodName := ⟨RX0, "<init>", "()V"⟩
abbrev cX0_search : ByteArray := prog_2_method_2_code
def yX0_search : MethodName := ⟨RX0, "search", "(LLooksTogether$Table;)V"⟩
abbrev cX0_findRow : ByteArray := prog_2_method_3_code
def yX0_findRow : MethodName := ⟨RX0, "findRow", "(LLooksTogether$Table;)I"⟩
abbrev cX0_fits : ByteArray := prog_2_method_4_code
def yX0_fits : MethodName := ⟨RX0, "fits", "(LLooksTogether$Table;I)Z"⟩
abbrev cX0_change : ByteArray := prog_2_method_5_code
def yX0_change : MethodName := ⟨RX0, "change", "(LLooksTogether$Table;II)V"⟩
def RX1 : String := "LooksTogether$Rays"
def TX1 : u_T := fun k => match k with
  | 0 => ("LooksTogether$Rays", "size", "I", false)
  | 1 => ("LooksTogether$Rays", "xs", "[I", true)
  | 2 => ("LooksTogether$Rays", "ys", "[I", true)
  | 3 => ("LooksTogether$Rays", "zs", "[I", true)
  | 4 => ("LooksTogether$Rays", "squares", "[I", true)
  | 5 => ("LooksTogether$Rays", "threes", "[I", true)
  | 6 => ("LooksTogether$Rays", "judged", "Z", false)
  | 7 => ("LooksTogether$Rays", "pairCount", "I", false)
  | 8 => ("LooksTogether$Rays", "threeCount", "I", false)
  | 9 => ("LooksTogether$Rays", "colourCount", "I", false)
  | 10 => ("LooksTogether$Rays", "leastColours", "I", false)
  | _ => ("LooksTogether$Rays", "mostRed", "I", false)
def tyX1 : Nat → FieldType := fun k => match k with
  | 0 => .int
  | 1 => .array .int
  | 2 => .array .int
  | 3 => .array .int
  | 4 => .array .int
  | 5 => .array .int
  | 6 => .boolean
  | 7 => .int
  | 8 => .int
  | 9 => .int
  | 10 => .int
  | _ => .int
abbrev wsX10 : List Cond := u_ws RX1 TX1 12
theorem nmX1 : ∀ a, a < 12 → ∀ b, b < 12 → a ≠ b → (TX1 a).2.1 ≠ (TX1 b).2.1 := by decide +kernel
theorem tyX1_ok : ∀ k, k < 12 → parseFieldDescriptor (TX1 k).2.2.1 = some (tyX1 k) := by decide +kernel
abbrev cX1_init : ByteArray := prog_3_method_1_code
def yX1_init : MethodName := ⟨RX1, "<init>", "()V"⟩
abbrev cX1_hasMultipleOf : ByteArray := prog_3_method_2_code
def yX1_hasMultipleOf : MethodName := ⟨RX1, "hasMultipleOf", "(III)Z"⟩
abbrev cX1_add : ByteArray := prog_3_method_3_code
def yX1_add : MethodName := ⟨RX1, "add", "(III)I"⟩
abbrev cX1_removeLatest : ByteArray := prog_3_method_4_code
def yX1_removeLatest : MethodName := ⟨RX1, "removeLatest", "()I"⟩
abbrev cX1_judge : ByteArray := prog_3_method_5_code
def yX1_judge : MethodName := ⟨RX1, "judge", "()V"⟩
abbrev cX1_findPairsAndThrees : ByteArray := prog_3_method_6_code
def yX1_findPairsAndThrees : MethodName := ⟨RX1, "findPairsAndThrees", "()V"⟩
abbrev cX1_findThreesOf : ByteArray := prog_3_method_7_code
def yX1_findThreesOf : MethodName := ⟨RX1, "findThreesOf", "(II)V"⟩
abbrev cX1_areColours : ByteArray := prog_3_method_8_code
def yX1_areColours : MethodName := ⟨RX1, "areColours", "(I)Z"⟩
def RX2 : String := "LooksTogether$Sheet"
def TX2 : u_T := fun k => match k with
  | 0 => ("LooksTogether$Sheet", "cells", "[I", true)
  | 1 => ("LooksTogether$Sheet", "lane", "I", false)
  | _ => ("LooksTogether$Sheet", "size", "I", false)
def tyX2 : Nat → FieldType := fun k => match k with
  | 0 => .array .int
  | 1 => .int
  | _ => .int
abbrev wsX20 : List Cond := u_ws RX2 TX2 3
theorem nmX2 : ∀ a, a < 3 → ∀ b, b < 3 → a ≠ b → (TX2 a).2.1 ≠ (TX2 b).2.1 := by decide +kernel
theorem tyX2_ok : ∀ k, k < 3 → parseFieldDescriptor (TX2 k).2.2.1 = some (tyX2 k) := by decide +kernel
abbrev cX2_init : ByteArray := prog_4_method_1_code
def yX2_init : MethodName := ⟨RX2, "<init>", "()V"⟩
abbrev cX2_renew : ByteArray := prog_4_method_2_code
def yX2_renew : MethodName := ⟨RX2, "renew", "(II)V"⟩
abbrev cX2_isNothing : ByteArray := prog_4_method_3_code
def yX2_isNothing : MethodName := ⟨RX2, "isNothing", "()Z"⟩
abbrev cX2_hasCell : ByteArray := prog_4_method_4_code
def yX2_hasCell : MethodName := ⟨RX2, "hasCell", "(I)Z"⟩
abbrev cX2_write : ByteArray := prog_4_method_5_code
def yX2_write : MethodName := ⟨RX2, "write", "(II)V"⟩
def RX3 : String := "LooksTogether$Table"
def TX3 : u_T := fun k => match k with
  | 0 => ("LooksTogether$Table", "lookCount", "I", false)
  | 1 => ("LooksTogether$Table", "size", "I", false)
  | 2 => ("LooksTogether$Table", "changes", "I", false)
  | 3 => ("LooksTogether$Table", "looksOf", "[I", true)
  | 4 => ("LooksTogether$Table", "parities", "[I", true)
  | 5 => ("LooksTogether$Table", "weights", "[I", true)
  | 6 => ("LooksTogether$Table", "stakes", "[I", true)
  | 7 => ("LooksTogether$Table", "answers", "[I", true)
  | 8 => ("LooksTogether$Table", "places", "[I", true)
  | 9 => ("LooksTogether$Table", "sums", "[I", true)
  | _ => ("LooksTogether$Table", "met", "[Z", true)
def tyX3 : Nat → FieldType := fun k => match k with
  | 0 => .int
  | 1 => .int
  | 2 => .int
  | 3 => .array .int
  | 4 => .array .int
  | 5 => .array .int
  | 6 => .array .int
  | 7 => .array .int
  | 8 => .array .int
  | 9 => .array .int
  | _ => .array .boolean
abbrev wsX30 : List Cond := u_ws RX3 TX3 11
theorem nmX3 : ∀ a, a < 11 → ∀ b, b < 11 → a ≠ b → (TX3 a).2.1 ≠ (TX3 b).2.1 := by decide +kernel
theorem tyX3_ok : ∀ k, k < 11 → parseFieldDescriptor (TX3 k).2.2.1 = some (tyX3 k) := by decide +kernel
abbrev cX3_init : ByteArray := prog_5_method_1_code
def yX3_init : MethodName := ⟨RX3, "<init>", "()V"⟩
abbrev cX3_begin : ByteArray := prog_5_method_2_code
def yX3_begin : MethodName := ⟨RX3, "begin", "(I)V"⟩
abbrev cX3_hiddenCount : ByteArray := prog_5_method_3_code
def yX3_hiddenCount : MethodName := ⟨RX3, "hiddenCount", "()I"⟩
abbrev cX3_hasSet : ByteArray := prog_5_method_4_code
def yX3_hasSet : MethodName := ⟨RX3, "hasSet", "(I)Z"⟩
abbrev cX3_hasJoint : ByteArray := prog_5_method_5_code
def yX3_hasJoint : MethodName := ⟨RX3, "hasJoint", "(II)Z"⟩
abbrev cX3_jointCount : ByteArray := prog_5_method_6_code
def yX3_jointCount : MethodName := ⟨RX3, "jointCount", "(I)I"⟩
abbrev cX3_hasSetOf : ByteArray := prog_5_method_7_code
def yX3_hasSetOf : MethodName := ⟨RX3, "hasSetOf", "(I)Z"⟩
abbrev cX3_add : ByteArray := prog_5_method_8_code
def yX3_add : MethodName := ⟨RX3, "add", "(I)I"⟩
abbrev cX3_numberOf : ByteArray := prog_5_method_9_code
def yX3_numberOf : MethodName := ⟨RX3, "numberOf", "(II)I"⟩
abbrev cX3_removeLatest : ByteArray := prog_5_method_10_code
def yX3_removeLatest : MethodName := ⟨RX3, "removeLatest", "()I"⟩
abbrev cX3_setWeight : ByteArray := prog_5_method_11_code
def yX3_setWeight : MethodName := ⟨RX3, "setWeight", "(II)V"⟩
abbrev cX3_weighBy : ByteArray := prog_5_method_12_code
def yX3_weighBy : MethodName := ⟨RX3, "weighBy", "(I)V"⟩
abbrev cX3_placeBy : ByteArray := prog_5_method_13_code
def yX3_placeBy : MethodName := ⟨RX3, "placeBy", "(II)I"⟩
abbrev cX3_weightSum : ByteArray := prog_5_method_14_code
def yX3_weightSum : MethodName := ⟨RX3, "weightSum", "(I)I"⟩
abbrev cX3_weightsAboveZero : ByteArray := prog_5_method_15_code
def yX3_weightsAboveZero : MethodName := ⟨RX3, "weightsAboveZero", "()I"⟩
abbrev cX3_firstQuarrel : ByteArray := prog_5_method_16_code
def yX3_firstQuarrel : MethodName := ⟨RX3, "firstQuarrel", "()I"⟩
abbrev cX3_areUnlike : ByteArray := prog_5_method_17_code
def yX3_areUnlike : MethodName := ⟨RX3, "areUnlike", "(II)Z"⟩
abbrev cX3_addToSums : ByteArray := prog_5_method_18_code
def yX3_addToSums : MethodName := ⟨RX3, "addToSums", "(III)V"⟩
abbrev cX3_isPossible : ByteArray := prog_5_method_19_code
def yX3_isPossible : MethodName := ⟨RX3, "isPossible", "(I)Z"⟩
abbrev cX3_findMet : ByteArray := prog_5_method_20_code
def yX3_findMet : MethodName := ⟨RX3, "findMet", "()V"⟩
abbrev cX3_stakeSum : ByteArray := prog_5_method_21_code
def yX3_stakeSum : MethodName := ⟨RX3, "stakeSum", "(I)I"⟩
abbrev cX3_bestHidden : ByteArray := prog_5_method_22_code
def yX3_bestHidden : MethodName := ⟨RX3, "bestHidden", "()I"⟩
abbrev cX3_stakesTimesWeights : ByteArray := prog_5_method_23_code
def yX3_stakesTimesWeights : MethodName := ⟨RX3, "stakesTimesWeights", "()I"⟩
abbrev cX3_isFulfilledBy : ByteArray := prog_5_method_24_code
def yX3_isFulfilledBy : MethodName := ⟨RX3, "isFulfilledBy", "(I)Z"⟩
abbrev cX3_isProof : ByteArray := prog_5_method_25_code
def yX3_isProof : MethodName := ⟨RX3, "isProof", "(I)Z"⟩
def RX4 : String := "LooksTogether"
def TX4 : u_T := fun k => match k with
  | 0 => ("LooksTogether", "table", "LLooksTogether$Table;", true)
  | 1 => ("LooksTogether", "parting", "LLooksTogether$Parting;", true)
  | 2 => ("LooksTogether", "rays", "LLooksTogether$Rays;", true)
  | _ => ("LooksTogether", "sheets", "[LLooksTogether$Sheet;", true)
def tyX4 : Nat → FieldType := fun k => match k with
  | 0 => .object "LooksTogether$Table"
  | 1 => .object "LooksTogether$Parting"
  | 2 => .object "LooksTogether$Rays"
  | _ => .array (.object "LooksTogether$Sheet")
abbrev wsX40 : List Cond := u_ws RX4 TX4 4
theorem nmX4 : ∀ a, a < 4 → ∀ b, b < 4 → a ≠ b → (TX4 a).2.1 ≠ (TX4 b).2.1 := by decide +kernel
theorem tyX4_ok : ∀ k, k < 4 → parseFieldDescriptor (TX4 k).2.2.1 = some (tyX4 k) := by decide +kernel
abbrev cX4_init : ByteArray := prog_1_method_1_code
def yX4_init : MethodName := ⟨RX4, "<init>", "()V"⟩
abbrev cX4_looks : ByteArray := prog_1_method_2_code
def yX4_looks : MethodName := ⟨RX4, "looks", "(I)I"⟩
abbrev cX4_put : ByteArray := prog_1_method_3_code
def yX4_put : MethodName := ⟨RX4, "put", "(I)I"⟩
abbrev cX4_drop : ByteArray := prog_1_method_4_code
def yX4_drop : MethodName := ⟨RX4, "drop", "()I"⟩
abbrev cX4_told : ByteArray := prog_1_method_5_code
def yX4_told : MethodName := ⟨RX4, "told", "(II)I"⟩
abbrev cX4_weight : ByteArray := prog_1_method_6_code
def yX4_weight : MethodName := ⟨RX4, "weight", "(III)I"⟩
abbrev cX4_stake : ByteArray := prog_1_method_7_code
def yX4_stake : MethodName := ⟨RX4, "stake", "(III)I"⟩
abbrev cX4_parity : ByteArray := prog_1_method_8_code
def yX4_parity : MethodName := ⟨RX4, "parity", "(II)I"⟩
abbrev cX4_joint : ByteArray := prog_1_method_9_code
def yX4_joint : MethodName := ⟨RX4, "joint", "(II)I"⟩
abbrev cX4_isWeight : ByteArray := prog_1_method_10_code
def yX4_isWeight : MethodName := ⟨RX4, "isWeight", "(I)Z"⟩
abbrev cX4_isStake : ByteArray := prog_1_method_11_code
def yX4_isStake : MethodName := ⟨RX4, "isStake", "(I)Z"⟩
abbrev cX4_agrees : ByteArray := prog_1_method_12_code
def yX4_agrees : MethodName := ⟨RX4, "agrees", "()I"⟩
abbrev cX4_quarrel : ByteArray := prog_1_method_13_code
def yX4_quarrel : MethodName := ⟨RX4, "quarrel", "()I"⟩
abbrev cX4_possible : ByteArray := prog_1_method_14_code
def yX4_possible : MethodName := ⟨RX4, "possible", "(I)I"⟩
abbrev cX4_lost : ByteArray := prog_1_method_15_code
def yX4_lost : MethodName := ⟨RX4, "lost", "(I)I"⟩
abbrev cX4_bound : ByteArray := prog_1_method_16_code
def yX4_bound : MethodName := ⟨RX4, "bound", "()I"⟩
abbrev cX4_best : ByteArray := prog_1_method_17_code
def yX4_best : MethodName := ⟨RX4, "best", "()I"⟩
abbrev cX4_worth : ByteArray := prog_1_method_18_code
def yX4_worth : MethodName := ⟨RX4, "worth", "()I"⟩
abbrev cX4_beyond : ByteArray := prog_1_method_19_code
def yX4_beyond : MethodName := ⟨RX4, "beyond", "()I"⟩
abbrev cX4_parted : ByteArray := prog_1_method_20_code
def yX4_parted : MethodName := ⟨RX4, "parted", "()I"⟩
abbrev cX4_part : ByteArray := prog_1_method_21_code
def yX4_part : MethodName := ⟨RX4, "part", "(I)I"⟩
abbrev cX4_canBeSearched : ByteArray := prog_1_method_22_code
def yX4_canBeSearched : MethodName := ⟨RX4, "canBeSearched", "()Z"⟩
abbrev cX4_mix : ByteArray := prog_1_method_23_code
def yX4_mix : MethodName := ⟨RX4, "mix", "(I)I"⟩
abbrev cX4_fulfil : ByteArray := prog_1_method_24_code
def yX4_fulfil : MethodName := ⟨RX4, "fulfil", "()I"⟩
abbrev cX4_proof : ByteArray := prog_1_method_25_code
def yX4_proof : MethodName := ⟨RX4, "proof", "()I"⟩
abbrev cX4_ray : ByteArray := prog_1_method_26_code
def yX4_ray : MethodName := ⟨RX4, "ray", "(III)I"⟩
abbrev cX4_cut : ByteArray := prog_1_method_27_code
def yX4_cut : MethodName := ⟨RX4, "cut", "()I"⟩
abbrev cX4_square : ByteArray := prog_1_method_28_code
def yX4_square : MethodName := ⟨RX4, "square", "(I)I"⟩
abbrev cX4_colours : ByteArray := prog_1_method_29_code
def yX4_colours : MethodName := ⟨RX4, "colours", "(I)I"⟩
abbrev cX4_isRayNumber : ByteArray := prog_1_method_30_code
def yX4_isRayNumber : MethodName := ⟨RX4, "isRayNumber", "(I)Z"⟩
abbrev cX4_sheet : ByteArray := prog_1_method_31_code
def yX4_sheet : MethodName := ⟨RX4, "sheet", "(III)I"⟩
abbrev cX4_lay : ByteArray := prog_1_method_32_code
def yX4_lay : MethodName := ⟨RX4, "lay", "(III)I"⟩
abbrev cX4_draw : ByteArray := prog_1_method_33_code
def yX4_draw : MethodName := ⟨RX4, "draw", "(IIIII)I"⟩
abbrev cX4_firstFault : ByteArray := prog_1_method_34_code
def yX4_firstFault : MethodName := ⟨RX4, "firstFault", "(LLooksTogether$Sheet;III)I"⟩
abbrev cX4_count : ByteArray := prog_1_method_35_code
def yX4_count : MethodName := ⟨RX4, "count", "(I)I"⟩
abbrev cX4_isSheet : ByteArray := prog_1_method_36_code
def yX4_isSheet : MethodName := ⟨RX4, "isSheet", "(I)Z"⟩
abbrev cX4_isLane : ByteArray := prog_1_method_37_code
def yX4_isLane : MethodName := ⟨RX4, "isLane", "(I)Z"⟩
def RX5 : String := "LooksTogetherModel"
def TX5 : u_T := fun k => match k with
  | 0 => ("LooksTogetherModel", "looks", "I", false)
  | 1 => ("LooksTogetherModel", "sets", "I", false)
  | 2 => ("LooksTogetherModel", "some", "[I", true)
  | 3 => ("LooksTogetherModel", "parities", "[I", true)
  | 4 => ("LooksTogetherModel", "weights", "[I", true)
  | 5 => ("LooksTogetherModel", "stakes", "[I", true)
  | 6 => ("LooksTogetherModel", "left", "[I", true)
  | 7 => ("LooksTogetherModel", "row", "[I", true)
  | 8 => ("LooksTogetherModel", "tried", "I", false)
  | 9 => ("LooksTogetherModel", "rays", "I", false)
  | 10 => ("LooksTogetherModel", "xs", "[I", true)
  | 11 => ("LooksTogetherModel", "ys", "[I", true)
  | 12 => ("LooksTogetherModel", "zs", "[I", true)
  | 13 => ("LooksTogetherModel", "squares", "[I", true)
  | 14 => ("LooksTogetherModel", "threes", "[I", true)
  | 15 => ("LooksTogetherModel", "threeMany", "I", false)
  | 16 => ("LooksTogetherModel", "lanes", "[I", true)
  | 17 => ("LooksTogetherModel", "sizes", "[I", true)
  | _ => ("LooksTogetherModel", "cells", "[I", true)
def tyX5 : Nat → FieldType := fun k => match k with
  | 0 => .int
  | 1 => .int
  | 2 => .array .int
  | 3 => .array .int
  | 4 => .array .int
  | 5 => .array .int
  | 6 => .array .int
  | 7 => .array .int
  | 8 => .int
  | 9 => .int
  | 10 => .array .int
  | 11 => .array .int
  | 12 => .array .int
  | 13 => .array .int
  | 14 => .array .int
  | 15 => .int
  | 16 => .array .int
  | 17 => .array .int
  | _ => .array .int
abbrev wsX50 : List Cond := u_ws RX5 TX5 19
theorem nmX5 : ∀ a, a < 19 → ∀ b, b < 19 → a ≠ b → (TX5 a).2.1 ≠ (TX5 b).2.1 := by decide +kernel
theorem tyX5_ok : ∀ k, k < 19 → parseFieldDescriptor (TX5 k).2.2.1 = some (tyX5 k) := by decide +kernel
abbrev cX5_init : ByteArray := prog_7_method_1_code
def yX5_init : MethodName := ⟨RX5, "<init>", "()V"⟩
abbrev cX5_in : ByteArray := prog_7_method_3_code
def yX5_in : MethodName := ⟨RX5, "in", "(JJJ)Z"⟩
abbrev cX5_bits : ByteArray := prog_7_method_4_code
def yX5_bits : MethodName := ⟨RX5, "bits", "(I)I"⟩
abbrev cX5_isSet : ByteArray := prog_7_method_5_code
def yX5_isSet : MethodName := ⟨RX5, "isSet", "(I)Z"⟩
abbrev cX5_isJoint : ByteArray := prog_7_method_6_code
def yX5_isJoint : MethodName := ⟨RX5, "isJoint", "(II)Z"⟩
abbrev cX5_hiddenMany : ByteArray := prog_7_method_7_code
def yX5_hiddenMany : MethodName := ⟨RX5, "hiddenMany", "()I"⟩
abbrev cX5_looks : ByteArray := prog_7_method_8_code
def yX5_looks : MethodName := ⟨RX5, "looks", "(I)I"⟩
abbrev cX5_put : ByteArray := prog_7_method_9_code
def yX5_put : MethodName := ⟨RX5, "put", "(I)I"⟩
abbrev cX5_drop : ByteArray := prog_7_method_10_code
def yX5_drop : MethodName := ⟨RX5, "drop", "()I"⟩
abbrev cX5_sumOf : ByteArray := prog_7_method_11_code
def yX5_sumOf : MethodName := ⟨RX5, "sumOf", "(I)I"⟩
abbrev cX5_told : ByteArray := prog_7_method_12_code
def yX5_told : MethodName := ⟨RX5, "told", "(II)I"⟩
abbrev cX5_weight : ByteArray := prog_7_method_13_code
def yX5_weight : MethodName := ⟨RX5, "weight", "(III)I"⟩
abbrev cX5_stake : ByteArray := prog_7_method_14_code
def yX5_stake : MethodName := ⟨RX5, "stake", "(III)I"⟩
abbrev cX5_parity : ByteArray := prog_7_method_15_code
def yX5_parity : MethodName := ⟨RX5, "parity", "(II)I"⟩
abbrev cX5_jointOf : ByteArray := prog_7_method_16_code
def yX5_jointOf : MethodName := ⟨RX5, "jointOf", "(II)I"⟩
abbrev cX5_joint : ByteArray := prog_7_method_17_code
def yX5_joint : MethodName := ⟨RX5, "joint", "(II)I"⟩
abbrev cX5_sumBy : ByteArray := prog_7_method_18_code
def yX5_sumBy : MethodName := ⟨RX5, "sumBy", "(III)I"⟩
abbrev cX5_areUnlike : ByteArray := prog_7_method_19_code
def yX5_areUnlike : MethodName := ⟨RX5, "areUnlike", "(II)Z"⟩
abbrev cX5_findQuarrel : ByteArray := prog_7_method_20_code
def yX5_findQuarrel : MethodName := ⟨RX5, "findQuarrel", "()I"⟩
abbrev cX5_agrees : ByteArray := prog_7_method_21_code
def yX5_agrees : MethodName := ⟨RX5, "agrees", "()I"⟩
abbrev cX5_quarrel : ByteArray := prog_7_method_22_code
def yX5_quarrel : MethodName := ⟨RX5, "quarrel", "()I"⟩
abbrev cX5_isPossible : ByteArray := prog_7_method_23_code
def yX5_isPossible : MethodName := ⟨RX5, "isPossible", "(I)Z"⟩
abbrev cX5_possible : ByteArray := prog_7_method_24_code
def yX5_possible : MethodName := ⟨RX5, "possible", "(I)I"⟩
abbrev cX5_isLost : ByteArray := prog_7_method_25_code
def yX5_isLost : MethodName := ⟨RX5, "isLost", "(II)Z"⟩
abbrev cX5_lost : ByteArray := prog_7_method_26_code
def yX5_lost : MethodName := ⟨RX5, "lost", "(I)I"⟩
abbrev cX5_stakeOf : ByteArray := prog_7_method_27_code
def yX5_stakeOf : MethodName := ⟨RX5, "stakeOf", "(I)I"⟩
abbrev cX5_bestOf : ByteArray := prog_7_method_28_code
def yX5_bestOf : MethodName := ⟨RX5, "bestOf", "()I"⟩
abbrev cX5_bound : ByteArray := prog_7_method_29_code
def yX5_bound : MethodName := ⟨RX5, "bound", "()I"⟩
abbrev cX5_best : ByteArray := prog_7_method_30_code
def yX5_best : MethodName := ⟨RX5, "best", "()I"⟩
abbrev cX5_worthOf : ByteArray := prog_7_method_31_code
def yX5_worthOf : MethodName := ⟨RX5, "worthOf", "()I"⟩
abbrev cX5_worth : ByteArray := prog_7_method_32_code
def yX5_worth : MethodName := ⟨RX5, "worth", "()I"⟩
abbrev cX5_beyond : ByteArray := prog_7_method_33_code
def yX5_beyond : MethodName := ⟨RX5, "beyond", "()I"⟩
abbrev cX5_isPartable : ByteArray := prog_7_method_34_code
def yX5_isPartable : MethodName := ⟨RX5, "isPartable", "()Z"⟩
abbrev cX5_canStand : ByteArray := prog_7_method_35_code
def yX5_canStand : MethodName := ⟨RX5, "canStand", "(I)Z"⟩
abbrev cX5_stands : ByteArray := prog_7_method_36_code
def yX5_stands : MethodName := ⟨RX5, "stands", "(II)V"⟩
abbrev cX5_search : ByteArray := prog_7_method_37_code
def yX5_search : MethodName := ⟨RX5, "search", "()I"⟩
abbrev cX5_parted : ByteArray := prog_7_method_38_code
def yX5_parted : MethodName := ⟨RX5, "parted", "()I"⟩
abbrev cX5_part : ByteArray := prog_7_method_39_code
def yX5_part : MethodName := ⟨RX5, "part", "(I)I"⟩
abbrev cX5_mix : ByteArray := prog_7_method_40_code
def yX5_mix : MethodName := ⟨RX5, "mix", "(I)I"⟩
abbrev cX5_fulfil : ByteArray := prog_7_method_41_code
def yX5_fulfil : MethodName := ⟨RX5, "fulfil", "()I"⟩
abbrev cX5_isProof : ByteArray := prog_7_method_42_code
def yX5_isProof : MethodName := ⟨RX5, "isProof", "(I)Z"⟩
abbrev cX5_proof : ByteArray := prog_7_method_43_code
def yX5_proof : MethodName := ⟨RX5, "proof", "()I"⟩
abbrev cX5_ray : ByteArray := prog_7_method_44_code
def yX5_ray : MethodName := ⟨RX5, "ray", "(III)I"⟩
abbrev cX5_cut : ByteArray := prog_7_method_45_code
def yX5_cut : MethodName := ⟨RX5, "cut", "()I"⟩
abbrev cX5_areSquare : ByteArray := prog_7_method_46_code
def yX5_areSquare : MethodName := ⟨RX5, "areSquare", "(II)Z"⟩
abbrev cX5_squareOf : ByteArray := prog_7_method_47_code
def yX5_squareOf : MethodName := ⟨RX5, "squareOf", "(I)I"⟩
abbrev cX5_square : ByteArray := prog_7_method_48_code
def yX5_square : MethodName := ⟨RX5, "square", "(I)I"⟩
abbrev cX5_findThrees : ByteArray := prog_7_method_49_code
def yX5_findThrees : MethodName := ⟨RX5, "findThrees", "()I"⟩
abbrev cX5_isColour : ByteArray := prog_7_method_50_code
def yX5_isColour : MethodName := ⟨RX5, "isColour", "(I)Z"⟩
abbrev cX5_colours : ByteArray := prog_7_method_51_code
def yX5_colours : MethodName := ⟨RX5, "colours", "(I)I"⟩
abbrev cX5_isSheet : ByteArray := prog_7_method_52_code
def yX5_isSheet : MethodName := ⟨RX5, "isSheet", "(II)Z"⟩
abbrev cX5_sheet : ByteArray := prog_7_method_53_code
def yX5_sheet : MethodName := ⟨RX5, "sheet", "(III)I"⟩
abbrev cX5_lay : ByteArray := prog_7_method_54_code
def yX5_lay : MethodName := ⟨RX5, "lay", "(III)I"⟩
abbrev cX5_draw : ByteArray := prog_7_method_55_code
def yX5_draw : MethodName := ⟨RX5, "draw", "(IIIII)I"⟩
abbrev cX5_count : ByteArray := prog_7_method_56_code
def yX5_count : MethodName := ⟨RX5, "count", "(I)I"⟩
def RJ6 : String := "java/lang/Integer"
def TJ6 : u_T := fun k => match k with
  | _ => ("", "", "", false)
def tyJ6 : Nat → FieldType := fun k => match k with
  | _ => .int
abbrev wsJ60 : List Cond := u_ws RJ6 TJ6 0
theorem nmJ6 : ∀ a, a < 0 → ∀ b, b < 0 → a ≠ b → (TJ6 a).2.1 ≠ (TJ6 b).2.1 := by decide +kernel
theorem tyJ6_ok : ∀ k, k < 0 → parseFieldDescriptor (TJ6 k).2.2.1 = some (tyJ6 k) := by decide +kernel
abbrev cJ6_bitCount_0f7a4 : ByteArray := prog_8_method_49_code
def yJ6_bitCount_0f7a4 : MethodName := ⟨RJ6, "bitCount", "(I)I"⟩
def RJ9 : String := "java/lang/Math"
def TJ9 : u_T := fun k => match k with
  | _ => ("", "", "", false)
def tyJ9 : Nat → FieldType := fun k => match k with
  | _ => .int
abbrev wsJ90 : List Cond := u_ws RJ9 TJ9 0
theorem nmJ9 : ∀ a, a < 0 → ∀ b, b < 0 → a ≠ b → (TJ9 a).2.1 ≠ (TJ9 b).2.1 := by decide +kernel
theorem tyJ9_ok : ∀ k, k < 0 → parseFieldDescriptor (TJ9 k).2.2.1 = some (tyJ9 k) := by decide +kernel
abbrev cJ9_max_7cf53 : ByteArray := prog_9_method_65_code
def yJ9_max_7cf53 : MethodName := ⟨RJ9, "max", "(II)I"⟩
abbrev cJ9_min_7cf53 : ByteArray := prog_9_method_69_code
def yJ9_min_7cf53 : MethodName := ⟨RJ9, "min", "(II)I"⟩
def RJ10 : String := "java/lang/System"
def TJ10 : u_T := fun k => match k with
  | _ => ("", "", "", false)
def tyJ10 : Nat → FieldType := fun k => match k with
  | _ => .int
abbrev wsJ100 : List Cond := u_ws RJ10 TJ10 0
theorem nmJ10 : ∀ a, a < 0 → ∀ b, b < 0 → a ≠ b → (TJ10 a).2.1 ≠ (TJ10 b).2.1 := by decide +kernel
theorem tyJ10_ok : ∀ k, k < 0 → parseFieldDescriptor (TJ10 k).2.2.1 = some (tyJ10 k) := by decide +kernel
def RJ7 : String := "java/util/Arrays"
def TJ7 : u_T := fun k => match k with
  | _ => ("", "", "", false)
def tyJ7 : Nat → FieldType := fun k => match k with
  | _ => .int
abbrev wsJ70 : List Cond := u_ws RJ7 TJ7 0
theorem nmJ7 : ∀ a, a < 0 → ∀ b, b < 0 → a ≠ b → (TJ7 a).2.1 ≠ (TJ7 b).2.1 := by decide +kernel
theorem tyJ7_ok : ∀ k, k < 0 → parseFieldDescriptor (TJ7 k).2.2.1 = some (tyJ7 k) := by decide +kernel
abbrev cJ7_fill_53178 : ByteArray := prog_11_method_103_code
def yJ7_fill_53178 : MethodName := ⟨RJ7, "fill", "([II)V"⟩
def RL : String := "LooksTogetherLaw"
abbrev cL_law : ByteArray := code
def yL_law : MethodName := ⟨RL, "law", "([I)Z"⟩
end
section
theorem dX0_init_0 : decode cX0_init 0 = .ok (.aload_n 0, 1) := by decide +kernel
theorem dX0_init_1 : decode cX0_init 1 = .ok (.invokespecial 3, 3) := by decide +kernel
theorem dX0_init_4 : decode cX0_init 4 = .ok (.aload_n 0, 1) := by decide +kernel
theorem dX0_init_5 : decode cX0_init 5 = .ok (.bipush 24, 2) := by decide +kernel
theorem dX0_init_7 : decode cX0_init 7 = .ok (.newarray .int, 2) := by decide +kernel
theorem dX0_init_9 : decode cX0_init 9 = .ok (.putfield 9, 3) := by decide +kernel
theorem dX0_init_12 : decode cX0_init 12 = .ok (.aload_n 0, 1) := by decide +kernel
theorem dX0_init_13 : decode cX0_init 13 = .ok (.bipush 64, 2) := by decide +kernel
theorem dX0_init_15 : decode cX0_init 15 = .ok (.newarray .int, 2) := by decide +kernel
theorem dX0_init_17 : decode cX0_init 17 = .ok (.putfield 15, 3) := by decide +kernel
theorem dX0_init_20 : decode cX0_init 20 = .ok (.aload_n 0, 1) := by decide +kernel
theorem dX0_init_21 : decode cX0_init 21 = .ok (.iconst 0, 1) := by decide +kernel
theorem dX0_init_22 : decode cX0_init 22 = .ok (.putfield 18, 3) := by decide +kernel
theorem dX0_init_25 : decode cX0_init 25 = .ok (.aload_n 0, 1) := by decide +kernel
theorem dX0_init_26 : decode cX0_init 26 = .ok (.iconst 0, 1) := by decide +kernel
theorem dX0_init_27 : decode cX0_init 27 = .ok (.putfield 22, 3) := by decide +kernel
theorem dX0_init_30 : decode cX0_init 30 = .ok (.aload_n 0, 1) := by decide +kernel
theorem dX0_init_31 : decode cX0_init 31 = .ok (.iconst 0, 1) := by decide +kernel
theorem dX0_init_32 : decode cX0_init 32 = .ok (.putfield 25, 3) := by decide +kernel
theorem dX0_init_35 : decode cX0_init 35 = .ok (.aload_n 0, 1) := by decide +kernel
theorem dX0_init_36 : decode cX0_init 36 = .ok (.iconst (-1), 1) := by decide +kernel
theorem dX0_init_37 : decode cX0_init 37 = .ok (.putfield 28, 3) := by decide +kernel
theorem dX0_init_40 : decode cX0_init 40 = .ok (.return_, 1) := by decide +kernel
theorem dX0_search_0 : decode cX0_search 0 = .ok (.aload_n 0, 1) := by decide +kernel
theorem dX0_search_1 : decode cX0_search 1 = .ok (.getfield 28, 3) := by decide +kernel
theorem dX0_search_4 : decode cX0_search 4 = .ok (.aload_n 1, 1) := by decide +kernel
theorem dX0_search_5 : decode cX0_search 5 = .ok (.getfield 31, 3) := by decide +kernel
theorem dX0_search_8 : decode cX0_search 8 = .ok (.if_icmp .ne 4, 3) := by decide +kernel
theorem dX0_search_11 : decode cX0_search 11 = .ok (.return_, 1) := by decide +kernel
theorem dX0_search_12 : decode cX0_search 12 = .ok (.aload_n 0, 1) := by decide +kernel
theorem dX0_search_13 : decode cX0_search 13 = .ok (.aload_n 1, 1) := by decide +kernel
theorem dX0_search_14 : decode cX0_search 14 = .ok (.getfield 31, 3) := by decide +kernel
theorem dX0_search_17 : decode cX0_search 17 = .ok (.putfield 28, 3) := by decide +kernel
theorem dX0_search_20 : decode cX0_search 20 = .ok (.aload_n 0, 1) := by decide +kernel
theorem dX0_search_21 : decode cX0_search 21 = .ok (.aload_n 1, 1) := by decide +kernel
theorem dX0_search_22 : decode cX0_search 22 = .ok (.iconst 0, 1) := by decide +kernel
theorem dX0_search_23 : decode cX0_search 23 = .ok (.invokevirtual 36, 3) := by decide +kernel
theorem dX0_search_26 : decode cX0_search 26 = .ok (.bipush 24, 2) := by decide +kernel
theorem dX0_search_28 : decode cX0_search 28 = .ok (.invokestatic 40, 3) := by decide +kernel
theorem dX0_search_31 : decode cX0_search 31 = .ok (.putfield 18, 3) := by decide +kernel
theorem dX0_search_34 : decode cX0_search 34 = .ok (.aload_n 0, 1) := by decide +kernel
theorem dX0_search_35 : decode cX0_search 35 = .ok (.iconst 0, 1) := by decide +kernel
theorem dX0_search_36 : decode cX0_search 36 = .ok (.putfield 22, 3) := by decide +kernel
theorem dX0_search_39 : decode cX0_search 39 = .ok (.aload_n 1, 1) := by decide +kernel
theorem dX0_search_40 : decode cX0_search 40 = .ok (.getfield 46, 3) := by decide +kernel
theorem dX0_search_43 : decode cX0_search 43 = .ok (.iconst 0, 1) := by decide +kernel
theorem dX0_search_44 : decode cX0_search 44 = .ok (.aload_n 0, 1) := by decide +kernel
theorem dX0_search_45 : decode cX0_search 45 = .ok (.getfield 15, 3) := by decide +kernel
theorem dX0_search_48 : decode cX0_search 48 = .ok (.iconst 0, 1) := by decide +kernel
theorem dX0_search_49 : decode cX0_search 49 = .ok (.aload_n 0, 1) := by decide +kernel
theorem dX0_search_50 : decode cX0_search 50 = .ok (.getfield 15, 3) := by decide +kernel
theorem dX0_search_53 : decode cX0_search 53 = .ok (.arraylength, 1) := by decide +kernel
theorem dX0_search_54 : decode cX0_search 54 = .ok (.invokestatic 49, 3) := by decide +kernel
theorem dX0_search_57 : decode cX0_search 57 = .ok (.aload_n 0, 1) := by decide +kernel
theorem dX0_search_58 : decode cX0_search 58 = .ok (.aload_n 0, 1) := by decide +kernel
theorem dX0_search_59 : decode cX0_search 59 = .ok (.aload_n 1, 1) := by decide +kernel
theorem dX0_search_60 : decode cX0_search 60 = .ok (.invokevirtual 55, 3) := by decide +kernel
theorem dX0_search_63 : decode cX0_search 63 = .ok (.putfield 25, 3) := by decide +kernel
theorem dX0_search_66 : decode cX0_search 66 = .ok (.return_, 1) := by decide +kernel
theorem dX0_findRow_0 : decode cX0_findRow 0 = .ok (.iconst 0, 1) := by decide +kernel
theorem dX0_findRow_1 : decode cX0_findRow 1 = .ok (.istore_n 2, 1) := by decide +kernel
theorem dX0_findRow_2 : decode cX0_findRow 2 = .ok (.iconst 0, 1) := by decide +kernel
theorem dX0_findRow_3 : decode cX0_findRow 3 = .ok (.istore_n 3, 1) := by decide +kernel
theorem dX0_findRow_4 : decode cX0_findRow 4 = .ok (.iconst 0, 1) := by decide +kernel
theorem dX0_findRow_5 : decode cX0_findRow 5 = .ok (.istore 4, 2) := by decide +kernel
theorem dX0_findRow_7 : decode cX0_findRow 7 = .ok (.iload 4, 2) := by decide +kernel
theorem dX0_findRow_9 : decode cX0_findRow 9 = .ok (.ldc 59, 2) := by decide +kernel
theorem dX0_findRow_11 : decode cX0_findRow 11 = .ok (.if_icmp .gt 113, 3) := by decide +kernel
theorem dX0_findRow_14 : decode cX0_findRow 14 = .ok (.iload_n 2, 1) := by decide +kernel
theorem dX0_findRow_15 : decode cX0_findRow 15 = .ok (.aload_n 0, 1) := by decide +kernel
theorem dX0_findRow_16 : decode cX0_findRow 16 = .ok (.getfield 18, 3) := by decide +kernel
theorem dX0_findRow_19 : decode cX0_findRow 19 = .ok (.if_icmp .ge 105, 3) := by decide +kernel
theorem dX0_findRow_22 : decode cX0_findRow 22 = .ok (.iload_n 3, 1) := by decide +kernel
theorem dX0_findRow_23 : decode cX0_findRow 23 = .ok (.aload_n 1, 1) := by decide +kernel
theorem dX0_findRow_24 : decode cX0_findRow 24 = .ok (.invokevirtual 60, 3) := by decide +kernel
theorem dX0_findRow_27 : decode cX0_findRow 27 = .ok (.if_icmp .lt 36, 3) := by decide +kernel
theorem dX0_findRow_30 : decode cX0_findRow 30 = .ok (.iload_n 2, 1) := by decide +kernel
theorem dX0_findRow_31 : decode cX0_findRow 31 = .ok (.ifCond .ne 5, 3) := by decide +kernel
theorem dX0_findRow_34 : decode cX0_findRow 34 = .ok (.iconst 0, 1) := by decide +kernel
theorem dX0_findRow_35 : decode cX0_findRow 35 = .ok (.ireturn, 1) := by decide +kernel
theorem dX0_findRow_36 : decode cX0_findRow 36 = .ok (.iinc 2 (-1), 3) := by decide +kernel
theorem dX0_findRow_39 : decode cX0_findRow 39 = .ok (.aload_n 0, 1) := by decide +kernel
theorem dX0_findRow_40 : decode cX0_findRow 40 = .ok (.aload_n 1, 1) := by decide +kernel
theorem dX0_findRow_41 : decode cX0_findRow 41 = .ok (.aload_n 0, 1) := by decide +kernel
theorem dX0_findRow_42 : decode cX0_findRow 42 = .ok (.getfield 9, 3) := by decide +kernel
theorem dX0_findRow_45 : decode cX0_findRow 45 = .ok (.iload_n 2, 1) := by decide +kernel
theorem dX0_findRow_46 : decode cX0_findRow 46 = .ok (.iaload, 1) := by decide +kernel
theorem dX0_findRow_47 : decode cX0_findRow 47 = .ok (.iconst 1, 1) := by decide +kernel
theorem dX0_findRow_48 : decode cX0_findRow 48 = .ok (.invokevirtual 64, 3) := by decide +kernel
theorem dX0_findRow_51 : decode cX0_findRow 51 = .ok (.aload_n 0, 1) := by decide +kernel
theorem dX0_findRow_52 : decode cX0_findRow 52 = .ok (.getfield 9, 3) := by decide +kernel
theorem dX0_findRow_55 : decode cX0_findRow 55 = .ok (.iload_n 2, 1) := by decide +kernel
theorem dX0_findRow_56 : decode cX0_findRow 56 = .ok (.iaload, 1) := by decide +kernel
theorem dX0_findRow_57 : decode cX0_findRow 57 = .ok (.iconst 1, 1) := by decide +kernel
theorem dX0_findRow_58 : decode cX0_findRow 58 = .ok (.iadd, 1) := by decide +kernel
theorem dX0_findRow_59 : decode cX0_findRow 59 = .ok (.istore_n 3, 1) := by decide +kernel
theorem dX0_findRow_60 : decode cX0_findRow 60 = .ok (.goto 58, 3) := by decide +kernel
theorem dX0_findRow_63 : decode cX0_findRow 63 = .ok (.aload_n 0, 1) := by decide +kernel
theorem dX0_findRow_64 : decode cX0_findRow 64 = .ok (.getfield 22, 3) := by decide +kernel
theorem dX0_findRow_67 : decode cX0_findRow 67 = .ok (.sipush 20000, 3) := by decide +kernel
theorem dX0_findRow_70 : decode cX0_findRow 70 = .ok (.if_icmp .ne 6, 3) := by decide +kernel
theorem dX0_findRow_73 : decode cX0_findRow 73 = .ok (.bipush (-6), 2) := by decide +kernel
theorem dX0_findRow_75 : decode cX0_findRow 75 = .ok (.ireturn, 1) := by decide +kernel
theorem dX0_findRow_76 : decode cX0_findRow 76 = .ok (.aload_n 0, 1) := by decide +kernel
theorem dX0_findRow_77 : decode cX0_findRow 77 = .ok (.dup, 1) := by decide +kernel
theorem dX0_findRow_78 : decode cX0_findRow 78 = .ok (.getfield 22, 3) := by decide +kernel
theorem dX0_findRow_81 : decode cX0_findRow 81 = .ok (.iconst 1, 1) := by decide +kernel
theorem dX0_findRow_82 : decode cX0_findRow 82 = .ok (.iadd, 1) := by decide +kernel
theorem dX0_findRow_83 : decode cX0_findRow 83 = .ok (.putfield 22, 3) := by decide +kernel
theorem dX0_findRow_86 : decode cX0_findRow 86 = .ok (.aload_n 0, 1) := by decide +kernel
theorem dX0_findRow_87 : decode cX0_findRow 87 = .ok (.aload_n 1, 1) := by decide +kernel
theorem dX0_findRow_88 : decode cX0_findRow 88 = .ok (.iload_n 3, 1) := by decide +kernel
theorem dX0_findRow_89 : decode cX0_findRow 89 = .ok (.invokevirtual 68, 3) := by decide +kernel
theorem dX0_findRow_92 : decode cX0_findRow 92 = .ok (.ifCond .eq 23, 3) := by decide +kernel
theorem dX0_findRow_95 : decode cX0_findRow 95 = .ok (.aload_n 0, 1) := by decide +kernel
theorem dX0_findRow_96 : decode cX0_findRow 96 = .ok (.aload_n 1, 1) := by decide +kernel
theorem dX0_findRow_97 : decode cX0_findRow 97 = .ok (.iload_n 3, 1) := by decide +kernel
theorem dX0_findRow_98 : decode cX0_findRow 98 = .ok (.iconst (-1), 1) := by decide +kernel
theorem dX0_findRow_99 : decode cX0_findRow 99 = .ok (.invokevirtual 64, 3) := by decide +kernel
theorem dX0_findRow_102 : decode cX0_findRow 102 = .ok (.aload_n 0, 1) := by decide +kernel
theorem dX0_findRow_103 : decode cX0_findRow 103 = .ok (.getfield 9, 3) := by decide +kernel
theorem dX0_findRow_106 : decode cX0_findRow 106 = .ok (.iload_n 2, 1) := by decide +kernel
theorem dX0_findRow_107 : decode cX0_findRow 107 = .ok (.iload_n 3, 1) := by decide +kernel
theorem dX0_findRow_108 : decode cX0_findRow 108 = .ok (.iastore, 1) := by decide +kernel
theorem dX0_findRow_109 : decode cX0_findRow 109 = .ok (.iinc 2 1, 3) := by decide +kernel
theorem dX0_findRow_112 : decode cX0_findRow 112 = .ok (.goto 6, 3) := by decide +kernel
theorem dX0_findRow_115 : decode cX0_findRow 115 = .ok (.iinc 3 1, 3) := by decide +kernel
theorem dX0_findRow_118 : decode cX0_findRow 118 = .ok (.iinc 4 1, 3) := by decide +kernel
theorem dX0_findRow_121 : decode cX0_findRow 121 = .ok (.goto (-114), 3) := by decide +kernel
theorem dX0_findRow_124 : decode cX0_findRow 124 = .ok (.iload_n 2, 1) := by decide +kernel
theorem dX0_findRow_125 : decode cX0_findRow 125 = .ok (.aload_n 0, 1) := by decide +kernel
theorem dX0_findRow_126 : decode cX0_findRow 126 = .ok (.getfield 18, 3) := by decide +kernel
theorem dX0_findRow_129 : decode cX0_findRow 129 = .ok (.if_icmp .ne 7, 3) := by decide +kernel
theorem dX0_findRow_132 : decode cX0_findRow 132 = .ok (.iconst 1, 1) := by decide +kernel
theorem dX0_findRow_133 : decode cX0_findRow 133 = .ok (.goto 5, 3) := by decide +kernel
theorem dX0_findRow_136 : decode cX0_findRow 136 = .ok (.bipush (-6), 2) := by decide +kernel
theorem dX0_findRow_138 : decode cX0_findRow 138 = .ok (.ireturn, 1) := by decide +kernel
theorem dX0_fits_0 : decode cX0_fits 0 = .ok (.iconst 0, 1) := by decide +kernel
theorem dX0_fits_1 : decode cX0_fits 1 = .ok (.istore_n 3, 1) := by decide +kernel
theorem dX0_fits_2 : decode cX0_fits 2 = .ok (.iload_n 3, 1) := by decide +kernel
theorem dX0_fits_3 : decode cX0_fits 3 = .ok (.aload_n 1, 1) := by decide +kernel
theorem dX0_fits_4 : decode cX0_fits 4 = .ok (.getfield 72, 3) := by decide +kernel
theorem dX0_fits_7 : decode cX0_fits 7 = .ok (.if_icmp .ge 25, 3) := by decide +kernel
theorem dX0_fits_10 : decode cX0_fits 10 = .ok (.aload_n 0, 1) := by decide +kernel
theorem dX0_fits_11 : decode cX0_fits 11 = .ok (.getfield 15, 3) := by decide +kernel
theorem dX0_fits_14 : decode cX0_fits 14 = .ok (.aload_n 1, 1) := by decide +kernel
theorem dX0_fits_15 : decode cX0_fits 15 = .ok (.iload_n 3, 1) := by decide +kernel
theorem dX0_fits_16 : decode cX0_fits 16 = .ok (.iload_n 2, 1) := by decide +kernel
theorem dX0_fits_17 : decode cX0_fits 17 = .ok (.invokevirtual 75, 3) := by decide +kernel
theorem dX0_fits_20 : decode cX0_fits 20 = .ok (.iaload, 1) := by decide +kernel
theorem dX0_fits_21 : decode cX0_fits 21 = .ok (.ifCond .ne 5, 3) := by decide +kernel
theorem dX0_fits_24 : decode cX0_fits 24 = .ok (.iconst 0, 1) := by decide +kernel
theorem dX0_fits_25 : decode cX0_fits 25 = .ok (.ireturn, 1) := by decide +kernel
theorem dX0_fits_26 : decode cX0_fits 26 = .ok (.iinc 3 1, 3) := by decide +kernel
theorem dX0_fits_29 : decode cX0_fits 29 = .ok (.goto (-27), 3) := by decide +kernel
theorem dX0_fits_32 : decode cX0_fits 32 = .ok (.iconst 1, 1) := by decide +kernel
theorem dX0_fits_33 : decode cX0_fits 33 = .ok (.ireturn, 1) := by decide +kernel
theorem dX0_change_0 : decode cX0_change 0 = .ok (.iconst 0, 1) := by decide +kernel
theorem dX0_change_1 : decode cX0_change 1 = .ok (.istore 4, 2) := by decide +kernel
theorem dX0_change_3 : decode cX0_change 3 = .ok (.iload 4, 2) := by decide +kernel
theorem dX0_change_5 : decode cX0_change 5 = .ok (.aload_n 1, 1) := by decide +kernel
theorem dX0_change_6 : decode cX0_change 6 = .ok (.getfield 72, 3) := by decide +kernel
theorem dX0_change_9 : decode cX0_change 9 = .ok (.if_icmp .ge 25, 3) := by decide +kernel
theorem dX0_change_12 : decode cX0_change 12 = .ok (.aload_n 0, 1) := by decide +kernel
theorem dX0_change_13 : decode cX0_change 13 = .ok (.getfield 15, 3) := by decide +kernel
theorem dX0_change_16 : decode cX0_change 16 = .ok (.aload_n 1, 1) := by decide +kernel
theorem dX0_change_17 : decode cX0_change 17 = .ok (.iload 4, 2) := by decide +kernel
theorem dX0_change_19 : decode cX0_change 19 = .ok (.iload_n 2, 1) := by decide +kernel
theorem dX0_change_20 : decode cX0_change 20 = .ok (.invokevirtual 75, 3) := by decide +kernel
theorem dX0_change_23 : decode cX0_change 23 = .ok (.dup2, 1) := by decide +kernel
theorem dX0_change_24 : decode cX0_change 24 = .ok (.iaload, 1) := by decide +kernel
theorem dX0_change_25 : decode cX0_change 25 = .ok (.iload_n 3, 1) := by decide +kernel
theorem dX0_change_26 : decode cX0_change 26 = .ok (.iadd, 1) := by decide +kernel
theorem dX0_change_27 : decode cX0_change 27 = .ok (.iastore, 1) := by decide +kernel
theorem dX0_change_28 : decode cX0_change 28 = .ok (.iinc 4 1, 3) := by decide +kernel
theorem dX0_change_31 : decode cX0_change 31 = .ok (.goto (-28), 3) := by decide +kernel
theorem dX0_change_34 : decode cX0_change 34 = .ok (.return_, 1) := by decide +kernel
theorem dX1_init_0 : decode cX1_init 0 = .ok (.aload_n 0, 1) := by decide +kernel
theorem dX1_init_1 : decode cX1_init 1 = .ok (.invokespecial 3, 3) := by decide +kernel
theorem dX1_init_4 : decode cX1_init 4 = .ok (.aload_n 0, 1) := by decide +kernel
theorem dX1_init_5 : decode cX1_init 5 = .ok (.iconst 0, 1) := by decide +kernel
theorem dX1_init_6 : decode cX1_init 6 = .ok (.putfield 9, 3) := by decide +kernel
theorem dX1_init_9 : decode cX1_init 9 = .ok (.aload_n 0, 1) := by decide +kernel
theorem dX1_init_10 : decode cX1_init 10 = .ok (.bipush 12, 2) := by decide +kernel
theorem dX1_init_12 : decode cX1_init 12 = .ok (.newarray .int, 2) := by decide +kernel
theorem dX1_init_14 : decode cX1_init 14 = .ok (.putfield 15, 3) := by decide +kernel
theorem dX1_init_17 : decode cX1_init 17 = .ok (.aload_n 0, 1) := by decide +kernel
theorem dX1_init_18 : decode cX1_init 18 = .ok (.bipush 12, 2) := by decide +kernel
theorem dX1_init_20 : decode cX1_init 20 = .ok (.newarray .int, 2) := by decide +kernel
theorem dX1_init_22 : decode cX1_init 22 = .ok (.putfield 19, 3) := by decide +kernel
theorem dX1_init_25 : decode cX1_init 25 = .ok (.aload_n 0, 1) := by decide +kernel
theorem dX1_init_26 : decode cX1_init 26 = .ok (.bipush 12, 2) := by decide +kernel
theorem dX1_init_28 : decode cX1_init 28 = .ok (.newarray .int, 2) := by decide +kernel
theorem dX1_init_30 : decode cX1_init 30 = .ok (.putfield 22, 3) := by decide +kernel
theorem dX1_init_33 : decode cX1_init 33 = .ok (.aload_n 0, 1) := by decide +kernel
theorem dX1_init_34 : decode cX1_init 34 = .ok (.bipush 12, 2) := by decide +kernel
theorem dX1_init_36 : decode cX1_init 36 = .ok (.newarray .int, 2) := by decide +kernel
theorem dX1_init_38 : decode cX1_init 38 = .ok (.putfield 25, 3) := by decide +kernel
theorem dX1_init_41 : decode cX1_init 41 = .ok (.aload_n 0, 1) := by decide +kernel
theorem dX1_init_42 : decode cX1_init 42 = .ok (.sipush 220, 3) := by decide +kernel
theorem dX1_init_45 : decode cX1_init 45 = .ok (.newarray .int, 2) := by decide +kernel
theorem dX1_init_47 : decode cX1_init 47 = .ok (.putfield 28, 3) := by decide +kernel
theorem dX1_init_50 : decode cX1_init 50 = .ok (.aload_n 0, 1) := by decide +kernel
theorem dX1_init_51 : decode cX1_init 51 = .ok (.iconst 0, 1) := by decide +kernel
theorem dX1_init_52 : decode cX1_init 52 = .ok (.putfield 31, 3) := by decide +kernel
theorem dX1_init_55 : decode cX1_init 55 = .ok (.aload_n 0, 1) := by decide +kernel
theorem dX1_init_56 : decode cX1_init 56 = .ok (.iconst 0, 1) := by decide +kernel
theorem dX1_init_57 : decode cX1_init 57 = .ok (.putfield 35, 3) := by decide +kernel
theorem dX1_init_60 : decode cX1_init 60 = .ok (.aload_n 0, 1) := by decide +kernel
theorem dX1_init_61 : decode cX1_init 61 = .ok (.iconst 0, 1) := by decide +kernel
theorem dX1_init_62 : decode cX1_init 62 = .ok (.putfield 38, 3) := by decide +kernel
theorem dX1_init_65 : decode cX1_init 65 = .ok (.aload_n 0, 1) := by decide +kernel
theorem dX1_init_66 : decode cX1_init 66 = .ok (.iconst 0, 1) := by decide +kernel
theorem dX1_init_67 : decode cX1_init 67 = .ok (.putfield 41, 3) := by decide +kernel
theorem dX1_init_70 : decode cX1_init 70 = .ok (.aload_n 0, 1) := by decide +kernel
theorem dX1_init_71 : decode cX1_init 71 = .ok (.bipush (-4), 2) := by decide +kernel
theorem dX1_init_73 : decode cX1_init 73 = .ok (.putfield 44, 3) := by decide +kernel
theorem dX1_init_76 : decode cX1_init 76 = .ok (.aload_n 0, 1) := by decide +kernel
theorem dX1_init_77 : decode cX1_init 77 = .ok (.bipush (-4), 2) := by decide +kernel
theorem dX1_init_79 : decode cX1_init 79 = .ok (.putfield 47, 3) := by decide +kernel
theorem dX1_init_82 : decode cX1_init 82 = .ok (.return_, 1) := by decide +kernel
theorem dX1_hasMultipleOf_0 : decode cX1_hasMultipleOf 0 = .ok (.iconst 0, 1) := by decide +kernel
theorem dX1_hasMultipleOf_1 : decode cX1_hasMultipleOf 1 = .ok (.istore 4, 2) := by decide +kernel
theorem dX1_hasMultipleOf_3 : decode cX1_hasMultipleOf 3 = .ok (.iload 4, 2) := by decide +kernel
theorem dX1_hasMultipleOf_5 : decode cX1_hasMultipleOf 5 = .ok (.aload_n 0, 1) := by decide +kernel
theorem dX1_hasMultipleOf_6 : decode cX1_hasMultipleOf 6 = .ok (.getfield 9, 3) := by decide +kernel
theorem dX1_hasMultipleOf_9 : decode cX1_hasMultipleOf 9 = .ok (.if_icmp .ge 74, 3) := by decide +kernel
theorem dX1_hasMultipleOf_12 : decode cX1_hasMultipleOf 12 = .ok (.aload_n 0, 1) := by decide +kernel
theorem dX1_hasMultipleOf_13 : decode cX1_hasMultipleOf 13 = .ok (.getfield 15, 3) := by decide +kernel
theorem dX1_hasMultipleOf_16 : decode cX1_hasMultipleOf 16 = .ok (.iload 4, 2) := by decide +kernel
theorem dX1_hasMultipleOf_18 : decode cX1_hasMultipleOf 18 = .ok (.iaload, 1) := by decide +kernel
theorem dX1_hasMultipleOf_19 : decode cX1_hasMultipleOf 19 = .ok (.iload_n 2, 1) := by decide +kernel
theorem dX1_hasMultipleOf_20 : decode cX1_hasMultipleOf 20 = .ok (.imul, 1) := by decide +kernel
theorem dX1_hasMultipleOf_21 : decode cX1_hasMultipleOf 21 = .ok (.aload_n 0, 1) := by decide +kernel
theorem dX1_hasMultipleOf_22 : decode cX1_hasMultipleOf 22 = .ok (.getfield 19, 3) := by decide +kernel
theorem dX1_hasMultipleOf_25 : decode cX1_hasMultipleOf 25 = .ok (.iload 4, 2) := by decide +kernel
theorem dX1_hasMultipleOf_27 : decode cX1_hasMultipleOf 27 = .ok (.iaload, 1) := by decide +kernel
theorem dX1_hasMultipleOf_28 : decode cX1_hasMultipleOf 28 = .ok (.iload_n 1, 1) := by decide +kernel
theorem dX1_hasMultipleOf_29 : decode cX1_hasMultipleOf 29 = .ok (.imul, 1) := by decide +kernel
theorem dX1_hasMultipleOf_30 : decode cX1_hasMultipleOf 30 = .ok (.if_icmp .ne 47, 3) := by decide +kernel
theorem dX1_hasMultipleOf_33 : decode cX1_hasMultipleOf 33 = .ok (.aload_n 0, 1) := by decide +kernel
theorem dX1_hasMultipleOf_34 : decode cX1_hasMultipleOf 34 = .ok (.getfield 15, 3) := by decide +kernel
theorem dX1_hasMultipleOf_37 : decode cX1_hasMultipleOf 37 = .ok (.iload 4, 2) := by decide +kernel
theorem dX1_hasMultipleOf_39 : decode cX1_hasMultipleOf 39 = .ok (.iaload, 1) := by decide +kernel
theorem dX1_hasMultipleOf_40 : decode cX1_hasMultipleOf 40 = .ok (.iload_n 3, 1) := by decide +kernel
theorem dX1_hasMultipleOf_41 : decode cX1_hasMultipleOf 41 = .ok (.imul, 1) := by decide +kernel
theorem dX1_hasMultipleOf_42 : decode cX1_hasMultipleOf 42 = .ok (.aload_n 0, 1) := by decide +kernel
theorem dX1_hasMultipleOf_43 : decode cX1_hasMultipleOf 43 = .ok (.getfield 22, 3) := by decide +kernel
theorem dX1_hasMultipleOf_46 : decode cX1_hasMultipleOf 46 = .ok (.iload 4, 2) := by decide +kernel
theorem dX1_hasMultipleOf_48 : decode cX1_hasMultipleOf 48 = .ok (.iaload, 1) := by decide +kernel
theorem dX1_hasMultipleOf_49 : decode cX1_hasMultipleOf 49 = .ok (.iload_n 1, 1) := by decide +kernel
theorem dX1_hasMultipleOf_50 : decode cX1_hasMultipleOf 50 = .ok (.imul, 1) := by decide +kernel
theorem dX1_hasMultipleOf_51 : decode cX1_hasMultipleOf 51 = .ok (.if_icmp .ne 26, 3) := by decide +kernel
theorem dX1_hasMultipleOf_54 : decode cX1_hasMultipleOf 54 = .ok (.aload_n 0, 1) := by decide +kernel
theorem dX1_hasMultipleOf_55 : decode cX1_hasMultipleOf 55 = .ok (.getfield 19, 3) := by decide +kernel
theorem dX1_hasMultipleOf_58 : decode cX1_hasMultipleOf 58 = .ok (.iload 4, 2) := by decide +kernel
theorem dX1_hasMultipleOf_60 : decode cX1_hasMultipleOf 60 = .ok (.iaload, 1) := by decide +kernel
theorem dX1_hasMultipleOf_61 : decode cX1_hasMultipleOf 61 = .ok (.iload_n 3, 1) := by decide +kernel
theorem dX1_hasMultipleOf_62 : decode cX1_hasMultipleOf 62 = .ok (.imul, 1) := by decide +kernel
theorem dX1_hasMultipleOf_63 : decode cX1_hasMultipleOf 63 = .ok (.aload_n 0, 1) := by decide +kernel
theorem dX1_hasMultipleOf_64 : decode cX1_hasMultipleOf 64 = .ok (.getfield 22, 3) := by decide +kernel
theorem dX1_hasMultipleOf_67 : decode cX1_hasMultipleOf 67 = .ok (.iload 4, 2) := by decide +kernel
theorem dX1_hasMultipleOf_69 : decode cX1_hasMultipleOf 69 = .ok (.iaload, 1) := by decide +kernel
theorem dX1_hasMultipleOf_70 : decode cX1_hasMultipleOf 70 = .ok (.iload_n 2, 1) := by decide +kernel
theorem dX1_hasMultipleOf_71 : decode cX1_hasMultipleOf 71 = .ok (.imul, 1) := by decide +kernel
theorem dX1_hasMultipleOf_72 : decode cX1_hasMultipleOf 72 = .ok (.if_icmp .ne 5, 3) := by decide +kernel
theorem dX1_hasMultipleOf_75 : decode cX1_hasMultipleOf 75 = .ok (.iconst 1, 1) := by decide +kernel
theorem dX1_hasMultipleOf_76 : decode cX1_hasMultipleOf 76 = .ok (.ireturn, 1) := by decide +kernel
theorem dX1_hasMultipleOf_77 : decode cX1_hasMultipleOf 77 = .ok (.iinc 4 1, 3) := by decide +kernel
theorem dX1_hasMultipleOf_80 : decode cX1_hasMultipleOf 80 = .ok (.goto (-77), 3) := by decide +kernel
theorem dX1_hasMultipleOf_83 : decode cX1_hasMultipleOf 83 = .ok (.iconst 0, 1) := by decide +kernel
theorem dX1_hasMultipleOf_84 : decode cX1_hasMultipleOf 84 = .ok (.ireturn, 1) := by decide +kernel
theorem dX1_add_0 : decode cX1_add 0 = .ok (.aload_n 0, 1) := by decide +kernel
theorem dX1_add_1 : decode cX1_add 1 = .ok (.getfield 9, 3) := by decide +kernel
theorem dX1_add_4 : decode cX1_add 4 = .ok (.istore 4, 2) := by decide +kernel
theorem dX1_add_6 : decode cX1_add 6 = .ok (.aload_n 0, 1) := by decide +kernel
theorem dX1_add_7 : decode cX1_add 7 = .ok (.getfield 15, 3) := by decide +kernel
theorem dX1_add_10 : decode cX1_add 10 = .ok (.iload 4, 2) := by decide +kernel
theorem dX1_add_12 : decode cX1_add 12 = .ok (.iload_n 1, 1) := by decide +kernel
theorem dX1_add_13 : decode cX1_add 13 = .ok (.iastore, 1) := by decide +kernel
theorem dX1_add_14 : decode cX1_add 14 = .ok (.aload_n 0, 1) := by decide +kernel
theorem dX1_add_15 : decode cX1_add 15 = .ok (.getfield 19, 3) := by decide +kernel
theorem dX1_add_18 : decode cX1_add 18 = .ok (.iload 4, 2) := by decide +kernel
theorem dX1_add_20 : decode cX1_add 20 = .ok (.iload_n 2, 1) := by decide +kernel
theorem dX1_add_21 : decode cX1_add 21 = .ok (.iastore, 1) := by decide +kernel
theorem dX1_add_22 : decode cX1_add 22 = .ok (.aload_n 0, 1) := by decide +kernel
theorem dX1_add_23 : decode cX1_add 23 = .ok (.getfield 22, 3) := by decide +kernel
theorem dX1_add_26 : decode cX1_add 26 = .ok (.iload 4, 2) := by decide +kernel
theorem dX1_add_28 : decode cX1_add 28 = .ok (.iload_n 3, 1) := by decide +kernel
theorem dX1_add_29 : decode cX1_add 29 = .ok (.iastore, 1) := by decide +kernel
theorem dX1_add_30 : decode cX1_add 30 = .ok (.aload_n 0, 1) := by decide +kernel
theorem dX1_add_31 : decode cX1_add 31 = .ok (.getfield 25, 3) := by decide +kernel
theorem dX1_add_34 : decode cX1_add 34 = .ok (.iload 4, 2) := by decide +kernel
theorem dX1_add_36 : decode cX1_add 36 = .ok (.iconst 0, 1) := by decide +kernel
theorem dX1_add_37 : decode cX1_add 37 = .ok (.iastore, 1) := by decide +kernel
theorem dX1_add_38 : decode cX1_add 38 = .ok (.iconst 0, 1) := by decide +kernel
theorem dX1_add_39 : decode cX1_add 39 = .ok (.istore 5, 2) := by decide +kernel
theorem dX1_add_41 : decode cX1_add 41 = .ok (.iload 5, 2) := by decide +kernel
theorem dX1_add_43 : decode cX1_add 43 = .ok (.iload 4, 2) := by decide +kernel
theorem dX1_add_45 : decode cX1_add 45 = .ok (.if_icmp .ge 69, 3) := by decide +kernel
theorem dX1_add_48 : decode cX1_add 48 = .ok (.aload_n 0, 1) := by decide +kernel
theorem dX1_add_49 : decode cX1_add 49 = .ok (.getfield 15, 3) := by decide +kernel
theorem dX1_add_52 : decode cX1_add 52 = .ok (.iload 5, 2) := by decide +kernel
theorem dX1_add_54 : decode cX1_add 54 = .ok (.iaload, 1) := by decide +kernel
theorem dX1_add_55 : decode cX1_add 55 = .ok (.iload_n 1, 1) := by decide +kernel
theorem dX1_add_56 : decode cX1_add 56 = .ok (.imul, 1) := by decide +kernel
theorem dX1_add_57 : decode cX1_add 57 = .ok (.aload_n 0, 1) := by decide +kernel
theorem dX1_add_58 : decode cX1_add 58 = .ok (.getfield 19, 3) := by decide +kernel
theorem dX1_add_61 : decode cX1_add 61 = .ok (.iload 5, 2) := by decide +kernel
theorem dX1_add_63 : decode cX1_add 63 = .ok (.iaload, 1) := by decide +kernel
theorem dX1_add_64 : decode cX1_add 64 = .ok (.iload_n 2, 1) := by decide +kernel
theorem dX1_add_65 : decode cX1_add 65 = .ok (.imul, 1) := by decide +kernel
theorem dX1_add_66 : decode cX1_add 66 = .ok (.iadd, 1) := by decide +kernel
theorem dX1_add_67 : decode cX1_add 67 = .ok (.aload_n 0, 1) := by decide +kernel
theorem dX1_add_68 : decode cX1_add 68 = .ok (.getfield 22, 3) := by decide +kernel
theorem dX1_add_71 : decode cX1_add 71 = .ok (.iload 5, 2) := by decide +kernel
theorem dX1_add_73 : decode cX1_add 73 = .ok (.iaload, 1) := by decide +kernel
theorem dX1_add_74 : decode cX1_add 74 = .ok (.iload_n 3, 1) := by decide +kernel
theorem dX1_add_75 : decode cX1_add 75 = .ok (.imul, 1) := by decide +kernel
theorem dX1_add_76 : decode cX1_add 76 = .ok (.iadd, 1) := by decide +kernel
theorem dX1_add_77 : decode cX1_add 77 = .ok (.ifCond .ne 31, 3) := by decide +kernel
theorem dX1_add_80 : decode cX1_add 80 = .ok (.aload_n 0, 1) := by decide +kernel
theorem dX1_add_81 : decode cX1_add 81 = .ok (.getfield 25, 3) := by decide +kernel
theorem dX1_add_84 : decode cX1_add 84 = .ok (.iload 4, 2) := by decide +kernel
theorem dX1_add_86 : decode cX1_add 86 = .ok (.dup2, 1) := by decide +kernel
theorem dX1_add_87 : decode cX1_add 87 = .ok (.iaload, 1) := by decide +kernel
theorem dX1_add_88 : decode cX1_add 88 = .ok (.iconst 1, 1) := by decide +kernel
theorem dX1_add_89 : decode cX1_add 89 = .ok (.iload 5, 2) := by decide +kernel
theorem dX1_add_91 : decode cX1_add 91 = .ok (.ishl, 1) := by decide +kernel
theorem dX1_add_92 : decode cX1_add 92 = .ok (.ior, 1) := by decide +kernel
theorem dX1_add_93 : decode cX1_add 93 = .ok (.iastore, 1) := by decide +kernel
theorem dX1_add_94 : decode cX1_add 94 = .ok (.aload_n 0, 1) := by decide +kernel
theorem dX1_add_95 : decode cX1_add 95 = .ok (.getfield 25, 3) := by decide +kernel
theorem dX1_add_98 : decode cX1_add 98 = .ok (.iload 5, 2) := by decide +kernel
theorem dX1_add_100 : decode cX1_add 100 = .ok (.dup2, 1) := by decide +kernel
theorem dX1_add_101 : decode cX1_add 101 = .ok (.iaload, 1) := by decide +kernel
theorem dX1_add_102 : decode cX1_add 102 = .ok (.iconst 1, 1) := by decide +kernel
theorem dX1_add_103 : decode cX1_add 103 = .ok (.iload 4, 2) := by decide +kernel
theorem dX1_add_105 : decode cX1_add 105 = .ok (.ishl, 1) := by decide +kernel
theorem dX1_add_106 : decode cX1_add 106 = .ok (.ior, 1) := by decide +kernel
theorem dX1_add_107 : decode cX1_add 107 = .ok (.iastore, 1) := by decide +kernel
theorem dX1_add_108 : decode cX1_add 108 = .ok (.iinc 5 1, 3) := by decide +kernel
theorem dX1_add_111 : decode cX1_add 111 = .ok (.goto (-70), 3) := by decide +kernel
theorem dX1_add_114 : decode cX1_add 114 = .ok (.aload_n 0, 1) := by decide +kernel
theorem dX1_add_115 : decode cX1_add 115 = .ok (.dup, 1) := by decide +kernel
theorem dX1_add_116 : decode cX1_add 116 = .ok (.getfield 9, 3) := by decide +kernel
theorem dX1_add_119 : decode cX1_add 119 = .ok (.iconst 1, 1) := by decide +kernel
theorem dX1_add_120 : decode cX1_add 120 = .ok (.iadd, 1) := by decide +kernel
theorem dX1_add_121 : decode cX1_add 121 = .ok (.putfield 9, 3) := by decide +kernel
theorem dX1_add_124 : decode cX1_add 124 = .ok (.aload_n 0, 1) := by decide +kernel
theorem dX1_add_125 : decode cX1_add 125 = .ok (.iconst 0, 1) := by decide +kernel
theorem dX1_add_126 : decode cX1_add 126 = .ok (.putfield 31, 3) := by decide +kernel
theorem dX1_add_129 : decode cX1_add 129 = .ok (.iload 4, 2) := by decide +kernel
theorem dX1_add_131 : decode cX1_add 131 = .ok (.ireturn, 1) := by decide +kernel
theorem dX1_removeLatest_0 : decode cX1_removeLatest 0 = .ok (.aload_n 0, 1) := by decide +kernel
theorem dX1_removeLatest_1 : decode cX1_removeLatest 1 = .ok (.dup, 1) := by decide +kernel
theorem dX1_removeLatest_2 : decode cX1_removeLatest 2 = .ok (.getfield 9, 3) := by decide +kernel
theorem dX1_removeLatest_5 : decode cX1_removeLatest 5 = .ok (.iconst 1, 1) := by decide +kernel
theorem dX1_removeLatest_6 : decode cX1_removeLatest 6 = .ok (.isub, 1) := by decide +kernel
theorem dX1_removeLatest_7 : decode cX1_removeLatest 7 = .ok (.putfield 9, 3) := by decide +kernel
theorem dX1_removeLatest_10 : decode cX1_removeLatest 10 = .ok (.iconst 0, 1) := by decide +kernel
theorem dX1_removeLatest_11 : decode cX1_removeLatest 11 = .ok (.istore_n 1, 1) := by decide +kernel
theorem dX1_removeLatest_12 : decode cX1_removeLatest 12 = .ok (.iload_n 1, 1) := by decide +kernel
theorem dX1_removeLatest_13 : decode cX1_removeLatest 13 = .ok (.aload_n 0, 1) := by decide +kernel
theorem dX1_removeLatest_14 : decode cX1_removeLatest 14 = .ok (.getfield 9, 3) := by decide +kernel
theorem dX1_removeLatest_17 : decode cX1_removeLatest 17 = .ok (.if_icmp .ge 26, 3) := by decide +kernel
theorem dX1_removeLatest_20 : decode cX1_removeLatest 20 = .ok (.aload_n 0, 1) := by decide +kernel
theorem dX1_removeLatest_21 : decode cX1_removeLatest 21 = .ok (.getfield 25, 3) := by decide +kernel
theorem dX1_removeLatest_24 : decode cX1_removeLatest 24 = .ok (.iload_n 1, 1) := by decide +kernel
theorem dX1_removeLatest_25 : decode cX1_removeLatest 25 = .ok (.dup2, 1) := by decide +kernel
theorem dX1_removeLatest_26 : decode cX1_removeLatest 26 = .ok (.iaload, 1) := by decide +kernel
theorem dX1_removeLatest_27 : decode cX1_removeLatest 27 = .ok (.iconst 1, 1) := by decide +kernel
theorem dX1_removeLatest_28 : decode cX1_removeLatest 28 = .ok (.aload_n 0, 1) := by decide +kernel
theorem dX1_removeLatest_29 : decode cX1_removeLatest 29 = .ok (.getfield 9, 3) := by decide +kernel
theorem dX1_removeLatest_32 : decode cX1_removeLatest 32 = .ok (.ishl, 1) := by decide +kernel
theorem dX1_removeLatest_33 : decode cX1_removeLatest 33 = .ok (.iconst (-1), 1) := by decide +kernel
theorem dX1_removeLatest_34 : decode cX1_removeLatest 34 = .ok (.ixor, 1) := by decide +kernel
theorem dX1_removeLatest_35 : decode cX1_removeLatest 35 = .ok (.iand, 1) := by decide +kernel
theorem dX1_removeLatest_36 : decode cX1_removeLatest 36 = .ok (.iastore, 1) := by decide +kernel
theorem dX1_removeLatest_37 : decode cX1_removeLatest 37 = .ok (.iinc 1 1, 3) := by decide +kernel
theorem dX1_removeLatest_40 : decode cX1_removeLatest 40 = .ok (.goto (-28), 3) := by decide +kernel
theorem dX1_removeLatest_43 : decode cX1_removeLatest 43 = .ok (.aload_n 0, 1) := by decide +kernel
theorem dX1_removeLatest_44 : decode cX1_removeLatest 44 = .ok (.iconst 0, 1) := by decide +kernel
theorem dX1_removeLatest_45 : decode cX1_removeLatest 45 = .ok (.putfield 31, 3) := by decide +kernel
theorem dX1_removeLatest_48 : decode cX1_removeLatest 48 = .ok (.aload_n 0, 1) := by decide +kernel
theorem dX1_removeLatest_49 : decode cX1_removeLatest 49 = .ok (.getfield 9, 3) := by decide +kernel
theorem dX1_removeLatest_52 : decode cX1_removeLatest 52 = .ok (.ireturn, 1) := by decide +kernel
theorem dX1_judge_0 : decode cX1_judge 0 = .ok (.aload_n 0, 1) := by decide +kernel
theorem dX1_judge_1 : decode cX1_judge 1 = .ok (.getfield 31, 3) := by decide +kernel
theorem dX1_judge_4 : decode cX1_judge 4 = .ok (.ifCond .eq 4, 3) := by decide +kernel
theorem dX1_judge_7 : decode cX1_judge 7 = .ok (.return_, 1) := by decide +kernel
theorem dX1_judge_8 : decode cX1_judge 8 = .ok (.aload_n 0, 1) := by decide +kernel
theorem dX1_judge_9 : decode cX1_judge 9 = .ok (.iconst 1, 1) := by decide +kernel
theorem dX1_judge_10 : decode cX1_judge 10 = .ok (.putfield 31, 3) := by decide +kernel
theorem dX1_judge_13 : decode cX1_judge 13 = .ok (.aload_n 0, 1) := by decide +kernel
theorem dX1_judge_14 : decode cX1_judge 14 = .ok (.invokevirtual 50, 3) := by decide +kernel
theorem dX1_judge_17 : decode cX1_judge 17 = .ok (.aload_n 0, 1) := by decide +kernel
theorem dX1_judge_18 : decode cX1_judge 18 = .ok (.iconst 0, 1) := by decide +kernel
theorem dX1_judge_19 : decode cX1_judge 19 = .ok (.putfield 41, 3) := by decide +kernel
theorem dX1_judge_22 : decode cX1_judge 22 = .ok (.aload_n 0, 1) := by decide +kernel
theorem dX1_judge_23 : decode cX1_judge 23 = .ok (.bipush (-4), 2) := by decide +kernel
theorem dX1_judge_25 : decode cX1_judge 25 = .ok (.putfield 44, 3) := by decide +kernel
theorem dX1_judge_28 : decode cX1_judge 28 = .ok (.aload_n 0, 1) := by decide +kernel
theorem dX1_judge_29 : decode cX1_judge 29 = .ok (.bipush (-4), 2) := by decide +kernel
theorem dX1_judge_31 : decode cX1_judge 31 = .ok (.putfield 47, 3) := by decide +kernel
theorem dX1_judge_34 : decode cX1_judge 34 = .ok (.iconst 0, 1) := by decide +kernel
theorem dX1_judge_35 : decode cX1_judge 35 = .ok (.istore_n 1, 1) := by decide +kernel
theorem dX1_judge_36 : decode cX1_judge 36 = .ok (.iload_n 1, 1) := by decide +kernel
theorem dX1_judge_37 : decode cX1_judge 37 = .ok (.iconst 1, 1) := by decide +kernel
theorem dX1_judge_38 : decode cX1_judge 38 = .ok (.aload_n 0, 1) := by decide +kernel
theorem dX1_judge_39 : decode cX1_judge 39 = .ok (.getfield 9, 3) := by decide +kernel
theorem dX1_judge_42 : decode cX1_judge 42 = .ok (.ishl, 1) := by decide +kernel
theorem dX1_judge_43 : decode cX1_judge 43 = .ok (.if_icmp .ge 61, 3) := by decide +kernel
theorem dX1_judge_46 : decode cX1_judge 46 = .ok (.aload_n 0, 1) := by decide +kernel
theorem dX1_judge_47 : decode cX1_judge 47 = .ok (.iload_n 1, 1) := by decide +kernel
theorem dX1_judge_48 : decode cX1_judge 48 = .ok (.invokevirtual 53, 3) := by decide +kernel
theorem dX1_judge_51 : decode cX1_judge 51 = .ok (.ifCond .eq 47, 3) := by decide +kernel
theorem dX1_judge_54 : decode cX1_judge 54 = .ok (.aload_n 0, 1) := by decide +kernel
theorem dX1_judge_55 : decode cX1_judge 55 = .ok (.aload_n 0, 1) := by decide +kernel
theorem dX1_judge_56 : decode cX1_judge 56 = .ok (.getfield 41, 3) := by decide +kernel
theorem dX1_judge_59 : decode cX1_judge 59 = .ok (.ifCond .ne 7, 3) := by decide +kernel
theorem dX1_judge_62 : decode cX1_judge 62 = .ok (.iload_n 1, 1) := by decide +kernel
theorem dX1_judge_63 : decode cX1_judge 63 = .ok (.goto 7, 3) := by decide +kernel
theorem dX1_judge_66 : decode cX1_judge 66 = .ok (.aload_n 0, 1) := by decide +kernel
theorem dX1_judge_67 : decode cX1_judge 67 = .ok (.getfield 44, 3) := by decide +kernel
theorem dX1_judge_70 : decode cX1_judge 70 = .ok (.putfield 44, 3) := by decide +kernel
theorem dX1_judge_73 : decode cX1_judge 73 = .ok (.aload_n 0, 1) := by decide +kernel
theorem dX1_judge_74 : decode cX1_judge 74 = .ok (.aload_n 0, 1) := by decide +kernel
theorem dX1_judge_75 : decode cX1_judge 75 = .ok (.getfield 47, 3) := by decide +kernel
theorem dX1_judge_78 : decode cX1_judge 78 = .ok (.iload_n 1, 1) := by decide +kernel
theorem dX1_judge_79 : decode cX1_judge 79 = .ok (.invokestatic 57, 3) := by decide +kernel
theorem dX1_judge_82 : decode cX1_judge 82 = .ok (.invokestatic 63, 3) := by decide +kernel
theorem dX1_judge_85 : decode cX1_judge 85 = .ok (.putfield 47, 3) := by decide +kernel
theorem dX1_judge_88 : decode cX1_judge 88 = .ok (.aload_n 0, 1) := by decide +kernel
theorem dX1_judge_89 : decode cX1_judge 89 = .ok (.dup, 1) := by decide +kernel
theorem dX1_judge_90 : decode cX1_judge 90 = .ok (.getfield 41, 3) := by decide +kernel
theorem dX1_judge_93 : decode cX1_judge 93 = .ok (.iconst 1, 1) := by decide +kernel
theorem dX1_judge_94 : decode cX1_judge 94 = .ok (.iadd, 1) := by decide +kernel
theorem dX1_judge_95 : decode cX1_judge 95 = .ok (.putfield 41, 3) := by decide +kernel
theorem dX1_judge_98 : decode cX1_judge 98 = .ok (.iinc 1 1, 3) := by decide +kernel
theorem dX1_judge_101 : decode cX1_judge 101 = .ok (.goto (-65), 3) := by decide +kernel
theorem dX1_judge_104 : decode cX1_judge 104 = .ok (.return_, 1) := by decide +kernel
theorem dX1_findPairsAndThrees_0 : decode cX1_findPairsAndThrees 0 = .ok (.aload_n 0, 1) := by decide +kernel
theorem dX1_findPairsAndThrees_1 : decode cX1_findPairsAndThrees 1 = .ok (.iconst 0, 1) := by decide +kernel
theorem dX1_findPairsAndThrees_2 : decode cX1_findPairsAndThrees 2 = .ok (.putfield 35, 3) := by decide +kernel
theorem dX1_findPairsAndThrees_5 : decode cX1_findPairsAndThrees 5 = .ok (.aload_n 0, 1) := by decide +kernel
theorem dX1_findPairsAndThrees_6 : decode cX1_findPairsAndThrees 6 = .ok (.iconst 0, 1) := by decide +kernel
theorem dX1_findPairsAndThrees_7 : decode cX1_findPairsAndThrees 7 = .ok (.putfield 38, 3) := by decide +kernel
theorem dX1_findPairsAndThrees_10 : decode cX1_findPairsAndThrees 10 = .ok (.iconst 0, 1) := by decide +kernel
theorem dX1_findPairsAndThrees_11 : decode cX1_findPairsAndThrees 11 = .ok (.istore_n 1, 1) := by decide +kernel
theorem dX1_findPairsAndThrees_12 : decode cX1_findPairsAndThrees 12 = .ok (.iload_n 1, 1) := by decide +kernel
theorem dX1_findPairsAndThrees_13 : decode cX1_findPairsAndThrees 13 = .ok (.aload_n 0, 1) := by decide +kernel
theorem dX1_findPairsAndThrees_14 : decode cX1_findPairsAndThrees 14 = .ok (.getfield 9, 3) := by decide +kernel
theorem dX1_findPairsAndThrees_17 : decode cX1_findPairsAndThrees 17 = .ok (.if_icmp .ge 57, 3) := by decide +kernel
theorem dX1_findPairsAndThrees_20 : decode cX1_findPairsAndThrees 20 = .ok (.iload_n 1, 1) := by decide +kernel
theorem dX1_findPairsAndThrees_21 : decode cX1_findPairsAndThrees 21 = .ok (.iconst 1, 1) := by decide +kernel
theorem dX1_findPairsAndThrees_22 : decode cX1_findPairsAndThrees 22 = .ok (.iadd, 1) := by decide +kernel
theorem dX1_findPairsAndThrees_23 : decode cX1_findPairsAndThrees 23 = .ok (.istore_n 2, 1) := by decide +kernel
theorem dX1_findPairsAndThrees_24 : decode cX1_findPairsAndThrees 24 = .ok (.iload_n 2, 1) := by decide +kernel
theorem dX1_findPairsAndThrees_25 : decode cX1_findPairsAndThrees 25 = .ok (.aload_n 0, 1) := by decide +kernel
theorem dX1_findPairsAndThrees_26 : decode cX1_findPairsAndThrees 26 = .ok (.getfield 9, 3) := by decide +kernel
theorem dX1_findPairsAndThrees_29 : decode cX1_findPairsAndThrees 29 = .ok (.if_icmp .ge 39, 3) := by decide +kernel
theorem dX1_findPairsAndThrees_32 : decode cX1_findPairsAndThrees 32 = .ok (.aload_n 0, 1) := by decide +kernel
theorem dX1_findPairsAndThrees_33 : decode cX1_findPairsAndThrees 33 = .ok (.getfield 25, 3) := by decide +kernel
theorem dX1_findPairsAndThrees_36 : decode cX1_findPairsAndThrees 36 = .ok (.iload_n 1, 1) := by decide +kernel
theorem dX1_findPairsAndThrees_37 : decode cX1_findPairsAndThrees 37 = .ok (.iaload, 1) := by decide +kernel
theorem dX1_findPairsAndThrees_38 : decode cX1_findPairsAndThrees 38 = .ok (.iload_n 2, 1) := by decide +kernel
theorem dX1_findPairsAndThrees_39 : decode cX1_findPairsAndThrees 39 = .ok (.ishr, 1) := by decide +kernel
theorem dX1_findPairsAndThrees_40 : decode cX1_findPairsAndThrees 40 = .ok (.iconst 1, 1) := by decide +kernel
theorem dX1_findPairsAndThrees_41 : decode cX1_findPairsAndThrees 41 = .ok (.iand, 1) := by decide +kernel
theorem dX1_findPairsAndThrees_42 : decode cX1_findPairsAndThrees 42 = .ok (.iconst 1, 1) := by decide +kernel
theorem dX1_findPairsAndThrees_43 : decode cX1_findPairsAndThrees 43 = .ok (.if_icmp .ne 19, 3) := by decide +kernel
theorem dX1_findPairsAndThrees_46 : decode cX1_findPairsAndThrees 46 = .ok (.aload_n 0, 1) := by decide +kernel
theorem dX1_findPairsAndThrees_47 : decode cX1_findPairsAndThrees 47 = .ok (.dup, 1) := by decide +kernel
theorem dX1_findPairsAndThrees_48 : decode cX1_findPairsAndThrees 48 = .ok (.getfield 35, 3) := by decide +kernel
theorem dX1_findPairsAndThrees_51 : decode cX1_findPairsAndThrees 51 = .ok (.iconst 1, 1) := by decide +kernel
theorem dX1_findPairsAndThrees_52 : decode cX1_findPairsAndThrees 52 = .ok (.iadd, 1) := by decide +kernel
theorem dX1_findPairsAndThrees_53 : decode cX1_findPairsAndThrees 53 = .ok (.putfield 35, 3) := by decide +kernel
theorem dX1_findPairsAndThrees_56 : decode cX1_findPairsAndThrees 56 = .ok (.aload_n 0, 1) := by decide +kernel
theorem dX1_findPairsAndThrees_57 : decode cX1_findPairsAndThrees 57 = .ok (.iload_n 1, 1) := by decide +kernel
theorem dX1_findPairsAndThrees_58 : decode cX1_findPairsAndThrees 58 = .ok (.iload_n 2, 1) := by decide +kernel
theorem dX1_findPairsAndThrees_59 : decode cX1_findPairsAndThrees 59 = .ok (.invokevirtual 69, 3) := by decide +kernel
theorem dX1_findPairsAndThrees_62 : decode cX1_findPairsAndThrees 62 = .ok (.iinc 2 1, 3) := by decide +kernel
theorem dX1_findPairsAndThrees_65 : decode cX1_findPairsAndThrees 65 = .ok (.goto (-41), 3) := by decide +kernel
theorem dX1_findPairsAndThrees_68 : decode cX1_findPairsAndThrees 68 = .ok (.iinc 1 1, 3) := by decide +kernel
theorem dX1_findPairsAndThrees_71 : decode cX1_findPairsAndThrees 71 = .ok (.goto (-59), 3) := by decide +kernel
theorem dX1_findPairsAndThrees_74 : decode cX1_findPairsAndThrees 74 = .ok (.return_, 1) := by decide +kernel
theorem dX1_findThreesOf_0 : decode cX1_findThreesOf 0 = .ok (.aload_n 0, 1) := by decide +kernel
theorem dX1_findThreesOf_1 : decode cX1_findThreesOf 1 = .ok (.getfield 25, 3) := by decide +kernel
theorem dX1_findThreesOf_4 : decode cX1_findThreesOf 4 = .ok (.iload_n 1, 1) := by decide +kernel
theorem dX1_findThreesOf_5 : decode cX1_findThreesOf 5 = .ok (.iaload, 1) := by decide +kernel
theorem dX1_findThreesOf_6 : decode cX1_findThreesOf 6 = .ok (.aload_n 0, 1) := by decide +kernel
theorem dX1_findThreesOf_7 : decode cX1_findThreesOf 7 = .ok (.getfield 25, 3) := by decide +kernel
theorem dX1_findThreesOf_10 : decode cX1_findThreesOf 10 = .ok (.iload_n 2, 1) := by decide +kernel
theorem dX1_findThreesOf_11 : decode cX1_findThreesOf 11 = .ok (.iaload, 1) := by decide +kernel
theorem dX1_findThreesOf_12 : decode cX1_findThreesOf 12 = .ok (.iand, 1) := by decide +kernel
theorem dX1_findThreesOf_13 : decode cX1_findThreesOf 13 = .ok (.istore_n 3, 1) := by decide +kernel
theorem dX1_findThreesOf_14 : decode cX1_findThreesOf 14 = .ok (.iload_n 2, 1) := by decide +kernel
theorem dX1_findThreesOf_15 : decode cX1_findThreesOf 15 = .ok (.iconst 1, 1) := by decide +kernel
theorem dX1_findThreesOf_16 : decode cX1_findThreesOf 16 = .ok (.iadd, 1) := by decide +kernel
theorem dX1_findThreesOf_17 : decode cX1_findThreesOf 17 = .ok (.istore 4, 2) := by decide +kernel
theorem dX1_findThreesOf_19 : decode cX1_findThreesOf 19 = .ok (.iload 4, 2) := by decide +kernel
theorem dX1_findThreesOf_21 : decode cX1_findThreesOf 21 = .ok (.aload_n 0, 1) := by decide +kernel
theorem dX1_findThreesOf_22 : decode cX1_findThreesOf 22 = .ok (.getfield 9, 3) := by decide +kernel
theorem dX1_findThreesOf_25 : decode cX1_findThreesOf 25 = .ok (.if_icmp .ge 60, 3) := by decide +kernel
theorem dX1_findThreesOf_28 : decode cX1_findThreesOf 28 = .ok (.iload_n 3, 1) := by decide +kernel
theorem dX1_findThreesOf_29 : decode cX1_findThreesOf 29 = .ok (.iload 4, 2) := by decide +kernel
theorem dX1_findThreesOf_31 : decode cX1_findThreesOf 31 = .ok (.ishr, 1) := by decide +kernel
theorem dX1_findThreesOf_32 : decode cX1_findThreesOf 32 = .ok (.iconst 1, 1) := by decide +kernel
theorem dX1_findThreesOf_33 : decode cX1_findThreesOf 33 = .ok (.iand, 1) := by decide +kernel
theorem dX1_findThreesOf_34 : decode cX1_findThreesOf 34 = .ok (.iconst 1, 1) := by decide +kernel
theorem dX1_findThreesOf_35 : decode cX1_findThreesOf 35 = .ok (.if_icmp .ne 44, 3) := by decide +kernel
theorem dX1_findThreesOf_38 : decode cX1_findThreesOf 38 = .ok (.aload_n 0, 1) := by decide +kernel
theorem dX1_findThreesOf_39 : decode cX1_findThreesOf 39 = .ok (.getfield 38, 3) := by decide +kernel
theorem dX1_findThreesOf_42 : decode cX1_findThreesOf 42 = .ok (.sipush 220, 3) := by decide +kernel
theorem dX1_findThreesOf_45 : decode cX1_findThreesOf 45 = .ok (.if_icmp .ge 34, 3) := by decide +kernel
theorem dX1_findThreesOf_48 : decode cX1_findThreesOf 48 = .ok (.aload_n 0, 1) := by decide +kernel
theorem dX1_findThreesOf_49 : decode cX1_findThreesOf 49 = .ok (.getfield 28, 3) := by decide +kernel
theorem dX1_findThreesOf_52 : decode cX1_findThreesOf 52 = .ok (.aload_n 0, 1) := by decide +kernel
theorem dX1_findThreesOf_53 : decode cX1_findThreesOf 53 = .ok (.getfield 38, 3) := by decide +kernel
theorem dX1_findThreesOf_56 : decode cX1_findThreesOf 56 = .ok (.iconst 1, 1) := by decide +kernel
theorem dX1_findThreesOf_57 : decode cX1_findThreesOf 57 = .ok (.iload_n 1, 1) := by decide +kernel
theorem dX1_findThreesOf_58 : decode cX1_findThreesOf 58 = .ok (.ishl, 1) := by decide +kernel
theorem dX1_findThreesOf_59 : decode cX1_findThreesOf 59 = .ok (.iconst 1, 1) := by decide +kernel
theorem dX1_findThreesOf_60 : decode cX1_findThreesOf 60 = .ok (.iload_n 2, 1) := by decide +kernel
theorem dX1_findThreesOf_61 : decode cX1_findThreesOf 61 = .ok (.ishl, 1) := by decide +kernel
theorem dX1_findThreesOf_62 : decode cX1_findThreesOf 62 = .ok (.ior, 1) := by decide +kernel
theorem dX1_findThreesOf_63 : decode cX1_findThreesOf 63 = .ok (.iconst 1, 1) := by decide +kernel
theorem dX1_findThreesOf_64 : decode cX1_findThreesOf 64 = .ok (.iload 4, 2) := by decide +kernel
theorem dX1_findThreesOf_66 : decode cX1_findThreesOf 66 = .ok (.ishl, 1) := by decide +kernel
theorem dX1_findThreesOf_67 : decode cX1_findThreesOf 67 = .ok (.ior, 1) := by decide +kernel
theorem dX1_findThreesOf_68 : decode cX1_findThreesOf 68 = .ok (.iastore, 1) := by decide +kernel
theorem dX1_findThreesOf_69 : decode cX1_findThreesOf 69 = .ok (.aload_n 0, 1) := by decide +kernel
theorem dX1_findThreesOf_70 : decode cX1_findThreesOf 70 = .ok (.dup, 1) := by decide +kernel
theorem dX1_findThreesOf_71 : decode cX1_findThreesOf 71 = .ok (.getfield 38, 3) := by decide +kernel
theorem dX1_findThreesOf_74 : decode cX1_findThreesOf 74 = .ok (.iconst 1, 1) := by decide +kernel
theorem dX1_findThreesOf_75 : decode cX1_findThreesOf 75 = .ok (.iadd, 1) := by decide +kernel
theorem dX1_findThreesOf_76 : decode cX1_findThreesOf 76 = .ok (.putfield 38, 3) := by decide +kernel
theorem dX1_findThreesOf_79 : decode cX1_findThreesOf 79 = .ok (.iinc 4 1, 3) := by decide +kernel
theorem dX1_findThreesOf_82 : decode cX1_findThreesOf 82 = .ok (.goto (-63), 3) := by decide +kernel
theorem dX1_findThreesOf_85 : decode cX1_findThreesOf 85 = .ok (.return_, 1) := by decide +kernel
theorem dX1_areColours_0 : decode cX1_areColours 0 = .ok (.iconst 0, 1) := by decide +kernel
theorem dX1_areColours_1 : decode cX1_areColours 1 = .ok (.istore_n 2, 1) := by decide +kernel
theorem dX1_areColours_2 : decode cX1_areColours 2 = .ok (.iload_n 2, 1) := by decide +kernel
theorem dX1_areColours_3 : decode cX1_areColours 3 = .ok (.aload_n 0, 1) := by decide +kernel
theorem dX1_areColours_4 : decode cX1_areColours 4 = .ok (.getfield 38, 3) := by decide +kernel
theorem dX1_areColours_7 : decode cX1_areColours 7 = .ok (.if_icmp .ge 26, 3) := by decide +kernel
theorem dX1_areColours_10 : decode cX1_areColours 10 = .ok (.iload_n 1, 1) := by decide +kernel
theorem dX1_areColours_11 : decode cX1_areColours 11 = .ok (.aload_n 0, 1) := by decide +kernel
theorem dX1_areColours_12 : decode cX1_areColours 12 = .ok (.getfield 28, 3) := by decide +kernel
theorem dX1_areColours_15 : decode cX1_areColours 15 = .ok (.iload_n 2, 1) := by decide +kernel
theorem dX1_areColours_16 : decode cX1_areColours 16 = .ok (.iaload, 1) := by decide +kernel
theorem dX1_areColours_17 : decode cX1_areColours 17 = .ok (.iand, 1) := by decide +kernel
theorem dX1_areColours_18 : decode cX1_areColours 18 = .ok (.invokestatic 57, 3) := by decide +kernel
theorem dX1_areColours_21 : decode cX1_areColours 21 = .ok (.iconst 1, 1) := by decide +kernel
theorem dX1_areColours_22 : decode cX1_areColours 22 = .ok (.if_icmp .eq 5, 3) := by decide +kernel
theorem dX1_areColours_25 : decode cX1_areColours 25 = .ok (.iconst 0, 1) := by decide +kernel
theorem dX1_areColours_26 : decode cX1_areColours 26 = .ok (.ireturn, 1) := by decide +kernel
theorem dX1_areColours_27 : decode cX1_areColours 27 = .ok (.iinc 2 1, 3) := by decide +kernel
theorem dX1_areColours_30 : decode cX1_areColours 30 = .ok (.goto (-28), 3) := by decide +kernel
theorem dX1_areColours_33 : decode cX1_areColours 33 = .ok (.iconst 0, 1) := by decide +kernel
theorem dX1_areColours_34 : decode cX1_areColours 34 = .ok (.istore_n 2, 1) := by decide +kernel
theorem dX1_areColours_35 : decode cX1_areColours 35 = .ok (.iload_n 2, 1) := by decide +kernel
theorem dX1_areColours_36 : decode cX1_areColours 36 = .ok (.aload_n 0, 1) := by decide +kernel
theorem dX1_areColours_37 : decode cX1_areColours 37 = .ok (.getfield 9, 3) := by decide +kernel
theorem dX1_areColours_40 : decode cX1_areColours 40 = .ok (.if_icmp .ge 31, 3) := by decide +kernel
theorem dX1_areColours_43 : decode cX1_areColours 43 = .ok (.iload_n 1, 1) := by decide +kernel
theorem dX1_areColours_44 : decode cX1_areColours 44 = .ok (.iload_n 2, 1) := by decide +kernel
theorem dX1_areColours_45 : decode cX1_areColours 45 = .ok (.ishr, 1) := by decide +kernel
theorem dX1_areColours_46 : decode cX1_areColours 46 = .ok (.iconst 1, 1) := by decide +kernel
theorem dX1_areColours_47 : decode cX1_areColours 47 = .ok (.iand, 1) := by decide +kernel
theorem dX1_areColours_48 : decode cX1_areColours 48 = .ok (.iconst 1, 1) := by decide +kernel
theorem dX1_areColours_49 : decode cX1_areColours 49 = .ok (.if_icmp .ne 16, 3) := by decide +kernel
theorem dX1_areColours_52 : decode cX1_areColours 52 = .ok (.aload_n 0, 1) := by decide +kernel
theorem dX1_areColours_53 : decode cX1_areColours 53 = .ok (.getfield 25, 3) := by decide +kernel
theorem dX1_areColours_56 : decode cX1_areColours 56 = .ok (.iload_n 2, 1) := by decide +kernel
theorem dX1_areColours_57 : decode cX1_areColours 57 = .ok (.iaload, 1) := by decide +kernel
theorem dX1_areColours_58 : decode cX1_areColours 58 = .ok (.iload_n 1, 1) := by decide +kernel
theorem dX1_areColours_59 : decode cX1_areColours 59 = .ok (.iand, 1) := by decide +kernel
theorem dX1_areColours_60 : decode cX1_areColours 60 = .ok (.ifCond .eq 5, 3) := by decide +kernel
theorem dX1_areColours_63 : decode cX1_areColours 63 = .ok (.iconst 0, 1) := by decide +kernel
theorem dX1_areColours_64 : decode cX1_areColours 64 = .ok (.ireturn, 1) := by decide +kernel
theorem dX1_areColours_65 : decode cX1_areColours 65 = .ok (.iinc 2 1, 3) := by decide +kernel
theorem dX1_areColours_68 : decode cX1_areColours 68 = .ok (.goto (-33), 3) := by decide +kernel
theorem dX1_areColours_71 : decode cX1_areColours 71 = .ok (.iconst 1, 1) := by decide +kernel
theorem dX1_areColours_72 : decode cX1_areColours 72 = .ok (.ireturn, 1) := by decide +kernel
end
section
theorem dX2_init_0 : decode cX2_init 0 = .ok (.aload_n 0, 1) := by decide +kernel
theorem dX2_init_1 : decode cX2_init 1 = .ok (.invokespecial 3, 3) := by decide +kernel
theorem dX2_init_4 : decode cX2_init 4 = .ok (.aload_n 0, 1) := by decide +kernel
theorem dX2_init_5 : decode cX2_init 5 = .ok (.bipush 64, 2) := by decide +kernel
theorem dX2_init_7 : decode cX2_init 7 = .ok (.newarray .int, 2) := by decide +kernel
theorem dX2_init_9 : decode cX2_init 9 = .ok (.putfield 9, 3) := by decide +kernel
theorem dX2_init_12 : decode cX2_init 12 = .ok (.aload_n 0, 1) := by decide +kernel
theorem dX2_init_13 : decode cX2_init 13 = .ok (.iconst (-1), 1) := by decide +kernel
theorem dX2_init_14 : decode cX2_init 14 = .ok (.putfield 15, 3) := by decide +kernel
theorem dX2_init_17 : decode cX2_init 17 = .ok (.aload_n 0, 1) := by decide +kernel
theorem dX2_init_18 : decode cX2_init 18 = .ok (.iconst 0, 1) := by decide +kernel
theorem dX2_init_19 : decode cX2_init 19 = .ok (.putfield 19, 3) := by decide +kernel
theorem dX2_init_22 : decode cX2_init 22 = .ok (.return_, 1) := by decide +kernel
theorem dX2_renew_0 : decode cX2_renew 0 = .ok (.aload_n 0, 1) := by decide +kernel
theorem dX2_renew_1 : decode cX2_renew 1 = .ok (.getfield 9, 3) := by decide +kernel
theorem dX2_renew_4 : decode cX2_renew 4 = .ok (.iconst 0, 1) := by decide +kernel
theorem dX2_renew_5 : decode cX2_renew 5 = .ok (.invokestatic 22, 3) := by decide +kernel
theorem dX2_renew_8 : decode cX2_renew 8 = .ok (.aload_n 0, 1) := by decide +kernel
theorem dX2_renew_9 : decode cX2_renew 9 = .ok (.iload_n 1, 1) := by decide +kernel
theorem dX2_renew_10 : decode cX2_renew 10 = .ok (.putfield 15, 3) := by decide +kernel
theorem dX2_renew_13 : decode cX2_renew 13 = .ok (.aload_n 0, 1) := by decide +kernel
theorem dX2_renew_14 : decode cX2_renew 14 = .ok (.iload_n 2, 1) := by decide +kernel
theorem dX2_renew_15 : decode cX2_renew 15 = .ok (.putfield 19, 3) := by decide +kernel
theorem dX2_renew_18 : decode cX2_renew 18 = .ok (.return_, 1) := by decide +kernel
theorem dX2_isNothing_0 : decode cX2_isNothing 0 = .ok (.aload_n 0, 1) := by decide +kernel
theorem dX2_isNothing_1 : decode cX2_isNothing 1 = .ok (.getfield 15, 3) := by decide +kernel
theorem dX2_isNothing_4 : decode cX2_isNothing 4 = .ok (.iconst (-1), 1) := by decide +kernel
theorem dX2_isNothing_5 : decode cX2_isNothing 5 = .ok (.if_icmp .ne 7, 3) := by decide +kernel
theorem dX2_isNothing_8 : decode cX2_isNothing 8 = .ok (.iconst 1, 1) := by decide +kernel
theorem dX2_isNothing_9 : decode cX2_isNothing 9 = .ok (.goto 4, 3) := by decide +kernel
theorem dX2_isNothing_12 : decode cX2_isNothing 12 = .ok (.iconst 0, 1) := by decide +kernel
theorem dX2_isNothing_13 : decode cX2_isNothing 13 = .ok (.ireturn, 1) := by decide +kernel
theorem dX2_hasCell_0 : decode cX2_hasCell 0 = .ok (.iload_n 1, 1) := by decide +kernel
theorem dX2_hasCell_1 : decode cX2_hasCell 1 = .ok (.ifCond .lt 15, 3) := by decide +kernel
theorem dX2_hasCell_4 : decode cX2_hasCell 4 = .ok (.iload_n 1, 1) := by decide +kernel
theorem dX2_hasCell_5 : decode cX2_hasCell 5 = .ok (.aload_n 0, 1) := by decide +kernel
theorem dX2_hasCell_6 : decode cX2_hasCell 6 = .ok (.getfield 19, 3) := by decide +kernel
theorem dX2_hasCell_9 : decode cX2_hasCell 9 = .ok (.if_icmp .ge 7, 3) := by decide +kernel
theorem dX2_hasCell_12 : decode cX2_hasCell 12 = .ok (.iconst 1, 1) := by decide +kernel
theorem dX2_hasCell_13 : decode cX2_hasCell 13 = .ok (.goto 4, 3) := by decide +kernel
theorem dX2_hasCell_16 : decode cX2_hasCell 16 = .ok (.iconst 0, 1) := by decide +kernel
theorem dX2_hasCell_17 : decode cX2_hasCell 17 = .ok (.ireturn, 1) := by decide +kernel
theorem dX2_write_0 : decode cX2_write 0 = .ok (.aload_n 0, 1) := by decide +kernel
theorem dX2_write_1 : decode cX2_write 1 = .ok (.getfield 15, 3) := by decide +kernel
theorem dX2_write_4 : decode cX2_write 4 = .ok (.lookupswitch 50 #[(0, 28), (1, 39)], 28) := by decide +kernel
theorem dX2_write_32 : decode cX2_write 32 = .ok (.aload_n 0, 1) := by decide +kernel
theorem dX2_write_33 : decode cX2_write 33 = .ok (.getfield 9, 3) := by decide +kernel
theorem dX2_write_36 : decode cX2_write 36 = .ok (.iload_n 1, 1) := by decide +kernel
theorem dX2_write_37 : decode cX2_write 37 = .ok (.iload_n 2, 1) := by decide +kernel
theorem dX2_write_38 : decode cX2_write 38 = .ok (.i2b, 1) := by decide +kernel
theorem dX2_write_39 : decode cX2_write 39 = .ok (.iastore, 1) := by decide +kernel
theorem dX2_write_40 : decode cX2_write 40 = .ok (.goto 21, 3) := by decide +kernel
theorem dX2_write_43 : decode cX2_write 43 = .ok (.aload_n 0, 1) := by decide +kernel
theorem dX2_write_44 : decode cX2_write 44 = .ok (.getfield 9, 3) := by decide +kernel
theorem dX2_write_47 : decode cX2_write 47 = .ok (.iload_n 1, 1) := by decide +kernel
theorem dX2_write_48 : decode cX2_write 48 = .ok (.iload_n 2, 1) := by decide +kernel
theorem dX2_write_49 : decode cX2_write 49 = .ok (.i2s, 1) := by decide +kernel
theorem dX2_write_50 : decode cX2_write 50 = .ok (.iastore, 1) := by decide +kernel
theorem dX2_write_51 : decode cX2_write 51 = .ok (.goto 10, 3) := by decide +kernel
theorem dX2_write_54 : decode cX2_write 54 = .ok (.aload_n 0, 1) := by decide +kernel
theorem dX2_write_55 : decode cX2_write 55 = .ok (.getfield 9, 3) := by decide +kernel
theorem dX2_write_58 : decode cX2_write 58 = .ok (.iload_n 1, 1) := by decide +kernel
theorem dX2_write_59 : decode cX2_write 59 = .ok (.iload_n 2, 1) := by decide +kernel
theorem dX2_write_60 : decode cX2_write 60 = .ok (.iastore, 1) := by decide +kernel
theorem dX2_write_61 : decode cX2_write 61 = .ok (.return_, 1) := by decide +kernel
end
section
theorem dX3_init_0 : decode cX3_init 0 = .ok (.aload_n 0, 1) := by decide +kernel
theorem dX3_init_1 : decode cX3_init 1 = .ok (.invokespecial 3, 3) := by decide +kernel
theorem dX3_init_4 : decode cX3_init 4 = .ok (.aload_n 0, 1) := by decide +kernel
theorem dX3_init_5 : decode cX3_init 5 = .ok (.iconst 4, 1) := by decide +kernel
theorem dX3_init_6 : decode cX3_init 6 = .ok (.putfield 9, 3) := by decide +kernel
theorem dX3_init_9 : decode cX3_init 9 = .ok (.aload_n 0, 1) := by decide +kernel
theorem dX3_init_10 : decode cX3_init 10 = .ok (.iconst 0, 1) := by decide +kernel
theorem dX3_init_11 : decode cX3_init 11 = .ok (.putfield 15, 3) := by decide +kernel
theorem dX3_init_14 : decode cX3_init 14 = .ok (.aload_n 0, 1) := by decide +kernel
theorem dX3_init_15 : decode cX3_init 15 = .ok (.iconst 0, 1) := by decide +kernel
theorem dX3_init_16 : decode cX3_init 16 = .ok (.putfield 18, 3) := by decide +kernel
theorem dX3_init_19 : decode cX3_init 19 = .ok (.aload_n 0, 1) := by decide +kernel
theorem dX3_init_20 : decode cX3_init 20 = .ok (.bipush 8, 2) := by decide +kernel
theorem dX3_init_22 : decode cX3_init 22 = .ok (.newarray .int, 2) := by decide +kernel
theorem dX3_init_24 : decode cX3_init 24 = .ok (.putfield 21, 3) := by decide +kernel
theorem dX3_init_27 : decode cX3_init 27 = .ok (.aload_n 0, 1) := by decide +kernel
theorem dX3_init_28 : decode cX3_init 28 = .ok (.bipush 8, 2) := by decide +kernel
theorem dX3_init_30 : decode cX3_init 30 = .ok (.newarray .int, 2) := by decide +kernel
theorem dX3_init_32 : decode cX3_init 32 = .ok (.putfield 25, 3) := by decide +kernel
theorem dX3_init_35 : decode cX3_init 35 = .ok (.aload_n 0, 1) := by decide +kernel
theorem dX3_init_36 : decode cX3_init 36 = .ok (.bipush 64, 2) := by decide +kernel
theorem dX3_init_38 : decode cX3_init 38 = .ok (.newarray .int, 2) := by decide +kernel
theorem dX3_init_40 : decode cX3_init 40 = .ok (.putfield 28, 3) := by decide +kernel
theorem dX3_init_43 : decode cX3_init 43 = .ok (.aload_n 0, 1) := by decide +kernel
theorem dX3_init_44 : decode cX3_init 44 = .ok (.bipush 64, 2) := by decide +kernel
theorem dX3_init_46 : decode cX3_init 46 = .ok (.newarray .int, 2) := by decide +kernel
theorem dX3_init_48 : decode cX3_init 48 = .ok (.putfield 31, 3) := by decide +kernel
theorem dX3_init_51 : decode cX3_init 51 = .ok (.aload_n 0, 1) := by decide +kernel
theorem dX3_init_52 : decode cX3_init 52 = .ok (.bipush 64, 2) := by decide +kernel
theorem dX3_init_54 : decode cX3_init 54 = .ok (.newarray .int, 2) := by decide +kernel
theorem dX3_init_56 : decode cX3_init 56 = .ok (.putfield 34, 3) := by decide +kernel
theorem dX3_init_59 : decode cX3_init 59 = .ok (.aload_n 0, 1) := by decide +kernel
theorem dX3_init_60 : decode cX3_init 60 = .ok (.sipush 512, 3) := by decide +kernel
theorem dX3_init_63 : decode cX3_init 63 = .ok (.newarray .int, 2) := by decide +kernel
theorem dX3_init_65 : decode cX3_init 65 = .ok (.putfield 37, 3) := by decide +kernel
theorem dX3_init_68 : decode cX3_init 68 = .ok (.aload_n 0, 1) := by decide +kernel
theorem dX3_init_69 : decode cX3_init 69 = .ok (.bipush 64, 2) := by decide +kernel
theorem dX3_init_71 : decode cX3_init 71 = .ok (.newarray .int, 2) := by decide +kernel
theorem dX3_init_73 : decode cX3_init 73 = .ok (.putfield 40, 3) := by decide +kernel
theorem dX3_init_76 : decode cX3_init 76 = .ok (.aload_n 0, 1) := by decide +kernel
theorem dX3_init_77 : decode cX3_init 77 = .ok (.bipush 64, 2) := by decide +kernel
theorem dX3_init_79 : decode cX3_init 79 = .ok (.newarray .boolean, 2) := by decide +kernel
theorem dX3_init_81 : decode cX3_init 81 = .ok (.putfield 43, 3) := by decide +kernel
theorem dX3_init_84 : decode cX3_init 84 = .ok (.return_, 1) := by decide +kernel
theorem dX3_begin_0 : decode cX3_begin 0 = .ok (.aload_n 0, 1) := by decide +kernel
theorem dX3_begin_1 : decode cX3_begin 1 = .ok (.iload_n 1, 1) := by decide +kernel
theorem dX3_begin_2 : decode cX3_begin 2 = .ok (.putfield 9, 3) := by decide +kernel
theorem dX3_begin_5 : decode cX3_begin 5 = .ok (.aload_n 0, 1) := by decide +kernel
theorem dX3_begin_6 : decode cX3_begin 6 = .ok (.iconst 0, 1) := by decide +kernel
theorem dX3_begin_7 : decode cX3_begin 7 = .ok (.putfield 15, 3) := by decide +kernel
theorem dX3_begin_10 : decode cX3_begin 10 = .ok (.aload_n 0, 1) := by decide +kernel
theorem dX3_begin_11 : decode cX3_begin 11 = .ok (.dup, 1) := by decide +kernel
theorem dX3_begin_12 : decode cX3_begin 12 = .ok (.getfield 18, 3) := by decide +kernel
theorem dX3_begin_15 : decode cX3_begin 15 = .ok (.iconst 1, 1) := by decide +kernel
theorem dX3_begin_16 : decode cX3_begin 16 = .ok (.iadd, 1) := by decide +kernel
theorem dX3_begin_17 : decode cX3_begin 17 = .ok (.putfield 18, 3) := by decide +kernel
theorem dX3_begin_20 : decode cX3_begin 20 = .ok (.return_, 1) := by decide +kernel
theorem dX3_hiddenCount_0 : decode cX3_hiddenCount 0 = .ok (.iconst 1, 1) := by decide +kernel
theorem dX3_hiddenCount_1 : decode cX3_hiddenCount 1 = .ok (.aload_n 0, 1) := by decide +kernel
theorem dX3_hiddenCount_2 : decode cX3_hiddenCount 2 = .ok (.getfield 9, 3) := by decide +kernel
theorem dX3_hiddenCount_5 : decode cX3_hiddenCount 5 = .ok (.ishl, 1) := by decide +kernel
theorem dX3_hiddenCount_6 : decode cX3_hiddenCount 6 = .ok (.ireturn, 1) := by decide +kernel
theorem dX3_hasSet_0 : decode cX3_hasSet 0 = .ok (.iload_n 1, 1) := by decide +kernel
theorem dX3_hasSet_1 : decode cX3_hasSet 1 = .ok (.ifCond .lt 15, 3) := by decide +kernel
theorem dX3_hasSet_4 : decode cX3_hasSet 4 = .ok (.iload_n 1, 1) := by decide +kernel
theorem dX3_hasSet_5 : decode cX3_hasSet 5 = .ok (.aload_n 0, 1) := by decide +kernel
theorem dX3_hasSet_6 : decode cX3_hasSet 6 = .ok (.getfield 15, 3) := by decide +kernel
theorem dX3_hasSet_9 : decode cX3_hasSet 9 = .ok (.if_icmp .ge 7, 3) := by decide +kernel
theorem dX3_hasSet_12 : decode cX3_hasSet 12 = .ok (.iconst 1, 1) := by decide +kernel
theorem dX3_hasSet_13 : decode cX3_hasSet 13 = .ok (.goto 4, 3) := by decide +kernel
theorem dX3_hasSet_16 : decode cX3_hasSet 16 = .ok (.iconst 0, 1) := by decide +kernel
theorem dX3_hasSet_17 : decode cX3_hasSet 17 = .ok (.ireturn, 1) := by decide +kernel
theorem dX3_hasJoint_0 : decode cX3_hasJoint 0 = .ok (.aload_n 0, 1) := by decide +kernel
theorem dX3_hasJoint_1 : decode cX3_hasJoint 1 = .ok (.iload_n 1, 1) := by decide +kernel
theorem dX3_hasJoint_2 : decode cX3_hasJoint 2 = .ok (.invokevirtual 47, 3) := by decide +kernel
theorem dX3_hasJoint_5 : decode cX3_hasJoint 5 = .ok (.ifCond .eq 20, 3) := by decide +kernel
theorem dX3_hasJoint_8 : decode cX3_hasJoint 8 = .ok (.iload_n 2, 1) := by decide +kernel
theorem dX3_hasJoint_9 : decode cX3_hasJoint 9 = .ok (.ifCond .lt 16, 3) := by decide +kernel
theorem dX3_hasJoint_12 : decode cX3_hasJoint 12 = .ok (.iload_n 2, 1) := by decide +kernel
theorem dX3_hasJoint_13 : decode cX3_hasJoint 13 = .ok (.aload_n 0, 1) := by decide +kernel
theorem dX3_hasJoint_14 : decode cX3_hasJoint 14 = .ok (.iload_n 1, 1) := by decide +kernel
theorem dX3_hasJoint_15 : decode cX3_hasJoint 15 = .ok (.invokevirtual 51, 3) := by decide +kernel
theorem dX3_hasJoint_18 : decode cX3_hasJoint 18 = .ok (.if_icmp .ge 7, 3) := by decide +kernel
theorem dX3_hasJoint_21 : decode cX3_hasJoint 21 = .ok (.iconst 1, 1) := by decide +kernel
theorem dX3_hasJoint_22 : decode cX3_hasJoint 22 = .ok (.goto 4, 3) := by decide +kernel
theorem dX3_hasJoint_25 : decode cX3_hasJoint 25 = .ok (.iconst 0, 1) := by decide +kernel
theorem dX3_hasJoint_26 : decode cX3_hasJoint 26 = .ok (.ireturn, 1) := by decide +kernel
theorem dX3_jointCount_0 : decode cX3_jointCount 0 = .ok (.iconst 1, 1) := by decide +kernel
theorem dX3_jointCount_1 : decode cX3_jointCount 1 = .ok (.aload_n 0, 1) := by decide +kernel
theorem dX3_jointCount_2 : decode cX3_jointCount 2 = .ok (.getfield 21, 3) := by decide +kernel
theorem dX3_jointCount_5 : decode cX3_jointCount 5 = .ok (.iload_n 1, 1) := by decide +kernel
theorem dX3_jointCount_6 : decode cX3_jointCount 6 = .ok (.iaload, 1) := by decide +kernel
theorem dX3_jointCount_7 : decode cX3_jointCount 7 = .ok (.invokestatic 55, 3) := by decide +kernel
theorem dX3_jointCount_10 : decode cX3_jointCount 10 = .ok (.ishl, 1) := by decide +kernel
theorem dX3_jointCount_11 : decode cX3_jointCount 11 = .ok (.ireturn, 1) := by decide +kernel
theorem dX3_hasSetOf_0 : decode cX3_hasSetOf 0 = .ok (.iconst 0, 1) := by decide +kernel
theorem dX3_hasSetOf_1 : decode cX3_hasSetOf 1 = .ok (.istore_n 2, 1) := by decide +kernel
theorem dX3_hasSetOf_2 : decode cX3_hasSetOf 2 = .ok (.iload_n 2, 1) := by decide +kernel
theorem dX3_hasSetOf_3 : decode cX3_hasSetOf 3 = .ok (.aload_n 0, 1) := by decide +kernel
theorem dX3_hasSetOf_4 : decode cX3_hasSetOf 4 = .ok (.getfield 15, 3) := by decide +kernel
theorem dX3_hasSetOf_7 : decode cX3_hasSetOf 7 = .ok (.if_icmp .ge 21, 3) := by decide +kernel
theorem dX3_hasSetOf_10 : decode cX3_hasSetOf 10 = .ok (.aload_n 0, 1) := by decide +kernel
theorem dX3_hasSetOf_11 : decode cX3_hasSetOf 11 = .ok (.getfield 21, 3) := by decide +kernel
theorem dX3_hasSetOf_14 : decode cX3_hasSetOf 14 = .ok (.iload_n 2, 1) := by decide +kernel
theorem dX3_hasSetOf_15 : decode cX3_hasSetOf 15 = .ok (.iaload, 1) := by decide +kernel
theorem dX3_hasSetOf_16 : decode cX3_hasSetOf 16 = .ok (.iload_n 1, 1) := by decide +kernel
theorem dX3_hasSetOf_17 : decode cX3_hasSetOf 17 = .ok (.if_icmp .ne 5, 3) := by decide +kernel
theorem dX3_hasSetOf_20 : decode cX3_hasSetOf 20 = .ok (.iconst 1, 1) := by decide +kernel
theorem dX3_hasSetOf_21 : decode cX3_hasSetOf 21 = .ok (.ireturn, 1) := by decide +kernel
theorem dX3_hasSetOf_22 : decode cX3_hasSetOf 22 = .ok (.iinc 2 1, 3) := by decide +kernel
theorem dX3_hasSetOf_25 : decode cX3_hasSetOf 25 = .ok (.goto (-23), 3) := by decide +kernel
theorem dX3_hasSetOf_28 : decode cX3_hasSetOf 28 = .ok (.iconst 0, 1) := by decide +kernel
theorem dX3_hasSetOf_29 : decode cX3_hasSetOf 29 = .ok (.ireturn, 1) := by decide +kernel
theorem dX3_add_0 : decode cX3_add 0 = .ok (.aload_n 0, 1) := by decide +kernel
theorem dX3_add_1 : decode cX3_add 1 = .ok (.getfield 15, 3) := by decide +kernel
theorem dX3_add_4 : decode cX3_add 4 = .ok (.istore_n 2, 1) := by decide +kernel
theorem dX3_add_5 : decode cX3_add 5 = .ok (.aload_n 0, 1) := by decide +kernel
theorem dX3_add_6 : decode cX3_add 6 = .ok (.getfield 21, 3) := by decide +kernel
theorem dX3_add_9 : decode cX3_add 9 = .ok (.iload_n 2, 1) := by decide +kernel
theorem dX3_add_10 : decode cX3_add 10 = .ok (.iload_n 1, 1) := by decide +kernel
theorem dX3_add_11 : decode cX3_add 11 = .ok (.iastore, 1) := by decide +kernel
theorem dX3_add_12 : decode cX3_add 12 = .ok (.aload_n 0, 1) := by decide +kernel
theorem dX3_add_13 : decode cX3_add 13 = .ok (.getfield 25, 3) := by decide +kernel
theorem dX3_add_16 : decode cX3_add 16 = .ok (.iload_n 2, 1) := by decide +kernel
theorem dX3_add_17 : decode cX3_add 17 = .ok (.bipush (-4), 2) := by decide +kernel
theorem dX3_add_19 : decode cX3_add 19 = .ok (.iastore, 1) := by decide +kernel
theorem dX3_add_20 : decode cX3_add 20 = .ok (.iconst 0, 1) := by decide +kernel
theorem dX3_add_21 : decode cX3_add 21 = .ok (.istore_n 3, 1) := by decide +kernel
theorem dX3_add_22 : decode cX3_add 22 = .ok (.iload_n 3, 1) := by decide +kernel
theorem dX3_add_23 : decode cX3_add 23 = .ok (.bipush 8, 2) := by decide +kernel
theorem dX3_add_25 : decode cX3_add 25 = .ok (.if_icmp .ge 33, 3) := by decide +kernel
theorem dX3_add_28 : decode cX3_add 28 = .ok (.aload_n 0, 1) := by decide +kernel
theorem dX3_add_29 : decode cX3_add 29 = .ok (.getfield 28, 3) := by decide +kernel
theorem dX3_add_32 : decode cX3_add 32 = .ok (.bipush 8, 2) := by decide +kernel
theorem dX3_add_34 : decode cX3_add 34 = .ok (.iload_n 2, 1) := by decide +kernel
theorem dX3_add_35 : decode cX3_add 35 = .ok (.imul, 1) := by decide +kernel
theorem dX3_add_36 : decode cX3_add 36 = .ok (.iload_n 3, 1) := by decide +kernel
theorem dX3_add_37 : decode cX3_add 37 = .ok (.iadd, 1) := by decide +kernel
theorem dX3_add_38 : decode cX3_add 38 = .ok (.iconst 0, 1) := by decide +kernel
theorem dX3_add_39 : decode cX3_add 39 = .ok (.iastore, 1) := by decide +kernel
theorem dX3_add_40 : decode cX3_add 40 = .ok (.aload_n 0, 1) := by decide +kernel
theorem dX3_add_41 : decode cX3_add 41 = .ok (.getfield 31, 3) := by decide +kernel
theorem dX3_add_44 : decode cX3_add 44 = .ok (.bipush 8, 2) := by decide +kernel
theorem dX3_add_46 : decode cX3_add 46 = .ok (.iload_n 2, 1) := by decide +kernel
theorem dX3_add_47 : decode cX3_add 47 = .ok (.imul, 1) := by decide +kernel
theorem dX3_add_48 : decode cX3_add 48 = .ok (.iload_n 3, 1) := by decide +kernel
theorem dX3_add_49 : decode cX3_add 49 = .ok (.iadd, 1) := by decide +kernel
theorem dX3_add_50 : decode cX3_add 50 = .ok (.iconst 0, 1) := by decide +kernel
theorem dX3_add_51 : decode cX3_add 51 = .ok (.iastore, 1) := by decide +kernel
theorem dX3_add_52 : decode cX3_add 52 = .ok (.iinc 3 1, 3) := by decide +kernel
theorem dX3_add_55 : decode cX3_add 55 = .ok (.goto (-33), 3) := by decide +kernel
theorem dX3_add_58 : decode cX3_add 58 = .ok (.iconst 0, 1) := by decide +kernel
theorem dX3_add_59 : decode cX3_add 59 = .ok (.istore_n 3, 1) := by decide +kernel
theorem dX3_add_60 : decode cX3_add 60 = .ok (.iload_n 3, 1) := by decide +kernel
theorem dX3_add_61 : decode cX3_add 61 = .ok (.aload_n 0, 1) := by decide +kernel
theorem dX3_add_62 : decode cX3_add 62 = .ok (.invokevirtual 60, 3) := by decide +kernel
theorem dX3_add_65 : decode cX3_add 65 = .ok (.if_icmp .ge 44, 3) := by decide +kernel
theorem dX3_add_68 : decode cX3_add 68 = .ok (.bipush 8, 2) := by decide +kernel
theorem dX3_add_70 : decode cX3_add 70 = .ok (.iload_n 2, 1) := by decide +kernel
theorem dX3_add_71 : decode cX3_add 71 = .ok (.imul, 1) := by decide +kernel
theorem dX3_add_72 : decode cX3_add 72 = .ok (.iload_n 1, 1) := by decide +kernel
theorem dX3_add_73 : decode cX3_add 73 = .ok (.iload_n 3, 1) := by decide +kernel
theorem dX3_add_74 : decode cX3_add 74 = .ok (.invokestatic 64, 3) := by decide +kernel
theorem dX3_add_77 : decode cX3_add 77 = .ok (.iadd, 1) := by decide +kernel
theorem dX3_add_78 : decode cX3_add 78 = .ok (.istore 4, 2) := by decide +kernel
theorem dX3_add_80 : decode cX3_add 80 = .ok (.aload_n 0, 1) := by decide +kernel
theorem dX3_add_81 : decode cX3_add 81 = .ok (.getfield 37, 3) := by decide +kernel
theorem dX3_add_84 : decode cX3_add 84 = .ok (.bipush 64, 2) := by decide +kernel
theorem dX3_add_86 : decode cX3_add 86 = .ok (.iload_n 2, 1) := by decide +kernel
theorem dX3_add_87 : decode cX3_add 87 = .ok (.imul, 1) := by decide +kernel
theorem dX3_add_88 : decode cX3_add 88 = .ok (.iload_n 3, 1) := by decide +kernel
theorem dX3_add_89 : decode cX3_add 89 = .ok (.iadd, 1) := by decide +kernel
theorem dX3_add_90 : decode cX3_add 90 = .ok (.iload 4, 2) := by decide +kernel
theorem dX3_add_92 : decode cX3_add 92 = .ok (.iastore, 1) := by decide +kernel
theorem dX3_add_93 : decode cX3_add 93 = .ok (.aload_n 0, 1) := by decide +kernel
theorem dX3_add_94 : decode cX3_add 94 = .ok (.getfield 34, 3) := by decide +kernel
theorem dX3_add_97 : decode cX3_add 97 = .ok (.iload 4, 2) := by decide +kernel
theorem dX3_add_99 : decode cX3_add 99 = .ok (.iload_n 3, 1) := by decide +kernel
theorem dX3_add_100 : decode cX3_add 100 = .ok (.iload_n 1, 1) := by decide +kernel
theorem dX3_add_101 : decode cX3_add 101 = .ok (.iand, 1) := by decide +kernel
theorem dX3_add_102 : decode cX3_add 102 = .ok (.iastore, 1) := by decide +kernel
theorem dX3_add_103 : decode cX3_add 103 = .ok (.iinc 3 1, 3) := by decide +kernel
theorem dX3_add_106 : decode cX3_add 106 = .ok (.goto (-46), 3) := by decide +kernel
theorem dX3_add_109 : decode cX3_add 109 = .ok (.aload_n 0, 1) := by decide +kernel
theorem dX3_add_110 : decode cX3_add 110 = .ok (.dup, 1) := by decide +kernel
theorem dX3_add_111 : decode cX3_add 111 = .ok (.getfield 15, 3) := by decide +kernel
theorem dX3_add_114 : decode cX3_add 114 = .ok (.iconst 1, 1) := by decide +kernel
theorem dX3_add_115 : decode cX3_add 115 = .ok (.iadd, 1) := by decide +kernel
theorem dX3_add_116 : decode cX3_add 116 = .ok (.putfield 15, 3) := by decide +kernel
theorem dX3_add_119 : decode cX3_add 119 = .ok (.aload_n 0, 1) := by decide +kernel
theorem dX3_add_120 : decode cX3_add 120 = .ok (.dup, 1) := by decide +kernel
theorem dX3_add_121 : decode cX3_add 121 = .ok (.getfield 18, 3) := by decide +kernel
theorem dX3_add_124 : decode cX3_add 124 = .ok (.iconst 1, 1) := by decide +kernel
theorem dX3_add_125 : decode cX3_add 125 = .ok (.iadd, 1) := by decide +kernel
theorem dX3_add_126 : decode cX3_add 126 = .ok (.putfield 18, 3) := by decide +kernel
theorem dX3_add_129 : decode cX3_add 129 = .ok (.iload_n 2, 1) := by decide +kernel
theorem dX3_add_130 : decode cX3_add 130 = .ok (.ireturn, 1) := by decide +kernel
theorem dX3_numberOf_0 : decode cX3_numberOf 0 = .ok (.iconst 0, 1) := by decide +kernel
theorem dX3_numberOf_1 : decode cX3_numberOf 1 = .ok (.istore_n 2, 1) := by decide +kernel
theorem dX3_numberOf_2 : decode cX3_numberOf 2 = .ok (.iconst 0, 1) := by decide +kernel
theorem dX3_numberOf_3 : decode cX3_numberOf 3 = .ok (.istore_n 3, 1) := by decide +kernel
theorem dX3_numberOf_4 : decode cX3_numberOf 4 = .ok (.iconst 0, 1) := by decide +kernel
theorem dX3_numberOf_5 : decode cX3_numberOf 5 = .ok (.istore 4, 2) := by decide +kernel
theorem dX3_numberOf_7 : decode cX3_numberOf 7 = .ok (.iload 4, 2) := by decide +kernel
theorem dX3_numberOf_9 : decode cX3_numberOf 9 = .ok (.bipush 6, 2) := by decide +kernel
theorem dX3_numberOf_11 : decode cX3_numberOf 11 = .ok (.if_icmp .ge 33, 3) := by decide +kernel
theorem dX3_numberOf_14 : decode cX3_numberOf 14 = .ok (.iload_n 0, 1) := by decide +kernel
theorem dX3_numberOf_15 : decode cX3_numberOf 15 = .ok (.iload 4, 2) := by decide +kernel
theorem dX3_numberOf_17 : decode cX3_numberOf 17 = .ok (.ishr, 1) := by decide +kernel
theorem dX3_numberOf_18 : decode cX3_numberOf 18 = .ok (.iconst 1, 1) := by decide +kernel
theorem dX3_numberOf_19 : decode cX3_numberOf 19 = .ok (.iand, 1) := by decide +kernel
theorem dX3_numberOf_20 : decode cX3_numberOf 20 = .ok (.iconst 1, 1) := by decide +kernel
theorem dX3_numberOf_21 : decode cX3_numberOf 21 = .ok (.if_icmp .ne 17, 3) := by decide +kernel
theorem dX3_numberOf_24 : decode cX3_numberOf 24 = .ok (.iload_n 2, 1) := by decide +kernel
theorem dX3_numberOf_25 : decode cX3_numberOf 25 = .ok (.iload_n 1, 1) := by decide +kernel
theorem dX3_numberOf_26 : decode cX3_numberOf 26 = .ok (.iload 4, 2) := by decide +kernel
theorem dX3_numberOf_28 : decode cX3_numberOf 28 = .ok (.ishr, 1) := by decide +kernel
theorem dX3_numberOf_29 : decode cX3_numberOf 29 = .ok (.iconst 1, 1) := by decide +kernel
theorem dX3_numberOf_30 : decode cX3_numberOf 30 = .ok (.iand, 1) := by decide +kernel
theorem dX3_numberOf_31 : decode cX3_numberOf 31 = .ok (.iload_n 3, 1) := by decide +kernel
theorem dX3_numberOf_32 : decode cX3_numberOf 32 = .ok (.ishl, 1) := by decide +kernel
theorem dX3_numberOf_33 : decode cX3_numberOf 33 = .ok (.ior, 1) := by decide +kernel
theorem dX3_numberOf_34 : decode cX3_numberOf 34 = .ok (.istore_n 2, 1) := by decide +kernel
theorem dX3_numberOf_35 : decode cX3_numberOf 35 = .ok (.iinc 3 1, 3) := by decide +kernel
theorem dX3_numberOf_38 : decode cX3_numberOf 38 = .ok (.iinc 4 1, 3) := by decide +kernel
theorem dX3_numberOf_41 : decode cX3_numberOf 41 = .ok (.goto (-34), 3) := by decide +kernel
theorem dX3_numberOf_44 : decode cX3_numberOf 44 = .ok (.iload_n 2, 1) := by decide +kernel
theorem dX3_numberOf_45 : decode cX3_numberOf 45 = .ok (.ireturn, 1) := by decide +kernel
theorem dX3_removeLatest_0 : decode cX3_removeLatest 0 = .ok (.aload_n 0, 1) := by decide +kernel
theorem dX3_removeLatest_1 : decode cX3_removeLatest 1 = .ok (.dup, 1) := by decide +kernel
theorem dX3_removeLatest_2 : decode cX3_removeLatest 2 = .ok (.getfield 15, 3) := by decide +kernel
theorem dX3_removeLatest_5 : decode cX3_removeLatest 5 = .ok (.iconst 1, 1) := by decide +kernel
theorem dX3_removeLatest_6 : decode cX3_removeLatest 6 = .ok (.isub, 1) := by decide +kernel
theorem dX3_removeLatest_7 : decode cX3_removeLatest 7 = .ok (.putfield 15, 3) := by decide +kernel
theorem dX3_removeLatest_10 : decode cX3_removeLatest 10 = .ok (.aload_n 0, 1) := by decide +kernel
theorem dX3_removeLatest_11 : decode cX3_removeLatest 11 = .ok (.dup, 1) := by decide +kernel
theorem dX3_removeLatest_12 : decode cX3_removeLatest 12 = .ok (.getfield 18, 3) := by decide +kernel
theorem dX3_removeLatest_15 : decode cX3_removeLatest 15 = .ok (.iconst 1, 1) := by decide +kernel
theorem dX3_removeLatest_16 : decode cX3_removeLatest 16 = .ok (.iadd, 1) := by decide +kernel
theorem dX3_removeLatest_17 : decode cX3_removeLatest 17 = .ok (.putfield 18, 3) := by decide +kernel
theorem dX3_removeLatest_20 : decode cX3_removeLatest 20 = .ok (.aload_n 0, 1) := by decide +kernel
theorem dX3_removeLatest_21 : decode cX3_removeLatest 21 = .ok (.getfield 15, 3) := by decide +kernel
theorem dX3_removeLatest_24 : decode cX3_removeLatest 24 = .ok (.ireturn, 1) := by decide +kernel
theorem dX3_setWeight_0 : decode cX3_setWeight 0 = .ok (.aload_n 0, 1) := by decide +kernel
theorem dX3_setWeight_1 : decode cX3_setWeight 1 = .ok (.getfield 28, 3) := by decide +kernel
theorem dX3_setWeight_4 : decode cX3_setWeight 4 = .ok (.iload_n 1, 1) := by decide +kernel
theorem dX3_setWeight_5 : decode cX3_setWeight 5 = .ok (.iload_n 2, 1) := by decide +kernel
theorem dX3_setWeight_6 : decode cX3_setWeight 6 = .ok (.iastore, 1) := by decide +kernel
theorem dX3_setWeight_7 : decode cX3_setWeight 7 = .ok (.aload_n 0, 1) := by decide +kernel
theorem dX3_setWeight_8 : decode cX3_setWeight 8 = .ok (.dup, 1) := by decide +kernel
theorem dX3_setWeight_9 : decode cX3_setWeight 9 = .ok (.getfield 18, 3) := by decide +kernel
theorem dX3_setWeight_12 : decode cX3_setWeight 12 = .ok (.iconst 1, 1) := by decide +kernel
theorem dX3_setWeight_13 : decode cX3_setWeight 13 = .ok (.iadd, 1) := by decide +kernel
theorem dX3_setWeight_14 : decode cX3_setWeight 14 = .ok (.putfield 18, 3) := by decide +kernel
theorem dX3_setWeight_17 : decode cX3_setWeight 17 = .ok (.return_, 1) := by decide +kernel
theorem dX3_weighBy_0 : decode cX3_weighBy 0 = .ok (.aload_n 0, 1) := by decide +kernel
theorem dX3_weighBy_1 : decode cX3_weighBy 1 = .ok (.getfield 28, 3) := by decide +kernel
theorem dX3_weighBy_4 : decode cX3_weighBy 4 = .ok (.iconst 0, 1) := by decide +kernel
theorem dX3_weighBy_5 : decode cX3_weighBy 5 = .ok (.invokestatic 68, 3) := by decide +kernel
theorem dX3_weighBy_8 : decode cX3_weighBy 8 = .ok (.iconst 0, 1) := by decide +kernel
theorem dX3_weighBy_9 : decode cX3_weighBy 9 = .ok (.istore_n 2, 1) := by decide +kernel
theorem dX3_weighBy_10 : decode cX3_weighBy 10 = .ok (.iload_n 2, 1) := by decide +kernel
theorem dX3_weighBy_11 : decode cX3_weighBy 11 = .ok (.aload_n 0, 1) := by decide +kernel
theorem dX3_weighBy_12 : decode cX3_weighBy 12 = .ok (.invokevirtual 60, 3) := by decide +kernel
theorem dX3_weighBy_15 : decode cX3_weighBy 15 = .ok (.if_icmp .ge 49, 3) := by decide +kernel
theorem dX3_weighBy_18 : decode cX3_weighBy 18 = .ok (.iload_n 1, 1) := by decide +kernel
theorem dX3_weighBy_19 : decode cX3_weighBy 19 = .ok (.iload_n 2, 1) := by decide +kernel
theorem dX3_weighBy_20 : decode cX3_weighBy 20 = .ok (.ishr, 1) := by decide +kernel
theorem dX3_weighBy_21 : decode cX3_weighBy 21 = .ok (.iconst 1, 1) := by decide +kernel
theorem dX3_weighBy_22 : decode cX3_weighBy 22 = .ok (.iand, 1) := by decide +kernel
theorem dX3_weighBy_23 : decode cX3_weighBy 23 = .ok (.iconst 1, 1) := by decide +kernel
theorem dX3_weighBy_24 : decode cX3_weighBy 24 = .ok (.if_icmp .ne 34, 3) := by decide +kernel
theorem dX3_weighBy_27 : decode cX3_weighBy 27 = .ok (.iconst 0, 1) := by decide +kernel
theorem dX3_weighBy_28 : decode cX3_weighBy 28 = .ok (.istore_n 3, 1) := by decide +kernel
theorem dX3_weighBy_29 : decode cX3_weighBy 29 = .ok (.iload_n 3, 1) := by decide +kernel
theorem dX3_weighBy_30 : decode cX3_weighBy 30 = .ok (.aload_n 0, 1) := by decide +kernel
theorem dX3_weighBy_31 : decode cX3_weighBy 31 = .ok (.getfield 15, 3) := by decide +kernel
theorem dX3_weighBy_34 : decode cX3_weighBy 34 = .ok (.if_icmp .ge 24, 3) := by decide +kernel
theorem dX3_weighBy_37 : decode cX3_weighBy 37 = .ok (.aload_n 0, 1) := by decide +kernel
theorem dX3_weighBy_38 : decode cX3_weighBy 38 = .ok (.getfield 28, 3) := by decide +kernel
theorem dX3_weighBy_41 : decode cX3_weighBy 41 = .ok (.aload_n 0, 1) := by decide +kernel
theorem dX3_weighBy_42 : decode cX3_weighBy 42 = .ok (.iload_n 3, 1) := by decide +kernel
theorem dX3_weighBy_43 : decode cX3_weighBy 43 = .ok (.iload_n 2, 1) := by decide +kernel
theorem dX3_weighBy_44 : decode cX3_weighBy 44 = .ok (.invokevirtual 74, 3) := by decide +kernel
theorem dX3_weighBy_47 : decode cX3_weighBy 47 = .ok (.dup2, 1) := by decide +kernel
theorem dX3_weighBy_48 : decode cX3_weighBy 48 = .ok (.iaload, 1) := by decide +kernel
theorem dX3_weighBy_49 : decode cX3_weighBy 49 = .ok (.iconst 1, 1) := by decide +kernel
theorem dX3_weighBy_50 : decode cX3_weighBy 50 = .ok (.iadd, 1) := by decide +kernel
theorem dX3_weighBy_51 : decode cX3_weighBy 51 = .ok (.iastore, 1) := by decide +kernel
theorem dX3_weighBy_52 : decode cX3_weighBy 52 = .ok (.iinc 3 1, 3) := by decide +kernel
theorem dX3_weighBy_55 : decode cX3_weighBy 55 = .ok (.goto (-26), 3) := by decide +kernel
theorem dX3_weighBy_58 : decode cX3_weighBy 58 = .ok (.iinc 2 1, 3) := by decide +kernel
theorem dX3_weighBy_61 : decode cX3_weighBy 61 = .ok (.goto (-51), 3) := by decide +kernel
theorem dX3_weighBy_64 : decode cX3_weighBy 64 = .ok (.aload_n 0, 1) := by decide +kernel
theorem dX3_weighBy_65 : decode cX3_weighBy 65 = .ok (.dup, 1) := by decide +kernel
theorem dX3_weighBy_66 : decode cX3_weighBy 66 = .ok (.getfield 18, 3) := by decide +kernel
theorem dX3_weighBy_69 : decode cX3_weighBy 69 = .ok (.iconst 1, 1) := by decide +kernel
theorem dX3_weighBy_70 : decode cX3_weighBy 70 = .ok (.iadd, 1) := by decide +kernel
theorem dX3_weighBy_71 : decode cX3_weighBy 71 = .ok (.putfield 18, 3) := by decide +kernel
theorem dX3_weighBy_74 : decode cX3_weighBy 74 = .ok (.return_, 1) := by decide +kernel
theorem dX3_placeBy_0 : decode cX3_placeBy 0 = .ok (.aload_n 0, 1) := by decide +kernel
theorem dX3_placeBy_1 : decode cX3_placeBy 1 = .ok (.getfield 37, 3) := by decide +kernel
theorem dX3_placeBy_4 : decode cX3_placeBy 4 = .ok (.bipush 64, 2) := by decide +kernel
theorem dX3_placeBy_6 : decode cX3_placeBy 6 = .ok (.iload_n 1, 1) := by decide +kernel
theorem dX3_placeBy_7 : decode cX3_placeBy 7 = .ok (.imul, 1) := by decide +kernel
theorem dX3_placeBy_8 : decode cX3_placeBy 8 = .ok (.iload_n 2, 1) := by decide +kernel
theorem dX3_placeBy_9 : decode cX3_placeBy 9 = .ok (.iadd, 1) := by decide +kernel
theorem dX3_placeBy_10 : decode cX3_placeBy 10 = .ok (.iaload, 1) := by decide +kernel
theorem dX3_placeBy_11 : decode cX3_placeBy 11 = .ok (.ireturn, 1) := by decide +kernel
theorem dX3_weightSum_0 : decode cX3_weightSum 0 = .ok (.iconst 0, 1) := by decide +kernel
theorem dX3_weightSum_1 : decode cX3_weightSum 1 = .ok (.istore_n 2, 1) := by decide +kernel
theorem dX3_weightSum_2 : decode cX3_weightSum 2 = .ok (.iconst 0, 1) := by decide +kernel
theorem dX3_weightSum_3 : decode cX3_weightSum 3 = .ok (.istore_n 3, 1) := by decide +kernel
theorem dX3_weightSum_4 : decode cX3_weightSum 4 = .ok (.iload_n 3, 1) := by decide +kernel
theorem dX3_weightSum_5 : decode cX3_weightSum 5 = .ok (.aload_n 0, 1) := by decide +kernel
theorem dX3_weightSum_6 : decode cX3_weightSum 6 = .ok (.iload_n 1, 1) := by decide +kernel
theorem dX3_weightSum_7 : decode cX3_weightSum 7 = .ok (.invokevirtual 51, 3) := by decide +kernel
theorem dX3_weightSum_10 : decode cX3_weightSum 10 = .ok (.if_icmp .ge 23, 3) := by decide +kernel
theorem dX3_weightSum_13 : decode cX3_weightSum 13 = .ok (.iload_n 2, 1) := by decide +kernel
theorem dX3_weightSum_14 : decode cX3_weightSum 14 = .ok (.aload_n 0, 1) := by decide +kernel
theorem dX3_weightSum_15 : decode cX3_weightSum 15 = .ok (.getfield 28, 3) := by decide +kernel
theorem dX3_weightSum_18 : decode cX3_weightSum 18 = .ok (.bipush 8, 2) := by decide +kernel
theorem dX3_weightSum_20 : decode cX3_weightSum 20 = .ok (.iload_n 1, 1) := by decide +kernel
theorem dX3_weightSum_21 : decode cX3_weightSum 21 = .ok (.imul, 1) := by decide +kernel
theorem dX3_weightSum_22 : decode cX3_weightSum 22 = .ok (.iload_n 3, 1) := by decide +kernel
theorem dX3_weightSum_23 : decode cX3_weightSum 23 = .ok (.iadd, 1) := by decide +kernel
theorem dX3_weightSum_24 : decode cX3_weightSum 24 = .ok (.iaload, 1) := by decide +kernel
theorem dX3_weightSum_25 : decode cX3_weightSum 25 = .ok (.iadd, 1) := by decide +kernel
theorem dX3_weightSum_26 : decode cX3_weightSum 26 = .ok (.istore_n 2, 1) := by decide +kernel
theorem dX3_weightSum_27 : decode cX3_weightSum 27 = .ok (.iinc 3 1, 3) := by decide +kernel
theorem dX3_weightSum_30 : decode cX3_weightSum 30 = .ok (.goto (-26), 3) := by decide +kernel
theorem dX3_weightSum_33 : decode cX3_weightSum 33 = .ok (.iload_n 2, 1) := by decide +kernel
theorem dX3_weightSum_34 : decode cX3_weightSum 34 = .ok (.ireturn, 1) := by decide +kernel
theorem dX3_weightsAboveZero_0 : decode cX3_weightsAboveZero 0 = .ok (.iconst 0, 1) := by decide +kernel
theorem dX3_weightsAboveZero_1 : decode cX3_weightsAboveZero 1 = .ok (.istore_n 1, 1) := by decide +kernel
theorem dX3_weightsAboveZero_2 : decode cX3_weightsAboveZero 2 = .ok (.iconst 0, 1) := by decide +kernel
theorem dX3_weightsAboveZero_3 : decode cX3_weightsAboveZero 3 = .ok (.istore_n 2, 1) := by decide +kernel
theorem dX3_weightsAboveZero_4 : decode cX3_weightsAboveZero 4 = .ok (.iload_n 2, 1) := by decide +kernel
theorem dX3_weightsAboveZero_5 : decode cX3_weightsAboveZero 5 = .ok (.aload_n 0, 1) := by decide +kernel
theorem dX3_weightsAboveZero_6 : decode cX3_weightsAboveZero 6 = .ok (.getfield 15, 3) := by decide +kernel
theorem dX3_weightsAboveZero_9 : decode cX3_weightsAboveZero 9 = .ok (.if_icmp .ge 43, 3) := by decide +kernel
theorem dX3_weightsAboveZero_12 : decode cX3_weightsAboveZero 12 = .ok (.iconst 0, 1) := by decide +kernel
theorem dX3_weightsAboveZero_13 : decode cX3_weightsAboveZero 13 = .ok (.istore_n 3, 1) := by decide +kernel
theorem dX3_weightsAboveZero_14 : decode cX3_weightsAboveZero 14 = .ok (.iload_n 3, 1) := by decide +kernel
theorem dX3_weightsAboveZero_15 : decode cX3_weightsAboveZero 15 = .ok (.aload_n 0, 1) := by decide +kernel
theorem dX3_weightsAboveZero_16 : decode cX3_weightsAboveZero 16 = .ok (.iload_n 2, 1) := by decide +kernel
theorem dX3_weightsAboveZero_17 : decode cX3_weightsAboveZero 17 = .ok (.invokevirtual 51, 3) := by decide +kernel
theorem dX3_weightsAboveZero_20 : decode cX3_weightsAboveZero 20 = .ok (.if_icmp .ge 26, 3) := by decide +kernel
theorem dX3_weightsAboveZero_23 : decode cX3_weightsAboveZero 23 = .ok (.aload_n 0, 1) := by decide +kernel
theorem dX3_weightsAboveZero_24 : decode cX3_weightsAboveZero 24 = .ok (.getfield 28, 3) := by decide +kernel
theorem dX3_weightsAboveZero_27 : decode cX3_weightsAboveZero 27 = .ok (.bipush 8, 2) := by decide +kernel
theorem dX3_weightsAboveZero_29 : decode cX3_weightsAboveZero 29 = .ok (.iload_n 2, 1) := by decide +kernel
theorem dX3_weightsAboveZero_30 : decode cX3_weightsAboveZero 30 = .ok (.imul, 1) := by decide +kernel
theorem dX3_weightsAboveZero_31 : decode cX3_weightsAboveZero 31 = .ok (.iload_n 3, 1) := by decide +kernel
theorem dX3_weightsAboveZero_32 : decode cX3_weightsAboveZero 32 = .ok (.iadd, 1) := by decide +kernel
theorem dX3_weightsAboveZero_33 : decode cX3_weightsAboveZero 33 = .ok (.iaload, 1) := by decide +kernel
theorem dX3_weightsAboveZero_34 : decode cX3_weightsAboveZero 34 = .ok (.ifCond .le 6, 3) := by decide +kernel
theorem dX3_weightsAboveZero_37 : decode cX3_weightsAboveZero 37 = .ok (.iinc 1 1, 3) := by decide +kernel
theorem dX3_weightsAboveZero_40 : decode cX3_weightsAboveZero 40 = .ok (.iinc 3 1, 3) := by decide +kernel
theorem dX3_weightsAboveZero_43 : decode cX3_weightsAboveZero 43 = .ok (.goto (-29), 3) := by decide +kernel
theorem dX3_weightsAboveZero_46 : decode cX3_weightsAboveZero 46 = .ok (.iinc 2 1, 3) := by decide +kernel
theorem dX3_weightsAboveZero_49 : decode cX3_weightsAboveZero 49 = .ok (.goto (-45), 3) := by decide +kernel
theorem dX3_weightsAboveZero_52 : decode cX3_weightsAboveZero 52 = .ok (.iload_n 1, 1) := by decide +kernel
theorem dX3_weightsAboveZero_53 : decode cX3_weightsAboveZero 53 = .ok (.ireturn, 1) := by decide +kernel
theorem dX3_firstQuarrel_0 : decode cX3_firstQuarrel 0 = .ok (.iconst 0, 1) := by decide +kernel
theorem dX3_firstQuarrel_1 : decode cX3_firstQuarrel 1 = .ok (.istore_n 1, 1) := by decide +kernel
theorem dX3_firstQuarrel_2 : decode cX3_firstQuarrel 2 = .ok (.iload_n 1, 1) := by decide +kernel
theorem dX3_firstQuarrel_3 : decode cX3_firstQuarrel 3 = .ok (.aload_n 0, 1) := by decide +kernel
theorem dX3_firstQuarrel_4 : decode cX3_firstQuarrel 4 = .ok (.getfield 15, 3) := by decide +kernel
theorem dX3_firstQuarrel_7 : decode cX3_firstQuarrel 7 = .ok (.if_icmp .ge 43, 3) := by decide +kernel
theorem dX3_firstQuarrel_10 : decode cX3_firstQuarrel 10 = .ok (.iload_n 1, 1) := by decide +kernel
theorem dX3_firstQuarrel_11 : decode cX3_firstQuarrel 11 = .ok (.iconst 1, 1) := by decide +kernel
theorem dX3_firstQuarrel_12 : decode cX3_firstQuarrel 12 = .ok (.iadd, 1) := by decide +kernel
theorem dX3_firstQuarrel_13 : decode cX3_firstQuarrel 13 = .ok (.istore_n 2, 1) := by decide +kernel
theorem dX3_firstQuarrel_14 : decode cX3_firstQuarrel 14 = .ok (.iload_n 2, 1) := by decide +kernel
theorem dX3_firstQuarrel_15 : decode cX3_firstQuarrel 15 = .ok (.aload_n 0, 1) := by decide +kernel
theorem dX3_firstQuarrel_16 : decode cX3_firstQuarrel 16 = .ok (.getfield 15, 3) := by decide +kernel
theorem dX3_firstQuarrel_19 : decode cX3_firstQuarrel 19 = .ok (.if_icmp .ge 25, 3) := by decide +kernel
theorem dX3_firstQuarrel_22 : decode cX3_firstQuarrel 22 = .ok (.aload_n 0, 1) := by decide +kernel
theorem dX3_firstQuarrel_23 : decode cX3_firstQuarrel 23 = .ok (.iload_n 1, 1) := by decide +kernel
theorem dX3_firstQuarrel_24 : decode cX3_firstQuarrel 24 = .ok (.iload_n 2, 1) := by decide +kernel
theorem dX3_firstQuarrel_25 : decode cX3_firstQuarrel 25 = .ok (.invokevirtual 77, 3) := by decide +kernel
theorem dX3_firstQuarrel_28 : decode cX3_firstQuarrel 28 = .ok (.ifCond .eq 10, 3) := by decide +kernel
theorem dX3_firstQuarrel_31 : decode cX3_firstQuarrel 31 = .ok (.bipush 8, 2) := by decide +kernel
theorem dX3_firstQuarrel_33 : decode cX3_firstQuarrel 33 = .ok (.iload_n 1, 1) := by decide +kernel
theorem dX3_firstQuarrel_34 : decode cX3_firstQuarrel 34 = .ok (.imul, 1) := by decide +kernel
theorem dX3_firstQuarrel_35 : decode cX3_firstQuarrel 35 = .ok (.iload_n 2, 1) := by decide +kernel
theorem dX3_firstQuarrel_36 : decode cX3_firstQuarrel 36 = .ok (.iadd, 1) := by decide +kernel
theorem dX3_firstQuarrel_37 : decode cX3_firstQuarrel 37 = .ok (.ireturn, 1) := by decide +kernel
theorem dX3_firstQuarrel_38 : decode cX3_firstQuarrel 38 = .ok (.iinc 2 1, 3) := by decide +kernel
theorem dX3_firstQuarrel_41 : decode cX3_firstQuarrel 41 = .ok (.goto (-27), 3) := by decide +kernel
theorem dX3_firstQuarrel_44 : decode cX3_firstQuarrel 44 = .ok (.iinc 1 1, 3) := by decide +kernel
theorem dX3_firstQuarrel_47 : decode cX3_firstQuarrel 47 = .ok (.goto (-45), 3) := by decide +kernel
theorem dX3_firstQuarrel_50 : decode cX3_firstQuarrel 50 = .ok (.bipush (-4), 2) := by decide +kernel
theorem dX3_firstQuarrel_52 : decode cX3_firstQuarrel 52 = .ok (.ireturn, 1) := by decide +kernel
theorem dX3_areUnlike_0 : decode cX3_areUnlike 0 = .ok (.aload_n 0, 1) := by decide +kernel
theorem dX3_areUnlike_1 : decode cX3_areUnlike 1 = .ok (.getfield 21, 3) := by decide +kernel
theorem dX3_areUnlike_4 : decode cX3_areUnlike 4 = .ok (.iload_n 1, 1) := by decide +kernel
theorem dX3_areUnlike_5 : decode cX3_areUnlike 5 = .ok (.iaload, 1) := by decide +kernel
theorem dX3_areUnlike_6 : decode cX3_areUnlike 6 = .ok (.aload_n 0, 1) := by decide +kernel
theorem dX3_areUnlike_7 : decode cX3_areUnlike 7 = .ok (.getfield 21, 3) := by decide +kernel
theorem dX3_areUnlike_10 : decode cX3_areUnlike 10 = .ok (.iload_n 2, 1) := by decide +kernel
theorem dX3_areUnlike_11 : decode cX3_areUnlike 11 = .ok (.iaload, 1) := by decide +kernel
theorem dX3_areUnlike_12 : decode cX3_areUnlike 12 = .ok (.iand, 1) := by decide +kernel
theorem dX3_areUnlike_13 : decode cX3_areUnlike 13 = .ok (.istore_n 3, 1) := by decide +kernel
theorem dX3_areUnlike_14 : decode cX3_areUnlike 14 = .ok (.aload_n 0, 1) := by decide +kernel
theorem dX3_areUnlike_15 : decode cX3_areUnlike 15 = .ok (.getfield 40, 3) := by decide +kernel
theorem dX3_areUnlike_18 : decode cX3_areUnlike 18 = .ok (.iconst 0, 1) := by decide +kernel
theorem dX3_areUnlike_19 : decode cX3_areUnlike 19 = .ok (.invokestatic 68, 3) := by decide +kernel
theorem dX3_areUnlike_22 : decode cX3_areUnlike 22 = .ok (.aload_n 0, 1) := by decide +kernel
theorem dX3_areUnlike_23 : decode cX3_areUnlike 23 = .ok (.iload_n 1, 1) := by decide +kernel
theorem dX3_areUnlike_24 : decode cX3_areUnlike 24 = .ok (.iload_n 3, 1) := by decide +kernel
theorem dX3_areUnlike_25 : decode cX3_areUnlike 25 = .ok (.iconst 1, 1) := by decide +kernel
theorem dX3_areUnlike_26 : decode cX3_areUnlike 26 = .ok (.invokevirtual 81, 3) := by decide +kernel
theorem dX3_areUnlike_29 : decode cX3_areUnlike 29 = .ok (.aload_n 0, 1) := by decide +kernel
theorem dX3_areUnlike_30 : decode cX3_areUnlike 30 = .ok (.iload_n 2, 1) := by decide +kernel
theorem dX3_areUnlike_31 : decode cX3_areUnlike 31 = .ok (.iload_n 3, 1) := by decide +kernel
theorem dX3_areUnlike_32 : decode cX3_areUnlike 32 = .ok (.iconst (-1), 1) := by decide +kernel
theorem dX3_areUnlike_33 : decode cX3_areUnlike 33 = .ok (.invokevirtual 81, 3) := by decide +kernel
theorem dX3_areUnlike_36 : decode cX3_areUnlike 36 = .ok (.aload_n 0, 1) := by decide +kernel
theorem dX3_areUnlike_37 : decode cX3_areUnlike 37 = .ok (.getfield 40, 3) := by decide +kernel
theorem dX3_areUnlike_40 : decode cX3_areUnlike 40 = .ok (.astore 4, 2) := by decide +kernel
theorem dX3_areUnlike_42 : decode cX3_areUnlike 42 = .ok (.aload 4, 2) := by decide +kernel
theorem dX3_areUnlike_44 : decode cX3_areUnlike 44 = .ok (.arraylength, 1) := by decide +kernel
theorem dX3_areUnlike_45 : decode cX3_areUnlike 45 = .ok (.istore 5, 2) := by decide +kernel
theorem dX3_areUnlike_47 : decode cX3_areUnlike 47 = .ok (.iconst 0, 1) := by decide +kernel
theorem dX3_areUnlike_48 : decode cX3_areUnlike 48 = .ok (.istore 6, 2) := by decide +kernel
theorem dX3_areUnlike_50 : decode cX3_areUnlike 50 = .ok (.iload 6, 2) := by decide +kernel
theorem dX3_areUnlike_52 : decode cX3_areUnlike 52 = .ok (.iload 5, 2) := by decide +kernel
theorem dX3_areUnlike_54 : decode cX3_areUnlike 54 = .ok (.if_icmp .ge 23, 3) := by decide +kernel
theorem dX3_areUnlike_57 : decode cX3_areUnlike 57 = .ok (.aload 4, 2) := by decide +kernel
theorem dX3_areUnlike_59 : decode cX3_areUnlike 59 = .ok (.iload 6, 2) := by decide +kernel
theorem dX3_areUnlike_61 : decode cX3_areUnlike 61 = .ok (.iaload, 1) := by decide +kernel
theorem dX3_areUnlike_62 : decode cX3_areUnlike 62 = .ok (.istore 7, 2) := by decide +kernel
theorem dX3_areUnlike_64 : decode cX3_areUnlike 64 = .ok (.iload 7, 2) := by decide +kernel
theorem dX3_areUnlike_66 : decode cX3_areUnlike 66 = .ok (.ifCond .eq 5, 3) := by decide +kernel
theorem dX3_areUnlike_69 : decode cX3_areUnlike 69 = .ok (.iconst 1, 1) := by decide +kernel
theorem dX3_areUnlike_70 : decode cX3_areUnlike 70 = .ok (.ireturn, 1) := by decide +kernel
theorem dX3_areUnlike_71 : decode cX3_areUnlike 71 = .ok (.iinc 6 1, 3) := by decide +kernel
theorem dX3_areUnlike_74 : decode cX3_areUnlike 74 = .ok (.goto (-24), 3) := by decide +kernel
theorem dX3_areUnlike_77 : decode cX3_areUnlike 77 = .ok (.iconst 0, 1) := by decide +kernel
theorem dX3_areUnlike_78 : decode cX3_areUnlike 78 = .ok (.ireturn, 1) := by decide +kernel
theorem dX3_addToSums_0 : decode cX3_addToSums 0 = .ok (.iconst 0, 1) := by decide +kernel
theorem dX3_addToSums_1 : decode cX3_addToSums 1 = .ok (.istore 4, 2) := by decide +kernel
theorem dX3_addToSums_3 : decode cX3_addToSums 3 = .ok (.iload 4, 2) := by decide +kernel
theorem dX3_addToSums_5 : decode cX3_addToSums 5 = .ok (.aload_n 0, 1) := by decide +kernel
theorem dX3_addToSums_6 : decode cX3_addToSums 6 = .ok (.iload_n 1, 1) := by decide +kernel
theorem dX3_addToSums_7 : decode cX3_addToSums 7 = .ok (.invokevirtual 51, 3) := by decide +kernel
theorem dX3_addToSums_10 : decode cX3_addToSums 10 = .ok (.if_icmp .ge 44, 3) := by decide +kernel
theorem dX3_addToSums_13 : decode cX3_addToSums 13 = .ok (.bipush 8, 2) := by decide +kernel
theorem dX3_addToSums_15 : decode cX3_addToSums 15 = .ok (.iload_n 1, 1) := by decide +kernel
theorem dX3_addToSums_16 : decode cX3_addToSums 16 = .ok (.imul, 1) := by decide +kernel
theorem dX3_addToSums_17 : decode cX3_addToSums 17 = .ok (.iload 4, 2) := by decide +kernel
theorem dX3_addToSums_19 : decode cX3_addToSums 19 = .ok (.iadd, 1) := by decide +kernel
theorem dX3_addToSums_20 : decode cX3_addToSums 20 = .ok (.istore 5, 2) := by decide +kernel
theorem dX3_addToSums_22 : decode cX3_addToSums 22 = .ok (.aload_n 0, 1) := by decide +kernel
theorem dX3_addToSums_23 : decode cX3_addToSums 23 = .ok (.getfield 40, 3) := by decide +kernel
theorem dX3_addToSums_26 : decode cX3_addToSums 26 = .ok (.aload_n 0, 1) := by decide +kernel
theorem dX3_addToSums_27 : decode cX3_addToSums 27 = .ok (.getfield 34, 3) := by decide +kernel
theorem dX3_addToSums_30 : decode cX3_addToSums 30 = .ok (.iload 5, 2) := by decide +kernel
theorem dX3_addToSums_32 : decode cX3_addToSums 32 = .ok (.iaload, 1) := by decide +kernel
theorem dX3_addToSums_33 : decode cX3_addToSums 33 = .ok (.iload_n 2, 1) := by decide +kernel
theorem dX3_addToSums_34 : decode cX3_addToSums 34 = .ok (.iand, 1) := by decide +kernel
theorem dX3_addToSums_35 : decode cX3_addToSums 35 = .ok (.dup2, 1) := by decide +kernel
theorem dX3_addToSums_36 : decode cX3_addToSums 36 = .ok (.iaload, 1) := by decide +kernel
theorem dX3_addToSums_37 : decode cX3_addToSums 37 = .ok (.iload_n 3, 1) := by decide +kernel
theorem dX3_addToSums_38 : decode cX3_addToSums 38 = .ok (.aload_n 0, 1) := by decide +kernel
theorem dX3_addToSums_39 : decode cX3_addToSums 39 = .ok (.getfield 28, 3) := by decide +kernel
theorem dX3_addToSums_42 : decode cX3_addToSums 42 = .ok (.iload 5, 2) := by decide +kernel
theorem dX3_addToSums_44 : decode cX3_addToSums 44 = .ok (.iaload, 1) := by decide +kernel
theorem dX3_addToSums_45 : decode cX3_addToSums 45 = .ok (.imul, 1) := by decide +kernel
theorem dX3_addToSums_46 : decode cX3_addToSums 46 = .ok (.iadd, 1) := by decide +kernel
theorem dX3_addToSums_47 : decode cX3_addToSums 47 = .ok (.iastore, 1) := by decide +kernel
theorem dX3_addToSums_48 : decode cX3_addToSums 48 = .ok (.iinc 4 1, 3) := by decide +kernel
theorem dX3_addToSums_51 : decode cX3_addToSums 51 = .ok (.goto (-48), 3) := by decide +kernel
theorem dX3_addToSums_54 : decode cX3_addToSums 54 = .ok (.return_, 1) := by decide +kernel
theorem dX3_isPossible_0 : decode cX3_isPossible 0 = .ok (.iconst 0, 1) := by decide +kernel
theorem dX3_isPossible_1 : decode cX3_isPossible 1 = .ok (.istore_n 2, 1) := by decide +kernel
theorem dX3_isPossible_2 : decode cX3_isPossible 2 = .ok (.iload_n 2, 1) := by decide +kernel
theorem dX3_isPossible_3 : decode cX3_isPossible 3 = .ok (.aload_n 0, 1) := by decide +kernel
theorem dX3_isPossible_4 : decode cX3_isPossible 4 = .ok (.getfield 15, 3) := by decide +kernel
theorem dX3_isPossible_7 : decode cX3_isPossible 7 = .ok (.if_icmp .ge 25, 3) := by decide +kernel
theorem dX3_isPossible_10 : decode cX3_isPossible 10 = .ok (.aload_n 0, 1) := by decide +kernel
theorem dX3_isPossible_11 : decode cX3_isPossible 11 = .ok (.getfield 28, 3) := by decide +kernel
theorem dX3_isPossible_14 : decode cX3_isPossible 14 = .ok (.aload_n 0, 1) := by decide +kernel
theorem dX3_isPossible_15 : decode cX3_isPossible 15 = .ok (.iload_n 2, 1) := by decide +kernel
theorem dX3_isPossible_16 : decode cX3_isPossible 16 = .ok (.iload_n 1, 1) := by decide +kernel
theorem dX3_isPossible_17 : decode cX3_isPossible 17 = .ok (.invokevirtual 74, 3) := by decide +kernel
theorem dX3_isPossible_20 : decode cX3_isPossible 20 = .ok (.iaload, 1) := by decide +kernel
theorem dX3_isPossible_21 : decode cX3_isPossible 21 = .ok (.ifCond .ne 5, 3) := by decide +kernel
theorem dX3_isPossible_24 : decode cX3_isPossible 24 = .ok (.iconst 0, 1) := by decide +kernel
theorem dX3_isPossible_25 : decode cX3_isPossible 25 = .ok (.ireturn, 1) := by decide +kernel
theorem dX3_isPossible_26 : decode cX3_isPossible 26 = .ok (.iinc 2 1, 3) := by decide +kernel
theorem dX3_isPossible_29 : decode cX3_isPossible 29 = .ok (.goto (-27), 3) := by decide +kernel
theorem dX3_isPossible_32 : decode cX3_isPossible 32 = .ok (.iconst 1, 1) := by decide +kernel
theorem dX3_isPossible_33 : decode cX3_isPossible 33 = .ok (.ireturn, 1) := by decide +kernel
theorem dX3_findMet_0 : decode cX3_findMet 0 = .ok (.iconst 0, 1) := by decide +kernel
theorem dX3_findMet_1 : decode cX3_findMet 1 = .ok (.istore_n 1, 1) := by decide +kernel
theorem dX3_findMet_2 : decode cX3_findMet 2 = .ok (.iload_n 1, 1) := by decide +kernel
theorem dX3_findMet_3 : decode cX3_findMet 3 = .ok (.bipush 8, 2) := by decide +kernel
theorem dX3_findMet_5 : decode cX3_findMet 5 = .ok (.aload_n 0, 1) := by decide +kernel
theorem dX3_findMet_6 : decode cX3_findMet 6 = .ok (.getfield 15, 3) := by decide +kernel
theorem dX3_findMet_9 : decode cX3_findMet 9 = .ok (.imul, 1) := by decide +kernel
theorem dX3_findMet_10 : decode cX3_findMet 10 = .ok (.if_icmp .ge 16, 3) := by decide +kernel
theorem dX3_findMet_13 : decode cX3_findMet 13 = .ok (.aload_n 0, 1) := by decide +kernel
theorem dX3_findMet_14 : decode cX3_findMet 14 = .ok (.getfield 43, 3) := by decide +kernel
theorem dX3_findMet_17 : decode cX3_findMet 17 = .ok (.iload_n 1, 1) := by decide +kernel
theorem dX3_findMet_18 : decode cX3_findMet 18 = .ok (.iconst 0, 1) := by decide +kernel
theorem dX3_findMet_19 : decode cX3_findMet 19 = .ok (.bastore, 1) := by decide +kernel
theorem dX3_findMet_20 : decode cX3_findMet 20 = .ok (.iinc 1 1, 3) := by decide +kernel
theorem dX3_findMet_23 : decode cX3_findMet 23 = .ok (.goto (-21), 3) := by decide +kernel
theorem dX3_findMet_26 : decode cX3_findMet 26 = .ok (.iconst 0, 1) := by decide +kernel
theorem dX3_findMet_27 : decode cX3_findMet 27 = .ok (.istore_n 1, 1) := by decide +kernel
theorem dX3_findMet_28 : decode cX3_findMet 28 = .ok (.iload_n 1, 1) := by decide +kernel
theorem dX3_findMet_29 : decode cX3_findMet 29 = .ok (.aload_n 0, 1) := by decide +kernel
theorem dX3_findMet_30 : decode cX3_findMet 30 = .ok (.invokevirtual 60, 3) := by decide +kernel
theorem dX3_findMet_33 : decode cX3_findMet 33 = .ok (.if_icmp .ge 45, 3) := by decide +kernel
theorem dX3_findMet_36 : decode cX3_findMet 36 = .ok (.aload_n 0, 1) := by decide +kernel
theorem dX3_findMet_37 : decode cX3_findMet 37 = .ok (.iload_n 1, 1) := by decide +kernel
theorem dX3_findMet_38 : decode cX3_findMet 38 = .ok (.invokevirtual 85, 3) := by decide +kernel
theorem dX3_findMet_41 : decode cX3_findMet 41 = .ok (.ifCond .eq 31, 3) := by decide +kernel
theorem dX3_findMet_44 : decode cX3_findMet 44 = .ok (.iconst 0, 1) := by decide +kernel
theorem dX3_findMet_45 : decode cX3_findMet 45 = .ok (.istore_n 2, 1) := by decide +kernel
theorem dX3_findMet_46 : decode cX3_findMet 46 = .ok (.iload_n 2, 1) := by decide +kernel
theorem dX3_findMet_47 : decode cX3_findMet 47 = .ok (.aload_n 0, 1) := by decide +kernel
theorem dX3_findMet_48 : decode cX3_findMet 48 = .ok (.getfield 15, 3) := by decide +kernel
theorem dX3_findMet_51 : decode cX3_findMet 51 = .ok (.if_icmp .ge 21, 3) := by decide +kernel
theorem dX3_findMet_54 : decode cX3_findMet 54 = .ok (.aload_n 0, 1) := by decide +kernel
theorem dX3_findMet_55 : decode cX3_findMet 55 = .ok (.getfield 43, 3) := by decide +kernel
theorem dX3_findMet_58 : decode cX3_findMet 58 = .ok (.aload_n 0, 1) := by decide +kernel
theorem dX3_findMet_59 : decode cX3_findMet 59 = .ok (.iload_n 2, 1) := by decide +kernel
theorem dX3_findMet_60 : decode cX3_findMet 60 = .ok (.iload_n 1, 1) := by decide +kernel
theorem dX3_findMet_61 : decode cX3_findMet 61 = .ok (.invokevirtual 74, 3) := by decide +kernel
theorem dX3_findMet_64 : decode cX3_findMet 64 = .ok (.iconst 1, 1) := by decide +kernel
theorem dX3_findMet_65 : decode cX3_findMet 65 = .ok (.bastore, 1) := by decide +kernel
theorem dX3_findMet_66 : decode cX3_findMet 66 = .ok (.iinc 2 1, 3) := by decide +kernel
theorem dX3_findMet_69 : decode cX3_findMet 69 = .ok (.goto (-23), 3) := by decide +kernel
theorem dX3_findMet_72 : decode cX3_findMet 72 = .ok (.iinc 1 1, 3) := by decide +kernel
theorem dX3_findMet_75 : decode cX3_findMet 75 = .ok (.goto (-47), 3) := by decide +kernel
theorem dX3_findMet_78 : decode cX3_findMet 78 = .ok (.return_, 1) := by decide +kernel
theorem dX3_stakeSum_0 : decode cX3_stakeSum 0 = .ok (.iconst 0, 1) := by decide +kernel
theorem dX3_stakeSum_1 : decode cX3_stakeSum 1 = .ok (.istore_n 2, 1) := by decide +kernel
theorem dX3_stakeSum_2 : decode cX3_stakeSum 2 = .ok (.iconst 0, 1) := by decide +kernel
theorem dX3_stakeSum_3 : decode cX3_stakeSum 3 = .ok (.istore_n 3, 1) := by decide +kernel
theorem dX3_stakeSum_4 : decode cX3_stakeSum 4 = .ok (.iload_n 3, 1) := by decide +kernel
theorem dX3_stakeSum_5 : decode cX3_stakeSum 5 = .ok (.aload_n 0, 1) := by decide +kernel
theorem dX3_stakeSum_6 : decode cX3_stakeSum 6 = .ok (.getfield 15, 3) := by decide +kernel
theorem dX3_stakeSum_9 : decode cX3_stakeSum 9 = .ok (.if_icmp .ge 23, 3) := by decide +kernel
theorem dX3_stakeSum_12 : decode cX3_stakeSum 12 = .ok (.iload_n 2, 1) := by decide +kernel
theorem dX3_stakeSum_13 : decode cX3_stakeSum 13 = .ok (.aload_n 0, 1) := by decide +kernel
theorem dX3_stakeSum_14 : decode cX3_stakeSum 14 = .ok (.getfield 31, 3) := by decide +kernel
theorem dX3_stakeSum_17 : decode cX3_stakeSum 17 = .ok (.aload_n 0, 1) := by decide +kernel
theorem dX3_stakeSum_18 : decode cX3_stakeSum 18 = .ok (.iload_n 3, 1) := by decide +kernel
theorem dX3_stakeSum_19 : decode cX3_stakeSum 19 = .ok (.iload_n 1, 1) := by decide +kernel
theorem dX3_stakeSum_20 : decode cX3_stakeSum 20 = .ok (.invokevirtual 74, 3) := by decide +kernel
theorem dX3_stakeSum_23 : decode cX3_stakeSum 23 = .ok (.iaload, 1) := by decide +kernel
theorem dX3_stakeSum_24 : decode cX3_stakeSum 24 = .ok (.iadd, 1) := by decide +kernel
theorem dX3_stakeSum_25 : decode cX3_stakeSum 25 = .ok (.istore_n 2, 1) := by decide +kernel
theorem dX3_stakeSum_26 : decode cX3_stakeSum 26 = .ok (.iinc 3 1, 3) := by decide +kernel
theorem dX3_stakeSum_29 : decode cX3_stakeSum 29 = .ok (.goto (-25), 3) := by decide +kernel
end
section
theorem dX3_stakeSum_32 : decode cX3_stakeSum 32 = .ok (.iload_n 2, 1) := by decide +kernel
theorem dX3_stakeSum_33 : decode cX3_stakeSum 33 = .ok (.ireturn, 1) := by decide +kernel
theorem dX3_bestHidden_0 : decode cX3_bestHidden 0 = .ok (.iconst 0, 1) := by decide +kernel
theorem dX3_bestHidden_1 : decode cX3_bestHidden 1 = .ok (.istore_n 1, 1) := by decide +kernel
theorem dX3_bestHidden_2 : decode cX3_bestHidden 2 = .ok (.aload_n 0, 1) := by decide +kernel
theorem dX3_bestHidden_3 : decode cX3_bestHidden 3 = .ok (.iconst 0, 1) := by decide +kernel
theorem dX3_bestHidden_4 : decode cX3_bestHidden 4 = .ok (.invokevirtual 88, 3) := by decide +kernel
theorem dX3_bestHidden_7 : decode cX3_bestHidden 7 = .ok (.istore_n 2, 1) := by decide +kernel
theorem dX3_bestHidden_8 : decode cX3_bestHidden 8 = .ok (.iconst 1, 1) := by decide +kernel
theorem dX3_bestHidden_9 : decode cX3_bestHidden 9 = .ok (.istore_n 3, 1) := by decide +kernel
theorem dX3_bestHidden_10 : decode cX3_bestHidden 10 = .ok (.iload_n 3, 1) := by decide +kernel
theorem dX3_bestHidden_11 : decode cX3_bestHidden 11 = .ok (.aload_n 0, 1) := by decide +kernel
theorem dX3_bestHidden_12 : decode cX3_bestHidden 12 = .ok (.invokevirtual 60, 3) := by decide +kernel
theorem dX3_bestHidden_15 : decode cX3_bestHidden 15 = .ok (.if_icmp .ge 27, 3) := by decide +kernel
theorem dX3_bestHidden_18 : decode cX3_bestHidden 18 = .ok (.aload_n 0, 1) := by decide +kernel
theorem dX3_bestHidden_19 : decode cX3_bestHidden 19 = .ok (.iload_n 3, 1) := by decide +kernel
theorem dX3_bestHidden_20 : decode cX3_bestHidden 20 = .ok (.invokevirtual 88, 3) := by decide +kernel
theorem dX3_bestHidden_23 : decode cX3_bestHidden 23 = .ok (.istore 4, 2) := by decide +kernel
theorem dX3_bestHidden_25 : decode cX3_bestHidden 25 = .ok (.iload 4, 2) := by decide +kernel
theorem dX3_bestHidden_27 : decode cX3_bestHidden 27 = .ok (.iload_n 2, 1) := by decide +kernel
theorem dX3_bestHidden_28 : decode cX3_bestHidden 28 = .ok (.if_icmp .le 8, 3) := by decide +kernel
theorem dX3_bestHidden_31 : decode cX3_bestHidden 31 = .ok (.iload_n 3, 1) := by decide +kernel
theorem dX3_bestHidden_32 : decode cX3_bestHidden 32 = .ok (.istore_n 1, 1) := by decide +kernel
theorem dX3_bestHidden_33 : decode cX3_bestHidden 33 = .ok (.iload 4, 2) := by decide +kernel
theorem dX3_bestHidden_35 : decode cX3_bestHidden 35 = .ok (.istore_n 2, 1) := by decide +kernel
theorem dX3_bestHidden_36 : decode cX3_bestHidden 36 = .ok (.iinc 3 1, 3) := by decide +kernel
theorem dX3_bestHidden_39 : decode cX3_bestHidden 39 = .ok (.goto (-29), 3) := by decide +kernel
theorem dX3_bestHidden_42 : decode cX3_bestHidden 42 = .ok (.iload_n 1, 1) := by decide +kernel
theorem dX3_bestHidden_43 : decode cX3_bestHidden 43 = .ok (.ireturn, 1) := by decide +kernel
theorem dX3_stakesTimesWeights_0 : decode cX3_stakesTimesWeights 0 = .ok (.iconst 0, 1) := by decide +kernel
theorem dX3_stakesTimesWeights_1 : decode cX3_stakesTimesWeights 1 = .ok (.istore_n 1, 1) := by decide +kernel
theorem dX3_stakesTimesWeights_2 : decode cX3_stakesTimesWeights 2 = .ok (.iconst 0, 1) := by decide +kernel
theorem dX3_stakesTimesWeights_3 : decode cX3_stakesTimesWeights 3 = .ok (.istore_n 2, 1) := by decide +kernel
theorem dX3_stakesTimesWeights_4 : decode cX3_stakesTimesWeights 4 = .ok (.iload_n 2, 1) := by decide +kernel
theorem dX3_stakesTimesWeights_5 : decode cX3_stakesTimesWeights 5 = .ok (.bipush 8, 2) := by decide +kernel
theorem dX3_stakesTimesWeights_7 : decode cX3_stakesTimesWeights 7 = .ok (.aload_n 0, 1) := by decide +kernel
theorem dX3_stakesTimesWeights_8 : decode cX3_stakesTimesWeights 8 = .ok (.getfield 15, 3) := by decide +kernel
theorem dX3_stakesTimesWeights_11 : decode cX3_stakesTimesWeights 11 = .ok (.imul, 1) := by decide +kernel
theorem dX3_stakesTimesWeights_12 : decode cX3_stakesTimesWeights 12 = .ok (.if_icmp .ge 25, 3) := by decide +kernel
theorem dX3_stakesTimesWeights_15 : decode cX3_stakesTimesWeights 15 = .ok (.iload_n 1, 1) := by decide +kernel
theorem dX3_stakesTimesWeights_16 : decode cX3_stakesTimesWeights 16 = .ok (.aload_n 0, 1) := by decide +kernel
theorem dX3_stakesTimesWeights_17 : decode cX3_stakesTimesWeights 17 = .ok (.getfield 31, 3) := by decide +kernel
theorem dX3_stakesTimesWeights_20 : decode cX3_stakesTimesWeights 20 = .ok (.iload_n 2, 1) := by decide +kernel
theorem dX3_stakesTimesWeights_21 : decode cX3_stakesTimesWeights 21 = .ok (.iaload, 1) := by decide +kernel
theorem dX3_stakesTimesWeights_22 : decode cX3_stakesTimesWeights 22 = .ok (.aload_n 0, 1) := by decide +kernel
theorem dX3_stakesTimesWeights_23 : decode cX3_stakesTimesWeights 23 = .ok (.getfield 28, 3) := by decide +kernel
theorem dX3_stakesTimesWeights_26 : decode cX3_stakesTimesWeights 26 = .ok (.iload_n 2, 1) := by decide +kernel
theorem dX3_stakesTimesWeights_27 : decode cX3_stakesTimesWeights 27 = .ok (.iaload, 1) := by decide +kernel
theorem dX3_stakesTimesWeights_28 : decode cX3_stakesTimesWeights 28 = .ok (.imul, 1) := by decide +kernel
theorem dX3_stakesTimesWeights_29 : decode cX3_stakesTimesWeights 29 = .ok (.iadd, 1) := by decide +kernel
theorem dX3_stakesTimesWeights_30 : decode cX3_stakesTimesWeights 30 = .ok (.istore_n 1, 1) := by decide +kernel
theorem dX3_stakesTimesWeights_31 : decode cX3_stakesTimesWeights 31 = .ok (.iinc 2 1, 3) := by decide +kernel
theorem dX3_stakesTimesWeights_34 : decode cX3_stakesTimesWeights 34 = .ok (.goto (-30), 3) := by decide +kernel
theorem dX3_stakesTimesWeights_37 : decode cX3_stakesTimesWeights 37 = .ok (.iload_n 1, 1) := by decide +kernel
theorem dX3_stakesTimesWeights_38 : decode cX3_stakesTimesWeights 38 = .ok (.ireturn, 1) := by decide +kernel
theorem dX3_isFulfilledBy_0 : decode cX3_isFulfilledBy 0 = .ok (.iconst 0, 1) := by decide +kernel
theorem dX3_isFulfilledBy_1 : decode cX3_isFulfilledBy 1 = .ok (.istore_n 2, 1) := by decide +kernel
theorem dX3_isFulfilledBy_2 : decode cX3_isFulfilledBy 2 = .ok (.iload_n 2, 1) := by decide +kernel
theorem dX3_isFulfilledBy_3 : decode cX3_isFulfilledBy 3 = .ok (.aload_n 0, 1) := by decide +kernel
theorem dX3_isFulfilledBy_4 : decode cX3_isFulfilledBy 4 = .ok (.getfield 15, 3) := by decide +kernel
theorem dX3_isFulfilledBy_7 : decode cX3_isFulfilledBy 7 = .ok (.if_icmp .ge 44, 3) := by decide +kernel
theorem dX3_isFulfilledBy_10 : decode cX3_isFulfilledBy 10 = .ok (.aload_n 0, 1) := by decide +kernel
theorem dX3_isFulfilledBy_11 : decode cX3_isFulfilledBy 11 = .ok (.getfield 25, 3) := by decide +kernel
theorem dX3_isFulfilledBy_14 : decode cX3_isFulfilledBy 14 = .ok (.iload_n 2, 1) := by decide +kernel
theorem dX3_isFulfilledBy_15 : decode cX3_isFulfilledBy 15 = .ok (.iaload, 1) := by decide +kernel
theorem dX3_isFulfilledBy_16 : decode cX3_isFulfilledBy 16 = .ok (.bipush (-4), 2) := by decide +kernel
theorem dX3_isFulfilledBy_18 : decode cX3_isFulfilledBy 18 = .ok (.if_icmp .eq 27, 3) := by decide +kernel
theorem dX3_isFulfilledBy_21 : decode cX3_isFulfilledBy 21 = .ok (.iload_n 1, 1) := by decide +kernel
theorem dX3_isFulfilledBy_22 : decode cX3_isFulfilledBy 22 = .ok (.aload_n 0, 1) := by decide +kernel
theorem dX3_isFulfilledBy_23 : decode cX3_isFulfilledBy 23 = .ok (.getfield 21, 3) := by decide +kernel
theorem dX3_isFulfilledBy_26 : decode cX3_isFulfilledBy 26 = .ok (.iload_n 2, 1) := by decide +kernel
theorem dX3_isFulfilledBy_27 : decode cX3_isFulfilledBy 27 = .ok (.iaload, 1) := by decide +kernel
theorem dX3_isFulfilledBy_28 : decode cX3_isFulfilledBy 28 = .ok (.iand, 1) := by decide +kernel
theorem dX3_isFulfilledBy_29 : decode cX3_isFulfilledBy 29 = .ok (.invokestatic 55, 3) := by decide +kernel
theorem dX3_isFulfilledBy_32 : decode cX3_isFulfilledBy 32 = .ok (.iconst 1, 1) := by decide +kernel
theorem dX3_isFulfilledBy_33 : decode cX3_isFulfilledBy 33 = .ok (.iand, 1) := by decide +kernel
theorem dX3_isFulfilledBy_34 : decode cX3_isFulfilledBy 34 = .ok (.aload_n 0, 1) := by decide +kernel
theorem dX3_isFulfilledBy_35 : decode cX3_isFulfilledBy 35 = .ok (.getfield 25, 3) := by decide +kernel
theorem dX3_isFulfilledBy_38 : decode cX3_isFulfilledBy 38 = .ok (.iload_n 2, 1) := by decide +kernel
theorem dX3_isFulfilledBy_39 : decode cX3_isFulfilledBy 39 = .ok (.iaload, 1) := by decide +kernel
theorem dX3_isFulfilledBy_40 : decode cX3_isFulfilledBy 40 = .ok (.if_icmp .eq 5, 3) := by decide +kernel
theorem dX3_isFulfilledBy_43 : decode cX3_isFulfilledBy 43 = .ok (.iconst 0, 1) := by decide +kernel
theorem dX3_isFulfilledBy_44 : decode cX3_isFulfilledBy 44 = .ok (.ireturn, 1) := by decide +kernel
theorem dX3_isFulfilledBy_45 : decode cX3_isFulfilledBy 45 = .ok (.iinc 2 1, 3) := by decide +kernel
theorem dX3_isFulfilledBy_48 : decode cX3_isFulfilledBy 48 = .ok (.goto (-46), 3) := by decide +kernel
theorem dX3_isFulfilledBy_51 : decode cX3_isFulfilledBy 51 = .ok (.iconst 1, 1) := by decide +kernel
theorem dX3_isFulfilledBy_52 : decode cX3_isFulfilledBy 52 = .ok (.ireturn, 1) := by decide +kernel
theorem dX3_isProof_0 : decode cX3_isProof 0 = .ok (.iconst 0, 1) := by decide +kernel
theorem dX3_isProof_1 : decode cX3_isProof 1 = .ok (.istore_n 2, 1) := by decide +kernel
theorem dX3_isProof_2 : decode cX3_isProof 2 = .ok (.iconst 0, 1) := by decide +kernel
theorem dX3_isProof_3 : decode cX3_isProof 3 = .ok (.istore_n 3, 1) := by decide +kernel
theorem dX3_isProof_4 : decode cX3_isProof 4 = .ok (.iconst 0, 1) := by decide +kernel
theorem dX3_isProof_5 : decode cX3_isProof 5 = .ok (.istore 4, 2) := by decide +kernel
theorem dX3_isProof_7 : decode cX3_isProof 7 = .ok (.iload 4, 2) := by decide +kernel
theorem dX3_isProof_9 : decode cX3_isProof 9 = .ok (.aload_n 0, 1) := by decide +kernel
theorem dX3_isProof_10 : decode cX3_isProof 10 = .ok (.getfield 15, 3) := by decide +kernel
theorem dX3_isProof_13 : decode cX3_isProof 13 = .ok (.if_icmp .ge 53, 3) := by decide +kernel
theorem dX3_isProof_16 : decode cX3_isProof 16 = .ok (.iload_n 1, 1) := by decide +kernel
theorem dX3_isProof_17 : decode cX3_isProof 17 = .ok (.iload 4, 2) := by decide +kernel
theorem dX3_isProof_19 : decode cX3_isProof 19 = .ok (.ishr, 1) := by decide +kernel
theorem dX3_isProof_20 : decode cX3_isProof 20 = .ok (.iconst 1, 1) := by decide +kernel
theorem dX3_isProof_21 : decode cX3_isProof 21 = .ok (.iand, 1) := by decide +kernel
theorem dX3_isProof_22 : decode cX3_isProof 22 = .ok (.iconst 1, 1) := by decide +kernel
theorem dX3_isProof_23 : decode cX3_isProof 23 = .ok (.if_icmp .ne 37, 3) := by decide +kernel
theorem dX3_isProof_26 : decode cX3_isProof 26 = .ok (.aload_n 0, 1) := by decide +kernel
theorem dX3_isProof_27 : decode cX3_isProof 27 = .ok (.getfield 25, 3) := by decide +kernel
theorem dX3_isProof_30 : decode cX3_isProof 30 = .ok (.iload 4, 2) := by decide +kernel
theorem dX3_isProof_32 : decode cX3_isProof 32 = .ok (.iaload, 1) := by decide +kernel
theorem dX3_isProof_33 : decode cX3_isProof 33 = .ok (.bipush (-4), 2) := by decide +kernel
theorem dX3_isProof_35 : decode cX3_isProof 35 = .ok (.if_icmp .ne 5, 3) := by decide +kernel
theorem dX3_isProof_38 : decode cX3_isProof 38 = .ok (.iconst 0, 1) := by decide +kernel
theorem dX3_isProof_39 : decode cX3_isProof 39 = .ok (.ireturn, 1) := by decide +kernel
theorem dX3_isProof_40 : decode cX3_isProof 40 = .ok (.iload_n 2, 1) := by decide +kernel
theorem dX3_isProof_41 : decode cX3_isProof 41 = .ok (.aload_n 0, 1) := by decide +kernel
theorem dX3_isProof_42 : decode cX3_isProof 42 = .ok (.getfield 21, 3) := by decide +kernel
theorem dX3_isProof_45 : decode cX3_isProof 45 = .ok (.iload 4, 2) := by decide +kernel
theorem dX3_isProof_47 : decode cX3_isProof 47 = .ok (.iaload, 1) := by decide +kernel
theorem dX3_isProof_48 : decode cX3_isProof 48 = .ok (.ixor, 1) := by decide +kernel
theorem dX3_isProof_49 : decode cX3_isProof 49 = .ok (.istore_n 2, 1) := by decide +kernel
theorem dX3_isProof_50 : decode cX3_isProof 50 = .ok (.iload_n 3, 1) := by decide +kernel
theorem dX3_isProof_51 : decode cX3_isProof 51 = .ok (.aload_n 0, 1) := by decide +kernel
theorem dX3_isProof_52 : decode cX3_isProof 52 = .ok (.getfield 25, 3) := by decide +kernel
theorem dX3_isProof_55 : decode cX3_isProof 55 = .ok (.iload 4, 2) := by decide +kernel
theorem dX3_isProof_57 : decode cX3_isProof 57 = .ok (.iaload, 1) := by decide +kernel
theorem dX3_isProof_58 : decode cX3_isProof 58 = .ok (.iadd, 1) := by decide +kernel
theorem dX3_isProof_59 : decode cX3_isProof 59 = .ok (.istore_n 3, 1) := by decide +kernel
theorem dX3_isProof_60 : decode cX3_isProof 60 = .ok (.iinc 4 1, 3) := by decide +kernel
theorem dX3_isProof_63 : decode cX3_isProof 63 = .ok (.goto (-56), 3) := by decide +kernel
theorem dX3_isProof_66 : decode cX3_isProof 66 = .ok (.iload_n 2, 1) := by decide +kernel
theorem dX3_isProof_67 : decode cX3_isProof 67 = .ok (.ifCond .ne 14, 3) := by decide +kernel
theorem dX3_isProof_70 : decode cX3_isProof 70 = .ok (.iload_n 3, 1) := by decide +kernel
theorem dX3_isProof_71 : decode cX3_isProof 71 = .ok (.iconst 1, 1) := by decide +kernel
theorem dX3_isProof_72 : decode cX3_isProof 72 = .ok (.iand, 1) := by decide +kernel
theorem dX3_isProof_73 : decode cX3_isProof 73 = .ok (.iconst 1, 1) := by decide +kernel
theorem dX3_isProof_74 : decode cX3_isProof 74 = .ok (.if_icmp .ne 7, 3) := by decide +kernel
theorem dX3_isProof_77 : decode cX3_isProof 77 = .ok (.iconst 1, 1) := by decide +kernel
theorem dX3_isProof_78 : decode cX3_isProof 78 = .ok (.goto 4, 3) := by decide +kernel
theorem dX3_isProof_81 : decode cX3_isProof 81 = .ok (.iconst 0, 1) := by decide +kernel
theorem dX3_isProof_82 : decode cX3_isProof 82 = .ok (.ireturn, 1) := by decide +kernel
end
section
theorem dX4_init_0 : decode cX4_init 0 = .ok (.aload_n 0, 1) := by decide +kernel
theorem dX4_init_1 : decode cX4_init 1 = .ok (.invokespecial 1, 3) := by decide +kernel
theorem dX4_init_4 : decode cX4_init 4 = .ok (.aload_n 0, 1) := by decide +kernel
theorem dX4_init_5 : decode cX4_init 5 = .ok (.new 7, 3) := by decide +kernel
theorem dX4_init_8 : decode cX4_init 8 = .ok (.dup, 1) := by decide +kernel
theorem dX4_init_9 : decode cX4_init 9 = .ok (.invokespecial 9, 3) := by decide +kernel
theorem dX4_init_12 : decode cX4_init 12 = .ok (.putfield 10, 3) := by decide +kernel
theorem dX4_init_15 : decode cX4_init 15 = .ok (.aload_n 0, 1) := by decide +kernel
theorem dX4_init_16 : decode cX4_init 16 = .ok (.new 16, 3) := by decide +kernel
theorem dX4_init_19 : decode cX4_init 19 = .ok (.dup, 1) := by decide +kernel
theorem dX4_init_20 : decode cX4_init 20 = .ok (.invokespecial 18, 3) := by decide +kernel
theorem dX4_init_23 : decode cX4_init 23 = .ok (.putfield 19, 3) := by decide +kernel
theorem dX4_init_26 : decode cX4_init 26 = .ok (.aload_n 0, 1) := by decide +kernel
theorem dX4_init_27 : decode cX4_init 27 = .ok (.new 23, 3) := by decide +kernel
theorem dX4_init_30 : decode cX4_init 30 = .ok (.dup, 1) := by decide +kernel
theorem dX4_init_31 : decode cX4_init 31 = .ok (.invokespecial 25, 3) := by decide +kernel
theorem dX4_init_34 : decode cX4_init 34 = .ok (.putfield 26, 3) := by decide +kernel
theorem dX4_init_37 : decode cX4_init 37 = .ok (.aload_n 0, 1) := by decide +kernel
theorem dX4_init_38 : decode cX4_init 38 = .ok (.iconst 4, 1) := by decide +kernel
theorem dX4_init_39 : decode cX4_init 39 = .ok (.anewarray 30, 3) := by decide +kernel
theorem dX4_init_42 : decode cX4_init 42 = .ok (.putfield 32, 3) := by decide +kernel
theorem dX4_init_45 : decode cX4_init 45 = .ok (.iconst 0, 1) := by decide +kernel
theorem dX4_init_46 : decode cX4_init 46 = .ok (.istore_n 1, 1) := by decide +kernel
theorem dX4_init_47 : decode cX4_init 47 = .ok (.iload_n 1, 1) := by decide +kernel
theorem dX4_init_48 : decode cX4_init 48 = .ok (.iconst 4, 1) := by decide +kernel
theorem dX4_init_49 : decode cX4_init 49 = .ok (.if_icmp .ge 22, 3) := by decide +kernel
theorem dX4_init_52 : decode cX4_init 52 = .ok (.aload_n 0, 1) := by decide +kernel
theorem dX4_init_53 : decode cX4_init 53 = .ok (.getfield 32, 3) := by decide +kernel
theorem dX4_init_56 : decode cX4_init 56 = .ok (.iload_n 1, 1) := by decide +kernel
theorem dX4_init_57 : decode cX4_init 57 = .ok (.new 30, 3) := by decide +kernel
theorem dX4_init_60 : decode cX4_init 60 = .ok (.dup, 1) := by decide +kernel
theorem dX4_init_61 : decode cX4_init 61 = .ok (.invokespecial 36, 3) := by decide +kernel
theorem dX4_init_64 : decode cX4_init 64 = .ok (.aastore, 1) := by decide +kernel
theorem dX4_init_65 : decode cX4_init 65 = .ok (.iinc 1 1, 3) := by decide +kernel
theorem dX4_init_68 : decode cX4_init 68 = .ok (.goto (-21), 3) := by decide +kernel
theorem dX4_init_71 : decode cX4_init 71 = .ok (.return_, 1) := by decide +kernel
theorem dX4_looks_0 : decode cX4_looks 0 = .ok (.iload_n 1, 1) := by decide +kernel
theorem dX4_looks_1 : decode cX4_looks 1 = .ok (.iconst 1, 1) := by decide +kernel
theorem dX4_looks_2 : decode cX4_looks 2 = .ok (.if_icmp .lt 9, 3) := by decide +kernel
theorem dX4_looks_5 : decode cX4_looks 5 = .ok (.iload_n 1, 1) := by decide +kernel
theorem dX4_looks_6 : decode cX4_looks 6 = .ok (.bipush 6, 2) := by decide +kernel
theorem dX4_looks_8 : decode cX4_looks 8 = .ok (.if_icmp .le 5, 3) := by decide +kernel
theorem dX4_looks_11 : decode cX4_looks 11 = .ok (.iconst (-1), 1) := by decide +kernel
theorem dX4_looks_12 : decode cX4_looks 12 = .ok (.ireturn, 1) := by decide +kernel
theorem dX4_looks_13 : decode cX4_looks 13 = .ok (.aload_n 0, 1) := by decide +kernel
theorem dX4_looks_14 : decode cX4_looks 14 = .ok (.getfield 10, 3) := by decide +kernel
theorem dX4_looks_17 : decode cX4_looks 17 = .ok (.getfield 37, 3) := by decide +kernel
theorem dX4_looks_20 : decode cX4_looks 20 = .ok (.istore_n 2, 1) := by decide +kernel
theorem dX4_looks_21 : decode cX4_looks 21 = .ok (.aload_n 0, 1) := by decide +kernel
theorem dX4_looks_22 : decode cX4_looks 22 = .ok (.getfield 10, 3) := by decide +kernel
theorem dX4_looks_25 : decode cX4_looks 25 = .ok (.iload_n 1, 1) := by decide +kernel
theorem dX4_looks_26 : decode cX4_looks 26 = .ok (.invokevirtual 41, 3) := by decide +kernel
theorem dX4_looks_29 : decode cX4_looks 29 = .ok (.iload_n 2, 1) := by decide +kernel
theorem dX4_looks_30 : decode cX4_looks 30 = .ok (.ireturn, 1) := by decide +kernel
theorem dX4_put_0 : decode cX4_put 0 = .ok (.iload_n 1, 1) := by decide +kernel
theorem dX4_put_1 : decode cX4_put 1 = .ok (.iconst 1, 1) := by decide +kernel
theorem dX4_put_2 : decode cX4_put 2 = .ok (.if_icmp .lt 22, 3) := by decide +kernel
theorem dX4_put_5 : decode cX4_put 5 = .ok (.iload_n 1, 1) := by decide +kernel
theorem dX4_put_6 : decode cX4_put 6 = .ok (.aload_n 0, 1) := by decide +kernel
theorem dX4_put_7 : decode cX4_put 7 = .ok (.getfield 10, 3) := by decide +kernel
theorem dX4_put_10 : decode cX4_put 10 = .ok (.invokevirtual 45, 3) := by decide +kernel
theorem dX4_put_13 : decode cX4_put 13 = .ok (.if_icmp .ge 11, 3) := by decide +kernel
theorem dX4_put_16 : decode cX4_put 16 = .ok (.iload_n 1, 1) := by decide +kernel
theorem dX4_put_17 : decode cX4_put 17 = .ok (.invokestatic 49, 3) := by decide +kernel
theorem dX4_put_20 : decode cX4_put 20 = .ok (.iconst 3, 1) := by decide +kernel
theorem dX4_put_21 : decode cX4_put 21 = .ok (.if_icmp .le 5, 3) := by decide +kernel
theorem dX4_put_24 : decode cX4_put 24 = .ok (.iconst (-1), 1) := by decide +kernel
theorem dX4_put_25 : decode cX4_put 25 = .ok (.ireturn, 1) := by decide +kernel
theorem dX4_put_26 : decode cX4_put 26 = .ok (.aload_n 0, 1) := by decide +kernel
theorem dX4_put_27 : decode cX4_put 27 = .ok (.getfield 10, 3) := by decide +kernel
theorem dX4_put_30 : decode cX4_put 30 = .ok (.iload_n 1, 1) := by decide +kernel
theorem dX4_put_31 : decode cX4_put 31 = .ok (.invokevirtual 55, 3) := by decide +kernel
theorem dX4_put_34 : decode cX4_put 34 = .ok (.ifCond .eq 6, 3) := by decide +kernel
theorem dX4_put_37 : decode cX4_put 37 = .ok (.bipush (-2), 2) := by decide +kernel
theorem dX4_put_39 : decode cX4_put 39 = .ok (.ireturn, 1) := by decide +kernel
theorem dX4_put_40 : decode cX4_put 40 = .ok (.aload_n 0, 1) := by decide +kernel
theorem dX4_put_41 : decode cX4_put 41 = .ok (.getfield 10, 3) := by decide +kernel
theorem dX4_put_44 : decode cX4_put 44 = .ok (.getfield 59, 3) := by decide +kernel
theorem dX4_put_47 : decode cX4_put 47 = .ok (.bipush 8, 2) := by decide +kernel
theorem dX4_put_49 : decode cX4_put 49 = .ok (.if_icmp .lt 8, 3) := by decide +kernel
theorem dX4_put_52 : decode cX4_put 52 = .ok (.bipush (-3), 2) := by decide +kernel
theorem dX4_put_54 : decode cX4_put 54 = .ok (.goto 11, 3) := by decide +kernel
theorem dX4_put_57 : decode cX4_put 57 = .ok (.aload_n 0, 1) := by decide +kernel
theorem dX4_put_58 : decode cX4_put 58 = .ok (.getfield 10, 3) := by decide +kernel
theorem dX4_put_61 : decode cX4_put 61 = .ok (.iload_n 1, 1) := by decide +kernel
theorem dX4_put_62 : decode cX4_put 62 = .ok (.invokevirtual 62, 3) := by decide +kernel
theorem dX4_put_65 : decode cX4_put 65 = .ok (.ireturn, 1) := by decide +kernel
theorem dX4_drop_0 : decode cX4_drop 0 = .ok (.aload_n 0, 1) := by decide +kernel
theorem dX4_drop_1 : decode cX4_drop 1 = .ok (.getfield 10, 3) := by decide +kernel
theorem dX4_drop_4 : decode cX4_drop 4 = .ok (.getfield 59, 3) := by decide +kernel
theorem dX4_drop_7 : decode cX4_drop 7 = .ok (.ifCond .ne 8, 3) := by decide +kernel
theorem dX4_drop_10 : decode cX4_drop 10 = .ok (.bipush (-4), 2) := by decide +kernel
theorem dX4_drop_12 : decode cX4_drop 12 = .ok (.goto 10, 3) := by decide +kernel
theorem dX4_drop_15 : decode cX4_drop 15 = .ok (.aload_n 0, 1) := by decide +kernel
theorem dX4_drop_16 : decode cX4_drop 16 = .ok (.getfield 10, 3) := by decide +kernel
theorem dX4_drop_19 : decode cX4_drop 19 = .ok (.invokevirtual 65, 3) := by decide +kernel
theorem dX4_drop_22 : decode cX4_drop 22 = .ok (.ireturn, 1) := by decide +kernel
theorem dX4_told_0 : decode cX4_told 0 = .ok (.aload_n 0, 1) := by decide +kernel
theorem dX4_told_1 : decode cX4_told 1 = .ok (.getfield 10, 3) := by decide +kernel
theorem dX4_told_4 : decode cX4_told 4 = .ok (.iload_n 1, 1) := by decide +kernel
theorem dX4_told_5 : decode cX4_told 5 = .ok (.invokevirtual 68, 3) := by decide +kernel
theorem dX4_told_8 : decode cX4_told 8 = .ok (.ifCond .ne 5, 3) := by decide +kernel
theorem dX4_told_11 : decode cX4_told 11 = .ok (.iconst (-1), 1) := by decide +kernel
theorem dX4_told_12 : decode cX4_told 12 = .ok (.ireturn, 1) := by decide +kernel
theorem dX4_told_13 : decode cX4_told 13 = .ok (.iload_n 2, 1) := by decide +kernel
theorem dX4_told_14 : decode cX4_told 14 = .ok (.tableswitch 72 0 3 #[30, 40, 53, 62], 30) := by decide +kernel
theorem dX4_told_44 : decode cX4_told 44 = .ok (.aload_n 0, 1) := by decide +kernel
theorem dX4_told_45 : decode cX4_told 45 = .ok (.getfield 10, 3) := by decide +kernel
theorem dX4_told_48 : decode cX4_told 48 = .ok (.getfield 71, 3) := by decide +kernel
theorem dX4_told_51 : decode cX4_told 51 = .ok (.iload_n 1, 1) := by decide +kernel
theorem dX4_told_52 : decode cX4_told 52 = .ok (.iaload, 1) := by decide +kernel
theorem dX4_told_53 : decode cX4_told 53 = .ok (.ireturn, 1) := by decide +kernel
theorem dX4_told_54 : decode cX4_told 54 = .ok (.aload_n 0, 1) := by decide +kernel
theorem dX4_told_55 : decode cX4_told 55 = .ok (.getfield 10, 3) := by decide +kernel
theorem dX4_told_58 : decode cX4_told 58 = .ok (.getfield 71, 3) := by decide +kernel
theorem dX4_told_61 : decode cX4_told 61 = .ok (.iload_n 1, 1) := by decide +kernel
theorem dX4_told_62 : decode cX4_told 62 = .ok (.iaload, 1) := by decide +kernel
theorem dX4_told_63 : decode cX4_told 63 = .ok (.invokestatic 49, 3) := by decide +kernel
theorem dX4_told_66 : decode cX4_told 66 = .ok (.ireturn, 1) := by decide +kernel
theorem dX4_told_67 : decode cX4_told 67 = .ok (.aload_n 0, 1) := by decide +kernel
theorem dX4_told_68 : decode cX4_told 68 = .ok (.getfield 10, 3) := by decide +kernel
theorem dX4_told_71 : decode cX4_told 71 = .ok (.iload_n 1, 1) := by decide +kernel
theorem dX4_told_72 : decode cX4_told 72 = .ok (.invokevirtual 75, 3) := by decide +kernel
theorem dX4_told_75 : decode cX4_told 75 = .ok (.ireturn, 1) := by decide +kernel
theorem dX4_told_76 : decode cX4_told 76 = .ok (.aload_n 0, 1) := by decide +kernel
theorem dX4_told_77 : decode cX4_told 77 = .ok (.getfield 10, 3) := by decide +kernel
theorem dX4_told_80 : decode cX4_told 80 = .ok (.getfield 78, 3) := by decide +kernel
theorem dX4_told_83 : decode cX4_told 83 = .ok (.iload_n 1, 1) := by decide +kernel
theorem dX4_told_84 : decode cX4_told 84 = .ok (.iaload, 1) := by decide +kernel
theorem dX4_told_85 : decode cX4_told 85 = .ok (.ireturn, 1) := by decide +kernel
theorem dX4_told_86 : decode cX4_told 86 = .ok (.iconst (-1), 1) := by decide +kernel
theorem dX4_told_87 : decode cX4_told 87 = .ok (.ireturn, 1) := by decide +kernel
theorem dX4_weight_0 : decode cX4_weight 0 = .ok (.aload_n 0, 1) := by decide +kernel
theorem dX4_weight_1 : decode cX4_weight 1 = .ok (.getfield 10, 3) := by decide +kernel
theorem dX4_weight_4 : decode cX4_weight 4 = .ok (.iload_n 1, 1) := by decide +kernel
theorem dX4_weight_5 : decode cX4_weight 5 = .ok (.iload_n 2, 1) := by decide +kernel
theorem dX4_weight_6 : decode cX4_weight 6 = .ok (.invokevirtual 81, 3) := by decide +kernel
theorem dX4_weight_9 : decode cX4_weight 9 = .ok (.ifCond .eq 10, 3) := by decide +kernel
theorem dX4_weight_12 : decode cX4_weight 12 = .ok (.iload_n 3, 1) := by decide +kernel
theorem dX4_weight_13 : decode cX4_weight 13 = .ok (.invokestatic 85, 3) := by decide +kernel
theorem dX4_weight_16 : decode cX4_weight 16 = .ok (.ifCond .ne 5, 3) := by decide +kernel
theorem dX4_weight_19 : decode cX4_weight 19 = .ok (.iconst (-1), 1) := by decide +kernel
theorem dX4_weight_20 : decode cX4_weight 20 = .ok (.ireturn, 1) := by decide +kernel
theorem dX4_weight_21 : decode cX4_weight 21 = .ok (.bipush 8, 2) := by decide +kernel
theorem dX4_weight_23 : decode cX4_weight 23 = .ok (.iload_n 1, 1) := by decide +kernel
theorem dX4_weight_24 : decode cX4_weight 24 = .ok (.imul, 1) := by decide +kernel
theorem dX4_weight_25 : decode cX4_weight 25 = .ok (.iload_n 2, 1) := by decide +kernel
theorem dX4_weight_26 : decode cX4_weight 26 = .ok (.iadd, 1) := by decide +kernel
theorem dX4_weight_27 : decode cX4_weight 27 = .ok (.istore 4, 2) := by decide +kernel
theorem dX4_weight_29 : decode cX4_weight 29 = .ok (.aload_n 0, 1) := by decide +kernel
theorem dX4_weight_30 : decode cX4_weight 30 = .ok (.getfield 10, 3) := by decide +kernel
theorem dX4_weight_33 : decode cX4_weight 33 = .ok (.getfield 88, 3) := by decide +kernel
theorem dX4_weight_36 : decode cX4_weight 36 = .ok (.iload 4, 2) := by decide +kernel
theorem dX4_weight_38 : decode cX4_weight 38 = .ok (.iaload, 1) := by decide +kernel
theorem dX4_weight_39 : decode cX4_weight 39 = .ok (.istore 5, 2) := by decide +kernel
theorem dX4_weight_41 : decode cX4_weight 41 = .ok (.aload_n 0, 1) := by decide +kernel
theorem dX4_weight_42 : decode cX4_weight 42 = .ok (.getfield 10, 3) := by decide +kernel
theorem dX4_weight_45 : decode cX4_weight 45 = .ok (.iload 4, 2) := by decide +kernel
theorem dX4_weight_47 : decode cX4_weight 47 = .ok (.iload_n 3, 1) := by decide +kernel
theorem dX4_weight_48 : decode cX4_weight 48 = .ok (.invokevirtual 91, 3) := by decide +kernel
theorem dX4_weight_51 : decode cX4_weight 51 = .ok (.iload 5, 2) := by decide +kernel
theorem dX4_weight_53 : decode cX4_weight 53 = .ok (.ireturn, 1) := by decide +kernel
theorem dX4_stake_0 : decode cX4_stake 0 = .ok (.aload_n 0, 1) := by decide +kernel
theorem dX4_stake_1 : decode cX4_stake 1 = .ok (.getfield 10, 3) := by decide +kernel
theorem dX4_stake_4 : decode cX4_stake 4 = .ok (.iload_n 1, 1) := by decide +kernel
theorem dX4_stake_5 : decode cX4_stake 5 = .ok (.iload_n 2, 1) := by decide +kernel
theorem dX4_stake_6 : decode cX4_stake 6 = .ok (.invokevirtual 81, 3) := by decide +kernel
theorem dX4_stake_9 : decode cX4_stake 9 = .ok (.ifCond .eq 10, 3) := by decide +kernel
theorem dX4_stake_12 : decode cX4_stake 12 = .ok (.iload_n 3, 1) := by decide +kernel
theorem dX4_stake_13 : decode cX4_stake 13 = .ok (.invokestatic 95, 3) := by decide +kernel
theorem dX4_stake_16 : decode cX4_stake 16 = .ok (.ifCond .ne 7, 3) := by decide +kernel
theorem dX4_stake_19 : decode cX4_stake 19 = .ok (.sipush (-1000), 3) := by decide +kernel
theorem dX4_stake_22 : decode cX4_stake 22 = .ok (.ireturn, 1) := by decide +kernel
theorem dX4_stake_23 : decode cX4_stake 23 = .ok (.bipush 8, 2) := by decide +kernel
theorem dX4_stake_25 : decode cX4_stake 25 = .ok (.iload_n 1, 1) := by decide +kernel
theorem dX4_stake_26 : decode cX4_stake 26 = .ok (.imul, 1) := by decide +kernel
theorem dX4_stake_27 : decode cX4_stake 27 = .ok (.iload_n 2, 1) := by decide +kernel
theorem dX4_stake_28 : decode cX4_stake 28 = .ok (.iadd, 1) := by decide +kernel
theorem dX4_stake_29 : decode cX4_stake 29 = .ok (.istore 4, 2) := by decide +kernel
theorem dX4_stake_31 : decode cX4_stake 31 = .ok (.aload_n 0, 1) := by decide +kernel
theorem dX4_stake_32 : decode cX4_stake 32 = .ok (.getfield 10, 3) := by decide +kernel
theorem dX4_stake_35 : decode cX4_stake 35 = .ok (.getfield 98, 3) := by decide +kernel
theorem dX4_stake_38 : decode cX4_stake 38 = .ok (.iload 4, 2) := by decide +kernel
theorem dX4_stake_40 : decode cX4_stake 40 = .ok (.iaload, 1) := by decide +kernel
theorem dX4_stake_41 : decode cX4_stake 41 = .ok (.istore 5, 2) := by decide +kernel
theorem dX4_stake_43 : decode cX4_stake 43 = .ok (.aload_n 0, 1) := by decide +kernel
theorem dX4_stake_44 : decode cX4_stake 44 = .ok (.getfield 10, 3) := by decide +kernel
theorem dX4_stake_47 : decode cX4_stake 47 = .ok (.getfield 98, 3) := by decide +kernel
theorem dX4_stake_50 : decode cX4_stake 50 = .ok (.iload 4, 2) := by decide +kernel
theorem dX4_stake_52 : decode cX4_stake 52 = .ok (.iload_n 3, 1) := by decide +kernel
theorem dX4_stake_53 : decode cX4_stake 53 = .ok (.iastore, 1) := by decide +kernel
theorem dX4_stake_54 : decode cX4_stake 54 = .ok (.iload 5, 2) := by decide +kernel
theorem dX4_stake_56 : decode cX4_stake 56 = .ok (.ireturn, 1) := by decide +kernel
theorem dX4_parity_0 : decode cX4_parity 0 = .ok (.aload_n 0, 1) := by decide +kernel
theorem dX4_parity_1 : decode cX4_parity 1 = .ok (.getfield 10, 3) := by decide +kernel
theorem dX4_parity_4 : decode cX4_parity 4 = .ok (.iload_n 1, 1) := by decide +kernel
theorem dX4_parity_5 : decode cX4_parity 5 = .ok (.invokevirtual 68, 3) := by decide +kernel
theorem dX4_parity_8 : decode cX4_parity 8 = .ok (.ifCond .eq 18, 3) := by decide +kernel
theorem dX4_parity_11 : decode cX4_parity 11 = .ok (.iload_n 2, 1) := by decide +kernel
theorem dX4_parity_12 : decode cX4_parity 12 = .ok (.ifCond .eq 16, 3) := by decide +kernel
theorem dX4_parity_15 : decode cX4_parity 15 = .ok (.iload_n 2, 1) := by decide +kernel
theorem dX4_parity_16 : decode cX4_parity 16 = .ok (.iconst 1, 1) := by decide +kernel
theorem dX4_parity_17 : decode cX4_parity 17 = .ok (.if_icmp .eq 11, 3) := by decide +kernel
theorem dX4_parity_20 : decode cX4_parity 20 = .ok (.iload_n 2, 1) := by decide +kernel
theorem dX4_parity_21 : decode cX4_parity 21 = .ok (.bipush (-4), 2) := by decide +kernel
theorem dX4_parity_23 : decode cX4_parity 23 = .ok (.if_icmp .eq 5, 3) := by decide +kernel
theorem dX4_parity_26 : decode cX4_parity 26 = .ok (.iconst (-1), 1) := by decide +kernel
theorem dX4_parity_27 : decode cX4_parity 27 = .ok (.ireturn, 1) := by decide +kernel
theorem dX4_parity_28 : decode cX4_parity 28 = .ok (.aload_n 0, 1) := by decide +kernel
theorem dX4_parity_29 : decode cX4_parity 29 = .ok (.getfield 10, 3) := by decide +kernel
theorem dX4_parity_32 : decode cX4_parity 32 = .ok (.getfield 78, 3) := by decide +kernel
theorem dX4_parity_35 : decode cX4_parity 35 = .ok (.iload_n 1, 1) := by decide +kernel
theorem dX4_parity_36 : decode cX4_parity 36 = .ok (.iaload, 1) := by decide +kernel
theorem dX4_parity_37 : decode cX4_parity 37 = .ok (.istore_n 3, 1) := by decide +kernel
theorem dX4_parity_38 : decode cX4_parity 38 = .ok (.aload_n 0, 1) := by decide +kernel
theorem dX4_parity_39 : decode cX4_parity 39 = .ok (.getfield 10, 3) := by decide +kernel
theorem dX4_parity_42 : decode cX4_parity 42 = .ok (.getfield 78, 3) := by decide +kernel
theorem dX4_parity_45 : decode cX4_parity 45 = .ok (.iload_n 1, 1) := by decide +kernel
theorem dX4_parity_46 : decode cX4_parity 46 = .ok (.iload_n 2, 1) := by decide +kernel
theorem dX4_parity_47 : decode cX4_parity 47 = .ok (.iastore, 1) := by decide +kernel
theorem dX4_parity_48 : decode cX4_parity 48 = .ok (.iload_n 3, 1) := by decide +kernel
theorem dX4_parity_49 : decode cX4_parity 49 = .ok (.ireturn, 1) := by decide +kernel
theorem dX4_joint_0 : decode cX4_joint 0 = .ok (.aload_n 0, 1) := by decide +kernel
theorem dX4_joint_1 : decode cX4_joint 1 = .ok (.getfield 10, 3) := by decide +kernel
theorem dX4_joint_4 : decode cX4_joint 4 = .ok (.iload_n 1, 1) := by decide +kernel
theorem dX4_joint_5 : decode cX4_joint 5 = .ok (.invokevirtual 68, 3) := by decide +kernel
theorem dX4_joint_8 : decode cX4_joint 8 = .ok (.ifCond .eq 18, 3) := by decide +kernel
theorem dX4_joint_11 : decode cX4_joint 11 = .ok (.iload_n 2, 1) := by decide +kernel
theorem dX4_joint_12 : decode cX4_joint 12 = .ok (.ifCond .lt 14, 3) := by decide +kernel
theorem dX4_joint_15 : decode cX4_joint 15 = .ok (.iload_n 2, 1) := by decide +kernel
theorem dX4_joint_16 : decode cX4_joint 16 = .ok (.aload_n 0, 1) := by decide +kernel
theorem dX4_joint_17 : decode cX4_joint 17 = .ok (.getfield 10, 3) := by decide +kernel
theorem dX4_joint_20 : decode cX4_joint 20 = .ok (.invokevirtual 45, 3) := by decide +kernel
theorem dX4_joint_23 : decode cX4_joint 23 = .ok (.if_icmp .lt 5, 3) := by decide +kernel
theorem dX4_joint_26 : decode cX4_joint 26 = .ok (.iconst (-1), 1) := by decide +kernel
theorem dX4_joint_27 : decode cX4_joint 27 = .ok (.ireturn, 1) := by decide +kernel
theorem dX4_joint_28 : decode cX4_joint 28 = .ok (.aload_n 0, 1) := by decide +kernel
theorem dX4_joint_29 : decode cX4_joint 29 = .ok (.getfield 10, 3) := by decide +kernel
theorem dX4_joint_32 : decode cX4_joint 32 = .ok (.iload_n 1, 1) := by decide +kernel
theorem dX4_joint_33 : decode cX4_joint 33 = .ok (.iload_n 2, 1) := by decide +kernel
theorem dX4_joint_34 : decode cX4_joint 34 = .ok (.invokevirtual 101, 3) := by decide +kernel
theorem dX4_joint_37 : decode cX4_joint 37 = .ok (.bipush 8, 2) := by decide +kernel
theorem dX4_joint_39 : decode cX4_joint 39 = .ok (.iload_n 1, 1) := by decide +kernel
theorem dX4_joint_40 : decode cX4_joint 40 = .ok (.imul, 1) := by decide +kernel
theorem dX4_joint_41 : decode cX4_joint 41 = .ok (.isub, 1) := by decide +kernel
theorem dX4_joint_42 : decode cX4_joint 42 = .ok (.ireturn, 1) := by decide +kernel
theorem dX4_isWeight_0 : decode cX4_isWeight 0 = .ok (.iload_n 0, 1) := by decide +kernel
theorem dX4_isWeight_1 : decode cX4_isWeight 1 = .ok (.ifCond .lt 14, 3) := by decide +kernel
theorem dX4_isWeight_4 : decode cX4_isWeight 4 = .ok (.iload_n 0, 1) := by decide +kernel
theorem dX4_isWeight_5 : decode cX4_isWeight 5 = .ok (.sipush 1000, 3) := by decide +kernel
theorem dX4_isWeight_8 : decode cX4_isWeight 8 = .ok (.if_icmp .gt 7, 3) := by decide +kernel
theorem dX4_isWeight_11 : decode cX4_isWeight 11 = .ok (.iconst 1, 1) := by decide +kernel
theorem dX4_isWeight_12 : decode cX4_isWeight 12 = .ok (.goto 4, 3) := by decide +kernel
theorem dX4_isWeight_15 : decode cX4_isWeight 15 = .ok (.iconst 0, 1) := by decide +kernel
theorem dX4_isWeight_16 : decode cX4_isWeight 16 = .ok (.ireturn, 1) := by decide +kernel
theorem dX4_isStake_0 : decode cX4_isStake 0 = .ok (.iload_n 0, 1) := by decide +kernel
theorem dX4_isStake_1 : decode cX4_isStake 1 = .ok (.bipush (-100), 2) := by decide +kernel
theorem dX4_isStake_3 : decode cX4_isStake 3 = .ok (.if_icmp .lt 13, 3) := by decide +kernel
theorem dX4_isStake_6 : decode cX4_isStake 6 = .ok (.iload_n 0, 1) := by decide +kernel
theorem dX4_isStake_7 : decode cX4_isStake 7 = .ok (.bipush 100, 2) := by decide +kernel
theorem dX4_isStake_9 : decode cX4_isStake 9 = .ok (.if_icmp .gt 7, 3) := by decide +kernel
theorem dX4_isStake_12 : decode cX4_isStake 12 = .ok (.iconst 1, 1) := by decide +kernel
theorem dX4_isStake_13 : decode cX4_isStake 13 = .ok (.goto 4, 3) := by decide +kernel
theorem dX4_isStake_16 : decode cX4_isStake 16 = .ok (.iconst 0, 1) := by decide +kernel
theorem dX4_isStake_17 : decode cX4_isStake 17 = .ok (.ireturn, 1) := by decide +kernel
theorem dX4_agrees_0 : decode cX4_agrees 0 = .ok (.aload_n 0, 1) := by decide +kernel
theorem dX4_agrees_1 : decode cX4_agrees 1 = .ok (.getfield 10, 3) := by decide +kernel
theorem dX4_agrees_4 : decode cX4_agrees 4 = .ok (.getfield 59, 3) := by decide +kernel
theorem dX4_agrees_7 : decode cX4_agrees 7 = .ok (.ifCond .ne 6, 3) := by decide +kernel
theorem dX4_agrees_10 : decode cX4_agrees 10 = .ok (.bipush (-2), 2) := by decide +kernel
theorem dX4_agrees_12 : decode cX4_agrees 12 = .ok (.ireturn, 1) := by decide +kernel
theorem dX4_agrees_13 : decode cX4_agrees 13 = .ok (.aload_n 0, 1) := by decide +kernel
theorem dX4_agrees_14 : decode cX4_agrees 14 = .ok (.getfield 10, 3) := by decide +kernel
theorem dX4_agrees_17 : decode cX4_agrees 17 = .ok (.invokevirtual 105, 3) := by decide +kernel
theorem dX4_agrees_20 : decode cX4_agrees 20 = .ok (.bipush (-4), 2) := by decide +kernel
theorem dX4_agrees_22 : decode cX4_agrees 22 = .ok (.if_icmp .ne 7, 3) := by decide +kernel
theorem dX4_agrees_25 : decode cX4_agrees 25 = .ok (.iconst 1, 1) := by decide +kernel
theorem dX4_agrees_26 : decode cX4_agrees 26 = .ok (.goto 4, 3) := by decide +kernel
theorem dX4_agrees_29 : decode cX4_agrees 29 = .ok (.iconst 0, 1) := by decide +kernel
theorem dX4_agrees_30 : decode cX4_agrees 30 = .ok (.ireturn, 1) := by decide +kernel
theorem dX4_quarrel_0 : decode cX4_quarrel 0 = .ok (.aload_n 0, 1) := by decide +kernel
theorem dX4_quarrel_1 : decode cX4_quarrel 1 = .ok (.getfield 10, 3) := by decide +kernel
theorem dX4_quarrel_4 : decode cX4_quarrel 4 = .ok (.getfield 59, 3) := by decide +kernel
theorem dX4_quarrel_7 : decode cX4_quarrel 7 = .ok (.ifCond .ne 8, 3) := by decide +kernel
theorem dX4_quarrel_10 : decode cX4_quarrel 10 = .ok (.bipush (-2), 2) := by decide +kernel
theorem dX4_quarrel_12 : decode cX4_quarrel 12 = .ok (.goto 10, 3) := by decide +kernel
theorem dX4_quarrel_15 : decode cX4_quarrel 15 = .ok (.aload_n 0, 1) := by decide +kernel
theorem dX4_quarrel_16 : decode cX4_quarrel 16 = .ok (.getfield 10, 3) := by decide +kernel
theorem dX4_quarrel_19 : decode cX4_quarrel 19 = .ok (.invokevirtual 105, 3) := by decide +kernel
theorem dX4_quarrel_22 : decode cX4_quarrel 22 = .ok (.ireturn, 1) := by decide +kernel
theorem dX4_possible_0 : decode cX4_possible 0 = .ok (.iload_n 1, 1) := by decide +kernel
theorem dX4_possible_1 : decode cX4_possible 1 = .ok (.ifCond .eq 10, 3) := by decide +kernel
theorem dX4_possible_4 : decode cX4_possible 4 = .ok (.iload_n 1, 1) := by decide +kernel
theorem dX4_possible_5 : decode cX4_possible 5 = .ok (.iconst 1, 1) := by decide +kernel
theorem dX4_possible_6 : decode cX4_possible 6 = .ok (.if_icmp .eq 5, 3) := by decide +kernel
theorem dX4_possible_9 : decode cX4_possible 9 = .ok (.iconst (-1), 1) := by decide +kernel
theorem dX4_possible_10 : decode cX4_possible 10 = .ok (.ireturn, 1) := by decide +kernel
theorem dX4_possible_11 : decode cX4_possible 11 = .ok (.aload_n 0, 1) := by decide +kernel
theorem dX4_possible_12 : decode cX4_possible 12 = .ok (.getfield 10, 3) := by decide +kernel
theorem dX4_possible_15 : decode cX4_possible 15 = .ok (.getfield 59, 3) := by decide +kernel
theorem dX4_possible_18 : decode cX4_possible 18 = .ok (.ifCond .ne 6, 3) := by decide +kernel
theorem dX4_possible_21 : decode cX4_possible 21 = .ok (.bipush (-2), 2) := by decide +kernel
theorem dX4_possible_23 : decode cX4_possible 23 = .ok (.ireturn, 1) := by decide +kernel
theorem dX4_possible_24 : decode cX4_possible 24 = .ok (.iconst 0, 1) := by decide +kernel
theorem dX4_possible_25 : decode cX4_possible 25 = .ok (.istore_n 2, 1) := by decide +kernel
theorem dX4_possible_26 : decode cX4_possible 26 = .ok (.bipush (-4), 2) := by decide +kernel
theorem dX4_possible_28 : decode cX4_possible 28 = .ok (.istore_n 3, 1) := by decide +kernel
theorem dX4_possible_29 : decode cX4_possible 29 = .ok (.aload_n 0, 1) := by decide +kernel
theorem dX4_possible_30 : decode cX4_possible 30 = .ok (.getfield 10, 3) := by decide +kernel
theorem dX4_possible_33 : decode cX4_possible 33 = .ok (.invokevirtual 45, 3) := by decide +kernel
theorem dX4_possible_36 : decode cX4_possible 36 = .ok (.iconst 1, 1) := by decide +kernel
theorem dX4_possible_37 : decode cX4_possible 37 = .ok (.isub, 1) := by decide +kernel
theorem dX4_possible_38 : decode cX4_possible 38 = .ok (.istore 4, 2) := by decide +kernel
theorem dX4_possible_40 : decode cX4_possible 40 = .ok (.iload 4, 2) := by decide +kernel
theorem dX4_possible_42 : decode cX4_possible 42 = .ok (.ifCond .lt 27, 3) := by decide +kernel
theorem dX4_possible_45 : decode cX4_possible 45 = .ok (.aload_n 0, 1) := by decide +kernel
theorem dX4_possible_46 : decode cX4_possible 46 = .ok (.getfield 10, 3) := by decide +kernel
theorem dX4_possible_49 : decode cX4_possible 49 = .ok (.iload 4, 2) := by decide +kernel
theorem dX4_possible_51 : decode cX4_possible 51 = .ok (.invokevirtual 108, 3) := by decide +kernel
theorem dX4_possible_54 : decode cX4_possible 54 = .ok (.ifCond .eq 9, 3) := by decide +kernel
theorem dX4_possible_57 : decode cX4_possible 57 = .ok (.iinc 2 1, 3) := by decide +kernel
theorem dX4_possible_60 : decode cX4_possible 60 = .ok (.iload 4, 2) := by decide +kernel
theorem dX4_possible_62 : decode cX4_possible 62 = .ok (.istore_n 3, 1) := by decide +kernel
theorem dX4_possible_63 : decode cX4_possible 63 = .ok (.iinc 4 (-1), 3) := by decide +kernel
theorem dX4_possible_66 : decode cX4_possible 66 = .ok (.goto (-26), 3) := by decide +kernel
theorem dX4_possible_69 : decode cX4_possible 69 = .ok (.iload_n 1, 1) := by decide +kernel
theorem dX4_possible_70 : decode cX4_possible 70 = .ok (.ifCond .ne 7, 3) := by decide +kernel
theorem dX4_possible_73 : decode cX4_possible 73 = .ok (.iload_n 2, 1) := by decide +kernel
theorem dX4_possible_74 : decode cX4_possible 74 = .ok (.goto 4, 3) := by decide +kernel
theorem dX4_possible_77 : decode cX4_possible 77 = .ok (.iload_n 3, 1) := by decide +kernel
theorem dX4_possible_78 : decode cX4_possible 78 = .ok (.ireturn, 1) := by decide +kernel
theorem dX4_lost_0 : decode cX4_lost 0 = .ok (.iload_n 1, 1) := by decide +kernel
theorem dX4_lost_1 : decode cX4_lost 1 = .ok (.ifCond .eq 10, 3) := by decide +kernel
theorem dX4_lost_4 : decode cX4_lost 4 = .ok (.iload_n 1, 1) := by decide +kernel
theorem dX4_lost_5 : decode cX4_lost 5 = .ok (.iconst 1, 1) := by decide +kernel
theorem dX4_lost_6 : decode cX4_lost 6 = .ok (.if_icmp .eq 5, 3) := by decide +kernel
theorem dX4_lost_9 : decode cX4_lost 9 = .ok (.iconst (-1), 1) := by decide +kernel
theorem dX4_lost_10 : decode cX4_lost 10 = .ok (.ireturn, 1) := by decide +kernel
theorem dX4_lost_11 : decode cX4_lost 11 = .ok (.aload_n 0, 1) := by decide +kernel
theorem dX4_lost_12 : decode cX4_lost 12 = .ok (.getfield 10, 3) := by decide +kernel
theorem dX4_lost_15 : decode cX4_lost 15 = .ok (.getfield 59, 3) := by decide +kernel
theorem dX4_lost_18 : decode cX4_lost 18 = .ok (.ifCond .ne 6, 3) := by decide +kernel
theorem dX4_lost_21 : decode cX4_lost 21 = .ok (.bipush (-2), 2) := by decide +kernel
theorem dX4_lost_23 : decode cX4_lost 23 = .ok (.ireturn, 1) := by decide +kernel
theorem dX4_lost_24 : decode cX4_lost 24 = .ok (.aload_n 0, 1) := by decide +kernel
theorem dX4_lost_25 : decode cX4_lost 25 = .ok (.getfield 10, 3) := by decide +kernel
theorem dX4_lost_28 : decode cX4_lost 28 = .ok (.invokevirtual 111, 3) := by decide +kernel
theorem dX4_lost_31 : decode cX4_lost 31 = .ok (.iconst 0, 1) := by decide +kernel
theorem dX4_lost_32 : decode cX4_lost 32 = .ok (.istore_n 2, 1) := by decide +kernel
theorem dX4_lost_33 : decode cX4_lost 33 = .ok (.bipush (-4), 2) := by decide +kernel
theorem dX4_lost_35 : decode cX4_lost 35 = .ok (.istore_n 3, 1) := by decide +kernel
theorem dX4_lost_36 : decode cX4_lost 36 = .ok (.bipush 8, 2) := by decide +kernel
theorem dX4_lost_38 : decode cX4_lost 38 = .ok (.aload_n 0, 1) := by decide +kernel
theorem dX4_lost_39 : decode cX4_lost 39 = .ok (.getfield 10, 3) := by decide +kernel
theorem dX4_lost_42 : decode cX4_lost 42 = .ok (.getfield 59, 3) := by decide +kernel
theorem dX4_lost_45 : decode cX4_lost 45 = .ok (.imul, 1) := by decide +kernel
theorem dX4_lost_46 : decode cX4_lost 46 = .ok (.iconst 1, 1) := by decide +kernel
theorem dX4_lost_47 : decode cX4_lost 47 = .ok (.isub, 1) := by decide +kernel
theorem dX4_lost_48 : decode cX4_lost 48 = .ok (.istore 4, 2) := by decide +kernel
theorem dX4_lost_50 : decode cX4_lost 50 = .ok (.iload 4, 2) := by decide +kernel
theorem dX4_lost_52 : decode cX4_lost 52 = .ok (.ifCond .lt 41, 3) := by decide +kernel
theorem dX4_lost_55 : decode cX4_lost 55 = .ok (.aload_n 0, 1) := by decide +kernel
theorem dX4_lost_56 : decode cX4_lost 56 = .ok (.getfield 10, 3) := by decide +kernel
theorem dX4_lost_59 : decode cX4_lost 59 = .ok (.getfield 88, 3) := by decide +kernel
theorem dX4_lost_62 : decode cX4_lost 62 = .ok (.iload 4, 2) := by decide +kernel
theorem dX4_lost_64 : decode cX4_lost 64 = .ok (.iaload, 1) := by decide +kernel
theorem dX4_lost_65 : decode cX4_lost 65 = .ok (.ifCond .le 22, 3) := by decide +kernel
theorem dX4_lost_68 : decode cX4_lost 68 = .ok (.aload_n 0, 1) := by decide +kernel
theorem dX4_lost_69 : decode cX4_lost 69 = .ok (.getfield 10, 3) := by decide +kernel
theorem dX4_lost_72 : decode cX4_lost 72 = .ok (.getfield 114, 3) := by decide +kernel
theorem dX4_lost_75 : decode cX4_lost 75 = .ok (.iload 4, 2) := by decide +kernel
theorem dX4_lost_77 : decode cX4_lost 77 = .ok (.baload, 1) := by decide +kernel
theorem dX4_lost_78 : decode cX4_lost 78 = .ok (.ifCond .ne 9, 3) := by decide +kernel
theorem dX4_lost_81 : decode cX4_lost 81 = .ok (.iinc 2 1, 3) := by decide +kernel
theorem dX4_lost_84 : decode cX4_lost 84 = .ok (.iload 4, 2) := by decide +kernel
theorem dX4_lost_86 : decode cX4_lost 86 = .ok (.istore_n 3, 1) := by decide +kernel
theorem dX4_lost_87 : decode cX4_lost 87 = .ok (.iinc 4 (-1), 3) := by decide +kernel
theorem dX4_lost_90 : decode cX4_lost 90 = .ok (.goto (-40), 3) := by decide +kernel
theorem dX4_lost_93 : decode cX4_lost 93 = .ok (.iload_n 1, 1) := by decide +kernel
theorem dX4_lost_94 : decode cX4_lost 94 = .ok (.ifCond .ne 7, 3) := by decide +kernel
theorem dX4_lost_97 : decode cX4_lost 97 = .ok (.iload_n 2, 1) := by decide +kernel
theorem dX4_lost_98 : decode cX4_lost 98 = .ok (.goto 4, 3) := by decide +kernel
theorem dX4_lost_101 : decode cX4_lost 101 = .ok (.iload_n 3, 1) := by decide +kernel
theorem dX4_lost_102 : decode cX4_lost 102 = .ok (.ireturn, 1) := by decide +kernel
theorem dX4_bound_0 : decode cX4_bound 0 = .ok (.aload_n 0, 1) := by decide +kernel
theorem dX4_bound_1 : decode cX4_bound 1 = .ok (.getfield 10, 3) := by decide +kernel
theorem dX4_bound_4 : decode cX4_bound 4 = .ok (.getfield 59, 3) := by decide +kernel
theorem dX4_bound_7 : decode cX4_bound 7 = .ok (.ifCond .ne 8, 3) := by decide +kernel
theorem dX4_bound_10 : decode cX4_bound 10 = .ok (.bipush (-2), 2) := by decide +kernel
theorem dX4_bound_12 : decode cX4_bound 12 = .ok (.goto 17, 3) := by decide +kernel
theorem dX4_bound_15 : decode cX4_bound 15 = .ok (.aload_n 0, 1) := by decide +kernel
theorem dX4_bound_16 : decode cX4_bound 16 = .ok (.getfield 10, 3) := by decide +kernel
theorem dX4_bound_19 : decode cX4_bound 19 = .ok (.aload_n 0, 1) := by decide +kernel
theorem dX4_bound_20 : decode cX4_bound 20 = .ok (.getfield 10, 3) := by decide +kernel
theorem dX4_bound_23 : decode cX4_bound 23 = .ok (.invokevirtual 118, 3) := by decide +kernel
theorem dX4_bound_26 : decode cX4_bound 26 = .ok (.invokevirtual 121, 3) := by decide +kernel
theorem dX4_bound_29 : decode cX4_bound 29 = .ok (.ireturn, 1) := by decide +kernel
theorem dX4_best_0 : decode cX4_best 0 = .ok (.aload_n 0, 1) := by decide +kernel
theorem dX4_best_1 : decode cX4_best 1 = .ok (.getfield 10, 3) := by decide +kernel
theorem dX4_best_4 : decode cX4_best 4 = .ok (.getfield 59, 3) := by decide +kernel
theorem dX4_best_7 : decode cX4_best 7 = .ok (.ifCond .ne 8, 3) := by decide +kernel
theorem dX4_best_10 : decode cX4_best 10 = .ok (.bipush (-2), 2) := by decide +kernel
theorem dX4_best_12 : decode cX4_best 12 = .ok (.goto 10, 3) := by decide +kernel
theorem dX4_best_15 : decode cX4_best 15 = .ok (.aload_n 0, 1) := by decide +kernel
theorem dX4_best_16 : decode cX4_best 16 = .ok (.getfield 10, 3) := by decide +kernel
theorem dX4_best_19 : decode cX4_best 19 = .ok (.invokevirtual 118, 3) := by decide +kernel
theorem dX4_best_22 : decode cX4_best 22 = .ok (.ireturn, 1) := by decide +kernel
theorem dX4_worth_0 : decode cX4_worth 0 = .ok (.aload_n 0, 1) := by decide +kernel
theorem dX4_worth_1 : decode cX4_worth 1 = .ok (.getfield 10, 3) := by decide +kernel
theorem dX4_worth_4 : decode cX4_worth 4 = .ok (.getfield 59, 3) := by decide +kernel
theorem dX4_worth_7 : decode cX4_worth 7 = .ok (.ifCond .ne 8, 3) := by decide +kernel
theorem dX4_worth_10 : decode cX4_worth 10 = .ok (.bipush (-2), 2) := by decide +kernel
theorem dX4_worth_12 : decode cX4_worth 12 = .ok (.goto 10, 3) := by decide +kernel
theorem dX4_worth_15 : decode cX4_worth 15 = .ok (.aload_n 0, 1) := by decide +kernel
theorem dX4_worth_16 : decode cX4_worth 16 = .ok (.getfield 10, 3) := by decide +kernel
theorem dX4_worth_19 : decode cX4_worth 19 = .ok (.invokevirtual 124, 3) := by decide +kernel
theorem dX4_worth_22 : decode cX4_worth 22 = .ok (.ireturn, 1) := by decide +kernel
theorem dX4_beyond_0 : decode cX4_beyond 0 = .ok (.aload_n 0, 1) := by decide +kernel
theorem dX4_beyond_1 : decode cX4_beyond 1 = .ok (.getfield 10, 3) := by decide +kernel
theorem dX4_beyond_4 : decode cX4_beyond 4 = .ok (.getfield 59, 3) := by decide +kernel
theorem dX4_beyond_7 : decode cX4_beyond 7 = .ok (.ifCond .ne 6, 3) := by decide +kernel
theorem dX4_beyond_10 : decode cX4_beyond 10 = .ok (.bipush (-2), 2) := by decide +kernel
theorem dX4_beyond_12 : decode cX4_beyond 12 = .ok (.ireturn, 1) := by decide +kernel
theorem dX4_beyond_13 : decode cX4_beyond 13 = .ok (.aload_n 0, 1) := by decide +kernel
theorem dX4_beyond_14 : decode cX4_beyond 14 = .ok (.getfield 10, 3) := by decide +kernel
theorem dX4_beyond_17 : decode cX4_beyond 17 = .ok (.invokevirtual 105, 3) := by decide +kernel
theorem dX4_beyond_20 : decode cX4_beyond 20 = .ok (.bipush (-4), 2) := by decide +kernel
theorem dX4_beyond_22 : decode cX4_beyond 22 = .ok (.if_icmp .eq 5, 3) := by decide +kernel
theorem dX4_beyond_25 : decode cX4_beyond 25 = .ok (.iconst 0, 1) := by decide +kernel
theorem dX4_beyond_26 : decode cX4_beyond 26 = .ok (.ireturn, 1) := by decide +kernel
theorem dX4_beyond_27 : decode cX4_beyond 27 = .ok (.aload_n 0, 1) := by decide +kernel
theorem dX4_beyond_28 : decode cX4_beyond 28 = .ok (.getfield 10, 3) := by decide +kernel
theorem dX4_beyond_31 : decode cX4_beyond 31 = .ok (.aload_n 0, 1) := by decide +kernel
theorem dX4_beyond_32 : decode cX4_beyond 32 = .ok (.getfield 10, 3) := by decide +kernel
theorem dX4_beyond_35 : decode cX4_beyond 35 = .ok (.invokevirtual 118, 3) := by decide +kernel
theorem dX4_beyond_38 : decode cX4_beyond 38 = .ok (.invokevirtual 121, 3) := by decide +kernel
theorem dX4_beyond_41 : decode cX4_beyond 41 = .ok (.aload_n 0, 1) := by decide +kernel
theorem dX4_beyond_42 : decode cX4_beyond 42 = .ok (.getfield 10, 3) := by decide +kernel
theorem dX4_beyond_45 : decode cX4_beyond 45 = .ok (.iconst 0, 1) := by decide +kernel
theorem dX4_beyond_46 : decode cX4_beyond 46 = .ok (.invokevirtual 75, 3) := by decide +kernel
theorem dX4_beyond_49 : decode cX4_beyond 49 = .ok (.imul, 1) := by decide +kernel
theorem dX4_beyond_50 : decode cX4_beyond 50 = .ok (.istore_n 1, 1) := by decide +kernel
theorem dX4_beyond_51 : decode cX4_beyond 51 = .ok (.aload_n 0, 1) := by decide +kernel
theorem dX4_beyond_52 : decode cX4_beyond 52 = .ok (.getfield 10, 3) := by decide +kernel
theorem dX4_beyond_55 : decode cX4_beyond 55 = .ok (.invokevirtual 124, 3) := by decide +kernel
theorem dX4_beyond_58 : decode cX4_beyond 58 = .ok (.iload_n 1, 1) := by decide +kernel
theorem dX4_beyond_59 : decode cX4_beyond 59 = .ok (.if_icmp .le 7, 3) := by decide +kernel
theorem dX4_beyond_62 : decode cX4_beyond 62 = .ok (.iconst 1, 1) := by decide +kernel
theorem dX4_beyond_63 : decode cX4_beyond 63 = .ok (.goto 4, 3) := by decide +kernel
theorem dX4_beyond_66 : decode cX4_beyond 66 = .ok (.iconst 0, 1) := by decide +kernel
theorem dX4_beyond_67 : decode cX4_beyond 67 = .ok (.ireturn, 1) := by decide +kernel
theorem dX4_parted_0 : decode cX4_parted 0 = .ok (.aload_n 0, 1) := by decide +kernel
theorem dX4_parted_1 : decode cX4_parted 1 = .ok (.invokevirtual 127, 3) := by decide +kernel
theorem dX4_parted_4 : decode cX4_parted 4 = .ok (.ifCond .ne 6, 3) := by decide +kernel
theorem dX4_parted_7 : decode cX4_parted 7 = .ok (.bipush (-2), 2) := by decide +kernel
theorem dX4_parted_9 : decode cX4_parted 9 = .ok (.ireturn, 1) := by decide +kernel
theorem dX4_parted_10 : decode cX4_parted 10 = .ok (.aload_n 0, 1) := by decide +kernel
theorem dX4_parted_11 : decode cX4_parted 11 = .ok (.getfield 19, 3) := by decide +kernel
theorem dX4_parted_14 : decode cX4_parted 14 = .ok (.aload_n 0, 1) := by decide +kernel
theorem dX4_parted_15 : decode cX4_parted 15 = .ok (.getfield 10, 3) := by decide +kernel
theorem dX4_parted_18 : decode cX4_parted 18 = .ok (.invokevirtual 131, 3) := by decide +kernel
theorem dX4_parted_21 : decode cX4_parted 21 = .ok (.aload_n 0, 1) := by decide +kernel
theorem dX4_parted_22 : decode cX4_parted 22 = .ok (.getfield 19, 3) := by decide +kernel
theorem dX4_parted_25 : decode cX4_parted 25 = .ok (.getfield 135, 3) := by decide +kernel
theorem dX4_parted_28 : decode cX4_parted 28 = .ok (.ireturn, 1) := by decide +kernel
theorem dX4_part_0 : decode cX4_part 0 = .ok (.iload_n 1, 1) := by decide +kernel
theorem dX4_part_1 : decode cX4_part 1 = .ok (.ifCond .ge 11, 3) := by decide +kernel
theorem dX4_part_4 : decode cX4_part 4 = .ok (.iload_n 1, 1) := by decide +kernel
theorem dX4_part_5 : decode cX4_part 5 = .ok (.bipush (-4), 2) := by decide +kernel
theorem dX4_part_7 : decode cX4_part 7 = .ok (.if_icmp .eq 5, 3) := by decide +kernel
theorem dX4_part_10 : decode cX4_part 10 = .ok (.iconst (-1), 1) := by decide +kernel
theorem dX4_part_11 : decode cX4_part 11 = .ok (.ireturn, 1) := by decide +kernel
theorem dX4_part_12 : decode cX4_part 12 = .ok (.aload_n 0, 1) := by decide +kernel
theorem dX4_part_13 : decode cX4_part 13 = .ok (.invokevirtual 127, 3) := by decide +kernel
theorem dX4_part_16 : decode cX4_part 16 = .ok (.ifCond .ne 6, 3) := by decide +kernel
theorem dX4_part_19 : decode cX4_part 19 = .ok (.bipush (-2), 2) := by decide +kernel
theorem dX4_part_21 : decode cX4_part 21 = .ok (.ireturn, 1) := by decide +kernel
theorem dX4_part_22 : decode cX4_part 22 = .ok (.aload_n 0, 1) := by decide +kernel
theorem dX4_part_23 : decode cX4_part 23 = .ok (.getfield 19, 3) := by decide +kernel
theorem dX4_part_26 : decode cX4_part 26 = .ok (.aload_n 0, 1) := by decide +kernel
theorem dX4_part_27 : decode cX4_part 27 = .ok (.getfield 10, 3) := by decide +kernel
theorem dX4_part_30 : decode cX4_part 30 = .ok (.invokevirtual 131, 3) := by decide +kernel
theorem dX4_part_33 : decode cX4_part 33 = .ok (.iload_n 1, 1) := by decide +kernel
theorem dX4_part_34 : decode cX4_part 34 = .ok (.bipush (-4), 2) := by decide +kernel
theorem dX4_part_36 : decode cX4_part 36 = .ok (.if_icmp .ne 11, 3) := by decide +kernel
theorem dX4_part_39 : decode cX4_part 39 = .ok (.aload_n 0, 1) := by decide +kernel
theorem dX4_part_40 : decode cX4_part 40 = .ok (.getfield 19, 3) := by decide +kernel
theorem dX4_part_43 : decode cX4_part 43 = .ok (.getfield 138, 3) := by decide +kernel
theorem dX4_part_46 : decode cX4_part 46 = .ok (.ireturn, 1) := by decide +kernel
theorem dX4_part_47 : decode cX4_part 47 = .ok (.aload_n 0, 1) := by decide +kernel
theorem dX4_part_48 : decode cX4_part 48 = .ok (.getfield 19, 3) := by decide +kernel
theorem dX4_part_51 : decode cX4_part 51 = .ok (.getfield 135, 3) := by decide +kernel
theorem dX4_part_54 : decode cX4_part 54 = .ok (.bipush (-6), 2) := by decide +kernel
theorem dX4_part_56 : decode cX4_part 56 = .ok (.if_icmp .ne 6, 3) := by decide +kernel
theorem dX4_part_59 : decode cX4_part 59 = .ok (.bipush (-6), 2) := by decide +kernel
theorem dX4_part_61 : decode cX4_part 61 = .ok (.ireturn, 1) := by decide +kernel
theorem dX4_part_62 : decode cX4_part 62 = .ok (.aload_n 0, 1) := by decide +kernel
theorem dX4_part_63 : decode cX4_part 63 = .ok (.getfield 19, 3) := by decide +kernel
theorem dX4_part_66 : decode cX4_part 66 = .ok (.getfield 135, 3) := by decide +kernel
theorem dX4_part_69 : decode cX4_part 69 = .ok (.iconst 1, 1) := by decide +kernel
theorem dX4_part_70 : decode cX4_part 70 = .ok (.if_icmp .ne 26, 3) := by decide +kernel
theorem dX4_part_73 : decode cX4_part 73 = .ok (.iload_n 1, 1) := by decide +kernel
theorem dX4_part_74 : decode cX4_part 74 = .ok (.aload_n 0, 1) := by decide +kernel
theorem dX4_part_75 : decode cX4_part 75 = .ok (.getfield 19, 3) := by decide +kernel
theorem dX4_part_78 : decode cX4_part 78 = .ok (.getfield 141, 3) := by decide +kernel
theorem dX4_part_81 : decode cX4_part 81 = .ok (.if_icmp .ge 15, 3) := by decide +kernel
theorem dX4_part_84 : decode cX4_part 84 = .ok (.aload_n 0, 1) := by decide +kernel
theorem dX4_part_85 : decode cX4_part 85 = .ok (.getfield 19, 3) := by decide +kernel
theorem dX4_part_88 : decode cX4_part 88 = .ok (.getfield 144, 3) := by decide +kernel
theorem dX4_part_91 : decode cX4_part 91 = .ok (.iload_n 1, 1) := by decide +kernel
theorem dX4_part_92 : decode cX4_part 92 = .ok (.iaload, 1) := by decide +kernel
theorem dX4_part_93 : decode cX4_part 93 = .ok (.goto 5, 3) := by decide +kernel
theorem dX4_part_96 : decode cX4_part 96 = .ok (.bipush (-4), 2) := by decide +kernel
theorem dX4_part_98 : decode cX4_part 98 = .ok (.ireturn, 1) := by decide +kernel
theorem dX4_canBeSearched_0 : decode cX4_canBeSearched 0 = .ok (.aload_n 0, 1) := by decide +kernel
theorem dX4_canBeSearched_1 : decode cX4_canBeSearched 1 = .ok (.getfield 10, 3) := by decide +kernel
theorem dX4_canBeSearched_4 : decode cX4_canBeSearched 4 = .ok (.getfield 59, 3) := by decide +kernel
theorem dX4_canBeSearched_7 : decode cX4_canBeSearched 7 = .ok (.ifCond .eq 15, 3) := by decide +kernel
theorem dX4_canBeSearched_10 : decode cX4_canBeSearched 10 = .ok (.aload_n 0, 1) := by decide +kernel
theorem dX4_canBeSearched_11 : decode cX4_canBeSearched 11 = .ok (.getfield 10, 3) := by decide +kernel
theorem dX4_canBeSearched_14 : decode cX4_canBeSearched 14 = .ok (.invokevirtual 105, 3) := by decide +kernel
theorem dX4_canBeSearched_17 : decode cX4_canBeSearched 17 = .ok (.bipush (-4), 2) := by decide +kernel
theorem dX4_canBeSearched_19 : decode cX4_canBeSearched 19 = .ok (.if_icmp .eq 5, 3) := by decide +kernel
theorem dX4_canBeSearched_22 : decode cX4_canBeSearched 22 = .ok (.iconst 0, 1) := by decide +kernel
theorem dX4_canBeSearched_23 : decode cX4_canBeSearched 23 = .ok (.ireturn, 1) := by decide +kernel
theorem dX4_canBeSearched_24 : decode cX4_canBeSearched 24 = .ok (.aload_n 0, 1) := by decide +kernel
theorem dX4_canBeSearched_25 : decode cX4_canBeSearched 25 = .ok (.getfield 10, 3) := by decide +kernel
theorem dX4_canBeSearched_28 : decode cX4_canBeSearched 28 = .ok (.iconst 0, 1) := by decide +kernel
theorem dX4_canBeSearched_29 : decode cX4_canBeSearched 29 = .ok (.invokevirtual 75, 3) := by decide +kernel
theorem dX4_canBeSearched_32 : decode cX4_canBeSearched 32 = .ok (.istore_n 1, 1) := by decide +kernel
theorem dX4_canBeSearched_33 : decode cX4_canBeSearched 33 = .ok (.iload_n 1, 1) := by decide +kernel
theorem dX4_canBeSearched_34 : decode cX4_canBeSearched 34 = .ok (.iconst 1, 1) := by decide +kernel
theorem dX4_canBeSearched_35 : decode cX4_canBeSearched 35 = .ok (.if_icmp .lt 13, 3) := by decide +kernel
theorem dX4_canBeSearched_38 : decode cX4_canBeSearched 38 = .ok (.iload_n 1, 1) := by decide +kernel
theorem dX4_canBeSearched_39 : decode cX4_canBeSearched 39 = .ok (.bipush 24, 2) := by decide +kernel
theorem dX4_canBeSearched_41 : decode cX4_canBeSearched 41 = .ok (.if_icmp .gt 7, 3) := by decide +kernel
theorem dX4_canBeSearched_44 : decode cX4_canBeSearched 44 = .ok (.iconst 1, 1) := by decide +kernel
theorem dX4_canBeSearched_45 : decode cX4_canBeSearched 45 = .ok (.goto 4, 3) := by decide +kernel
theorem dX4_canBeSearched_48 : decode cX4_canBeSearched 48 = .ok (.iconst 0, 1) := by decide +kernel
theorem dX4_canBeSearched_49 : decode cX4_canBeSearched 49 = .ok (.ireturn, 1) := by decide +kernel
theorem dX4_mix_0 : decode cX4_mix 0 = .ok (.aload_n 0, 1) := by decide +kernel
theorem dX4_mix_1 : decode cX4_mix 1 = .ok (.getfield 10, 3) := by decide +kernel
theorem dX4_mix_4 : decode cX4_mix 4 = .ok (.getfield 37, 3) := by decide +kernel
theorem dX4_mix_7 : decode cX4_mix 7 = .ok (.iconst 4, 1) := by decide +kernel
theorem dX4_mix_8 : decode cX4_mix 8 = .ok (.if_icmp .le 5, 3) := by decide +kernel
theorem dX4_mix_11 : decode cX4_mix 11 = .ok (.iconst (-1), 1) := by decide +kernel
theorem dX4_mix_12 : decode cX4_mix 12 = .ok (.ireturn, 1) := by decide +kernel
theorem dX4_mix_13 : decode cX4_mix 13 = .ok (.iconst 1, 1) := by decide +kernel
theorem dX4_mix_14 : decode cX4_mix 14 = .ok (.aload_n 0, 1) := by decide +kernel
theorem dX4_mix_15 : decode cX4_mix 15 = .ok (.getfield 10, 3) := by decide +kernel
theorem dX4_mix_18 : decode cX4_mix 18 = .ok (.invokevirtual 45, 3) := by decide +kernel
theorem dX4_mix_21 : decode cX4_mix 21 = .ok (.ishl, 1) := by decide +kernel
theorem dX4_mix_22 : decode cX4_mix 22 = .ok (.iconst 1, 1) := by decide +kernel
theorem dX4_mix_23 : decode cX4_mix 23 = .ok (.isub, 1) := by decide +kernel
theorem dX4_mix_24 : decode cX4_mix 24 = .ok (.istore_n 2, 1) := by decide +kernel
theorem dX4_mix_25 : decode cX4_mix 25 = .ok (.iload_n 1, 1) := by decide +kernel
theorem dX4_mix_26 : decode cX4_mix 26 = .ok (.ifCond .lt 8, 3) := by decide +kernel
theorem dX4_mix_29 : decode cX4_mix 29 = .ok (.iload_n 1, 1) := by decide +kernel
theorem dX4_mix_30 : decode cX4_mix 30 = .ok (.iload_n 2, 1) := by decide +kernel
theorem dX4_mix_31 : decode cX4_mix 31 = .ok (.if_icmp .le 5, 3) := by decide +kernel
end
section
theorem dX4_mix_34 : decode cX4_mix 34 = .ok (.iconst (-1), 1) := by decide +kernel
theorem dX4_mix_35 : decode cX4_mix 35 = .ok (.ireturn, 1) := by decide +kernel
theorem dX4_mix_36 : decode cX4_mix 36 = .ok (.aload_n 0, 1) := by decide +kernel
theorem dX4_mix_37 : decode cX4_mix 37 = .ok (.getfield 10, 3) := by decide +kernel
theorem dX4_mix_40 : decode cX4_mix 40 = .ok (.getfield 59, 3) := by decide +kernel
theorem dX4_mix_43 : decode cX4_mix 43 = .ok (.ifCond .ne 6, 3) := by decide +kernel
theorem dX4_mix_46 : decode cX4_mix 46 = .ok (.bipush (-2), 2) := by decide +kernel
theorem dX4_mix_48 : decode cX4_mix 48 = .ok (.ireturn, 1) := by decide +kernel
theorem dX4_mix_49 : decode cX4_mix 49 = .ok (.aload_n 0, 1) := by decide +kernel
theorem dX4_mix_50 : decode cX4_mix 50 = .ok (.getfield 10, 3) := by decide +kernel
theorem dX4_mix_53 : decode cX4_mix 53 = .ok (.iload_n 1, 1) := by decide +kernel
theorem dX4_mix_54 : decode cX4_mix 54 = .ok (.invokevirtual 147, 3) := by decide +kernel
theorem dX4_mix_57 : decode cX4_mix 57 = .ok (.iload_n 1, 1) := by decide +kernel
theorem dX4_mix_58 : decode cX4_mix 58 = .ok (.invokestatic 49, 3) := by decide +kernel
theorem dX4_mix_61 : decode cX4_mix 61 = .ok (.ireturn, 1) := by decide +kernel
theorem dX4_fulfil_0 : decode cX4_fulfil 0 = .ok (.aload_n 0, 1) := by decide +kernel
theorem dX4_fulfil_1 : decode cX4_fulfil 1 = .ok (.getfield 10, 3) := by decide +kernel
theorem dX4_fulfil_4 : decode cX4_fulfil 4 = .ok (.getfield 59, 3) := by decide +kernel
theorem dX4_fulfil_7 : decode cX4_fulfil 7 = .ok (.ifCond .ne 6, 3) := by decide +kernel
theorem dX4_fulfil_10 : decode cX4_fulfil 10 = .ok (.bipush (-2), 2) := by decide +kernel
theorem dX4_fulfil_12 : decode cX4_fulfil 12 = .ok (.ireturn, 1) := by decide +kernel
theorem dX4_fulfil_13 : decode cX4_fulfil 13 = .ok (.iconst 0, 1) := by decide +kernel
theorem dX4_fulfil_14 : decode cX4_fulfil 14 = .ok (.istore_n 1, 1) := by decide +kernel
theorem dX4_fulfil_15 : decode cX4_fulfil 15 = .ok (.iconst 0, 1) := by decide +kernel
theorem dX4_fulfil_16 : decode cX4_fulfil 16 = .ok (.istore_n 2, 1) := by decide +kernel
theorem dX4_fulfil_17 : decode cX4_fulfil 17 = .ok (.iload_n 2, 1) := by decide +kernel
theorem dX4_fulfil_18 : decode cX4_fulfil 18 = .ok (.aload_n 0, 1) := by decide +kernel
theorem dX4_fulfil_19 : decode cX4_fulfil 19 = .ok (.getfield 10, 3) := by decide +kernel
theorem dX4_fulfil_22 : decode cX4_fulfil 22 = .ok (.invokevirtual 45, 3) := by decide +kernel
theorem dX4_fulfil_25 : decode cX4_fulfil 25 = .ok (.if_icmp .ge 23, 3) := by decide +kernel
theorem dX4_fulfil_28 : decode cX4_fulfil 28 = .ok (.aload_n 0, 1) := by decide +kernel
theorem dX4_fulfil_29 : decode cX4_fulfil 29 = .ok (.getfield 10, 3) := by decide +kernel
theorem dX4_fulfil_32 : decode cX4_fulfil 32 = .ok (.iload_n 2, 1) := by decide +kernel
theorem dX4_fulfil_33 : decode cX4_fulfil 33 = .ok (.invokevirtual 150, 3) := by decide +kernel
theorem dX4_fulfil_36 : decode cX4_fulfil 36 = .ok (.ifCond .eq 6, 3) := by decide +kernel
theorem dX4_fulfil_39 : decode cX4_fulfil 39 = .ok (.iinc 1 1, 3) := by decide +kernel
theorem dX4_fulfil_42 : decode cX4_fulfil 42 = .ok (.iinc 2 1, 3) := by decide +kernel
theorem dX4_fulfil_45 : decode cX4_fulfil 45 = .ok (.goto (-28), 3) := by decide +kernel
theorem dX4_fulfil_48 : decode cX4_fulfil 48 = .ok (.iload_n 1, 1) := by decide +kernel
theorem dX4_fulfil_49 : decode cX4_fulfil 49 = .ok (.ireturn, 1) := by decide +kernel
theorem dX4_proof_0 : decode cX4_proof 0 = .ok (.aload_n 0, 1) := by decide +kernel
theorem dX4_proof_1 : decode cX4_proof 1 = .ok (.getfield 10, 3) := by decide +kernel
theorem dX4_proof_4 : decode cX4_proof 4 = .ok (.getfield 59, 3) := by decide +kernel
theorem dX4_proof_7 : decode cX4_proof 7 = .ok (.ifCond .ne 6, 3) := by decide +kernel
theorem dX4_proof_10 : decode cX4_proof 10 = .ok (.bipush (-2), 2) := by decide +kernel
theorem dX4_proof_12 : decode cX4_proof 12 = .ok (.ireturn, 1) := by decide +kernel
theorem dX4_proof_13 : decode cX4_proof 13 = .ok (.bipush (-4), 2) := by decide +kernel
theorem dX4_proof_15 : decode cX4_proof 15 = .ok (.istore_n 1, 1) := by decide +kernel
theorem dX4_proof_16 : decode cX4_proof 16 = .ok (.bipush 9, 2) := by decide +kernel
theorem dX4_proof_18 : decode cX4_proof 18 = .ok (.istore_n 2, 1) := by decide +kernel
theorem dX4_proof_19 : decode cX4_proof 19 = .ok (.iconst 1, 1) := by decide +kernel
theorem dX4_proof_20 : decode cX4_proof 20 = .ok (.istore_n 3, 1) := by decide +kernel
theorem dX4_proof_21 : decode cX4_proof 21 = .ok (.iload_n 3, 1) := by decide +kernel
theorem dX4_proof_22 : decode cX4_proof 22 = .ok (.iconst 1, 1) := by decide +kernel
theorem dX4_proof_23 : decode cX4_proof 23 = .ok (.aload_n 0, 1) := by decide +kernel
theorem dX4_proof_24 : decode cX4_proof 24 = .ok (.getfield 10, 3) := by decide +kernel
theorem dX4_proof_27 : decode cX4_proof 27 = .ok (.getfield 59, 3) := by decide +kernel
theorem dX4_proof_30 : decode cX4_proof 30 = .ok (.ishl, 1) := by decide +kernel
theorem dX4_proof_31 : decode cX4_proof 31 = .ok (.if_icmp .ge 35, 3) := by decide +kernel
theorem dX4_proof_34 : decode cX4_proof 34 = .ok (.iload_n 3, 1) := by decide +kernel
theorem dX4_proof_35 : decode cX4_proof 35 = .ok (.invokestatic 49, 3) := by decide +kernel
theorem dX4_proof_38 : decode cX4_proof 38 = .ok (.iload_n 2, 1) := by decide +kernel
theorem dX4_proof_39 : decode cX4_proof 39 = .ok (.if_icmp .ge 21, 3) := by decide +kernel
theorem dX4_proof_42 : decode cX4_proof 42 = .ok (.aload_n 0, 1) := by decide +kernel
theorem dX4_proof_43 : decode cX4_proof 43 = .ok (.getfield 10, 3) := by decide +kernel
theorem dX4_proof_46 : decode cX4_proof 46 = .ok (.iload_n 3, 1) := by decide +kernel
theorem dX4_proof_47 : decode cX4_proof 47 = .ok (.invokevirtual 153, 3) := by decide +kernel
theorem dX4_proof_50 : decode cX4_proof 50 = .ok (.ifCond .eq 10, 3) := by decide +kernel
theorem dX4_proof_53 : decode cX4_proof 53 = .ok (.iload_n 3, 1) := by decide +kernel
theorem dX4_proof_54 : decode cX4_proof 54 = .ok (.istore_n 1, 1) := by decide +kernel
theorem dX4_proof_55 : decode cX4_proof 55 = .ok (.iload_n 3, 1) := by decide +kernel
theorem dX4_proof_56 : decode cX4_proof 56 = .ok (.invokestatic 49, 3) := by decide +kernel
theorem dX4_proof_59 : decode cX4_proof 59 = .ok (.istore_n 2, 1) := by decide +kernel
theorem dX4_proof_60 : decode cX4_proof 60 = .ok (.iinc 3 1, 3) := by decide +kernel
theorem dX4_proof_63 : decode cX4_proof 63 = .ok (.goto (-42), 3) := by decide +kernel
theorem dX4_proof_66 : decode cX4_proof 66 = .ok (.iload_n 1, 1) := by decide +kernel
theorem dX4_proof_67 : decode cX4_proof 67 = .ok (.ireturn, 1) := by decide +kernel
theorem dX4_ray_0 : decode cX4_ray 0 = .ok (.iload_n 1, 1) := by decide +kernel
theorem dX4_ray_1 : decode cX4_ray 1 = .ok (.invokestatic 156, 3) := by decide +kernel
theorem dX4_ray_4 : decode cX4_ray 4 = .ok (.ifCond .eq 29, 3) := by decide +kernel
theorem dX4_ray_7 : decode cX4_ray 7 = .ok (.iload_n 2, 1) := by decide +kernel
theorem dX4_ray_8 : decode cX4_ray 8 = .ok (.invokestatic 156, 3) := by decide +kernel
theorem dX4_ray_11 : decode cX4_ray 11 = .ok (.ifCond .eq 22, 3) := by decide +kernel
theorem dX4_ray_14 : decode cX4_ray 14 = .ok (.iload_n 3, 1) := by decide +kernel
theorem dX4_ray_15 : decode cX4_ray 15 = .ok (.invokestatic 156, 3) := by decide +kernel
theorem dX4_ray_18 : decode cX4_ray 18 = .ok (.ifCond .eq 15, 3) := by decide +kernel
theorem dX4_ray_21 : decode cX4_ray 21 = .ok (.iload_n 1, 1) := by decide +kernel
theorem dX4_ray_22 : decode cX4_ray 22 = .ok (.ifCond .ne 13, 3) := by decide +kernel
theorem dX4_ray_25 : decode cX4_ray 25 = .ok (.iload_n 2, 1) := by decide +kernel
theorem dX4_ray_26 : decode cX4_ray 26 = .ok (.ifCond .ne 9, 3) := by decide +kernel
theorem dX4_ray_29 : decode cX4_ray 29 = .ok (.iload_n 3, 1) := by decide +kernel
theorem dX4_ray_30 : decode cX4_ray 30 = .ok (.ifCond .ne 5, 3) := by decide +kernel
theorem dX4_ray_33 : decode cX4_ray 33 = .ok (.iconst (-1), 1) := by decide +kernel
theorem dX4_ray_34 : decode cX4_ray 34 = .ok (.ireturn, 1) := by decide +kernel
theorem dX4_ray_35 : decode cX4_ray 35 = .ok (.aload_n 0, 1) := by decide +kernel
theorem dX4_ray_36 : decode cX4_ray 36 = .ok (.getfield 26, 3) := by decide +kernel
theorem dX4_ray_39 : decode cX4_ray 39 = .ok (.iload_n 1, 1) := by decide +kernel
theorem dX4_ray_40 : decode cX4_ray 40 = .ok (.iload_n 2, 1) := by decide +kernel
theorem dX4_ray_41 : decode cX4_ray 41 = .ok (.iload_n 3, 1) := by decide +kernel
theorem dX4_ray_42 : decode cX4_ray 42 = .ok (.invokevirtual 159, 3) := by decide +kernel
theorem dX4_ray_45 : decode cX4_ray 45 = .ok (.ifCond .eq 6, 3) := by decide +kernel
theorem dX4_ray_48 : decode cX4_ray 48 = .ok (.bipush (-2), 2) := by decide +kernel
theorem dX4_ray_50 : decode cX4_ray 50 = .ok (.ireturn, 1) := by decide +kernel
theorem dX4_ray_51 : decode cX4_ray 51 = .ok (.aload_n 0, 1) := by decide +kernel
theorem dX4_ray_52 : decode cX4_ray 52 = .ok (.getfield 26, 3) := by decide +kernel
theorem dX4_ray_55 : decode cX4_ray 55 = .ok (.getfield 163, 3) := by decide +kernel
theorem dX4_ray_58 : decode cX4_ray 58 = .ok (.bipush 12, 2) := by decide +kernel
theorem dX4_ray_60 : decode cX4_ray 60 = .ok (.if_icmp .lt 8, 3) := by decide +kernel
theorem dX4_ray_63 : decode cX4_ray 63 = .ok (.bipush (-3), 2) := by decide +kernel
theorem dX4_ray_65 : decode cX4_ray 65 = .ok (.goto 13, 3) := by decide +kernel
theorem dX4_ray_68 : decode cX4_ray 68 = .ok (.aload_n 0, 1) := by decide +kernel
theorem dX4_ray_69 : decode cX4_ray 69 = .ok (.getfield 26, 3) := by decide +kernel
theorem dX4_ray_72 : decode cX4_ray 72 = .ok (.iload_n 1, 1) := by decide +kernel
theorem dX4_ray_73 : decode cX4_ray 73 = .ok (.iload_n 2, 1) := by decide +kernel
theorem dX4_ray_74 : decode cX4_ray 74 = .ok (.iload_n 3, 1) := by decide +kernel
theorem dX4_ray_75 : decode cX4_ray 75 = .ok (.invokevirtual 164, 3) := by decide +kernel
theorem dX4_ray_78 : decode cX4_ray 78 = .ok (.ireturn, 1) := by decide +kernel
theorem dX4_cut_0 : decode cX4_cut 0 = .ok (.aload_n 0, 1) := by decide +kernel
theorem dX4_cut_1 : decode cX4_cut 1 = .ok (.getfield 26, 3) := by decide +kernel
theorem dX4_cut_4 : decode cX4_cut 4 = .ok (.getfield 163, 3) := by decide +kernel
theorem dX4_cut_7 : decode cX4_cut 7 = .ok (.ifCond .ne 8, 3) := by decide +kernel
theorem dX4_cut_10 : decode cX4_cut 10 = .ok (.bipush (-4), 2) := by decide +kernel
theorem dX4_cut_12 : decode cX4_cut 12 = .ok (.goto 10, 3) := by decide +kernel
theorem dX4_cut_15 : decode cX4_cut 15 = .ok (.aload_n 0, 1) := by decide +kernel
theorem dX4_cut_16 : decode cX4_cut 16 = .ok (.getfield 26, 3) := by decide +kernel
theorem dX4_cut_19 : decode cX4_cut 19 = .ok (.invokevirtual 167, 3) := by decide +kernel
theorem dX4_cut_22 : decode cX4_cut 22 = .ok (.ireturn, 1) := by decide +kernel
theorem dX4_square_0 : decode cX4_square 0 = .ok (.iload_n 1, 1) := by decide +kernel
theorem dX4_square_1 : decode cX4_square 1 = .ok (.ifCond .lt 14, 3) := by decide +kernel
theorem dX4_square_4 : decode cX4_square 4 = .ok (.iload_n 1, 1) := by decide +kernel
theorem dX4_square_5 : decode cX4_square 5 = .ok (.aload_n 0, 1) := by decide +kernel
theorem dX4_square_6 : decode cX4_square 6 = .ok (.getfield 26, 3) := by decide +kernel
theorem dX4_square_9 : decode cX4_square 9 = .ok (.getfield 163, 3) := by decide +kernel
theorem dX4_square_12 : decode cX4_square 12 = .ok (.if_icmp .lt 7, 3) := by decide +kernel
theorem dX4_square_15 : decode cX4_square 15 = .ok (.iconst (-1), 1) := by decide +kernel
theorem dX4_square_16 : decode cX4_square 16 = .ok (.goto 12, 3) := by decide +kernel
theorem dX4_square_19 : decode cX4_square 19 = .ok (.aload_n 0, 1) := by decide +kernel
theorem dX4_square_20 : decode cX4_square 20 = .ok (.getfield 26, 3) := by decide +kernel
theorem dX4_square_23 : decode cX4_square 23 = .ok (.getfield 168, 3) := by decide +kernel
theorem dX4_square_26 : decode cX4_square 26 = .ok (.iload_n 1, 1) := by decide +kernel
theorem dX4_square_27 : decode cX4_square 27 = .ok (.iaload, 1) := by decide +kernel
theorem dX4_square_28 : decode cX4_square 28 = .ok (.ireturn, 1) := by decide +kernel
theorem dX4_colours_0 : decode cX4_colours 0 = .ok (.iload_n 1, 1) := by decide +kernel
theorem dX4_colours_1 : decode cX4_colours 1 = .ok (.ifCond .lt 8, 3) := by decide +kernel
theorem dX4_colours_4 : decode cX4_colours 4 = .ok (.iload_n 1, 1) := by decide +kernel
theorem dX4_colours_5 : decode cX4_colours 5 = .ok (.iconst 4, 1) := by decide +kernel
theorem dX4_colours_6 : decode cX4_colours 6 = .ok (.if_icmp .le 5, 3) := by decide +kernel
theorem dX4_colours_9 : decode cX4_colours 9 = .ok (.iconst (-1), 1) := by decide +kernel
theorem dX4_colours_10 : decode cX4_colours 10 = .ok (.ireturn, 1) := by decide +kernel
theorem dX4_colours_11 : decode cX4_colours 11 = .ok (.aload_n 0, 1) := by decide +kernel
theorem dX4_colours_12 : decode cX4_colours 12 = .ok (.getfield 26, 3) := by decide +kernel
theorem dX4_colours_15 : decode cX4_colours 15 = .ok (.invokevirtual 171, 3) := by decide +kernel
theorem dX4_colours_18 : decode cX4_colours 18 = .ok (.iload_n 1, 1) := by decide +kernel
theorem dX4_colours_19 : decode cX4_colours 19 = .ok (.tableswitch 61 0 3 #[29, 37, 45, 53], 29) := by decide +kernel
theorem dX4_colours_48 : decode cX4_colours 48 = .ok (.aload_n 0, 1) := by decide +kernel
theorem dX4_colours_49 : decode cX4_colours 49 = .ok (.getfield 26, 3) := by decide +kernel
theorem dX4_colours_52 : decode cX4_colours 52 = .ok (.getfield 174, 3) := by decide +kernel
theorem dX4_colours_55 : decode cX4_colours 55 = .ok (.ireturn, 1) := by decide +kernel
theorem dX4_colours_56 : decode cX4_colours 56 = .ok (.aload_n 0, 1) := by decide +kernel
theorem dX4_colours_57 : decode cX4_colours 57 = .ok (.getfield 26, 3) := by decide +kernel
theorem dX4_colours_60 : decode cX4_colours 60 = .ok (.getfield 177, 3) := by decide +kernel
theorem dX4_colours_63 : decode cX4_colours 63 = .ok (.ireturn, 1) := by decide +kernel
theorem dX4_colours_64 : decode cX4_colours 64 = .ok (.aload_n 0, 1) := by decide +kernel
theorem dX4_colours_65 : decode cX4_colours 65 = .ok (.getfield 26, 3) := by decide +kernel
theorem dX4_colours_68 : decode cX4_colours 68 = .ok (.getfield 180, 3) := by decide +kernel
theorem dX4_colours_71 : decode cX4_colours 71 = .ok (.ireturn, 1) := by decide +kernel
theorem dX4_colours_72 : decode cX4_colours 72 = .ok (.aload_n 0, 1) := by decide +kernel
theorem dX4_colours_73 : decode cX4_colours 73 = .ok (.getfield 26, 3) := by decide +kernel
theorem dX4_colours_76 : decode cX4_colours 76 = .ok (.getfield 183, 3) := by decide +kernel
theorem dX4_colours_79 : decode cX4_colours 79 = .ok (.ireturn, 1) := by decide +kernel
theorem dX4_colours_80 : decode cX4_colours 80 = .ok (.aload_n 0, 1) := by decide +kernel
theorem dX4_colours_81 : decode cX4_colours 81 = .ok (.getfield 26, 3) := by decide +kernel
theorem dX4_colours_84 : decode cX4_colours 84 = .ok (.getfield 186, 3) := by decide +kernel
theorem dX4_colours_87 : decode cX4_colours 87 = .ok (.ireturn, 1) := by decide +kernel
theorem dX4_isRayNumber_0 : decode cX4_isRayNumber 0 = .ok (.iload_n 0, 1) := by decide +kernel
theorem dX4_isRayNumber_1 : decode cX4_isRayNumber 1 = .ok (.bipush (-5), 2) := by decide +kernel
theorem dX4_isRayNumber_3 : decode cX4_isRayNumber 3 = .ok (.if_icmp .lt 12, 3) := by decide +kernel
theorem dX4_isRayNumber_6 : decode cX4_isRayNumber 6 = .ok (.iload_n 0, 1) := by decide +kernel
theorem dX4_isRayNumber_7 : decode cX4_isRayNumber 7 = .ok (.iconst 5, 1) := by decide +kernel
theorem dX4_isRayNumber_8 : decode cX4_isRayNumber 8 = .ok (.if_icmp .gt 7, 3) := by decide +kernel
theorem dX4_isRayNumber_11 : decode cX4_isRayNumber 11 = .ok (.iconst 1, 1) := by decide +kernel
theorem dX4_isRayNumber_12 : decode cX4_isRayNumber 12 = .ok (.goto 4, 3) := by decide +kernel
theorem dX4_isRayNumber_15 : decode cX4_isRayNumber 15 = .ok (.iconst 0, 1) := by decide +kernel
theorem dX4_isRayNumber_16 : decode cX4_isRayNumber 16 = .ok (.ireturn, 1) := by decide +kernel
theorem dX4_sheet_0 : decode cX4_sheet 0 = .ok (.iload_n 1, 1) := by decide +kernel
theorem dX4_sheet_1 : decode cX4_sheet 1 = .ok (.invokestatic 189, 3) := by decide +kernel
theorem dX4_sheet_4 : decode cX4_sheet 4 = .ok (.ifCond .eq 16, 3) := by decide +kernel
theorem dX4_sheet_7 : decode cX4_sheet 7 = .ok (.iload_n 2, 1) := by decide +kernel
theorem dX4_sheet_8 : decode cX4_sheet 8 = .ok (.invokestatic 192, 3) := by decide +kernel
theorem dX4_sheet_11 : decode cX4_sheet 11 = .ok (.ifCond .eq 9, 3) := by decide +kernel
theorem dX4_sheet_14 : decode cX4_sheet 14 = .ok (.iload_n 3, 1) := by decide +kernel
theorem dX4_sheet_15 : decode cX4_sheet 15 = .ok (.bipush 64, 2) := by decide +kernel
theorem dX4_sheet_17 : decode cX4_sheet 17 = .ok (.if_icmp .le 5, 3) := by decide +kernel
theorem dX4_sheet_20 : decode cX4_sheet 20 = .ok (.iconst (-1), 1) := by decide +kernel
theorem dX4_sheet_21 : decode cX4_sheet 21 = .ok (.ireturn, 1) := by decide +kernel
theorem dX4_sheet_22 : decode cX4_sheet 22 = .ok (.iload_n 3, 1) := by decide +kernel
theorem dX4_sheet_23 : decode cX4_sheet 23 = .ok (.ifCond .ge 6, 3) := by decide +kernel
theorem dX4_sheet_26 : decode cX4_sheet 26 = .ok (.bipush (-14), 2) := by decide +kernel
theorem dX4_sheet_28 : decode cX4_sheet 28 = .ok (.ireturn, 1) := by decide +kernel
theorem dX4_sheet_29 : decode cX4_sheet 29 = .ok (.aload_n 0, 1) := by decide +kernel
theorem dX4_sheet_30 : decode cX4_sheet 30 = .ok (.getfield 32, 3) := by decide +kernel
theorem dX4_sheet_33 : decode cX4_sheet 33 = .ok (.iload_n 1, 1) := by decide +kernel
theorem dX4_sheet_34 : decode cX4_sheet 34 = .ok (.aaload, 1) := by decide +kernel
theorem dX4_sheet_35 : decode cX4_sheet 35 = .ok (.iload_n 2, 1) := by decide +kernel
theorem dX4_sheet_36 : decode cX4_sheet 36 = .ok (.iload_n 3, 1) := by decide +kernel
theorem dX4_sheet_37 : decode cX4_sheet 37 = .ok (.invokevirtual 195, 3) := by decide +kernel
theorem dX4_sheet_40 : decode cX4_sheet 40 = .ok (.iconst 1, 1) := by decide +kernel
theorem dX4_sheet_41 : decode cX4_sheet 41 = .ok (.ireturn, 1) := by decide +kernel
theorem dX4_lay_0 : decode cX4_lay 0 = .ok (.iload_n 1, 1) := by decide +kernel
theorem dX4_lay_1 : decode cX4_lay 1 = .ok (.invokestatic 189, 3) := by decide +kernel
theorem dX4_lay_4 : decode cX4_lay 4 = .ok (.ifCond .ne 5, 3) := by decide +kernel
theorem dX4_lay_7 : decode cX4_lay 7 = .ok (.iconst (-1), 1) := by decide +kernel
theorem dX4_lay_8 : decode cX4_lay 8 = .ok (.ireturn, 1) := by decide +kernel
theorem dX4_lay_9 : decode cX4_lay 9 = .ok (.aload_n 0, 1) := by decide +kernel
theorem dX4_lay_10 : decode cX4_lay 10 = .ok (.getfield 32, 3) := by decide +kernel
theorem dX4_lay_13 : decode cX4_lay 13 = .ok (.iload_n 1, 1) := by decide +kernel
theorem dX4_lay_14 : decode cX4_lay 14 = .ok (.aaload, 1) := by decide +kernel
theorem dX4_lay_15 : decode cX4_lay 15 = .ok (.invokevirtual 198, 3) := by decide +kernel
theorem dX4_lay_18 : decode cX4_lay 18 = .ok (.ifCond .eq 6, 3) := by decide +kernel
theorem dX4_lay_21 : decode cX4_lay 21 = .ok (.bipush (-11), 2) := by decide +kernel
theorem dX4_lay_23 : decode cX4_lay 23 = .ok (.ireturn, 1) := by decide +kernel
theorem dX4_lay_24 : decode cX4_lay 24 = .ok (.aload_n 0, 1) := by decide +kernel
theorem dX4_lay_25 : decode cX4_lay 25 = .ok (.getfield 32, 3) := by decide +kernel
theorem dX4_lay_28 : decode cX4_lay 28 = .ok (.iload_n 1, 1) := by decide +kernel
theorem dX4_lay_29 : decode cX4_lay 29 = .ok (.aaload, 1) := by decide +kernel
theorem dX4_lay_30 : decode cX4_lay 30 = .ok (.iload_n 2, 1) := by decide +kernel
theorem dX4_lay_31 : decode cX4_lay 31 = .ok (.invokevirtual 201, 3) := by decide +kernel
theorem dX4_lay_34 : decode cX4_lay 34 = .ok (.ifCond .ne 6, 3) := by decide +kernel
theorem dX4_lay_37 : decode cX4_lay 37 = .ok (.bipush (-12), 2) := by decide +kernel
theorem dX4_lay_39 : decode cX4_lay 39 = .ok (.ireturn, 1) := by decide +kernel
theorem dX4_lay_40 : decode cX4_lay 40 = .ok (.aload_n 0, 1) := by decide +kernel
theorem dX4_lay_41 : decode cX4_lay 41 = .ok (.getfield 32, 3) := by decide +kernel
theorem dX4_lay_44 : decode cX4_lay 44 = .ok (.iload_n 1, 1) := by decide +kernel
theorem dX4_lay_45 : decode cX4_lay 45 = .ok (.aaload, 1) := by decide +kernel
theorem dX4_lay_46 : decode cX4_lay 46 = .ok (.iload_n 2, 1) := by decide +kernel
theorem dX4_lay_47 : decode cX4_lay 47 = .ok (.iload_n 3, 1) := by decide +kernel
theorem dX4_lay_48 : decode cX4_lay 48 = .ok (.invokevirtual 204, 3) := by decide +kernel
theorem dX4_lay_51 : decode cX4_lay 51 = .ok (.iconst 1, 1) := by decide +kernel
theorem dX4_lay_52 : decode cX4_lay 52 = .ok (.ireturn, 1) := by decide +kernel
theorem dX4_draw_0 : decode cX4_draw 0 = .ok (.aload_n 0, 1) := by decide +kernel
theorem dX4_draw_1 : decode cX4_draw 1 = .ok (.getfield 10, 3) := by decide +kernel
theorem dX4_draw_4 : decode cX4_draw 4 = .ok (.iload_n 1, 1) := by decide +kernel
theorem dX4_draw_5 : decode cX4_draw 5 = .ok (.invokevirtual 68, 3) := by decide +kernel
theorem dX4_draw_8 : decode cX4_draw 8 = .ok (.ifCond .eq 27, 3) := by decide +kernel
theorem dX4_draw_11 : decode cX4_draw 11 = .ok (.iload_n 2, 1) := by decide +kernel
theorem dX4_draw_12 : decode cX4_draw 12 = .ok (.ifCond .eq 8, 3) := by decide +kernel
theorem dX4_draw_15 : decode cX4_draw 15 = .ok (.iload_n 2, 1) := by decide +kernel
theorem dX4_draw_16 : decode cX4_draw 16 = .ok (.iconst 1, 1) := by decide +kernel
theorem dX4_draw_17 : decode cX4_draw 17 = .ok (.if_icmp .ne 18, 3) := by decide +kernel
theorem dX4_draw_20 : decode cX4_draw 20 = .ok (.iload_n 3, 1) := by decide +kernel
theorem dX4_draw_21 : decode cX4_draw 21 = .ok (.invokestatic 189, 3) := by decide +kernel
theorem dX4_draw_24 : decode cX4_draw 24 = .ok (.ifCond .eq 11, 3) := by decide +kernel
theorem dX4_draw_27 : decode cX4_draw 27 = .ok (.iload 4, 2) := by decide +kernel
theorem dX4_draw_29 : decode cX4_draw 29 = .ok (.invokestatic 192, 3) := by decide +kernel
theorem dX4_draw_32 : decode cX4_draw 32 = .ok (.ifCond .ne 5, 3) := by decide +kernel
theorem dX4_draw_35 : decode cX4_draw 35 = .ok (.iconst (-1), 1) := by decide +kernel
theorem dX4_draw_36 : decode cX4_draw 36 = .ok (.ireturn, 1) := by decide +kernel
theorem dX4_draw_37 : decode cX4_draw 37 = .ok (.aload_n 0, 1) := by decide +kernel
theorem dX4_draw_38 : decode cX4_draw 38 = .ok (.getfield 32, 3) := by decide +kernel
theorem dX4_draw_41 : decode cX4_draw 41 = .ok (.iload_n 3, 1) := by decide +kernel
theorem dX4_draw_42 : decode cX4_draw 42 = .ok (.aaload, 1) := by decide +kernel
theorem dX4_draw_43 : decode cX4_draw 43 = .ok (.invokevirtual 198, 3) := by decide +kernel
theorem dX4_draw_46 : decode cX4_draw 46 = .ok (.ifCond .eq 6, 3) := by decide +kernel
theorem dX4_draw_49 : decode cX4_draw 49 = .ok (.bipush (-11), 2) := by decide +kernel
theorem dX4_draw_51 : decode cX4_draw 51 = .ok (.ireturn, 1) := by decide +kernel
theorem dX4_draw_52 : decode cX4_draw 52 = .ok (.aload_n 0, 1) := by decide +kernel
theorem dX4_draw_53 : decode cX4_draw 53 = .ok (.getfield 32, 3) := by decide +kernel
theorem dX4_draw_56 : decode cX4_draw 56 = .ok (.iload_n 3, 1) := by decide +kernel
theorem dX4_draw_57 : decode cX4_draw 57 = .ok (.aaload, 1) := by decide +kernel
theorem dX4_draw_58 : decode cX4_draw 58 = .ok (.getfield 207, 3) := by decide +kernel
theorem dX4_draw_61 : decode cX4_draw 61 = .ok (.iload 4, 2) := by decide +kernel
theorem dX4_draw_63 : decode cX4_draw 63 = .ok (.if_icmp .eq 6, 3) := by decide +kernel
theorem dX4_draw_66 : decode cX4_draw 66 = .ok (.bipush (-13), 2) := by decide +kernel
theorem dX4_draw_68 : decode cX4_draw 68 = .ok (.ireturn, 1) := by decide +kernel
theorem dX4_draw_69 : decode cX4_draw 69 = .ok (.aload_n 0, 1) := by decide +kernel
theorem dX4_draw_70 : decode cX4_draw 70 = .ok (.getfield 10, 3) := by decide +kernel
theorem dX4_draw_73 : decode cX4_draw 73 = .ok (.iload_n 1, 1) := by decide +kernel
theorem dX4_draw_74 : decode cX4_draw 74 = .ok (.invokevirtual 210, 3) := by decide +kernel
theorem dX4_draw_77 : decode cX4_draw 77 = .ok (.istore 6, 2) := by decide +kernel
theorem dX4_draw_79 : decode cX4_draw 79 = .ok (.aload_n 0, 1) := by decide +kernel
theorem dX4_draw_80 : decode cX4_draw 80 = .ok (.getfield 32, 3) := by decide +kernel
theorem dX4_draw_83 : decode cX4_draw 83 = .ok (.iload_n 3, 1) := by decide +kernel
theorem dX4_draw_84 : decode cX4_draw 84 = .ok (.aaload, 1) := by decide +kernel
theorem dX4_draw_85 : decode cX4_draw 85 = .ok (.iload_n 2, 1) := by decide +kernel
theorem dX4_draw_86 : decode cX4_draw 86 = .ok (.iload 5, 2) := by decide +kernel
theorem dX4_draw_88 : decode cX4_draw 88 = .ok (.iload 6, 2) := by decide +kernel
theorem dX4_draw_90 : decode cX4_draw 90 = .ok (.invokestatic 213, 3) := by decide +kernel
theorem dX4_draw_93 : decode cX4_draw 93 = .ok (.istore 7, 2) := by decide +kernel
theorem dX4_draw_95 : decode cX4_draw 95 = .ok (.iload 7, 2) := by decide +kernel
theorem dX4_draw_97 : decode cX4_draw 97 = .ok (.ifCond .eq 6, 3) := by decide +kernel
theorem dX4_draw_100 : decode cX4_draw 100 = .ok (.iload 7, 2) := by decide +kernel
theorem dX4_draw_102 : decode cX4_draw 102 = .ok (.ireturn, 1) := by decide +kernel
theorem dX4_draw_103 : decode cX4_draw 103 = .ok (.iconst 0, 1) := by decide +kernel
theorem dX4_draw_104 : decode cX4_draw 104 = .ok (.istore 8, 2) := by decide +kernel
theorem dX4_draw_106 : decode cX4_draw 106 = .ok (.iload 8, 2) := by decide +kernel
theorem dX4_draw_108 : decode cX4_draw 108 = .ok (.iload 6, 2) := by decide +kernel
theorem dX4_draw_110 : decode cX4_draw 110 = .ok (.if_icmp .ge 66, 3) := by decide +kernel
theorem dX4_draw_113 : decode cX4_draw 113 = .ok (.aload_n 0, 1) := by decide +kernel
theorem dX4_draw_114 : decode cX4_draw 114 = .ok (.getfield 32, 3) := by decide +kernel
theorem dX4_draw_117 : decode cX4_draw 117 = .ok (.iload_n 3, 1) := by decide +kernel
theorem dX4_draw_118 : decode cX4_draw 118 = .ok (.aaload, 1) := by decide +kernel
theorem dX4_draw_119 : decode cX4_draw 119 = .ok (.getfield 217, 3) := by decide +kernel
theorem dX4_draw_122 : decode cX4_draw 122 = .ok (.iload 5, 2) := by decide +kernel
theorem dX4_draw_124 : decode cX4_draw 124 = .ok (.iload 8, 2) := by decide +kernel
theorem dX4_draw_126 : decode cX4_draw 126 = .ok (.iadd, 1) := by decide +kernel
theorem dX4_draw_127 : decode cX4_draw 127 = .ok (.iaload, 1) := by decide +kernel
theorem dX4_draw_128 : decode cX4_draw 128 = .ok (.istore 9, 2) := by decide +kernel
theorem dX4_draw_130 : decode cX4_draw 130 = .ok (.iload_n 2, 1) := by decide +kernel
theorem dX4_draw_131 : decode cX4_draw 131 = .ok (.ifCond .ne 22, 3) := by decide +kernel
theorem dX4_draw_134 : decode cX4_draw 134 = .ok (.aload_n 0, 1) := by decide +kernel
theorem dX4_draw_135 : decode cX4_draw 135 = .ok (.getfield 10, 3) := by decide +kernel
theorem dX4_draw_138 : decode cX4_draw 138 = .ok (.bipush 8, 2) := by decide +kernel
theorem dX4_draw_140 : decode cX4_draw 140 = .ok (.iload_n 1, 1) := by decide +kernel
theorem dX4_draw_141 : decode cX4_draw 141 = .ok (.imul, 1) := by decide +kernel
theorem dX4_draw_142 : decode cX4_draw 142 = .ok (.iload 8, 2) := by decide +kernel
theorem dX4_draw_144 : decode cX4_draw 144 = .ok (.iadd, 1) := by decide +kernel
theorem dX4_draw_145 : decode cX4_draw 145 = .ok (.iload 9, 2) := by decide +kernel
theorem dX4_draw_147 : decode cX4_draw 147 = .ok (.invokevirtual 91, 3) := by decide +kernel
theorem dX4_draw_150 : decode cX4_draw 150 = .ok (.goto 20, 3) := by decide +kernel
theorem dX4_draw_153 : decode cX4_draw 153 = .ok (.aload_n 0, 1) := by decide +kernel
theorem dX4_draw_154 : decode cX4_draw 154 = .ok (.getfield 10, 3) := by decide +kernel
theorem dX4_draw_157 : decode cX4_draw 157 = .ok (.getfield 98, 3) := by decide +kernel
theorem dX4_draw_160 : decode cX4_draw 160 = .ok (.bipush 8, 2) := by decide +kernel
theorem dX4_draw_162 : decode cX4_draw 162 = .ok (.iload_n 1, 1) := by decide +kernel
theorem dX4_draw_163 : decode cX4_draw 163 = .ok (.imul, 1) := by decide +kernel
theorem dX4_draw_164 : decode cX4_draw 164 = .ok (.iload 8, 2) := by decide +kernel
theorem dX4_draw_166 : decode cX4_draw 166 = .ok (.iadd, 1) := by decide +kernel
theorem dX4_draw_167 : decode cX4_draw 167 = .ok (.iload 9, 2) := by decide +kernel
theorem dX4_draw_169 : decode cX4_draw 169 = .ok (.iastore, 1) := by decide +kernel
theorem dX4_draw_170 : decode cX4_draw 170 = .ok (.iinc 8 1, 3) := by decide +kernel
theorem dX4_draw_173 : decode cX4_draw 173 = .ok (.goto (-67), 3) := by decide +kernel
theorem dX4_draw_176 : decode cX4_draw 176 = .ok (.iconst 1, 1) := by decide +kernel
theorem dX4_draw_177 : decode cX4_draw 177 = .ok (.ireturn, 1) := by decide +kernel
theorem dX4_firstFault_0 : decode cX4_firstFault 0 = .ok (.iconst 0, 1) := by decide +kernel
theorem dX4_firstFault_1 : decode cX4_firstFault 1 = .ok (.istore 4, 2) := by decide +kernel
theorem dX4_firstFault_3 : decode cX4_firstFault 3 = .ok (.iload 4, 2) := by decide +kernel
theorem dX4_firstFault_5 : decode cX4_firstFault 5 = .ok (.iload_n 3, 1) := by decide +kernel
theorem dX4_firstFault_6 : decode cX4_firstFault 6 = .ok (.if_icmp .ge 63, 3) := by decide +kernel
theorem dX4_firstFault_9 : decode cX4_firstFault 9 = .ok (.aload_n 0, 1) := by decide +kernel
theorem dX4_firstFault_10 : decode cX4_firstFault 10 = .ok (.iload_n 2, 1) := by decide +kernel
theorem dX4_firstFault_11 : decode cX4_firstFault 11 = .ok (.iload 4, 2) := by decide +kernel
theorem dX4_firstFault_13 : decode cX4_firstFault 13 = .ok (.iadd, 1) := by decide +kernel
theorem dX4_firstFault_14 : decode cX4_firstFault 14 = .ok (.invokevirtual 201, 3) := by decide +kernel
theorem dX4_firstFault_17 : decode cX4_firstFault 17 = .ok (.ifCond .ne 6, 3) := by decide +kernel
theorem dX4_firstFault_20 : decode cX4_firstFault 20 = .ok (.bipush (-12), 2) := by decide +kernel
theorem dX4_firstFault_22 : decode cX4_firstFault 22 = .ok (.ireturn, 1) := by decide +kernel
theorem dX4_firstFault_23 : decode cX4_firstFault 23 = .ok (.aload_n 0, 1) := by decide +kernel
theorem dX4_firstFault_24 : decode cX4_firstFault 24 = .ok (.getfield 217, 3) := by decide +kernel
theorem dX4_firstFault_27 : decode cX4_firstFault 27 = .ok (.iload_n 2, 1) := by decide +kernel
theorem dX4_firstFault_28 : decode cX4_firstFault 28 = .ok (.iload 4, 2) := by decide +kernel
theorem dX4_firstFault_30 : decode cX4_firstFault 30 = .ok (.iadd, 1) := by decide +kernel
theorem dX4_firstFault_31 : decode cX4_firstFault 31 = .ok (.iaload, 1) := by decide +kernel
theorem dX4_firstFault_32 : decode cX4_firstFault 32 = .ok (.istore 5, 2) := by decide +kernel
theorem dX4_firstFault_34 : decode cX4_firstFault 34 = .ok (.iload_n 1, 1) := by decide +kernel
theorem dX4_firstFault_35 : decode cX4_firstFault 35 = .ok (.ifCond .ne 14, 3) := by decide +kernel
theorem dX4_firstFault_38 : decode cX4_firstFault 38 = .ok (.iload 5, 2) := by decide +kernel
theorem dX4_firstFault_40 : decode cX4_firstFault 40 = .ok (.invokestatic 85, 3) := by decide +kernel
theorem dX4_firstFault_43 : decode cX4_firstFault 43 = .ok (.ifCond .ne 20, 3) := by decide +kernel
theorem dX4_firstFault_46 : decode cX4_firstFault 46 = .ok (.goto 11, 3) := by decide +kernel
theorem dX4_firstFault_49 : decode cX4_firstFault 49 = .ok (.iload 5, 2) := by decide +kernel
theorem dX4_firstFault_51 : decode cX4_firstFault 51 = .ok (.invokestatic 95, 3) := by decide +kernel
theorem dX4_firstFault_54 : decode cX4_firstFault 54 = .ok (.ifCond .ne 9, 3) := by decide +kernel
theorem dX4_firstFault_57 : decode cX4_firstFault 57 = .ok (.bipush (-20), 2) := by decide +kernel
theorem dX4_firstFault_59 : decode cX4_firstFault 59 = .ok (.iload 4, 2) := by decide +kernel
theorem dX4_firstFault_61 : decode cX4_firstFault 61 = .ok (.isub, 1) := by decide +kernel
theorem dX4_firstFault_62 : decode cX4_firstFault 62 = .ok (.ireturn, 1) := by decide +kernel
theorem dX4_firstFault_63 : decode cX4_firstFault 63 = .ok (.iinc 4 1, 3) := by decide +kernel
theorem dX4_firstFault_66 : decode cX4_firstFault 66 = .ok (.goto (-63), 3) := by decide +kernel
theorem dX4_firstFault_69 : decode cX4_firstFault 69 = .ok (.iconst 0, 1) := by decide +kernel
theorem dX4_firstFault_70 : decode cX4_firstFault 70 = .ok (.ireturn, 1) := by decide +kernel
theorem dX4_count_0 : decode cX4_count 0 = .ok (.iload_n 1, 1) := by decide +kernel
theorem dX4_count_1 : decode cX4_count 1 = .ok (.tableswitch 94 0 4 #[35, 43, 51, 59, 67], 35) := by decide +kernel
theorem dX4_count_36 : decode cX4_count 36 = .ok (.aload_n 0, 1) := by decide +kernel
theorem dX4_count_37 : decode cX4_count 37 = .ok (.getfield 10, 3) := by decide +kernel
theorem dX4_count_40 : decode cX4_count 40 = .ok (.getfield 37, 3) := by decide +kernel
theorem dX4_count_43 : decode cX4_count 43 = .ok (.ireturn, 1) := by decide +kernel
theorem dX4_count_44 : decode cX4_count 44 = .ok (.aload_n 0, 1) := by decide +kernel
theorem dX4_count_45 : decode cX4_count 45 = .ok (.getfield 10, 3) := by decide +kernel
theorem dX4_count_48 : decode cX4_count 48 = .ok (.getfield 59, 3) := by decide +kernel
theorem dX4_count_51 : decode cX4_count 51 = .ok (.ireturn, 1) := by decide +kernel
theorem dX4_count_52 : decode cX4_count 52 = .ok (.aload_n 0, 1) := by decide +kernel
theorem dX4_count_53 : decode cX4_count 53 = .ok (.getfield 26, 3) := by decide +kernel
theorem dX4_count_56 : decode cX4_count 56 = .ok (.getfield 163, 3) := by decide +kernel
theorem dX4_count_59 : decode cX4_count 59 = .ok (.ireturn, 1) := by decide +kernel
theorem dX4_count_60 : decode cX4_count 60 = .ok (.aload_n 0, 1) := by decide +kernel
theorem dX4_count_61 : decode cX4_count 61 = .ok (.getfield 10, 3) := by decide +kernel
theorem dX4_count_64 : decode cX4_count 64 = .ok (.invokevirtual 220, 3) := by decide +kernel
theorem dX4_count_67 : decode cX4_count 67 = .ok (.ireturn, 1) := by decide +kernel
theorem dX4_count_68 : decode cX4_count 68 = .ok (.aload_n 0, 1) := by decide +kernel
theorem dX4_count_69 : decode cX4_count 69 = .ok (.getfield 32, 3) := by decide +kernel
theorem dX4_count_72 : decode cX4_count 72 = .ok (.iconst 0, 1) := by decide +kernel
theorem dX4_count_73 : decode cX4_count 73 = .ok (.aaload, 1) := by decide +kernel
theorem dX4_count_74 : decode cX4_count 74 = .ok (.invokevirtual 198, 3) := by decide +kernel
theorem dX4_count_77 : decode cX4_count 77 = .ok (.ifCond .eq 8, 3) := by decide +kernel
theorem dX4_count_80 : decode cX4_count 80 = .ok (.bipush (-4), 2) := by decide +kernel
theorem dX4_count_82 : decode cX4_count 82 = .ok (.goto 12, 3) := by decide +kernel
theorem dX4_count_85 : decode cX4_count 85 = .ok (.aload_n 0, 1) := by decide +kernel
theorem dX4_count_86 : decode cX4_count 86 = .ok (.getfield 32, 3) := by decide +kernel
theorem dX4_count_89 : decode cX4_count 89 = .ok (.iconst 0, 1) := by decide +kernel
theorem dX4_count_90 : decode cX4_count 90 = .ok (.aaload, 1) := by decide +kernel
theorem dX4_count_91 : decode cX4_count 91 = .ok (.getfield 223, 3) := by decide +kernel
theorem dX4_count_94 : decode cX4_count 94 = .ok (.ireturn, 1) := by decide +kernel
theorem dX4_count_95 : decode cX4_count 95 = .ok (.iconst (-1), 1) := by decide +kernel
theorem dX4_count_96 : decode cX4_count 96 = .ok (.ireturn, 1) := by decide +kernel
theorem dX4_isSheet_0 : decode cX4_isSheet 0 = .ok (.iload_n 0, 1) := by decide +kernel
theorem dX4_isSheet_1 : decode cX4_isSheet 1 = .ok (.ifCond .lt 12, 3) := by decide +kernel
theorem dX4_isSheet_4 : decode cX4_isSheet 4 = .ok (.iload_n 0, 1) := by decide +kernel
theorem dX4_isSheet_5 : decode cX4_isSheet 5 = .ok (.iconst 4, 1) := by decide +kernel
theorem dX4_isSheet_6 : decode cX4_isSheet 6 = .ok (.if_icmp .ge 7, 3) := by decide +kernel
theorem dX4_isSheet_9 : decode cX4_isSheet 9 = .ok (.iconst 1, 1) := by decide +kernel
theorem dX4_isSheet_10 : decode cX4_isSheet 10 = .ok (.goto 4, 3) := by decide +kernel
theorem dX4_isSheet_13 : decode cX4_isSheet 13 = .ok (.iconst 0, 1) := by decide +kernel
theorem dX4_isSheet_14 : decode cX4_isSheet 14 = .ok (.ireturn, 1) := by decide +kernel
theorem dX4_isLane_0 : decode cX4_isLane 0 = .ok (.iload_n 0, 1) := by decide +kernel
theorem dX4_isLane_1 : decode cX4_isLane 1 = .ok (.ifCond .lt 12, 3) := by decide +kernel
theorem dX4_isLane_4 : decode cX4_isLane 4 = .ok (.iload_n 0, 1) := by decide +kernel
theorem dX4_isLane_5 : decode cX4_isLane 5 = .ok (.iconst 3, 1) := by decide +kernel
theorem dX4_isLane_6 : decode cX4_isLane 6 = .ok (.if_icmp .ge 7, 3) := by decide +kernel
theorem dX4_isLane_9 : decode cX4_isLane 9 = .ok (.iconst 1, 1) := by decide +kernel
theorem dX4_isLane_10 : decode cX4_isLane 10 = .ok (.goto 4, 3) := by decide +kernel
theorem dX4_isLane_13 : decode cX4_isLane 13 = .ok (.iconst 0, 1) := by decide +kernel
theorem dX4_isLane_14 : decode cX4_isLane 14 = .ok (.ireturn, 1) := by decide +kernel
end
section
theorem dX5_init_0 : decode cX5_init 0 = .ok (.aload_n 0, 1) := by decide +kernel
theorem dX5_init_1 : decode cX5_init 1 = .ok (.invokespecial 1, 3) := by decide +kernel
theorem dX5_init_4 : decode cX5_init 4 = .ok (.aload_n 0, 1) := by decide +kernel
theorem dX5_init_5 : decode cX5_init 5 = .ok (.iconst 4, 1) := by decide +kernel
theorem dX5_init_6 : decode cX5_init 6 = .ok (.putfield 7, 3) := by decide +kernel
theorem dX5_init_9 : decode cX5_init 9 = .ok (.aload_n 0, 1) := by decide +kernel
theorem dX5_init_10 : decode cX5_init 10 = .ok (.bipush 8, 2) := by decide +kernel
theorem dX5_init_12 : decode cX5_init 12 = .ok (.newarray .int, 2) := by decide +kernel
theorem dX5_init_14 : decode cX5_init 14 = .ok (.putfield 13, 3) := by decide +kernel
theorem dX5_init_17 : decode cX5_init 17 = .ok (.aload_n 0, 1) := by decide +kernel
theorem dX5_init_18 : decode cX5_init 18 = .ok (.bipush 8, 2) := by decide +kernel
theorem dX5_init_20 : decode cX5_init 20 = .ok (.newarray .int, 2) := by decide +kernel
theorem dX5_init_22 : decode cX5_init 22 = .ok (.putfield 17, 3) := by decide +kernel
theorem dX5_init_25 : decode cX5_init 25 = .ok (.aload_n 0, 1) := by decide +kernel
theorem dX5_init_26 : decode cX5_init 26 = .ok (.bipush 64, 2) := by decide +kernel
theorem dX5_init_28 : decode cX5_init 28 = .ok (.newarray .int, 2) := by decide +kernel
theorem dX5_init_30 : decode cX5_init 30 = .ok (.putfield 20, 3) := by decide +kernel
theorem dX5_init_33 : decode cX5_init 33 = .ok (.aload_n 0, 1) := by decide +kernel
theorem dX5_init_34 : decode cX5_init 34 = .ok (.bipush 64, 2) := by decide +kernel
theorem dX5_init_36 : decode cX5_init 36 = .ok (.newarray .int, 2) := by decide +kernel
theorem dX5_init_38 : decode cX5_init 38 = .ok (.putfield 23, 3) := by decide +kernel
theorem dX5_init_41 : decode cX5_init 41 = .ok (.aload_n 0, 1) := by decide +kernel
theorem dX5_init_42 : decode cX5_init 42 = .ok (.bipush 64, 2) := by decide +kernel
theorem dX5_init_44 : decode cX5_init 44 = .ok (.newarray .int, 2) := by decide +kernel
theorem dX5_init_46 : decode cX5_init 46 = .ok (.putfield 26, 3) := by decide +kernel
theorem dX5_init_49 : decode cX5_init 49 = .ok (.aload_n 0, 1) := by decide +kernel
theorem dX5_init_50 : decode cX5_init 50 = .ok (.bipush 24, 2) := by decide +kernel
theorem dX5_init_52 : decode cX5_init 52 = .ok (.newarray .int, 2) := by decide +kernel
theorem dX5_init_54 : decode cX5_init 54 = .ok (.putfield 29, 3) := by decide +kernel
theorem dX5_init_57 : decode cX5_init 57 = .ok (.aload_n 0, 1) := by decide +kernel
theorem dX5_init_58 : decode cX5_init 58 = .ok (.bipush 12, 2) := by decide +kernel
theorem dX5_init_60 : decode cX5_init 60 = .ok (.newarray .int, 2) := by decide +kernel
theorem dX5_init_62 : decode cX5_init 62 = .ok (.putfield 32, 3) := by decide +kernel
theorem dX5_init_65 : decode cX5_init 65 = .ok (.aload_n 0, 1) := by decide +kernel
theorem dX5_init_66 : decode cX5_init 66 = .ok (.bipush 12, 2) := by decide +kernel
theorem dX5_init_68 : decode cX5_init 68 = .ok (.newarray .int, 2) := by decide +kernel
theorem dX5_init_70 : decode cX5_init 70 = .ok (.putfield 35, 3) := by decide +kernel
theorem dX5_init_73 : decode cX5_init 73 = .ok (.aload_n 0, 1) := by decide +kernel
theorem dX5_init_74 : decode cX5_init 74 = .ok (.bipush 12, 2) := by decide +kernel
theorem dX5_init_76 : decode cX5_init 76 = .ok (.newarray .int, 2) := by decide +kernel
theorem dX5_init_78 : decode cX5_init 78 = .ok (.putfield 38, 3) := by decide +kernel
theorem dX5_init_81 : decode cX5_init 81 = .ok (.aload_n 0, 1) := by decide +kernel
theorem dX5_init_82 : decode cX5_init 82 = .ok (.bipush 12, 2) := by decide +kernel
theorem dX5_init_84 : decode cX5_init 84 = .ok (.newarray .int, 2) := by decide +kernel
theorem dX5_init_86 : decode cX5_init 86 = .ok (.putfield 41, 3) := by decide +kernel
theorem dX5_init_89 : decode cX5_init 89 = .ok (.aload_n 0, 1) := by decide +kernel
theorem dX5_init_90 : decode cX5_init 90 = .ok (.sipush 220, 3) := by decide +kernel
theorem dX5_init_93 : decode cX5_init 93 = .ok (.newarray .int, 2) := by decide +kernel
theorem dX5_init_95 : decode cX5_init 95 = .ok (.putfield 44, 3) := by decide +kernel
theorem dX5_init_98 : decode cX5_init 98 = .ok (.aload_n 0, 1) := by decide +kernel
theorem dX5_init_99 : decode cX5_init 99 = .ok (.iconst 4, 1) := by decide +kernel
theorem dX5_init_100 : decode cX5_init 100 = .ok (.newarray .int, 2) := by decide +kernel
theorem dX5_init_102 : decode cX5_init 102 = .ok (.putfield 47, 3) := by decide +kernel
theorem dX5_init_105 : decode cX5_init 105 = .ok (.aload_n 0, 1) := by decide +kernel
theorem dX5_init_106 : decode cX5_init 106 = .ok (.iconst 4, 1) := by decide +kernel
theorem dX5_init_107 : decode cX5_init 107 = .ok (.newarray .int, 2) := by decide +kernel
theorem dX5_init_109 : decode cX5_init 109 = .ok (.putfield 50, 3) := by decide +kernel
theorem dX5_init_112 : decode cX5_init 112 = .ok (.aload_n 0, 1) := by decide +kernel
theorem dX5_init_113 : decode cX5_init 113 = .ok (.sipush 256, 3) := by decide +kernel
theorem dX5_init_116 : decode cX5_init 116 = .ok (.newarray .int, 2) := by decide +kernel
theorem dX5_init_118 : decode cX5_init 118 = .ok (.putfield 53, 3) := by decide +kernel
theorem dX5_init_121 : decode cX5_init 121 = .ok (.iconst 0, 1) := by decide +kernel
theorem dX5_init_122 : decode cX5_init 122 = .ok (.istore_n 1, 1) := by decide +kernel
theorem dX5_init_123 : decode cX5_init 123 = .ok (.iload_n 1, 1) := by decide +kernel
theorem dX5_init_124 : decode cX5_init 124 = .ok (.iconst 4, 1) := by decide +kernel
theorem dX5_init_125 : decode cX5_init 125 = .ok (.if_icmp .ge 17, 3) := by decide +kernel
theorem dX5_init_128 : decode cX5_init 128 = .ok (.aload_n 0, 1) := by decide +kernel
theorem dX5_init_129 : decode cX5_init 129 = .ok (.getfield 47, 3) := by decide +kernel
theorem dX5_init_132 : decode cX5_init 132 = .ok (.iload_n 1, 1) := by decide +kernel
theorem dX5_init_133 : decode cX5_init 133 = .ok (.bipush (-4), 2) := by decide +kernel
theorem dX5_init_135 : decode cX5_init 135 = .ok (.iastore, 1) := by decide +kernel
theorem dX5_init_136 : decode cX5_init 136 = .ok (.iinc 1 1, 3) := by decide +kernel
theorem dX5_init_139 : decode cX5_init 139 = .ok (.goto (-16), 3) := by decide +kernel
theorem dX5_init_142 : decode cX5_init 142 = .ok (.return_, 1) := by decide +kernel
theorem dX5_in_0 : decode cX5_in 0 = .ok (.lload_n 0, 1) := by decide +kernel
theorem dX5_in_1 : decode cX5_in 1 = .ok (.lload_n 2, 1) := by decide +kernel
theorem dX5_in_2 : decode cX5_in 2 = .ok (.lcmp, 1) := by decide +kernel
theorem dX5_in_3 : decode cX5_in 3 = .ok (.ifCond .lt 14, 3) := by decide +kernel
theorem dX5_in_6 : decode cX5_in 6 = .ok (.lload_n 0, 1) := by decide +kernel
theorem dX5_in_7 : decode cX5_in 7 = .ok (.lload 4, 2) := by decide +kernel
theorem dX5_in_9 : decode cX5_in 9 = .ok (.lcmp, 1) := by decide +kernel
theorem dX5_in_10 : decode cX5_in 10 = .ok (.ifCond .gt 7, 3) := by decide +kernel
theorem dX5_in_13 : decode cX5_in 13 = .ok (.iconst 1, 1) := by decide +kernel
theorem dX5_in_14 : decode cX5_in 14 = .ok (.goto 4, 3) := by decide +kernel
theorem dX5_in_17 : decode cX5_in 17 = .ok (.iconst 0, 1) := by decide +kernel
theorem dX5_in_18 : decode cX5_in 18 = .ok (.ireturn, 1) := by decide +kernel
theorem dX5_bits_0 : decode cX5_bits 0 = .ok (.iconst 0, 1) := by decide +kernel
theorem dX5_bits_1 : decode cX5_bits 1 = .ok (.istore_n 1, 1) := by decide +kernel
theorem dX5_bits_2 : decode cX5_bits 2 = .ok (.iconst 0, 1) := by decide +kernel
theorem dX5_bits_3 : decode cX5_bits 3 = .ok (.istore_n 2, 1) := by decide +kernel
theorem dX5_bits_4 : decode cX5_bits 4 = .ok (.iload_n 2, 1) := by decide +kernel
theorem dX5_bits_5 : decode cX5_bits 5 = .ok (.bipush 16, 2) := by decide +kernel
theorem dX5_bits_7 : decode cX5_bits 7 = .ok (.if_icmp .ge 17, 3) := by decide +kernel
theorem dX5_bits_10 : decode cX5_bits 10 = .ok (.iload_n 1, 1) := by decide +kernel
theorem dX5_bits_11 : decode cX5_bits 11 = .ok (.iload_n 0, 1) := by decide +kernel
theorem dX5_bits_12 : decode cX5_bits 12 = .ok (.iload_n 2, 1) := by decide +kernel
theorem dX5_bits_13 : decode cX5_bits 13 = .ok (.ishr, 1) := by decide +kernel
theorem dX5_bits_14 : decode cX5_bits 14 = .ok (.iconst 1, 1) := by decide +kernel
theorem dX5_bits_15 : decode cX5_bits 15 = .ok (.iand, 1) := by decide +kernel
theorem dX5_bits_16 : decode cX5_bits 16 = .ok (.iadd, 1) := by decide +kernel
theorem dX5_bits_17 : decode cX5_bits 17 = .ok (.istore_n 1, 1) := by decide +kernel
theorem dX5_bits_18 : decode cX5_bits 18 = .ok (.iinc 2 1, 3) := by decide +kernel
theorem dX5_bits_21 : decode cX5_bits 21 = .ok (.goto (-17), 3) := by decide +kernel
theorem dX5_bits_24 : decode cX5_bits 24 = .ok (.iload_n 1, 1) := by decide +kernel
theorem dX5_bits_25 : decode cX5_bits 25 = .ok (.ireturn, 1) := by decide +kernel
theorem dX5_isSet_0 : decode cX5_isSet 0 = .ok (.iload_n 1, 1) := by decide +kernel
theorem dX5_isSet_1 : decode cX5_isSet 1 = .ok (.i2l, 1) := by decide +kernel
theorem dX5_isSet_2 : decode cX5_isSet 2 = .ok (.lconst 0, 1) := by decide +kernel
theorem dX5_isSet_3 : decode cX5_isSet 3 = .ok (.aload_n 0, 1) := by decide +kernel
theorem dX5_isSet_4 : decode cX5_isSet 4 = .ok (.getfield 56, 3) := by decide +kernel
theorem dX5_isSet_7 : decode cX5_isSet 7 = .ok (.iconst 1, 1) := by decide +kernel
theorem dX5_isSet_8 : decode cX5_isSet 8 = .ok (.isub, 1) := by decide +kernel
theorem dX5_isSet_9 : decode cX5_isSet 9 = .ok (.i2l, 1) := by decide +kernel
theorem dX5_isSet_10 : decode cX5_isSet 10 = .ok (.invokestatic 59, 3) := by decide +kernel
theorem dX5_isSet_13 : decode cX5_isSet 13 = .ok (.ireturn, 1) := by decide +kernel
theorem dX5_isJoint_0 : decode cX5_isJoint 0 = .ok (.aload_n 0, 1) := by decide +kernel
theorem dX5_isJoint_1 : decode cX5_isJoint 1 = .ok (.iload_n 1, 1) := by decide +kernel
theorem dX5_isJoint_2 : decode cX5_isJoint 2 = .ok (.invokevirtual 63, 3) := by decide +kernel
theorem dX5_isJoint_5 : decode cX5_isJoint 5 = .ok (.ifCond .eq 30, 3) := by decide +kernel
theorem dX5_isJoint_8 : decode cX5_isJoint 8 = .ok (.iload_n 2, 1) := by decide +kernel
theorem dX5_isJoint_9 : decode cX5_isJoint 9 = .ok (.i2l, 1) := by decide +kernel
theorem dX5_isJoint_10 : decode cX5_isJoint 10 = .ok (.lconst 0, 1) := by decide +kernel
theorem dX5_isJoint_11 : decode cX5_isJoint 11 = .ok (.iconst 1, 1) := by decide +kernel
theorem dX5_isJoint_12 : decode cX5_isJoint 12 = .ok (.aload_n 0, 1) := by decide +kernel
theorem dX5_isJoint_13 : decode cX5_isJoint 13 = .ok (.getfield 13, 3) := by decide +kernel
theorem dX5_isJoint_16 : decode cX5_isJoint 16 = .ok (.iload_n 1, 1) := by decide +kernel
theorem dX5_isJoint_17 : decode cX5_isJoint 17 = .ok (.iaload, 1) := by decide +kernel
theorem dX5_isJoint_18 : decode cX5_isJoint 18 = .ok (.invokestatic 67, 3) := by decide +kernel
theorem dX5_isJoint_21 : decode cX5_isJoint 21 = .ok (.ishl, 1) := by decide +kernel
theorem dX5_isJoint_22 : decode cX5_isJoint 22 = .ok (.iconst 1, 1) := by decide +kernel
theorem dX5_isJoint_23 : decode cX5_isJoint 23 = .ok (.isub, 1) := by decide +kernel
theorem dX5_isJoint_24 : decode cX5_isJoint 24 = .ok (.i2l, 1) := by decide +kernel
theorem dX5_isJoint_25 : decode cX5_isJoint 25 = .ok (.invokestatic 59, 3) := by decide +kernel
theorem dX5_isJoint_28 : decode cX5_isJoint 28 = .ok (.ifCond .eq 7, 3) := by decide +kernel
theorem dX5_isJoint_31 : decode cX5_isJoint 31 = .ok (.iconst 1, 1) := by decide +kernel
theorem dX5_isJoint_32 : decode cX5_isJoint 32 = .ok (.goto 4, 3) := by decide +kernel
theorem dX5_isJoint_35 : decode cX5_isJoint 35 = .ok (.iconst 0, 1) := by decide +kernel
theorem dX5_isJoint_36 : decode cX5_isJoint 36 = .ok (.ireturn, 1) := by decide +kernel
theorem dX5_hiddenMany_0 : decode cX5_hiddenMany 0 = .ok (.iconst 1, 1) := by decide +kernel
theorem dX5_hiddenMany_1 : decode cX5_hiddenMany 1 = .ok (.aload_n 0, 1) := by decide +kernel
theorem dX5_hiddenMany_2 : decode cX5_hiddenMany 2 = .ok (.getfield 7, 3) := by decide +kernel
theorem dX5_hiddenMany_5 : decode cX5_hiddenMany 5 = .ok (.ishl, 1) := by decide +kernel
theorem dX5_hiddenMany_6 : decode cX5_hiddenMany 6 = .ok (.ireturn, 1) := by decide +kernel
theorem dX5_looks_0 : decode cX5_looks 0 = .ok (.iload_n 1, 1) := by decide +kernel
theorem dX5_looks_1 : decode cX5_looks 1 = .ok (.i2l, 1) := by decide +kernel
theorem dX5_looks_2 : decode cX5_looks 2 = .ok (.lconst 1, 1) := by decide +kernel
theorem dX5_looks_3 : decode cX5_looks 3 = .ok (.ldc2_w 71, 3) := by decide +kernel
theorem dX5_looks_6 : decode cX5_looks 6 = .ok (.invokestatic 59, 3) := by decide +kernel
theorem dX5_looks_9 : decode cX5_looks 9 = .ok (.ifCond .ne 5, 3) := by decide +kernel
theorem dX5_looks_12 : decode cX5_looks 12 = .ok (.iconst (-1), 1) := by decide +kernel
theorem dX5_looks_13 : decode cX5_looks 13 = .ok (.ireturn, 1) := by decide +kernel
theorem dX5_looks_14 : decode cX5_looks 14 = .ok (.aload_n 0, 1) := by decide +kernel
theorem dX5_looks_15 : decode cX5_looks 15 = .ok (.getfield 7, 3) := by decide +kernel
theorem dX5_looks_18 : decode cX5_looks 18 = .ok (.istore_n 2, 1) := by decide +kernel
theorem dX5_looks_19 : decode cX5_looks 19 = .ok (.aload_n 0, 1) := by decide +kernel
theorem dX5_looks_20 : decode cX5_looks 20 = .ok (.iload_n 1, 1) := by decide +kernel
theorem dX5_looks_21 : decode cX5_looks 21 = .ok (.putfield 7, 3) := by decide +kernel
theorem dX5_looks_24 : decode cX5_looks 24 = .ok (.aload_n 0, 1) := by decide +kernel
theorem dX5_looks_25 : decode cX5_looks 25 = .ok (.iconst 0, 1) := by decide +kernel
theorem dX5_looks_26 : decode cX5_looks 26 = .ok (.putfield 56, 3) := by decide +kernel
theorem dX5_looks_29 : decode cX5_looks 29 = .ok (.iload_n 2, 1) := by decide +kernel
theorem dX5_looks_30 : decode cX5_looks 30 = .ok (.ireturn, 1) := by decide +kernel
theorem dX5_put_0 : decode cX5_put 0 = .ok (.iload_n 1, 1) := by decide +kernel
theorem dX5_put_1 : decode cX5_put 1 = .ok (.i2l, 1) := by decide +kernel
theorem dX5_put_2 : decode cX5_put 2 = .ok (.lconst 1, 1) := by decide +kernel
theorem dX5_put_3 : decode cX5_put 3 = .ok (.iconst 1, 1) := by decide +kernel
theorem dX5_put_4 : decode cX5_put 4 = .ok (.aload_n 0, 1) := by decide +kernel
theorem dX5_put_5 : decode cX5_put 5 = .ok (.getfield 7, 3) := by decide +kernel
theorem dX5_put_8 : decode cX5_put 8 = .ok (.ishl, 1) := by decide +kernel
theorem dX5_put_9 : decode cX5_put 9 = .ok (.iconst 1, 1) := by decide +kernel
theorem dX5_put_10 : decode cX5_put 10 = .ok (.isub, 1) := by decide +kernel
theorem dX5_put_11 : decode cX5_put 11 = .ok (.i2l, 1) := by decide +kernel
theorem dX5_put_12 : decode cX5_put 12 = .ok (.invokestatic 59, 3) := by decide +kernel
theorem dX5_put_15 : decode cX5_put 15 = .ok (.ifCond .eq 11, 3) := by decide +kernel
theorem dX5_put_18 : decode cX5_put 18 = .ok (.iload_n 1, 1) := by decide +kernel
theorem dX5_put_19 : decode cX5_put 19 = .ok (.invokestatic 67, 3) := by decide +kernel
theorem dX5_put_22 : decode cX5_put 22 = .ok (.iconst 3, 1) := by decide +kernel
theorem dX5_put_23 : decode cX5_put 23 = .ok (.if_icmp .le 5, 3) := by decide +kernel
theorem dX5_put_26 : decode cX5_put 26 = .ok (.iconst (-1), 1) := by decide +kernel
theorem dX5_put_27 : decode cX5_put 27 = .ok (.ireturn, 1) := by decide +kernel
theorem dX5_put_28 : decode cX5_put 28 = .ok (.iconst 0, 1) := by decide +kernel
theorem dX5_put_29 : decode cX5_put 29 = .ok (.istore_n 2, 1) := by decide +kernel
theorem dX5_put_30 : decode cX5_put 30 = .ok (.iload_n 2, 1) := by decide +kernel
theorem dX5_put_31 : decode cX5_put 31 = .ok (.aload_n 0, 1) := by decide +kernel
theorem dX5_put_32 : decode cX5_put 32 = .ok (.getfield 56, 3) := by decide +kernel
theorem dX5_put_35 : decode cX5_put 35 = .ok (.if_icmp .ge 22, 3) := by decide +kernel
theorem dX5_put_38 : decode cX5_put 38 = .ok (.aload_n 0, 1) := by decide +kernel
theorem dX5_put_39 : decode cX5_put 39 = .ok (.getfield 13, 3) := by decide +kernel
theorem dX5_put_42 : decode cX5_put 42 = .ok (.iload_n 2, 1) := by decide +kernel
theorem dX5_put_43 : decode cX5_put 43 = .ok (.iaload, 1) := by decide +kernel
theorem dX5_put_44 : decode cX5_put 44 = .ok (.iload_n 1, 1) := by decide +kernel
theorem dX5_put_45 : decode cX5_put 45 = .ok (.if_icmp .ne 6, 3) := by decide +kernel
theorem dX5_put_48 : decode cX5_put 48 = .ok (.bipush (-2), 2) := by decide +kernel
theorem dX5_put_50 : decode cX5_put 50 = .ok (.ireturn, 1) := by decide +kernel
theorem dX5_put_51 : decode cX5_put 51 = .ok (.iinc 2 1, 3) := by decide +kernel
theorem dX5_put_54 : decode cX5_put 54 = .ok (.goto (-24), 3) := by decide +kernel
theorem dX5_put_57 : decode cX5_put 57 = .ok (.aload_n 0, 1) := by decide +kernel
theorem dX5_put_58 : decode cX5_put 58 = .ok (.getfield 56, 3) := by decide +kernel
theorem dX5_put_61 : decode cX5_put 61 = .ok (.bipush 8, 2) := by decide +kernel
theorem dX5_put_63 : decode cX5_put 63 = .ok (.if_icmp .ne 6, 3) := by decide +kernel
theorem dX5_put_66 : decode cX5_put 66 = .ok (.bipush (-3), 2) := by decide +kernel
theorem dX5_put_68 : decode cX5_put 68 = .ok (.ireturn, 1) := by decide +kernel
theorem dX5_put_69 : decode cX5_put 69 = .ok (.aload_n 0, 1) := by decide +kernel
theorem dX5_put_70 : decode cX5_put 70 = .ok (.getfield 13, 3) := by decide +kernel
theorem dX5_put_73 : decode cX5_put 73 = .ok (.aload_n 0, 1) := by decide +kernel
theorem dX5_put_74 : decode cX5_put 74 = .ok (.getfield 56, 3) := by decide +kernel
theorem dX5_put_77 : decode cX5_put 77 = .ok (.iload_n 1, 1) := by decide +kernel
theorem dX5_put_78 : decode cX5_put 78 = .ok (.iastore, 1) := by decide +kernel
theorem dX5_put_79 : decode cX5_put 79 = .ok (.aload_n 0, 1) := by decide +kernel
theorem dX5_put_80 : decode cX5_put 80 = .ok (.getfield 17, 3) := by decide +kernel
theorem dX5_put_83 : decode cX5_put 83 = .ok (.aload_n 0, 1) := by decide +kernel
theorem dX5_put_84 : decode cX5_put 84 = .ok (.getfield 56, 3) := by decide +kernel
theorem dX5_put_87 : decode cX5_put 87 = .ok (.bipush (-4), 2) := by decide +kernel
theorem dX5_put_89 : decode cX5_put 89 = .ok (.iastore, 1) := by decide +kernel
theorem dX5_put_90 : decode cX5_put 90 = .ok (.iconst 0, 1) := by decide +kernel
theorem dX5_put_91 : decode cX5_put 91 = .ok (.istore_n 2, 1) := by decide +kernel
theorem dX5_put_92 : decode cX5_put 92 = .ok (.iload_n 2, 1) := by decide +kernel
theorem dX5_put_93 : decode cX5_put 93 = .ok (.bipush 8, 2) := by decide +kernel
theorem dX5_put_95 : decode cX5_put 95 = .ok (.if_icmp .ge 39, 3) := by decide +kernel
theorem dX5_put_98 : decode cX5_put 98 = .ok (.aload_n 0, 1) := by decide +kernel
theorem dX5_put_99 : decode cX5_put 99 = .ok (.getfield 20, 3) := by decide +kernel
theorem dX5_put_102 : decode cX5_put 102 = .ok (.bipush 8, 2) := by decide +kernel
theorem dX5_put_104 : decode cX5_put 104 = .ok (.aload_n 0, 1) := by decide +kernel
theorem dX5_put_105 : decode cX5_put 105 = .ok (.getfield 56, 3) := by decide +kernel
theorem dX5_put_108 : decode cX5_put 108 = .ok (.imul, 1) := by decide +kernel
theorem dX5_put_109 : decode cX5_put 109 = .ok (.iload_n 2, 1) := by decide +kernel
theorem dX5_put_110 : decode cX5_put 110 = .ok (.iadd, 1) := by decide +kernel
theorem dX5_put_111 : decode cX5_put 111 = .ok (.iconst 0, 1) := by decide +kernel
theorem dX5_put_112 : decode cX5_put 112 = .ok (.iastore, 1) := by decide +kernel
theorem dX5_put_113 : decode cX5_put 113 = .ok (.aload_n 0, 1) := by decide +kernel
theorem dX5_put_114 : decode cX5_put 114 = .ok (.getfield 23, 3) := by decide +kernel
theorem dX5_put_117 : decode cX5_put 117 = .ok (.bipush 8, 2) := by decide +kernel
theorem dX5_put_119 : decode cX5_put 119 = .ok (.aload_n 0, 1) := by decide +kernel
theorem dX5_put_120 : decode cX5_put 120 = .ok (.getfield 56, 3) := by decide +kernel
theorem dX5_put_123 : decode cX5_put 123 = .ok (.imul, 1) := by decide +kernel
theorem dX5_put_124 : decode cX5_put 124 = .ok (.iload_n 2, 1) := by decide +kernel
theorem dX5_put_125 : decode cX5_put 125 = .ok (.iadd, 1) := by decide +kernel
theorem dX5_put_126 : decode cX5_put 126 = .ok (.iconst 0, 1) := by decide +kernel
theorem dX5_put_127 : decode cX5_put 127 = .ok (.iastore, 1) := by decide +kernel
theorem dX5_put_128 : decode cX5_put 128 = .ok (.iinc 2 1, 3) := by decide +kernel
theorem dX5_put_131 : decode cX5_put 131 = .ok (.goto (-39), 3) := by decide +kernel
theorem dX5_put_134 : decode cX5_put 134 = .ok (.aload_n 0, 1) := by decide +kernel
theorem dX5_put_135 : decode cX5_put 135 = .ok (.dup, 1) := by decide +kernel
theorem dX5_put_136 : decode cX5_put 136 = .ok (.getfield 56, 3) := by decide +kernel
theorem dX5_put_139 : decode cX5_put 139 = .ok (.iconst 1, 1) := by decide +kernel
theorem dX5_put_140 : decode cX5_put 140 = .ok (.iadd, 1) := by decide +kernel
theorem dX5_put_141 : decode cX5_put 141 = .ok (.putfield 56, 3) := by decide +kernel
theorem dX5_put_144 : decode cX5_put 144 = .ok (.aload_n 0, 1) := by decide +kernel
theorem dX5_put_145 : decode cX5_put 145 = .ok (.getfield 56, 3) := by decide +kernel
theorem dX5_put_148 : decode cX5_put 148 = .ok (.iconst 1, 1) := by decide +kernel
theorem dX5_put_149 : decode cX5_put 149 = .ok (.isub, 1) := by decide +kernel
theorem dX5_put_150 : decode cX5_put 150 = .ok (.ireturn, 1) := by decide +kernel
theorem dX5_drop_0 : decode cX5_drop 0 = .ok (.aload_n 0, 1) := by decide +kernel
theorem dX5_drop_1 : decode cX5_drop 1 = .ok (.getfield 56, 3) := by decide +kernel
theorem dX5_drop_4 : decode cX5_drop 4 = .ok (.ifCond .ne 6, 3) := by decide +kernel
theorem dX5_drop_7 : decode cX5_drop 7 = .ok (.bipush (-4), 2) := by decide +kernel
theorem dX5_drop_9 : decode cX5_drop 9 = .ok (.ireturn, 1) := by decide +kernel
theorem dX5_drop_10 : decode cX5_drop 10 = .ok (.aload_n 0, 1) := by decide +kernel
theorem dX5_drop_11 : decode cX5_drop 11 = .ok (.dup, 1) := by decide +kernel
theorem dX5_drop_12 : decode cX5_drop 12 = .ok (.getfield 56, 3) := by decide +kernel
theorem dX5_drop_15 : decode cX5_drop 15 = .ok (.iconst 1, 1) := by decide +kernel
theorem dX5_drop_16 : decode cX5_drop 16 = .ok (.isub, 1) := by decide +kernel
theorem dX5_drop_17 : decode cX5_drop 17 = .ok (.putfield 56, 3) := by decide +kernel
theorem dX5_drop_20 : decode cX5_drop 20 = .ok (.aload_n 0, 1) := by decide +kernel
theorem dX5_drop_21 : decode cX5_drop 21 = .ok (.getfield 56, 3) := by decide +kernel
theorem dX5_drop_24 : decode cX5_drop 24 = .ok (.ireturn, 1) := by decide +kernel
theorem dX5_sumOf_0 : decode cX5_sumOf 0 = .ok (.iconst 0, 1) := by decide +kernel
theorem dX5_sumOf_1 : decode cX5_sumOf 1 = .ok (.istore_n 2, 1) := by decide +kernel
theorem dX5_sumOf_2 : decode cX5_sumOf 2 = .ok (.iconst 0, 1) := by decide +kernel
theorem dX5_sumOf_3 : decode cX5_sumOf 3 = .ok (.istore_n 3, 1) := by decide +kernel
theorem dX5_sumOf_4 : decode cX5_sumOf 4 = .ok (.iload_n 3, 1) := by decide +kernel
theorem dX5_sumOf_5 : decode cX5_sumOf 5 = .ok (.bipush 8, 2) := by decide +kernel
theorem dX5_sumOf_7 : decode cX5_sumOf 7 = .ok (.if_icmp .ge 23, 3) := by decide +kernel
theorem dX5_sumOf_10 : decode cX5_sumOf 10 = .ok (.iload_n 2, 1) := by decide +kernel
theorem dX5_sumOf_11 : decode cX5_sumOf 11 = .ok (.aload_n 0, 1) := by decide +kernel
theorem dX5_sumOf_12 : decode cX5_sumOf 12 = .ok (.getfield 20, 3) := by decide +kernel
theorem dX5_sumOf_15 : decode cX5_sumOf 15 = .ok (.bipush 8, 2) := by decide +kernel
theorem dX5_sumOf_17 : decode cX5_sumOf 17 = .ok (.iload_n 1, 1) := by decide +kernel
theorem dX5_sumOf_18 : decode cX5_sumOf 18 = .ok (.imul, 1) := by decide +kernel
theorem dX5_sumOf_19 : decode cX5_sumOf 19 = .ok (.iload_n 3, 1) := by decide +kernel
theorem dX5_sumOf_20 : decode cX5_sumOf 20 = .ok (.iadd, 1) := by decide +kernel
theorem dX5_sumOf_21 : decode cX5_sumOf 21 = .ok (.iaload, 1) := by decide +kernel
theorem dX5_sumOf_22 : decode cX5_sumOf 22 = .ok (.iadd, 1) := by decide +kernel
theorem dX5_sumOf_23 : decode cX5_sumOf 23 = .ok (.istore_n 2, 1) := by decide +kernel
theorem dX5_sumOf_24 : decode cX5_sumOf 24 = .ok (.iinc 3 1, 3) := by decide +kernel
theorem dX5_sumOf_27 : decode cX5_sumOf 27 = .ok (.goto (-23), 3) := by decide +kernel
theorem dX5_sumOf_30 : decode cX5_sumOf 30 = .ok (.iload_n 2, 1) := by decide +kernel
theorem dX5_sumOf_31 : decode cX5_sumOf 31 = .ok (.ireturn, 1) := by decide +kernel
theorem dX5_told_0 : decode cX5_told 0 = .ok (.aload_n 0, 1) := by decide +kernel
theorem dX5_told_1 : decode cX5_told 1 = .ok (.iload_n 1, 1) := by decide +kernel
theorem dX5_told_2 : decode cX5_told 2 = .ok (.invokevirtual 63, 3) := by decide +kernel
theorem dX5_told_5 : decode cX5_told 5 = .ok (.ifCond .eq 15, 3) := by decide +kernel
theorem dX5_told_8 : decode cX5_told 8 = .ok (.iload_n 2, 1) := by decide +kernel
theorem dX5_told_9 : decode cX5_told 9 = .ok (.i2l, 1) := by decide +kernel
theorem dX5_told_10 : decode cX5_told 10 = .ok (.lconst 0, 1) := by decide +kernel
theorem dX5_told_11 : decode cX5_told 11 = .ok (.ldc2_w 73, 3) := by decide +kernel
theorem dX5_told_14 : decode cX5_told 14 = .ok (.invokestatic 59, 3) := by decide +kernel
theorem dX5_told_17 : decode cX5_told 17 = .ok (.ifCond .ne 5, 3) := by decide +kernel
theorem dX5_told_20 : decode cX5_told 20 = .ok (.iconst (-1), 1) := by decide +kernel
theorem dX5_told_21 : decode cX5_told 21 = .ok (.ireturn, 1) := by decide +kernel
theorem dX5_told_22 : decode cX5_told 22 = .ok (.iload_n 2, 1) := by decide +kernel
theorem dX5_told_23 : decode cX5_told 23 = .ok (.ifCond .ne 12, 3) := by decide +kernel
theorem dX5_told_26 : decode cX5_told 26 = .ok (.aload_n 0, 1) := by decide +kernel
theorem dX5_told_27 : decode cX5_told 27 = .ok (.getfield 13, 3) := by decide +kernel
theorem dX5_told_30 : decode cX5_told 30 = .ok (.iload_n 1, 1) := by decide +kernel
theorem dX5_told_31 : decode cX5_told 31 = .ok (.iaload, 1) := by decide +kernel
theorem dX5_told_32 : decode cX5_told 32 = .ok (.goto 39, 3) := by decide +kernel
theorem dX5_told_35 : decode cX5_told 35 = .ok (.iload_n 2, 1) := by decide +kernel
theorem dX5_told_36 : decode cX5_told 36 = .ok (.iconst 1, 1) := by decide +kernel
theorem dX5_told_37 : decode cX5_told 37 = .ok (.if_icmp .ne 15, 3) := by decide +kernel
theorem dX5_told_40 : decode cX5_told 40 = .ok (.aload_n 0, 1) := by decide +kernel
theorem dX5_told_41 : decode cX5_told 41 = .ok (.getfield 13, 3) := by decide +kernel
theorem dX5_told_44 : decode cX5_told 44 = .ok (.iload_n 1, 1) := by decide +kernel
theorem dX5_told_45 : decode cX5_told 45 = .ok (.iaload, 1) := by decide +kernel
theorem dX5_told_46 : decode cX5_told 46 = .ok (.invokestatic 67, 3) := by decide +kernel
theorem dX5_told_49 : decode cX5_told 49 = .ok (.goto 22, 3) := by decide +kernel
theorem dX5_told_52 : decode cX5_told 52 = .ok (.iload_n 2, 1) := by decide +kernel
theorem dX5_told_53 : decode cX5_told 53 = .ok (.iconst 2, 1) := by decide +kernel
theorem dX5_told_54 : decode cX5_told 54 = .ok (.if_icmp .ne 11, 3) := by decide +kernel
theorem dX5_told_57 : decode cX5_told 57 = .ok (.aload_n 0, 1) := by decide +kernel
theorem dX5_told_58 : decode cX5_told 58 = .ok (.iload_n 1, 1) := by decide +kernel
theorem dX5_told_59 : decode cX5_told 59 = .ok (.invokevirtual 75, 3) := by decide +kernel
theorem dX5_told_62 : decode cX5_told 62 = .ok (.goto 9, 3) := by decide +kernel
theorem dX5_told_65 : decode cX5_told 65 = .ok (.aload_n 0, 1) := by decide +kernel
theorem dX5_told_66 : decode cX5_told 66 = .ok (.getfield 17, 3) := by decide +kernel
theorem dX5_told_69 : decode cX5_told 69 = .ok (.iload_n 1, 1) := by decide +kernel
theorem dX5_told_70 : decode cX5_told 70 = .ok (.iaload, 1) := by decide +kernel
theorem dX5_told_71 : decode cX5_told 71 = .ok (.ireturn, 1) := by decide +kernel
theorem dX5_weight_0 : decode cX5_weight 0 = .ok (.aload_n 0, 1) := by decide +kernel
theorem dX5_weight_1 : decode cX5_weight 1 = .ok (.iload_n 1, 1) := by decide +kernel
theorem dX5_weight_2 : decode cX5_weight 2 = .ok (.iload_n 2, 1) := by decide +kernel
theorem dX5_weight_3 : decode cX5_weight 3 = .ok (.invokevirtual 78, 3) := by decide +kernel
theorem dX5_weight_6 : decode cX5_weight 6 = .ok (.ifCond .eq 15, 3) := by decide +kernel
theorem dX5_weight_9 : decode cX5_weight 9 = .ok (.iload_n 3, 1) := by decide +kernel
theorem dX5_weight_10 : decode cX5_weight 10 = .ok (.i2l, 1) := by decide +kernel
theorem dX5_weight_11 : decode cX5_weight 11 = .ok (.lconst 0, 1) := by decide +kernel
theorem dX5_weight_12 : decode cX5_weight 12 = .ok (.ldc2_w 82, 3) := by decide +kernel
theorem dX5_weight_15 : decode cX5_weight 15 = .ok (.invokestatic 59, 3) := by decide +kernel
theorem dX5_weight_18 : decode cX5_weight 18 = .ok (.ifCond .ne 5, 3) := by decide +kernel
theorem dX5_weight_21 : decode cX5_weight 21 = .ok (.iconst (-1), 1) := by decide +kernel
theorem dX5_weight_22 : decode cX5_weight 22 = .ok (.ireturn, 1) := by decide +kernel
theorem dX5_weight_23 : decode cX5_weight 23 = .ok (.aload_n 0, 1) := by decide +kernel
theorem dX5_weight_24 : decode cX5_weight 24 = .ok (.getfield 20, 3) := by decide +kernel
theorem dX5_weight_27 : decode cX5_weight 27 = .ok (.bipush 8, 2) := by decide +kernel
theorem dX5_weight_29 : decode cX5_weight 29 = .ok (.iload_n 1, 1) := by decide +kernel
theorem dX5_weight_30 : decode cX5_weight 30 = .ok (.imul, 1) := by decide +kernel
theorem dX5_weight_31 : decode cX5_weight 31 = .ok (.iload_n 2, 1) := by decide +kernel
theorem dX5_weight_32 : decode cX5_weight 32 = .ok (.iadd, 1) := by decide +kernel
theorem dX5_weight_33 : decode cX5_weight 33 = .ok (.iaload, 1) := by decide +kernel
theorem dX5_weight_34 : decode cX5_weight 34 = .ok (.istore 4, 2) := by decide +kernel
theorem dX5_weight_36 : decode cX5_weight 36 = .ok (.aload_n 0, 1) := by decide +kernel
theorem dX5_weight_37 : decode cX5_weight 37 = .ok (.getfield 20, 3) := by decide +kernel
theorem dX5_weight_40 : decode cX5_weight 40 = .ok (.bipush 8, 2) := by decide +kernel
theorem dX5_weight_42 : decode cX5_weight 42 = .ok (.iload_n 1, 1) := by decide +kernel
theorem dX5_weight_43 : decode cX5_weight 43 = .ok (.imul, 1) := by decide +kernel
theorem dX5_weight_44 : decode cX5_weight 44 = .ok (.iload_n 2, 1) := by decide +kernel
theorem dX5_weight_45 : decode cX5_weight 45 = .ok (.iadd, 1) := by decide +kernel
theorem dX5_weight_46 : decode cX5_weight 46 = .ok (.iload_n 3, 1) := by decide +kernel
theorem dX5_weight_47 : decode cX5_weight 47 = .ok (.iastore, 1) := by decide +kernel
theorem dX5_weight_48 : decode cX5_weight 48 = .ok (.iload 4, 2) := by decide +kernel
theorem dX5_weight_50 : decode cX5_weight 50 = .ok (.ireturn, 1) := by decide +kernel
theorem dX5_stake_0 : decode cX5_stake 0 = .ok (.aload_n 0, 1) := by decide +kernel
theorem dX5_stake_1 : decode cX5_stake 1 = .ok (.iload_n 1, 1) := by decide +kernel
theorem dX5_stake_2 : decode cX5_stake 2 = .ok (.iload_n 2, 1) := by decide +kernel
theorem dX5_stake_3 : decode cX5_stake 3 = .ok (.invokevirtual 78, 3) := by decide +kernel
theorem dX5_stake_6 : decode cX5_stake 6 = .ok (.ifCond .eq 17, 3) := by decide +kernel
theorem dX5_stake_9 : decode cX5_stake 9 = .ok (.iload_n 3, 1) := by decide +kernel
theorem dX5_stake_10 : decode cX5_stake 10 = .ok (.i2l, 1) := by decide +kernel
theorem dX5_stake_11 : decode cX5_stake 11 = .ok (.ldc2_w 84, 3) := by decide +kernel
theorem dX5_stake_14 : decode cX5_stake 14 = .ok (.ldc2_w 86, 3) := by decide +kernel
theorem dX5_stake_17 : decode cX5_stake 17 = .ok (.invokestatic 59, 3) := by decide +kernel
theorem dX5_stake_20 : decode cX5_stake 20 = .ok (.ifCond .ne 7, 3) := by decide +kernel
theorem dX5_stake_23 : decode cX5_stake 23 = .ok (.sipush (-1000), 3) := by decide +kernel
theorem dX5_stake_26 : decode cX5_stake 26 = .ok (.ireturn, 1) := by decide +kernel
theorem dX5_stake_27 : decode cX5_stake 27 = .ok (.aload_n 0, 1) := by decide +kernel
theorem dX5_stake_28 : decode cX5_stake 28 = .ok (.getfield 23, 3) := by decide +kernel
theorem dX5_stake_31 : decode cX5_stake 31 = .ok (.bipush 8, 2) := by decide +kernel
theorem dX5_stake_33 : decode cX5_stake 33 = .ok (.iload_n 1, 1) := by decide +kernel
theorem dX5_stake_34 : decode cX5_stake 34 = .ok (.imul, 1) := by decide +kernel
theorem dX5_stake_35 : decode cX5_stake 35 = .ok (.iload_n 2, 1) := by decide +kernel
theorem dX5_stake_36 : decode cX5_stake 36 = .ok (.iadd, 1) := by decide +kernel
theorem dX5_stake_37 : decode cX5_stake 37 = .ok (.iaload, 1) := by decide +kernel
theorem dX5_stake_38 : decode cX5_stake 38 = .ok (.istore 4, 2) := by decide +kernel
theorem dX5_stake_40 : decode cX5_stake 40 = .ok (.aload_n 0, 1) := by decide +kernel
theorem dX5_stake_41 : decode cX5_stake 41 = .ok (.getfield 23, 3) := by decide +kernel
theorem dX5_stake_44 : decode cX5_stake 44 = .ok (.bipush 8, 2) := by decide +kernel
theorem dX5_stake_46 : decode cX5_stake 46 = .ok (.iload_n 1, 1) := by decide +kernel
theorem dX5_stake_47 : decode cX5_stake 47 = .ok (.imul, 1) := by decide +kernel
theorem dX5_stake_48 : decode cX5_stake 48 = .ok (.iload_n 2, 1) := by decide +kernel
theorem dX5_stake_49 : decode cX5_stake 49 = .ok (.iadd, 1) := by decide +kernel
theorem dX5_stake_50 : decode cX5_stake 50 = .ok (.iload_n 3, 1) := by decide +kernel
theorem dX5_stake_51 : decode cX5_stake 51 = .ok (.iastore, 1) := by decide +kernel
theorem dX5_stake_52 : decode cX5_stake 52 = .ok (.iload 4, 2) := by decide +kernel
theorem dX5_stake_54 : decode cX5_stake 54 = .ok (.ireturn, 1) := by decide +kernel
theorem dX5_parity_0 : decode cX5_parity 0 = .ok (.aload_n 0, 1) := by decide +kernel
theorem dX5_parity_1 : decode cX5_parity 1 = .ok (.iload_n 1, 1) := by decide +kernel
theorem dX5_parity_2 : decode cX5_parity 2 = .ok (.invokevirtual 63, 3) := by decide +kernel
theorem dX5_parity_5 : decode cX5_parity 5 = .ok (.ifCond .eq 19, 3) := by decide +kernel
theorem dX5_parity_8 : decode cX5_parity 8 = .ok (.iload_n 2, 1) := by decide +kernel
theorem dX5_parity_9 : decode cX5_parity 9 = .ok (.bipush (-4), 2) := by decide +kernel
theorem dX5_parity_11 : decode cX5_parity 11 = .ok (.if_icmp .eq 15, 3) := by decide +kernel
theorem dX5_parity_14 : decode cX5_parity 14 = .ok (.iload_n 2, 1) := by decide +kernel
theorem dX5_parity_15 : decode cX5_parity 15 = .ok (.i2l, 1) := by decide +kernel
theorem dX5_parity_16 : decode cX5_parity 16 = .ok (.lconst 0, 1) := by decide +kernel
theorem dX5_parity_17 : decode cX5_parity 17 = .ok (.lconst 1, 1) := by decide +kernel
theorem dX5_parity_18 : decode cX5_parity 18 = .ok (.invokestatic 59, 3) := by decide +kernel
theorem dX5_parity_21 : decode cX5_parity 21 = .ok (.ifCond .ne 5, 3) := by decide +kernel
theorem dX5_parity_24 : decode cX5_parity 24 = .ok (.iconst (-1), 1) := by decide +kernel
theorem dX5_parity_25 : decode cX5_parity 25 = .ok (.ireturn, 1) := by decide +kernel
theorem dX5_parity_26 : decode cX5_parity 26 = .ok (.aload_n 0, 1) := by decide +kernel
theorem dX5_parity_27 : decode cX5_parity 27 = .ok (.getfield 17, 3) := by decide +kernel
theorem dX5_parity_30 : decode cX5_parity 30 = .ok (.iload_n 1, 1) := by decide +kernel
theorem dX5_parity_31 : decode cX5_parity 31 = .ok (.iaload, 1) := by decide +kernel
theorem dX5_parity_32 : decode cX5_parity 32 = .ok (.istore_n 3, 1) := by decide +kernel
theorem dX5_parity_33 : decode cX5_parity 33 = .ok (.aload_n 0, 1) := by decide +kernel
theorem dX5_parity_34 : decode cX5_parity 34 = .ok (.getfield 17, 3) := by decide +kernel
theorem dX5_parity_37 : decode cX5_parity 37 = .ok (.iload_n 1, 1) := by decide +kernel
theorem dX5_parity_38 : decode cX5_parity 38 = .ok (.iload_n 2, 1) := by decide +kernel
theorem dX5_parity_39 : decode cX5_parity 39 = .ok (.iastore, 1) := by decide +kernel
theorem dX5_parity_40 : decode cX5_parity 40 = .ok (.iload_n 3, 1) := by decide +kernel
theorem dX5_parity_41 : decode cX5_parity 41 = .ok (.ireturn, 1) := by decide +kernel
theorem dX5_jointOf_0 : decode cX5_jointOf 0 = .ok (.iconst 0, 1) := by decide +kernel
theorem dX5_jointOf_1 : decode cX5_jointOf 1 = .ok (.istore_n 3, 1) := by decide +kernel
theorem dX5_jointOf_2 : decode cX5_jointOf 2 = .ok (.iconst 0, 1) := by decide +kernel
theorem dX5_jointOf_3 : decode cX5_jointOf 3 = .ok (.istore 4, 2) := by decide +kernel
theorem dX5_jointOf_5 : decode cX5_jointOf 5 = .ok (.iconst 0, 1) := by decide +kernel
theorem dX5_jointOf_6 : decode cX5_jointOf 6 = .ok (.istore 5, 2) := by decide +kernel
theorem dX5_jointOf_8 : decode cX5_jointOf 8 = .ok (.iload 5, 2) := by decide +kernel
theorem dX5_jointOf_10 : decode cX5_jointOf 10 = .ok (.aload_n 0, 1) := by decide +kernel
theorem dX5_jointOf_11 : decode cX5_jointOf 11 = .ok (.getfield 7, 3) := by decide +kernel
theorem dX5_jointOf_14 : decode cX5_jointOf 14 = .ok (.if_icmp .ge 39, 3) := by decide +kernel
theorem dX5_jointOf_17 : decode cX5_jointOf 17 = .ok (.aload_n 0, 1) := by decide +kernel
theorem dX5_jointOf_18 : decode cX5_jointOf 18 = .ok (.getfield 13, 3) := by decide +kernel
theorem dX5_jointOf_21 : decode cX5_jointOf 21 = .ok (.iload_n 1, 1) := by decide +kernel
theorem dX5_jointOf_22 : decode cX5_jointOf 22 = .ok (.iaload, 1) := by decide +kernel
theorem dX5_jointOf_23 : decode cX5_jointOf 23 = .ok (.iload 5, 2) := by decide +kernel
theorem dX5_jointOf_25 : decode cX5_jointOf 25 = .ok (.ishr, 1) := by decide +kernel
theorem dX5_jointOf_26 : decode cX5_jointOf 26 = .ok (.iconst 1, 1) := by decide +kernel
theorem dX5_jointOf_27 : decode cX5_jointOf 27 = .ok (.iand, 1) := by decide +kernel
theorem dX5_jointOf_28 : decode cX5_jointOf 28 = .ok (.iconst 1, 1) := by decide +kernel
theorem dX5_jointOf_29 : decode cX5_jointOf 29 = .ok (.if_icmp .ne 18, 3) := by decide +kernel
theorem dX5_jointOf_32 : decode cX5_jointOf 32 = .ok (.iload_n 3, 1) := by decide +kernel
theorem dX5_jointOf_33 : decode cX5_jointOf 33 = .ok (.iload_n 2, 1) := by decide +kernel
theorem dX5_jointOf_34 : decode cX5_jointOf 34 = .ok (.iload 5, 2) := by decide +kernel
theorem dX5_jointOf_36 : decode cX5_jointOf 36 = .ok (.ishr, 1) := by decide +kernel
theorem dX5_jointOf_37 : decode cX5_jointOf 37 = .ok (.iconst 1, 1) := by decide +kernel
theorem dX5_jointOf_38 : decode cX5_jointOf 38 = .ok (.iand, 1) := by decide +kernel
theorem dX5_jointOf_39 : decode cX5_jointOf 39 = .ok (.iload 4, 2) := by decide +kernel
theorem dX5_jointOf_41 : decode cX5_jointOf 41 = .ok (.ishl, 1) := by decide +kernel
theorem dX5_jointOf_42 : decode cX5_jointOf 42 = .ok (.ior, 1) := by decide +kernel
theorem dX5_jointOf_43 : decode cX5_jointOf 43 = .ok (.istore_n 3, 1) := by decide +kernel
theorem dX5_jointOf_44 : decode cX5_jointOf 44 = .ok (.iinc 4 1, 3) := by decide +kernel
theorem dX5_jointOf_47 : decode cX5_jointOf 47 = .ok (.iinc 5 1, 3) := by decide +kernel
theorem dX5_jointOf_50 : decode cX5_jointOf 50 = .ok (.goto (-42), 3) := by decide +kernel
theorem dX5_jointOf_53 : decode cX5_jointOf 53 = .ok (.iload_n 3, 1) := by decide +kernel
theorem dX5_jointOf_54 : decode cX5_jointOf 54 = .ok (.ireturn, 1) := by decide +kernel
theorem dX5_joint_0 : decode cX5_joint 0 = .ok (.aload_n 0, 1) := by decide +kernel
theorem dX5_joint_1 : decode cX5_joint 1 = .ok (.iload_n 1, 1) := by decide +kernel
theorem dX5_joint_2 : decode cX5_joint 2 = .ok (.invokevirtual 63, 3) := by decide +kernel
theorem dX5_joint_5 : decode cX5_joint 5 = .ok (.ifCond .eq 28, 3) := by decide +kernel
theorem dX5_joint_8 : decode cX5_joint 8 = .ok (.iload_n 2, 1) := by decide +kernel
theorem dX5_joint_9 : decode cX5_joint 9 = .ok (.i2l, 1) := by decide +kernel
theorem dX5_joint_10 : decode cX5_joint 10 = .ok (.lconst 0, 1) := by decide +kernel
theorem dX5_joint_11 : decode cX5_joint 11 = .ok (.aload_n 0, 1) := by decide +kernel
theorem dX5_joint_12 : decode cX5_joint 12 = .ok (.invokevirtual 88, 3) := by decide +kernel
theorem dX5_joint_15 : decode cX5_joint 15 = .ok (.iconst 1, 1) := by decide +kernel
theorem dX5_joint_16 : decode cX5_joint 16 = .ok (.isub, 1) := by decide +kernel
theorem dX5_joint_17 : decode cX5_joint 17 = .ok (.i2l, 1) := by decide +kernel
theorem dX5_joint_18 : decode cX5_joint 18 = .ok (.invokestatic 59, 3) := by decide +kernel
theorem dX5_joint_21 : decode cX5_joint 21 = .ok (.ifCond .eq 12, 3) := by decide +kernel
theorem dX5_joint_24 : decode cX5_joint 24 = .ok (.aload_n 0, 1) := by decide +kernel
theorem dX5_joint_25 : decode cX5_joint 25 = .ok (.iload_n 1, 1) := by decide +kernel
theorem dX5_joint_26 : decode cX5_joint 26 = .ok (.iload_n 2, 1) := by decide +kernel
theorem dX5_joint_27 : decode cX5_joint 27 = .ok (.invokevirtual 92, 3) := by decide +kernel
theorem dX5_joint_30 : decode cX5_joint 30 = .ok (.goto 4, 3) := by decide +kernel
theorem dX5_joint_33 : decode cX5_joint 33 = .ok (.iconst (-1), 1) := by decide +kernel
theorem dX5_joint_34 : decode cX5_joint 34 = .ok (.ireturn, 1) := by decide +kernel
theorem dX5_sumBy_0 : decode cX5_sumBy 0 = .ok (.iconst 0, 1) := by decide +kernel
theorem dX5_sumBy_1 : decode cX5_sumBy 1 = .ok (.istore 4, 2) := by decide +kernel
theorem dX5_sumBy_3 : decode cX5_sumBy 3 = .ok (.iconst 0, 1) := by decide +kernel
theorem dX5_sumBy_4 : decode cX5_sumBy 4 = .ok (.istore 5, 2) := by decide +kernel
theorem dX5_sumBy_6 : decode cX5_sumBy 6 = .ok (.iload 5, 2) := by decide +kernel
theorem dX5_sumBy_8 : decode cX5_sumBy 8 = .ok (.iconst 1, 1) := by decide +kernel
theorem dX5_sumBy_9 : decode cX5_sumBy 9 = .ok (.aload_n 0, 1) := by decide +kernel
theorem dX5_sumBy_10 : decode cX5_sumBy 10 = .ok (.getfield 13, 3) := by decide +kernel
theorem dX5_sumBy_13 : decode cX5_sumBy 13 = .ok (.iload_n 1, 1) := by decide +kernel
theorem dX5_sumBy_14 : decode cX5_sumBy 14 = .ok (.iaload, 1) := by decide +kernel
theorem dX5_sumBy_15 : decode cX5_sumBy 15 = .ok (.invokestatic 67, 3) := by decide +kernel
theorem dX5_sumBy_18 : decode cX5_sumBy 18 = .ok (.ishl, 1) := by decide +kernel
theorem dX5_sumBy_19 : decode cX5_sumBy 19 = .ok (.if_icmp .ge 114, 3) := by decide +kernel
theorem dX5_sumBy_22 : decode cX5_sumBy 22 = .ok (.iconst 0, 1) := by decide +kernel
theorem dX5_sumBy_23 : decode cX5_sumBy 23 = .ok (.istore 6, 2) := by decide +kernel
theorem dX5_sumBy_25 : decode cX5_sumBy 25 = .ok (.iconst 1, 1) := by decide +kernel
theorem dX5_sumBy_26 : decode cX5_sumBy 26 = .ok (.istore 7, 2) := by decide +kernel
theorem dX5_sumBy_28 : decode cX5_sumBy 28 = .ok (.iconst 0, 1) := by decide +kernel
theorem dX5_sumBy_29 : decode cX5_sumBy 29 = .ok (.istore 8, 2) := by decide +kernel
theorem dX5_sumBy_31 : decode cX5_sumBy 31 = .ok (.iload 8, 2) := by decide +kernel
theorem dX5_sumBy_33 : decode cX5_sumBy 33 = .ok (.aload_n 0, 1) := by decide +kernel
theorem dX5_sumBy_34 : decode cX5_sumBy 34 = .ok (.getfield 7, 3) := by decide +kernel
theorem dX5_sumBy_37 : decode cX5_sumBy 37 = .ok (.if_icmp .ge 64, 3) := by decide +kernel
theorem dX5_sumBy_40 : decode cX5_sumBy 40 = .ok (.aload_n 0, 1) := by decide +kernel
theorem dX5_sumBy_41 : decode cX5_sumBy 41 = .ok (.getfield 13, 3) := by decide +kernel
theorem dX5_sumBy_44 : decode cX5_sumBy 44 = .ok (.iload_n 1, 1) := by decide +kernel
theorem dX5_sumBy_45 : decode cX5_sumBy 45 = .ok (.iaload, 1) := by decide +kernel
theorem dX5_sumBy_46 : decode cX5_sumBy 46 = .ok (.iload 8, 2) := by decide +kernel
theorem dX5_sumBy_48 : decode cX5_sumBy 48 = .ok (.ishr, 1) := by decide +kernel
theorem dX5_sumBy_49 : decode cX5_sumBy 49 = .ok (.iconst 1, 1) := by decide +kernel
theorem dX5_sumBy_50 : decode cX5_sumBy 50 = .ok (.iand, 1) := by decide +kernel
theorem dX5_sumBy_51 : decode cX5_sumBy 51 = .ok (.iconst 1, 1) := by decide +kernel
theorem dX5_sumBy_52 : decode cX5_sumBy 52 = .ok (.if_icmp .ne 43, 3) := by decide +kernel
theorem dX5_sumBy_55 : decode cX5_sumBy 55 = .ok (.iload 7, 2) := by decide +kernel
theorem dX5_sumBy_57 : decode cX5_sumBy 57 = .ok (.ifCond .eq 32, 3) := by decide +kernel
theorem dX5_sumBy_60 : decode cX5_sumBy 60 = .ok (.iload_n 2, 1) := by decide +kernel
theorem dX5_sumBy_61 : decode cX5_sumBy 61 = .ok (.iload 8, 2) := by decide +kernel
theorem dX5_sumBy_63 : decode cX5_sumBy 63 = .ok (.ishr, 1) := by decide +kernel
theorem dX5_sumBy_64 : decode cX5_sumBy 64 = .ok (.iconst 1, 1) := by decide +kernel
theorem dX5_sumBy_65 : decode cX5_sumBy 65 = .ok (.iand, 1) := by decide +kernel
theorem dX5_sumBy_66 : decode cX5_sumBy 66 = .ok (.ifCond .eq 19, 3) := by decide +kernel
theorem dX5_sumBy_69 : decode cX5_sumBy 69 = .ok (.iload 5, 2) := by decide +kernel
theorem dX5_sumBy_71 : decode cX5_sumBy 71 = .ok (.iload 6, 2) := by decide +kernel
theorem dX5_sumBy_73 : decode cX5_sumBy 73 = .ok (.ishr, 1) := by decide +kernel
theorem dX5_sumBy_74 : decode cX5_sumBy 74 = .ok (.iconst 1, 1) := by decide +kernel
theorem dX5_sumBy_75 : decode cX5_sumBy 75 = .ok (.iand, 1) := by decide +kernel
theorem dX5_sumBy_76 : decode cX5_sumBy 76 = .ok (.iload_n 3, 1) := by decide +kernel
theorem dX5_sumBy_77 : decode cX5_sumBy 77 = .ok (.iload 8, 2) := by decide +kernel
theorem dX5_sumBy_79 : decode cX5_sumBy 79 = .ok (.ishr, 1) := by decide +kernel
theorem dX5_sumBy_80 : decode cX5_sumBy 80 = .ok (.iconst 1, 1) := by decide +kernel
theorem dX5_sumBy_81 : decode cX5_sumBy 81 = .ok (.iand, 1) := by decide +kernel
theorem dX5_sumBy_82 : decode cX5_sumBy 82 = .ok (.if_icmp .ne 7, 3) := by decide +kernel
theorem dX5_sumBy_85 : decode cX5_sumBy 85 = .ok (.iconst 1, 1) := by decide +kernel
theorem dX5_sumBy_86 : decode cX5_sumBy 86 = .ok (.goto 4, 3) := by decide +kernel
theorem dX5_sumBy_89 : decode cX5_sumBy 89 = .ok (.iconst 0, 1) := by decide +kernel
theorem dX5_sumBy_90 : decode cX5_sumBy 90 = .ok (.istore 7, 2) := by decide +kernel
theorem dX5_sumBy_92 : decode cX5_sumBy 92 = .ok (.iinc 6 1, 3) := by decide +kernel
theorem dX5_sumBy_95 : decode cX5_sumBy 95 = .ok (.iinc 8 1, 3) := by decide +kernel
theorem dX5_sumBy_98 : decode cX5_sumBy 98 = .ok (.goto (-67), 3) := by decide +kernel
theorem dX5_sumBy_101 : decode cX5_sumBy 101 = .ok (.iload 4, 2) := by decide +kernel
theorem dX5_sumBy_103 : decode cX5_sumBy 103 = .ok (.iload 7, 2) := by decide +kernel
theorem dX5_sumBy_105 : decode cX5_sumBy 105 = .ok (.ifCond .eq 18, 3) := by decide +kernel
theorem dX5_sumBy_108 : decode cX5_sumBy 108 = .ok (.aload_n 0, 1) := by decide +kernel
theorem dX5_sumBy_109 : decode cX5_sumBy 109 = .ok (.getfield 20, 3) := by decide +kernel
theorem dX5_sumBy_112 : decode cX5_sumBy 112 = .ok (.bipush 8, 2) := by decide +kernel
theorem dX5_sumBy_114 : decode cX5_sumBy 114 = .ok (.iload_n 1, 1) := by decide +kernel
theorem dX5_sumBy_115 : decode cX5_sumBy 115 = .ok (.imul, 1) := by decide +kernel
theorem dX5_sumBy_116 : decode cX5_sumBy 116 = .ok (.iload 5, 2) := by decide +kernel
theorem dX5_sumBy_118 : decode cX5_sumBy 118 = .ok (.iadd, 1) := by decide +kernel
theorem dX5_sumBy_119 : decode cX5_sumBy 119 = .ok (.iaload, 1) := by decide +kernel
theorem dX5_sumBy_120 : decode cX5_sumBy 120 = .ok (.goto 4, 3) := by decide +kernel
theorem dX5_sumBy_123 : decode cX5_sumBy 123 = .ok (.iconst 0, 1) := by decide +kernel
theorem dX5_sumBy_124 : decode cX5_sumBy 124 = .ok (.iadd, 1) := by decide +kernel
theorem dX5_sumBy_125 : decode cX5_sumBy 125 = .ok (.istore 4, 2) := by decide +kernel
theorem dX5_sumBy_127 : decode cX5_sumBy 127 = .ok (.iinc 5 1, 3) := by decide +kernel
theorem dX5_sumBy_130 : decode cX5_sumBy 130 = .ok (.goto (-124), 3) := by decide +kernel
theorem dX5_sumBy_133 : decode cX5_sumBy 133 = .ok (.iload 4, 2) := by decide +kernel
theorem dX5_sumBy_135 : decode cX5_sumBy 135 = .ok (.ireturn, 1) := by decide +kernel
theorem dX5_areUnlike_0 : decode cX5_areUnlike 0 = .ok (.aload_n 0, 1) := by decide +kernel
theorem dX5_areUnlike_1 : decode cX5_areUnlike 1 = .ok (.getfield 13, 3) := by decide +kernel
theorem dX5_areUnlike_4 : decode cX5_areUnlike 4 = .ok (.iload_n 1, 1) := by decide +kernel
theorem dX5_areUnlike_5 : decode cX5_areUnlike 5 = .ok (.iaload, 1) := by decide +kernel
theorem dX5_areUnlike_6 : decode cX5_areUnlike 6 = .ok (.aload_n 0, 1) := by decide +kernel
end
section
theorem dX5_areUnlike_7 : decode cX5_areUnlike 7 = .ok (.getfield 13, 3) := by decide +kernel
theorem dX5_areUnlike_10 : decode cX5_areUnlike 10 = .ok (.iload_n 2, 1) := by decide +kernel
theorem dX5_areUnlike_11 : decode cX5_areUnlike 11 = .ok (.iaload, 1) := by decide +kernel
theorem dX5_areUnlike_12 : decode cX5_areUnlike 12 = .ok (.iand, 1) := by decide +kernel
theorem dX5_areUnlike_13 : decode cX5_areUnlike 13 = .ok (.istore_n 3, 1) := by decide +kernel
theorem dX5_areUnlike_14 : decode cX5_areUnlike 14 = .ok (.iconst 0, 1) := by decide +kernel
theorem dX5_areUnlike_15 : decode cX5_areUnlike 15 = .ok (.istore 4, 2) := by decide +kernel
theorem dX5_areUnlike_17 : decode cX5_areUnlike 17 = .ok (.iconst 0, 1) := by decide +kernel
theorem dX5_areUnlike_18 : decode cX5_areUnlike 18 = .ok (.istore 5, 2) := by decide +kernel
theorem dX5_areUnlike_20 : decode cX5_areUnlike 20 = .ok (.iload 5, 2) := by decide +kernel
theorem dX5_areUnlike_22 : decode cX5_areUnlike 22 = .ok (.aload_n 0, 1) := by decide +kernel
theorem dX5_areUnlike_23 : decode cX5_areUnlike 23 = .ok (.invokevirtual 88, 3) := by decide +kernel
theorem dX5_areUnlike_26 : decode cX5_areUnlike 26 = .ok (.if_icmp .ge 49, 3) := by decide +kernel
theorem dX5_areUnlike_29 : decode cX5_areUnlike 29 = .ok (.iload 4, 2) := by decide +kernel
theorem dX5_areUnlike_31 : decode cX5_areUnlike 31 = .ok (.ifCond .ne 44, 3) := by decide +kernel
theorem dX5_areUnlike_34 : decode cX5_areUnlike 34 = .ok (.iload 5, 2) := by decide +kernel
theorem dX5_areUnlike_36 : decode cX5_areUnlike 36 = .ok (.iload_n 3, 1) := by decide +kernel
theorem dX5_areUnlike_37 : decode cX5_areUnlike 37 = .ok (.iconst (-1), 1) := by decide +kernel
theorem dX5_areUnlike_38 : decode cX5_areUnlike 38 = .ok (.ixor, 1) := by decide +kernel
theorem dX5_areUnlike_39 : decode cX5_areUnlike 39 = .ok (.iand, 1) := by decide +kernel
theorem dX5_areUnlike_40 : decode cX5_areUnlike 40 = .ok (.ifCond .ne 26, 3) := by decide +kernel
theorem dX5_areUnlike_43 : decode cX5_areUnlike 43 = .ok (.aload_n 0, 1) := by decide +kernel
theorem dX5_areUnlike_44 : decode cX5_areUnlike 44 = .ok (.iload_n 1, 1) := by decide +kernel
theorem dX5_areUnlike_45 : decode cX5_areUnlike 45 = .ok (.iload_n 3, 1) := by decide +kernel
theorem dX5_areUnlike_46 : decode cX5_areUnlike 46 = .ok (.iload 5, 2) := by decide +kernel
theorem dX5_areUnlike_48 : decode cX5_areUnlike 48 = .ok (.invokevirtual 96, 3) := by decide +kernel
theorem dX5_areUnlike_51 : decode cX5_areUnlike 51 = .ok (.aload_n 0, 1) := by decide +kernel
theorem dX5_areUnlike_52 : decode cX5_areUnlike 52 = .ok (.iload_n 2, 1) := by decide +kernel
theorem dX5_areUnlike_53 : decode cX5_areUnlike 53 = .ok (.iload_n 3, 1) := by decide +kernel
theorem dX5_areUnlike_54 : decode cX5_areUnlike 54 = .ok (.iload 5, 2) := by decide +kernel
theorem dX5_areUnlike_56 : decode cX5_areUnlike 56 = .ok (.invokevirtual 96, 3) := by decide +kernel
theorem dX5_areUnlike_59 : decode cX5_areUnlike 59 = .ok (.if_icmp .eq 7, 3) := by decide +kernel
theorem dX5_areUnlike_62 : decode cX5_areUnlike 62 = .ok (.iconst 1, 1) := by decide +kernel
theorem dX5_areUnlike_63 : decode cX5_areUnlike 63 = .ok (.goto 4, 3) := by decide +kernel
theorem dX5_areUnlike_66 : decode cX5_areUnlike 66 = .ok (.iconst 0, 1) := by decide +kernel
theorem dX5_areUnlike_67 : decode cX5_areUnlike 67 = .ok (.istore 4, 2) := by decide +kernel
theorem dX5_areUnlike_69 : decode cX5_areUnlike 69 = .ok (.iinc 5 1, 3) := by decide +kernel
theorem dX5_areUnlike_72 : decode cX5_areUnlike 72 = .ok (.goto (-52), 3) := by decide +kernel
theorem dX5_areUnlike_75 : decode cX5_areUnlike 75 = .ok (.iload 4, 2) := by decide +kernel
theorem dX5_areUnlike_77 : decode cX5_areUnlike 77 = .ok (.ireturn, 1) := by decide +kernel
theorem dX5_findQuarrel_0 : decode cX5_findQuarrel 0 = .ok (.iconst 0, 1) := by decide +kernel
theorem dX5_findQuarrel_1 : decode cX5_findQuarrel 1 = .ok (.istore_n 1, 1) := by decide +kernel
theorem dX5_findQuarrel_2 : decode cX5_findQuarrel 2 = .ok (.iload_n 1, 1) := by decide +kernel
theorem dX5_findQuarrel_3 : decode cX5_findQuarrel 3 = .ok (.aload_n 0, 1) := by decide +kernel
theorem dX5_findQuarrel_4 : decode cX5_findQuarrel 4 = .ok (.getfield 56, 3) := by decide +kernel
theorem dX5_findQuarrel_7 : decode cX5_findQuarrel 7 = .ok (.if_icmp .ge 43, 3) := by decide +kernel
theorem dX5_findQuarrel_10 : decode cX5_findQuarrel 10 = .ok (.iload_n 1, 1) := by decide +kernel
theorem dX5_findQuarrel_11 : decode cX5_findQuarrel 11 = .ok (.iconst 1, 1) := by decide +kernel
theorem dX5_findQuarrel_12 : decode cX5_findQuarrel 12 = .ok (.iadd, 1) := by decide +kernel
theorem dX5_findQuarrel_13 : decode cX5_findQuarrel 13 = .ok (.istore_n 2, 1) := by decide +kernel
theorem dX5_findQuarrel_14 : decode cX5_findQuarrel 14 = .ok (.iload_n 2, 1) := by decide +kernel
theorem dX5_findQuarrel_15 : decode cX5_findQuarrel 15 = .ok (.aload_n 0, 1) := by decide +kernel
theorem dX5_findQuarrel_16 : decode cX5_findQuarrel 16 = .ok (.getfield 56, 3) := by decide +kernel
theorem dX5_findQuarrel_19 : decode cX5_findQuarrel 19 = .ok (.if_icmp .ge 25, 3) := by decide +kernel
theorem dX5_findQuarrel_22 : decode cX5_findQuarrel 22 = .ok (.aload_n 0, 1) := by decide +kernel
theorem dX5_findQuarrel_23 : decode cX5_findQuarrel 23 = .ok (.iload_n 1, 1) := by decide +kernel
theorem dX5_findQuarrel_24 : decode cX5_findQuarrel 24 = .ok (.iload_n 2, 1) := by decide +kernel
theorem dX5_findQuarrel_25 : decode cX5_findQuarrel 25 = .ok (.invokevirtual 100, 3) := by decide +kernel
theorem dX5_findQuarrel_28 : decode cX5_findQuarrel 28 = .ok (.ifCond .eq 10, 3) := by decide +kernel
theorem dX5_findQuarrel_31 : decode cX5_findQuarrel 31 = .ok (.bipush 8, 2) := by decide +kernel
theorem dX5_findQuarrel_33 : decode cX5_findQuarrel 33 = .ok (.iload_n 1, 1) := by decide +kernel
theorem dX5_findQuarrel_34 : decode cX5_findQuarrel 34 = .ok (.imul, 1) := by decide +kernel
theorem dX5_findQuarrel_35 : decode cX5_findQuarrel 35 = .ok (.iload_n 2, 1) := by decide +kernel
theorem dX5_findQuarrel_36 : decode cX5_findQuarrel 36 = .ok (.iadd, 1) := by decide +kernel
theorem dX5_findQuarrel_37 : decode cX5_findQuarrel 37 = .ok (.ireturn, 1) := by decide +kernel
theorem dX5_findQuarrel_38 : decode cX5_findQuarrel 38 = .ok (.iinc 2 1, 3) := by decide +kernel
theorem dX5_findQuarrel_41 : decode cX5_findQuarrel 41 = .ok (.goto (-27), 3) := by decide +kernel
theorem dX5_findQuarrel_44 : decode cX5_findQuarrel 44 = .ok (.iinc 1 1, 3) := by decide +kernel
theorem dX5_findQuarrel_47 : decode cX5_findQuarrel 47 = .ok (.goto (-45), 3) := by decide +kernel
theorem dX5_findQuarrel_50 : decode cX5_findQuarrel 50 = .ok (.bipush (-4), 2) := by decide +kernel
theorem dX5_findQuarrel_52 : decode cX5_findQuarrel 52 = .ok (.ireturn, 1) := by decide +kernel
theorem dX5_agrees_0 : decode cX5_agrees 0 = .ok (.aload_n 0, 1) := by decide +kernel
theorem dX5_agrees_1 : decode cX5_agrees 1 = .ok (.getfield 56, 3) := by decide +kernel
theorem dX5_agrees_4 : decode cX5_agrees 4 = .ok (.ifCond .ne 8, 3) := by decide +kernel
theorem dX5_agrees_7 : decode cX5_agrees 7 = .ok (.bipush (-2), 2) := by decide +kernel
theorem dX5_agrees_9 : decode cX5_agrees 9 = .ok (.goto 17, 3) := by decide +kernel
theorem dX5_agrees_12 : decode cX5_agrees 12 = .ok (.aload_n 0, 1) := by decide +kernel
theorem dX5_agrees_13 : decode cX5_agrees 13 = .ok (.invokevirtual 103, 3) := by decide +kernel
theorem dX5_agrees_16 : decode cX5_agrees 16 = .ok (.bipush (-4), 2) := by decide +kernel
theorem dX5_agrees_18 : decode cX5_agrees 18 = .ok (.if_icmp .ne 7, 3) := by decide +kernel
theorem dX5_agrees_21 : decode cX5_agrees 21 = .ok (.iconst 1, 1) := by decide +kernel
theorem dX5_agrees_22 : decode cX5_agrees 22 = .ok (.goto 4, 3) := by decide +kernel
theorem dX5_agrees_25 : decode cX5_agrees 25 = .ok (.iconst 0, 1) := by decide +kernel
theorem dX5_agrees_26 : decode cX5_agrees 26 = .ok (.ireturn, 1) := by decide +kernel
theorem dX5_quarrel_0 : decode cX5_quarrel 0 = .ok (.aload_n 0, 1) := by decide +kernel
theorem dX5_quarrel_1 : decode cX5_quarrel 1 = .ok (.getfield 56, 3) := by decide +kernel
theorem dX5_quarrel_4 : decode cX5_quarrel 4 = .ok (.ifCond .ne 8, 3) := by decide +kernel
theorem dX5_quarrel_7 : decode cX5_quarrel 7 = .ok (.bipush (-2), 2) := by decide +kernel
theorem dX5_quarrel_9 : decode cX5_quarrel 9 = .ok (.goto 7, 3) := by decide +kernel
theorem dX5_quarrel_12 : decode cX5_quarrel 12 = .ok (.aload_n 0, 1) := by decide +kernel
theorem dX5_quarrel_13 : decode cX5_quarrel 13 = .ok (.invokevirtual 103, 3) := by decide +kernel
theorem dX5_quarrel_16 : decode cX5_quarrel 16 = .ok (.ireturn, 1) := by decide +kernel
theorem dX5_isPossible_0 : decode cX5_isPossible 0 = .ok (.iconst 1, 1) := by decide +kernel
theorem dX5_isPossible_1 : decode cX5_isPossible 1 = .ok (.istore_n 2, 1) := by decide +kernel
theorem dX5_isPossible_2 : decode cX5_isPossible 2 = .ok (.iconst 0, 1) := by decide +kernel
theorem dX5_isPossible_3 : decode cX5_isPossible 3 = .ok (.istore_n 3, 1) := by decide +kernel
theorem dX5_isPossible_4 : decode cX5_isPossible 4 = .ok (.iload_n 3, 1) := by decide +kernel
theorem dX5_isPossible_5 : decode cX5_isPossible 5 = .ok (.aload_n 0, 1) := by decide +kernel
theorem dX5_isPossible_6 : decode cX5_isPossible 6 = .ok (.getfield 56, 3) := by decide +kernel
theorem dX5_isPossible_9 : decode cX5_isPossible 9 = .ok (.if_icmp .ge 38, 3) := by decide +kernel
theorem dX5_isPossible_12 : decode cX5_isPossible 12 = .ok (.iload_n 2, 1) := by decide +kernel
theorem dX5_isPossible_13 : decode cX5_isPossible 13 = .ok (.ifCond .eq 26, 3) := by decide +kernel
theorem dX5_isPossible_16 : decode cX5_isPossible 16 = .ok (.aload_n 0, 1) := by decide +kernel
theorem dX5_isPossible_17 : decode cX5_isPossible 17 = .ok (.getfield 20, 3) := by decide +kernel
theorem dX5_isPossible_20 : decode cX5_isPossible 20 = .ok (.bipush 8, 2) := by decide +kernel
theorem dX5_isPossible_22 : decode cX5_isPossible 22 = .ok (.iload_n 3, 1) := by decide +kernel
theorem dX5_isPossible_23 : decode cX5_isPossible 23 = .ok (.imul, 1) := by decide +kernel
theorem dX5_isPossible_24 : decode cX5_isPossible 24 = .ok (.aload_n 0, 1) := by decide +kernel
theorem dX5_isPossible_25 : decode cX5_isPossible 25 = .ok (.iload_n 3, 1) := by decide +kernel
theorem dX5_isPossible_26 : decode cX5_isPossible 26 = .ok (.iload_n 1, 1) := by decide +kernel
theorem dX5_isPossible_27 : decode cX5_isPossible 27 = .ok (.invokevirtual 92, 3) := by decide +kernel
theorem dX5_isPossible_30 : decode cX5_isPossible 30 = .ok (.iadd, 1) := by decide +kernel
theorem dX5_isPossible_31 : decode cX5_isPossible 31 = .ok (.iaload, 1) := by decide +kernel
theorem dX5_isPossible_32 : decode cX5_isPossible 32 = .ok (.ifCond .le 7, 3) := by decide +kernel
theorem dX5_isPossible_35 : decode cX5_isPossible 35 = .ok (.iconst 1, 1) := by decide +kernel
theorem dX5_isPossible_36 : decode cX5_isPossible 36 = .ok (.goto 4, 3) := by decide +kernel
theorem dX5_isPossible_39 : decode cX5_isPossible 39 = .ok (.iconst 0, 1) := by decide +kernel
theorem dX5_isPossible_40 : decode cX5_isPossible 40 = .ok (.istore_n 2, 1) := by decide +kernel
theorem dX5_isPossible_41 : decode cX5_isPossible 41 = .ok (.iinc 3 1, 3) := by decide +kernel
theorem dX5_isPossible_44 : decode cX5_isPossible 44 = .ok (.goto (-40), 3) := by decide +kernel
theorem dX5_isPossible_47 : decode cX5_isPossible 47 = .ok (.iload_n 2, 1) := by decide +kernel
theorem dX5_isPossible_48 : decode cX5_isPossible 48 = .ok (.ireturn, 1) := by decide +kernel
theorem dX5_possible_0 : decode cX5_possible 0 = .ok (.iload_n 1, 1) := by decide +kernel
theorem dX5_possible_1 : decode cX5_possible 1 = .ok (.i2l, 1) := by decide +kernel
theorem dX5_possible_2 : decode cX5_possible 2 = .ok (.lconst 0, 1) := by decide +kernel
theorem dX5_possible_3 : decode cX5_possible 3 = .ok (.lconst 1, 1) := by decide +kernel
theorem dX5_possible_4 : decode cX5_possible 4 = .ok (.invokestatic 59, 3) := by decide +kernel
theorem dX5_possible_7 : decode cX5_possible 7 = .ok (.ifCond .ne 5, 3) := by decide +kernel
theorem dX5_possible_10 : decode cX5_possible 10 = .ok (.iconst (-1), 1) := by decide +kernel
theorem dX5_possible_11 : decode cX5_possible 11 = .ok (.ireturn, 1) := by decide +kernel
theorem dX5_possible_12 : decode cX5_possible 12 = .ok (.aload_n 0, 1) := by decide +kernel
theorem dX5_possible_13 : decode cX5_possible 13 = .ok (.getfield 56, 3) := by decide +kernel
theorem dX5_possible_16 : decode cX5_possible 16 = .ok (.ifCond .ne 6, 3) := by decide +kernel
theorem dX5_possible_19 : decode cX5_possible 19 = .ok (.bipush (-2), 2) := by decide +kernel
theorem dX5_possible_21 : decode cX5_possible 21 = .ok (.ireturn, 1) := by decide +kernel
theorem dX5_possible_22 : decode cX5_possible 22 = .ok (.iconst 0, 1) := by decide +kernel
theorem dX5_possible_23 : decode cX5_possible 23 = .ok (.istore_n 2, 1) := by decide +kernel
theorem dX5_possible_24 : decode cX5_possible 24 = .ok (.bipush (-4), 2) := by decide +kernel
theorem dX5_possible_26 : decode cX5_possible 26 = .ok (.istore_n 3, 1) := by decide +kernel
theorem dX5_possible_27 : decode cX5_possible 27 = .ok (.iconst 0, 1) := by decide +kernel
theorem dX5_possible_28 : decode cX5_possible 28 = .ok (.istore 4, 2) := by decide +kernel
theorem dX5_possible_30 : decode cX5_possible 30 = .ok (.iload 4, 2) := by decide +kernel
theorem dX5_possible_32 : decode cX5_possible 32 = .ok (.aload_n 0, 1) := by decide +kernel
theorem dX5_possible_33 : decode cX5_possible 33 = .ok (.invokevirtual 88, 3) := by decide +kernel
theorem dX5_possible_36 : decode cX5_possible 36 = .ok (.if_icmp .ge 34, 3) := by decide +kernel
theorem dX5_possible_39 : decode cX5_possible 39 = .ok (.aload_n 0, 1) := by decide +kernel
theorem dX5_possible_40 : decode cX5_possible 40 = .ok (.iload 4, 2) := by decide +kernel
theorem dX5_possible_42 : decode cX5_possible 42 = .ok (.invokevirtual 106, 3) := by decide +kernel
theorem dX5_possible_45 : decode cX5_possible 45 = .ok (.ifCond .eq 19, 3) := by decide +kernel
theorem dX5_possible_48 : decode cX5_possible 48 = .ok (.iinc 2 1, 3) := by decide +kernel
theorem dX5_possible_51 : decode cX5_possible 51 = .ok (.iload_n 3, 1) := by decide +kernel
theorem dX5_possible_52 : decode cX5_possible 52 = .ok (.bipush (-4), 2) := by decide +kernel
theorem dX5_possible_54 : decode cX5_possible 54 = .ok (.if_icmp .ne 8, 3) := by decide +kernel
theorem dX5_possible_57 : decode cX5_possible 57 = .ok (.iload 4, 2) := by decide +kernel
theorem dX5_possible_59 : decode cX5_possible 59 = .ok (.goto 4, 3) := by decide +kernel
theorem dX5_possible_62 : decode cX5_possible 62 = .ok (.iload_n 3, 1) := by decide +kernel
theorem dX5_possible_63 : decode cX5_possible 63 = .ok (.istore_n 3, 1) := by decide +kernel
theorem dX5_possible_64 : decode cX5_possible 64 = .ok (.iinc 4 1, 3) := by decide +kernel
theorem dX5_possible_67 : decode cX5_possible 67 = .ok (.goto (-37), 3) := by decide +kernel
theorem dX5_possible_70 : decode cX5_possible 70 = .ok (.iload_n 1, 1) := by decide +kernel
theorem dX5_possible_71 : decode cX5_possible 71 = .ok (.ifCond .ne 7, 3) := by decide +kernel
theorem dX5_possible_74 : decode cX5_possible 74 = .ok (.iload_n 2, 1) := by decide +kernel
theorem dX5_possible_75 : decode cX5_possible 75 = .ok (.goto 4, 3) := by decide +kernel
theorem dX5_possible_78 : decode cX5_possible 78 = .ok (.iload_n 3, 1) := by decide +kernel
theorem dX5_possible_79 : decode cX5_possible 79 = .ok (.ireturn, 1) := by decide +kernel
theorem dX5_isLost_0 : decode cX5_isLost 0 = .ok (.aload_n 0, 1) := by decide +kernel
theorem dX5_isLost_1 : decode cX5_isLost 1 = .ok (.getfield 20, 3) := by decide +kernel
theorem dX5_isLost_4 : decode cX5_isLost 4 = .ok (.bipush 8, 2) := by decide +kernel
theorem dX5_isLost_6 : decode cX5_isLost 6 = .ok (.iload_n 1, 1) := by decide +kernel
theorem dX5_isLost_7 : decode cX5_isLost 7 = .ok (.imul, 1) := by decide +kernel
theorem dX5_isLost_8 : decode cX5_isLost 8 = .ok (.iload_n 2, 1) := by decide +kernel
theorem dX5_isLost_9 : decode cX5_isLost 9 = .ok (.iadd, 1) := by decide +kernel
theorem dX5_isLost_10 : decode cX5_isLost 10 = .ok (.iaload, 1) := by decide +kernel
theorem dX5_isLost_11 : decode cX5_isLost 11 = .ok (.ifCond .le 7, 3) := by decide +kernel
theorem dX5_isLost_14 : decode cX5_isLost 14 = .ok (.iconst 1, 1) := by decide +kernel
theorem dX5_isLost_15 : decode cX5_isLost 15 = .ok (.goto 4, 3) := by decide +kernel
theorem dX5_isLost_18 : decode cX5_isLost 18 = .ok (.iconst 0, 1) := by decide +kernel
theorem dX5_isLost_19 : decode cX5_isLost 19 = .ok (.istore_n 3, 1) := by decide +kernel
theorem dX5_isLost_20 : decode cX5_isLost 20 = .ok (.iconst 0, 1) := by decide +kernel
theorem dX5_isLost_21 : decode cX5_isLost 21 = .ok (.istore 4, 2) := by decide +kernel
theorem dX5_isLost_23 : decode cX5_isLost 23 = .ok (.iload 4, 2) := by decide +kernel
theorem dX5_isLost_25 : decode cX5_isLost 25 = .ok (.aload_n 0, 1) := by decide +kernel
theorem dX5_isLost_26 : decode cX5_isLost 26 = .ok (.invokevirtual 88, 3) := by decide +kernel
theorem dX5_isLost_29 : decode cX5_isLost 29 = .ok (.if_icmp .ge 39, 3) := by decide +kernel
theorem dX5_isLost_32 : decode cX5_isLost 32 = .ok (.iload_n 3, 1) := by decide +kernel
theorem dX5_isLost_33 : decode cX5_isLost 33 = .ok (.ifCond .eq 35, 3) := by decide +kernel
theorem dX5_isLost_36 : decode cX5_isLost 36 = .ok (.aload_n 0, 1) := by decide +kernel
theorem dX5_isLost_37 : decode cX5_isLost 37 = .ok (.iload_n 1, 1) := by decide +kernel
theorem dX5_isLost_38 : decode cX5_isLost 38 = .ok (.iload 4, 2) := by decide +kernel
theorem dX5_isLost_40 : decode cX5_isLost 40 = .ok (.invokevirtual 92, 3) := by decide +kernel
theorem dX5_isLost_43 : decode cX5_isLost 43 = .ok (.iload_n 2, 1) := by decide +kernel
theorem dX5_isLost_44 : decode cX5_isLost 44 = .ok (.if_icmp .ne 12, 3) := by decide +kernel
theorem dX5_isLost_47 : decode cX5_isLost 47 = .ok (.aload_n 0, 1) := by decide +kernel
theorem dX5_isLost_48 : decode cX5_isLost 48 = .ok (.iload 4, 2) := by decide +kernel
theorem dX5_isLost_50 : decode cX5_isLost 50 = .ok (.invokevirtual 106, 3) := by decide +kernel
theorem dX5_isLost_53 : decode cX5_isLost 53 = .ok (.ifCond .ne 7, 3) := by decide +kernel
theorem dX5_isLost_56 : decode cX5_isLost 56 = .ok (.iconst 1, 1) := by decide +kernel
theorem dX5_isLost_57 : decode cX5_isLost 57 = .ok (.goto 4, 3) := by decide +kernel
theorem dX5_isLost_60 : decode cX5_isLost 60 = .ok (.iconst 0, 1) := by decide +kernel
theorem dX5_isLost_61 : decode cX5_isLost 61 = .ok (.istore_n 3, 1) := by decide +kernel
theorem dX5_isLost_62 : decode cX5_isLost 62 = .ok (.iinc 4 1, 3) := by decide +kernel
theorem dX5_isLost_65 : decode cX5_isLost 65 = .ok (.goto (-42), 3) := by decide +kernel
theorem dX5_isLost_68 : decode cX5_isLost 68 = .ok (.iload_n 3, 1) := by decide +kernel
theorem dX5_isLost_69 : decode cX5_isLost 69 = .ok (.ireturn, 1) := by decide +kernel
theorem dX5_lost_0 : decode cX5_lost 0 = .ok (.iload_n 1, 1) := by decide +kernel
theorem dX5_lost_1 : decode cX5_lost 1 = .ok (.i2l, 1) := by decide +kernel
theorem dX5_lost_2 : decode cX5_lost 2 = .ok (.lconst 0, 1) := by decide +kernel
theorem dX5_lost_3 : decode cX5_lost 3 = .ok (.lconst 1, 1) := by decide +kernel
theorem dX5_lost_4 : decode cX5_lost 4 = .ok (.invokestatic 59, 3) := by decide +kernel
theorem dX5_lost_7 : decode cX5_lost 7 = .ok (.ifCond .ne 5, 3) := by decide +kernel
theorem dX5_lost_10 : decode cX5_lost 10 = .ok (.iconst (-1), 1) := by decide +kernel
theorem dX5_lost_11 : decode cX5_lost 11 = .ok (.ireturn, 1) := by decide +kernel
theorem dX5_lost_12 : decode cX5_lost 12 = .ok (.aload_n 0, 1) := by decide +kernel
theorem dX5_lost_13 : decode cX5_lost 13 = .ok (.getfield 56, 3) := by decide +kernel
theorem dX5_lost_16 : decode cX5_lost 16 = .ok (.ifCond .ne 6, 3) := by decide +kernel
theorem dX5_lost_19 : decode cX5_lost 19 = .ok (.bipush (-2), 2) := by decide +kernel
theorem dX5_lost_21 : decode cX5_lost 21 = .ok (.ireturn, 1) := by decide +kernel
theorem dX5_lost_22 : decode cX5_lost 22 = .ok (.iconst 0, 1) := by decide +kernel
theorem dX5_lost_23 : decode cX5_lost 23 = .ok (.istore_n 2, 1) := by decide +kernel
theorem dX5_lost_24 : decode cX5_lost 24 = .ok (.bipush (-4), 2) := by decide +kernel
theorem dX5_lost_26 : decode cX5_lost 26 = .ok (.istore_n 3, 1) := by decide +kernel
theorem dX5_lost_27 : decode cX5_lost 27 = .ok (.iconst 0, 1) := by decide +kernel
theorem dX5_lost_28 : decode cX5_lost 28 = .ok (.istore 4, 2) := by decide +kernel
theorem dX5_lost_30 : decode cX5_lost 30 = .ok (.iload 4, 2) := by decide +kernel
theorem dX5_lost_32 : decode cX5_lost 32 = .ok (.bipush 8, 2) := by decide +kernel
theorem dX5_lost_34 : decode cX5_lost 34 = .ok (.aload_n 0, 1) := by decide +kernel
theorem dX5_lost_35 : decode cX5_lost 35 = .ok (.getfield 56, 3) := by decide +kernel
theorem dX5_lost_38 : decode cX5_lost 38 = .ok (.imul, 1) := by decide +kernel
theorem dX5_lost_39 : decode cX5_lost 39 = .ok (.if_icmp .ge 42, 3) := by decide +kernel
theorem dX5_lost_42 : decode cX5_lost 42 = .ok (.aload_n 0, 1) := by decide +kernel
theorem dX5_lost_43 : decode cX5_lost 43 = .ok (.iload 4, 2) := by decide +kernel
theorem dX5_lost_45 : decode cX5_lost 45 = .ok (.bipush 8, 2) := by decide +kernel
theorem dX5_lost_47 : decode cX5_lost 47 = .ok (.idiv, 1) := by decide +kernel
theorem dX5_lost_48 : decode cX5_lost 48 = .ok (.iload 4, 2) := by decide +kernel
theorem dX5_lost_50 : decode cX5_lost 50 = .ok (.bipush 8, 2) := by decide +kernel
theorem dX5_lost_52 : decode cX5_lost 52 = .ok (.irem, 1) := by decide +kernel
theorem dX5_lost_53 : decode cX5_lost 53 = .ok (.invokevirtual 109, 3) := by decide +kernel
theorem dX5_lost_56 : decode cX5_lost 56 = .ok (.ifCond .eq 19, 3) := by decide +kernel
theorem dX5_lost_59 : decode cX5_lost 59 = .ok (.iinc 2 1, 3) := by decide +kernel
theorem dX5_lost_62 : decode cX5_lost 62 = .ok (.iload_n 3, 1) := by decide +kernel
theorem dX5_lost_63 : decode cX5_lost 63 = .ok (.bipush (-4), 2) := by decide +kernel
theorem dX5_lost_65 : decode cX5_lost 65 = .ok (.if_icmp .ne 8, 3) := by decide +kernel
theorem dX5_lost_68 : decode cX5_lost 68 = .ok (.iload 4, 2) := by decide +kernel
theorem dX5_lost_70 : decode cX5_lost 70 = .ok (.goto 4, 3) := by decide +kernel
theorem dX5_lost_73 : decode cX5_lost 73 = .ok (.iload_n 3, 1) := by decide +kernel
theorem dX5_lost_74 : decode cX5_lost 74 = .ok (.istore_n 3, 1) := by decide +kernel
theorem dX5_lost_75 : decode cX5_lost 75 = .ok (.iinc 4 1, 3) := by decide +kernel
theorem dX5_lost_78 : decode cX5_lost 78 = .ok (.goto (-48), 3) := by decide +kernel
theorem dX5_lost_81 : decode cX5_lost 81 = .ok (.iload_n 1, 1) := by decide +kernel
theorem dX5_lost_82 : decode cX5_lost 82 = .ok (.ifCond .ne 7, 3) := by decide +kernel
theorem dX5_lost_85 : decode cX5_lost 85 = .ok (.iload_n 2, 1) := by decide +kernel
theorem dX5_lost_86 : decode cX5_lost 86 = .ok (.goto 4, 3) := by decide +kernel
theorem dX5_lost_89 : decode cX5_lost 89 = .ok (.iload_n 3, 1) := by decide +kernel
theorem dX5_lost_90 : decode cX5_lost 90 = .ok (.ireturn, 1) := by decide +kernel
theorem dX5_stakeOf_0 : decode cX5_stakeOf 0 = .ok (.iconst 0, 1) := by decide +kernel
theorem dX5_stakeOf_1 : decode cX5_stakeOf 1 = .ok (.istore_n 2, 1) := by decide +kernel
theorem dX5_stakeOf_2 : decode cX5_stakeOf 2 = .ok (.iconst 0, 1) := by decide +kernel
theorem dX5_stakeOf_3 : decode cX5_stakeOf 3 = .ok (.istore_n 3, 1) := by decide +kernel
theorem dX5_stakeOf_4 : decode cX5_stakeOf 4 = .ok (.iload_n 3, 1) := by decide +kernel
theorem dX5_stakeOf_5 : decode cX5_stakeOf 5 = .ok (.aload_n 0, 1) := by decide +kernel
theorem dX5_stakeOf_6 : decode cX5_stakeOf 6 = .ok (.getfield 56, 3) := by decide +kernel
theorem dX5_stakeOf_9 : decode cX5_stakeOf 9 = .ok (.if_icmp .ge 28, 3) := by decide +kernel
theorem dX5_stakeOf_12 : decode cX5_stakeOf 12 = .ok (.iload_n 2, 1) := by decide +kernel
theorem dX5_stakeOf_13 : decode cX5_stakeOf 13 = .ok (.aload_n 0, 1) := by decide +kernel
theorem dX5_stakeOf_14 : decode cX5_stakeOf 14 = .ok (.getfield 23, 3) := by decide +kernel
theorem dX5_stakeOf_17 : decode cX5_stakeOf 17 = .ok (.bipush 8, 2) := by decide +kernel
theorem dX5_stakeOf_19 : decode cX5_stakeOf 19 = .ok (.iload_n 3, 1) := by decide +kernel
theorem dX5_stakeOf_20 : decode cX5_stakeOf 20 = .ok (.imul, 1) := by decide +kernel
theorem dX5_stakeOf_21 : decode cX5_stakeOf 21 = .ok (.aload_n 0, 1) := by decide +kernel
theorem dX5_stakeOf_22 : decode cX5_stakeOf 22 = .ok (.iload_n 3, 1) := by decide +kernel
theorem dX5_stakeOf_23 : decode cX5_stakeOf 23 = .ok (.iload_n 1, 1) := by decide +kernel
theorem dX5_stakeOf_24 : decode cX5_stakeOf 24 = .ok (.invokevirtual 92, 3) := by decide +kernel
theorem dX5_stakeOf_27 : decode cX5_stakeOf 27 = .ok (.iadd, 1) := by decide +kernel
theorem dX5_stakeOf_28 : decode cX5_stakeOf 28 = .ok (.iaload, 1) := by decide +kernel
theorem dX5_stakeOf_29 : decode cX5_stakeOf 29 = .ok (.iadd, 1) := by decide +kernel
theorem dX5_stakeOf_30 : decode cX5_stakeOf 30 = .ok (.istore_n 2, 1) := by decide +kernel
theorem dX5_stakeOf_31 : decode cX5_stakeOf 31 = .ok (.iinc 3 1, 3) := by decide +kernel
theorem dX5_stakeOf_34 : decode cX5_stakeOf 34 = .ok (.goto (-30), 3) := by decide +kernel
theorem dX5_stakeOf_37 : decode cX5_stakeOf 37 = .ok (.iload_n 2, 1) := by decide +kernel
theorem dX5_stakeOf_38 : decode cX5_stakeOf 38 = .ok (.ireturn, 1) := by decide +kernel
theorem dX5_bestOf_0 : decode cX5_bestOf 0 = .ok (.iconst 0, 1) := by decide +kernel
theorem dX5_bestOf_1 : decode cX5_bestOf 1 = .ok (.istore_n 1, 1) := by decide +kernel
theorem dX5_bestOf_2 : decode cX5_bestOf 2 = .ok (.iconst 1, 1) := by decide +kernel
theorem dX5_bestOf_3 : decode cX5_bestOf 3 = .ok (.istore_n 2, 1) := by decide +kernel
theorem dX5_bestOf_4 : decode cX5_bestOf 4 = .ok (.iload_n 2, 1) := by decide +kernel
theorem dX5_bestOf_5 : decode cX5_bestOf 5 = .ok (.aload_n 0, 1) := by decide +kernel
theorem dX5_bestOf_6 : decode cX5_bestOf 6 = .ok (.invokevirtual 88, 3) := by decide +kernel
theorem dX5_bestOf_9 : decode cX5_bestOf 9 = .ok (.if_icmp .ge 28, 3) := by decide +kernel
theorem dX5_bestOf_12 : decode cX5_bestOf 12 = .ok (.aload_n 0, 1) := by decide +kernel
theorem dX5_bestOf_13 : decode cX5_bestOf 13 = .ok (.iload_n 2, 1) := by decide +kernel
theorem dX5_bestOf_14 : decode cX5_bestOf 14 = .ok (.invokevirtual 112, 3) := by decide +kernel
theorem dX5_bestOf_17 : decode cX5_bestOf 17 = .ok (.aload_n 0, 1) := by decide +kernel
theorem dX5_bestOf_18 : decode cX5_bestOf 18 = .ok (.iload_n 1, 1) := by decide +kernel
theorem dX5_bestOf_19 : decode cX5_bestOf 19 = .ok (.invokevirtual 112, 3) := by decide +kernel
theorem dX5_bestOf_22 : decode cX5_bestOf 22 = .ok (.if_icmp .le 7, 3) := by decide +kernel
theorem dX5_bestOf_25 : decode cX5_bestOf 25 = .ok (.iload_n 2, 1) := by decide +kernel
theorem dX5_bestOf_26 : decode cX5_bestOf 26 = .ok (.goto 4, 3) := by decide +kernel
theorem dX5_bestOf_29 : decode cX5_bestOf 29 = .ok (.iload_n 1, 1) := by decide +kernel
theorem dX5_bestOf_30 : decode cX5_bestOf 30 = .ok (.istore_n 1, 1) := by decide +kernel
theorem dX5_bestOf_31 : decode cX5_bestOf 31 = .ok (.iinc 2 1, 3) := by decide +kernel
theorem dX5_bestOf_34 : decode cX5_bestOf 34 = .ok (.goto (-30), 3) := by decide +kernel
theorem dX5_bestOf_37 : decode cX5_bestOf 37 = .ok (.iload_n 1, 1) := by decide +kernel
theorem dX5_bestOf_38 : decode cX5_bestOf 38 = .ok (.ireturn, 1) := by decide +kernel
theorem dX5_bound_0 : decode cX5_bound 0 = .ok (.aload_n 0, 1) := by decide +kernel
theorem dX5_bound_1 : decode cX5_bound 1 = .ok (.getfield 56, 3) := by decide +kernel
theorem dX5_bound_4 : decode cX5_bound 4 = .ok (.ifCond .ne 8, 3) := by decide +kernel
theorem dX5_bound_7 : decode cX5_bound 7 = .ok (.bipush (-2), 2) := by decide +kernel
theorem dX5_bound_9 : decode cX5_bound 9 = .ok (.goto 11, 3) := by decide +kernel
theorem dX5_bound_12 : decode cX5_bound 12 = .ok (.aload_n 0, 1) := by decide +kernel
theorem dX5_bound_13 : decode cX5_bound 13 = .ok (.aload_n 0, 1) := by decide +kernel
theorem dX5_bound_14 : decode cX5_bound 14 = .ok (.invokevirtual 115, 3) := by decide +kernel
theorem dX5_bound_17 : decode cX5_bound 17 = .ok (.invokevirtual 112, 3) := by decide +kernel
theorem dX5_bound_20 : decode cX5_bound 20 = .ok (.ireturn, 1) := by decide +kernel
theorem dX5_best_0 : decode cX5_best 0 = .ok (.aload_n 0, 1) := by decide +kernel
theorem dX5_best_1 : decode cX5_best 1 = .ok (.getfield 56, 3) := by decide +kernel
theorem dX5_best_4 : decode cX5_best 4 = .ok (.ifCond .ne 8, 3) := by decide +kernel
theorem dX5_best_7 : decode cX5_best 7 = .ok (.bipush (-2), 2) := by decide +kernel
theorem dX5_best_9 : decode cX5_best 9 = .ok (.goto 7, 3) := by decide +kernel
theorem dX5_best_12 : decode cX5_best 12 = .ok (.aload_n 0, 1) := by decide +kernel
theorem dX5_best_13 : decode cX5_best 13 = .ok (.invokevirtual 115, 3) := by decide +kernel
theorem dX5_best_16 : decode cX5_best 16 = .ok (.ireturn, 1) := by decide +kernel
theorem dX5_worthOf_0 : decode cX5_worthOf 0 = .ok (.iconst 0, 1) := by decide +kernel
theorem dX5_worthOf_1 : decode cX5_worthOf 1 = .ok (.istore_n 1, 1) := by decide +kernel
theorem dX5_worthOf_2 : decode cX5_worthOf 2 = .ok (.iconst 0, 1) := by decide +kernel
theorem dX5_worthOf_3 : decode cX5_worthOf 3 = .ok (.istore_n 2, 1) := by decide +kernel
theorem dX5_worthOf_4 : decode cX5_worthOf 4 = .ok (.iload_n 2, 1) := by decide +kernel
theorem dX5_worthOf_5 : decode cX5_worthOf 5 = .ok (.bipush 8, 2) := by decide +kernel
theorem dX5_worthOf_7 : decode cX5_worthOf 7 = .ok (.aload_n 0, 1) := by decide +kernel
theorem dX5_worthOf_8 : decode cX5_worthOf 8 = .ok (.getfield 56, 3) := by decide +kernel
theorem dX5_worthOf_11 : decode cX5_worthOf 11 = .ok (.imul, 1) := by decide +kernel
theorem dX5_worthOf_12 : decode cX5_worthOf 12 = .ok (.if_icmp .ge 25, 3) := by decide +kernel
theorem dX5_worthOf_15 : decode cX5_worthOf 15 = .ok (.iload_n 1, 1) := by decide +kernel
theorem dX5_worthOf_16 : decode cX5_worthOf 16 = .ok (.aload_n 0, 1) := by decide +kernel
theorem dX5_worthOf_17 : decode cX5_worthOf 17 = .ok (.getfield 23, 3) := by decide +kernel
theorem dX5_worthOf_20 : decode cX5_worthOf 20 = .ok (.iload_n 2, 1) := by decide +kernel
theorem dX5_worthOf_21 : decode cX5_worthOf 21 = .ok (.iaload, 1) := by decide +kernel
theorem dX5_worthOf_22 : decode cX5_worthOf 22 = .ok (.aload_n 0, 1) := by decide +kernel
theorem dX5_worthOf_23 : decode cX5_worthOf 23 = .ok (.getfield 20, 3) := by decide +kernel
theorem dX5_worthOf_26 : decode cX5_worthOf 26 = .ok (.iload_n 2, 1) := by decide +kernel
theorem dX5_worthOf_27 : decode cX5_worthOf 27 = .ok (.iaload, 1) := by decide +kernel
theorem dX5_worthOf_28 : decode cX5_worthOf 28 = .ok (.imul, 1) := by decide +kernel
theorem dX5_worthOf_29 : decode cX5_worthOf 29 = .ok (.iadd, 1) := by decide +kernel
theorem dX5_worthOf_30 : decode cX5_worthOf 30 = .ok (.istore_n 1, 1) := by decide +kernel
theorem dX5_worthOf_31 : decode cX5_worthOf 31 = .ok (.iinc 2 1, 3) := by decide +kernel
theorem dX5_worthOf_34 : decode cX5_worthOf 34 = .ok (.goto (-30), 3) := by decide +kernel
theorem dX5_worthOf_37 : decode cX5_worthOf 37 = .ok (.iload_n 1, 1) := by decide +kernel
theorem dX5_worthOf_38 : decode cX5_worthOf 38 = .ok (.ireturn, 1) := by decide +kernel
theorem dX5_worth_0 : decode cX5_worth 0 = .ok (.aload_n 0, 1) := by decide +kernel
theorem dX5_worth_1 : decode cX5_worth 1 = .ok (.getfield 56, 3) := by decide +kernel
theorem dX5_worth_4 : decode cX5_worth 4 = .ok (.ifCond .ne 8, 3) := by decide +kernel
theorem dX5_worth_7 : decode cX5_worth 7 = .ok (.bipush (-2), 2) := by decide +kernel
theorem dX5_worth_9 : decode cX5_worth 9 = .ok (.goto 7, 3) := by decide +kernel
theorem dX5_worth_12 : decode cX5_worth 12 = .ok (.aload_n 0, 1) := by decide +kernel
theorem dX5_worth_13 : decode cX5_worth 13 = .ok (.invokevirtual 118, 3) := by decide +kernel
theorem dX5_worth_16 : decode cX5_worth 16 = .ok (.ireturn, 1) := by decide +kernel
theorem dX5_beyond_0 : decode cX5_beyond 0 = .ok (.aload_n 0, 1) := by decide +kernel
theorem dX5_beyond_1 : decode cX5_beyond 1 = .ok (.getfield 56, 3) := by decide +kernel
theorem dX5_beyond_4 : decode cX5_beyond 4 = .ok (.ifCond .ne 8, 3) := by decide +kernel
theorem dX5_beyond_7 : decode cX5_beyond 7 = .ok (.bipush (-2), 2) := by decide +kernel
theorem dX5_beyond_9 : decode cX5_beyond 9 = .ok (.goto 38, 3) := by decide +kernel
theorem dX5_beyond_12 : decode cX5_beyond 12 = .ok (.aload_n 0, 1) := by decide +kernel
theorem dX5_beyond_13 : decode cX5_beyond 13 = .ok (.invokevirtual 103, 3) := by decide +kernel
theorem dX5_beyond_16 : decode cX5_beyond 16 = .ok (.bipush (-4), 2) := by decide +kernel
theorem dX5_beyond_18 : decode cX5_beyond 18 = .ok (.if_icmp .ne 28, 3) := by decide +kernel
theorem dX5_beyond_21 : decode cX5_beyond 21 = .ok (.aload_n 0, 1) := by decide +kernel
theorem dX5_beyond_22 : decode cX5_beyond 22 = .ok (.invokevirtual 118, 3) := by decide +kernel
theorem dX5_beyond_25 : decode cX5_beyond 25 = .ok (.aload_n 0, 1) := by decide +kernel
theorem dX5_beyond_26 : decode cX5_beyond 26 = .ok (.aload_n 0, 1) := by decide +kernel
theorem dX5_beyond_27 : decode cX5_beyond 27 = .ok (.invokevirtual 115, 3) := by decide +kernel
theorem dX5_beyond_30 : decode cX5_beyond 30 = .ok (.invokevirtual 112, 3) := by decide +kernel
theorem dX5_beyond_33 : decode cX5_beyond 33 = .ok (.aload_n 0, 1) := by decide +kernel
theorem dX5_beyond_34 : decode cX5_beyond 34 = .ok (.iconst 0, 1) := by decide +kernel
theorem dX5_beyond_35 : decode cX5_beyond 35 = .ok (.invokevirtual 75, 3) := by decide +kernel
theorem dX5_beyond_38 : decode cX5_beyond 38 = .ok (.imul, 1) := by decide +kernel
theorem dX5_beyond_39 : decode cX5_beyond 39 = .ok (.if_icmp .le 7, 3) := by decide +kernel
theorem dX5_beyond_42 : decode cX5_beyond 42 = .ok (.iconst 1, 1) := by decide +kernel
theorem dX5_beyond_43 : decode cX5_beyond 43 = .ok (.goto 4, 3) := by decide +kernel
theorem dX5_beyond_46 : decode cX5_beyond 46 = .ok (.iconst 0, 1) := by decide +kernel
theorem dX5_beyond_47 : decode cX5_beyond 47 = .ok (.ireturn, 1) := by decide +kernel
theorem dX5_isPartable_0 : decode cX5_isPartable 0 = .ok (.aload_n 0, 1) := by decide +kernel
theorem dX5_isPartable_1 : decode cX5_isPartable 1 = .ok (.getfield 56, 3) := by decide +kernel
theorem dX5_isPartable_4 : decode cX5_isPartable 4 = .ok (.ifCond .le 32, 3) := by decide +kernel
theorem dX5_isPartable_7 : decode cX5_isPartable 7 = .ok (.aload_n 0, 1) := by decide +kernel
theorem dX5_isPartable_8 : decode cX5_isPartable 8 = .ok (.invokevirtual 103, 3) := by decide +kernel
theorem dX5_isPartable_11 : decode cX5_isPartable 11 = .ok (.bipush (-4), 2) := by decide +kernel
theorem dX5_isPartable_13 : decode cX5_isPartable 13 = .ok (.if_icmp .ne 23, 3) := by decide +kernel
theorem dX5_isPartable_16 : decode cX5_isPartable 16 = .ok (.aload_n 0, 1) := by decide +kernel
theorem dX5_isPartable_17 : decode cX5_isPartable 17 = .ok (.iconst 0, 1) := by decide +kernel
theorem dX5_isPartable_18 : decode cX5_isPartable 18 = .ok (.invokevirtual 75, 3) := by decide +kernel
theorem dX5_isPartable_21 : decode cX5_isPartable 21 = .ok (.i2l, 1) := by decide +kernel
theorem dX5_isPartable_22 : decode cX5_isPartable 22 = .ok (.lconst 1, 1) := by decide +kernel
theorem dX5_isPartable_23 : decode cX5_isPartable 23 = .ok (.ldc2_w 121, 3) := by decide +kernel
theorem dX5_isPartable_26 : decode cX5_isPartable 26 = .ok (.invokestatic 59, 3) := by decide +kernel
theorem dX5_isPartable_29 : decode cX5_isPartable 29 = .ok (.ifCond .eq 7, 3) := by decide +kernel
theorem dX5_isPartable_32 : decode cX5_isPartable 32 = .ok (.iconst 1, 1) := by decide +kernel
theorem dX5_isPartable_33 : decode cX5_isPartable 33 = .ok (.goto 4, 3) := by decide +kernel
theorem dX5_isPartable_36 : decode cX5_isPartable 36 = .ok (.iconst 0, 1) := by decide +kernel
theorem dX5_isPartable_37 : decode cX5_isPartable 37 = .ok (.ireturn, 1) := by decide +kernel
theorem dX5_canStand_0 : decode cX5_canStand 0 = .ok (.iconst 1, 1) := by decide +kernel
theorem dX5_canStand_1 : decode cX5_canStand 1 = .ok (.istore_n 2, 1) := by decide +kernel
theorem dX5_canStand_2 : decode cX5_canStand 2 = .ok (.iconst 0, 1) := by decide +kernel
theorem dX5_canStand_3 : decode cX5_canStand 3 = .ok (.istore_n 3, 1) := by decide +kernel
theorem dX5_canStand_4 : decode cX5_canStand 4 = .ok (.iload_n 3, 1) := by decide +kernel
theorem dX5_canStand_5 : decode cX5_canStand 5 = .ok (.aload_n 0, 1) := by decide +kernel
theorem dX5_canStand_6 : decode cX5_canStand 6 = .ok (.getfield 56, 3) := by decide +kernel
theorem dX5_canStand_9 : decode cX5_canStand 9 = .ok (.if_icmp .ge 38, 3) := by decide +kernel
theorem dX5_canStand_12 : decode cX5_canStand 12 = .ok (.iload_n 2, 1) := by decide +kernel
theorem dX5_canStand_13 : decode cX5_canStand 13 = .ok (.ifCond .eq 26, 3) := by decide +kernel
theorem dX5_canStand_16 : decode cX5_canStand 16 = .ok (.aload_n 0, 1) := by decide +kernel
theorem dX5_canStand_17 : decode cX5_canStand 17 = .ok (.getfield 26, 3) := by decide +kernel
theorem dX5_canStand_20 : decode cX5_canStand 20 = .ok (.bipush 8, 2) := by decide +kernel
theorem dX5_canStand_22 : decode cX5_canStand 22 = .ok (.iload_n 3, 1) := by decide +kernel
theorem dX5_canStand_23 : decode cX5_canStand 23 = .ok (.imul, 1) := by decide +kernel
theorem dX5_canStand_24 : decode cX5_canStand 24 = .ok (.aload_n 0, 1) := by decide +kernel
theorem dX5_canStand_25 : decode cX5_canStand 25 = .ok (.iload_n 3, 1) := by decide +kernel
theorem dX5_canStand_26 : decode cX5_canStand 26 = .ok (.iload_n 1, 1) := by decide +kernel
theorem dX5_canStand_27 : decode cX5_canStand 27 = .ok (.invokevirtual 92, 3) := by decide +kernel
theorem dX5_canStand_30 : decode cX5_canStand 30 = .ok (.iadd, 1) := by decide +kernel
theorem dX5_canStand_31 : decode cX5_canStand 31 = .ok (.iaload, 1) := by decide +kernel
theorem dX5_canStand_32 : decode cX5_canStand 32 = .ok (.ifCond .le 7, 3) := by decide +kernel
theorem dX5_canStand_35 : decode cX5_canStand 35 = .ok (.iconst 1, 1) := by decide +kernel
theorem dX5_canStand_36 : decode cX5_canStand 36 = .ok (.goto 4, 3) := by decide +kernel
theorem dX5_canStand_39 : decode cX5_canStand 39 = .ok (.iconst 0, 1) := by decide +kernel
theorem dX5_canStand_40 : decode cX5_canStand 40 = .ok (.istore_n 2, 1) := by decide +kernel
theorem dX5_canStand_41 : decode cX5_canStand 41 = .ok (.iinc 3 1, 3) := by decide +kernel
theorem dX5_canStand_44 : decode cX5_canStand 44 = .ok (.goto (-40), 3) := by decide +kernel
theorem dX5_canStand_47 : decode cX5_canStand 47 = .ok (.iload_n 2, 1) := by decide +kernel
theorem dX5_canStand_48 : decode cX5_canStand 48 = .ok (.ireturn, 1) := by decide +kernel
theorem dX5_stands_0 : decode cX5_stands 0 = .ok (.iconst 0, 1) := by decide +kernel
theorem dX5_stands_1 : decode cX5_stands 1 = .ok (.istore_n 3, 1) := by decide +kernel
theorem dX5_stands_2 : decode cX5_stands 2 = .ok (.iload_n 3, 1) := by decide +kernel
theorem dX5_stands_3 : decode cX5_stands 3 = .ok (.aload_n 0, 1) := by decide +kernel
theorem dX5_stands_4 : decode cX5_stands 4 = .ok (.getfield 56, 3) := by decide +kernel
theorem dX5_stands_7 : decode cX5_stands 7 = .ok (.if_icmp .ge 29, 3) := by decide +kernel
theorem dX5_stands_10 : decode cX5_stands 10 = .ok (.aload_n 0, 1) := by decide +kernel
theorem dX5_stands_11 : decode cX5_stands 11 = .ok (.getfield 26, 3) := by decide +kernel
theorem dX5_stands_14 : decode cX5_stands 14 = .ok (.bipush 8, 2) := by decide +kernel
theorem dX5_stands_16 : decode cX5_stands 16 = .ok (.iload_n 3, 1) := by decide +kernel
theorem dX5_stands_17 : decode cX5_stands 17 = .ok (.imul, 1) := by decide +kernel
theorem dX5_stands_18 : decode cX5_stands 18 = .ok (.aload_n 0, 1) := by decide +kernel
theorem dX5_stands_19 : decode cX5_stands 19 = .ok (.iload_n 3, 1) := by decide +kernel
theorem dX5_stands_20 : decode cX5_stands 20 = .ok (.iload_n 1, 1) := by decide +kernel
theorem dX5_stands_21 : decode cX5_stands 21 = .ok (.invokevirtual 92, 3) := by decide +kernel
theorem dX5_stands_24 : decode cX5_stands 24 = .ok (.iadd, 1) := by decide +kernel
theorem dX5_stands_25 : decode cX5_stands 25 = .ok (.dup2, 1) := by decide +kernel
theorem dX5_stands_26 : decode cX5_stands 26 = .ok (.iaload, 1) := by decide +kernel
theorem dX5_stands_27 : decode cX5_stands 27 = .ok (.iload_n 2, 1) := by decide +kernel
theorem dX5_stands_28 : decode cX5_stands 28 = .ok (.iadd, 1) := by decide +kernel
theorem dX5_stands_29 : decode cX5_stands 29 = .ok (.iastore, 1) := by decide +kernel
theorem dX5_stands_30 : decode cX5_stands 30 = .ok (.iinc 3 1, 3) := by decide +kernel
theorem dX5_stands_33 : decode cX5_stands 33 = .ok (.goto (-31), 3) := by decide +kernel
theorem dX5_stands_36 : decode cX5_stands 36 = .ok (.return_, 1) := by decide +kernel
theorem dX5_search_0 : decode cX5_search 0 = .ok (.iconst 0, 1) := by decide +kernel
theorem dX5_search_1 : decode cX5_search 1 = .ok (.istore_n 1, 1) := by decide +kernel
theorem dX5_search_2 : decode cX5_search 2 = .ok (.iload_n 1, 1) := by decide +kernel
theorem dX5_search_3 : decode cX5_search 3 = .ok (.bipush 64, 2) := by decide +kernel
theorem dX5_search_5 : decode cX5_search 5 = .ok (.if_icmp .ge 21, 3) := by decide +kernel
theorem dX5_search_8 : decode cX5_search 8 = .ok (.aload_n 0, 1) := by decide +kernel
theorem dX5_search_9 : decode cX5_search 9 = .ok (.getfield 26, 3) := by decide +kernel
theorem dX5_search_12 : decode cX5_search 12 = .ok (.iload_n 1, 1) := by decide +kernel
theorem dX5_search_13 : decode cX5_search 13 = .ok (.aload_n 0, 1) := by decide +kernel
theorem dX5_search_14 : decode cX5_search 14 = .ok (.getfield 20, 3) := by decide +kernel
theorem dX5_search_17 : decode cX5_search 17 = .ok (.iload_n 1, 1) := by decide +kernel
theorem dX5_search_18 : decode cX5_search 18 = .ok (.iaload, 1) := by decide +kernel
theorem dX5_search_19 : decode cX5_search 19 = .ok (.iastore, 1) := by decide +kernel
theorem dX5_search_20 : decode cX5_search 20 = .ok (.iinc 1 1, 3) := by decide +kernel
theorem dX5_search_23 : decode cX5_search 23 = .ok (.goto (-21), 3) := by decide +kernel
theorem dX5_search_26 : decode cX5_search 26 = .ok (.aload_n 0, 1) := by decide +kernel
theorem dX5_search_27 : decode cX5_search 27 = .ok (.iconst 0, 1) := by decide +kernel
theorem dX5_search_28 : decode cX5_search 28 = .ok (.putfield 123, 3) := by decide +kernel
theorem dX5_search_31 : decode cX5_search 31 = .ok (.aload_n 0, 1) := by decide +kernel
theorem dX5_search_32 : decode cX5_search 32 = .ok (.iconst 0, 1) := by decide +kernel
theorem dX5_search_33 : decode cX5_search 33 = .ok (.invokevirtual 75, 3) := by decide +kernel
theorem dX5_search_36 : decode cX5_search 36 = .ok (.istore_n 1, 1) := by decide +kernel
theorem dX5_search_37 : decode cX5_search 37 = .ok (.iconst 0, 1) := by decide +kernel
theorem dX5_search_38 : decode cX5_search 38 = .ok (.istore_n 2, 1) := by decide +kernel
theorem dX5_search_39 : decode cX5_search 39 = .ok (.iconst 0, 1) := by decide +kernel
theorem dX5_search_40 : decode cX5_search 40 = .ok (.istore_n 3, 1) := by decide +kernel
theorem dX5_search_41 : decode cX5_search 41 = .ok (.iload_n 2, 1) := by decide +kernel
theorem dX5_search_42 : decode cX5_search 42 = .ok (.iload_n 1, 1) := by decide +kernel
theorem dX5_search_43 : decode cX5_search 43 = .ok (.if_icmp .ge 99, 3) := by decide +kernel
theorem dX5_search_46 : decode cX5_search 46 = .ok (.iload_n 3, 1) := by decide +kernel
theorem dX5_search_47 : decode cX5_search 47 = .ok (.aload_n 0, 1) := by decide +kernel
theorem dX5_search_48 : decode cX5_search 48 = .ok (.invokevirtual 88, 3) := by decide +kernel
theorem dX5_search_51 : decode cX5_search 51 = .ok (.if_icmp .ne 35, 3) := by decide +kernel
theorem dX5_search_54 : decode cX5_search 54 = .ok (.iload_n 2, 1) := by decide +kernel
theorem dX5_search_55 : decode cX5_search 55 = .ok (.ifCond .ne 5, 3) := by decide +kernel
theorem dX5_search_58 : decode cX5_search 58 = .ok (.iconst 0, 1) := by decide +kernel
theorem dX5_search_59 : decode cX5_search 59 = .ok (.ireturn, 1) := by decide +kernel
theorem dX5_search_60 : decode cX5_search 60 = .ok (.iinc 2 (-1), 3) := by decide +kernel
theorem dX5_search_63 : decode cX5_search 63 = .ok (.aload_n 0, 1) := by decide +kernel
theorem dX5_search_64 : decode cX5_search 64 = .ok (.aload_n 0, 1) := by decide +kernel
theorem dX5_search_65 : decode cX5_search 65 = .ok (.getfield 29, 3) := by decide +kernel
theorem dX5_search_68 : decode cX5_search 68 = .ok (.iload_n 2, 1) := by decide +kernel
theorem dX5_search_69 : decode cX5_search 69 = .ok (.iaload, 1) := by decide +kernel
theorem dX5_search_70 : decode cX5_search 70 = .ok (.iconst 1, 1) := by decide +kernel
theorem dX5_search_71 : decode cX5_search 71 = .ok (.invokevirtual 126, 3) := by decide +kernel
theorem dX5_search_74 : decode cX5_search 74 = .ok (.aload_n 0, 1) := by decide +kernel
theorem dX5_search_75 : decode cX5_search 75 = .ok (.getfield 29, 3) := by decide +kernel
theorem dX5_search_78 : decode cX5_search 78 = .ok (.iload_n 2, 1) := by decide +kernel
theorem dX5_search_79 : decode cX5_search 79 = .ok (.iaload, 1) := by decide +kernel
theorem dX5_search_80 : decode cX5_search 80 = .ok (.iconst 1, 1) := by decide +kernel
theorem dX5_search_81 : decode cX5_search 81 = .ok (.iadd, 1) := by decide +kernel
theorem dX5_search_82 : decode cX5_search 82 = .ok (.istore_n 3, 1) := by decide +kernel
theorem dX5_search_83 : decode cX5_search 83 = .ok (.goto (-42), 3) := by decide +kernel
theorem dX5_search_86 : decode cX5_search 86 = .ok (.aload_n 0, 1) := by decide +kernel
theorem dX5_search_87 : decode cX5_search 87 = .ok (.getfield 123, 3) := by decide +kernel
theorem dX5_search_90 : decode cX5_search 90 = .ok (.sipush 20000, 3) := by decide +kernel
theorem dX5_search_93 : decode cX5_search 93 = .ok (.if_icmp .ne 6, 3) := by decide +kernel
theorem dX5_search_96 : decode cX5_search 96 = .ok (.bipush (-6), 2) := by decide +kernel
theorem dX5_search_98 : decode cX5_search 98 = .ok (.ireturn, 1) := by decide +kernel
theorem dX5_search_99 : decode cX5_search 99 = .ok (.aload_n 0, 1) := by decide +kernel
theorem dX5_search_100 : decode cX5_search 100 = .ok (.dup, 1) := by decide +kernel
theorem dX5_search_101 : decode cX5_search 101 = .ok (.getfield 123, 3) := by decide +kernel
theorem dX5_search_104 : decode cX5_search 104 = .ok (.iconst 1, 1) := by decide +kernel
theorem dX5_search_105 : decode cX5_search 105 = .ok (.iadd, 1) := by decide +kernel
theorem dX5_search_106 : decode cX5_search 106 = .ok (.putfield 123, 3) := by decide +kernel
theorem dX5_search_109 : decode cX5_search 109 = .ok (.aload_n 0, 1) := by decide +kernel
theorem dX5_search_110 : decode cX5_search 110 = .ok (.iload_n 3, 1) := by decide +kernel
theorem dX5_search_111 : decode cX5_search 111 = .ok (.invokevirtual 130, 3) := by decide +kernel
theorem dX5_search_114 : decode cX5_search 114 = .ok (.ifCond .eq 22, 3) := by decide +kernel
theorem dX5_search_117 : decode cX5_search 117 = .ok (.aload_n 0, 1) := by decide +kernel
theorem dX5_search_118 : decode cX5_search 118 = .ok (.iload_n 3, 1) := by decide +kernel
theorem dX5_search_119 : decode cX5_search 119 = .ok (.iconst (-1), 1) := by decide +kernel
theorem dX5_search_120 : decode cX5_search 120 = .ok (.invokevirtual 126, 3) := by decide +kernel
theorem dX5_search_123 : decode cX5_search 123 = .ok (.aload_n 0, 1) := by decide +kernel
theorem dX5_search_124 : decode cX5_search 124 = .ok (.getfield 29, 3) := by decide +kernel
theorem dX5_search_127 : decode cX5_search 127 = .ok (.iload_n 2, 1) := by decide +kernel
theorem dX5_search_128 : decode cX5_search 128 = .ok (.iload_n 3, 1) := by decide +kernel
theorem dX5_search_129 : decode cX5_search 129 = .ok (.iastore, 1) := by decide +kernel
theorem dX5_search_130 : decode cX5_search 130 = .ok (.iinc 2 1, 3) := by decide +kernel
theorem dX5_search_133 : decode cX5_search 133 = .ok (.goto (-92), 3) := by decide +kernel
theorem dX5_search_136 : decode cX5_search 136 = .ok (.iinc 3 1, 3) := by decide +kernel
theorem dX5_search_139 : decode cX5_search 139 = .ok (.goto (-98), 3) := by decide +kernel
theorem dX5_search_142 : decode cX5_search 142 = .ok (.iconst 1, 1) := by decide +kernel
theorem dX5_search_143 : decode cX5_search 143 = .ok (.ireturn, 1) := by decide +kernel
theorem dX5_parted_0 : decode cX5_parted 0 = .ok (.aload_n 0, 1) := by decide +kernel
theorem dX5_parted_1 : decode cX5_parted 1 = .ok (.invokevirtual 133, 3) := by decide +kernel
theorem dX5_parted_4 : decode cX5_parted 4 = .ok (.ifCond .eq 10, 3) := by decide +kernel
theorem dX5_parted_7 : decode cX5_parted 7 = .ok (.aload_n 0, 1) := by decide +kernel
theorem dX5_parted_8 : decode cX5_parted 8 = .ok (.invokevirtual 137, 3) := by decide +kernel
theorem dX5_parted_11 : decode cX5_parted 11 = .ok (.goto 5, 3) := by decide +kernel
theorem dX5_parted_14 : decode cX5_parted 14 = .ok (.bipush (-2), 2) := by decide +kernel
theorem dX5_parted_16 : decode cX5_parted 16 = .ok (.ireturn, 1) := by decide +kernel
theorem dX5_part_0 : decode cX5_part 0 = .ok (.iload_n 1, 1) := by decide +kernel
theorem dX5_part_1 : decode cX5_part 1 = .ok (.ifCond .ge 11, 3) := by decide +kernel
theorem dX5_part_4 : decode cX5_part 4 = .ok (.iload_n 1, 1) := by decide +kernel
theorem dX5_part_5 : decode cX5_part 5 = .ok (.bipush (-4), 2) := by decide +kernel
theorem dX5_part_7 : decode cX5_part 7 = .ok (.if_icmp .eq 5, 3) := by decide +kernel
theorem dX5_part_10 : decode cX5_part 10 = .ok (.iconst (-1), 1) := by decide +kernel
theorem dX5_part_11 : decode cX5_part 11 = .ok (.ireturn, 1) := by decide +kernel
theorem dX5_part_12 : decode cX5_part 12 = .ok (.aload_n 0, 1) := by decide +kernel
theorem dX5_part_13 : decode cX5_part 13 = .ok (.invokevirtual 133, 3) := by decide +kernel
theorem dX5_part_16 : decode cX5_part 16 = .ok (.ifCond .ne 6, 3) := by decide +kernel
theorem dX5_part_19 : decode cX5_part 19 = .ok (.bipush (-2), 2) := by decide +kernel
theorem dX5_part_21 : decode cX5_part 21 = .ok (.ireturn, 1) := by decide +kernel
theorem dX5_part_22 : decode cX5_part 22 = .ok (.aload_n 0, 1) := by decide +kernel
theorem dX5_part_23 : decode cX5_part 23 = .ok (.iconst 0, 1) := by decide +kernel
theorem dX5_part_24 : decode cX5_part 24 = .ok (.invokevirtual 75, 3) := by decide +kernel
theorem dX5_part_27 : decode cX5_part 27 = .ok (.istore_n 2, 1) := by decide +kernel
end
section
theorem dX5_part_28 : decode cX5_part 28 = .ok (.aload_n 0, 1) := by decide +kernel
theorem dX5_part_29 : decode cX5_part 29 = .ok (.invokevirtual 137, 3) := by decide +kernel
theorem dX5_part_32 : decode cX5_part 32 = .ok (.istore_n 3, 1) := by decide +kernel
theorem dX5_part_33 : decode cX5_part 33 = .ok (.iload_n 1, 1) := by decide +kernel
theorem dX5_part_34 : decode cX5_part 34 = .ok (.bipush (-4), 2) := by decide +kernel
theorem dX5_part_36 : decode cX5_part 36 = .ok (.if_icmp .ne 8, 3) := by decide +kernel
theorem dX5_part_39 : decode cX5_part 39 = .ok (.aload_n 0, 1) := by decide +kernel
theorem dX5_part_40 : decode cX5_part 40 = .ok (.getfield 123, 3) := by decide +kernel
theorem dX5_part_43 : decode cX5_part 43 = .ok (.ireturn, 1) := by decide +kernel
theorem dX5_part_44 : decode cX5_part 44 = .ok (.iload_n 3, 1) := by decide +kernel
theorem dX5_part_45 : decode cX5_part 45 = .ok (.bipush (-6), 2) := by decide +kernel
theorem dX5_part_47 : decode cX5_part 47 = .ok (.if_icmp .ne 8, 3) := by decide +kernel
theorem dX5_part_50 : decode cX5_part 50 = .ok (.bipush (-6), 2) := by decide +kernel
theorem dX5_part_52 : decode cX5_part 52 = .ok (.goto 23, 3) := by decide +kernel
theorem dX5_part_55 : decode cX5_part 55 = .ok (.iload_n 3, 1) := by decide +kernel
theorem dX5_part_56 : decode cX5_part 56 = .ok (.ifCond .eq 8, 3) := by decide +kernel
theorem dX5_part_59 : decode cX5_part 59 = .ok (.iload_n 1, 1) := by decide +kernel
theorem dX5_part_60 : decode cX5_part 60 = .ok (.iload_n 2, 1) := by decide +kernel
theorem dX5_part_61 : decode cX5_part 61 = .ok (.if_icmp .lt 8, 3) := by decide +kernel
theorem dX5_part_64 : decode cX5_part 64 = .ok (.bipush (-4), 2) := by decide +kernel
theorem dX5_part_66 : decode cX5_part 66 = .ok (.goto 9, 3) := by decide +kernel
theorem dX5_part_69 : decode cX5_part 69 = .ok (.aload_n 0, 1) := by decide +kernel
theorem dX5_part_70 : decode cX5_part 70 = .ok (.getfield 29, 3) := by decide +kernel
theorem dX5_part_73 : decode cX5_part 73 = .ok (.iload_n 1, 1) := by decide +kernel
theorem dX5_part_74 : decode cX5_part 74 = .ok (.iaload, 1) := by decide +kernel
theorem dX5_part_75 : decode cX5_part 75 = .ok (.ireturn, 1) := by decide +kernel
theorem dX5_mix_0 : decode cX5_mix 0 = .ok (.aload_n 0, 1) := by decide +kernel
theorem dX5_mix_1 : decode cX5_mix 1 = .ok (.getfield 7, 3) := by decide +kernel
theorem dX5_mix_4 : decode cX5_mix 4 = .ok (.iconst 4, 1) := by decide +kernel
theorem dX5_mix_5 : decode cX5_mix 5 = .ok (.if_icmp .gt 27, 3) := by decide +kernel
theorem dX5_mix_8 : decode cX5_mix 8 = .ok (.iload_n 1, 1) := by decide +kernel
theorem dX5_mix_9 : decode cX5_mix 9 = .ok (.i2l, 1) := by decide +kernel
theorem dX5_mix_10 : decode cX5_mix 10 = .ok (.lconst 0, 1) := by decide +kernel
theorem dX5_mix_11 : decode cX5_mix 11 = .ok (.ldc2_w 140, 3) := by decide +kernel
theorem dX5_mix_14 : decode cX5_mix 14 = .ok (.invokestatic 59, 3) := by decide +kernel
theorem dX5_mix_17 : decode cX5_mix 17 = .ok (.ifCond .eq 15, 3) := by decide +kernel
theorem dX5_mix_20 : decode cX5_mix 20 = .ok (.iload_n 1, 1) := by decide +kernel
theorem dX5_mix_21 : decode cX5_mix 21 = .ok (.i2l, 1) := by decide +kernel
theorem dX5_mix_22 : decode cX5_mix 22 = .ok (.aload_n 0, 1) := by decide +kernel
theorem dX5_mix_23 : decode cX5_mix 23 = .ok (.invokevirtual 88, 3) := by decide +kernel
theorem dX5_mix_26 : decode cX5_mix 26 = .ok (.lshr, 1) := by decide +kernel
theorem dX5_mix_27 : decode cX5_mix 27 = .ok (.lconst 0, 1) := by decide +kernel
theorem dX5_mix_28 : decode cX5_mix 28 = .ok (.lcmp, 1) := by decide +kernel
theorem dX5_mix_29 : decode cX5_mix 29 = .ok (.ifCond .eq 5, 3) := by decide +kernel
theorem dX5_mix_32 : decode cX5_mix 32 = .ok (.iconst (-1), 1) := by decide +kernel
theorem dX5_mix_33 : decode cX5_mix 33 = .ok (.ireturn, 1) := by decide +kernel
theorem dX5_mix_34 : decode cX5_mix 34 = .ok (.aload_n 0, 1) := by decide +kernel
theorem dX5_mix_35 : decode cX5_mix 35 = .ok (.getfield 56, 3) := by decide +kernel
theorem dX5_mix_38 : decode cX5_mix 38 = .ok (.ifCond .ne 6, 3) := by decide +kernel
theorem dX5_mix_41 : decode cX5_mix 41 = .ok (.bipush (-2), 2) := by decide +kernel
theorem dX5_mix_43 : decode cX5_mix 43 = .ok (.ireturn, 1) := by decide +kernel
theorem dX5_mix_44 : decode cX5_mix 44 = .ok (.iconst 0, 1) := by decide +kernel
theorem dX5_mix_45 : decode cX5_mix 45 = .ok (.istore_n 2, 1) := by decide +kernel
theorem dX5_mix_46 : decode cX5_mix 46 = .ok (.iload_n 2, 1) := by decide +kernel
theorem dX5_mix_47 : decode cX5_mix 47 = .ok (.bipush 64, 2) := by decide +kernel
theorem dX5_mix_49 : decode cX5_mix 49 = .ok (.if_icmp .ge 16, 3) := by decide +kernel
theorem dX5_mix_52 : decode cX5_mix 52 = .ok (.aload_n 0, 1) := by decide +kernel
theorem dX5_mix_53 : decode cX5_mix 53 = .ok (.getfield 20, 3) := by decide +kernel
theorem dX5_mix_56 : decode cX5_mix 56 = .ok (.iload_n 2, 1) := by decide +kernel
theorem dX5_mix_57 : decode cX5_mix 57 = .ok (.iconst 0, 1) := by decide +kernel
theorem dX5_mix_58 : decode cX5_mix 58 = .ok (.iastore, 1) := by decide +kernel
theorem dX5_mix_59 : decode cX5_mix 59 = .ok (.iinc 2 1, 3) := by decide +kernel
theorem dX5_mix_62 : decode cX5_mix 62 = .ok (.goto (-16), 3) := by decide +kernel
theorem dX5_mix_65 : decode cX5_mix 65 = .ok (.iconst 0, 1) := by decide +kernel
theorem dX5_mix_66 : decode cX5_mix 66 = .ok (.istore_n 2, 1) := by decide +kernel
theorem dX5_mix_67 : decode cX5_mix 67 = .ok (.iconst 0, 1) := by decide +kernel
theorem dX5_mix_68 : decode cX5_mix 68 = .ok (.istore_n 3, 1) := by decide +kernel
theorem dX5_mix_69 : decode cX5_mix 69 = .ok (.iload_n 3, 1) := by decide +kernel
theorem dX5_mix_70 : decode cX5_mix 70 = .ok (.aload_n 0, 1) := by decide +kernel
theorem dX5_mix_71 : decode cX5_mix 71 = .ok (.invokevirtual 88, 3) := by decide +kernel
theorem dX5_mix_74 : decode cX5_mix 74 = .ok (.if_icmp .ge 61, 3) := by decide +kernel
theorem dX5_mix_77 : decode cX5_mix 77 = .ok (.iload_n 1, 1) := by decide +kernel
theorem dX5_mix_78 : decode cX5_mix 78 = .ok (.iload_n 3, 1) := by decide +kernel
theorem dX5_mix_79 : decode cX5_mix 79 = .ok (.ishr, 1) := by decide +kernel
theorem dX5_mix_80 : decode cX5_mix 80 = .ok (.iconst 1, 1) := by decide +kernel
theorem dX5_mix_81 : decode cX5_mix 81 = .ok (.iand, 1) := by decide +kernel
theorem dX5_mix_82 : decode cX5_mix 82 = .ok (.iconst 1, 1) := by decide +kernel
theorem dX5_mix_83 : decode cX5_mix 83 = .ok (.if_icmp .ne 46, 3) := by decide +kernel
theorem dX5_mix_86 : decode cX5_mix 86 = .ok (.iinc 2 1, 3) := by decide +kernel
theorem dX5_mix_89 : decode cX5_mix 89 = .ok (.iconst 0, 1) := by decide +kernel
theorem dX5_mix_90 : decode cX5_mix 90 = .ok (.istore 4, 2) := by decide +kernel
theorem dX5_mix_92 : decode cX5_mix 92 = .ok (.iload 4, 2) := by decide +kernel
theorem dX5_mix_94 : decode cX5_mix 94 = .ok (.aload_n 0, 1) := by decide +kernel
theorem dX5_mix_95 : decode cX5_mix 95 = .ok (.getfield 56, 3) := by decide +kernel
theorem dX5_mix_98 : decode cX5_mix 98 = .ok (.if_icmp .ge 31, 3) := by decide +kernel
theorem dX5_mix_101 : decode cX5_mix 101 = .ok (.aload_n 0, 1) := by decide +kernel
theorem dX5_mix_102 : decode cX5_mix 102 = .ok (.getfield 20, 3) := by decide +kernel
theorem dX5_mix_105 : decode cX5_mix 105 = .ok (.bipush 8, 2) := by decide +kernel
theorem dX5_mix_107 : decode cX5_mix 107 = .ok (.iload 4, 2) := by decide +kernel
theorem dX5_mix_109 : decode cX5_mix 109 = .ok (.imul, 1) := by decide +kernel
theorem dX5_mix_110 : decode cX5_mix 110 = .ok (.aload_n 0, 1) := by decide +kernel
theorem dX5_mix_111 : decode cX5_mix 111 = .ok (.iload 4, 2) := by decide +kernel
theorem dX5_mix_113 : decode cX5_mix 113 = .ok (.iload_n 3, 1) := by decide +kernel
theorem dX5_mix_114 : decode cX5_mix 114 = .ok (.invokevirtual 92, 3) := by decide +kernel
theorem dX5_mix_117 : decode cX5_mix 117 = .ok (.iadd, 1) := by decide +kernel
theorem dX5_mix_118 : decode cX5_mix 118 = .ok (.dup2, 1) := by decide +kernel
theorem dX5_mix_119 : decode cX5_mix 119 = .ok (.iaload, 1) := by decide +kernel
theorem dX5_mix_120 : decode cX5_mix 120 = .ok (.iconst 1, 1) := by decide +kernel
theorem dX5_mix_121 : decode cX5_mix 121 = .ok (.iadd, 1) := by decide +kernel
theorem dX5_mix_122 : decode cX5_mix 122 = .ok (.iastore, 1) := by decide +kernel
theorem dX5_mix_123 : decode cX5_mix 123 = .ok (.iinc 4 1, 3) := by decide +kernel
theorem dX5_mix_126 : decode cX5_mix 126 = .ok (.goto (-34), 3) := by decide +kernel
theorem dX5_mix_129 : decode cX5_mix 129 = .ok (.iinc 3 1, 3) := by decide +kernel
theorem dX5_mix_132 : decode cX5_mix 132 = .ok (.goto (-63), 3) := by decide +kernel
theorem dX5_mix_135 : decode cX5_mix 135 = .ok (.iload_n 2, 1) := by decide +kernel
theorem dX5_mix_136 : decode cX5_mix 136 = .ok (.ireturn, 1) := by decide +kernel
theorem dX5_fulfil_0 : decode cX5_fulfil 0 = .ok (.aload_n 0, 1) := by decide +kernel
theorem dX5_fulfil_1 : decode cX5_fulfil 1 = .ok (.getfield 56, 3) := by decide +kernel
theorem dX5_fulfil_4 : decode cX5_fulfil 4 = .ok (.ifCond .ne 6, 3) := by decide +kernel
theorem dX5_fulfil_7 : decode cX5_fulfil 7 = .ok (.bipush (-2), 2) := by decide +kernel
theorem dX5_fulfil_9 : decode cX5_fulfil 9 = .ok (.ireturn, 1) := by decide +kernel
theorem dX5_fulfil_10 : decode cX5_fulfil 10 = .ok (.iconst 0, 1) := by decide +kernel
theorem dX5_fulfil_11 : decode cX5_fulfil 11 = .ok (.istore_n 1, 1) := by decide +kernel
theorem dX5_fulfil_12 : decode cX5_fulfil 12 = .ok (.iconst 0, 1) := by decide +kernel
theorem dX5_fulfil_13 : decode cX5_fulfil 13 = .ok (.istore_n 2, 1) := by decide +kernel
theorem dX5_fulfil_14 : decode cX5_fulfil 14 = .ok (.iload_n 2, 1) := by decide +kernel
theorem dX5_fulfil_15 : decode cX5_fulfil 15 = .ok (.aload_n 0, 1) := by decide +kernel
theorem dX5_fulfil_16 : decode cX5_fulfil 16 = .ok (.invokevirtual 88, 3) := by decide +kernel
theorem dX5_fulfil_19 : decode cX5_fulfil 19 = .ok (.if_icmp .ge 87, 3) := by decide +kernel
theorem dX5_fulfil_22 : decode cX5_fulfil 22 = .ok (.iconst 1, 1) := by decide +kernel
theorem dX5_fulfil_23 : decode cX5_fulfil 23 = .ok (.istore_n 3, 1) := by decide +kernel
theorem dX5_fulfil_24 : decode cX5_fulfil 24 = .ok (.iconst 0, 1) := by decide +kernel
theorem dX5_fulfil_25 : decode cX5_fulfil 25 = .ok (.istore 4, 2) := by decide +kernel
theorem dX5_fulfil_27 : decode cX5_fulfil 27 = .ok (.iload 4, 2) := by decide +kernel
theorem dX5_fulfil_29 : decode cX5_fulfil 29 = .ok (.aload_n 0, 1) := by decide +kernel
theorem dX5_fulfil_30 : decode cX5_fulfil 30 = .ok (.getfield 56, 3) := by decide +kernel
theorem dX5_fulfil_33 : decode cX5_fulfil 33 = .ok (.if_icmp .ge 55, 3) := by decide +kernel
theorem dX5_fulfil_36 : decode cX5_fulfil 36 = .ok (.iload_n 3, 1) := by decide +kernel
theorem dX5_fulfil_37 : decode cX5_fulfil 37 = .ok (.ifCond .eq 43, 3) := by decide +kernel
theorem dX5_fulfil_40 : decode cX5_fulfil 40 = .ok (.aload_n 0, 1) := by decide +kernel
theorem dX5_fulfil_41 : decode cX5_fulfil 41 = .ok (.getfield 17, 3) := by decide +kernel
theorem dX5_fulfil_44 : decode cX5_fulfil 44 = .ok (.iload 4, 2) := by decide +kernel
theorem dX5_fulfil_46 : decode cX5_fulfil 46 = .ok (.iaload, 1) := by decide +kernel
theorem dX5_fulfil_47 : decode cX5_fulfil 47 = .ok (.bipush (-4), 2) := by decide +kernel
theorem dX5_fulfil_49 : decode cX5_fulfil 49 = .ok (.if_icmp .eq 27, 3) := by decide +kernel
theorem dX5_fulfil_52 : decode cX5_fulfil 52 = .ok (.iload_n 2, 1) := by decide +kernel
theorem dX5_fulfil_53 : decode cX5_fulfil 53 = .ok (.aload_n 0, 1) := by decide +kernel
theorem dX5_fulfil_54 : decode cX5_fulfil 54 = .ok (.getfield 13, 3) := by decide +kernel
theorem dX5_fulfil_57 : decode cX5_fulfil 57 = .ok (.iload 4, 2) := by decide +kernel
theorem dX5_fulfil_59 : decode cX5_fulfil 59 = .ok (.iaload, 1) := by decide +kernel
theorem dX5_fulfil_60 : decode cX5_fulfil 60 = .ok (.iand, 1) := by decide +kernel
theorem dX5_fulfil_61 : decode cX5_fulfil 61 = .ok (.invokestatic 67, 3) := by decide +kernel
theorem dX5_fulfil_64 : decode cX5_fulfil 64 = .ok (.iconst 2, 1) := by decide +kernel
theorem dX5_fulfil_65 : decode cX5_fulfil 65 = .ok (.irem, 1) := by decide +kernel
theorem dX5_fulfil_66 : decode cX5_fulfil 66 = .ok (.aload_n 0, 1) := by decide +kernel
theorem dX5_fulfil_67 : decode cX5_fulfil 67 = .ok (.getfield 17, 3) := by decide +kernel
theorem dX5_fulfil_70 : decode cX5_fulfil 70 = .ok (.iload 4, 2) := by decide +kernel
theorem dX5_fulfil_72 : decode cX5_fulfil 72 = .ok (.iaload, 1) := by decide +kernel
theorem dX5_fulfil_73 : decode cX5_fulfil 73 = .ok (.if_icmp .ne 7, 3) := by decide +kernel
theorem dX5_fulfil_76 : decode cX5_fulfil 76 = .ok (.iconst 1, 1) := by decide +kernel
theorem dX5_fulfil_77 : decode cX5_fulfil 77 = .ok (.goto 4, 3) := by decide +kernel
theorem dX5_fulfil_80 : decode cX5_fulfil 80 = .ok (.iconst 0, 1) := by decide +kernel
theorem dX5_fulfil_81 : decode cX5_fulfil 81 = .ok (.istore_n 3, 1) := by decide +kernel
theorem dX5_fulfil_82 : decode cX5_fulfil 82 = .ok (.iinc 4 1, 3) := by decide +kernel
theorem dX5_fulfil_85 : decode cX5_fulfil 85 = .ok (.goto (-58), 3) := by decide +kernel
theorem dX5_fulfil_88 : decode cX5_fulfil 88 = .ok (.iload_n 1, 1) := by decide +kernel
theorem dX5_fulfil_89 : decode cX5_fulfil 89 = .ok (.iload_n 3, 1) := by decide +kernel
theorem dX5_fulfil_90 : decode cX5_fulfil 90 = .ok (.ifCond .eq 7, 3) := by decide +kernel
theorem dX5_fulfil_93 : decode cX5_fulfil 93 = .ok (.iconst 1, 1) := by decide +kernel
theorem dX5_fulfil_94 : decode cX5_fulfil 94 = .ok (.goto 4, 3) := by decide +kernel
theorem dX5_fulfil_97 : decode cX5_fulfil 97 = .ok (.iconst 0, 1) := by decide +kernel
theorem dX5_fulfil_98 : decode cX5_fulfil 98 = .ok (.iadd, 1) := by decide +kernel
theorem dX5_fulfil_99 : decode cX5_fulfil 99 = .ok (.istore_n 1, 1) := by decide +kernel
theorem dX5_fulfil_100 : decode cX5_fulfil 100 = .ok (.iinc 2 1, 3) := by decide +kernel
theorem dX5_fulfil_103 : decode cX5_fulfil 103 = .ok (.goto (-89), 3) := by decide +kernel
theorem dX5_fulfil_106 : decode cX5_fulfil 106 = .ok (.iload_n 1, 1) := by decide +kernel
theorem dX5_fulfil_107 : decode cX5_fulfil 107 = .ok (.ireturn, 1) := by decide +kernel
theorem dX5_isProof_0 : decode cX5_isProof 0 = .ok (.iconst 0, 1) := by decide +kernel
theorem dX5_isProof_1 : decode cX5_isProof 1 = .ok (.istore_n 2, 1) := by decide +kernel
theorem dX5_isProof_2 : decode cX5_isProof 2 = .ok (.iconst 0, 1) := by decide +kernel
theorem dX5_isProof_3 : decode cX5_isProof 3 = .ok (.istore_n 3, 1) := by decide +kernel
theorem dX5_isProof_4 : decode cX5_isProof 4 = .ok (.iload_n 1, 1) := by decide +kernel
theorem dX5_isProof_5 : decode cX5_isProof 5 = .ok (.ifCond .le 7, 3) := by decide +kernel
theorem dX5_isProof_8 : decode cX5_isProof 8 = .ok (.iconst 1, 1) := by decide +kernel
theorem dX5_isProof_9 : decode cX5_isProof 9 = .ok (.goto 4, 3) := by decide +kernel
theorem dX5_isProof_12 : decode cX5_isProof 12 = .ok (.iconst 0, 1) := by decide +kernel
theorem dX5_isProof_13 : decode cX5_isProof 13 = .ok (.istore 4, 2) := by decide +kernel
theorem dX5_isProof_15 : decode cX5_isProof 15 = .ok (.iconst 0, 1) := by decide +kernel
theorem dX5_isProof_16 : decode cX5_isProof 16 = .ok (.istore 5, 2) := by decide +kernel
theorem dX5_isProof_18 : decode cX5_isProof 18 = .ok (.iload 5, 2) := by decide +kernel
theorem dX5_isProof_20 : decode cX5_isProof 20 = .ok (.aload_n 0, 1) := by decide +kernel
theorem dX5_isProof_21 : decode cX5_isProof 21 = .ok (.getfield 56, 3) := by decide +kernel
theorem dX5_isProof_24 : decode cX5_isProof 24 = .ok (.if_icmp .ge 63, 3) := by decide +kernel
theorem dX5_isProof_27 : decode cX5_isProof 27 = .ok (.iload_n 1, 1) := by decide +kernel
theorem dX5_isProof_28 : decode cX5_isProof 28 = .ok (.iload 5, 2) := by decide +kernel
theorem dX5_isProof_30 : decode cX5_isProof 30 = .ok (.ishr, 1) := by decide +kernel
theorem dX5_isProof_31 : decode cX5_isProof 31 = .ok (.iconst 1, 1) := by decide +kernel
theorem dX5_isProof_32 : decode cX5_isProof 32 = .ok (.iand, 1) := by decide +kernel
theorem dX5_isProof_33 : decode cX5_isProof 33 = .ok (.iconst 1, 1) := by decide +kernel
theorem dX5_isProof_34 : decode cX5_isProof 34 = .ok (.if_icmp .ne 47, 3) := by decide +kernel
theorem dX5_isProof_37 : decode cX5_isProof 37 = .ok (.iload 4, 2) := by decide +kernel
theorem dX5_isProof_39 : decode cX5_isProof 39 = .ok (.ifCond .eq 19, 3) := by decide +kernel
theorem dX5_isProof_42 : decode cX5_isProof 42 = .ok (.aload_n 0, 1) := by decide +kernel
theorem dX5_isProof_43 : decode cX5_isProof 43 = .ok (.getfield 17, 3) := by decide +kernel
theorem dX5_isProof_46 : decode cX5_isProof 46 = .ok (.iload 5, 2) := by decide +kernel
theorem dX5_isProof_48 : decode cX5_isProof 48 = .ok (.iaload, 1) := by decide +kernel
theorem dX5_isProof_49 : decode cX5_isProof 49 = .ok (.bipush (-4), 2) := by decide +kernel
theorem dX5_isProof_51 : decode cX5_isProof 51 = .ok (.if_icmp .eq 7, 3) := by decide +kernel
theorem dX5_isProof_54 : decode cX5_isProof 54 = .ok (.iconst 1, 1) := by decide +kernel
theorem dX5_isProof_55 : decode cX5_isProof 55 = .ok (.goto 4, 3) := by decide +kernel
theorem dX5_isProof_58 : decode cX5_isProof 58 = .ok (.iconst 0, 1) := by decide +kernel
theorem dX5_isProof_59 : decode cX5_isProof 59 = .ok (.istore 4, 2) := by decide +kernel
theorem dX5_isProof_61 : decode cX5_isProof 61 = .ok (.iload_n 2, 1) := by decide +kernel
theorem dX5_isProof_62 : decode cX5_isProof 62 = .ok (.aload_n 0, 1) := by decide +kernel
theorem dX5_isProof_63 : decode cX5_isProof 63 = .ok (.getfield 13, 3) := by decide +kernel
theorem dX5_isProof_66 : decode cX5_isProof 66 = .ok (.iload 5, 2) := by decide +kernel
theorem dX5_isProof_68 : decode cX5_isProof 68 = .ok (.iaload, 1) := by decide +kernel
theorem dX5_isProof_69 : decode cX5_isProof 69 = .ok (.ixor, 1) := by decide +kernel
theorem dX5_isProof_70 : decode cX5_isProof 70 = .ok (.istore_n 2, 1) := by decide +kernel
theorem dX5_isProof_71 : decode cX5_isProof 71 = .ok (.iload_n 3, 1) := by decide +kernel
theorem dX5_isProof_72 : decode cX5_isProof 72 = .ok (.aload_n 0, 1) := by decide +kernel
theorem dX5_isProof_73 : decode cX5_isProof 73 = .ok (.getfield 17, 3) := by decide +kernel
theorem dX5_isProof_76 : decode cX5_isProof 76 = .ok (.iload 5, 2) := by decide +kernel
theorem dX5_isProof_78 : decode cX5_isProof 78 = .ok (.iaload, 1) := by decide +kernel
theorem dX5_isProof_79 : decode cX5_isProof 79 = .ok (.iadd, 1) := by decide +kernel
theorem dX5_isProof_80 : decode cX5_isProof 80 = .ok (.istore_n 3, 1) := by decide +kernel
theorem dX5_isProof_81 : decode cX5_isProof 81 = .ok (.iinc 5 1, 3) := by decide +kernel
theorem dX5_isProof_84 : decode cX5_isProof 84 = .ok (.goto (-66), 3) := by decide +kernel
theorem dX5_isProof_87 : decode cX5_isProof 87 = .ok (.iload 4, 2) := by decide +kernel
theorem dX5_isProof_89 : decode cX5_isProof 89 = .ok (.ifCond .eq 18, 3) := by decide +kernel
theorem dX5_isProof_92 : decode cX5_isProof 92 = .ok (.iload_n 2, 1) := by decide +kernel
theorem dX5_isProof_93 : decode cX5_isProof 93 = .ok (.ifCond .ne 14, 3) := by decide +kernel
theorem dX5_isProof_96 : decode cX5_isProof 96 = .ok (.iload_n 3, 1) := by decide +kernel
theorem dX5_isProof_97 : decode cX5_isProof 97 = .ok (.iconst 2, 1) := by decide +kernel
theorem dX5_isProof_98 : decode cX5_isProof 98 = .ok (.irem, 1) := by decide +kernel
theorem dX5_isProof_99 : decode cX5_isProof 99 = .ok (.iconst 1, 1) := by decide +kernel
theorem dX5_isProof_100 : decode cX5_isProof 100 = .ok (.if_icmp .ne 7, 3) := by decide +kernel
theorem dX5_isProof_103 : decode cX5_isProof 103 = .ok (.iconst 1, 1) := by decide +kernel
theorem dX5_isProof_104 : decode cX5_isProof 104 = .ok (.goto 4, 3) := by decide +kernel
theorem dX5_isProof_107 : decode cX5_isProof 107 = .ok (.iconst 0, 1) := by decide +kernel
theorem dX5_isProof_108 : decode cX5_isProof 108 = .ok (.ireturn, 1) := by decide +kernel
theorem dX5_proof_0 : decode cX5_proof 0 = .ok (.aload_n 0, 1) := by decide +kernel
theorem dX5_proof_1 : decode cX5_proof 1 = .ok (.getfield 56, 3) := by decide +kernel
theorem dX5_proof_4 : decode cX5_proof 4 = .ok (.ifCond .ne 6, 3) := by decide +kernel
theorem dX5_proof_7 : decode cX5_proof 7 = .ok (.bipush (-2), 2) := by decide +kernel
theorem dX5_proof_9 : decode cX5_proof 9 = .ok (.ireturn, 1) := by decide +kernel
theorem dX5_proof_10 : decode cX5_proof 10 = .ok (.bipush (-4), 2) := by decide +kernel
theorem dX5_proof_12 : decode cX5_proof 12 = .ok (.istore_n 1, 1) := by decide +kernel
theorem dX5_proof_13 : decode cX5_proof 13 = .ok (.iconst 1, 1) := by decide +kernel
theorem dX5_proof_14 : decode cX5_proof 14 = .ok (.istore_n 2, 1) := by decide +kernel
theorem dX5_proof_15 : decode cX5_proof 15 = .ok (.iload_n 2, 1) := by decide +kernel
theorem dX5_proof_16 : decode cX5_proof 16 = .ok (.iconst 1, 1) := by decide +kernel
theorem dX5_proof_17 : decode cX5_proof 17 = .ok (.aload_n 0, 1) := by decide +kernel
theorem dX5_proof_18 : decode cX5_proof 18 = .ok (.getfield 56, 3) := by decide +kernel
theorem dX5_proof_21 : decode cX5_proof 21 = .ok (.ishl, 1) := by decide +kernel
theorem dX5_proof_22 : decode cX5_proof 22 = .ok (.if_icmp .ge 36, 3) := by decide +kernel
theorem dX5_proof_25 : decode cX5_proof 25 = .ok (.aload_n 0, 1) := by decide +kernel
theorem dX5_proof_26 : decode cX5_proof 26 = .ok (.iload_n 2, 1) := by decide +kernel
theorem dX5_proof_27 : decode cX5_proof 27 = .ok (.invokevirtual 142, 3) := by decide +kernel
theorem dX5_proof_30 : decode cX5_proof 30 = .ok (.ifCond .eq 22, 3) := by decide +kernel
theorem dX5_proof_33 : decode cX5_proof 33 = .ok (.iload_n 1, 1) := by decide +kernel
theorem dX5_proof_34 : decode cX5_proof 34 = .ok (.bipush (-4), 2) := by decide +kernel
theorem dX5_proof_36 : decode cX5_proof 36 = .ok (.if_icmp .eq 14, 3) := by decide +kernel
theorem dX5_proof_39 : decode cX5_proof 39 = .ok (.iload_n 2, 1) := by decide +kernel
theorem dX5_proof_40 : decode cX5_proof 40 = .ok (.invokestatic 67, 3) := by decide +kernel
theorem dX5_proof_43 : decode cX5_proof 43 = .ok (.iload_n 1, 1) := by decide +kernel
theorem dX5_proof_44 : decode cX5_proof 44 = .ok (.invokestatic 67, 3) := by decide +kernel
theorem dX5_proof_47 : decode cX5_proof 47 = .ok (.if_icmp .ge 5, 3) := by decide +kernel
theorem dX5_proof_50 : decode cX5_proof 50 = .ok (.iload_n 2, 1) := by decide +kernel
theorem dX5_proof_51 : decode cX5_proof 51 = .ok (.istore_n 1, 1) := by decide +kernel
theorem dX5_proof_52 : decode cX5_proof 52 = .ok (.iinc 2 1, 3) := by decide +kernel
theorem dX5_proof_55 : decode cX5_proof 55 = .ok (.goto (-40), 3) := by decide +kernel
theorem dX5_proof_58 : decode cX5_proof 58 = .ok (.iload_n 1, 1) := by decide +kernel
theorem dX5_proof_59 : decode cX5_proof 59 = .ok (.ireturn, 1) := by decide +kernel
theorem dX5_ray_0 : decode cX5_ray 0 = .ok (.iload_n 1, 1) := by decide +kernel
theorem dX5_ray_1 : decode cX5_ray 1 = .ok (.i2l, 1) := by decide +kernel
theorem dX5_ray_2 : decode cX5_ray 2 = .ok (.ldc2_w 145, 3) := by decide +kernel
theorem dX5_ray_5 : decode cX5_ray 5 = .ok (.ldc2_w 147, 3) := by decide +kernel
theorem dX5_ray_8 : decode cX5_ray 8 = .ok (.invokestatic 59, 3) := by decide +kernel
theorem dX5_ray_11 : decode cX5_ray 11 = .ok (.ifCond .eq 43, 3) := by decide +kernel
theorem dX5_ray_14 : decode cX5_ray 14 = .ok (.iload_n 2, 1) := by decide +kernel
theorem dX5_ray_15 : decode cX5_ray 15 = .ok (.i2l, 1) := by decide +kernel
theorem dX5_ray_16 : decode cX5_ray 16 = .ok (.ldc2_w 145, 3) := by decide +kernel
theorem dX5_ray_19 : decode cX5_ray 19 = .ok (.ldc2_w 147, 3) := by decide +kernel
theorem dX5_ray_22 : decode cX5_ray 22 = .ok (.invokestatic 59, 3) := by decide +kernel
theorem dX5_ray_25 : decode cX5_ray 25 = .ok (.ifCond .eq 29, 3) := by decide +kernel
theorem dX5_ray_28 : decode cX5_ray 28 = .ok (.iload_n 3, 1) := by decide +kernel
theorem dX5_ray_29 : decode cX5_ray 29 = .ok (.i2l, 1) := by decide +kernel
theorem dX5_ray_30 : decode cX5_ray 30 = .ok (.ldc2_w 145, 3) := by decide +kernel
theorem dX5_ray_33 : decode cX5_ray 33 = .ok (.ldc2_w 147, 3) := by decide +kernel
theorem dX5_ray_36 : decode cX5_ray 36 = .ok (.invokestatic 59, 3) := by decide +kernel
theorem dX5_ray_39 : decode cX5_ray 39 = .ok (.ifCond .eq 15, 3) := by decide +kernel
theorem dX5_ray_42 : decode cX5_ray 42 = .ok (.iload_n 1, 1) := by decide +kernel
theorem dX5_ray_43 : decode cX5_ray 43 = .ok (.ifCond .ne 13, 3) := by decide +kernel
theorem dX5_ray_46 : decode cX5_ray 46 = .ok (.iload_n 2, 1) := by decide +kernel
theorem dX5_ray_47 : decode cX5_ray 47 = .ok (.ifCond .ne 9, 3) := by decide +kernel
theorem dX5_ray_50 : decode cX5_ray 50 = .ok (.iload_n 3, 1) := by decide +kernel
theorem dX5_ray_51 : decode cX5_ray 51 = .ok (.ifCond .ne 5, 3) := by decide +kernel
theorem dX5_ray_54 : decode cX5_ray 54 = .ok (.iconst (-1), 1) := by decide +kernel
theorem dX5_ray_55 : decode cX5_ray 55 = .ok (.ireturn, 1) := by decide +kernel
theorem dX5_ray_56 : decode cX5_ray 56 = .ok (.iconst 0, 1) := by decide +kernel
theorem dX5_ray_57 : decode cX5_ray 57 = .ok (.istore 4, 2) := by decide +kernel
theorem dX5_ray_59 : decode cX5_ray 59 = .ok (.iload 4, 2) := by decide +kernel
theorem dX5_ray_61 : decode cX5_ray 61 = .ok (.aload_n 0, 1) := by decide +kernel
theorem dX5_ray_62 : decode cX5_ray 62 = .ok (.getfield 149, 3) := by decide +kernel
theorem dX5_ray_65 : decode cX5_ray 65 = .ok (.if_icmp .ge 75, 3) := by decide +kernel
theorem dX5_ray_68 : decode cX5_ray 68 = .ok (.iload_n 1, 1) := by decide +kernel
theorem dX5_ray_69 : decode cX5_ray 69 = .ok (.aload_n 0, 1) := by decide +kernel
theorem dX5_ray_70 : decode cX5_ray 70 = .ok (.getfield 35, 3) := by decide +kernel
theorem dX5_ray_73 : decode cX5_ray 73 = .ok (.iload 4, 2) := by decide +kernel
theorem dX5_ray_75 : decode cX5_ray 75 = .ok (.iaload, 1) := by decide +kernel
theorem dX5_ray_76 : decode cX5_ray 76 = .ok (.imul, 1) := by decide +kernel
theorem dX5_ray_77 : decode cX5_ray 77 = .ok (.iload_n 2, 1) := by decide +kernel
theorem dX5_ray_78 : decode cX5_ray 78 = .ok (.aload_n 0, 1) := by decide +kernel
theorem dX5_ray_79 : decode cX5_ray 79 = .ok (.getfield 32, 3) := by decide +kernel
theorem dX5_ray_82 : decode cX5_ray 82 = .ok (.iload 4, 2) := by decide +kernel
theorem dX5_ray_84 : decode cX5_ray 84 = .ok (.iaload, 1) := by decide +kernel
theorem dX5_ray_85 : decode cX5_ray 85 = .ok (.imul, 1) := by decide +kernel
theorem dX5_ray_86 : decode cX5_ray 86 = .ok (.if_icmp .ne 48, 3) := by decide +kernel
theorem dX5_ray_89 : decode cX5_ray 89 = .ok (.iload_n 2, 1) := by decide +kernel
theorem dX5_ray_90 : decode cX5_ray 90 = .ok (.aload_n 0, 1) := by decide +kernel
theorem dX5_ray_91 : decode cX5_ray 91 = .ok (.getfield 38, 3) := by decide +kernel
theorem dX5_ray_94 : decode cX5_ray 94 = .ok (.iload 4, 2) := by decide +kernel
theorem dX5_ray_96 : decode cX5_ray 96 = .ok (.iaload, 1) := by decide +kernel
theorem dX5_ray_97 : decode cX5_ray 97 = .ok (.imul, 1) := by decide +kernel
theorem dX5_ray_98 : decode cX5_ray 98 = .ok (.iload_n 3, 1) := by decide +kernel
theorem dX5_ray_99 : decode cX5_ray 99 = .ok (.aload_n 0, 1) := by decide +kernel
theorem dX5_ray_100 : decode cX5_ray 100 = .ok (.getfield 35, 3) := by decide +kernel
theorem dX5_ray_103 : decode cX5_ray 103 = .ok (.iload 4, 2) := by decide +kernel
theorem dX5_ray_105 : decode cX5_ray 105 = .ok (.iaload, 1) := by decide +kernel
theorem dX5_ray_106 : decode cX5_ray 106 = .ok (.imul, 1) := by decide +kernel
theorem dX5_ray_107 : decode cX5_ray 107 = .ok (.if_icmp .ne 27, 3) := by decide +kernel
theorem dX5_ray_110 : decode cX5_ray 110 = .ok (.iload_n 1, 1) := by decide +kernel
theorem dX5_ray_111 : decode cX5_ray 111 = .ok (.aload_n 0, 1) := by decide +kernel
theorem dX5_ray_112 : decode cX5_ray 112 = .ok (.getfield 38, 3) := by decide +kernel
theorem dX5_ray_115 : decode cX5_ray 115 = .ok (.iload 4, 2) := by decide +kernel
theorem dX5_ray_117 : decode cX5_ray 117 = .ok (.iaload, 1) := by decide +kernel
theorem dX5_ray_118 : decode cX5_ray 118 = .ok (.imul, 1) := by decide +kernel
theorem dX5_ray_119 : decode cX5_ray 119 = .ok (.iload_n 3, 1) := by decide +kernel
theorem dX5_ray_120 : decode cX5_ray 120 = .ok (.aload_n 0, 1) := by decide +kernel
theorem dX5_ray_121 : decode cX5_ray 121 = .ok (.getfield 32, 3) := by decide +kernel
theorem dX5_ray_124 : decode cX5_ray 124 = .ok (.iload 4, 2) := by decide +kernel
theorem dX5_ray_126 : decode cX5_ray 126 = .ok (.iaload, 1) := by decide +kernel
theorem dX5_ray_127 : decode cX5_ray 127 = .ok (.imul, 1) := by decide +kernel
theorem dX5_ray_128 : decode cX5_ray 128 = .ok (.if_icmp .ne 6, 3) := by decide +kernel
theorem dX5_ray_131 : decode cX5_ray 131 = .ok (.bipush (-2), 2) := by decide +kernel
theorem dX5_ray_133 : decode cX5_ray 133 = .ok (.ireturn, 1) := by decide +kernel
theorem dX5_ray_134 : decode cX5_ray 134 = .ok (.iinc 4 1, 3) := by decide +kernel
theorem dX5_ray_137 : decode cX5_ray 137 = .ok (.goto (-78), 3) := by decide +kernel
theorem dX5_ray_140 : decode cX5_ray 140 = .ok (.aload_n 0, 1) := by decide +kernel
theorem dX5_ray_141 : decode cX5_ray 141 = .ok (.getfield 149, 3) := by decide +kernel
theorem dX5_ray_144 : decode cX5_ray 144 = .ok (.bipush 12, 2) := by decide +kernel
theorem dX5_ray_146 : decode cX5_ray 146 = .ok (.if_icmp .ne 6, 3) := by decide +kernel
theorem dX5_ray_149 : decode cX5_ray 149 = .ok (.bipush (-3), 2) := by decide +kernel
theorem dX5_ray_151 : decode cX5_ray 151 = .ok (.ireturn, 1) := by decide +kernel
theorem dX5_ray_152 : decode cX5_ray 152 = .ok (.aload_n 0, 1) := by decide +kernel
theorem dX5_ray_153 : decode cX5_ray 153 = .ok (.getfield 32, 3) := by decide +kernel
theorem dX5_ray_156 : decode cX5_ray 156 = .ok (.aload_n 0, 1) := by decide +kernel
theorem dX5_ray_157 : decode cX5_ray 157 = .ok (.getfield 149, 3) := by decide +kernel
theorem dX5_ray_160 : decode cX5_ray 160 = .ok (.iload_n 1, 1) := by decide +kernel
theorem dX5_ray_161 : decode cX5_ray 161 = .ok (.iastore, 1) := by decide +kernel
theorem dX5_ray_162 : decode cX5_ray 162 = .ok (.aload_n 0, 1) := by decide +kernel
theorem dX5_ray_163 : decode cX5_ray 163 = .ok (.getfield 35, 3) := by decide +kernel
theorem dX5_ray_166 : decode cX5_ray 166 = .ok (.aload_n 0, 1) := by decide +kernel
theorem dX5_ray_167 : decode cX5_ray 167 = .ok (.getfield 149, 3) := by decide +kernel
theorem dX5_ray_170 : decode cX5_ray 170 = .ok (.iload_n 2, 1) := by decide +kernel
theorem dX5_ray_171 : decode cX5_ray 171 = .ok (.iastore, 1) := by decide +kernel
theorem dX5_ray_172 : decode cX5_ray 172 = .ok (.aload_n 0, 1) := by decide +kernel
theorem dX5_ray_173 : decode cX5_ray 173 = .ok (.getfield 38, 3) := by decide +kernel
theorem dX5_ray_176 : decode cX5_ray 176 = .ok (.aload_n 0, 1) := by decide +kernel
theorem dX5_ray_177 : decode cX5_ray 177 = .ok (.getfield 149, 3) := by decide +kernel
theorem dX5_ray_180 : decode cX5_ray 180 = .ok (.iload_n 3, 1) := by decide +kernel
theorem dX5_ray_181 : decode cX5_ray 181 = .ok (.iastore, 1) := by decide +kernel
theorem dX5_ray_182 : decode cX5_ray 182 = .ok (.aload_n 0, 1) := by decide +kernel
theorem dX5_ray_183 : decode cX5_ray 183 = .ok (.dup, 1) := by decide +kernel
theorem dX5_ray_184 : decode cX5_ray 184 = .ok (.getfield 149, 3) := by decide +kernel
theorem dX5_ray_187 : decode cX5_ray 187 = .ok (.iconst 1, 1) := by decide +kernel
theorem dX5_ray_188 : decode cX5_ray 188 = .ok (.iadd, 1) := by decide +kernel
theorem dX5_ray_189 : decode cX5_ray 189 = .ok (.putfield 149, 3) := by decide +kernel
theorem dX5_ray_192 : decode cX5_ray 192 = .ok (.aload_n 0, 1) := by decide +kernel
theorem dX5_ray_193 : decode cX5_ray 193 = .ok (.getfield 149, 3) := by decide +kernel
theorem dX5_ray_196 : decode cX5_ray 196 = .ok (.iconst 1, 1) := by decide +kernel
theorem dX5_ray_197 : decode cX5_ray 197 = .ok (.isub, 1) := by decide +kernel
theorem dX5_ray_198 : decode cX5_ray 198 = .ok (.ireturn, 1) := by decide +kernel
theorem dX5_cut_0 : decode cX5_cut 0 = .ok (.aload_n 0, 1) := by decide +kernel
theorem dX5_cut_1 : decode cX5_cut 1 = .ok (.getfield 149, 3) := by decide +kernel
theorem dX5_cut_4 : decode cX5_cut 4 = .ok (.ifCond .ne 6, 3) := by decide +kernel
theorem dX5_cut_7 : decode cX5_cut 7 = .ok (.bipush (-4), 2) := by decide +kernel
theorem dX5_cut_9 : decode cX5_cut 9 = .ok (.ireturn, 1) := by decide +kernel
theorem dX5_cut_10 : decode cX5_cut 10 = .ok (.aload_n 0, 1) := by decide +kernel
theorem dX5_cut_11 : decode cX5_cut 11 = .ok (.dup, 1) := by decide +kernel
theorem dX5_cut_12 : decode cX5_cut 12 = .ok (.getfield 149, 3) := by decide +kernel
theorem dX5_cut_15 : decode cX5_cut 15 = .ok (.iconst 1, 1) := by decide +kernel
theorem dX5_cut_16 : decode cX5_cut 16 = .ok (.isub, 1) := by decide +kernel
theorem dX5_cut_17 : decode cX5_cut 17 = .ok (.putfield 149, 3) := by decide +kernel
theorem dX5_cut_20 : decode cX5_cut 20 = .ok (.aload_n 0, 1) := by decide +kernel
theorem dX5_cut_21 : decode cX5_cut 21 = .ok (.getfield 149, 3) := by decide +kernel
theorem dX5_cut_24 : decode cX5_cut 24 = .ok (.ireturn, 1) := by decide +kernel
theorem dX5_areSquare_0 : decode cX5_areSquare 0 = .ok (.iload_n 1, 1) := by decide +kernel
theorem dX5_areSquare_1 : decode cX5_areSquare 1 = .ok (.iload_n 2, 1) := by decide +kernel
theorem dX5_areSquare_2 : decode cX5_areSquare 2 = .ok (.if_icmp .eq 51, 3) := by decide +kernel
theorem dX5_areSquare_5 : decode cX5_areSquare 5 = .ok (.aload_n 0, 1) := by decide +kernel
theorem dX5_areSquare_6 : decode cX5_areSquare 6 = .ok (.getfield 32, 3) := by decide +kernel
theorem dX5_areSquare_9 : decode cX5_areSquare 9 = .ok (.iload_n 1, 1) := by decide +kernel
theorem dX5_areSquare_10 : decode cX5_areSquare 10 = .ok (.iaload, 1) := by decide +kernel
theorem dX5_areSquare_11 : decode cX5_areSquare 11 = .ok (.aload_n 0, 1) := by decide +kernel
theorem dX5_areSquare_12 : decode cX5_areSquare 12 = .ok (.getfield 32, 3) := by decide +kernel
theorem dX5_areSquare_15 : decode cX5_areSquare 15 = .ok (.iload_n 2, 1) := by decide +kernel
theorem dX5_areSquare_16 : decode cX5_areSquare 16 = .ok (.iaload, 1) := by decide +kernel
theorem dX5_areSquare_17 : decode cX5_areSquare 17 = .ok (.imul, 1) := by decide +kernel
theorem dX5_areSquare_18 : decode cX5_areSquare 18 = .ok (.aload_n 0, 1) := by decide +kernel
theorem dX5_areSquare_19 : decode cX5_areSquare 19 = .ok (.getfield 35, 3) := by decide +kernel
theorem dX5_areSquare_22 : decode cX5_areSquare 22 = .ok (.iload_n 1, 1) := by decide +kernel
theorem dX5_areSquare_23 : decode cX5_areSquare 23 = .ok (.iaload, 1) := by decide +kernel
theorem dX5_areSquare_24 : decode cX5_areSquare 24 = .ok (.aload_n 0, 1) := by decide +kernel
theorem dX5_areSquare_25 : decode cX5_areSquare 25 = .ok (.getfield 35, 3) := by decide +kernel
theorem dX5_areSquare_28 : decode cX5_areSquare 28 = .ok (.iload_n 2, 1) := by decide +kernel
theorem dX5_areSquare_29 : decode cX5_areSquare 29 = .ok (.iaload, 1) := by decide +kernel
theorem dX5_areSquare_30 : decode cX5_areSquare 30 = .ok (.imul, 1) := by decide +kernel
theorem dX5_areSquare_31 : decode cX5_areSquare 31 = .ok (.iadd, 1) := by decide +kernel
theorem dX5_areSquare_32 : decode cX5_areSquare 32 = .ok (.aload_n 0, 1) := by decide +kernel
theorem dX5_areSquare_33 : decode cX5_areSquare 33 = .ok (.getfield 38, 3) := by decide +kernel
theorem dX5_areSquare_36 : decode cX5_areSquare 36 = .ok (.iload_n 1, 1) := by decide +kernel
theorem dX5_areSquare_37 : decode cX5_areSquare 37 = .ok (.iaload, 1) := by decide +kernel
theorem dX5_areSquare_38 : decode cX5_areSquare 38 = .ok (.aload_n 0, 1) := by decide +kernel
theorem dX5_areSquare_39 : decode cX5_areSquare 39 = .ok (.getfield 38, 3) := by decide +kernel
theorem dX5_areSquare_42 : decode cX5_areSquare 42 = .ok (.iload_n 2, 1) := by decide +kernel
theorem dX5_areSquare_43 : decode cX5_areSquare 43 = .ok (.iaload, 1) := by decide +kernel
theorem dX5_areSquare_44 : decode cX5_areSquare 44 = .ok (.imul, 1) := by decide +kernel
theorem dX5_areSquare_45 : decode cX5_areSquare 45 = .ok (.iadd, 1) := by decide +kernel
theorem dX5_areSquare_46 : decode cX5_areSquare 46 = .ok (.ifCond .ne 7, 3) := by decide +kernel
theorem dX5_areSquare_49 : decode cX5_areSquare 49 = .ok (.iconst 1, 1) := by decide +kernel
theorem dX5_areSquare_50 : decode cX5_areSquare 50 = .ok (.goto 4, 3) := by decide +kernel
theorem dX5_areSquare_53 : decode cX5_areSquare 53 = .ok (.iconst 0, 1) := by decide +kernel
theorem dX5_areSquare_54 : decode cX5_areSquare 54 = .ok (.ireturn, 1) := by decide +kernel
theorem dX5_squareOf_0 : decode cX5_squareOf 0 = .ok (.iconst 0, 1) := by decide +kernel
theorem dX5_squareOf_1 : decode cX5_squareOf 1 = .ok (.istore_n 2, 1) := by decide +kernel
theorem dX5_squareOf_2 : decode cX5_squareOf 2 = .ok (.iconst 0, 1) := by decide +kernel
theorem dX5_squareOf_3 : decode cX5_squareOf 3 = .ok (.istore_n 3, 1) := by decide +kernel
theorem dX5_squareOf_4 : decode cX5_squareOf 4 = .ok (.iload_n 3, 1) := by decide +kernel
theorem dX5_squareOf_5 : decode cX5_squareOf 5 = .ok (.aload_n 0, 1) := by decide +kernel
theorem dX5_squareOf_6 : decode cX5_squareOf 6 = .ok (.getfield 149, 3) := by decide +kernel
theorem dX5_squareOf_9 : decode cX5_squareOf 9 = .ok (.if_icmp .ge 28, 3) := by decide +kernel
theorem dX5_squareOf_12 : decode cX5_squareOf 12 = .ok (.iload_n 2, 1) := by decide +kernel
theorem dX5_squareOf_13 : decode cX5_squareOf 13 = .ok (.aload_n 0, 1) := by decide +kernel
theorem dX5_squareOf_14 : decode cX5_squareOf 14 = .ok (.iload_n 1, 1) := by decide +kernel
theorem dX5_squareOf_15 : decode cX5_squareOf 15 = .ok (.iload_n 3, 1) := by decide +kernel
theorem dX5_squareOf_16 : decode cX5_squareOf 16 = .ok (.invokevirtual 152, 3) := by decide +kernel
theorem dX5_squareOf_19 : decode cX5_squareOf 19 = .ok (.ifCond .eq 9, 3) := by decide +kernel
theorem dX5_squareOf_22 : decode cX5_squareOf 22 = .ok (.iconst 1, 1) := by decide +kernel
theorem dX5_squareOf_23 : decode cX5_squareOf 23 = .ok (.iload_n 3, 1) := by decide +kernel
theorem dX5_squareOf_24 : decode cX5_squareOf 24 = .ok (.ishl, 1) := by decide +kernel
theorem dX5_squareOf_25 : decode cX5_squareOf 25 = .ok (.goto 4, 3) := by decide +kernel
theorem dX5_squareOf_28 : decode cX5_squareOf 28 = .ok (.iconst 0, 1) := by decide +kernel
theorem dX5_squareOf_29 : decode cX5_squareOf 29 = .ok (.ior, 1) := by decide +kernel
theorem dX5_squareOf_30 : decode cX5_squareOf 30 = .ok (.istore_n 2, 1) := by decide +kernel
theorem dX5_squareOf_31 : decode cX5_squareOf 31 = .ok (.iinc 3 1, 3) := by decide +kernel
theorem dX5_squareOf_34 : decode cX5_squareOf 34 = .ok (.goto (-30), 3) := by decide +kernel
theorem dX5_squareOf_37 : decode cX5_squareOf 37 = .ok (.iload_n 2, 1) := by decide +kernel
theorem dX5_squareOf_38 : decode cX5_squareOf 38 = .ok (.ireturn, 1) := by decide +kernel
theorem dX5_square_0 : decode cX5_square 0 = .ok (.iload_n 1, 1) := by decide +kernel
theorem dX5_square_1 : decode cX5_square 1 = .ok (.i2l, 1) := by decide +kernel
theorem dX5_square_2 : decode cX5_square 2 = .ok (.lconst 0, 1) := by decide +kernel
theorem dX5_square_3 : decode cX5_square 3 = .ok (.aload_n 0, 1) := by decide +kernel
theorem dX5_square_4 : decode cX5_square 4 = .ok (.getfield 149, 3) := by decide +kernel
theorem dX5_square_7 : decode cX5_square 7 = .ok (.iconst 1, 1) := by decide +kernel
theorem dX5_square_8 : decode cX5_square 8 = .ok (.isub, 1) := by decide +kernel
theorem dX5_square_9 : decode cX5_square 9 = .ok (.i2l, 1) := by decide +kernel
theorem dX5_square_10 : decode cX5_square 10 = .ok (.invokestatic 59, 3) := by decide +kernel
theorem dX5_square_13 : decode cX5_square 13 = .ok (.ifCond .eq 11, 3) := by decide +kernel
theorem dX5_square_16 : decode cX5_square 16 = .ok (.aload_n 0, 1) := by decide +kernel
theorem dX5_square_17 : decode cX5_square 17 = .ok (.iload_n 1, 1) := by decide +kernel
theorem dX5_square_18 : decode cX5_square 18 = .ok (.invokevirtual 155, 3) := by decide +kernel
theorem dX5_square_21 : decode cX5_square 21 = .ok (.goto 4, 3) := by decide +kernel
theorem dX5_square_24 : decode cX5_square 24 = .ok (.iconst (-1), 1) := by decide +kernel
theorem dX5_square_25 : decode cX5_square 25 = .ok (.ireturn, 1) := by decide +kernel
theorem dX5_findThrees_0 : decode cX5_findThrees 0 = .ok (.iconst 0, 1) := by decide +kernel
theorem dX5_findThrees_1 : decode cX5_findThrees 1 = .ok (.istore_n 1, 1) := by decide +kernel
theorem dX5_findThrees_2 : decode cX5_findThrees 2 = .ok (.aload_n 0, 1) := by decide +kernel
theorem dX5_findThrees_3 : decode cX5_findThrees 3 = .ok (.iconst 0, 1) := by decide +kernel
theorem dX5_findThrees_4 : decode cX5_findThrees 4 = .ok (.putfield 158, 3) := by decide +kernel
theorem dX5_findThrees_7 : decode cX5_findThrees 7 = .ok (.iconst 0, 1) := by decide +kernel
theorem dX5_findThrees_8 : decode cX5_findThrees 8 = .ok (.istore_n 2, 1) := by decide +kernel
theorem dX5_findThrees_9 : decode cX5_findThrees 9 = .ok (.iload_n 2, 1) := by decide +kernel
theorem dX5_findThrees_10 : decode cX5_findThrees 10 = .ok (.aload_n 0, 1) := by decide +kernel
theorem dX5_findThrees_11 : decode cX5_findThrees 11 = .ok (.getfield 149, 3) := by decide +kernel
theorem dX5_findThrees_14 : decode cX5_findThrees 14 = .ok (.if_icmp .ge 20, 3) := by decide +kernel
theorem dX5_findThrees_17 : decode cX5_findThrees 17 = .ok (.aload_n 0, 1) := by decide +kernel
theorem dX5_findThrees_18 : decode cX5_findThrees 18 = .ok (.getfield 41, 3) := by decide +kernel
theorem dX5_findThrees_21 : decode cX5_findThrees 21 = .ok (.iload_n 2, 1) := by decide +kernel
theorem dX5_findThrees_22 : decode cX5_findThrees 22 = .ok (.aload_n 0, 1) := by decide +kernel
theorem dX5_findThrees_23 : decode cX5_findThrees 23 = .ok (.iload_n 2, 1) := by decide +kernel
theorem dX5_findThrees_24 : decode cX5_findThrees 24 = .ok (.invokevirtual 155, 3) := by decide +kernel
theorem dX5_findThrees_27 : decode cX5_findThrees 27 = .ok (.iastore, 1) := by decide +kernel
theorem dX5_findThrees_28 : decode cX5_findThrees 28 = .ok (.iinc 2 1, 3) := by decide +kernel
theorem dX5_findThrees_31 : decode cX5_findThrees 31 = .ok (.goto (-22), 3) := by decide +kernel
theorem dX5_findThrees_34 : decode cX5_findThrees 34 = .ok (.iconst 0, 1) := by decide +kernel
theorem dX5_findThrees_35 : decode cX5_findThrees 35 = .ok (.istore_n 2, 1) := by decide +kernel
theorem dX5_findThrees_36 : decode cX5_findThrees 36 = .ok (.iload_n 2, 1) := by decide +kernel
theorem dX5_findThrees_37 : decode cX5_findThrees 37 = .ok (.aload_n 0, 1) := by decide +kernel
theorem dX5_findThrees_38 : decode cX5_findThrees 38 = .ok (.getfield 149, 3) := by decide +kernel
theorem dX5_findThrees_41 : decode cX5_findThrees 41 = .ok (.if_icmp .ge 115, 3) := by decide +kernel
theorem dX5_findThrees_44 : decode cX5_findThrees 44 = .ok (.iconst 0, 1) := by decide +kernel
theorem dX5_findThrees_45 : decode cX5_findThrees 45 = .ok (.istore_n 3, 1) := by decide +kernel
theorem dX5_findThrees_46 : decode cX5_findThrees 46 = .ok (.iload_n 3, 1) := by decide +kernel
theorem dX5_findThrees_47 : decode cX5_findThrees 47 = .ok (.iload_n 2, 1) := by decide +kernel
theorem dX5_findThrees_48 : decode cX5_findThrees 48 = .ok (.if_icmp .ge 102, 3) := by decide +kernel
theorem dX5_findThrees_51 : decode cX5_findThrees 51 = .ok (.aload_n 0, 1) := by decide +kernel
theorem dX5_findThrees_52 : decode cX5_findThrees 52 = .ok (.getfield 41, 3) := by decide +kernel
theorem dX5_findThrees_55 : decode cX5_findThrees 55 = .ok (.iload_n 2, 1) := by decide +kernel
theorem dX5_findThrees_56 : decode cX5_findThrees 56 = .ok (.iaload, 1) := by decide +kernel
theorem dX5_findThrees_57 : decode cX5_findThrees 57 = .ok (.iload_n 3, 1) := by decide +kernel
theorem dX5_findThrees_58 : decode cX5_findThrees 58 = .ok (.ishr, 1) := by decide +kernel
theorem dX5_findThrees_59 : decode cX5_findThrees 59 = .ok (.iconst 1, 1) := by decide +kernel
theorem dX5_findThrees_60 : decode cX5_findThrees 60 = .ok (.iand, 1) := by decide +kernel
theorem dX5_findThrees_61 : decode cX5_findThrees 61 = .ok (.iconst 1, 1) := by decide +kernel
theorem dX5_findThrees_62 : decode cX5_findThrees 62 = .ok (.if_icmp .ne 82, 3) := by decide +kernel
theorem dX5_findThrees_65 : decode cX5_findThrees 65 = .ok (.iinc 1 1, 3) := by decide +kernel
theorem dX5_findThrees_68 : decode cX5_findThrees 68 = .ok (.iconst 0, 1) := by decide +kernel
theorem dX5_findThrees_69 : decode cX5_findThrees 69 = .ok (.istore 4, 2) := by decide +kernel
theorem dX5_findThrees_71 : decode cX5_findThrees 71 = .ok (.iload 4, 2) := by decide +kernel
theorem dX5_findThrees_73 : decode cX5_findThrees 73 = .ok (.iload_n 3, 1) := by decide +kernel
theorem dX5_findThrees_74 : decode cX5_findThrees 74 = .ok (.if_icmp .ge 70, 3) := by decide +kernel
theorem dX5_findThrees_77 : decode cX5_findThrees 77 = .ok (.aload_n 0, 1) := by decide +kernel
theorem dX5_findThrees_78 : decode cX5_findThrees 78 = .ok (.getfield 41, 3) := by decide +kernel
theorem dX5_findThrees_81 : decode cX5_findThrees 81 = .ok (.iload_n 2, 1) := by decide +kernel
theorem dX5_findThrees_82 : decode cX5_findThrees 82 = .ok (.iaload, 1) := by decide +kernel
theorem dX5_findThrees_83 : decode cX5_findThrees 83 = .ok (.iload 4, 2) := by decide +kernel
theorem dX5_findThrees_85 : decode cX5_findThrees 85 = .ok (.ishr, 1) := by decide +kernel
theorem dX5_findThrees_86 : decode cX5_findThrees 86 = .ok (.iconst 1, 1) := by decide +kernel
theorem dX5_findThrees_87 : decode cX5_findThrees 87 = .ok (.iand, 1) := by decide +kernel
theorem dX5_findThrees_88 : decode cX5_findThrees 88 = .ok (.iconst 1, 1) := by decide +kernel
theorem dX5_findThrees_89 : decode cX5_findThrees 89 = .ok (.if_icmp .ne 49, 3) := by decide +kernel
theorem dX5_findThrees_92 : decode cX5_findThrees 92 = .ok (.aload_n 0, 1) := by decide +kernel
theorem dX5_findThrees_93 : decode cX5_findThrees 93 = .ok (.getfield 41, 3) := by decide +kernel
theorem dX5_findThrees_96 : decode cX5_findThrees 96 = .ok (.iload_n 3, 1) := by decide +kernel
theorem dX5_findThrees_97 : decode cX5_findThrees 97 = .ok (.iaload, 1) := by decide +kernel
theorem dX5_findThrees_98 : decode cX5_findThrees 98 = .ok (.iload 4, 2) := by decide +kernel
theorem dX5_findThrees_100 : decode cX5_findThrees 100 = .ok (.ishr, 1) := by decide +kernel
theorem dX5_findThrees_101 : decode cX5_findThrees 101 = .ok (.iconst 1, 1) := by decide +kernel
theorem dX5_findThrees_102 : decode cX5_findThrees 102 = .ok (.iand, 1) := by decide +kernel
theorem dX5_findThrees_103 : decode cX5_findThrees 103 = .ok (.iconst 1, 1) := by decide +kernel
theorem dX5_findThrees_104 : decode cX5_findThrees 104 = .ok (.if_icmp .ne 34, 3) := by decide +kernel
theorem dX5_findThrees_107 : decode cX5_findThrees 107 = .ok (.aload_n 0, 1) := by decide +kernel
theorem dX5_findThrees_108 : decode cX5_findThrees 108 = .ok (.getfield 44, 3) := by decide +kernel
theorem dX5_findThrees_111 : decode cX5_findThrees 111 = .ok (.aload_n 0, 1) := by decide +kernel
theorem dX5_findThrees_112 : decode cX5_findThrees 112 = .ok (.getfield 158, 3) := by decide +kernel
theorem dX5_findThrees_115 : decode cX5_findThrees 115 = .ok (.iconst 1, 1) := by decide +kernel
theorem dX5_findThrees_116 : decode cX5_findThrees 116 = .ok (.iload_n 2, 1) := by decide +kernel
theorem dX5_findThrees_117 : decode cX5_findThrees 117 = .ok (.ishl, 1) := by decide +kernel
theorem dX5_findThrees_118 : decode cX5_findThrees 118 = .ok (.iconst 1, 1) := by decide +kernel
theorem dX5_findThrees_119 : decode cX5_findThrees 119 = .ok (.iload_n 3, 1) := by decide +kernel
theorem dX5_findThrees_120 : decode cX5_findThrees 120 = .ok (.ishl, 1) := by decide +kernel
theorem dX5_findThrees_121 : decode cX5_findThrees 121 = .ok (.ior, 1) := by decide +kernel
theorem dX5_findThrees_122 : decode cX5_findThrees 122 = .ok (.iconst 1, 1) := by decide +kernel
theorem dX5_findThrees_123 : decode cX5_findThrees 123 = .ok (.iload 4, 2) := by decide +kernel
theorem dX5_findThrees_125 : decode cX5_findThrees 125 = .ok (.ishl, 1) := by decide +kernel
theorem dX5_findThrees_126 : decode cX5_findThrees 126 = .ok (.ior, 1) := by decide +kernel
theorem dX5_findThrees_127 : decode cX5_findThrees 127 = .ok (.iastore, 1) := by decide +kernel
theorem dX5_findThrees_128 : decode cX5_findThrees 128 = .ok (.aload_n 0, 1) := by decide +kernel
theorem dX5_findThrees_129 : decode cX5_findThrees 129 = .ok (.dup, 1) := by decide +kernel
theorem dX5_findThrees_130 : decode cX5_findThrees 130 = .ok (.getfield 158, 3) := by decide +kernel
theorem dX5_findThrees_133 : decode cX5_findThrees 133 = .ok (.iconst 1, 1) := by decide +kernel
theorem dX5_findThrees_134 : decode cX5_findThrees 134 = .ok (.iadd, 1) := by decide +kernel
theorem dX5_findThrees_135 : decode cX5_findThrees 135 = .ok (.putfield 158, 3) := by decide +kernel
theorem dX5_findThrees_138 : decode cX5_findThrees 138 = .ok (.iinc 4 1, 3) := by decide +kernel
theorem dX5_findThrees_141 : decode cX5_findThrees 141 = .ok (.goto (-70), 3) := by decide +kernel
theorem dX5_findThrees_144 : decode cX5_findThrees 144 = .ok (.iinc 3 1, 3) := by decide +kernel
theorem dX5_findThrees_147 : decode cX5_findThrees 147 = .ok (.goto (-101), 3) := by decide +kernel
theorem dX5_findThrees_150 : decode cX5_findThrees 150 = .ok (.iinc 2 1, 3) := by decide +kernel
end
section
theorem dX5_findThrees_153 : decode cX5_findThrees 153 = .ok (.goto (-117), 3) := by decide +kernel
theorem dX5_findThrees_156 : decode cX5_findThrees 156 = .ok (.iload_n 1, 1) := by decide +kernel
theorem dX5_findThrees_157 : decode cX5_findThrees 157 = .ok (.ireturn, 1) := by decide +kernel
theorem dX5_isColour_0 : decode cX5_isColour 0 = .ok (.iconst 1, 1) := by decide +kernel
theorem dX5_isColour_1 : decode cX5_isColour 1 = .ok (.istore_n 2, 1) := by decide +kernel
theorem dX5_isColour_2 : decode cX5_isColour 2 = .ok (.iconst 0, 1) := by decide +kernel
theorem dX5_isColour_3 : decode cX5_isColour 3 = .ok (.istore_n 3, 1) := by decide +kernel
theorem dX5_isColour_4 : decode cX5_isColour 4 = .ok (.iload_n 3, 1) := by decide +kernel
theorem dX5_isColour_5 : decode cX5_isColour 5 = .ok (.aload_n 0, 1) := by decide +kernel
theorem dX5_isColour_6 : decode cX5_isColour 6 = .ok (.getfield 149, 3) := by decide +kernel
theorem dX5_isColour_9 : decode cX5_isColour 9 = .ok (.if_icmp .ge 38, 3) := by decide +kernel
theorem dX5_isColour_12 : decode cX5_isColour 12 = .ok (.iload_n 2, 1) := by decide +kernel
theorem dX5_isColour_13 : decode cX5_isColour 13 = .ok (.ifCond .eq 34, 3) := by decide +kernel
theorem dX5_isColour_16 : decode cX5_isColour 16 = .ok (.iload_n 1, 1) := by decide +kernel
theorem dX5_isColour_17 : decode cX5_isColour 17 = .ok (.iload_n 3, 1) := by decide +kernel
theorem dX5_isColour_18 : decode cX5_isColour 18 = .ok (.ishr, 1) := by decide +kernel
theorem dX5_isColour_19 : decode cX5_isColour 19 = .ok (.iconst 1, 1) := by decide +kernel
theorem dX5_isColour_20 : decode cX5_isColour 20 = .ok (.iand, 1) := by decide +kernel
theorem dX5_isColour_21 : decode cX5_isColour 21 = .ok (.ifCond .eq 14, 3) := by decide +kernel
theorem dX5_isColour_24 : decode cX5_isColour 24 = .ok (.aload_n 0, 1) := by decide +kernel
theorem dX5_isColour_25 : decode cX5_isColour 25 = .ok (.getfield 41, 3) := by decide +kernel
theorem dX5_isColour_28 : decode cX5_isColour 28 = .ok (.iload_n 3, 1) := by decide +kernel
theorem dX5_isColour_29 : decode cX5_isColour 29 = .ok (.iaload, 1) := by decide +kernel
theorem dX5_isColour_30 : decode cX5_isColour 30 = .ok (.iload_n 1, 1) := by decide +kernel
theorem dX5_isColour_31 : decode cX5_isColour 31 = .ok (.iand, 1) := by decide +kernel
theorem dX5_isColour_32 : decode cX5_isColour 32 = .ok (.ifCond .ne 7, 3) := by decide +kernel
theorem dX5_isColour_35 : decode cX5_isColour 35 = .ok (.iconst 1, 1) := by decide +kernel
theorem dX5_isColour_36 : decode cX5_isColour 36 = .ok (.goto 4, 3) := by decide +kernel
theorem dX5_isColour_39 : decode cX5_isColour 39 = .ok (.iconst 0, 1) := by decide +kernel
theorem dX5_isColour_40 : decode cX5_isColour 40 = .ok (.istore_n 2, 1) := by decide +kernel
theorem dX5_isColour_41 : decode cX5_isColour 41 = .ok (.iinc 3 1, 3) := by decide +kernel
theorem dX5_isColour_44 : decode cX5_isColour 44 = .ok (.goto (-40), 3) := by decide +kernel
theorem dX5_isColour_47 : decode cX5_isColour 47 = .ok (.iconst 0, 1) := by decide +kernel
theorem dX5_isColour_48 : decode cX5_isColour 48 = .ok (.istore_n 3, 1) := by decide +kernel
theorem dX5_isColour_49 : decode cX5_isColour 49 = .ok (.iload_n 3, 1) := by decide +kernel
theorem dX5_isColour_50 : decode cX5_isColour 50 = .ok (.aload_n 0, 1) := by decide +kernel
theorem dX5_isColour_51 : decode cX5_isColour 51 = .ok (.getfield 158, 3) := by decide +kernel
theorem dX5_isColour_54 : decode cX5_isColour 54 = .ok (.if_icmp .ge 34, 3) := by decide +kernel
theorem dX5_isColour_57 : decode cX5_isColour 57 = .ok (.iload_n 2, 1) := by decide +kernel
theorem dX5_isColour_58 : decode cX5_isColour 58 = .ok (.ifCond .eq 30, 3) := by decide +kernel
theorem dX5_isColour_61 : decode cX5_isColour 61 = .ok (.aload_n 0, 1) := by decide +kernel
theorem dX5_isColour_62 : decode cX5_isColour 62 = .ok (.getfield 44, 3) := by decide +kernel
theorem dX5_isColour_65 : decode cX5_isColour 65 = .ok (.iload_n 3, 1) := by decide +kernel
theorem dX5_isColour_66 : decode cX5_isColour 66 = .ok (.iaload, 1) := by decide +kernel
theorem dX5_isColour_67 : decode cX5_isColour 67 = .ok (.iload_n 1, 1) := by decide +kernel
theorem dX5_isColour_68 : decode cX5_isColour 68 = .ok (.iand, 1) := by decide +kernel
theorem dX5_isColour_69 : decode cX5_isColour 69 = .ok (.invokestatic 67, 3) := by decide +kernel
theorem dX5_isColour_72 : decode cX5_isColour 72 = .ok (.iconst 1, 1) := by decide +kernel
theorem dX5_isColour_73 : decode cX5_isColour 73 = .ok (.if_icmp .ne 7, 3) := by decide +kernel
theorem dX5_isColour_76 : decode cX5_isColour 76 = .ok (.iconst 1, 1) := by decide +kernel
theorem dX5_isColour_77 : decode cX5_isColour 77 = .ok (.goto 4, 3) := by decide +kernel
theorem dX5_isColour_80 : decode cX5_isColour 80 = .ok (.iconst 0, 1) := by decide +kernel
theorem dX5_isColour_81 : decode cX5_isColour 81 = .ok (.istore_n 2, 1) := by decide +kernel
theorem dX5_isColour_82 : decode cX5_isColour 82 = .ok (.iinc 3 1, 3) := by decide +kernel
theorem dX5_isColour_85 : decode cX5_isColour 85 = .ok (.goto (-36), 3) := by decide +kernel
theorem dX5_isColour_88 : decode cX5_isColour 88 = .ok (.iload_n 2, 1) := by decide +kernel
theorem dX5_isColour_89 : decode cX5_isColour 89 = .ok (.ireturn, 1) := by decide +kernel
theorem dX5_colours_0 : decode cX5_colours 0 = .ok (.iload_n 1, 1) := by decide +kernel
theorem dX5_colours_1 : decode cX5_colours 1 = .ok (.i2l, 1) := by decide +kernel
theorem dX5_colours_2 : decode cX5_colours 2 = .ok (.lconst 0, 1) := by decide +kernel
theorem dX5_colours_3 : decode cX5_colours 3 = .ok (.ldc2_w 161, 3) := by decide +kernel
theorem dX5_colours_6 : decode cX5_colours 6 = .ok (.invokestatic 59, 3) := by decide +kernel
theorem dX5_colours_9 : decode cX5_colours 9 = .ok (.ifCond .ne 5, 3) := by decide +kernel
theorem dX5_colours_12 : decode cX5_colours 12 = .ok (.iconst (-1), 1) := by decide +kernel
theorem dX5_colours_13 : decode cX5_colours 13 = .ok (.ireturn, 1) := by decide +kernel
theorem dX5_colours_14 : decode cX5_colours 14 = .ok (.aload_n 0, 1) := by decide +kernel
theorem dX5_colours_15 : decode cX5_colours 15 = .ok (.invokevirtual 163, 3) := by decide +kernel
theorem dX5_colours_18 : decode cX5_colours 18 = .ok (.istore_n 2, 1) := by decide +kernel
theorem dX5_colours_19 : decode cX5_colours 19 = .ok (.iconst 0, 1) := by decide +kernel
theorem dX5_colours_20 : decode cX5_colours 20 = .ok (.istore_n 3, 1) := by decide +kernel
theorem dX5_colours_21 : decode cX5_colours 21 = .ok (.bipush (-4), 2) := by decide +kernel
theorem dX5_colours_23 : decode cX5_colours 23 = .ok (.istore 4, 2) := by decide +kernel
theorem dX5_colours_25 : decode cX5_colours 25 = .ok (.iconst 0, 1) := by decide +kernel
theorem dX5_colours_26 : decode cX5_colours 26 = .ok (.istore 5, 2) := by decide +kernel
theorem dX5_colours_28 : decode cX5_colours 28 = .ok (.iconst 0, 1) := by decide +kernel
theorem dX5_colours_29 : decode cX5_colours 29 = .ok (.istore 6, 2) := by decide +kernel
theorem dX5_colours_31 : decode cX5_colours 31 = .ok (.iload 6, 2) := by decide +kernel
theorem dX5_colours_33 : decode cX5_colours 33 = .ok (.iconst 1, 1) := by decide +kernel
theorem dX5_colours_34 : decode cX5_colours 34 = .ok (.aload_n 0, 1) := by decide +kernel
theorem dX5_colours_35 : decode cX5_colours 35 = .ok (.getfield 149, 3) := by decide +kernel
theorem dX5_colours_38 : decode cX5_colours 38 = .ok (.ishl, 1) := by decide +kernel
theorem dX5_colours_39 : decode cX5_colours 39 = .ok (.if_icmp .ge 64, 3) := by decide +kernel
theorem dX5_colours_42 : decode cX5_colours 42 = .ok (.iload_n 1, 1) := by decide +kernel
theorem dX5_colours_43 : decode cX5_colours 43 = .ok (.iconst 1, 1) := by decide +kernel
theorem dX5_colours_44 : decode cX5_colours 44 = .ok (.if_icmp .le 59, 3) := by decide +kernel
theorem dX5_colours_47 : decode cX5_colours 47 = .ok (.aload_n 0, 1) := by decide +kernel
theorem dX5_colours_48 : decode cX5_colours 48 = .ok (.iload 6, 2) := by decide +kernel
theorem dX5_colours_50 : decode cX5_colours 50 = .ok (.invokevirtual 166, 3) := by decide +kernel
theorem dX5_colours_53 : decode cX5_colours 53 = .ok (.ifCond .eq 44, 3) := by decide +kernel
theorem dX5_colours_56 : decode cX5_colours 56 = .ok (.iinc 3 1, 3) := by decide +kernel
theorem dX5_colours_59 : decode cX5_colours 59 = .ok (.iload 4, 2) := by decide +kernel
theorem dX5_colours_61 : decode cX5_colours 61 = .ok (.bipush (-4), 2) := by decide +kernel
theorem dX5_colours_63 : decode cX5_colours 63 = .ok (.if_icmp .ne 8, 3) := by decide +kernel
theorem dX5_colours_66 : decode cX5_colours 66 = .ok (.iload 6, 2) := by decide +kernel
theorem dX5_colours_68 : decode cX5_colours 68 = .ok (.goto 5, 3) := by decide +kernel
theorem dX5_colours_71 : decode cX5_colours 71 = .ok (.iload 4, 2) := by decide +kernel
theorem dX5_colours_73 : decode cX5_colours 73 = .ok (.istore 4, 2) := by decide +kernel
theorem dX5_colours_75 : decode cX5_colours 75 = .ok (.iload 6, 2) := by decide +kernel
theorem dX5_colours_77 : decode cX5_colours 77 = .ok (.invokestatic 67, 3) := by decide +kernel
theorem dX5_colours_80 : decode cX5_colours 80 = .ok (.iload 5, 2) := by decide +kernel
theorem dX5_colours_82 : decode cX5_colours 82 = .ok (.if_icmp .le 11, 3) := by decide +kernel
theorem dX5_colours_85 : decode cX5_colours 85 = .ok (.iload 6, 2) := by decide +kernel
theorem dX5_colours_87 : decode cX5_colours 87 = .ok (.invokestatic 67, 3) := by decide +kernel
theorem dX5_colours_90 : decode cX5_colours 90 = .ok (.goto 5, 3) := by decide +kernel
theorem dX5_colours_93 : decode cX5_colours 93 = .ok (.iload 5, 2) := by decide +kernel
theorem dX5_colours_95 : decode cX5_colours 95 = .ok (.istore 5, 2) := by decide +kernel
theorem dX5_colours_97 : decode cX5_colours 97 = .ok (.iinc 6 1, 3) := by decide +kernel
theorem dX5_colours_100 : decode cX5_colours 100 = .ok (.goto (-69), 3) := by decide +kernel
theorem dX5_colours_103 : decode cX5_colours 103 = .ok (.iload_n 1, 1) := by decide +kernel
theorem dX5_colours_104 : decode cX5_colours 104 = .ok (.ifCond .ne 7, 3) := by decide +kernel
theorem dX5_colours_107 : decode cX5_colours 107 = .ok (.iload_n 2, 1) := by decide +kernel
theorem dX5_colours_108 : decode cX5_colours 108 = .ok (.goto 36, 3) := by decide +kernel
theorem dX5_colours_111 : decode cX5_colours 111 = .ok (.iload_n 1, 1) := by decide +kernel
theorem dX5_colours_112 : decode cX5_colours 112 = .ok (.iconst 1, 1) := by decide +kernel
theorem dX5_colours_113 : decode cX5_colours 113 = .ok (.if_icmp .ne 10, 3) := by decide +kernel
theorem dX5_colours_116 : decode cX5_colours 116 = .ok (.aload_n 0, 1) := by decide +kernel
theorem dX5_colours_117 : decode cX5_colours 117 = .ok (.getfield 158, 3) := by decide +kernel
theorem dX5_colours_120 : decode cX5_colours 120 = .ok (.goto 24, 3) := by decide +kernel
theorem dX5_colours_123 : decode cX5_colours 123 = .ok (.iload_n 1, 1) := by decide +kernel
theorem dX5_colours_124 : decode cX5_colours 124 = .ok (.iconst 2, 1) := by decide +kernel
theorem dX5_colours_125 : decode cX5_colours 125 = .ok (.if_icmp .ne 7, 3) := by decide +kernel
theorem dX5_colours_128 : decode cX5_colours 128 = .ok (.iload_n 3, 1) := by decide +kernel
theorem dX5_colours_129 : decode cX5_colours 129 = .ok (.goto 15, 3) := by decide +kernel
theorem dX5_colours_132 : decode cX5_colours 132 = .ok (.iload_n 1, 1) := by decide +kernel
theorem dX5_colours_133 : decode cX5_colours 133 = .ok (.iconst 3, 1) := by decide +kernel
theorem dX5_colours_134 : decode cX5_colours 134 = .ok (.if_icmp .ne 8, 3) := by decide +kernel
theorem dX5_colours_137 : decode cX5_colours 137 = .ok (.iload 4, 2) := by decide +kernel
theorem dX5_colours_139 : decode cX5_colours 139 = .ok (.goto 5, 3) := by decide +kernel
theorem dX5_colours_142 : decode cX5_colours 142 = .ok (.iload 5, 2) := by decide +kernel
theorem dX5_colours_144 : decode cX5_colours 144 = .ok (.ireturn, 1) := by decide +kernel
theorem dX5_isSheet_0 : decode cX5_isSheet 0 = .ok (.iload_n 0, 1) := by decide +kernel
theorem dX5_isSheet_1 : decode cX5_isSheet 1 = .ok (.i2l, 1) := by decide +kernel
theorem dX5_isSheet_2 : decode cX5_isSheet 2 = .ok (.lconst 0, 1) := by decide +kernel
theorem dX5_isSheet_3 : decode cX5_isSheet 3 = .ok (.ldc2_w 73, 3) := by decide +kernel
theorem dX5_isSheet_6 : decode cX5_isSheet 6 = .ok (.invokestatic 59, 3) := by decide +kernel
theorem dX5_isSheet_9 : decode cX5_isSheet 9 = .ok (.ifCond .eq 19, 3) := by decide +kernel
theorem dX5_isSheet_12 : decode cX5_isSheet 12 = .ok (.iload_n 1, 1) := by decide +kernel
theorem dX5_isSheet_13 : decode cX5_isSheet 13 = .ok (.i2l, 1) := by decide +kernel
theorem dX5_isSheet_14 : decode cX5_isSheet 14 = .ok (.lconst 0, 1) := by decide +kernel
theorem dX5_isSheet_15 : decode cX5_isSheet 15 = .ok (.ldc2_w 169, 3) := by decide +kernel
theorem dX5_isSheet_18 : decode cX5_isSheet 18 = .ok (.invokestatic 59, 3) := by decide +kernel
theorem dX5_isSheet_21 : decode cX5_isSheet 21 = .ok (.ifCond .eq 7, 3) := by decide +kernel
theorem dX5_isSheet_24 : decode cX5_isSheet 24 = .ok (.iconst 1, 1) := by decide +kernel
theorem dX5_isSheet_25 : decode cX5_isSheet 25 = .ok (.goto 4, 3) := by decide +kernel
theorem dX5_isSheet_28 : decode cX5_isSheet 28 = .ok (.iconst 0, 1) := by decide +kernel
theorem dX5_isSheet_29 : decode cX5_isSheet 29 = .ok (.ireturn, 1) := by decide +kernel
theorem dX5_sheet_0 : decode cX5_sheet 0 = .ok (.iload_n 1, 1) := by decide +kernel
theorem dX5_sheet_1 : decode cX5_sheet 1 = .ok (.iload_n 2, 1) := by decide +kernel
theorem dX5_sheet_2 : decode cX5_sheet 2 = .ok (.invokestatic 171, 3) := by decide +kernel
theorem dX5_sheet_5 : decode cX5_sheet 5 = .ok (.ifCond .eq 9, 3) := by decide +kernel
theorem dX5_sheet_8 : decode cX5_sheet 8 = .ok (.iload_n 3, 1) := by decide +kernel
theorem dX5_sheet_9 : decode cX5_sheet 9 = .ok (.bipush 64, 2) := by decide +kernel
theorem dX5_sheet_11 : decode cX5_sheet 11 = .ok (.if_icmp .le 5, 3) := by decide +kernel
theorem dX5_sheet_14 : decode cX5_sheet 14 = .ok (.iconst (-1), 1) := by decide +kernel
theorem dX5_sheet_15 : decode cX5_sheet 15 = .ok (.ireturn, 1) := by decide +kernel
theorem dX5_sheet_16 : decode cX5_sheet 16 = .ok (.iload_n 3, 1) := by decide +kernel
theorem dX5_sheet_17 : decode cX5_sheet 17 = .ok (.ifCond .ge 6, 3) := by decide +kernel
theorem dX5_sheet_20 : decode cX5_sheet 20 = .ok (.bipush (-14), 2) := by decide +kernel
theorem dX5_sheet_22 : decode cX5_sheet 22 = .ok (.ireturn, 1) := by decide +kernel
theorem dX5_sheet_23 : decode cX5_sheet 23 = .ok (.aload_n 0, 1) := by decide +kernel
theorem dX5_sheet_24 : decode cX5_sheet 24 = .ok (.getfield 47, 3) := by decide +kernel
theorem dX5_sheet_27 : decode cX5_sheet 27 = .ok (.iload_n 1, 1) := by decide +kernel
theorem dX5_sheet_28 : decode cX5_sheet 28 = .ok (.iload_n 2, 1) := by decide +kernel
theorem dX5_sheet_29 : decode cX5_sheet 29 = .ok (.iastore, 1) := by decide +kernel
theorem dX5_sheet_30 : decode cX5_sheet 30 = .ok (.aload_n 0, 1) := by decide +kernel
theorem dX5_sheet_31 : decode cX5_sheet 31 = .ok (.getfield 50, 3) := by decide +kernel
theorem dX5_sheet_34 : decode cX5_sheet 34 = .ok (.iload_n 1, 1) := by decide +kernel
theorem dX5_sheet_35 : decode cX5_sheet 35 = .ok (.iload_n 3, 1) := by decide +kernel
theorem dX5_sheet_36 : decode cX5_sheet 36 = .ok (.iastore, 1) := by decide +kernel
theorem dX5_sheet_37 : decode cX5_sheet 37 = .ok (.iconst 0, 1) := by decide +kernel
theorem dX5_sheet_38 : decode cX5_sheet 38 = .ok (.istore 4, 2) := by decide +kernel
theorem dX5_sheet_40 : decode cX5_sheet 40 = .ok (.iload 4, 2) := by decide +kernel
theorem dX5_sheet_42 : decode cX5_sheet 42 = .ok (.bipush 64, 2) := by decide +kernel
theorem dX5_sheet_44 : decode cX5_sheet 44 = .ok (.if_icmp .ge 22, 3) := by decide +kernel
theorem dX5_sheet_47 : decode cX5_sheet 47 = .ok (.aload_n 0, 1) := by decide +kernel
theorem dX5_sheet_48 : decode cX5_sheet 48 = .ok (.getfield 53, 3) := by decide +kernel
theorem dX5_sheet_51 : decode cX5_sheet 51 = .ok (.bipush 64, 2) := by decide +kernel
theorem dX5_sheet_53 : decode cX5_sheet 53 = .ok (.iload_n 1, 1) := by decide +kernel
theorem dX5_sheet_54 : decode cX5_sheet 54 = .ok (.imul, 1) := by decide +kernel
theorem dX5_sheet_55 : decode cX5_sheet 55 = .ok (.iload 4, 2) := by decide +kernel
theorem dX5_sheet_57 : decode cX5_sheet 57 = .ok (.iadd, 1) := by decide +kernel
theorem dX5_sheet_58 : decode cX5_sheet 58 = .ok (.iconst 0, 1) := by decide +kernel
theorem dX5_sheet_59 : decode cX5_sheet 59 = .ok (.iastore, 1) := by decide +kernel
theorem dX5_sheet_60 : decode cX5_sheet 60 = .ok (.iinc 4 1, 3) := by decide +kernel
theorem dX5_sheet_63 : decode cX5_sheet 63 = .ok (.goto (-23), 3) := by decide +kernel
theorem dX5_sheet_66 : decode cX5_sheet 66 = .ok (.iconst 1, 1) := by decide +kernel
theorem dX5_sheet_67 : decode cX5_sheet 67 = .ok (.ireturn, 1) := by decide +kernel
theorem dX5_lay_0 : decode cX5_lay 0 = .ok (.iload_n 1, 1) := by decide +kernel
theorem dX5_lay_1 : decode cX5_lay 1 = .ok (.iconst 0, 1) := by decide +kernel
theorem dX5_lay_2 : decode cX5_lay 2 = .ok (.invokestatic 171, 3) := by decide +kernel
theorem dX5_lay_5 : decode cX5_lay 5 = .ok (.ifCond .ne 5, 3) := by decide +kernel
theorem dX5_lay_8 : decode cX5_lay 8 = .ok (.iconst (-1), 1) := by decide +kernel
theorem dX5_lay_9 : decode cX5_lay 9 = .ok (.ireturn, 1) := by decide +kernel
theorem dX5_lay_10 : decode cX5_lay 10 = .ok (.aload_n 0, 1) := by decide +kernel
theorem dX5_lay_11 : decode cX5_lay 11 = .ok (.getfield 47, 3) := by decide +kernel
theorem dX5_lay_14 : decode cX5_lay 14 = .ok (.iload_n 1, 1) := by decide +kernel
theorem dX5_lay_15 : decode cX5_lay 15 = .ok (.iaload, 1) := by decide +kernel
theorem dX5_lay_16 : decode cX5_lay 16 = .ok (.bipush (-4), 2) := by decide +kernel
theorem dX5_lay_18 : decode cX5_lay 18 = .ok (.if_icmp .ne 6, 3) := by decide +kernel
theorem dX5_lay_21 : decode cX5_lay 21 = .ok (.bipush (-11), 2) := by decide +kernel
theorem dX5_lay_23 : decode cX5_lay 23 = .ok (.ireturn, 1) := by decide +kernel
theorem dX5_lay_24 : decode cX5_lay 24 = .ok (.iload_n 2, 1) := by decide +kernel
theorem dX5_lay_25 : decode cX5_lay 25 = .ok (.i2l, 1) := by decide +kernel
theorem dX5_lay_26 : decode cX5_lay 26 = .ok (.lconst 0, 1) := by decide +kernel
theorem dX5_lay_27 : decode cX5_lay 27 = .ok (.aload_n 0, 1) := by decide +kernel
theorem dX5_lay_28 : decode cX5_lay 28 = .ok (.getfield 50, 3) := by decide +kernel
theorem dX5_lay_31 : decode cX5_lay 31 = .ok (.iload_n 1, 1) := by decide +kernel
theorem dX5_lay_32 : decode cX5_lay 32 = .ok (.iaload, 1) := by decide +kernel
theorem dX5_lay_33 : decode cX5_lay 33 = .ok (.iconst 1, 1) := by decide +kernel
theorem dX5_lay_34 : decode cX5_lay 34 = .ok (.isub, 1) := by decide +kernel
theorem dX5_lay_35 : decode cX5_lay 35 = .ok (.i2l, 1) := by decide +kernel
theorem dX5_lay_36 : decode cX5_lay 36 = .ok (.invokestatic 59, 3) := by decide +kernel
theorem dX5_lay_39 : decode cX5_lay 39 = .ok (.ifCond .ne 6, 3) := by decide +kernel
theorem dX5_lay_42 : decode cX5_lay 42 = .ok (.bipush (-12), 2) := by decide +kernel
theorem dX5_lay_44 : decode cX5_lay 44 = .ok (.ireturn, 1) := by decide +kernel
theorem dX5_lay_45 : decode cX5_lay 45 = .ok (.aload_n 0, 1) := by decide +kernel
theorem dX5_lay_46 : decode cX5_lay 46 = .ok (.getfield 53, 3) := by decide +kernel
theorem dX5_lay_49 : decode cX5_lay 49 = .ok (.bipush 64, 2) := by decide +kernel
theorem dX5_lay_51 : decode cX5_lay 51 = .ok (.iload_n 1, 1) := by decide +kernel
theorem dX5_lay_52 : decode cX5_lay 52 = .ok (.imul, 1) := by decide +kernel
theorem dX5_lay_53 : decode cX5_lay 53 = .ok (.iload_n 2, 1) := by decide +kernel
theorem dX5_lay_54 : decode cX5_lay 54 = .ok (.iadd, 1) := by decide +kernel
theorem dX5_lay_55 : decode cX5_lay 55 = .ok (.aload_n 0, 1) := by decide +kernel
theorem dX5_lay_56 : decode cX5_lay 56 = .ok (.getfield 47, 3) := by decide +kernel
theorem dX5_lay_59 : decode cX5_lay 59 = .ok (.iload_n 1, 1) := by decide +kernel
theorem dX5_lay_60 : decode cX5_lay 60 = .ok (.iaload, 1) := by decide +kernel
theorem dX5_lay_61 : decode cX5_lay 61 = .ok (.ifCond .ne 8, 3) := by decide +kernel
theorem dX5_lay_64 : decode cX5_lay 64 = .ok (.iload_n 3, 1) := by decide +kernel
theorem dX5_lay_65 : decode cX5_lay 65 = .ok (.i2b, 1) := by decide +kernel
theorem dX5_lay_66 : decode cX5_lay 66 = .ok (.goto 19, 3) := by decide +kernel
theorem dX5_lay_69 : decode cX5_lay 69 = .ok (.aload_n 0, 1) := by decide +kernel
theorem dX5_lay_70 : decode cX5_lay 70 = .ok (.getfield 47, 3) := by decide +kernel
theorem dX5_lay_73 : decode cX5_lay 73 = .ok (.iload_n 1, 1) := by decide +kernel
theorem dX5_lay_74 : decode cX5_lay 74 = .ok (.iaload, 1) := by decide +kernel
theorem dX5_lay_75 : decode cX5_lay 75 = .ok (.iconst 1, 1) := by decide +kernel
theorem dX5_lay_76 : decode cX5_lay 76 = .ok (.if_icmp .ne 8, 3) := by decide +kernel
theorem dX5_lay_79 : decode cX5_lay 79 = .ok (.iload_n 3, 1) := by decide +kernel
theorem dX5_lay_80 : decode cX5_lay 80 = .ok (.i2s, 1) := by decide +kernel
theorem dX5_lay_81 : decode cX5_lay 81 = .ok (.goto 4, 3) := by decide +kernel
theorem dX5_lay_84 : decode cX5_lay 84 = .ok (.iload_n 3, 1) := by decide +kernel
theorem dX5_lay_85 : decode cX5_lay 85 = .ok (.iastore, 1) := by decide +kernel
theorem dX5_lay_86 : decode cX5_lay 86 = .ok (.iconst 1, 1) := by decide +kernel
theorem dX5_lay_87 : decode cX5_lay 87 = .ok (.ireturn, 1) := by decide +kernel
theorem dX5_draw_0 : decode cX5_draw 0 = .ok (.aload_n 0, 1) := by decide +kernel
theorem dX5_draw_1 : decode cX5_draw 1 = .ok (.iload_n 1, 1) := by decide +kernel
theorem dX5_draw_2 : decode cX5_draw 2 = .ok (.invokevirtual 63, 3) := by decide +kernel
theorem dX5_draw_5 : decode cX5_draw 5 = .ok (.ifCond .eq 22, 3) := by decide +kernel
theorem dX5_draw_8 : decode cX5_draw 8 = .ok (.iload_n 2, 1) := by decide +kernel
theorem dX5_draw_9 : decode cX5_draw 9 = .ok (.i2l, 1) := by decide +kernel
theorem dX5_draw_10 : decode cX5_draw 10 = .ok (.lconst 0, 1) := by decide +kernel
theorem dX5_draw_11 : decode cX5_draw 11 = .ok (.lconst 1, 1) := by decide +kernel
theorem dX5_draw_12 : decode cX5_draw 12 = .ok (.invokestatic 59, 3) := by decide +kernel
theorem dX5_draw_15 : decode cX5_draw 15 = .ok (.ifCond .eq 12, 3) := by decide +kernel
theorem dX5_draw_18 : decode cX5_draw 18 = .ok (.iload_n 3, 1) := by decide +kernel
theorem dX5_draw_19 : decode cX5_draw 19 = .ok (.iload 4, 2) := by decide +kernel
theorem dX5_draw_21 : decode cX5_draw 21 = .ok (.invokestatic 171, 3) := by decide +kernel
theorem dX5_draw_24 : decode cX5_draw 24 = .ok (.ifCond .ne 5, 3) := by decide +kernel
theorem dX5_draw_27 : decode cX5_draw 27 = .ok (.iconst (-1), 1) := by decide +kernel
theorem dX5_draw_28 : decode cX5_draw 28 = .ok (.ireturn, 1) := by decide +kernel
theorem dX5_draw_29 : decode cX5_draw 29 = .ok (.aload_n 0, 1) := by decide +kernel
theorem dX5_draw_30 : decode cX5_draw 30 = .ok (.getfield 47, 3) := by decide +kernel
theorem dX5_draw_33 : decode cX5_draw 33 = .ok (.iload_n 3, 1) := by decide +kernel
theorem dX5_draw_34 : decode cX5_draw 34 = .ok (.iaload, 1) := by decide +kernel
theorem dX5_draw_35 : decode cX5_draw 35 = .ok (.iload 4, 2) := by decide +kernel
theorem dX5_draw_37 : decode cX5_draw 37 = .ok (.if_icmp .eq 22, 3) := by decide +kernel
theorem dX5_draw_40 : decode cX5_draw 40 = .ok (.aload_n 0, 1) := by decide +kernel
theorem dX5_draw_41 : decode cX5_draw 41 = .ok (.getfield 47, 3) := by decide +kernel
theorem dX5_draw_44 : decode cX5_draw 44 = .ok (.iload_n 3, 1) := by decide +kernel
theorem dX5_draw_45 : decode cX5_draw 45 = .ok (.iaload, 1) := by decide +kernel
theorem dX5_draw_46 : decode cX5_draw 46 = .ok (.bipush (-4), 2) := by decide +kernel
theorem dX5_draw_48 : decode cX5_draw 48 = .ok (.if_icmp .ne 8, 3) := by decide +kernel
theorem dX5_draw_51 : decode cX5_draw 51 = .ok (.bipush (-11), 2) := by decide +kernel
theorem dX5_draw_53 : decode cX5_draw 53 = .ok (.goto 5, 3) := by decide +kernel
theorem dX5_draw_56 : decode cX5_draw 56 = .ok (.bipush (-13), 2) := by decide +kernel
theorem dX5_draw_58 : decode cX5_draw 58 = .ok (.ireturn, 1) := by decide +kernel
theorem dX5_draw_59 : decode cX5_draw 59 = .ok (.iconst 1, 1) := by decide +kernel
theorem dX5_draw_60 : decode cX5_draw 60 = .ok (.aload_n 0, 1) := by decide +kernel
theorem dX5_draw_61 : decode cX5_draw 61 = .ok (.getfield 13, 3) := by decide +kernel
theorem dX5_draw_64 : decode cX5_draw 64 = .ok (.iload_n 1, 1) := by decide +kernel
theorem dX5_draw_65 : decode cX5_draw 65 = .ok (.iaload, 1) := by decide +kernel
theorem dX5_draw_66 : decode cX5_draw 66 = .ok (.invokestatic 67, 3) := by decide +kernel
theorem dX5_draw_69 : decode cX5_draw 69 = .ok (.ishl, 1) := by decide +kernel
theorem dX5_draw_70 : decode cX5_draw 70 = .ok (.istore 6, 2) := by decide +kernel
theorem dX5_draw_72 : decode cX5_draw 72 = .ok (.iconst 0, 1) := by decide +kernel
theorem dX5_draw_73 : decode cX5_draw 73 = .ok (.istore 7, 2) := by decide +kernel
theorem dX5_draw_75 : decode cX5_draw 75 = .ok (.iload 7, 2) := by decide +kernel
theorem dX5_draw_77 : decode cX5_draw 77 = .ok (.iload 6, 2) := by decide +kernel
theorem dX5_draw_79 : decode cX5_draw 79 = .ok (.if_icmp .ge 91, 3) := by decide +kernel
theorem dX5_draw_82 : decode cX5_draw 82 = .ok (.iload 5, 2) := by decide +kernel
theorem dX5_draw_84 : decode cX5_draw 84 = .ok (.i2l, 1) := by decide +kernel
theorem dX5_draw_85 : decode cX5_draw 85 = .ok (.iload 7, 2) := by decide +kernel
theorem dX5_draw_87 : decode cX5_draw 87 = .ok (.i2l, 1) := by decide +kernel
theorem dX5_draw_88 : decode cX5_draw 88 = .ok (.ladd, 1) := by decide +kernel
theorem dX5_draw_89 : decode cX5_draw 89 = .ok (.lstore 8, 2) := by decide +kernel
theorem dX5_draw_91 : decode cX5_draw 91 = .ok (.lload 8, 2) := by decide +kernel
theorem dX5_draw_93 : decode cX5_draw 93 = .ok (.lconst 0, 1) := by decide +kernel
theorem dX5_draw_94 : decode cX5_draw 94 = .ok (.lcmp, 1) := by decide +kernel
theorem dX5_draw_95 : decode cX5_draw 95 = .ok (.ifCond .lt 16, 3) := by decide +kernel
theorem dX5_draw_98 : decode cX5_draw 98 = .ok (.lload 8, 2) := by decide +kernel
theorem dX5_draw_100 : decode cX5_draw 100 = .ok (.aload_n 0, 1) := by decide +kernel
theorem dX5_draw_101 : decode cX5_draw 101 = .ok (.getfield 50, 3) := by decide +kernel
theorem dX5_draw_104 : decode cX5_draw 104 = .ok (.iload_n 3, 1) := by decide +kernel
theorem dX5_draw_105 : decode cX5_draw 105 = .ok (.iaload, 1) := by decide +kernel
theorem dX5_draw_106 : decode cX5_draw 106 = .ok (.i2l, 1) := by decide +kernel
theorem dX5_draw_107 : decode cX5_draw 107 = .ok (.lcmp, 1) := by decide +kernel
theorem dX5_draw_108 : decode cX5_draw 108 = .ok (.ifCond .lt 6, 3) := by decide +kernel
theorem dX5_draw_111 : decode cX5_draw 111 = .ok (.bipush (-12), 2) := by decide +kernel
theorem dX5_draw_113 : decode cX5_draw 113 = .ok (.ireturn, 1) := by decide +kernel
theorem dX5_draw_114 : decode cX5_draw 114 = .ok (.aload_n 0, 1) := by decide +kernel
theorem dX5_draw_115 : decode cX5_draw 115 = .ok (.getfield 53, 3) := by decide +kernel
theorem dX5_draw_118 : decode cX5_draw 118 = .ok (.bipush 64, 2) := by decide +kernel
theorem dX5_draw_120 : decode cX5_draw 120 = .ok (.iload_n 3, 1) := by decide +kernel
theorem dX5_draw_121 : decode cX5_draw 121 = .ok (.imul, 1) := by decide +kernel
theorem dX5_draw_122 : decode cX5_draw 122 = .ok (.lload 8, 2) := by decide +kernel
theorem dX5_draw_124 : decode cX5_draw 124 = .ok (.l2i, 1) := by decide +kernel
theorem dX5_draw_125 : decode cX5_draw 125 = .ok (.iadd, 1) := by decide +kernel
theorem dX5_draw_126 : decode cX5_draw 126 = .ok (.iaload, 1) := by decide +kernel
theorem dX5_draw_127 : decode cX5_draw 127 = .ok (.i2l, 1) := by decide +kernel
theorem dX5_draw_128 : decode cX5_draw 128 = .ok (.iload_n 2, 1) := by decide +kernel
theorem dX5_draw_129 : decode cX5_draw 129 = .ok (.ifCond .ne 7, 3) := by decide +kernel
theorem dX5_draw_132 : decode cX5_draw 132 = .ok (.lconst 0, 1) := by decide +kernel
theorem dX5_draw_133 : decode cX5_draw 133 = .ok (.goto 6, 3) := by decide +kernel
theorem dX5_draw_136 : decode cX5_draw 136 = .ok (.ldc2_w 84, 3) := by decide +kernel
theorem dX5_draw_139 : decode cX5_draw 139 = .ok (.iload_n 2, 1) := by decide +kernel
theorem dX5_draw_140 : decode cX5_draw 140 = .ok (.ifCond .ne 9, 3) := by decide +kernel
theorem dX5_draw_143 : decode cX5_draw 143 = .ok (.ldc2_w 82, 3) := by decide +kernel
theorem dX5_draw_146 : decode cX5_draw 146 = .ok (.goto 6, 3) := by decide +kernel
theorem dX5_draw_149 : decode cX5_draw 149 = .ok (.ldc2_w 86, 3) := by decide +kernel
theorem dX5_draw_152 : decode cX5_draw 152 = .ok (.invokestatic 59, 3) := by decide +kernel
theorem dX5_draw_155 : decode cX5_draw 155 = .ok (.ifCond .ne 9, 3) := by decide +kernel
theorem dX5_draw_158 : decode cX5_draw 158 = .ok (.bipush (-20), 2) := by decide +kernel
theorem dX5_draw_160 : decode cX5_draw 160 = .ok (.iload 7, 2) := by decide +kernel
theorem dX5_draw_162 : decode cX5_draw 162 = .ok (.isub, 1) := by decide +kernel
theorem dX5_draw_163 : decode cX5_draw 163 = .ok (.ireturn, 1) := by decide +kernel
theorem dX5_draw_164 : decode cX5_draw 164 = .ok (.iinc 7 1, 3) := by decide +kernel
theorem dX5_draw_167 : decode cX5_draw 167 = .ok (.goto (-92), 3) := by decide +kernel
theorem dX5_draw_170 : decode cX5_draw 170 = .ok (.iconst 0, 1) := by decide +kernel
theorem dX5_draw_171 : decode cX5_draw 171 = .ok (.istore 7, 2) := by decide +kernel
theorem dX5_draw_173 : decode cX5_draw 173 = .ok (.iload 7, 2) := by decide +kernel
theorem dX5_draw_175 : decode cX5_draw 175 = .ok (.iload 6, 2) := by decide +kernel
theorem dX5_draw_177 : decode cX5_draw 177 = .ok (.if_icmp .ge 61, 3) := by decide +kernel
theorem dX5_draw_180 : decode cX5_draw 180 = .ok (.aload_n 0, 1) := by decide +kernel
theorem dX5_draw_181 : decode cX5_draw 181 = .ok (.getfield 53, 3) := by decide +kernel
theorem dX5_draw_184 : decode cX5_draw 184 = .ok (.bipush 64, 2) := by decide +kernel
theorem dX5_draw_186 : decode cX5_draw 186 = .ok (.iload_n 3, 1) := by decide +kernel
theorem dX5_draw_187 : decode cX5_draw 187 = .ok (.imul, 1) := by decide +kernel
theorem dX5_draw_188 : decode cX5_draw 188 = .ok (.iload 5, 2) := by decide +kernel
theorem dX5_draw_190 : decode cX5_draw 190 = .ok (.iadd, 1) := by decide +kernel
theorem dX5_draw_191 : decode cX5_draw 191 = .ok (.iload 7, 2) := by decide +kernel
theorem dX5_draw_193 : decode cX5_draw 193 = .ok (.iadd, 1) := by decide +kernel
theorem dX5_draw_194 : decode cX5_draw 194 = .ok (.iaload, 1) := by decide +kernel
theorem dX5_draw_195 : decode cX5_draw 195 = .ok (.istore 8, 2) := by decide +kernel
theorem dX5_draw_197 : decode cX5_draw 197 = .ok (.iload_n 2, 1) := by decide +kernel
theorem dX5_draw_198 : decode cX5_draw 198 = .ok (.ifCond .ne 20, 3) := by decide +kernel
theorem dX5_draw_201 : decode cX5_draw 201 = .ok (.aload_n 0, 1) := by decide +kernel
theorem dX5_draw_202 : decode cX5_draw 202 = .ok (.getfield 20, 3) := by decide +kernel
theorem dX5_draw_205 : decode cX5_draw 205 = .ok (.bipush 8, 2) := by decide +kernel
theorem dX5_draw_207 : decode cX5_draw 207 = .ok (.iload_n 1, 1) := by decide +kernel
theorem dX5_draw_208 : decode cX5_draw 208 = .ok (.imul, 1) := by decide +kernel
theorem dX5_draw_209 : decode cX5_draw 209 = .ok (.iload 7, 2) := by decide +kernel
theorem dX5_draw_211 : decode cX5_draw 211 = .ok (.iadd, 1) := by decide +kernel
theorem dX5_draw_212 : decode cX5_draw 212 = .ok (.iload 8, 2) := by decide +kernel
theorem dX5_draw_214 : decode cX5_draw 214 = .ok (.iastore, 1) := by decide +kernel
theorem dX5_draw_215 : decode cX5_draw 215 = .ok (.goto 17, 3) := by decide +kernel
theorem dX5_draw_218 : decode cX5_draw 218 = .ok (.aload_n 0, 1) := by decide +kernel
theorem dX5_draw_219 : decode cX5_draw 219 = .ok (.getfield 23, 3) := by decide +kernel
theorem dX5_draw_222 : decode cX5_draw 222 = .ok (.bipush 8, 2) := by decide +kernel
theorem dX5_draw_224 : decode cX5_draw 224 = .ok (.iload_n 1, 1) := by decide +kernel
theorem dX5_draw_225 : decode cX5_draw 225 = .ok (.imul, 1) := by decide +kernel
theorem dX5_draw_226 : decode cX5_draw 226 = .ok (.iload 7, 2) := by decide +kernel
theorem dX5_draw_228 : decode cX5_draw 228 = .ok (.iadd, 1) := by decide +kernel
theorem dX5_draw_229 : decode cX5_draw 229 = .ok (.iload 8, 2) := by decide +kernel
theorem dX5_draw_231 : decode cX5_draw 231 = .ok (.iastore, 1) := by decide +kernel
theorem dX5_draw_232 : decode cX5_draw 232 = .ok (.iinc 7 1, 3) := by decide +kernel
theorem dX5_draw_235 : decode cX5_draw 235 = .ok (.goto (-62), 3) := by decide +kernel
theorem dX5_draw_238 : decode cX5_draw 238 = .ok (.iconst 1, 1) := by decide +kernel
theorem dX5_draw_239 : decode cX5_draw 239 = .ok (.ireturn, 1) := by decide +kernel
theorem dX5_count_0 : decode cX5_count 0 = .ok (.iconst 0, 1) := by decide +kernel
theorem dX5_count_1 : decode cX5_count 1 = .ok (.istore_n 2, 1) := by decide +kernel
theorem dX5_count_2 : decode cX5_count 2 = .ok (.iconst 0, 1) := by decide +kernel
theorem dX5_count_3 : decode cX5_count 3 = .ok (.istore_n 3, 1) := by decide +kernel
theorem dX5_count_4 : decode cX5_count 4 = .ok (.iload_n 3, 1) := by decide +kernel
theorem dX5_count_5 : decode cX5_count 5 = .ok (.bipush 8, 2) := by decide +kernel
theorem dX5_count_7 : decode cX5_count 7 = .ok (.aload_n 0, 1) := by decide +kernel
theorem dX5_count_8 : decode cX5_count 8 = .ok (.getfield 56, 3) := by decide +kernel
theorem dX5_count_11 : decode cX5_count 11 = .ok (.imul, 1) := by decide +kernel
theorem dX5_count_12 : decode cX5_count 12 = .ok (.if_icmp .ge 26, 3) := by decide +kernel
theorem dX5_count_15 : decode cX5_count 15 = .ok (.iload_n 2, 1) := by decide +kernel
theorem dX5_count_16 : decode cX5_count 16 = .ok (.aload_n 0, 1) := by decide +kernel
theorem dX5_count_17 : decode cX5_count 17 = .ok (.getfield 20, 3) := by decide +kernel
theorem dX5_count_20 : decode cX5_count 20 = .ok (.iload_n 3, 1) := by decide +kernel
theorem dX5_count_21 : decode cX5_count 21 = .ok (.iaload, 1) := by decide +kernel
theorem dX5_count_22 : decode cX5_count 22 = .ok (.ifCond .le 7, 3) := by decide +kernel
theorem dX5_count_25 : decode cX5_count 25 = .ok (.iconst 1, 1) := by decide +kernel
theorem dX5_count_26 : decode cX5_count 26 = .ok (.goto 4, 3) := by decide +kernel
theorem dX5_count_29 : decode cX5_count 29 = .ok (.iconst 0, 1) := by decide +kernel
theorem dX5_count_30 : decode cX5_count 30 = .ok (.iadd, 1) := by decide +kernel
theorem dX5_count_31 : decode cX5_count 31 = .ok (.istore_n 2, 1) := by decide +kernel
theorem dX5_count_32 : decode cX5_count 32 = .ok (.iinc 3 1, 3) := by decide +kernel
theorem dX5_count_35 : decode cX5_count 35 = .ok (.goto (-31), 3) := by decide +kernel
theorem dX5_count_38 : decode cX5_count 38 = .ok (.iload_n 1, 1) := by decide +kernel
theorem dX5_count_39 : decode cX5_count 39 = .ok (.ifCond .ne 10, 3) := by decide +kernel
theorem dX5_count_42 : decode cX5_count 42 = .ok (.aload_n 0, 1) := by decide +kernel
theorem dX5_count_43 : decode cX5_count 43 = .ok (.getfield 7, 3) := by decide +kernel
theorem dX5_count_46 : decode cX5_count 46 = .ok (.goto 67, 3) := by decide +kernel
theorem dX5_count_49 : decode cX5_count 49 = .ok (.iload_n 1, 1) := by decide +kernel
theorem dX5_count_50 : decode cX5_count 50 = .ok (.iconst 1, 1) := by decide +kernel
theorem dX5_count_51 : decode cX5_count 51 = .ok (.if_icmp .ne 10, 3) := by decide +kernel
theorem dX5_count_54 : decode cX5_count 54 = .ok (.aload_n 0, 1) := by decide +kernel
theorem dX5_count_55 : decode cX5_count 55 = .ok (.getfield 56, 3) := by decide +kernel
theorem dX5_count_58 : decode cX5_count 58 = .ok (.goto 55, 3) := by decide +kernel
theorem dX5_count_61 : decode cX5_count 61 = .ok (.iload_n 1, 1) := by decide +kernel
theorem dX5_count_62 : decode cX5_count 62 = .ok (.iconst 2, 1) := by decide +kernel
theorem dX5_count_63 : decode cX5_count 63 = .ok (.if_icmp .ne 10, 3) := by decide +kernel
theorem dX5_count_66 : decode cX5_count 66 = .ok (.aload_n 0, 1) := by decide +kernel
theorem dX5_count_67 : decode cX5_count 67 = .ok (.getfield 149, 3) := by decide +kernel
theorem dX5_count_70 : decode cX5_count 70 = .ok (.goto 43, 3) := by decide +kernel
theorem dX5_count_73 : decode cX5_count 73 = .ok (.iload_n 1, 1) := by decide +kernel
theorem dX5_count_74 : decode cX5_count 74 = .ok (.iconst 3, 1) := by decide +kernel
theorem dX5_count_75 : decode cX5_count 75 = .ok (.if_icmp .ne 7, 3) := by decide +kernel
theorem dX5_count_78 : decode cX5_count 78 = .ok (.iload_n 2, 1) := by decide +kernel
theorem dX5_count_79 : decode cX5_count 79 = .ok (.goto 34, 3) := by decide +kernel
theorem dX5_count_82 : decode cX5_count 82 = .ok (.iload_n 1, 1) := by decide +kernel
theorem dX5_count_83 : decode cX5_count 83 = .ok (.iconst 4, 1) := by decide +kernel
theorem dX5_count_84 : decode cX5_count 84 = .ok (.if_icmp .ne 28, 3) := by decide +kernel
theorem dX5_count_87 : decode cX5_count 87 = .ok (.aload_n 0, 1) := by decide +kernel
theorem dX5_count_88 : decode cX5_count 88 = .ok (.getfield 47, 3) := by decide +kernel
theorem dX5_count_91 : decode cX5_count 91 = .ok (.iconst 0, 1) := by decide +kernel
theorem dX5_count_92 : decode cX5_count 92 = .ok (.iaload, 1) := by decide +kernel
theorem dX5_count_93 : decode cX5_count 93 = .ok (.bipush (-4), 2) := by decide +kernel
theorem dX5_count_95 : decode cX5_count 95 = .ok (.if_icmp .ne 8, 3) := by decide +kernel
theorem dX5_count_98 : decode cX5_count 98 = .ok (.bipush (-4), 2) := by decide +kernel
theorem dX5_count_100 : decode cX5_count 100 = .ok (.goto 13, 3) := by decide +kernel
theorem dX5_count_103 : decode cX5_count 103 = .ok (.aload_n 0, 1) := by decide +kernel
theorem dX5_count_104 : decode cX5_count 104 = .ok (.getfield 50, 3) := by decide +kernel
theorem dX5_count_107 : decode cX5_count 107 = .ok (.iconst 0, 1) := by decide +kernel
theorem dX5_count_108 : decode cX5_count 108 = .ok (.iaload, 1) := by decide +kernel
theorem dX5_count_109 : decode cX5_count 109 = .ok (.goto 4, 3) := by decide +kernel
theorem dX5_count_112 : decode cX5_count 112 = .ok (.iconst (-1), 1) := by decide +kernel
theorem dX5_count_113 : decode cX5_count 113 = .ok (.ireturn, 1) := by decide +kernel
theorem dJ6_bitCount_0f7a4_0 : decode cJ6_bitCount_0f7a4 0 = .ok (.iload_n 0, 1) := by decide +kernel
theorem dJ6_bitCount_0f7a4_1 : decode cJ6_bitCount_0f7a4 1 = .ok (.iload_n 0, 1) := by decide +kernel
theorem dJ6_bitCount_0f7a4_2 : decode cJ6_bitCount_0f7a4 2 = .ok (.iconst 1, 1) := by decide +kernel
theorem dJ6_bitCount_0f7a4_3 : decode cJ6_bitCount_0f7a4 3 = .ok (.iushr, 1) := by decide +kernel
theorem dJ6_bitCount_0f7a4_4 : decode cJ6_bitCount_0f7a4 4 = .ok (.ldc_w 265, 3) := by decide +kernel
theorem dJ6_bitCount_0f7a4_7 : decode cJ6_bitCount_0f7a4 7 = .ok (.iand, 1) := by decide +kernel
theorem dJ6_bitCount_0f7a4_8 : decode cJ6_bitCount_0f7a4 8 = .ok (.isub, 1) := by decide +kernel
theorem dJ6_bitCount_0f7a4_9 : decode cJ6_bitCount_0f7a4 9 = .ok (.istore_n 0, 1) := by decide +kernel
theorem dJ6_bitCount_0f7a4_10 : decode cJ6_bitCount_0f7a4 10 = .ok (.iload_n 0, 1) := by decide +kernel
theorem dJ6_bitCount_0f7a4_11 : decode cJ6_bitCount_0f7a4 11 = .ok (.ldc_w 266, 3) := by decide +kernel
theorem dJ6_bitCount_0f7a4_14 : decode cJ6_bitCount_0f7a4 14 = .ok (.iand, 1) := by decide +kernel
theorem dJ6_bitCount_0f7a4_15 : decode cJ6_bitCount_0f7a4 15 = .ok (.iload_n 0, 1) := by decide +kernel
theorem dJ6_bitCount_0f7a4_16 : decode cJ6_bitCount_0f7a4 16 = .ok (.iconst 2, 1) := by decide +kernel
theorem dJ6_bitCount_0f7a4_17 : decode cJ6_bitCount_0f7a4 17 = .ok (.iushr, 1) := by decide +kernel
theorem dJ6_bitCount_0f7a4_18 : decode cJ6_bitCount_0f7a4 18 = .ok (.ldc_w 266, 3) := by decide +kernel
theorem dJ6_bitCount_0f7a4_21 : decode cJ6_bitCount_0f7a4 21 = .ok (.iand, 1) := by decide +kernel
theorem dJ6_bitCount_0f7a4_22 : decode cJ6_bitCount_0f7a4 22 = .ok (.iadd, 1) := by decide +kernel
theorem dJ6_bitCount_0f7a4_23 : decode cJ6_bitCount_0f7a4 23 = .ok (.istore_n 0, 1) := by decide +kernel
theorem dJ6_bitCount_0f7a4_24 : decode cJ6_bitCount_0f7a4 24 = .ok (.iload_n 0, 1) := by decide +kernel
theorem dJ6_bitCount_0f7a4_25 : decode cJ6_bitCount_0f7a4 25 = .ok (.iload_n 0, 1) := by decide +kernel
theorem dJ6_bitCount_0f7a4_26 : decode cJ6_bitCount_0f7a4 26 = .ok (.iconst 4, 1) := by decide +kernel
theorem dJ6_bitCount_0f7a4_27 : decode cJ6_bitCount_0f7a4 27 = .ok (.iushr, 1) := by decide +kernel
theorem dJ6_bitCount_0f7a4_28 : decode cJ6_bitCount_0f7a4 28 = .ok (.iadd, 1) := by decide +kernel
theorem dJ6_bitCount_0f7a4_29 : decode cJ6_bitCount_0f7a4 29 = .ok (.ldc_w 267, 3) := by decide +kernel
theorem dJ6_bitCount_0f7a4_32 : decode cJ6_bitCount_0f7a4 32 = .ok (.iand, 1) := by decide +kernel
theorem dJ6_bitCount_0f7a4_33 : decode cJ6_bitCount_0f7a4 33 = .ok (.istore_n 0, 1) := by decide +kernel
theorem dJ6_bitCount_0f7a4_34 : decode cJ6_bitCount_0f7a4 34 = .ok (.iload_n 0, 1) := by decide +kernel
theorem dJ6_bitCount_0f7a4_35 : decode cJ6_bitCount_0f7a4 35 = .ok (.iload_n 0, 1) := by decide +kernel
theorem dJ6_bitCount_0f7a4_36 : decode cJ6_bitCount_0f7a4 36 = .ok (.bipush 8, 2) := by decide +kernel
theorem dJ6_bitCount_0f7a4_38 : decode cJ6_bitCount_0f7a4 38 = .ok (.iushr, 1) := by decide +kernel
theorem dJ6_bitCount_0f7a4_39 : decode cJ6_bitCount_0f7a4 39 = .ok (.iadd, 1) := by decide +kernel
theorem dJ6_bitCount_0f7a4_40 : decode cJ6_bitCount_0f7a4 40 = .ok (.istore_n 0, 1) := by decide +kernel
theorem dJ6_bitCount_0f7a4_41 : decode cJ6_bitCount_0f7a4 41 = .ok (.iload_n 0, 1) := by decide +kernel
theorem dJ6_bitCount_0f7a4_42 : decode cJ6_bitCount_0f7a4 42 = .ok (.iload_n 0, 1) := by decide +kernel
theorem dJ6_bitCount_0f7a4_43 : decode cJ6_bitCount_0f7a4 43 = .ok (.bipush 16, 2) := by decide +kernel
theorem dJ6_bitCount_0f7a4_45 : decode cJ6_bitCount_0f7a4 45 = .ok (.iushr, 1) := by decide +kernel
theorem dJ6_bitCount_0f7a4_46 : decode cJ6_bitCount_0f7a4 46 = .ok (.iadd, 1) := by decide +kernel
theorem dJ6_bitCount_0f7a4_47 : decode cJ6_bitCount_0f7a4 47 = .ok (.istore_n 0, 1) := by decide +kernel
theorem dJ6_bitCount_0f7a4_48 : decode cJ6_bitCount_0f7a4 48 = .ok (.iload_n 0, 1) := by decide +kernel
theorem dJ6_bitCount_0f7a4_49 : decode cJ6_bitCount_0f7a4 49 = .ok (.bipush 63, 2) := by decide +kernel
theorem dJ6_bitCount_0f7a4_51 : decode cJ6_bitCount_0f7a4 51 = .ok (.iand, 1) := by decide +kernel
theorem dJ6_bitCount_0f7a4_52 : decode cJ6_bitCount_0f7a4 52 = .ok (.ireturn, 1) := by decide +kernel
theorem dJ7_fill_53178_0 : decode cJ7_fill_53178 0 = .ok (.iconst 0, 1) := by decide +kernel
theorem dJ7_fill_53178_1 : decode cJ7_fill_53178 1 = .ok (.istore_n 2, 1) := by decide +kernel
theorem dJ7_fill_53178_2 : decode cJ7_fill_53178 2 = .ok (.aload_n 0, 1) := by decide +kernel
theorem dJ7_fill_53178_3 : decode cJ7_fill_53178 3 = .ok (.arraylength, 1) := by decide +kernel
theorem dJ7_fill_53178_4 : decode cJ7_fill_53178 4 = .ok (.istore_n 3, 1) := by decide +kernel
theorem dJ7_fill_53178_5 : decode cJ7_fill_53178 5 = .ok (.iload_n 2, 1) := by decide +kernel
theorem dJ7_fill_53178_6 : decode cJ7_fill_53178 6 = .ok (.iload_n 3, 1) := by decide +kernel
theorem dJ7_fill_53178_7 : decode cJ7_fill_53178 7 = .ok (.if_icmp .ge 13, 3) := by decide +kernel
theorem dJ7_fill_53178_10 : decode cJ7_fill_53178 10 = .ok (.aload_n 0, 1) := by decide +kernel
theorem dJ7_fill_53178_11 : decode cJ7_fill_53178 11 = .ok (.iload_n 2, 1) := by decide +kernel
theorem dJ7_fill_53178_12 : decode cJ7_fill_53178 12 = .ok (.iload_n 1, 1) := by decide +kernel
theorem dJ7_fill_53178_13 : decode cJ7_fill_53178 13 = .ok (.iastore, 1) := by decide +kernel
theorem dJ7_fill_53178_14 : decode cJ7_fill_53178 14 = .ok (.iinc 2 1, 3) := by decide +kernel
theorem dJ7_fill_53178_17 : decode cJ7_fill_53178 17 = .ok (.goto (-12), 3) := by decide +kernel
theorem dJ7_fill_53178_20 : decode cJ7_fill_53178 20 = .ok (.return_, 1) := by decide +kernel
theorem dJ9_max_7cf53_0 : decode cJ9_max_7cf53 0 = .ok (.iload_n 0, 1) := by decide +kernel
theorem dJ9_max_7cf53_1 : decode cJ9_max_7cf53 1 = .ok (.iload_n 1, 1) := by decide +kernel
theorem dJ9_max_7cf53_2 : decode cJ9_max_7cf53 2 = .ok (.if_icmp .lt 7, 3) := by decide +kernel
theorem dJ9_max_7cf53_5 : decode cJ9_max_7cf53 5 = .ok (.iload_n 0, 1) := by decide +kernel
theorem dJ9_max_7cf53_6 : decode cJ9_max_7cf53 6 = .ok (.goto 4, 3) := by decide +kernel
theorem dJ9_max_7cf53_9 : decode cJ9_max_7cf53 9 = .ok (.iload_n 1, 1) := by decide +kernel
theorem dJ9_max_7cf53_10 : decode cJ9_max_7cf53 10 = .ok (.ireturn, 1) := by decide +kernel
theorem dJ9_min_7cf53_0 : decode cJ9_min_7cf53 0 = .ok (.iload_n 0, 1) := by decide +kernel
theorem dJ9_min_7cf53_1 : decode cJ9_min_7cf53 1 = .ok (.iload_n 1, 1) := by decide +kernel
theorem dJ9_min_7cf53_2 : decode cJ9_min_7cf53 2 = .ok (.if_icmp .gt 7, 3) := by decide +kernel
theorem dJ9_min_7cf53_5 : decode cJ9_min_7cf53 5 = .ok (.iload_n 0, 1) := by decide +kernel
theorem dJ9_min_7cf53_6 : decode cJ9_min_7cf53 6 = .ok (.goto 4, 3) := by decide +kernel
theorem dJ9_min_7cf53_9 : decode cJ9_min_7cf53 9 = .ok (.iload_n 1, 1) := by decide +kernel
theorem dJ9_min_7cf53_10 : decode cJ9_min_7cf53 10 = .ok (.ireturn, 1) := by decide +kernel
end
section
theorem dL_law_0 : decode cL_law 0 = .ok (.new 7, 3) := by decide +kernel
theorem dL_law_3 : decode cL_law 3 = .ok (.dup, 1) := by decide +kernel
theorem dL_law_4 : decode cL_law 4 = .ok (.invokespecial 9, 3) := by decide +kernel
theorem dL_law_7 : decode cL_law 7 = .ok (.astore_n 1, 1) := by decide +kernel
theorem dL_law_8 : decode cL_law 8 = .ok (.new 10, 3) := by decide +kernel
theorem dL_law_11 : decode cL_law 11 = .ok (.dup, 1) := by decide +kernel
theorem dL_law_12 : decode cL_law 12 = .ok (.invokespecial 12, 3) := by decide +kernel
theorem dL_law_15 : decode cL_law 15 = .ok (.astore_n 2, 1) := by decide +kernel
theorem dL_law_16 : decode cL_law 16 = .ok (.iconst 0, 1) := by decide +kernel
theorem dL_law_17 : decode cL_law 17 = .ok (.istore_n 3, 1) := by decide +kernel
theorem dL_law_18 : decode cL_law 18 = .ok (.iload_n 3, 1) := by decide +kernel
theorem dL_law_19 : decode cL_law 19 = .ok (.aload_n 0, 1) := by decide +kernel
theorem dL_law_20 : decode cL_law 20 = .ok (.arraylength, 1) := by decide +kernel
theorem dL_law_21 : decode cL_law 21 = .ok (.bipush 6, 2) := by decide +kernel
theorem dL_law_23 : decode cL_law 23 = .ok (.isub, 1) := by decide +kernel
theorem dL_law_24 : decode cL_law 24 = .ok (.if_icmp .gt 873, 3) := by decide +kernel
theorem dL_law_27 : decode cL_law 27 = .ok (.aload_n 0, 1) := by decide +kernel
theorem dL_law_28 : decode cL_law 28 = .ok (.iload_n 3, 1) := by decide +kernel
theorem dL_law_29 : decode cL_law 29 = .ok (.iaload, 1) := by decide +kernel
theorem dL_law_30 : decode cL_law 30 = .ok (.bipush 31, 2) := by decide +kernel
theorem dL_law_32 : decode cL_law 32 = .ok (.iand, 1) := by decide +kernel
theorem dL_law_33 : decode cL_law 33 = .ok (.tableswitch 858 0 28 #[131, 154, 177, 190, 223, 266, 309, 342, 375, 388, 401, 424, 447, 460, 473, 486, 499, 512, 535, 558, 571, 584, 627, 640, 663, 686, 729, 772, 835], 131) := by decide +kernel
theorem dL_law_164 : decode cL_law 164 = .ok (.aload_n 1, 1) := by decide +kernel
theorem dL_law_165 : decode cL_law 165 = .ok (.aload_n 0, 1) := by decide +kernel
theorem dL_law_166 : decode cL_law 166 = .ok (.iload_n 3, 1) := by decide +kernel
theorem dL_law_167 : decode cL_law 167 = .ok (.iconst 1, 1) := by decide +kernel
theorem dL_law_168 : decode cL_law 168 = .ok (.iadd, 1) := by decide +kernel
theorem dL_law_169 : decode cL_law 169 = .ok (.iaload, 1) := by decide +kernel
theorem dL_law_170 : decode cL_law 170 = .ok (.invokevirtual 13, 3) := by decide +kernel
theorem dL_law_173 : decode cL_law 173 = .ok (.aload_n 2, 1) := by decide +kernel
theorem dL_law_174 : decode cL_law 174 = .ok (.aload_n 0, 1) := by decide +kernel
theorem dL_law_175 : decode cL_law 175 = .ok (.iload_n 3, 1) := by decide +kernel
theorem dL_law_176 : decode cL_law 176 = .ok (.iconst 1, 1) := by decide +kernel
theorem dL_law_177 : decode cL_law 177 = .ok (.iadd, 1) := by decide +kernel
theorem dL_law_178 : decode cL_law 178 = .ok (.iaload, 1) := by decide +kernel
theorem dL_law_179 : decode cL_law 179 = .ok (.invokevirtual 17, 3) := by decide +kernel
theorem dL_law_182 : decode cL_law 182 = .ok (.if_icmp .eq 709, 3) := by decide +kernel
theorem dL_law_185 : decode cL_law 185 = .ok (.iconst 0, 1) := by decide +kernel
theorem dL_law_186 : decode cL_law 186 = .ok (.ireturn, 1) := by decide +kernel
theorem dL_law_187 : decode cL_law 187 = .ok (.aload_n 1, 1) := by decide +kernel
theorem dL_law_188 : decode cL_law 188 = .ok (.aload_n 0, 1) := by decide +kernel
theorem dL_law_189 : decode cL_law 189 = .ok (.iload_n 3, 1) := by decide +kernel
theorem dL_law_190 : decode cL_law 190 = .ok (.iconst 1, 1) := by decide +kernel
theorem dL_law_191 : decode cL_law 191 = .ok (.iadd, 1) := by decide +kernel
theorem dL_law_192 : decode cL_law 192 = .ok (.iaload, 1) := by decide +kernel
theorem dL_law_193 : decode cL_law 193 = .ok (.invokevirtual 18, 3) := by decide +kernel
theorem dL_law_196 : decode cL_law 196 = .ok (.aload_n 2, 1) := by decide +kernel
theorem dL_law_197 : decode cL_law 197 = .ok (.aload_n 0, 1) := by decide +kernel
theorem dL_law_198 : decode cL_law 198 = .ok (.iload_n 3, 1) := by decide +kernel
theorem dL_law_199 : decode cL_law 199 = .ok (.iconst 1, 1) := by decide +kernel
theorem dL_law_200 : decode cL_law 200 = .ok (.iadd, 1) := by decide +kernel
theorem dL_law_201 : decode cL_law 201 = .ok (.iaload, 1) := by decide +kernel
theorem dL_law_202 : decode cL_law 202 = .ok (.invokevirtual 21, 3) := by decide +kernel
theorem dL_law_205 : decode cL_law 205 = .ok (.if_icmp .eq 686, 3) := by decide +kernel
theorem dL_law_208 : decode cL_law 208 = .ok (.iconst 0, 1) := by decide +kernel
theorem dL_law_209 : decode cL_law 209 = .ok (.ireturn, 1) := by decide +kernel
theorem dL_law_210 : decode cL_law 210 = .ok (.aload_n 1, 1) := by decide +kernel
theorem dL_law_211 : decode cL_law 211 = .ok (.invokevirtual 22, 3) := by decide +kernel
theorem dL_law_214 : decode cL_law 214 = .ok (.aload_n 2, 1) := by decide +kernel
theorem dL_law_215 : decode cL_law 215 = .ok (.invokevirtual 26, 3) := by decide +kernel
theorem dL_law_218 : decode cL_law 218 = .ok (.if_icmp .eq 673, 3) := by decide +kernel
theorem dL_law_221 : decode cL_law 221 = .ok (.iconst 0, 1) := by decide +kernel
theorem dL_law_222 : decode cL_law 222 = .ok (.ireturn, 1) := by decide +kernel
theorem dL_law_223 : decode cL_law 223 = .ok (.aload_n 1, 1) := by decide +kernel
theorem dL_law_224 : decode cL_law 224 = .ok (.aload_n 0, 1) := by decide +kernel
theorem dL_law_225 : decode cL_law 225 = .ok (.iload_n 3, 1) := by decide +kernel
theorem dL_law_226 : decode cL_law 226 = .ok (.iconst 1, 1) := by decide +kernel
theorem dL_law_227 : decode cL_law 227 = .ok (.iadd, 1) := by decide +kernel
theorem dL_law_228 : decode cL_law 228 = .ok (.iaload, 1) := by decide +kernel
theorem dL_law_229 : decode cL_law 229 = .ok (.aload_n 0, 1) := by decide +kernel
theorem dL_law_230 : decode cL_law 230 = .ok (.iload_n 3, 1) := by decide +kernel
theorem dL_law_231 : decode cL_law 231 = .ok (.iconst 2, 1) := by decide +kernel
theorem dL_law_232 : decode cL_law 232 = .ok (.iadd, 1) := by decide +kernel
theorem dL_law_233 : decode cL_law 233 = .ok (.iaload, 1) := by decide +kernel
theorem dL_law_234 : decode cL_law 234 = .ok (.invokevirtual 27, 3) := by decide +kernel
theorem dL_law_237 : decode cL_law 237 = .ok (.aload_n 2, 1) := by decide +kernel
theorem dL_law_238 : decode cL_law 238 = .ok (.aload_n 0, 1) := by decide +kernel
theorem dL_law_239 : decode cL_law 239 = .ok (.iload_n 3, 1) := by decide +kernel
theorem dL_law_240 : decode cL_law 240 = .ok (.iconst 1, 1) := by decide +kernel
theorem dL_law_241 : decode cL_law 241 = .ok (.iadd, 1) := by decide +kernel
theorem dL_law_242 : decode cL_law 242 = .ok (.iaload, 1) := by decide +kernel
theorem dL_law_243 : decode cL_law 243 = .ok (.aload_n 0, 1) := by decide +kernel
theorem dL_law_244 : decode cL_law 244 = .ok (.iload_n 3, 1) := by decide +kernel
theorem dL_law_245 : decode cL_law 245 = .ok (.iconst 2, 1) := by decide +kernel
theorem dL_law_246 : decode cL_law 246 = .ok (.iadd, 1) := by decide +kernel
theorem dL_law_247 : decode cL_law 247 = .ok (.iaload, 1) := by decide +kernel
theorem dL_law_248 : decode cL_law 248 = .ok (.invokevirtual 31, 3) := by decide +kernel
theorem dL_law_251 : decode cL_law 251 = .ok (.if_icmp .eq 640, 3) := by decide +kernel
theorem dL_law_254 : decode cL_law 254 = .ok (.iconst 0, 1) := by decide +kernel
theorem dL_law_255 : decode cL_law 255 = .ok (.ireturn, 1) := by decide +kernel
theorem dL_law_256 : decode cL_law 256 = .ok (.aload_n 1, 1) := by decide +kernel
theorem dL_law_257 : decode cL_law 257 = .ok (.aload_n 0, 1) := by decide +kernel
theorem dL_law_258 : decode cL_law 258 = .ok (.iload_n 3, 1) := by decide +kernel
theorem dL_law_259 : decode cL_law 259 = .ok (.iconst 1, 1) := by decide +kernel
theorem dL_law_260 : decode cL_law 260 = .ok (.iadd, 1) := by decide +kernel
theorem dL_law_261 : decode cL_law 261 = .ok (.iaload, 1) := by decide +kernel
theorem dL_law_262 : decode cL_law 262 = .ok (.aload_n 0, 1) := by decide +kernel
theorem dL_law_263 : decode cL_law 263 = .ok (.iload_n 3, 1) := by decide +kernel
theorem dL_law_264 : decode cL_law 264 = .ok (.iconst 2, 1) := by decide +kernel
theorem dL_law_265 : decode cL_law 265 = .ok (.iadd, 1) := by decide +kernel
theorem dL_law_266 : decode cL_law 266 = .ok (.iaload, 1) := by decide +kernel
theorem dL_law_267 : decode cL_law 267 = .ok (.aload_n 0, 1) := by decide +kernel
theorem dL_law_268 : decode cL_law 268 = .ok (.iload_n 3, 1) := by decide +kernel
theorem dL_law_269 : decode cL_law 269 = .ok (.iconst 3, 1) := by decide +kernel
theorem dL_law_270 : decode cL_law 270 = .ok (.iadd, 1) := by decide +kernel
theorem dL_law_271 : decode cL_law 271 = .ok (.iaload, 1) := by decide +kernel
theorem dL_law_272 : decode cL_law 272 = .ok (.invokevirtual 32, 3) := by decide +kernel
theorem dL_law_275 : decode cL_law 275 = .ok (.aload_n 2, 1) := by decide +kernel
theorem dL_law_276 : decode cL_law 276 = .ok (.aload_n 0, 1) := by decide +kernel
theorem dL_law_277 : decode cL_law 277 = .ok (.iload_n 3, 1) := by decide +kernel
theorem dL_law_278 : decode cL_law 278 = .ok (.iconst 1, 1) := by decide +kernel
theorem dL_law_279 : decode cL_law 279 = .ok (.iadd, 1) := by decide +kernel
theorem dL_law_280 : decode cL_law 280 = .ok (.iaload, 1) := by decide +kernel
theorem dL_law_281 : decode cL_law 281 = .ok (.aload_n 0, 1) := by decide +kernel
theorem dL_law_282 : decode cL_law 282 = .ok (.iload_n 3, 1) := by decide +kernel
theorem dL_law_283 : decode cL_law 283 = .ok (.iconst 2, 1) := by decide +kernel
theorem dL_law_284 : decode cL_law 284 = .ok (.iadd, 1) := by decide +kernel
theorem dL_law_285 : decode cL_law 285 = .ok (.iaload, 1) := by decide +kernel
theorem dL_law_286 : decode cL_law 286 = .ok (.aload_n 0, 1) := by decide +kernel
theorem dL_law_287 : decode cL_law 287 = .ok (.iload_n 3, 1) := by decide +kernel
theorem dL_law_288 : decode cL_law 288 = .ok (.iconst 3, 1) := by decide +kernel
theorem dL_law_289 : decode cL_law 289 = .ok (.iadd, 1) := by decide +kernel
theorem dL_law_290 : decode cL_law 290 = .ok (.iaload, 1) := by decide +kernel
theorem dL_law_291 : decode cL_law 291 = .ok (.invokevirtual 36, 3) := by decide +kernel
theorem dL_law_294 : decode cL_law 294 = .ok (.if_icmp .eq 597, 3) := by decide +kernel
theorem dL_law_297 : decode cL_law 297 = .ok (.iconst 0, 1) := by decide +kernel
theorem dL_law_298 : decode cL_law 298 = .ok (.ireturn, 1) := by decide +kernel
theorem dL_law_299 : decode cL_law 299 = .ok (.aload_n 1, 1) := by decide +kernel
theorem dL_law_300 : decode cL_law 300 = .ok (.aload_n 0, 1) := by decide +kernel
theorem dL_law_301 : decode cL_law 301 = .ok (.iload_n 3, 1) := by decide +kernel
theorem dL_law_302 : decode cL_law 302 = .ok (.iconst 1, 1) := by decide +kernel
theorem dL_law_303 : decode cL_law 303 = .ok (.iadd, 1) := by decide +kernel
theorem dL_law_304 : decode cL_law 304 = .ok (.iaload, 1) := by decide +kernel
theorem dL_law_305 : decode cL_law 305 = .ok (.aload_n 0, 1) := by decide +kernel
theorem dL_law_306 : decode cL_law 306 = .ok (.iload_n 3, 1) := by decide +kernel
theorem dL_law_307 : decode cL_law 307 = .ok (.iconst 2, 1) := by decide +kernel
theorem dL_law_308 : decode cL_law 308 = .ok (.iadd, 1) := by decide +kernel
theorem dL_law_309 : decode cL_law 309 = .ok (.iaload, 1) := by decide +kernel
theorem dL_law_310 : decode cL_law 310 = .ok (.aload_n 0, 1) := by decide +kernel
theorem dL_law_311 : decode cL_law 311 = .ok (.iload_n 3, 1) := by decide +kernel
theorem dL_law_312 : decode cL_law 312 = .ok (.iconst 3, 1) := by decide +kernel
theorem dL_law_313 : decode cL_law 313 = .ok (.iadd, 1) := by decide +kernel
theorem dL_law_314 : decode cL_law 314 = .ok (.iaload, 1) := by decide +kernel
theorem dL_law_315 : decode cL_law 315 = .ok (.invokevirtual 37, 3) := by decide +kernel
theorem dL_law_318 : decode cL_law 318 = .ok (.aload_n 2, 1) := by decide +kernel
theorem dL_law_319 : decode cL_law 319 = .ok (.aload_n 0, 1) := by decide +kernel
theorem dL_law_320 : decode cL_law 320 = .ok (.iload_n 3, 1) := by decide +kernel
theorem dL_law_321 : decode cL_law 321 = .ok (.iconst 1, 1) := by decide +kernel
theorem dL_law_322 : decode cL_law 322 = .ok (.iadd, 1) := by decide +kernel
theorem dL_law_323 : decode cL_law 323 = .ok (.iaload, 1) := by decide +kernel
end
section
theorem dL_law_324 : decode cL_law 324 = .ok (.aload_n 0, 1) := by decide +kernel
theorem dL_law_325 : decode cL_law 325 = .ok (.iload_n 3, 1) := by decide +kernel
theorem dL_law_326 : decode cL_law 326 = .ok (.iconst 2, 1) := by decide +kernel
theorem dL_law_327 : decode cL_law 327 = .ok (.iadd, 1) := by decide +kernel
theorem dL_law_328 : decode cL_law 328 = .ok (.iaload, 1) := by decide +kernel
theorem dL_law_329 : decode cL_law 329 = .ok (.aload_n 0, 1) := by decide +kernel
theorem dL_law_330 : decode cL_law 330 = .ok (.iload_n 3, 1) := by decide +kernel
theorem dL_law_331 : decode cL_law 331 = .ok (.iconst 3, 1) := by decide +kernel
theorem dL_law_332 : decode cL_law 332 = .ok (.iadd, 1) := by decide +kernel
theorem dL_law_333 : decode cL_law 333 = .ok (.iaload, 1) := by decide +kernel
theorem dL_law_334 : decode cL_law 334 = .ok (.invokevirtual 40, 3) := by decide +kernel
theorem dL_law_337 : decode cL_law 337 = .ok (.if_icmp .eq 554, 3) := by decide +kernel
theorem dL_law_340 : decode cL_law 340 = .ok (.iconst 0, 1) := by decide +kernel
theorem dL_law_341 : decode cL_law 341 = .ok (.ireturn, 1) := by decide +kernel
theorem dL_law_342 : decode cL_law 342 = .ok (.aload_n 1, 1) := by decide +kernel
theorem dL_law_343 : decode cL_law 343 = .ok (.aload_n 0, 1) := by decide +kernel
theorem dL_law_344 : decode cL_law 344 = .ok (.iload_n 3, 1) := by decide +kernel
theorem dL_law_345 : decode cL_law 345 = .ok (.iconst 1, 1) := by decide +kernel
theorem dL_law_346 : decode cL_law 346 = .ok (.iadd, 1) := by decide +kernel
theorem dL_law_347 : decode cL_law 347 = .ok (.iaload, 1) := by decide +kernel
theorem dL_law_348 : decode cL_law 348 = .ok (.aload_n 0, 1) := by decide +kernel
theorem dL_law_349 : decode cL_law 349 = .ok (.iload_n 3, 1) := by decide +kernel
theorem dL_law_350 : decode cL_law 350 = .ok (.iconst 2, 1) := by decide +kernel
theorem dL_law_351 : decode cL_law 351 = .ok (.iadd, 1) := by decide +kernel
theorem dL_law_352 : decode cL_law 352 = .ok (.iaload, 1) := by decide +kernel
theorem dL_law_353 : decode cL_law 353 = .ok (.invokevirtual 41, 3) := by decide +kernel
theorem dL_law_356 : decode cL_law 356 = .ok (.aload_n 2, 1) := by decide +kernel
theorem dL_law_357 : decode cL_law 357 = .ok (.aload_n 0, 1) := by decide +kernel
theorem dL_law_358 : decode cL_law 358 = .ok (.iload_n 3, 1) := by decide +kernel
theorem dL_law_359 : decode cL_law 359 = .ok (.iconst 1, 1) := by decide +kernel
theorem dL_law_360 : decode cL_law 360 = .ok (.iadd, 1) := by decide +kernel
theorem dL_law_361 : decode cL_law 361 = .ok (.iaload, 1) := by decide +kernel
theorem dL_law_362 : decode cL_law 362 = .ok (.aload_n 0, 1) := by decide +kernel
theorem dL_law_363 : decode cL_law 363 = .ok (.iload_n 3, 1) := by decide +kernel
theorem dL_law_364 : decode cL_law 364 = .ok (.iconst 2, 1) := by decide +kernel
theorem dL_law_365 : decode cL_law 365 = .ok (.iadd, 1) := by decide +kernel
theorem dL_law_366 : decode cL_law 366 = .ok (.iaload, 1) := by decide +kernel
theorem dL_law_367 : decode cL_law 367 = .ok (.invokevirtual 44, 3) := by decide +kernel
theorem dL_law_370 : decode cL_law 370 = .ok (.if_icmp .eq 521, 3) := by decide +kernel
theorem dL_law_373 : decode cL_law 373 = .ok (.iconst 0, 1) := by decide +kernel
theorem dL_law_374 : decode cL_law 374 = .ok (.ireturn, 1) := by decide +kernel
theorem dL_law_375 : decode cL_law 375 = .ok (.aload_n 1, 1) := by decide +kernel
theorem dL_law_376 : decode cL_law 376 = .ok (.aload_n 0, 1) := by decide +kernel
theorem dL_law_377 : decode cL_law 377 = .ok (.iload_n 3, 1) := by decide +kernel
theorem dL_law_378 : decode cL_law 378 = .ok (.iconst 1, 1) := by decide +kernel
theorem dL_law_379 : decode cL_law 379 = .ok (.iadd, 1) := by decide +kernel
theorem dL_law_380 : decode cL_law 380 = .ok (.iaload, 1) := by decide +kernel
theorem dL_law_381 : decode cL_law 381 = .ok (.aload_n 0, 1) := by decide +kernel
theorem dL_law_382 : decode cL_law 382 = .ok (.iload_n 3, 1) := by decide +kernel
theorem dL_law_383 : decode cL_law 383 = .ok (.iconst 2, 1) := by decide +kernel
theorem dL_law_384 : decode cL_law 384 = .ok (.iadd, 1) := by decide +kernel
theorem dL_law_385 : decode cL_law 385 = .ok (.iaload, 1) := by decide +kernel
theorem dL_law_386 : decode cL_law 386 = .ok (.invokevirtual 45, 3) := by decide +kernel
theorem dL_law_389 : decode cL_law 389 = .ok (.aload_n 2, 1) := by decide +kernel
theorem dL_law_390 : decode cL_law 390 = .ok (.aload_n 0, 1) := by decide +kernel
theorem dL_law_391 : decode cL_law 391 = .ok (.iload_n 3, 1) := by decide +kernel
theorem dL_law_392 : decode cL_law 392 = .ok (.iconst 1, 1) := by decide +kernel
theorem dL_law_393 : decode cL_law 393 = .ok (.iadd, 1) := by decide +kernel
theorem dL_law_394 : decode cL_law 394 = .ok (.iaload, 1) := by decide +kernel
theorem dL_law_395 : decode cL_law 395 = .ok (.aload_n 0, 1) := by decide +kernel
theorem dL_law_396 : decode cL_law 396 = .ok (.iload_n 3, 1) := by decide +kernel
theorem dL_law_397 : decode cL_law 397 = .ok (.iconst 2, 1) := by decide +kernel
theorem dL_law_398 : decode cL_law 398 = .ok (.iadd, 1) := by decide +kernel
theorem dL_law_399 : decode cL_law 399 = .ok (.iaload, 1) := by decide +kernel
theorem dL_law_400 : decode cL_law 400 = .ok (.invokevirtual 48, 3) := by decide +kernel
theorem dL_law_403 : decode cL_law 403 = .ok (.if_icmp .eq 488, 3) := by decide +kernel
theorem dL_law_406 : decode cL_law 406 = .ok (.iconst 0, 1) := by decide +kernel
theorem dL_law_407 : decode cL_law 407 = .ok (.ireturn, 1) := by decide +kernel
theorem dL_law_408 : decode cL_law 408 = .ok (.aload_n 1, 1) := by decide +kernel
theorem dL_law_409 : decode cL_law 409 = .ok (.invokevirtual 49, 3) := by decide +kernel
theorem dL_law_412 : decode cL_law 412 = .ok (.aload_n 2, 1) := by decide +kernel
theorem dL_law_413 : decode cL_law 413 = .ok (.invokevirtual 52, 3) := by decide +kernel
theorem dL_law_416 : decode cL_law 416 = .ok (.if_icmp .eq 475, 3) := by decide +kernel
theorem dL_law_419 : decode cL_law 419 = .ok (.iconst 0, 1) := by decide +kernel
theorem dL_law_420 : decode cL_law 420 = .ok (.ireturn, 1) := by decide +kernel
theorem dL_law_421 : decode cL_law 421 = .ok (.aload_n 1, 1) := by decide +kernel
theorem dL_law_422 : decode cL_law 422 = .ok (.invokevirtual 53, 3) := by decide +kernel
theorem dL_law_425 : decode cL_law 425 = .ok (.aload_n 2, 1) := by decide +kernel
theorem dL_law_426 : decode cL_law 426 = .ok (.invokevirtual 56, 3) := by decide +kernel
theorem dL_law_429 : decode cL_law 429 = .ok (.if_icmp .eq 462, 3) := by decide +kernel
theorem dL_law_432 : decode cL_law 432 = .ok (.iconst 0, 1) := by decide +kernel
theorem dL_law_433 : decode cL_law 433 = .ok (.ireturn, 1) := by decide +kernel
theorem dL_law_434 : decode cL_law 434 = .ok (.aload_n 1, 1) := by decide +kernel
theorem dL_law_435 : decode cL_law 435 = .ok (.aload_n 0, 1) := by decide +kernel
theorem dL_law_436 : decode cL_law 436 = .ok (.iload_n 3, 1) := by decide +kernel
theorem dL_law_437 : decode cL_law 437 = .ok (.iconst 1, 1) := by decide +kernel
theorem dL_law_438 : decode cL_law 438 = .ok (.iadd, 1) := by decide +kernel
theorem dL_law_439 : decode cL_law 439 = .ok (.iaload, 1) := by decide +kernel
theorem dL_law_440 : decode cL_law 440 = .ok (.invokevirtual 57, 3) := by decide +kernel
theorem dL_law_443 : decode cL_law 443 = .ok (.aload_n 2, 1) := by decide +kernel
theorem dL_law_444 : decode cL_law 444 = .ok (.aload_n 0, 1) := by decide +kernel
theorem dL_law_445 : decode cL_law 445 = .ok (.iload_n 3, 1) := by decide +kernel
theorem dL_law_446 : decode cL_law 446 = .ok (.iconst 1, 1) := by decide +kernel
theorem dL_law_447 : decode cL_law 447 = .ok (.iadd, 1) := by decide +kernel
theorem dL_law_448 : decode cL_law 448 = .ok (.iaload, 1) := by decide +kernel
theorem dL_law_449 : decode cL_law 449 = .ok (.invokevirtual 60, 3) := by decide +kernel
theorem dL_law_452 : decode cL_law 452 = .ok (.if_icmp .eq 439, 3) := by decide +kernel
theorem dL_law_455 : decode cL_law 455 = .ok (.iconst 0, 1) := by decide +kernel
theorem dL_law_456 : decode cL_law 456 = .ok (.ireturn, 1) := by decide +kernel
theorem dL_law_457 : decode cL_law 457 = .ok (.aload_n 1, 1) := by decide +kernel
theorem dL_law_458 : decode cL_law 458 = .ok (.aload_n 0, 1) := by decide +kernel
theorem dL_law_459 : decode cL_law 459 = .ok (.iload_n 3, 1) := by decide +kernel
theorem dL_law_460 : decode cL_law 460 = .ok (.iconst 1, 1) := by decide +kernel
theorem dL_law_461 : decode cL_law 461 = .ok (.iadd, 1) := by decide +kernel
theorem dL_law_462 : decode cL_law 462 = .ok (.iaload, 1) := by decide +kernel
theorem dL_law_463 : decode cL_law 463 = .ok (.invokevirtual 61, 3) := by decide +kernel
theorem dL_law_466 : decode cL_law 466 = .ok (.aload_n 2, 1) := by decide +kernel
theorem dL_law_467 : decode cL_law 467 = .ok (.aload_n 0, 1) := by decide +kernel
theorem dL_law_468 : decode cL_law 468 = .ok (.iload_n 3, 1) := by decide +kernel
theorem dL_law_469 : decode cL_law 469 = .ok (.iconst 1, 1) := by decide +kernel
theorem dL_law_470 : decode cL_law 470 = .ok (.iadd, 1) := by decide +kernel
theorem dL_law_471 : decode cL_law 471 = .ok (.iaload, 1) := by decide +kernel
theorem dL_law_472 : decode cL_law 472 = .ok (.invokevirtual 64, 3) := by decide +kernel
theorem dL_law_475 : decode cL_law 475 = .ok (.if_icmp .eq 416, 3) := by decide +kernel
theorem dL_law_478 : decode cL_law 478 = .ok (.iconst 0, 1) := by decide +kernel
theorem dL_law_479 : decode cL_law 479 = .ok (.ireturn, 1) := by decide +kernel
theorem dL_law_480 : decode cL_law 480 = .ok (.aload_n 1, 1) := by decide +kernel
theorem dL_law_481 : decode cL_law 481 = .ok (.invokevirtual 65, 3) := by decide +kernel
theorem dL_law_484 : decode cL_law 484 = .ok (.aload_n 2, 1) := by decide +kernel
theorem dL_law_485 : decode cL_law 485 = .ok (.invokevirtual 68, 3) := by decide +kernel
theorem dL_law_488 : decode cL_law 488 = .ok (.if_icmp .eq 403, 3) := by decide +kernel
theorem dL_law_491 : decode cL_law 491 = .ok (.iconst 0, 1) := by decide +kernel
theorem dL_law_492 : decode cL_law 492 = .ok (.ireturn, 1) := by decide +kernel
theorem dL_law_493 : decode cL_law 493 = .ok (.aload_n 1, 1) := by decide +kernel
theorem dL_law_494 : decode cL_law 494 = .ok (.invokevirtual 69, 3) := by decide +kernel
theorem dL_law_497 : decode cL_law 497 = .ok (.aload_n 2, 1) := by decide +kernel
theorem dL_law_498 : decode cL_law 498 = .ok (.invokevirtual 72, 3) := by decide +kernel
theorem dL_law_501 : decode cL_law 501 = .ok (.if_icmp .eq 390, 3) := by decide +kernel
theorem dL_law_504 : decode cL_law 504 = .ok (.iconst 0, 1) := by decide +kernel
theorem dL_law_505 : decode cL_law 505 = .ok (.ireturn, 1) := by decide +kernel
theorem dL_law_506 : decode cL_law 506 = .ok (.aload_n 1, 1) := by decide +kernel
theorem dL_law_507 : decode cL_law 507 = .ok (.invokevirtual 73, 3) := by decide +kernel
theorem dL_law_510 : decode cL_law 510 = .ok (.aload_n 2, 1) := by decide +kernel
theorem dL_law_511 : decode cL_law 511 = .ok (.invokevirtual 76, 3) := by decide +kernel
theorem dL_law_514 : decode cL_law 514 = .ok (.if_icmp .eq 377, 3) := by decide +kernel
theorem dL_law_517 : decode cL_law 517 = .ok (.iconst 0, 1) := by decide +kernel
theorem dL_law_518 : decode cL_law 518 = .ok (.ireturn, 1) := by decide +kernel
theorem dL_law_519 : decode cL_law 519 = .ok (.aload_n 1, 1) := by decide +kernel
theorem dL_law_520 : decode cL_law 520 = .ok (.invokevirtual 77, 3) := by decide +kernel
theorem dL_law_523 : decode cL_law 523 = .ok (.aload_n 2, 1) := by decide +kernel
theorem dL_law_524 : decode cL_law 524 = .ok (.invokevirtual 80, 3) := by decide +kernel
theorem dL_law_527 : decode cL_law 527 = .ok (.if_icmp .eq 364, 3) := by decide +kernel
theorem dL_law_530 : decode cL_law 530 = .ok (.iconst 0, 1) := by decide +kernel
theorem dL_law_531 : decode cL_law 531 = .ok (.ireturn, 1) := by decide +kernel
theorem dL_law_532 : decode cL_law 532 = .ok (.aload_n 1, 1) := by decide +kernel
theorem dL_law_533 : decode cL_law 533 = .ok (.invokevirtual 81, 3) := by decide +kernel
theorem dL_law_536 : decode cL_law 536 = .ok (.aload_n 2, 1) := by decide +kernel
theorem dL_law_537 : decode cL_law 537 = .ok (.invokevirtual 84, 3) := by decide +kernel
theorem dL_law_540 : decode cL_law 540 = .ok (.if_icmp .eq 351, 3) := by decide +kernel
theorem dL_law_543 : decode cL_law 543 = .ok (.iconst 0, 1) := by decide +kernel
end
section
theorem dL_law_544 : decode cL_law 544 = .ok (.ireturn, 1) := by decide +kernel
theorem dL_law_545 : decode cL_law 545 = .ok (.aload_n 1, 1) := by decide +kernel
theorem dL_law_546 : decode cL_law 546 = .ok (.aload_n 0, 1) := by decide +kernel
theorem dL_law_547 : decode cL_law 547 = .ok (.iload_n 3, 1) := by decide +kernel
theorem dL_law_548 : decode cL_law 548 = .ok (.iconst 1, 1) := by decide +kernel
theorem dL_law_549 : decode cL_law 549 = .ok (.iadd, 1) := by decide +kernel
theorem dL_law_550 : decode cL_law 550 = .ok (.iaload, 1) := by decide +kernel
theorem dL_law_551 : decode cL_law 551 = .ok (.invokevirtual 85, 3) := by decide +kernel
theorem dL_law_554 : decode cL_law 554 = .ok (.aload_n 2, 1) := by decide +kernel
theorem dL_law_555 : decode cL_law 555 = .ok (.aload_n 0, 1) := by decide +kernel
theorem dL_law_556 : decode cL_law 556 = .ok (.iload_n 3, 1) := by decide +kernel
theorem dL_law_557 : decode cL_law 557 = .ok (.iconst 1, 1) := by decide +kernel
theorem dL_law_558 : decode cL_law 558 = .ok (.iadd, 1) := by decide +kernel
theorem dL_law_559 : decode cL_law 559 = .ok (.iaload, 1) := by decide +kernel
theorem dL_law_560 : decode cL_law 560 = .ok (.invokevirtual 88, 3) := by decide +kernel
theorem dL_law_563 : decode cL_law 563 = .ok (.if_icmp .eq 328, 3) := by decide +kernel
theorem dL_law_566 : decode cL_law 566 = .ok (.iconst 0, 1) := by decide +kernel
theorem dL_law_567 : decode cL_law 567 = .ok (.ireturn, 1) := by decide +kernel
theorem dL_law_568 : decode cL_law 568 = .ok (.aload_n 1, 1) := by decide +kernel
theorem dL_law_569 : decode cL_law 569 = .ok (.aload_n 0, 1) := by decide +kernel
theorem dL_law_570 : decode cL_law 570 = .ok (.iload_n 3, 1) := by decide +kernel
theorem dL_law_571 : decode cL_law 571 = .ok (.iconst 1, 1) := by decide +kernel
theorem dL_law_572 : decode cL_law 572 = .ok (.iadd, 1) := by decide +kernel
theorem dL_law_573 : decode cL_law 573 = .ok (.iaload, 1) := by decide +kernel
theorem dL_law_574 : decode cL_law 574 = .ok (.invokevirtual 89, 3) := by decide +kernel
theorem dL_law_577 : decode cL_law 577 = .ok (.aload_n 2, 1) := by decide +kernel
theorem dL_law_578 : decode cL_law 578 = .ok (.aload_n 0, 1) := by decide +kernel
theorem dL_law_579 : decode cL_law 579 = .ok (.iload_n 3, 1) := by decide +kernel
theorem dL_law_580 : decode cL_law 580 = .ok (.iconst 1, 1) := by decide +kernel
theorem dL_law_581 : decode cL_law 581 = .ok (.iadd, 1) := by decide +kernel
theorem dL_law_582 : decode cL_law 582 = .ok (.iaload, 1) := by decide +kernel
theorem dL_law_583 : decode cL_law 583 = .ok (.invokevirtual 92, 3) := by decide +kernel
theorem dL_law_586 : decode cL_law 586 = .ok (.if_icmp .eq 305, 3) := by decide +kernel
theorem dL_law_589 : decode cL_law 589 = .ok (.iconst 0, 1) := by decide +kernel
theorem dL_law_590 : decode cL_law 590 = .ok (.ireturn, 1) := by decide +kernel
theorem dL_law_591 : decode cL_law 591 = .ok (.aload_n 1, 1) := by decide +kernel
theorem dL_law_592 : decode cL_law 592 = .ok (.invokevirtual 93, 3) := by decide +kernel
theorem dL_law_595 : decode cL_law 595 = .ok (.aload_n 2, 1) := by decide +kernel
theorem dL_law_596 : decode cL_law 596 = .ok (.invokevirtual 96, 3) := by decide +kernel
theorem dL_law_599 : decode cL_law 599 = .ok (.if_icmp .eq 292, 3) := by decide +kernel
theorem dL_law_602 : decode cL_law 602 = .ok (.iconst 0, 1) := by decide +kernel
theorem dL_law_603 : decode cL_law 603 = .ok (.ireturn, 1) := by decide +kernel
theorem dL_law_604 : decode cL_law 604 = .ok (.aload_n 1, 1) := by decide +kernel
theorem dL_law_605 : decode cL_law 605 = .ok (.invokevirtual 97, 3) := by decide +kernel
theorem dL_law_608 : decode cL_law 608 = .ok (.aload_n 2, 1) := by decide +kernel
theorem dL_law_609 : decode cL_law 609 = .ok (.invokevirtual 100, 3) := by decide +kernel
theorem dL_law_612 : decode cL_law 612 = .ok (.if_icmp .eq 279, 3) := by decide +kernel
theorem dL_law_615 : decode cL_law 615 = .ok (.iconst 0, 1) := by decide +kernel
theorem dL_law_616 : decode cL_law 616 = .ok (.ireturn, 1) := by decide +kernel
theorem dL_law_617 : decode cL_law 617 = .ok (.aload_n 1, 1) := by decide +kernel
theorem dL_law_618 : decode cL_law 618 = .ok (.aload_n 0, 1) := by decide +kernel
theorem dL_law_619 : decode cL_law 619 = .ok (.iload_n 3, 1) := by decide +kernel
theorem dL_law_620 : decode cL_law 620 = .ok (.iconst 1, 1) := by decide +kernel
theorem dL_law_621 : decode cL_law 621 = .ok (.iadd, 1) := by decide +kernel
theorem dL_law_622 : decode cL_law 622 = .ok (.iaload, 1) := by decide +kernel
theorem dL_law_623 : decode cL_law 623 = .ok (.aload_n 0, 1) := by decide +kernel
theorem dL_law_624 : decode cL_law 624 = .ok (.iload_n 3, 1) := by decide +kernel
theorem dL_law_625 : decode cL_law 625 = .ok (.iconst 2, 1) := by decide +kernel
theorem dL_law_626 : decode cL_law 626 = .ok (.iadd, 1) := by decide +kernel
theorem dL_law_627 : decode cL_law 627 = .ok (.iaload, 1) := by decide +kernel
theorem dL_law_628 : decode cL_law 628 = .ok (.aload_n 0, 1) := by decide +kernel
theorem dL_law_629 : decode cL_law 629 = .ok (.iload_n 3, 1) := by decide +kernel
theorem dL_law_630 : decode cL_law 630 = .ok (.iconst 3, 1) := by decide +kernel
theorem dL_law_631 : decode cL_law 631 = .ok (.iadd, 1) := by decide +kernel
theorem dL_law_632 : decode cL_law 632 = .ok (.iaload, 1) := by decide +kernel
theorem dL_law_633 : decode cL_law 633 = .ok (.invokevirtual 101, 3) := by decide +kernel
theorem dL_law_636 : decode cL_law 636 = .ok (.aload_n 2, 1) := by decide +kernel
theorem dL_law_637 : decode cL_law 637 = .ok (.aload_n 0, 1) := by decide +kernel
theorem dL_law_638 : decode cL_law 638 = .ok (.iload_n 3, 1) := by decide +kernel
theorem dL_law_639 : decode cL_law 639 = .ok (.iconst 1, 1) := by decide +kernel
theorem dL_law_640 : decode cL_law 640 = .ok (.iadd, 1) := by decide +kernel
theorem dL_law_641 : decode cL_law 641 = .ok (.iaload, 1) := by decide +kernel
theorem dL_law_642 : decode cL_law 642 = .ok (.aload_n 0, 1) := by decide +kernel
theorem dL_law_643 : decode cL_law 643 = .ok (.iload_n 3, 1) := by decide +kernel
theorem dL_law_644 : decode cL_law 644 = .ok (.iconst 2, 1) := by decide +kernel
theorem dL_law_645 : decode cL_law 645 = .ok (.iadd, 1) := by decide +kernel
theorem dL_law_646 : decode cL_law 646 = .ok (.iaload, 1) := by decide +kernel
theorem dL_law_647 : decode cL_law 647 = .ok (.aload_n 0, 1) := by decide +kernel
theorem dL_law_648 : decode cL_law 648 = .ok (.iload_n 3, 1) := by decide +kernel
theorem dL_law_649 : decode cL_law 649 = .ok (.iconst 3, 1) := by decide +kernel
theorem dL_law_650 : decode cL_law 650 = .ok (.iadd, 1) := by decide +kernel
theorem dL_law_651 : decode cL_law 651 = .ok (.iaload, 1) := by decide +kernel
theorem dL_law_652 : decode cL_law 652 = .ok (.invokevirtual 104, 3) := by decide +kernel
theorem dL_law_655 : decode cL_law 655 = .ok (.if_icmp .eq 236, 3) := by decide +kernel
theorem dL_law_658 : decode cL_law 658 = .ok (.iconst 0, 1) := by decide +kernel
theorem dL_law_659 : decode cL_law 659 = .ok (.ireturn, 1) := by decide +kernel
theorem dL_law_660 : decode cL_law 660 = .ok (.aload_n 1, 1) := by decide +kernel
theorem dL_law_661 : decode cL_law 661 = .ok (.invokevirtual 105, 3) := by decide +kernel
theorem dL_law_664 : decode cL_law 664 = .ok (.aload_n 2, 1) := by decide +kernel
theorem dL_law_665 : decode cL_law 665 = .ok (.invokevirtual 108, 3) := by decide +kernel
theorem dL_law_668 : decode cL_law 668 = .ok (.if_icmp .eq 223, 3) := by decide +kernel
theorem dL_law_671 : decode cL_law 671 = .ok (.iconst 0, 1) := by decide +kernel
theorem dL_law_672 : decode cL_law 672 = .ok (.ireturn, 1) := by decide +kernel
theorem dL_law_673 : decode cL_law 673 = .ok (.aload_n 1, 1) := by decide +kernel
theorem dL_law_674 : decode cL_law 674 = .ok (.aload_n 0, 1) := by decide +kernel
theorem dL_law_675 : decode cL_law 675 = .ok (.iload_n 3, 1) := by decide +kernel
theorem dL_law_676 : decode cL_law 676 = .ok (.iconst 1, 1) := by decide +kernel
theorem dL_law_677 : decode cL_law 677 = .ok (.iadd, 1) := by decide +kernel
theorem dL_law_678 : decode cL_law 678 = .ok (.iaload, 1) := by decide +kernel
theorem dL_law_679 : decode cL_law 679 = .ok (.invokevirtual 109, 3) := by decide +kernel
theorem dL_law_682 : decode cL_law 682 = .ok (.aload_n 2, 1) := by decide +kernel
theorem dL_law_683 : decode cL_law 683 = .ok (.aload_n 0, 1) := by decide +kernel
theorem dL_law_684 : decode cL_law 684 = .ok (.iload_n 3, 1) := by decide +kernel
theorem dL_law_685 : decode cL_law 685 = .ok (.iconst 1, 1) := by decide +kernel
theorem dL_law_686 : decode cL_law 686 = .ok (.iadd, 1) := by decide +kernel
theorem dL_law_687 : decode cL_law 687 = .ok (.iaload, 1) := by decide +kernel
theorem dL_law_688 : decode cL_law 688 = .ok (.invokevirtual 112, 3) := by decide +kernel
theorem dL_law_691 : decode cL_law 691 = .ok (.if_icmp .eq 200, 3) := by decide +kernel
theorem dL_law_694 : decode cL_law 694 = .ok (.iconst 0, 1) := by decide +kernel
theorem dL_law_695 : decode cL_law 695 = .ok (.ireturn, 1) := by decide +kernel
theorem dL_law_696 : decode cL_law 696 = .ok (.aload_n 1, 1) := by decide +kernel
theorem dL_law_697 : decode cL_law 697 = .ok (.aload_n 0, 1) := by decide +kernel
theorem dL_law_698 : decode cL_law 698 = .ok (.iload_n 3, 1) := by decide +kernel
theorem dL_law_699 : decode cL_law 699 = .ok (.iconst 1, 1) := by decide +kernel
theorem dL_law_700 : decode cL_law 700 = .ok (.iadd, 1) := by decide +kernel
theorem dL_law_701 : decode cL_law 701 = .ok (.iaload, 1) := by decide +kernel
theorem dL_law_702 : decode cL_law 702 = .ok (.invokevirtual 113, 3) := by decide +kernel
theorem dL_law_705 : decode cL_law 705 = .ok (.aload_n 2, 1) := by decide +kernel
theorem dL_law_706 : decode cL_law 706 = .ok (.aload_n 0, 1) := by decide +kernel
theorem dL_law_707 : decode cL_law 707 = .ok (.iload_n 3, 1) := by decide +kernel
theorem dL_law_708 : decode cL_law 708 = .ok (.iconst 1, 1) := by decide +kernel
theorem dL_law_709 : decode cL_law 709 = .ok (.iadd, 1) := by decide +kernel
theorem dL_law_710 : decode cL_law 710 = .ok (.iaload, 1) := by decide +kernel
theorem dL_law_711 : decode cL_law 711 = .ok (.invokevirtual 116, 3) := by decide +kernel
theorem dL_law_714 : decode cL_law 714 = .ok (.if_icmp .eq 177, 3) := by decide +kernel
theorem dL_law_717 : decode cL_law 717 = .ok (.iconst 0, 1) := by decide +kernel
theorem dL_law_718 : decode cL_law 718 = .ok (.ireturn, 1) := by decide +kernel
theorem dL_law_719 : decode cL_law 719 = .ok (.aload_n 1, 1) := by decide +kernel
theorem dL_law_720 : decode cL_law 720 = .ok (.aload_n 0, 1) := by decide +kernel
theorem dL_law_721 : decode cL_law 721 = .ok (.iload_n 3, 1) := by decide +kernel
theorem dL_law_722 : decode cL_law 722 = .ok (.iconst 1, 1) := by decide +kernel
theorem dL_law_723 : decode cL_law 723 = .ok (.iadd, 1) := by decide +kernel
theorem dL_law_724 : decode cL_law 724 = .ok (.iaload, 1) := by decide +kernel
theorem dL_law_725 : decode cL_law 725 = .ok (.aload_n 0, 1) := by decide +kernel
theorem dL_law_726 : decode cL_law 726 = .ok (.iload_n 3, 1) := by decide +kernel
theorem dL_law_727 : decode cL_law 727 = .ok (.iconst 2, 1) := by decide +kernel
theorem dL_law_728 : decode cL_law 728 = .ok (.iadd, 1) := by decide +kernel
theorem dL_law_729 : decode cL_law 729 = .ok (.iaload, 1) := by decide +kernel
theorem dL_law_730 : decode cL_law 730 = .ok (.aload_n 0, 1) := by decide +kernel
theorem dL_law_731 : decode cL_law 731 = .ok (.iload_n 3, 1) := by decide +kernel
theorem dL_law_732 : decode cL_law 732 = .ok (.iconst 3, 1) := by decide +kernel
theorem dL_law_733 : decode cL_law 733 = .ok (.iadd, 1) := by decide +kernel
theorem dL_law_734 : decode cL_law 734 = .ok (.iaload, 1) := by decide +kernel
theorem dL_law_735 : decode cL_law 735 = .ok (.invokevirtual 117, 3) := by decide +kernel
theorem dL_law_738 : decode cL_law 738 = .ok (.aload_n 2, 1) := by decide +kernel
theorem dL_law_739 : decode cL_law 739 = .ok (.aload_n 0, 1) := by decide +kernel
theorem dL_law_740 : decode cL_law 740 = .ok (.iload_n 3, 1) := by decide +kernel
theorem dL_law_741 : decode cL_law 741 = .ok (.iconst 1, 1) := by decide +kernel
theorem dL_law_742 : decode cL_law 742 = .ok (.iadd, 1) := by decide +kernel
theorem dL_law_743 : decode cL_law 743 = .ok (.iaload, 1) := by decide +kernel
end
section
theorem dL_law_744 : decode cL_law 744 = .ok (.aload_n 0, 1) := by decide +kernel
theorem dL_law_745 : decode cL_law 745 = .ok (.iload_n 3, 1) := by decide +kernel
theorem dL_law_746 : decode cL_law 746 = .ok (.iconst 2, 1) := by decide +kernel
theorem dL_law_747 : decode cL_law 747 = .ok (.iadd, 1) := by decide +kernel
theorem dL_law_748 : decode cL_law 748 = .ok (.iaload, 1) := by decide +kernel
theorem dL_law_749 : decode cL_law 749 = .ok (.aload_n 0, 1) := by decide +kernel
theorem dL_law_750 : decode cL_law 750 = .ok (.iload_n 3, 1) := by decide +kernel
theorem dL_law_751 : decode cL_law 751 = .ok (.iconst 3, 1) := by decide +kernel
theorem dL_law_752 : decode cL_law 752 = .ok (.iadd, 1) := by decide +kernel
theorem dL_law_753 : decode cL_law 753 = .ok (.iaload, 1) := by decide +kernel
theorem dL_law_754 : decode cL_law 754 = .ok (.invokevirtual 120, 3) := by decide +kernel
theorem dL_law_757 : decode cL_law 757 = .ok (.if_icmp .eq 134, 3) := by decide +kernel
theorem dL_law_760 : decode cL_law 760 = .ok (.iconst 0, 1) := by decide +kernel
theorem dL_law_761 : decode cL_law 761 = .ok (.ireturn, 1) := by decide +kernel
theorem dL_law_762 : decode cL_law 762 = .ok (.aload_n 1, 1) := by decide +kernel
theorem dL_law_763 : decode cL_law 763 = .ok (.aload_n 0, 1) := by decide +kernel
theorem dL_law_764 : decode cL_law 764 = .ok (.iload_n 3, 1) := by decide +kernel
theorem dL_law_765 : decode cL_law 765 = .ok (.iconst 1, 1) := by decide +kernel
theorem dL_law_766 : decode cL_law 766 = .ok (.iadd, 1) := by decide +kernel
theorem dL_law_767 : decode cL_law 767 = .ok (.iaload, 1) := by decide +kernel
theorem dL_law_768 : decode cL_law 768 = .ok (.aload_n 0, 1) := by decide +kernel
theorem dL_law_769 : decode cL_law 769 = .ok (.iload_n 3, 1) := by decide +kernel
theorem dL_law_770 : decode cL_law 770 = .ok (.iconst 2, 1) := by decide +kernel
theorem dL_law_771 : decode cL_law 771 = .ok (.iadd, 1) := by decide +kernel
theorem dL_law_772 : decode cL_law 772 = .ok (.iaload, 1) := by decide +kernel
theorem dL_law_773 : decode cL_law 773 = .ok (.aload_n 0, 1) := by decide +kernel
theorem dL_law_774 : decode cL_law 774 = .ok (.iload_n 3, 1) := by decide +kernel
theorem dL_law_775 : decode cL_law 775 = .ok (.iconst 3, 1) := by decide +kernel
theorem dL_law_776 : decode cL_law 776 = .ok (.iadd, 1) := by decide +kernel
theorem dL_law_777 : decode cL_law 777 = .ok (.iaload, 1) := by decide +kernel
theorem dL_law_778 : decode cL_law 778 = .ok (.invokevirtual 121, 3) := by decide +kernel
theorem dL_law_781 : decode cL_law 781 = .ok (.aload_n 2, 1) := by decide +kernel
theorem dL_law_782 : decode cL_law 782 = .ok (.aload_n 0, 1) := by decide +kernel
theorem dL_law_783 : decode cL_law 783 = .ok (.iload_n 3, 1) := by decide +kernel
theorem dL_law_784 : decode cL_law 784 = .ok (.iconst 1, 1) := by decide +kernel
theorem dL_law_785 : decode cL_law 785 = .ok (.iadd, 1) := by decide +kernel
theorem dL_law_786 : decode cL_law 786 = .ok (.iaload, 1) := by decide +kernel
theorem dL_law_787 : decode cL_law 787 = .ok (.aload_n 0, 1) := by decide +kernel
theorem dL_law_788 : decode cL_law 788 = .ok (.iload_n 3, 1) := by decide +kernel
theorem dL_law_789 : decode cL_law 789 = .ok (.iconst 2, 1) := by decide +kernel
theorem dL_law_790 : decode cL_law 790 = .ok (.iadd, 1) := by decide +kernel
theorem dL_law_791 : decode cL_law 791 = .ok (.iaload, 1) := by decide +kernel
theorem dL_law_792 : decode cL_law 792 = .ok (.aload_n 0, 1) := by decide +kernel
theorem dL_law_793 : decode cL_law 793 = .ok (.iload_n 3, 1) := by decide +kernel
theorem dL_law_794 : decode cL_law 794 = .ok (.iconst 3, 1) := by decide +kernel
theorem dL_law_795 : decode cL_law 795 = .ok (.iadd, 1) := by decide +kernel
theorem dL_law_796 : decode cL_law 796 = .ok (.iaload, 1) := by decide +kernel
theorem dL_law_797 : decode cL_law 797 = .ok (.invokevirtual 124, 3) := by decide +kernel
theorem dL_law_800 : decode cL_law 800 = .ok (.if_icmp .eq 91, 3) := by decide +kernel
theorem dL_law_803 : decode cL_law 803 = .ok (.iconst 0, 1) := by decide +kernel
theorem dL_law_804 : decode cL_law 804 = .ok (.ireturn, 1) := by decide +kernel
theorem dL_law_805 : decode cL_law 805 = .ok (.aload_n 1, 1) := by decide +kernel
theorem dL_law_806 : decode cL_law 806 = .ok (.aload_n 0, 1) := by decide +kernel
theorem dL_law_807 : decode cL_law 807 = .ok (.iload_n 3, 1) := by decide +kernel
theorem dL_law_808 : decode cL_law 808 = .ok (.iconst 1, 1) := by decide +kernel
theorem dL_law_809 : decode cL_law 809 = .ok (.iadd, 1) := by decide +kernel
theorem dL_law_810 : decode cL_law 810 = .ok (.iaload, 1) := by decide +kernel
theorem dL_law_811 : decode cL_law 811 = .ok (.aload_n 0, 1) := by decide +kernel
theorem dL_law_812 : decode cL_law 812 = .ok (.iload_n 3, 1) := by decide +kernel
theorem dL_law_813 : decode cL_law 813 = .ok (.iconst 2, 1) := by decide +kernel
theorem dL_law_814 : decode cL_law 814 = .ok (.iadd, 1) := by decide +kernel
theorem dL_law_815 : decode cL_law 815 = .ok (.iaload, 1) := by decide +kernel
theorem dL_law_816 : decode cL_law 816 = .ok (.aload_n 0, 1) := by decide +kernel
theorem dL_law_817 : decode cL_law 817 = .ok (.iload_n 3, 1) := by decide +kernel
theorem dL_law_818 : decode cL_law 818 = .ok (.iconst 3, 1) := by decide +kernel
theorem dL_law_819 : decode cL_law 819 = .ok (.iadd, 1) := by decide +kernel
theorem dL_law_820 : decode cL_law 820 = .ok (.iaload, 1) := by decide +kernel
theorem dL_law_821 : decode cL_law 821 = .ok (.aload_n 0, 1) := by decide +kernel
theorem dL_law_822 : decode cL_law 822 = .ok (.iload_n 3, 1) := by decide +kernel
theorem dL_law_823 : decode cL_law 823 = .ok (.iconst 4, 1) := by decide +kernel
theorem dL_law_824 : decode cL_law 824 = .ok (.iadd, 1) := by decide +kernel
theorem dL_law_825 : decode cL_law 825 = .ok (.iaload, 1) := by decide +kernel
theorem dL_law_826 : decode cL_law 826 = .ok (.aload_n 0, 1) := by decide +kernel
theorem dL_law_827 : decode cL_law 827 = .ok (.iload_n 3, 1) := by decide +kernel
theorem dL_law_828 : decode cL_law 828 = .ok (.iconst 5, 1) := by decide +kernel
theorem dL_law_829 : decode cL_law 829 = .ok (.iadd, 1) := by decide +kernel
theorem dL_law_830 : decode cL_law 830 = .ok (.iaload, 1) := by decide +kernel
theorem dL_law_831 : decode cL_law 831 = .ok (.invokevirtual 125, 3) := by decide +kernel
theorem dL_law_834 : decode cL_law 834 = .ok (.aload_n 2, 1) := by decide +kernel
theorem dL_law_835 : decode cL_law 835 = .ok (.aload_n 0, 1) := by decide +kernel
theorem dL_law_836 : decode cL_law 836 = .ok (.iload_n 3, 1) := by decide +kernel
theorem dL_law_837 : decode cL_law 837 = .ok (.iconst 1, 1) := by decide +kernel
theorem dL_law_838 : decode cL_law 838 = .ok (.iadd, 1) := by decide +kernel
theorem dL_law_839 : decode cL_law 839 = .ok (.iaload, 1) := by decide +kernel
theorem dL_law_840 : decode cL_law 840 = .ok (.aload_n 0, 1) := by decide +kernel
theorem dL_law_841 : decode cL_law 841 = .ok (.iload_n 3, 1) := by decide +kernel
theorem dL_law_842 : decode cL_law 842 = .ok (.iconst 2, 1) := by decide +kernel
theorem dL_law_843 : decode cL_law 843 = .ok (.iadd, 1) := by decide +kernel
theorem dL_law_844 : decode cL_law 844 = .ok (.iaload, 1) := by decide +kernel
theorem dL_law_845 : decode cL_law 845 = .ok (.aload_n 0, 1) := by decide +kernel
theorem dL_law_846 : decode cL_law 846 = .ok (.iload_n 3, 1) := by decide +kernel
theorem dL_law_847 : decode cL_law 847 = .ok (.iconst 3, 1) := by decide +kernel
theorem dL_law_848 : decode cL_law 848 = .ok (.iadd, 1) := by decide +kernel
theorem dL_law_849 : decode cL_law 849 = .ok (.iaload, 1) := by decide +kernel
theorem dL_law_850 : decode cL_law 850 = .ok (.aload_n 0, 1) := by decide +kernel
theorem dL_law_851 : decode cL_law 851 = .ok (.iload_n 3, 1) := by decide +kernel
theorem dL_law_852 : decode cL_law 852 = .ok (.iconst 4, 1) := by decide +kernel
theorem dL_law_853 : decode cL_law 853 = .ok (.iadd, 1) := by decide +kernel
theorem dL_law_854 : decode cL_law 854 = .ok (.iaload, 1) := by decide +kernel
theorem dL_law_855 : decode cL_law 855 = .ok (.aload_n 0, 1) := by decide +kernel
theorem dL_law_856 : decode cL_law 856 = .ok (.iload_n 3, 1) := by decide +kernel
theorem dL_law_857 : decode cL_law 857 = .ok (.iconst 5, 1) := by decide +kernel
theorem dL_law_858 : decode cL_law 858 = .ok (.iadd, 1) := by decide +kernel
theorem dL_law_859 : decode cL_law 859 = .ok (.iaload, 1) := by decide +kernel
theorem dL_law_860 : decode cL_law 860 = .ok (.invokevirtual 129, 3) := by decide +kernel
theorem dL_law_863 : decode cL_law 863 = .ok (.if_icmp .eq 28, 3) := by decide +kernel
theorem dL_law_866 : decode cL_law 866 = .ok (.iconst 0, 1) := by decide +kernel
theorem dL_law_867 : decode cL_law 867 = .ok (.ireturn, 1) := by decide +kernel
theorem dL_law_868 : decode cL_law 868 = .ok (.aload_n 1, 1) := by decide +kernel
theorem dL_law_869 : decode cL_law 869 = .ok (.aload_n 0, 1) := by decide +kernel
theorem dL_law_870 : decode cL_law 870 = .ok (.iload_n 3, 1) := by decide +kernel
theorem dL_law_871 : decode cL_law 871 = .ok (.iconst 1, 1) := by decide +kernel
theorem dL_law_872 : decode cL_law 872 = .ok (.iadd, 1) := by decide +kernel
theorem dL_law_873 : decode cL_law 873 = .ok (.iaload, 1) := by decide +kernel
theorem dL_law_874 : decode cL_law 874 = .ok (.invokevirtual 130, 3) := by decide +kernel
theorem dL_law_877 : decode cL_law 877 = .ok (.aload_n 2, 1) := by decide +kernel
theorem dL_law_878 : decode cL_law 878 = .ok (.aload_n 0, 1) := by decide +kernel
theorem dL_law_879 : decode cL_law 879 = .ok (.iload_n 3, 1) := by decide +kernel
theorem dL_law_880 : decode cL_law 880 = .ok (.iconst 1, 1) := by decide +kernel
theorem dL_law_881 : decode cL_law 881 = .ok (.iadd, 1) := by decide +kernel
theorem dL_law_882 : decode cL_law 882 = .ok (.iaload, 1) := by decide +kernel
theorem dL_law_883 : decode cL_law 883 = .ok (.invokevirtual 133, 3) := by decide +kernel
theorem dL_law_886 : decode cL_law 886 = .ok (.if_icmp .eq 5, 3) := by decide +kernel
theorem dL_law_889 : decode cL_law 889 = .ok (.iconst 0, 1) := by decide +kernel
theorem dL_law_890 : decode cL_law 890 = .ok (.ireturn, 1) := by decide +kernel
theorem dL_law_891 : decode cL_law 891 = .ok (.iinc 3 6, 3) := by decide +kernel
theorem dL_law_894 : decode cL_law 894 = .ok (.goto (-876), 3) := by decide +kernel
theorem dL_law_897 : decode cL_law 897 = .ok (.iconst 1, 1) := by decide +kernel
theorem dL_law_898 : decode cL_law 898 = .ok (.ireturn, 1) := by decide +kernel
end
section
/-! THE ONE WORLD: 43 cells (the class's 28, the reference's 15) at addresses 'ad k'; h k i is the int in slot i of cell k (a field, or a place of a row); what refers to what never changes behind the constructors -/
abbrev Hp : Type := Nat → Nat → Int32
def hset (h : Hp) (k i : Nat) (v : Int32) : Hp := fun a => if a = k then upd (h k) i v else h a
def trV (ad : Nat → Nat) : Value → Value
  | .ref k => .ref (ad k)
  | v => v
abbrev clsX : List vw_C := [(RX0, TX0, 6), (RX1, TX1, 12), (RX2, TX2, 3), (RX3, TX3, 11), (RX4, TX4, 4), (RX5, TX5, 19)]
def plO : Nat → Option (Nat × List (Option Nat))
  | 0 => some (4, [some 1, some 10, some 13, some 19])
  | 1 => some (3, [none, none, none, some 2, some 3, some 4, some 5, some 6, some 7, some 8, some 9])
  | 10 => some (0, [some 11, some 12, none, none, none, none])
  | 13 => some (1, [none, some 14, some 15, some 16, some 17, some 18, none, none, none, none, none, none])
  | 20 => some (2, [some 24, none, none])
  | 21 => some (2, [some 25, none, none])
  | 22 => some (2, [some 26, none, none])
  | 23 => some (2, [some 27, none, none])
  | 28 => some (5, [none, none, some 29, some 30, some 31, some 32, some 33, some 34, none, none, some 35, some 36, some 37, some 38, some 39, none, some 40, some 41, some 42])
  | _ => none
def plA : Nat → Nat
  | 2 => 8
  | 3 => 8
  | 4 => 64
  | 5 => 64
  | 6 => 64
  | 7 => 512
  | 8 => 64
  | 9 => 64
  | 11 => 24
  | 12 => 64
  | 14 => 12
  | 15 => 12
  | 16 => 12
  | 17 => 12
  | 18 => 220
  | 24 => 64
  | 25 => 64
  | 26 => 64
  | 27 => 64
  | 29 => 8
  | 30 => 8
  | 31 => 64
  | 32 => 64
  | 33 => 64
  | 34 => 24
  | 35 => 12
  | 36 => 12
  | 37 => 12
  | 38 => 12
  | 39 => 220
  | 40 => 4
  | 41 => 4
  | 42 => 256
  | _ => 0
def fE (ad : Nat → Nat) (h : Hp) (k i : Nat) (f : Option Nat) : Value := match f with
  | some r => .ref (ad r)
  | none => .int (h k i)
def cE (cI cZ cS : ClassId) (ad : Nat → Nat) (h : Hp) (k : Nat) : va_E := match plO k with
  | some q => .inr (q.1, q.2.mapIdx (fE ad h k))
  | none => if k = 19 then .inl (cS, 4, .inr (.inr (.inr (.inr (fun j => some (ad (20 + j))))))) else .inl (if k = 9 then cZ else cI, plA k, .inl (h k))
def wW (cI cZ cS : ClassId) (ad : Nat → Nat) (h : Hp) : va_W := (List.range 43).map (fun k => (ad k, cE cI cZ cS ad h k))
theorem wW_get {cI cZ cS : ClassId} {ad : Nat → Nat} {h : Hp} {k : Nat} (hk : k < 43) : (wW cI cZ cS ad h)[k]? = some (ad k, cE cI cZ cS ad h k) := by
  simp [wW, hk]
theorem wW_set {cI cZ cS : ClassId} {ad : Nat → Nat} {h h' : Hp} {k : Nat} (hk : k < 43) (hoff : ∀ a, a ≠ k → h' a = h a) : (wW cI cZ cS ad h).set k (ad k, cE cI cZ cS ad h' k) = wW cI cZ cS ad h' := by
  apply List.ext_getElem?
  intro i
  by_cases hi : i = k
  · subst hi
    rw [List.getElem?_set_self (by simp [wW, hk])]
    exact (wW_get hk).symm
  · rw [List.getElem?_set_ne (Ne.symm hi)]
    by_cases h2 : i < 43
    · rw [wW_get h2, wW_get h2]
      have : cE cI cZ cS ad h' i = cE cI cZ cS ad h i := by
        have hf : fE ad h' i = fE ad h i := by
          funext j f
          unfold fE
          rw [hoff i hi]
        unfold cE
        rw [hf, hoff i hi]
      rw [this]
    · have e1 : (wW cI cZ cS ad h)[i]? = none := by simp [wW]; omega
      have e2 : (wW cI cZ cS ad h')[i]? = none := by simp [wW]; omega
      rw [e1, e2]
theorem hset_off {h : Hp} {k i : Nat} {v : Int32} : ∀ a, a ≠ k → hset h k i v a = h a := fun a ha => by simp [hset, ha]
theorem hset_same {h : Hp} {k i : Nat} {v : Int32} : hset h k i v k = upd (h k) i v := by simp [hset]
theorem hset_at {h : Hp} {k i : Nat} {v : Int32} : hset h k i v k i = v := by simp [hset, upd]
theorem hset_ne {h : Hp} {k i a b : Nat} {v : Int32} (hn : ¬ (a = k ∧ b = i)) : hset h k i v a b = h a b := by
  by_cases ha : a = k
  · subst ha
    have hb : b ≠ i := fun e => hn ⟨rfl, e⟩
    simp [hset, upd, hb]
  · simp [hset, ha]
theorem hset_eq (h : Hp) (k i : Nat) (v : Int32) (a b : Nat) : hset h k i v a b = if a = k ∧ b = i then v else h a b := by
  by_cases hc : a = k ∧ b = i
  · rw [if_pos hc, hc.1, hc.2, hset_at]
  · rw [if_neg hc, hset_ne hc]
abbrev tysX (cI cZ cS : ClassId) : List (ClassId × FieldType) := [(cI, .int), (cZ, .boolean), (cS, .object "LooksTogether$Sheet")]
def nsT : List (String × Nat × String × String × String) := [("LooksTogether", 37, "LooksTogether$Table", "lookCount", "I"), ("LooksTogether", 59, "LooksTogether$Table", "size", "I"), ("LooksTogether$Parting", 72, "LooksTogether$Table", "size", "I"), ("LooksTogether$Parting", 31, "LooksTogether$Table", "changes", "I"), ("LooksTogether", 71, "LooksTogether$Table", "looksOf", "[I"), ("LooksTogether", 78, "LooksTogether$Table", "parities", "[I"), ("LooksTogether$Parting", 46, "LooksTogether$Table", "weights", "[I"), ("LooksTogether", 88, "LooksTogether$Table", "weights", "[I"), ("LooksTogether", 98, "LooksTogether$Table", "stakes", "[I"), ("LooksTogether", 114, "LooksTogether$Table", "met", "[Z"), ("LooksTogether", 144, "LooksTogether$Parting", "row", "[I"), ("LooksTogether", 141, "LooksTogether$Parting", "total", "I"), ("LooksTogether", 138, "LooksTogether$Parting", "tried", "I"), ("LooksTogether", 135, "LooksTogether$Parting", "outcome", "I"), ("LooksTogether", 163, "LooksTogether$Rays", "size", "I"), ("LooksTogether", 168, "LooksTogether$Rays", "squares", "[I"), ("LooksTogether", 174, "LooksTogether$Rays", "pairCount", "I"), ("LooksTogether", 177, "LooksTogether$Rays", "threeCount", "I"), ("LooksTogether", 180, "LooksTogether$Rays", "colourCount", "I"), ("LooksTogether", 183, "LooksTogether$Rays", "leastColours", "I"), ("LooksTogether", 186, "LooksTogether$Rays", "mostRed", "I"), ("LooksTogether", 217, "LooksTogether$Sheet", "cells", "[I"), ("LooksTogether", 207, "LooksTogether$Sheet", "lane", "I"), ("LooksTogether", 223, "LooksTogether$Sheet", "size", "I")]
def nsC (q : String × Nat × String × String × String) : Cond := .fieldLinkNest q.1 q.2.1 q.2.2.1 q.2.2.2.1 q.2.2.2.2 "LooksTogether"
def nsN (U : State) : Prop := ∀ q ∈ nsT, va_Nw (nsC q) U
/-- the words that every method is given: those of the tables that keep -/
def ws0 : List Cond := lw_tbl.filter goodWord
theorem ws0_good {l : List Cond} (h : ∀ w ∈ l, w ∈ ws0) : GoodIn ws0 l := fun w hw => ⟨h w hw, good_of_word (List.mem_filter.mp (h w hw)).2⟩
theorem ws0_tbl {w : Cond} (h : w ∈ ws0) : w ∈ lw_tbl := (List.mem_filter.mp h).1
def WA (ad : Nat → Nat) : Nat → Prop := fun q => ∃ k : Nat, k < 43 ∧ q = ad k
def Wld (dC : Nat → ClassId) (dI : Nat → Nat → Nat) (cI cZ cS : ClassId) (ad : Nat → Nat) (h : Hp) (U : State) : Prop :=
  va_P (dC, dI) clsX (wW cI cZ cS ad h) U.heap ∧ va_K (dC, dI) clsX (tysX cI cZ cS) U ∧ va_D (fun _ => True) (wW cI cZ cS ad h) ∧ nsN U
/-- a method: name, code, locals, what it answers, its room, the cells and slots made so far -/
abbrev Mt : Type := MethodName × ByteArray × Nat × Option FieldType × Room × Nat × Nat
abbrev Mt.y (J : Mt) : MethodName := J.1
abbrev Mt.c (J : Mt) : ByteArray := J.2.1
abbrev Mt.n (J : Mt) : Nat := J.2.2.1
abbrev Mt.r (J : Mt) : Option FieldType := J.2.2.2.1
abbrev Mt.R (J : Mt) : Room := J.2.2.2.2.1
abbrev Mt.k (J : Mt) : Nat := J.2.2.2.2.2.1
abbrev Mt.s (J : Mt) : Nat := J.2.2.2.2.2.2
abbrev mkJ (y : MethodName) (c : ByteArray) (n : Nat) (r : Option FieldType) (f lo : Nat) : Mt := (y, c, n, r, ({ frames := f, cells := 0, slots := 0, locals := lo } : Room), 0, 0)
abbrev ExT : Type := State → Array Value → (Nat → Nat) → Prop
abbrev ZT : Type := List Frame → Array Value → State → (Nat → ClassId) → (Nat → Nat → Nat) → ClassId → ClassId → ClassId → (Nat → Nat) → State → Prop
def Fx (J : Mt) (E : ExT) (p : Program) (s : State) (m : MethodId) (args : Array Value) (meth : Method) (c : Code) (dC : Nat → ClassId) (dI : Nat → Nat → Nat) (cI cZ cS : ClassId) (ad : Nat → Nat) : Prop :=
  p.tables.exec = Jvm.exec ∧ c.code = J.c ∧ c.maxLocals = J.n ∧ s.vm.findClass J.y.cls = some m.cls ∧ (∀ w ∈ ws0, w.before args s = true) ∧ va_K (dC, dI) clsX (tysX cI cZ cS) s ∧ nsN s ∧ meth.locks = false ∧ meth.sig.returnType = J.r ∧ E s args ad
def lvH (ls : Array Slot) (nL : Nat) (ad : Nat → Nat) (L : List (Option Value)) : Prop := ls.size = nL ∧ lv_wf ls ∧ ∀ (i : Nat) (v : Value), L[i]? = some (some v) → ls[i]? = some (.val (trV ad v))
/-- the machine, in J's frame at pc with locals L and stack st over the world h, comes to an end as Z says -/
def SW (J : Mt) (E : ExT) (Z : ZT) (pc : Nat) (L : List (Option Value)) (st : List Value) (h : Hp) : Prop :=
  ∀ (p : Program) (l : Launch) (e : Env) (s : State) (m : MethodId) (args : Array Value) (below : List Frame) (meth : Method) (c : Code) (dC : Nat → ClassId) (dI : Nat → Nat → Nat) (cI cZ cS : ClassId) (ad : Nat → Nat),
    Fx J E p s m args meth c dC dI cI cZ cS ad → ∀ (H : Heap) (locs : List Loc) (ls : Array Slot), va_P (dC, dI) clsX (wW cI cZ cS ad h) H → va_D (WA ad) (wW cI cZ cS ad h) → va_S (WA ad) s.heap H locs → lvH ls J.n ad L →
      W p l e J.R s m args below meth c H locs J.k J.s (Z below args s dC dI cI cZ cS ad) (F0 m pc ls (st.map (trV ad)))
def Qg (Q : Option Value → Hp → Prop) (dC : Nat → ClassId) (dI : Nat → Nat → Nat) (cI cZ cS : ClassId) (ad : Nat → Nat) : Array Value → State → Outcome → State → Prop :=
  fun _ st oc t => (∃ (v : Option Value) (h' : Hp), oc = .returned (v.map (trV ad)) ∧ Q v h' ∧ Wld dC dI cI cZ cS ad h' t) ∧ va_F (WA ad) st t
def Zm (Q : Option Value → Hp → Prop) : ZT := fun below args s dC dI cI cZ cS ad => MQ below (Qg Q dC dI cI cZ cS ad) args s 0 0 (WA ad)
def E0 : ExT := fun _ _ _ => True
def aL (args : List Value) (n : Nat) : List (Option Value) := args.flatMap (fun v => if v.category = 2 then [some v, none] else [some v]) ++ List.replicate (n - (lg_sl args).length) none
/-- the contract of a method at the arguments and the world -/
def Ctr (J : Mt) (args : List Value) (h : Hp) (Q : Option Value → Hp → Prop) : Prop :=
  ∀ (l : Launch) (dC : Nat → ClassId) (dI : Nat → Nat → Nat) (cI cZ cS : ClassId) (ad : Nat → Nat), Met l J.y (.code J.y J.c J.n J.r :: ws0) J.R (va_Pc (args.map (trV ad)) (Wld dC dI cI cZ cS ad h)) (Qg Q dC dI cI cZ cS ad) 0 0 (WA ad)
theorem wW_D {cI cZ cS : ClassId} {ad : Nat → Nat} {h : Hp} {A : Nat → Prop} (hD : va_D A (wW cI cZ cS ad h)) : va_D (WA ad) (wW cI cZ cS ad h) := by
  refine ⟨hD.1, fun k q hk => ?_⟩
  have hl := (List.getElem?_eq_some_iff.mp hk).1
  have h2 : k < 43 := by simpa [wW] using hl
  rw [wW_get h2] at hk
  cases hk
  exact ⟨k, h2, rfl⟩
theorem trV_cat (ad : Nat → Nat) (v : Value) : (trV ad v).category = v.category := by cases v <;> rfl
theorem lg_tr (ad : Nat → Nat) (args : List Value) : (lg_sl (args.map (trV ad))).length = (lg_sl args).length := by
  induction args with
  | nil => rfl
  | cons v vs ih =>
    have e : ∀ (f : Value) (fs : List Value), lg_sl (f :: fs) = (if f.category = 2 then [Slot.val f, .second] else [Slot.val f]) ++ lg_sl fs := fun f fs => by simp [lg_sl]
    rw [List.map_cons, e, e, List.length_append, List.length_append, ih, trV_cat]
    by_cases hc : v.category = 2 <;> simp [hc]
theorem aL_mem (ad : Nat → Nat) : ∀ (args : List Value) (n i : Nat) (v : Value), (args.flatMap (fun v => if v.category = 2 then [some v, none] else [some v]) ++ List.replicate n none)[i]? = some (some v) → ∀ o : Nat, (o + i, trV ad v) ∈ lv_args o (args.map (trV ad))
  | [], n, i, v, h, o => by
    simp only [List.flatMap_nil, List.nil_append, List.getElem?_replicate] at h
    split at h <;> cases h
  | a :: as, n, i, v, h, o => by
    rw [List.map_cons]
    unfold lv_args
    rw [trV_cat]
    by_cases hc : a.category = 2
    · simp only [List.flatMap_cons, hc, if_true] at h ⊢
      match i, h with
      | 0, h =>
        simp at h
        rw [h]
        exact List.mem_cons_self
      | 1, h => simp at h
      | i + 2, h =>
        have h' : (as.flatMap (fun v => if v.category = 2 then [some v, none] else [some v]) ++ List.replicate n none)[i]? = some (some v) := by simpa using h
        have := aL_mem ad as n i v h' (o + 2)
        rw [show o + (i + 2) = o + 2 + i by omega]
        exact List.mem_cons_of_mem _ this
    · simp only [List.flatMap_cons, hc, if_false] at h ⊢
      match i, h with
      | 0, h =>
        simp at h
        rw [h]
        exact List.mem_cons_self
      | i + 1, h =>
        have h' : (as.flatMap (fun v => if v.category = 2 then [some v, none] else [some v]) ++ List.replicate n none)[i]? = some (some v) := by simpa using h
        have := aL_mem ad as n i v h' (o + 1)
        rw [show o + (i + 1) = o + 1 + i by omega]
        exact List.mem_cons_of_mem _ this
theorem Wld_moved {dC : Nat → ClassId} {dI : Nat → Nat → Nat} {cI cZ cS : ClassId} {ad : Nat → Nat} {h : Hp} {s U : State} (hP : va_P (dC, dI) clsX (wW cI cZ cS ad h) U.heap) (hD : va_D (WA ad) (wW cI cZ cS ad h)) (hK : va_K (dC, dI) clsX (tysX cI cZ cS) s) (hN : nsN s) (hW : s.WarmedH U.vm) : Wld dC dI cI cZ cS ad h U :=
  ⟨hP, va_K.moved hW.alike hK, hD.weaken (fun _ _ _ _ => trivial), fun q hq => va_Nw.warmF hW (hN q hq)⟩
theorem Wld_blind {args : List Value} {dC : Nat → ClassId} {dI : Nat → Nat → Nat} {cI cZ cS : ClassId} {ad : Nat → Nat} {h : Hp} : FrameBlind (va_Pc args (Wld dC dI cI cZ cS ad h)) := by
  intro a U g mk q
  obtain ⟨q0, qP, qK, qD, qN⟩ := q
  exact ⟨q0, qP, va_K.moved (u := U) (U := U.calling g mk a) (Vm.Alike.refl U.vm) qK, qD, fun w hw => va_Nw.same (u := U) rfl rfl (qN w hw)⟩
/-- a contract out of a walk -/
theorem ctr_start {J : Mt} {args : List Value} {h : Hp} {Q : Option Value → Hp → Prop} (hy : plainName J.y.cls = true) (hn : (lg_sl args).length ≤ J.n) (hk : J.k = 0) (hs : J.s = 0) (k : SW J E0 (Zm Q) 0 (aL args J.n) [] h) : Ctr J args h Q := by
  intro l dC dI cI cZ cS ad
  refine Met.ofW (cc := J.c) (maxL := J.n) (ret := J.r) hy rfl ?_
  intro p e s m argv below meth c s₁ B hml hv
  obtain ⟨rfl, hP, hK, hD, hN⟩ := hv
  have hts : ∀ w ∈ ws0, w.before (args.map (trV ad)).toArray s = true := fun w hw => atoms_spec (ws := .code J.y J.c J.n J.r :: ws0) B.pre w (List.mem_cons_of_mem _ hw)
  have hl := lv_entry (args.map (trV ad)) (n := J.n) (by rw [lg_tr]; exact hn)
  rw [lg_entry_eq]
  have hl2 : lvH (lg_sl (args.map (trV ad)) ++ List.replicate (J.n - (lg_sl (args.map (trV ad))).length) Slot.unset).toArray J.n ad (aL args J.n) :=
    ⟨hl.1, hl.2.1, fun i v hi => by
      have := aL_mem ad args _ i v hi 0
      rw [Nat.zero_add] at this
      exact hl.2.2 _ this⟩
  have := k p l e s m _ below meth c dC dI cI cZ cS ad ⟨B.exec, B.bytes, hml, findClass_of_methodNamed B.named, hts, hK, hN, B.notSynchronized, B.returns, trivial⟩ s.heap [] _ hP (wW_D hD) va_S.rf hl2
  rw [hk, hs] at this
  exact this
end
section
theorem sw_iconst {J : Mt} {E : ExT} {Z : ZT} {pc : Nat} {L : List (Option Value)} {st : List Value} {h : Hp} {n : Int} {v : Int32} (hd : decode J.c pc = .ok (.iconst n, 1)) (hv : Int32.ofInt n = v) (k : SW J E Z (pc + 1) L (.int v :: st) h) : SW J E Z pc L (st) h :=
  fun p l e s m args below meth c dC dI cI cZ cS ad F H locs ls hP hD hS hl => lv_iconst F.1 F.2.1 hd hv (k p l e s m args below meth c dC dI cI cZ cS ad F H locs ls hP hD hS hl)
theorem sw_bipush {J : Mt} {E : ExT} {Z : ZT} {pc : Nat} {L : List (Option Value)} {st : List Value} {h : Hp} {n : Int} {v : Int32} (hd : decode J.c pc = .ok (.bipush n, 2)) (hv : (Int8.ofInt n).toInt32 = v) (k : SW J E Z (pc + 2) L (.int v :: st) h) : SW J E Z pc L (st) h :=
  fun p l e s m args below meth c dC dI cI cZ cS ad F H locs ls hP hD hS hl => lv_bipush F.1 F.2.1 hd hv (k p l e s m args below meth c dC dI cI cZ cS ad F H locs ls hP hD hS hl)
theorem sw_sipush {J : Mt} {E : ExT} {Z : ZT} {pc : Nat} {L : List (Option Value)} {st : List Value} {h : Hp} {n : Int} {v : Int32} (hd : decode J.c pc = .ok (.sipush n, 3)) (hv : (Int16.ofInt n).toInt32 = v) (k : SW J E Z (pc + 3) L (.int v :: st) h) : SW J E Z pc L (st) h :=
  fun p l e s m args below meth c dC dI cI cZ cS ad F H locs ls hP hD hS hl => lv_sipush F.1 F.2.1 hd hv (k p l e s m args below meth c dC dI cI cZ cS ad F H locs ls hP hD hS hl)
theorem sw_lconst {J : Mt} {E : ExT} {Z : ZT} {pc : Nat} {L : List (Option Value)} {st : List Value} {h : Hp} {n : Fin 2} {v : Int64} (hd : decode J.c pc = .ok (.lconst n, 1)) (hv : Int64.ofNat (n : Nat) = v) (k : SW J E Z (pc + 1) L (.long v :: st) h) : SW J E Z pc L (st) h :=
  fun p l e s m args below meth c dC dI cI cZ cS ad F H locs ls hP hD hS hl => lv_lconst F.1 F.2.1 hd hv (k p l e s m args below meth c dC dI cI cZ cS ad F H locs ls hP hD hS hl)
theorem sw_iadd {J : Mt} {E : ExT} {Z : ZT} {pc : Nat} {L : List (Option Value)} {st : List Value} {h : Hp} {x y : Int32} (hd : decode J.c pc = .ok (.iadd, 1))  (k : SW J E Z (pc + 1) L (.int (x + y) :: st) h) : SW J E Z pc L (.int y :: .int x :: st) h :=
  fun p l e s m args below meth c dC dI cI cZ cS ad F H locs ls hP hD hS hl => lv_iadd F.1 F.2.1 hd  (k p l e s m args below meth c dC dI cI cZ cS ad F H locs ls hP hD hS hl)
theorem sw_isub {J : Mt} {E : ExT} {Z : ZT} {pc : Nat} {L : List (Option Value)} {st : List Value} {h : Hp} {x y : Int32} (hd : decode J.c pc = .ok (.isub, 1))  (k : SW J E Z (pc + 1) L (.int (x - y) :: st) h) : SW J E Z pc L (.int y :: .int x :: st) h :=
  fun p l e s m args below meth c dC dI cI cZ cS ad F H locs ls hP hD hS hl => lv_isub F.1 F.2.1 hd  (k p l e s m args below meth c dC dI cI cZ cS ad F H locs ls hP hD hS hl)
theorem sw_imul {J : Mt} {E : ExT} {Z : ZT} {pc : Nat} {L : List (Option Value)} {st : List Value} {h : Hp} {x y : Int32} (hd : decode J.c pc = .ok (.imul, 1))  (k : SW J E Z (pc + 1) L (.int (x * y) :: st) h) : SW J E Z pc L (.int y :: .int x :: st) h :=
  fun p l e s m args below meth c dC dI cI cZ cS ad F H locs ls hP hD hS hl => lv_imul F.1 F.2.1 hd  (k p l e s m args below meth c dC dI cI cZ cS ad F H locs ls hP hD hS hl)
theorem sw_iand {J : Mt} {E : ExT} {Z : ZT} {pc : Nat} {L : List (Option Value)} {st : List Value} {h : Hp} {x y : Int32} (hd : decode J.c pc = .ok (.iand, 1))  (k : SW J E Z (pc + 1) L (.int (x &&& y) :: st) h) : SW J E Z pc L (.int y :: .int x :: st) h :=
  fun p l e s m args below meth c dC dI cI cZ cS ad F H locs ls hP hD hS hl => lv_iand F.1 F.2.1 hd  (k p l e s m args below meth c dC dI cI cZ cS ad F H locs ls hP hD hS hl)
theorem sw_ior {J : Mt} {E : ExT} {Z : ZT} {pc : Nat} {L : List (Option Value)} {st : List Value} {h : Hp} {x y : Int32} (hd : decode J.c pc = .ok (.ior, 1))  (k : SW J E Z (pc + 1) L (.int (x ||| y) :: st) h) : SW J E Z pc L (.int y :: .int x :: st) h :=
  fun p l e s m args below meth c dC dI cI cZ cS ad F H locs ls hP hD hS hl => lv_ior F.1 F.2.1 hd  (k p l e s m args below meth c dC dI cI cZ cS ad F H locs ls hP hD hS hl)
theorem sw_ixor {J : Mt} {E : ExT} {Z : ZT} {pc : Nat} {L : List (Option Value)} {st : List Value} {h : Hp} {x y : Int32} (hd : decode J.c pc = .ok (.ixor, 1))  (k : SW J E Z (pc + 1) L (.int (x ^^^ y) :: st) h) : SW J E Z pc L (.int y :: .int x :: st) h :=
  fun p l e s m args below meth c dC dI cI cZ cS ad F H locs ls hP hD hS hl => lv_ixor F.1 F.2.1 hd  (k p l e s m args below meth c dC dI cI cZ cS ad F H locs ls hP hD hS hl)
theorem sw_ladd {J : Mt} {E : ExT} {Z : ZT} {pc : Nat} {L : List (Option Value)} {st : List Value} {h : Hp} {x y : Int64} (hd : decode J.c pc = .ok (.ladd, 1))  (k : SW J E Z (pc + 1) L (.long (x + y) :: st) h) : SW J E Z pc L (.long y :: .long x :: st) h :=
  fun p l e s m args below meth c dC dI cI cZ cS ad F H locs ls hP hD hS hl => lv_ladd F.1 F.2.1 hd  (k p l e s m args below meth c dC dI cI cZ cS ad F H locs ls hP hD hS hl)
theorem sw_ishl {J : Mt} {E : ExT} {Z : ZT} {pc : Nat} {L : List (Option Value)} {st : List Value} {h : Hp} {x y : Int32} (hd : decode J.c pc = .ok (.ishl, 1))  (k : SW J E Z (pc + 1) L (.int (x <<< (y &&& 31)) :: st) h) : SW J E Z pc L (.int y :: .int x :: st) h :=
  fun p l e s m args below meth c dC dI cI cZ cS ad F H locs ls hP hD hS hl => lv_ishl F.1 F.2.1 hd  (k p l e s m args below meth c dC dI cI cZ cS ad F H locs ls hP hD hS hl)
theorem sw_ishr {J : Mt} {E : ExT} {Z : ZT} {pc : Nat} {L : List (Option Value)} {st : List Value} {h : Hp} {x y : Int32} (hd : decode J.c pc = .ok (.ishr, 1))  (k : SW J E Z (pc + 1) L (.int (x >>> (y &&& 31)) :: st) h) : SW J E Z pc L (.int y :: .int x :: st) h :=
  fun p l e s m args below meth c dC dI cI cZ cS ad F H locs ls hP hD hS hl => lv_ishr F.1 F.2.1 hd  (k p l e s m args below meth c dC dI cI cZ cS ad F H locs ls hP hD hS hl)
theorem sw_iushr {J : Mt} {E : ExT} {Z : ZT} {pc : Nat} {L : List (Option Value)} {st : List Value} {h : Hp} {x y v : Int32} (hd : decode J.c pc = .ok (.iushr, 1)) (hv : (x.toUInt32 >>> (y.toUInt32 &&& Int32.toUInt32 31)).toInt32 = v) (k : SW J E Z (pc + 1) L (.int v :: st) h) : SW J E Z pc L (.int y :: .int x :: st) h :=
  fun p l e s m args below meth c dC dI cI cZ cS ad F H locs ls hP hD hS hl => lv_iushr F.1 F.2.1 hd hv (k p l e s m args below meth c dC dI cI cZ cS ad F H locs ls hP hD hS hl)
theorem sw_lshr {J : Mt} {E : ExT} {Z : ZT} {pc : Nat} {L : List (Option Value)} {st : List Value} {h : Hp} {x v : Int64} {y : Int32} (hd : decode J.c pc = .ok (.lshr, 1)) (hv : x >>> (y.toInt64 &&& 63) = v) (k : SW J E Z (pc + 1) L (.long v :: st) h) : SW J E Z pc L (.int y :: .long x :: st) h :=
  fun p l e s m args below meth c dC dI cI cZ cS ad F H locs ls hP hD hS hl => lv_lshr F.1 F.2.1 hd hv (k p l e s m args below meth c dC dI cI cZ cS ad F H locs ls hP hD hS hl)
theorem sw_i2l {J : Mt} {E : ExT} {Z : ZT} {pc : Nat} {L : List (Option Value)} {st : List Value} {h : Hp} {x : Int32} (hd : decode J.c pc = .ok (.i2l, 1))  (k : SW J E Z (pc + 1) L (.long x.toInt64 :: st) h) : SW J E Z pc L (.int x :: st) h :=
  fun p l e s m args below meth c dC dI cI cZ cS ad F H locs ls hP hD hS hl => lv_i2l F.1 F.2.1 hd rfl (k p l e s m args below meth c dC dI cI cZ cS ad F H locs ls hP hD hS hl)
theorem sw_l2i {J : Mt} {E : ExT} {Z : ZT} {pc : Nat} {L : List (Option Value)} {st : List Value} {h : Hp} {x : Int64} (hd : decode J.c pc = .ok (.l2i, 1))  (k : SW J E Z (pc + 1) L (.int x.toInt32 :: st) h) : SW J E Z pc L (.long x :: st) h :=
  fun p l e s m args below meth c dC dI cI cZ cS ad F H locs ls hP hD hS hl => lv_l2i F.1 F.2.1 hd rfl (k p l e s m args below meth c dC dI cI cZ cS ad F H locs ls hP hD hS hl)
theorem sw_i2b {J : Mt} {E : ExT} {Z : ZT} {pc : Nat} {L : List (Option Value)} {st : List Value} {h : Hp} {x : Int32} (hd : decode J.c pc = .ok (.i2b, 1))  (k : SW J E Z (pc + 1) L (.int x.toInt8.toInt32 :: st) h) : SW J E Z pc L (.int x :: st) h :=
  fun p l e s m args below meth c dC dI cI cZ cS ad F H locs ls hP hD hS hl => lv_i2b F.1 F.2.1 hd rfl (k p l e s m args below meth c dC dI cI cZ cS ad F H locs ls hP hD hS hl)
theorem sw_i2s {J : Mt} {E : ExT} {Z : ZT} {pc : Nat} {L : List (Option Value)} {st : List Value} {h : Hp} {x : Int32} (hd : decode J.c pc = .ok (.i2s, 1))  (k : SW J E Z (pc + 1) L (.int x.toInt16.toInt32 :: st) h) : SW J E Z pc L (.int x :: st) h :=
  fun p l e s m args below meth c dC dI cI cZ cS ad F H locs ls hP hD hS hl => lv_i2s F.1 F.2.1 hd rfl (k p l e s m args below meth c dC dI cI cZ cS ad F H locs ls hP hD hS hl)
theorem sw_lcmp {J : Mt} {E : ExT} {Z : ZT} {pc : Nat} {L : List (Option Value)} {st : List Value} {h : Hp} {x y : Int64} (hd : decode J.c pc = .ok (.lcmp, 1))  (k : SW J E Z (pc + 1) L (.int (lg_cmp x y) :: st) h) : SW J E Z pc L (.long y :: .long x :: st) h :=
  fun p l e s m args below meth c dC dI cI cZ cS ad F H locs ls hP hD hS hl => W.lcmp F.1 F.2.1 hd  (k p l e s m args below meth c dC dI cI cZ cS ad F H locs ls hP hD hS hl)
theorem sw_dup {J : Mt} {E : ExT} {Z : ZT} {pc : Nat} {L : List (Option Value)} {st : List Value} {h : Hp} {v : Value} (hd : decode J.c pc = .ok (.dup, 1)) (hc : v.category = 1) (k : SW J E Z (pc + 1) L (v :: v :: st) h) : SW J E Z pc L (v :: st) h :=
  fun p l e s m args below meth c dC dI cI cZ cS ad F H locs ls hP hD hS hl => lv_dup F.1 F.2.1 hd (by rw [trV_cat]; exact hc) (k p l e s m args below meth c dC dI cI cZ cS ad F H locs ls hP hD hS hl)
theorem sw_dup2 {J : Mt} {E : ExT} {Z : ZT} {pc : Nat} {L : List (Option Value)} {st : List Value} {h : Hp} {v w : Value} (hd : decode J.c pc = .ok (.dup2, 1)) (hc : v.category = 1) (hc2 : w.category = 1) (k : SW J E Z (pc + 1) L (v :: w :: v :: w :: st) h) : SW J E Z pc L (v :: w :: st) h :=
  fun p l e s m args below meth c dC dI cI cZ cS ad F H locs ls hP hD hS hl => lv_dup2_11 F.1 F.2.1 hd (by rw [trV_cat]; exact hc) (by rw [trV_cat]; exact hc2) (k p l e s m args below meth c dC dI cI cZ cS ad F H locs ls hP hD hS hl)
theorem sw_iload_n {J : Mt} {E : ExT} {Z : ZT} {pc : Nat} {L : List (Option Value)} {st : List Value} {h : Hp} {i : Fin 4} {x : Int32} (hd : decode J.c pc = .ok (.iload_n i, 1)) (hx : L[(i : Nat)]? = some (some (.int x))) (k : SW J E Z (pc + 1) L (.int x :: st) h) : SW J E Z pc L st h :=
  fun p l e s m args below meth c dC dI cI cZ cS ad F H locs ls hP hD hS hl => lv_iload_n F.1 F.2.1 hd rfl (hl.2.2 _ _ hx) (k p l e s m args below meth c dC dI cI cZ cS ad F H locs ls hP hD hS hl)
theorem sw_iload {J : Mt} {E : ExT} {Z : ZT} {pc : Nat} {L : List (Option Value)} {st : List Value} {h : Hp} {i : Nat} {x : Int32} (hd : decode J.c pc = .ok (.iload i, 2)) (hx : L[i]? = some (some (.int x))) (k : SW J E Z (pc + 2) L (.int x :: st) h) : SW J E Z pc L st h :=
  fun p l e s m args below meth c dC dI cI cZ cS ad F H locs ls hP hD hS hl => lv_iload F.1 F.2.1 hd (hl.2.2 _ _ hx) (k p l e s m args below meth c dC dI cI cZ cS ad F H locs ls hP hD hS hl)
theorem sw_lload_n {J : Mt} {E : ExT} {Z : ZT} {pc : Nat} {L : List (Option Value)} {st : List Value} {h : Hp} {i : Fin 4} {x : Int64} (hd : decode J.c pc = .ok (.lload_n i, 1)) (hx : L[(i : Nat)]? = some (some (.long x))) (k : SW J E Z (pc + 1) L (.long x :: st) h) : SW J E Z pc L st h :=
  fun p l e s m args below meth c dC dI cI cZ cS ad F H locs ls hP hD hS hl => lv_lload_n F.1 F.2.1 hd rfl (hl.2.2 _ _ hx) (k p l e s m args below meth c dC dI cI cZ cS ad F H locs ls hP hD hS hl)
theorem sw_lload {J : Mt} {E : ExT} {Z : ZT} {pc : Nat} {L : List (Option Value)} {st : List Value} {h : Hp} {i : Nat} {x : Int64} (hd : decode J.c pc = .ok (.lload i, 2)) (hx : L[i]? = some (some (.long x))) (k : SW J E Z (pc + 2) L (.long x :: st) h) : SW J E Z pc L st h :=
  fun p l e s m args below meth c dC dI cI cZ cS ad F H locs ls hP hD hS hl => lv_lload F.1 F.2.1 hd (hl.2.2 _ _ hx) (k p l e s m args below meth c dC dI cI cZ cS ad F H locs ls hP hD hS hl)
theorem sw_aload_n {J : Mt} {E : ExT} {Z : ZT} {pc : Nat} {L : List (Option Value)} {st : List Value} {h : Hp} {i : Fin 4} {x : Nat} (hd : decode J.c pc = .ok (.aload_n i, 1)) (hx : L[(i : Nat)]? = some (some (.ref x))) (k : SW J E Z (pc + 1) L (.ref x :: st) h) : SW J E Z pc L st h :=
  fun p l e s m args below meth c dC dI cI cZ cS ad F H locs ls hP hD hS hl => lv_aload_n F.1 F.2.1 hd rfl (hl.2.2 _ _ hx) (k p l e s m args below meth c dC dI cI cZ cS ad F H locs ls hP hD hS hl)
theorem sw_aload {J : Mt} {E : ExT} {Z : ZT} {pc : Nat} {L : List (Option Value)} {st : List Value} {h : Hp} {i : Nat} {x : Nat} (hd : decode J.c pc = .ok (.aload i, 2)) (hx : L[i]? = some (some (.ref x))) (k : SW J E Z (pc + 2) L (.ref x :: st) h) : SW J E Z pc L st h :=
  fun p l e s m args below meth c dC dI cI cZ cS ad F H locs ls hP hD hS hl => lv_aload F.1 F.2.1 hd (hl.2.2 _ _ hx) (k p l e s m args below meth c dC dI cI cZ cS ad F H locs ls hP hD hS hl)
def LL (ad : Nat → Nat) (L : List (Option Value)) : List (Nat × Value) := L.zipIdx.filterMap (fun q => q.1.map (fun v => (q.2, trV ad v)))
theorem LL_mem {ad : Nat → Nat} {L : List (Option Value)} {i : Nat} {v : Value} (h : L[i]? = some (some v)) : (i, trV ad v) ∈ LL ad L := by
  refine List.mem_filterMap.mpr ⟨(some v, i), ?_, rfl⟩
  exact List.mem_zipIdx_iff_getElem?.mpr h
theorem LL_of {ad : Nat → Nat} {L : List (Option Value)} {q : Nat × Value} (h : q ∈ LL ad L) : ∃ v, L[q.1]? = some (some v) ∧ q.2 = trV ad v := by
  obtain ⟨⟨o, i⟩, h1, h2⟩ := List.mem_filterMap.mp h
  cases o with
  | none => cases h2
  | some v =>
    cases h2
    exact ⟨v, List.mem_zipIdx_iff_getElem?.mp h1, rfl⟩
theorem lvH_has {ls : Array Slot} {nL : Nat} {ad : Nat → Nat} {L : List (Option Value)} (h : lvH ls nL ad L) : lv_has ls nL (LL ad L) := by
  refine ⟨h.1, h.2.1, fun q hq => ?_⟩
  obtain ⟨v, h1, h2⟩ := LL_of hq
  rw [h2]
  exact h.2.2 _ _ h1
def okS (L : List (Option Value)) : Nat → Bool
  | 0 => true
  | j + 1 => match L[j]? with
    | some (some (.long _)) => false
    | some (some (.double _)) => false
    | _ => true
theorem okS_cat {L : List (Option Value)} {j : Nat} {w : Value} (h : okS L (j + 1) = true) (hw : L[j]? = some (some w)) : w.category = 1 := by
  simp only [okS, hw] at h
  cases w <;> first | rfl | (simp at h)
theorem lvH_st1 {ls : Array Slot} {nL i : Nat} {ad : Nat → Nat} {L : List (Option Value)} {v : Value} (hk : okS L i = true) (h : lv_has ls nL ((i, trV ad v) :: (LL ad L).filter (fun q => !(q.1 == i) && !(q.1 + 1 == i && q.2.category == 2)))) : lvH ls nL ad (L.set i (some v)) := by
  refine ⟨h.1, h.2.1, fun j w hj => ?_⟩
  by_cases hji : j = i
  · subst hji
    have hlt : j < L.length := by
      rcases Nat.lt_or_ge j L.length with q | q
      · exact q
      · rw [List.getElem?_eq_none (by simpa using q)] at hj; cases hj
    rw [List.getElem?_set_self hlt] at hj
    cases hj
    exact h.2.2 _ List.mem_cons_self
  · rw [List.getElem?_set_ne (Ne.symm hji)] at hj
    refine h.2.2 (j, trV ad w) (List.mem_cons_of_mem _ (List.mem_filter.mpr ⟨LL_mem hj, ?_⟩))
    by_cases h1 : j + 1 = i
    · subst h1
      have := okS_cat hk hj
      simp [trV_cat, this]
    · simp [hji, h1]
theorem lvH_st2 {ls : Array Slot} {nL i : Nat} {ad : Nat → Nat} {L : List (Option Value)} {v : Value} (hk : okS L i = true) (h : lv_has ls nL ((i, trV ad v) :: (LL ad L).filter (fun q => !(q.1 == i) && (!(q.1 == i + 1) && !(q.1 + 1 == i && q.2.category == 2))))) : lvH ls nL ad ((L.set (i + 1) none).set i (some v)) := by
  refine ⟨h.1, h.2.1, fun j w hj => ?_⟩
  by_cases hji : j = i
  · subst hji
    have hlt : j < (L.set (j + 1) none).length := by
      rcases Nat.lt_or_ge j (L.set (j + 1) none).length with q | q
      · exact q
      · rw [List.getElem?_eq_none (by simpa using q)] at hj; cases hj
    rw [List.getElem?_set_self hlt] at hj
    cases hj
    exact h.2.2 _ List.mem_cons_self
  · rw [List.getElem?_set_ne (Ne.symm hji)] at hj
    by_cases h2 : j = i + 1
    · subst h2
      rcases Nat.lt_or_ge (i + 1) L.length with q | q
      · rw [List.getElem?_set_self q] at hj; cases hj
      · rw [List.getElem?_eq_none (by simpa using q)] at hj; cases hj
    · rw [List.getElem?_set_ne (Ne.symm h2)] at hj
      refine h.2.2 (j, trV ad w) (List.mem_cons_of_mem _ (List.mem_filter.mpr ⟨LL_mem hj, ?_⟩))
      by_cases h1 : j + 1 = i
      · subst h1
        have := okS_cat hk hj
        simp [trV_cat, this]
        omega
      · simp [hji, h1, h2]
theorem sw_istore_n {J : Mt} {E : ExT} {Z : ZT} {pc : Nat} {L : List (Option Value)} {st : List Value} {h : Hp} {i : Fin 4} {x : Int32} (hd : decode J.c pc = .ok (.istore_n i, 1)) (hn : ((i : Nat) < J.n)) (hk : okS L (i : Nat) = true) (k : SW J E Z (pc + 1) (L.set (i : Nat) (some (.int x))) st h) : SW J E Z pc L (.int x :: st) h :=
  fun p l e s m args below meth c dC dI cI cZ cS ad F H locs ls hP hD hS hl => lv_istore_n F.1 F.2.1 hd rfl (lvH_has hl) hn rfl (fun ls' hl' => k p l e s m args below meth c dC dI cI cZ cS ad F H locs ls' hP hD hS (lvH_st1 (v := .int x) hk hl'))
theorem sw_istore {J : Mt} {E : ExT} {Z : ZT} {pc : Nat} {L : List (Option Value)} {st : List Value} {h : Hp} {i : Nat} {x : Int32} (hd : decode J.c pc = .ok (.istore i, 2)) (hn : (i < J.n)) (hk : okS L i = true) (k : SW J E Z (pc + 2) (L.set i (some (.int x))) st h) : SW J E Z pc L (.int x :: st) h :=
  fun p l e s m args below meth c dC dI cI cZ cS ad F H locs ls hP hD hS hl => lv_istore F.1 F.2.1 hd (lvH_has hl) hn rfl (fun ls' hl' => k p l e s m args below meth c dC dI cI cZ cS ad F H locs ls' hP hD hS (lvH_st1 (v := .int x) hk hl'))
theorem sw_astore_n {J : Mt} {E : ExT} {Z : ZT} {pc : Nat} {L : List (Option Value)} {st : List Value} {h : Hp} {i : Fin 4} {x : Nat} (hd : decode J.c pc = .ok (.astore_n i, 1)) (hn : ((i : Nat) < J.n)) (hk : okS L (i : Nat) = true) (k : SW J E Z (pc + 1) (L.set (i : Nat) (some (.ref x))) st h) : SW J E Z pc L (.ref x :: st) h :=
  fun p l e s m args below meth c dC dI cI cZ cS ad F H locs ls hP hD hS hl => lv_astore_n F.1 F.2.1 hd rfl (lvH_has hl) hn rfl (fun ls' hl' => k p l e s m args below meth c dC dI cI cZ cS ad F H locs ls' hP hD hS (lvH_st1 (v := .ref x) hk hl'))
theorem sw_astore {J : Mt} {E : ExT} {Z : ZT} {pc : Nat} {L : List (Option Value)} {st : List Value} {h : Hp} {i : Nat} {x : Nat} (hd : decode J.c pc = .ok (.astore i, 2)) (hn : (i < J.n)) (hk : okS L i = true) (k : SW J E Z (pc + 2) (L.set i (some (.ref x))) st h) : SW J E Z pc L (.ref x :: st) h :=
  fun p l e s m args below meth c dC dI cI cZ cS ad F H locs ls hP hD hS hl => lv_astore F.1 F.2.1 hd (lvH_has hl) hn rfl (fun ls' hl' => k p l e s m args below meth c dC dI cI cZ cS ad F H locs ls' hP hD hS (lvH_st1 (v := .ref x) hk hl'))
theorem sw_lstore {J : Mt} {E : ExT} {Z : ZT} {pc : Nat} {L : List (Option Value)} {st : List Value} {h : Hp} {i : Nat} {x : Int64} (hd : decode J.c pc = .ok (.lstore i, 2)) (hn : (i + 1 < J.n)) (hk : okS L i = true) (k : SW J E Z (pc + 2) ((L.set (i + 1) none).set i (some (.long x))) st h) : SW J E Z pc L (.long x :: st) h :=
  fun p l e s m args below meth c dC dI cI cZ cS ad F H locs ls hP hD hS hl => lv_lstore F.1 F.2.1 hd (lvH_has hl) hn rfl (fun ls' hl' => k p l e s m args below meth c dC dI cI cZ cS ad F H locs ls' hP hD hS (lvH_st2 (v := .long x) hk hl'))
theorem sw_iinc {J : Mt} {E : ExT} {Z : ZT} {pc : Nat} {L : List (Option Value)} {st : List Value} {h : Hp} {i : Nat} {n : Int} {x v : Int32} (hd : decode J.c pc = .ok (.iinc i n, 3)) (hx : L[i]? = some (some (.int x))) (hv : x + Int32.ofInt n = v) (hn : i < J.n) (hk : okS L i = true) (k : SW J E Z (pc + 3) (L.set i (some (.int v))) st h) : SW J E Z pc L st h := by
  intro p l e s m args below meth c dC dI cI cZ cS ad F H locs ls hP hD hS hl
  obtain ⟨q, hq⟩ := List.getElem?_of_mem (LL_mem (ad := ad) hx)
  exact lv_iinc F.1 F.2.1 hd (lvH_has hl) hq hv hn rfl (fun ls' hl' => k p l e s m args below meth c dC dI cI cZ cS ad F H locs ls' hP hD hS (lvH_st1 (v := .int v) hk hl'))
theorem sw_if_eq {J : Mt} {E : ExT} {Z : ZT} {pc : Nat} {L : List (Option Value)} {st : List Value} {h : Hp} {x : Int32} {off : Int} {tgt : Nat} (hd : decode J.c pc = .ok (.ifCond .eq off, 3)) (ht : (pc : Int) + off = (tgt : Int)) (kt : x = 0 → SW J E Z tgt L st h) (kf : ¬ x = 0 → SW J E Z (pc + 3) L st h) : SW J E Z pc L (.int x :: st) h :=
  fun p l e s m args below meth c dC dI cI cZ cS ad F H locs ls hP hD hS hl => lv_if_eq F.1 F.2.1 hd ht (fun q => kt q p l e s m args below meth c dC dI cI cZ cS ad F H locs ls hP hD hS hl) (fun q => kf q p l e s m args below meth c dC dI cI cZ cS ad F H locs ls hP hD hS hl)
theorem sw_icmp_eq {J : Mt} {E : ExT} {Z : ZT} {pc : Nat} {L : List (Option Value)} {st : List Value} {h : Hp} {x y : Int32} {off : Int} {tgt : Nat} (hd : decode J.c pc = .ok (.if_icmp .eq off, 3)) (ht : (pc : Int) + off = (tgt : Int)) (kt : x = y → SW J E Z tgt L st h) (kf : ¬ x = y → SW J E Z (pc + 3) L st h) : SW J E Z pc L (.int y :: .int x :: st) h :=
  fun p l e s m args below meth c dC dI cI cZ cS ad F H locs ls hP hD hS hl => lv_icmp_eq F.1 F.2.1 hd ht (fun q => kt q p l e s m args below meth c dC dI cI cZ cS ad F H locs ls hP hD hS hl) (fun q => kf q p l e s m args below meth c dC dI cI cZ cS ad F H locs ls hP hD hS hl)
theorem sw_if_ne {J : Mt} {E : ExT} {Z : ZT} {pc : Nat} {L : List (Option Value)} {st : List Value} {h : Hp} {x : Int32} {off : Int} {tgt : Nat} (hd : decode J.c pc = .ok (.ifCond .ne off, 3)) (ht : (pc : Int) + off = (tgt : Int)) (kt : ¬ x = 0 → SW J E Z tgt L st h) (kf : x = 0 → SW J E Z (pc + 3) L st h) : SW J E Z pc L (.int x :: st) h :=
  fun p l e s m args below meth c dC dI cI cZ cS ad F H locs ls hP hD hS hl => lv_if_ne F.1 F.2.1 hd ht (fun q => kt q p l e s m args below meth c dC dI cI cZ cS ad F H locs ls hP hD hS hl) (fun q => kf q p l e s m args below meth c dC dI cI cZ cS ad F H locs ls hP hD hS hl)
theorem sw_icmp_ne {J : Mt} {E : ExT} {Z : ZT} {pc : Nat} {L : List (Option Value)} {st : List Value} {h : Hp} {x y : Int32} {off : Int} {tgt : Nat} (hd : decode J.c pc = .ok (.if_icmp .ne off, 3)) (ht : (pc : Int) + off = (tgt : Int)) (kt : ¬ x = y → SW J E Z tgt L st h) (kf : x = y → SW J E Z (pc + 3) L st h) : SW J E Z pc L (.int y :: .int x :: st) h :=
  fun p l e s m args below meth c dC dI cI cZ cS ad F H locs ls hP hD hS hl => lv_icmp_ne F.1 F.2.1 hd ht (fun q => kt q p l e s m args below meth c dC dI cI cZ cS ad F H locs ls hP hD hS hl) (fun q => kf q p l e s m args below meth c dC dI cI cZ cS ad F H locs ls hP hD hS hl)
theorem sw_if_lt {J : Mt} {E : ExT} {Z : ZT} {pc : Nat} {L : List (Option Value)} {st : List Value} {h : Hp} {x : Int32} {off : Int} {tgt : Nat} (hd : decode J.c pc = .ok (.ifCond .lt off, 3)) (ht : (pc : Int) + off = (tgt : Int)) (kt : x < 0 → SW J E Z tgt L st h) (kf : ¬ (x < 0) → SW J E Z (pc + 3) L st h) : SW J E Z pc L (.int x :: st) h :=
  fun p l e s m args below meth c dC dI cI cZ cS ad F H locs ls hP hD hS hl => lv_if_lt F.1 F.2.1 hd ht (fun q => kt q p l e s m args below meth c dC dI cI cZ cS ad F H locs ls hP hD hS hl) (fun q => kf q p l e s m args below meth c dC dI cI cZ cS ad F H locs ls hP hD hS hl)
theorem sw_icmp_lt {J : Mt} {E : ExT} {Z : ZT} {pc : Nat} {L : List (Option Value)} {st : List Value} {h : Hp} {x y : Int32} {off : Int} {tgt : Nat} (hd : decode J.c pc = .ok (.if_icmp .lt off, 3)) (ht : (pc : Int) + off = (tgt : Int)) (kt : x < y → SW J E Z tgt L st h) (kf : ¬ (x < y) → SW J E Z (pc + 3) L st h) : SW J E Z pc L (.int y :: .int x :: st) h :=
  fun p l e s m args below meth c dC dI cI cZ cS ad F H locs ls hP hD hS hl => lv_icmp_lt F.1 F.2.1 hd ht (fun q => kt q p l e s m args below meth c dC dI cI cZ cS ad F H locs ls hP hD hS hl) (fun q => kf q p l e s m args below meth c dC dI cI cZ cS ad F H locs ls hP hD hS hl)
theorem sw_if_ge {J : Mt} {E : ExT} {Z : ZT} {pc : Nat} {L : List (Option Value)} {st : List Value} {h : Hp} {x : Int32} {off : Int} {tgt : Nat} (hd : decode J.c pc = .ok (.ifCond .ge off, 3)) (ht : (pc : Int) + off = (tgt : Int)) (kt : 0 ≤ x → SW J E Z tgt L st h) (kf : ¬ (0 ≤ x) → SW J E Z (pc + 3) L st h) : SW J E Z pc L (.int x :: st) h :=
  fun p l e s m args below meth c dC dI cI cZ cS ad F H locs ls hP hD hS hl => lv_if_ge F.1 F.2.1 hd ht (fun q => kt q p l e s m args below meth c dC dI cI cZ cS ad F H locs ls hP hD hS hl) (fun q => kf q p l e s m args below meth c dC dI cI cZ cS ad F H locs ls hP hD hS hl)
theorem sw_icmp_ge {J : Mt} {E : ExT} {Z : ZT} {pc : Nat} {L : List (Option Value)} {st : List Value} {h : Hp} {x y : Int32} {off : Int} {tgt : Nat} (hd : decode J.c pc = .ok (.if_icmp .ge off, 3)) (ht : (pc : Int) + off = (tgt : Int)) (kt : y ≤ x → SW J E Z tgt L st h) (kf : ¬ (y ≤ x) → SW J E Z (pc + 3) L st h) : SW J E Z pc L (.int y :: .int x :: st) h :=
  fun p l e s m args below meth c dC dI cI cZ cS ad F H locs ls hP hD hS hl => lv_icmp_ge F.1 F.2.1 hd ht (fun q => kt q p l e s m args below meth c dC dI cI cZ cS ad F H locs ls hP hD hS hl) (fun q => kf q p l e s m args below meth c dC dI cI cZ cS ad F H locs ls hP hD hS hl)
theorem sw_if_gt {J : Mt} {E : ExT} {Z : ZT} {pc : Nat} {L : List (Option Value)} {st : List Value} {h : Hp} {x : Int32} {off : Int} {tgt : Nat} (hd : decode J.c pc = .ok (.ifCond .gt off, 3)) (ht : (pc : Int) + off = (tgt : Int)) (kt : 0 < x → SW J E Z tgt L st h) (kf : ¬ (0 < x) → SW J E Z (pc + 3) L st h) : SW J E Z pc L (.int x :: st) h :=
  fun p l e s m args below meth c dC dI cI cZ cS ad F H locs ls hP hD hS hl => lv_if_gt F.1 F.2.1 hd ht (fun q => kt q p l e s m args below meth c dC dI cI cZ cS ad F H locs ls hP hD hS hl) (fun q => kf q p l e s m args below meth c dC dI cI cZ cS ad F H locs ls hP hD hS hl)
theorem sw_icmp_gt {J : Mt} {E : ExT} {Z : ZT} {pc : Nat} {L : List (Option Value)} {st : List Value} {h : Hp} {x y : Int32} {off : Int} {tgt : Nat} (hd : decode J.c pc = .ok (.if_icmp .gt off, 3)) (ht : (pc : Int) + off = (tgt : Int)) (kt : y < x → SW J E Z tgt L st h) (kf : ¬ (y < x) → SW J E Z (pc + 3) L st h) : SW J E Z pc L (.int y :: .int x :: st) h :=
  fun p l e s m args below meth c dC dI cI cZ cS ad F H locs ls hP hD hS hl => lv_icmp_gt F.1 F.2.1 hd ht (fun q => kt q p l e s m args below meth c dC dI cI cZ cS ad F H locs ls hP hD hS hl) (fun q => kf q p l e s m args below meth c dC dI cI cZ cS ad F H locs ls hP hD hS hl)
theorem sw_if_le {J : Mt} {E : ExT} {Z : ZT} {pc : Nat} {L : List (Option Value)} {st : List Value} {h : Hp} {x : Int32} {off : Int} {tgt : Nat} (hd : decode J.c pc = .ok (.ifCond .le off, 3)) (ht : (pc : Int) + off = (tgt : Int)) (kt : x ≤ 0 → SW J E Z tgt L st h) (kf : ¬ (x ≤ 0) → SW J E Z (pc + 3) L st h) : SW J E Z pc L (.int x :: st) h :=
  fun p l e s m args below meth c dC dI cI cZ cS ad F H locs ls hP hD hS hl => lv_if_le F.1 F.2.1 hd ht (fun q => kt q p l e s m args below meth c dC dI cI cZ cS ad F H locs ls hP hD hS hl) (fun q => kf q p l e s m args below meth c dC dI cI cZ cS ad F H locs ls hP hD hS hl)
theorem sw_icmp_le {J : Mt} {E : ExT} {Z : ZT} {pc : Nat} {L : List (Option Value)} {st : List Value} {h : Hp} {x y : Int32} {off : Int} {tgt : Nat} (hd : decode J.c pc = .ok (.if_icmp .le off, 3)) (ht : (pc : Int) + off = (tgt : Int)) (kt : x ≤ y → SW J E Z tgt L st h) (kf : ¬ (x ≤ y) → SW J E Z (pc + 3) L st h) : SW J E Z pc L (.int y :: .int x :: st) h :=
  fun p l e s m args below meth c dC dI cI cZ cS ad F H locs ls hP hD hS hl => lv_icmp_le F.1 F.2.1 hd ht (fun q => kt q p l e s m args below meth c dC dI cI cZ cS ad F H locs ls hP hD hS hl) (fun q => kf q p l e s m args below meth c dC dI cI cZ cS ad F H locs ls hP hD hS hl)
theorem sw_icmpN_eq {J : Mt} {E : ExT} {Z : ZT} {pc : Nat} {L : List (Option Value)} {st : List Value} {h : Hp} {a b : Nat} {off : Int} {tgt : Nat} (hd : decode J.c pc = .ok (.if_icmp .eq off, 3)) (ht : (pc : Int) + off = (tgt : Int)) (ha : a < 2 ^ 31) (hb : b < 2 ^ 31) (kt : a = b → SW J E Z tgt L st h) (kf : ¬ a = b → SW J E Z (pc + 3) L st h) : SW J E Z pc L (.int (nI b) :: .int (nI a) :: st) h :=
  sw_icmp_eq hd ht (fun q => kt ((nI_eq ha hb).mp q)) (fun q => kf (fun z => q ((nI_eq ha hb).mpr z)))
theorem sw_icmpN_ne {J : Mt} {E : ExT} {Z : ZT} {pc : Nat} {L : List (Option Value)} {st : List Value} {h : Hp} {a b : Nat} {off : Int} {tgt : Nat} (hd : decode J.c pc = .ok (.if_icmp .ne off, 3)) (ht : (pc : Int) + off = (tgt : Int)) (ha : a < 2 ^ 31) (hb : b < 2 ^ 31) (kt : ¬ a = b → SW J E Z tgt L st h) (kf : a = b → SW J E Z (pc + 3) L st h) : SW J E Z pc L (.int (nI b) :: .int (nI a) :: st) h :=
  sw_icmp_ne hd ht (fun q => kt (fun z => q ((nI_eq ha hb).mpr z))) (fun q => kf ((nI_eq ha hb).mp q))
theorem sw_icmpN_lt {J : Mt} {E : ExT} {Z : ZT} {pc : Nat} {L : List (Option Value)} {st : List Value} {h : Hp} {a b : Nat} {off : Int} {tgt : Nat} (hd : decode J.c pc = .ok (.if_icmp .lt off, 3)) (ht : (pc : Int) + off = (tgt : Int)) (ha : a < 2 ^ 31) (hb : b < 2 ^ 31) (kt : a < b → SW J E Z tgt L st h) (kf : b ≤ a → SW J E Z (pc + 3) L st h) : SW J E Z pc L (.int (nI b) :: .int (nI a) :: st) h :=
  sw_icmp_lt hd ht (fun q => kt ((nI_ltI ha hb).mp q)) (fun q => kf (Nat.not_lt.mp fun z => q ((nI_ltI ha hb).mpr z)))
theorem sw_icmpN_ge {J : Mt} {E : ExT} {Z : ZT} {pc : Nat} {L : List (Option Value)} {st : List Value} {h : Hp} {a b : Nat} {off : Int} {tgt : Nat} (hd : decode J.c pc = .ok (.if_icmp .ge off, 3)) (ht : (pc : Int) + off = (tgt : Int)) (ha : a < 2 ^ 31) (hb : b < 2 ^ 31) (kt : b ≤ a → SW J E Z tgt L st h) (kf : a < b → SW J E Z (pc + 3) L st h) : SW J E Z pc L (.int (nI b) :: .int (nI a) :: st) h :=
  sw_icmp_ge hd ht (fun q => kt ((nI_leI hb ha).mp q)) (fun q => kf (Nat.not_le.mp fun z => q ((nI_leI hb ha).mpr z)))
theorem sw_icmpN_gt {J : Mt} {E : ExT} {Z : ZT} {pc : Nat} {L : List (Option Value)} {st : List Value} {h : Hp} {a b : Nat} {off : Int} {tgt : Nat} (hd : decode J.c pc = .ok (.if_icmp .gt off, 3)) (ht : (pc : Int) + off = (tgt : Int)) (ha : a < 2 ^ 31) (hb : b < 2 ^ 31) (kt : b < a → SW J E Z tgt L st h) (kf : a ≤ b → SW J E Z (pc + 3) L st h) : SW J E Z pc L (.int (nI b) :: .int (nI a) :: st) h :=
  sw_icmp_gt hd ht (fun q => kt ((nI_ltI hb ha).mp q)) (fun q => kf (Nat.not_lt.mp fun z => q ((nI_ltI hb ha).mpr z)))
theorem sw_icmpN_le {J : Mt} {E : ExT} {Z : ZT} {pc : Nat} {L : List (Option Value)} {st : List Value} {h : Hp} {a b : Nat} {off : Int} {tgt : Nat} (hd : decode J.c pc = .ok (.if_icmp .le off, 3)) (ht : (pc : Int) + off = (tgt : Int)) (ha : a < 2 ^ 31) (hb : b < 2 ^ 31) (kt : a ≤ b → SW J E Z tgt L st h) (kf : b < a → SW J E Z (pc + 3) L st h) : SW J E Z pc L (.int (nI b) :: .int (nI a) :: st) h :=
  sw_icmp_le hd ht (fun q => kt ((nI_leI ha hb).mp q)) (fun q => kf (Nat.not_le.mp fun z => q ((nI_leI ha hb).mpr z)))
theorem sw_goto {J : Mt} {E : ExT} {Z : ZT} {pc : Nat} {L : List (Option Value)} {st : List Value} {h : Hp} {off : Int} {tgt : Nat} (hd : decode J.c pc = .ok (.goto off, 3)) (ht : (pc : Int) + off = (tgt : Int)) (k : SW J E Z tgt L st h) : SW J E Z pc L st h :=
  fun p l e s m args below meth c dC dI cI cZ cS ad F H locs ls hP hD hS hl => lv_goto F.1 F.2.1 hd ht (k p l e s m args below meth c dC dI cI cZ cS ad F H locs ls hP hD hS hl)
theorem sw_idiv {J : Mt} {E : ExT} {Z : ZT} {pc : Nat} {L : List (Option Value)} {st : List Value} {h : Hp} {x y : Int32} (hd : decode J.c pc = .ok (.idiv, 1)) (hne : ¬ y = 0) (k : SW J E Z (pc + 1) L (.int (x / y) :: st) h) : SW J E Z pc L (.int y :: .int x :: st) h :=
  fun p l e s m args below meth c dC dI cI cZ cS ad F H locs ls hP hD hS hl => lv_idiv F.1 F.2.1 hd hne (k p l e s m args below meth c dC dI cI cZ cS ad F H locs ls hP hD hS hl)
theorem sw_irem {J : Mt} {E : ExT} {Z : ZT} {pc : Nat} {L : List (Option Value)} {st : List Value} {h : Hp} {x y : Int32} (hd : decode J.c pc = .ok (.irem, 1)) (hne : ¬ y = 0) (k : SW J E Z (pc + 1) L (.int (x - x / y * y) :: st) h) : SW J E Z pc L (.int y :: .int x :: st) h :=
  fun p l e s m args below meth c dC dI cI cZ cS ad F H locs ls hP hD hS hl => lv_irem F.1 F.2.1 hd hne (k p l e s m args below meth c dC dI cI cZ cS ad F H locs ls hP hD hS hl)
theorem sw_iaddN {J : Mt} {E : ExT} {Z : ZT} {pc : Nat} {L : List (Option Value)} {st : List Value} {h : Hp} {a b : Nat} (hd : decode J.c pc = .ok (.iadd, 1)) (k : SW J E Z (pc + 1) L (.int (nI (a + b)) :: st) h) : SW J E Z pc L (.int (nI b) :: .int (nI a) :: st) h := sw_iadd hd (by rw [nI_add]; exact k)
theorem sw_imulN {J : Mt} {E : ExT} {Z : ZT} {pc : Nat} {L : List (Option Value)} {st : List Value} {h : Hp} {a b : Nat} (hd : decode J.c pc = .ok (.imul, 1)) (k : SW J E Z (pc + 1) L (.int (nI (a * b)) :: st) h) : SW J E Z pc L (.int (nI b) :: .int (nI a) :: st) h := sw_imul hd (by rw [pk_mul]; exact k)
theorem sw_isubN {J : Mt} {E : ExT} {Z : ZT} {pc : Nat} {L : List (Option Value)} {st : List Value} {h : Hp} {a b : Nat} (hd : decode J.c pc = .ok (.isub, 1)) (hab : b ≤ a) (k : SW J E Z (pc + 1) L (.int (nI (a - b)) :: st) h) : SW J E Z pc L (.int (nI b) :: .int (nI a) :: st) h := sw_isub hd (by rw [pk_sub hab]; exact k)
theorem sw_iincN {J : Mt} {E : ExT} {Z : ZT} {pc : Nat} {L : List (Option Value)} {st : List Value} {h : Hp} {i a b : Nat} (hd : decode J.c pc = .ok (.iinc i (b : Int), 3)) (hx : L[i]? = some (some (.int (nI a)))) (hn : i < J.n) (hk : okS L i = true) (k : SW J E Z (pc + 3) (L.set i (some (.int (nI (a + b))))) st h) : SW J E Z pc L st h := sw_iinc (v := nI (a + b)) hd hx (by rw [← nI_add]; rfl) hn hk k
theorem sw_top {J : Mt} {E : ExT} {Z : ZT} {pc : Nat} {L : List (Option Value)} {st : List Value} {h : Hp} {x y : Int32} (e : x = y) (k : SW J E Z pc L (.int y :: st) h) : SW J E Z pc L (.int x :: st) h := by rw [e]; exact k
theorem sw_nd {J : Mt} {E : ExT} {Z : ZT} {pc : Nat} {L : List (Option Value)} {st : List Value} {h : Hp} {x y z : Int32} (e : x = y) (k : SW J E Z pc L (.int z :: .int y :: st) h) : SW J E Z pc L (.int z :: .int x :: st) h := by rw [e]; exact k
theorem sw_to {J : Mt} {E : ExT} {Z : ZT} {pc : Nat} {L : List (Option Value)} {st : List Value} {h : Hp} {L' : List (Option Value)} {st' : List Value} {h' : Hp} (k : SW J E Z pc L' st' h') (e1 : L = L') (e2 : st = st') (e3 : h = h') : SW J E Z pc L st h := by subst e1; subst e2; subst e3; exact k
theorem sw_ldc {J : Mt} {E : ExT} {Z : ZT} {pc : Nat} {L : List (Option Value)} {st : List Value} {h : Hp} {idx : Nat} {v : Int32} (hd : decode J.c pc = .ok (.ldc idx, 2)) (hc : Cond.constant J.y.cls idx v ∈ ws0) (k : SW J E Z (pc + 2) L (.int v :: st) h) : SW J E Z pc L st h :=
  fun p l e s m args below meth c dC dI cI cZ cS ad F H locs ls hP hD hS hl => lv_ldc F.1 F.2.1 F.2.2.2.1 (F.2.2.2.2.1 _ hc) hd (k p l e s m args below meth c dC dI cI cZ cS ad F H locs ls hP hD hS hl)
theorem sw_ldc_w {J : Mt} {E : ExT} {Z : ZT} {pc : Nat} {L : List (Option Value)} {st : List Value} {h : Hp} {idx : Nat} {v : Int32} (hd : decode J.c pc = .ok (.ldc_w idx, 3)) (hc : Cond.constant J.y.cls idx v ∈ ws0) (k : SW J E Z (pc + 3) L (.int v :: st) h) : SW J E Z pc L st h :=
  fun p l e s m args below meth c dC dI cI cZ cS ad F H locs ls hP hD hS hl => lv_ldcw F.1 F.2.1 F.2.2.2.1 (F.2.2.2.2.1 _ hc) hd (k p l e s m args below meth c dC dI cI cZ cS ad F H locs ls hP hD hS hl)
theorem sw_ldc2_w {J : Mt} {E : ExT} {Z : ZT} {pc : Nat} {L : List (Option Value)} {st : List Value} {h : Hp} {idx : Nat} {v : Int64} (hd : decode J.c pc = .ok (.ldc2_w idx, 3)) (hc : Cond.constantLong J.y.cls idx v ∈ ws0) (k : SW J E Z (pc + 3) L (.long v :: st) h) : SW J E Z pc L st h :=
  fun p l e s m args below meth c dC dI cI cZ cS ad F H locs ls hP hD hS hl => lv_ldc2 F.1 F.2.1 F.2.2.2.1 (F.2.2.2.2.1 _ hc) hd (k p l e s m args below meth c dC dI cI cZ cS ad F H locs ls hP hD hS hl)
theorem sw_tabOut {J : Mt} {E : ExT} {Z : ZT} {pc : Nat} {L : List (Option Value)} {st : List Value} {h : Hp} {x : Int32} {dflt lo hi : Int} {offs : Array Int} {len tgt : Nat} (hd : decode J.c pc = .ok (.tableswitch dflt lo hi offs, len)) (hx : x.toInt < lo ∨ hi < x.toInt) (ht : (pc : Int) + dflt = (tgt : Int)) (k : SW J E Z tgt L st h) : SW J E Z pc L (.int x :: st) h :=
  fun p l e s m args below meth c dC dI cI cZ cS ad F H locs ls hP hD hS hl => lv_tableOut F.1 F.2.1 hd hx ht (k p l e s m args below meth c dC dI cI cZ cS ad F H locs ls hP hD hS hl)
theorem sw_tabIn {J : Mt} {E : ExT} {Z : ZT} {pc : Nat} {L : List (Option Value)} {st : List Value} {h : Hp} {x : Int32} {dflt lo hi off : Int} {offs : Array Int} {len tgt : Nat} (hd : decode J.c pc = .ok (.tableswitch dflt lo hi offs, len)) (h1 : ¬ x.toInt < lo) (h2 : ¬ hi < x.toInt) (ho : offs[(x.toInt - lo).toNat]? = some off) (ht : (pc : Int) + off = (tgt : Int)) (k : SW J E Z tgt L st h) : SW J E Z pc L (.int x :: st) h :=
  fun p l e s m args below meth c dC dI cI cZ cS ad F H locs ls hP hD hS hl => lv_tableIn F.1 F.2.1 hd h1 h2 ho ht (k p l e s m args below meth c dC dI cI cZ cS ad F H locs ls hP hD hS hl)
theorem sw_lookup {J : Mt} {E : ExT} {Z : ZT} {pc : Nat} {L : List (Option Value)} {st : List Value} {h : Hp} {x : Int32} {dflt off : Int} {ps : Array (Int × Int)} {len tgt : Nat} (hd : decode J.c pc = .ok (.lookupswitch dflt ps, len)) (hp : (ps.toList.zip (ps.toList.drop 1)).all (fun (a, next) => a.1 < next.1) = true) (ho : Op.lookupswitch.offset ps.toList dflt x.toInt = off) (ht : (pc : Int) + off = (tgt : Int)) (k : SW J E Z tgt L st h) : SW J E Z pc L (.int x :: st) h :=
  fun p l e s m args below meth c dC dI cI cZ cS ad F H locs ls hP hD hS hl => lv_lookup F.1 F.2.1 hd hp ho ht (k p l e s m args below meth c dC dI cI cZ cS ad F H locs ls hP hD hS hl)
def isI (k : Nat) : Bool := decide (k < 43) && (plO k).isNone && decide (k ≠ 19) && decide (k ≠ 9)
theorem isI_cE {k : Nat} (hk : isI k = true) {cI cZ cS : ClassId} {ad : Nat → Nat} {h : Hp} : (wW cI cZ cS ad h)[k]? = some (ad k, .inl (cI, plA k, .inl (h k))) := by
  simp only [isI, Bool.and_eq_true, decide_eq_true_eq, Option.isNone_iff_eq_none] at hk
  obtain ⟨⟨⟨h1, h2⟩, h3⟩, h4⟩ := hk
  rw [wW_get h1]
  simp [cE, h2, h3, h4]
theorem isI_lt {k : Nat} (hk : isI k = true) : k < 43 := by
  simp only [isI, Bool.and_eq_true, decide_eq_true_eq] at hk
  exact hk.1.1.1
theorem isI_set {k : Nat} (hk : isI k = true) {cI cZ cS : ClassId} {ad : Nat → Nat} {h h' : Hp} {f : Nat → Int32} (ho : ∀ a, a ≠ k → h' a = h a) (hf : h' k = f) : (wW cI cZ cS ad h).set k (ad k, .inl (cI, plA k, .inl f)) = wW cI cZ cS ad h' := by
  rw [← wW_set (isI_lt hk) ho]
  congr 2
  have h2 := isI_cE hk (cI := cI) (cZ := cZ) (cS := cS) (ad := ad) (h := h')
  rw [wW_get (isI_lt hk)] at h2
  have h3 := (Prod.mk.inj (Option.some.inj h2)).2
  rw [h3, hf]
theorem met_cE {cI cZ cS : ClassId} {ad : Nat → Nat} {h : Hp} : (wW cI cZ cS ad h)[9]? = some (ad 9, .inl (cZ, 64, .inl (h 9))) := by
  rw [wW_get (by decide)]
  rfl
theorem met_set {cI cZ cS : ClassId} {ad : Nat → Nat} {h h' : Hp} {f : Nat → Int32} (ho : ∀ a, a ≠ 9 → h' a = h a) (hf : h' 9 = f) : (wW cI cZ cS ad h).set 9 (ad 9, .inl (cZ, 64, .inl f)) = wW cI cZ cS ad h' := by
  rw [← wW_set (k := 9) (by decide) ho]
  subst hf
  rfl
theorem nI_cl {n N : Nat} (h : n < N) (hN : N ≤ 512) : (nI n).toNatClampNeg = n := nI_clamp (by omega)
theorem plA_le (k : Nat) : plA k ≤ 512 := by unfold plA; split <;> decide
theorem sw_iald {J : Mt} {E : ExT} {Z : ZT} {pc : Nat} {L : List (Option Value)} {st : List Value} {h : Hp} {q n : Nat} (hd : decode J.c pc = .ok (.iaload, 1)) (hk : isI q = true) (hn : n < plA q) (k : SW J E Z (pc + 1) L (.int (h q n) :: st) h) : SW J E Z pc L (.int (nI n) :: .ref q :: st) h := by
  intro p l e s m args below meth c dC dI cI cZ cS ad F H locs ls hP hD hS hl
  have hz := plA_le q
  refine va_iald F.1 F.2.1 F.2.2.2.2.2.1 hP q 0 (isI_cE hk) rfl (vp_in_nI hn (by omega)) hd ?_
  rw [nI_cl hn hz]
  exact (k p l e s m args below meth c dC dI cI cZ cS ad F H locs ls hP hD hS hl)
theorem sw_iast {J : Mt} {E : ExT} {Z : ZT} {pc : Nat} {L : List (Option Value)} {st : List Value} {h : Hp} {q n : Nat} {x : Int32} (hd : decode J.c pc = .ok (.iastore, 1)) (hk : isI q = true) (hn : n < plA q) (k : SW J E Z (pc + 1) L st (hset h q n x)) : SW J E Z pc L (.int x :: .int (nI n) :: .ref q :: st) h := by
  intro p l e s m args below meth c dC dI cI cZ cS ad F H locs ls hP hD hS hl
  have hz := plA_le q
  refine va_iast F.1 F.2.1 F.2.2.2.2.2.1 hP hD hS q 0 (isI_cE hk) rfl (vp_in_nI hn (by omega)) hd (fun H1 locs1 hP1 hD1 hS1 => ?_)
  have ee := isI_set hk (cI := cI) (cZ := cZ) (cS := cS) (ad := ad) (h := h) (h' := hset h q n x) (f := upd (h q) (nI n).toNatClampNeg x) hset_off (by rw [hset_same, nI_cl hn hz])
  rw [ee] at hP1 hD1
  exact k p l e s m args below meth c dC dI cI cZ cS ad F H1 locs1 ls hP1 hD1 hS1 hl
theorem sw_zald {J : Mt} {E : ExT} {Z : ZT} {pc : Nat} {L : List (Option Value)} {st : List Value} {h : Hp} {n : Nat} (hd : decode J.c pc = .ok (.baload, 1)) (hn : n < 64) (k : SW J E Z (pc + 1) L (.int (h 9 n) :: st) h) : SW J E Z pc L (.int (nI n) :: .ref 9 :: st) h := by
  intro p l e s m args below meth c dC dI cI cZ cS ad F H locs ls hP hD hS hl
  refine va_zald F.1 F.2.1 F.2.2.2.2.2.1 hP 9 1 met_cE rfl (vp_in_nI hn (by omega)) hd ?_
  rw [nI_cl hn (by omega)]
  exact (k p l e s m args below meth c dC dI cI cZ cS ad F H locs ls hP hD hS hl)
theorem sw_zast {J : Mt} {E : ExT} {Z : ZT} {pc : Nat} {L : List (Option Value)} {st : List Value} {h : Hp} {n : Nat} {x : Int32} (hd : decode J.c pc = .ok (.bastore, 1)) (hn : n < 64) (hx : vp_nar .boolean x = x) (k : SW J E Z (pc + 1) L st (hset h 9 n x)) : SW J E Z pc L (.int x :: .int (nI n) :: .ref 9 :: st) h := by
  intro p l e s m args below meth c dC dI cI cZ cS ad F H locs ls hP hD hS hl
  refine va_zast F.1 F.2.1 F.2.2.2.2.2.1 hP hD hS 9 1 met_cE rfl (vp_in_nI hn (by omega)) hd (fun H1 locs1 hP1 hD1 hS1 => ?_)
  have ee := met_set (cI := cI) (cZ := cZ) (cS := cS) (ad := ad) (h := h) (h' := hset h 9 n x) (f := upd (h 9) (nI n).toNatClampNeg (vp_nar .boolean x)) hset_off (by rw [hset_same, nI_cl hn (by omega), hx])
  rw [ee] at hP1 hD1
  exact k p l e s m args below meth c dC dI cI cZ cS ad F H1 locs1 ls hP1 hD1 hS1 hl
theorem sw_aald {J : Mt} {E : ExT} {Z : ZT} {pc : Nat} {L : List (Option Value)} {st : List Value} {h : Hp} {n : Nat} (hd : decode J.c pc = .ok (.aaload, 1)) (hn : n < 4) (k : SW J E Z (pc + 1) L (.ref (20 + n) :: st) h) : SW J E Z pc L (.int (nI n) :: .ref 19 :: st) h := by
  intro p l e s m args below meth c dC dI cI cZ cS ad F H locs ls hP hD hS hl
  refine va_aldq F.1 F.2.1 F.2.2.2.2.2.1 hP 19 2 (n := 4) (f := fun j => some (ad (20 + j))) (by rw [wW_get (by decide)]; rfl) rfl (vp_in_nI hn (by omega)) hd ?_
  rw [nI_cl hn (by omega)]
  exact (k p l e s m args below meth c dC dI cI cZ cS ad F H locs ls hP hD hS hl)
theorem sw_alen {J : Mt} {E : ExT} {Z : ZT} {pc : Nat} {L : List (Option Value)} {st : List Value} {h : Hp} {q : Nat} {v : Int32} (hd : decode J.c pc = .ok (.arraylength, 1)) (hk : isI q = true) (hv : nI (plA q) = v) (k : SW J E Z (pc + 1) L (.int v :: st) h) : SW J E Z pc L (.ref q :: st) h :=
  fun p l e s m args below meth c dC dI cI cZ cS ad F H locs ls hP hD hS hl => va_alen F.1 F.2.1 F.2.2.2.2.2.1 hP q 0 (isI_cE hk) (ty := .int) rfl hv hd (k p l e s m args below meth c dC dI cI cZ cS ad F H locs ls hP hD hS hl)
/-- the field of number i of class ci, as the class own names it by idx -/
def FL (own : String) (idx ci i : Nat) : Prop := ∃ (C : String) (T : u_T) (N : Nat), clsX[ci]? = some (C, T, N) ∧ i < N ∧ Cond.fieldLink own idx C (T i).2.1 (T i).2.2.1 ∈ ws0 ∧ (∀ w ∈ u_ws C T N, w ∈ ws0) ∧ (T i).1 = C
def FN (own : String) (idx ci i : Nat) : Prop := ∃ (C : String) (T : u_T) (N : Nat), clsX[ci]? = some (C, T, N) ∧ i < N ∧ (own, idx, C, (T i).2.1, (T i).2.2.1) ∈ nsT ∧ (∀ w ∈ u_ws C T N, w ∈ ws0) ∧ (T i).1 = C
def FP (own : String) (idx ci i : Nat) (ty : FieldType) : Prop := ∃ (C : String) (T : u_T) (N : Nat) (tf : Nat → FieldType), clsX[ci]? = some (C, T, N) ∧ i < N ∧ Cond.fieldLink own idx C (T i).2.1 (T i).2.2.1 ∈ ws0 ∧ (∀ w ∈ u_ws C T N, w ∈ ws0) ∧ (T i).1 = C ∧ (T i).2.2.2 = false ∧ parseFieldDescriptor (T i).2.2.1 = some ty ∧ (∀ k, k < N → parseFieldDescriptor (T k).2.2.1 = some (tf k)) ∧ (∀ a, a < N → ∀ b, b < N → a ≠ b → (T a).2.1 ≠ (T b).2.1)
/-- cell q is an object of class ci whose slot i is f -/
def ob (q ci i : Nat) (f : Option Nat) : Prop := q < 43 ∧ ∃ fs, plO q = some (ci, fs) ∧ fs[i]? = some f
theorem ob_cE {q ci i : Nat} {f : Option Nat} (ho : ob q ci i f) {cI cZ cS : ClassId} {ad : Nat → Nat} {h : Hp} : ∃ vs : List Value, (wW cI cZ cS ad h)[q]? = some (ad q, .inr (ci, vs)) ∧ vs[i]? = some (fE ad h q i f) ∧ ∀ x : Int32, f = none → (wW cI cZ cS ad h).set q (ad q, .inr (ci, vs.set i (.int x))) = wW cI cZ cS ad (hset h q i x) := by
  obtain ⟨hq, fs, h1, h2⟩ := ho
  refine ⟨fs.mapIdx (fE ad h q), ?_, ?_, ?_⟩
  · rw [wW_get hq]
    simp [cE, h1]
  · rw [List.getElem?_mapIdx, h2]
    rfl
  · intro x hf
    subst hf
    rw [← wW_set hq (hset_off (h := h) (k := q) (i := i) (v := x))]
    congr 2
    simp only [cE, h1]
    congr 2
    apply List.ext_getElem?
    intro j
    by_cases hj : j = i
    · subst hj
      have hl := (List.getElem?_eq_some_iff.mp h2).1
      rw [List.getElem?_set_self (by simpa using hl), List.getElem?_mapIdx, h2]
      simp [fE, hset_at]
    · rw [List.getElem?_set_ne (Ne.symm hj), List.getElem?_mapIdx, List.getElem?_mapIdx]
      cases fs[j]? with
      | none => rfl
      | some g =>
        cases g with
        | some r => rfl
        | none => simp [fE, hset, upd, hj]
theorem sw_getI {J : Mt} {E : ExT} {Z : ZT} {pc : Nat} {L : List (Option Value)} {st : List Value} {h : Hp} {idx ci i q : Nat}  (hd : decode J.c pc = .ok (.getfield idx, 3)) (hF : FL J.y.cls idx ci i) (hq : ob q ci i none) (k : SW J E Z (pc + 3) L (.int (h q i) :: st) h) : SW J E Z pc L (.ref q :: st) h := by
  intro p l e s m args below meth c dC dI cI cZ cS ad F H locs ls hP hD hS hl
  obtain ⟨C, T, N, hc, hi, hlk, hly, hdc⟩ := hF
  obtain ⟨vs, e1, e2, -⟩ := ob_cE hq (cI := cI) (cZ := cZ) (cS := cS) (ad := ad) (h := h)
  exact va_get F.1 F.2.1 F.2.2.2.2.1 hly F.2.2.2.1 F.2.2.2.2.2.1 hP q e1 hc i hi (F.2.2.2.2.1 _ hlk) (fun x hx => by rw [hdc] at hx; exact hx) e2 hd (k p l e s m args below meth c dC dI cI cZ cS ad F H locs ls hP hD hS hl)
theorem sw_getR {J : Mt} {E : ExT} {Z : ZT} {pc : Nat} {L : List (Option Value)} {st : List Value} {h : Hp} {idx ci i q : Nat} {r : Nat} (hd : decode J.c pc = .ok (.getfield idx, 3)) (hF : FL J.y.cls idx ci i) (hq : ob q ci i (some r)) (k : SW J E Z (pc + 3) L (.ref r :: st) h) : SW J E Z pc L (.ref q :: st) h := by
  intro p l e s m args below meth c dC dI cI cZ cS ad F H locs ls hP hD hS hl
  obtain ⟨C, T, N, hc, hi, hlk, hly, hdc⟩ := hF
  obtain ⟨vs, e1, e2, -⟩ := ob_cE hq (cI := cI) (cZ := cZ) (cS := cS) (ad := ad) (h := h)
  exact va_get F.1 F.2.1 F.2.2.2.2.1 hly F.2.2.2.1 F.2.2.2.2.2.1 hP q e1 hc i hi (F.2.2.2.2.1 _ hlk) (fun x hx => by rw [hdc] at hx; exact hx) e2 hd (k p l e s m args below meth c dC dI cI cZ cS ad F H locs ls hP hD hS hl)
theorem sw_getNI {J : Mt} {E : ExT} {Z : ZT} {pc : Nat} {L : List (Option Value)} {st : List Value} {h : Hp} {idx ci i q : Nat}  (hd : decode J.c pc = .ok (.getfield idx, 3)) (hF : FN J.y.cls idx ci i) (hq : ob q ci i none) (k : SW J E Z (pc + 3) L (.int (h q i) :: st) h) : SW J E Z pc L (.ref q :: st) h := by
  intro p l e s m args below meth c dC dI cI cZ cS ad F H locs ls hP hD hS hl
  obtain ⟨C, T, N, hc, hi, hlk, hly, hdc⟩ := hF
  obtain ⟨vs, e1, e2, -⟩ := ob_cE hq (cI := cI) (cZ := cZ) (cS := cS) (ad := ad) (h := h)
  exact va_getN F.1 F.2.1 F.2.2.2.2.1 hly F.2.2.2.1 F.2.2.2.2.2.1 hP q e1 hc i hi (va_Nw.use rfl (F.2.2.2.2.2.2.1 _ hlk)) (fun x hx => by rw [hdc] at hx; exact hx) e2 hd (k p l e s m args below meth c dC dI cI cZ cS ad F H locs ls hP hD hS hl)
theorem sw_getNR {J : Mt} {E : ExT} {Z : ZT} {pc : Nat} {L : List (Option Value)} {st : List Value} {h : Hp} {idx ci i q : Nat} {r : Nat} (hd : decode J.c pc = .ok (.getfield idx, 3)) (hF : FN J.y.cls idx ci i) (hq : ob q ci i (some r)) (k : SW J E Z (pc + 3) L (.ref r :: st) h) : SW J E Z pc L (.ref q :: st) h := by
  intro p l e s m args below meth c dC dI cI cZ cS ad F H locs ls hP hD hS hl
  obtain ⟨C, T, N, hc, hi, hlk, hly, hdc⟩ := hF
  obtain ⟨vs, e1, e2, -⟩ := ob_cE hq (cI := cI) (cZ := cZ) (cS := cS) (ad := ad) (h := h)
  exact va_getN F.1 F.2.1 F.2.2.2.2.1 hly F.2.2.2.1 F.2.2.2.2.2.1 hP q e1 hc i hi (va_Nw.use rfl (F.2.2.2.2.2.2.1 _ hlk)) (fun x hx => by rw [hdc] at hx; exact hx) e2 hd (k p l e s m args below meth c dC dI cI cZ cS ad F H locs ls hP hD hS hl)
theorem sw_put {J : Mt} {E : ExT} {Z : ZT} {pc : Nat} {L : List (Option Value)} {st : List Value} {h : Hp} {idx ci i q : Nat} {x : Int32} {ty : FieldType} (hd : decode J.c pc = .ok (.putfield idx, 3)) (hF : FP J.y.cls idx ci i ty) (hq : ob q ci i none) (hn : narrow ty (.int x) = .int x) (hf : fits ty (.int x) = true) (k : SW J E Z (pc + 3) L st (hset h q i x)) : SW J E Z pc L (.int x :: .ref q :: st) h := by
  intro p l e s m args below meth c dC dI cI cZ cS ad F H locs ls hP hD hS hl
  obtain ⟨C, T, N, tf, hc, hi, hlk, hly, hdc, hfin, hpd, htf, hnm⟩ := hF
  obtain ⟨vs, e1, e2, e3⟩ := ob_cE hq (cI := cI) (cZ := cZ) (cS := cS) (ad := ad) (h := h)
  refine va_put F.1 F.2.1 F.2.2.2.2.1 hly tf htf hnm F.2.2.2.1 F.2.2.2.2.2.1 hP hD hS q e1 hc i hi (F.2.2.2.2.1 _ hlk) (fun x hx => by rw [hdc] at hx; exact hx) hfin hpd hn hf (List.getElem?_eq_some_iff.mp e2).1 hd (fun H1 locs1 hP1 hD1 hS1 => ?_)
  rw [show trV ad (.int x) = .int x from rfl, e3 x rfl] at hP1 hD1
  exact k p l e s m args below meth c dC dI cI cZ cS ad F H1 locs1 ls hP1 hD1 hS1 hl
def LkV (own : String) (idx n : Nat) (J' : Mt) : Prop := (∀ w ∈ [Cond.methodLink own idx J'.y, .instanceMethod J'.y, .selects J'.y.cls J'.y J'.y, .initialized J'.y.cls, .code J'.y J'.c J'.n J'.r], w ∈ ws0) ∧ J'.y.cls ≠ "java/lang/invoke/MethodHandle" ∧ J'.y.cls ≠ "java/lang/invoke/VarHandle" ∧ (parseMethodDescriptor J'.y.desc).map (fun d => d.parameters.length) = some n
def LkS (own : String) (idx n : Nat) (J' : Mt) : Prop := (∀ w ∈ [Cond.methodLink own idx J'.y, .static J'.y, .initialized J'.y.cls, .code J'.y J'.c J'.n J'.r], w ∈ ws0) ∧ J'.y.cls ≠ "java/lang/invoke/MethodHandle" ∧ J'.y.cls ≠ "java/lang/invoke/VarHandle" ∧ (parseMethodDescriptor J'.y.desc).map (fun d => d.parameters.length) = some n
/-- the room of a callee in its caller's -/
def fit (J J' : Mt) : Bool := decide (J'.R.cells = 0) && decide (J'.R.slots = 0) && decide (J'.R.frames + 1 ≤ J.R.frames) && decide (8 + (J'.n + 11) + J'.R.locals ≤ J.R.locals) && decide (J.k ≤ J.R.cells) && decide (J.s ≤ J.R.slots)
theorem sw_behind {J : Mt} {E : ExT} {Z : ZT} {pc : Nat} {L : List (Option Value)} {st : List Value} {Q' : Option Value → Hp → Prop} (k : ∀ (v : Option Value) (h' : Hp), Q' v h' → SW J E Z (pc + 3) L (v.toList ++ st) h')
    {p : Program} {l : Launch} {e : Env} {s : State} {m : MethodId} {args : Array Value} {below : List Frame} {meth : Method} {c : Code} {dC : Nat → ClassId} {dI : Nat → Nat → Nat} {cI cZ cS : ClassId} {ad : Nat → Nat} (F : Fx J E p s m args meth c dC dI cI cZ cS ad) {H : Heap} {locs : List Loc} {ls : Array Slot} {st0 : List Value} {a : Array Value} (hS : va_S (WA ad) s.heap H locs) (hl : lvH ls J.n ad L)
    (hr : va_Run p l e J.R s m args below meth c H locs J.k J.s 0 0 (F0 m pc ls st0) (st.map (trV ad)) (Qg Q' dC dI cI cZ cS ad a) (WA ad)) : W p l e J.R s m args below meth c H locs J.k J.s (Z below args s dC dI cI cZ cS ad) (F0 m pc ls st0) := by
  intro T hT X
  obtain ⟨v, st₀, t, T', L1, h0, X', hL, e1, e2, ⟨⟨v', h', hv, hq, hP', hK', hD', hN'⟩, hz, hk⟩, go⟩ := hr T hT X
  cases hv
  rw [h0] at hz hk
  rw [← e1] at hP' hz hk
  have es : (v'.map (trV ad)).toList ++ st.map (trV ad) = (v'.toList ++ st).map (trV ad) := by cases v' <;> simp
  rw [es] at go
  obtain ⟨t2, a1, b1⟩ := k v' h' hq p l e s m args below meth c dC dI cI cZ cS ad F T'.heap (locs ++ L1) ls hP' (wW_D hD')
    ⟨Nat.le_trans hS.1 hz, fun q h1 h2 => by rw [hk q (Nat.lt_of_lt_of_le h1 hS.1) h2]; exact hS.2.1 q h1 h2, fun q hq => by
      rcases List.mem_append.mp hq with h | h
      · exact hS.2.2 q h
      · exact hL q h⟩ hl T' rfl X'
  exact ⟨t2, go t2 a1, b1⟩
theorem sw_callV {J : Mt} {E : ExT} {Z : ZT} {pc : Nat} {L : List (Option Value)} {st : List Value} {h : Hp} {J' : Mt} {idx n q ci i : Nat} {f : Option Nat} {As : List Value} {stk : List Value} {Q' : Option Value → Hp → Prop} (hC : Ctr J' (.ref q :: As) h Q') (hd : decode J.c pc = .ok (.invokevirtual idx, 3)) (hL : LkV J.y.cls idx n J') (hf : fit J J' = true) (hq : ob q ci i f) (hci : (clsX[ci]?).map (·.1) = some J'.y.cls) (hn : As.length = n) (hs : stk = As.reverse ++ .ref q :: st) (hc : (st.map Value.category).sum ≤ 8)
    (k : ∀ (v : Option Value) (h' : Hp), Q' v h' → SW J E Z (pc + 3) L (v.toList ++ st) h') : SW J E Z pc L stk h := by
  intro p l e s m args below meth c dC dI cI cZ cS ad F H locs ls hP hD hS hl
  subst hs
  simp only [fit, Bool.and_eq_true, decide_eq_true_eq] at hf
  obtain ⟨⟨⟨⟨⟨f1, f2⟩, f3⟩, f4⟩, f5⟩, f6⟩ := hf
  obtain ⟨l1, l2, l3, l4⟩ := hL
  obtain ⟨vs, e1, -, -⟩ := ob_cE hq (cI := cI) (cZ := cZ) (cS := cS) (ad := ad) (h := h)
  have hG : GoodIn ws0 (wsV J.y.cls idx J'.y.cls J'.y (.code J'.y J'.c J'.n J'.r :: ws0)) := ws0_good (fun w hw => by
    unfold wsV at hw
    rcases List.mem_append.mp hw with h | h
    · exact l1 w (by simp only [List.mem_cons, List.not_mem_nil, or_false] at h ⊢; rcases h with h | h | h | h <;> simp [h])
    · rcases List.mem_cons.mp h with h | h
      · exact l1 w (by rw [h]; simp)
      · exact h)
  obtain ⟨r, hr1, hr2⟩ : ∃ r, clsX[ci]? = some r ∧ r.1 = J'.y.cls := by
    cases hz : clsX[ci]? with
    | none => rw [hz] at hci; cases hci
    | some r => rw [hz] at hci; exact ⟨r, rfl, Option.some.inj hci⟩
  have est : ((As.reverse ++ .ref q :: st).map (trV ad)) = (As.map (trV ad)).reverse ++ .ref (ad q) :: st.map (trV ad) := by simp [trV]
  have hsum : ((st.map (trV ad)).map fun v => v.category) = st.map Value.category := by rw [List.map_map]; congr 1; funext v; exact trV_cat ad v
  rw [est]
  have hrecv := va_recv F.2.2.2.2.2.1 hP hr1 e1
  rw [hr2] at hrecv
  refine sw_behind k F hS hl (a := (Value.ref (ad q) :: As.map (trV ad)).toArray) (va_runV (As := As.map (trV ad)) (rest := st.map (trV ad)) ⟨F.1, F.2.1, F.2.2.1, F.2.2.2.1, F.2.2.2.2.1⟩ (hC l dC dI cI cZ cS ad) (cwV n F.2.2.2.2.1 hG rfl f1 f2 ⟨rfl, l2, l3, l4⟩ ⟨f3, f4⟩) ⟨Wld_blind, hrecv, fun U hU hW => ⟨rfl, Wld_moved (by rw [hU]; exact hP) hD F.2.2.2.2.2.1 F.2.2.2.2.2.2.1 hW⟩⟩ rfl (by simpa using hn) hl.1 rfl (lv_room (by rw [hsum]; exact hc)) hd ⟨f5, f6⟩)
theorem sw_callS {J : Mt} {E : ExT} {Z : ZT} {pc : Nat} {L : List (Option Value)} {st : List Value} {h : Hp} {J' : Mt} {idx n : Nat} {As : List Value} {stk : List Value} {Q' : Option Value → Hp → Prop} (hC : Ctr J' As h Q') (hd : decode J.c pc = .ok (.invokestatic idx, 3)) (hL : LkS J.y.cls idx n J') (hf : fit J J' = true) (hn : As.length = n) (hs : stk = As.reverse ++ st) (hc : (st.map Value.category).sum ≤ 8)
    (k : ∀ (v : Option Value) (h' : Hp), Q' v h' → SW J E Z (pc + 3) L (v.toList ++ st) h') : SW J E Z pc L stk h := by
  intro p l e s m args below meth c dC dI cI cZ cS ad F H locs ls hP hD hS hl
  subst hs
  simp only [fit, Bool.and_eq_true, decide_eq_true_eq] at hf
  obtain ⟨⟨⟨⟨⟨f1, f2⟩, f3⟩, f4⟩, f5⟩, f6⟩ := hf
  obtain ⟨l1, l2, l3, l4⟩ := hL
  have hG : GoodIn ws0 (va_wsS J.y.cls idx J'.y (.code J'.y J'.c J'.n J'.r :: ws0)) := ws0_good (fun w hw => by
    unfold va_wsS at hw
    rcases List.mem_append.mp hw with h | h
    · exact l1 w (by simp only [List.mem_cons, List.not_mem_nil, or_false] at h ⊢; rcases h with h | h | h <;> simp [h])
    · rcases List.mem_cons.mp h with h | h
      · exact l1 w (by rw [h]; simp)
      · exact h)
  have est : ((As.reverse ++ st).map (trV ad)) = (As.map (trV ad)).reverse ++ st.map (trV ad) := by simp
  have hsum : ((st.map (trV ad)).map fun v => v.category) = st.map Value.category := by rw [List.map_map]; congr 1; funext v; exact trV_cat ad v
  rw [est]
  refine sw_behind k F hS hl (a := (As.map (trV ad)).toArray) (va_runS (As := As.map (trV ad)) (rest := st.map (trV ad)) ⟨F.1, F.2.1, F.2.2.1, F.2.2.2.1, F.2.2.2.2.1⟩ (hC l dC dI cI cZ cS ad) (va_cwS n F.2.2.2.2.1 hG rfl f1 f2 ⟨l2, l3, l4⟩ ⟨f3, f4⟩) ⟨Wld_blind, fun U hU hW => ⟨rfl, Wld_moved (by rw [hU]; exact hP) hD F.2.2.2.2.2.1 F.2.2.2.2.2.2.1 hW⟩⟩ rfl (by simpa using hn) hl.1 rfl (lv_room (by rw [hsum]; exact hc)) hd ⟨f5, f6⟩)
theorem sw_iret {J : Mt} {E : ExT} {pc : Nat} {L : List (Option Value)} {h : Hp} {Q : Option Value → Hp → Prop} {v : Int32} (hd : decode J.c pc = .ok (.ireturn, 1)) (hr : J.r = some .int) (hk : J.k = 0) (hs : J.s = 0)  (hQ : Q (some (.int v)) h) : SW J E (Zm Q) pc L [.int v] h := by
  intro p l e s m args below meth c dC dI cI cZ cS ad F H locs ls hP hD hS hl
  have hlocks := F.2.2.2.2.2.2.2.1
  rw [hk, hs]
  exact W.iret F.1 F.2.1 (F.2.2.2.2.2.2.2.2.1.trans hr) (fun t ht hW => ⟨⟨_, h, rfl, hQ, Wld_moved (by rw [ht]; exact hP) hD F.2.2.2.2.2.1 F.2.2.2.2.2.2.1 hW⟩, hS.F ht⟩) hS.2.2 hd
theorem sw_zret {J : Mt} {E : ExT} {pc : Nat} {L : List (Option Value)} {h : Hp} {Q : Option Value → Hp → Prop} {v : Int32} (hd : decode J.c pc = .ok (.ireturn, 1)) (hr : J.r = some .boolean) (hk : J.k = 0) (hs : J.s = 0) (hn : narrow .boolean (.int v) = .int v) (hQ : Q (some (.int v)) h) : SW J E (Zm Q) pc L [.int v] h := by
  intro p l e s m args below meth c dC dI cI cZ cS ad F H locs ls hP hD hS hl
  have hlocks := F.2.2.2.2.2.2.2.1
  rw [hk, hs]
  exact W.zret F.1 F.2.1 (F.2.2.2.2.2.2.2.2.1.trans hr) hn (fun t ht hW => ⟨⟨_, h, rfl, hQ, Wld_moved (by rw [ht]; exact hP) hD F.2.2.2.2.2.1 F.2.2.2.2.2.2.1 hW⟩, hS.F ht⟩) hS.2.2 hd
theorem sw_vret {J : Mt} {E : ExT} {pc : Nat} {L : List (Option Value)} {h : Hp} {Q : Option Value → Hp → Prop}  (hd : decode J.c pc = .ok (.return_, 1)) (hr : J.r = none) (hk : J.k = 0) (hs : J.s = 0)  (hQ : Q (none) h) : SW J E (Zm Q) pc L [] h := by
  intro p l e s m args below meth c dC dI cI cZ cS ad F H locs ls hP hD hS hl
  have hlocks := F.2.2.2.2.2.2.2.1
  rw [hk, hs]
  exact W.vret F.1 F.2.1 (F.2.2.2.2.2.2.2.2.1.trans hr) (fun t ht hW => ⟨⟨_, h, rfl, hQ, Wld_moved (by rw [ht]; exact hP) hD F.2.2.2.2.2.1 F.2.2.2.2.2.2.1 hW⟩, hS.F ht⟩) hS.2.2 hd
end
section
theorem lay0 : ∀ w ∈ u_ws RX0 TX0 6, w ∈ ws0 := by decide +kernel
theorem lay1 : ∀ w ∈ u_ws RX1 TX1 12, w ∈ ws0 := by decide +kernel
theorem lay2 : ∀ w ∈ u_ws RX2 TX2 3, w ∈ ws0 := by decide +kernel
theorem lay3 : ∀ w ∈ u_ws RX3 TX3 11, w ∈ ws0 := by decide +kernel
theorem lay4 : ∀ w ∈ u_ws RX4 TX4 4, w ∈ ws0 := by decide +kernel
theorem lay5 : ∀ w ∈ u_ws RX5 TX5 19, w ∈ ws0 := by decide +kernel
theorem flX3_9 : FL RX3 9 3 0 := ⟨RX3, TX3, 11, rfl, by decide, by decide +kernel, lay3, rfl⟩
theorem fpX3_9 : FP RX3 9 3 0 .int := ⟨RX3, TX3, 11, tyX3, rfl, by decide, by decide +kernel, lay3, rfl, rfl, by decide +kernel, tyX3_ok, nmX3⟩
theorem flX3_15 : FL RX3 15 3 1 := ⟨RX3, TX3, 11, rfl, by decide, by decide +kernel, lay3, rfl⟩
theorem fpX3_15 : FP RX3 15 3 1 .int := ⟨RX3, TX3, 11, tyX3, rfl, by decide, by decide +kernel, lay3, rfl, rfl, by decide +kernel, tyX3_ok, nmX3⟩
theorem flX3_18 : FL RX3 18 3 2 := ⟨RX3, TX3, 11, rfl, by decide, by decide +kernel, lay3, rfl⟩
theorem fpX3_18 : FP RX3 18 3 2 .int := ⟨RX3, TX3, 11, tyX3, rfl, by decide, by decide +kernel, lay3, rfl, rfl, by decide +kernel, tyX3_ok, nmX3⟩
theorem flX3_21 : FL RX3 21 3 3 := ⟨RX3, TX3, 11, rfl, by decide, by decide +kernel, lay3, rfl⟩
theorem flX3_25 : FL RX3 25 3 4 := ⟨RX3, TX3, 11, rfl, by decide, by decide +kernel, lay3, rfl⟩
theorem flX3_28 : FL RX3 28 3 5 := ⟨RX3, TX3, 11, rfl, by decide, by decide +kernel, lay3, rfl⟩
theorem flX3_31 : FL RX3 31 3 6 := ⟨RX3, TX3, 11, rfl, by decide, by decide +kernel, lay3, rfl⟩
theorem flX3_34 : FL RX3 34 3 7 := ⟨RX3, TX3, 11, rfl, by decide, by decide +kernel, lay3, rfl⟩
theorem flX3_37 : FL RX3 37 3 8 := ⟨RX3, TX3, 11, rfl, by decide, by decide +kernel, lay3, rfl⟩
theorem flX3_40 : FL RX3 40 3 9 := ⟨RX3, TX3, 11, rfl, by decide, by decide +kernel, lay3, rfl⟩
theorem flX3_43 : FL RX3 43 3 10 := ⟨RX3, TX3, 11, rfl, by decide, by decide +kernel, lay3, rfl⟩
theorem flX0_9 : FL RX0 9 0 0 := ⟨RX0, TX0, 6, rfl, by decide, by decide +kernel, lay0, rfl⟩
theorem flX0_15 : FL RX0 15 0 1 := ⟨RX0, TX0, 6, rfl, by decide, by decide +kernel, lay0, rfl⟩
theorem flX0_18 : FL RX0 18 0 2 := ⟨RX0, TX0, 6, rfl, by decide, by decide +kernel, lay0, rfl⟩
theorem fpX0_18 : FP RX0 18 0 2 .int := ⟨RX0, TX0, 6, tyX0, rfl, by decide, by decide +kernel, lay0, rfl, rfl, by decide +kernel, tyX0_ok, nmX0⟩
theorem flX0_22 : FL RX0 22 0 3 := ⟨RX0, TX0, 6, rfl, by decide, by decide +kernel, lay0, rfl⟩
theorem fpX0_22 : FP RX0 22 0 3 .int := ⟨RX0, TX0, 6, tyX0, rfl, by decide, by decide +kernel, lay0, rfl, rfl, by decide +kernel, tyX0_ok, nmX0⟩
theorem flX0_25 : FL RX0 25 0 4 := ⟨RX0, TX0, 6, rfl, by decide, by decide +kernel, lay0, rfl⟩
theorem fpX0_25 : FP RX0 25 0 4 .int := ⟨RX0, TX0, 6, tyX0, rfl, by decide, by decide +kernel, lay0, rfl, rfl, by decide +kernel, tyX0_ok, nmX0⟩
theorem flX0_28 : FL RX0 28 0 5 := ⟨RX0, TX0, 6, rfl, by decide, by decide +kernel, lay0, rfl⟩
theorem fpX0_28 : FP RX0 28 0 5 .int := ⟨RX0, TX0, 6, tyX0, rfl, by decide, by decide +kernel, lay0, rfl, rfl, by decide +kernel, tyX0_ok, nmX0⟩
theorem flX1_9 : FL RX1 9 1 0 := ⟨RX1, TX1, 12, rfl, by decide, by decide +kernel, lay1, rfl⟩
theorem fpX1_9 : FP RX1 9 1 0 .int := ⟨RX1, TX1, 12, tyX1, rfl, by decide, by decide +kernel, lay1, rfl, rfl, by decide +kernel, tyX1_ok, nmX1⟩
theorem flX1_15 : FL RX1 15 1 1 := ⟨RX1, TX1, 12, rfl, by decide, by decide +kernel, lay1, rfl⟩
theorem flX1_19 : FL RX1 19 1 2 := ⟨RX1, TX1, 12, rfl, by decide, by decide +kernel, lay1, rfl⟩
theorem flX1_22 : FL RX1 22 1 3 := ⟨RX1, TX1, 12, rfl, by decide, by decide +kernel, lay1, rfl⟩
theorem flX1_25 : FL RX1 25 1 4 := ⟨RX1, TX1, 12, rfl, by decide, by decide +kernel, lay1, rfl⟩
theorem flX1_28 : FL RX1 28 1 5 := ⟨RX1, TX1, 12, rfl, by decide, by decide +kernel, lay1, rfl⟩
theorem flX1_31 : FL RX1 31 1 6 := ⟨RX1, TX1, 12, rfl, by decide, by decide +kernel, lay1, rfl⟩
theorem fpX1_31 : FP RX1 31 1 6 .boolean := ⟨RX1, TX1, 12, tyX1, rfl, by decide, by decide +kernel, lay1, rfl, rfl, by decide +kernel, tyX1_ok, nmX1⟩
theorem flX1_35 : FL RX1 35 1 7 := ⟨RX1, TX1, 12, rfl, by decide, by decide +kernel, lay1, rfl⟩
theorem fpX1_35 : FP RX1 35 1 7 .int := ⟨RX1, TX1, 12, tyX1, rfl, by decide, by decide +kernel, lay1, rfl, rfl, by decide +kernel, tyX1_ok, nmX1⟩
theorem flX1_38 : FL RX1 38 1 8 := ⟨RX1, TX1, 12, rfl, by decide, by decide +kernel, lay1, rfl⟩
theorem fpX1_38 : FP RX1 38 1 8 .int := ⟨RX1, TX1, 12, tyX1, rfl, by decide, by decide +kernel, lay1, rfl, rfl, by decide +kernel, tyX1_ok, nmX1⟩
theorem flX1_41 : FL RX1 41 1 9 := ⟨RX1, TX1, 12, rfl, by decide, by decide +kernel, lay1, rfl⟩
theorem fpX1_41 : FP RX1 41 1 9 .int := ⟨RX1, TX1, 12, tyX1, rfl, by decide, by decide +kernel, lay1, rfl, rfl, by decide +kernel, tyX1_ok, nmX1⟩
theorem flX1_44 : FL RX1 44 1 10 := ⟨RX1, TX1, 12, rfl, by decide, by decide +kernel, lay1, rfl⟩
theorem fpX1_44 : FP RX1 44 1 10 .int := ⟨RX1, TX1, 12, tyX1, rfl, by decide, by decide +kernel, lay1, rfl, rfl, by decide +kernel, tyX1_ok, nmX1⟩
theorem flX1_47 : FL RX1 47 1 11 := ⟨RX1, TX1, 12, rfl, by decide, by decide +kernel, lay1, rfl⟩
theorem fpX1_47 : FP RX1 47 1 11 .int := ⟨RX1, TX1, 12, tyX1, rfl, by decide, by decide +kernel, lay1, rfl, rfl, by decide +kernel, tyX1_ok, nmX1⟩
theorem flX2_9 : FL RX2 9 2 0 := ⟨RX2, TX2, 3, rfl, by decide, by decide +kernel, lay2, rfl⟩
theorem flX2_15 : FL RX2 15 2 1 := ⟨RX2, TX2, 3, rfl, by decide, by decide +kernel, lay2, rfl⟩
theorem fpX2_15 : FP RX2 15 2 1 .int := ⟨RX2, TX2, 3, tyX2, rfl, by decide, by decide +kernel, lay2, rfl, rfl, by decide +kernel, tyX2_ok, nmX2⟩
theorem flX2_19 : FL RX2 19 2 2 := ⟨RX2, TX2, 3, rfl, by decide, by decide +kernel, lay2, rfl⟩
theorem fpX2_19 : FP RX2 19 2 2 .int := ⟨RX2, TX2, 3, tyX2, rfl, by decide, by decide +kernel, lay2, rfl, rfl, by decide +kernel, tyX2_ok, nmX2⟩
theorem flX4_10 : FL RX4 10 4 0 := ⟨RX4, TX4, 4, rfl, by decide, by decide +kernel, lay4, rfl⟩
theorem flX4_19 : FL RX4 19 4 1 := ⟨RX4, TX4, 4, rfl, by decide, by decide +kernel, lay4, rfl⟩
theorem flX4_26 : FL RX4 26 4 2 := ⟨RX4, TX4, 4, rfl, by decide, by decide +kernel, lay4, rfl⟩
theorem flX4_32 : FL RX4 32 4 3 := ⟨RX4, TX4, 4, rfl, by decide, by decide +kernel, lay4, rfl⟩
theorem flX5_7 : FL RX5 7 5 0 := ⟨RX5, TX5, 19, rfl, by decide, by decide +kernel, lay5, rfl⟩
theorem fpX5_7 : FP RX5 7 5 0 .int := ⟨RX5, TX5, 19, tyX5, rfl, by decide, by decide +kernel, lay5, rfl, rfl, by decide +kernel, tyX5_ok, nmX5⟩
theorem flX5_56 : FL RX5 56 5 1 := ⟨RX5, TX5, 19, rfl, by decide, by decide +kernel, lay5, rfl⟩
theorem fpX5_56 : FP RX5 56 5 1 .int := ⟨RX5, TX5, 19, tyX5, rfl, by decide, by decide +kernel, lay5, rfl, rfl, by decide +kernel, tyX5_ok, nmX5⟩
theorem flX5_13 : FL RX5 13 5 2 := ⟨RX5, TX5, 19, rfl, by decide, by decide +kernel, lay5, rfl⟩
theorem flX5_17 : FL RX5 17 5 3 := ⟨RX5, TX5, 19, rfl, by decide, by decide +kernel, lay5, rfl⟩
theorem flX5_20 : FL RX5 20 5 4 := ⟨RX5, TX5, 19, rfl, by decide, by decide +kernel, lay5, rfl⟩
theorem flX5_23 : FL RX5 23 5 5 := ⟨RX5, TX5, 19, rfl, by decide, by decide +kernel, lay5, rfl⟩
theorem flX5_26 : FL RX5 26 5 6 := ⟨RX5, TX5, 19, rfl, by decide, by decide +kernel, lay5, rfl⟩
theorem flX5_29 : FL RX5 29 5 7 := ⟨RX5, TX5, 19, rfl, by decide, by decide +kernel, lay5, rfl⟩
theorem flX5_123 : FL RX5 123 5 8 := ⟨RX5, TX5, 19, rfl, by decide, by decide +kernel, lay5, rfl⟩
theorem fpX5_123 : FP RX5 123 5 8 .int := ⟨RX5, TX5, 19, tyX5, rfl, by decide, by decide +kernel, lay5, rfl, rfl, by decide +kernel, tyX5_ok, nmX5⟩
theorem flX5_149 : FL RX5 149 5 9 := ⟨RX5, TX5, 19, rfl, by decide, by decide +kernel, lay5, rfl⟩
theorem fpX5_149 : FP RX5 149 5 9 .int := ⟨RX5, TX5, 19, tyX5, rfl, by decide, by decide +kernel, lay5, rfl, rfl, by decide +kernel, tyX5_ok, nmX5⟩
theorem flX5_32 : FL RX5 32 5 10 := ⟨RX5, TX5, 19, rfl, by decide, by decide +kernel, lay5, rfl⟩
theorem flX5_35 : FL RX5 35 5 11 := ⟨RX5, TX5, 19, rfl, by decide, by decide +kernel, lay5, rfl⟩
theorem flX5_38 : FL RX5 38 5 12 := ⟨RX5, TX5, 19, rfl, by decide, by decide +kernel, lay5, rfl⟩
theorem flX5_41 : FL RX5 41 5 13 := ⟨RX5, TX5, 19, rfl, by decide, by decide +kernel, lay5, rfl⟩
theorem flX5_44 : FL RX5 44 5 14 := ⟨RX5, TX5, 19, rfl, by decide, by decide +kernel, lay5, rfl⟩
theorem flX5_158 : FL RX5 158 5 15 := ⟨RX5, TX5, 19, rfl, by decide, by decide +kernel, lay5, rfl⟩
theorem fpX5_158 : FP RX5 158 5 15 .int := ⟨RX5, TX5, 19, tyX5, rfl, by decide, by decide +kernel, lay5, rfl, rfl, by decide +kernel, tyX5_ok, nmX5⟩
theorem flX5_47 : FL RX5 47 5 16 := ⟨RX5, TX5, 19, rfl, by decide, by decide +kernel, lay5, rfl⟩
theorem flX5_50 : FL RX5 50 5 17 := ⟨RX5, TX5, 19, rfl, by decide, by decide +kernel, lay5, rfl⟩
theorem flX5_53 : FL RX5 53 5 18 := ⟨RX5, TX5, 19, rfl, by decide, by decide +kernel, lay5, rfl⟩
theorem fnX4_37 : FN RX4 37 3 0 := ⟨RX3, TX3, 11, rfl, by decide, by decide +kernel, lay3, rfl⟩
theorem fnX4_59 : FN RX4 59 3 1 := ⟨RX3, TX3, 11, rfl, by decide, by decide +kernel, lay3, rfl⟩
theorem fnX0_72 : FN RX0 72 3 1 := ⟨RX3, TX3, 11, rfl, by decide, by decide +kernel, lay3, rfl⟩
theorem fnX0_31 : FN RX0 31 3 2 := ⟨RX3, TX3, 11, rfl, by decide, by decide +kernel, lay3, rfl⟩
theorem fnX4_71 : FN RX4 71 3 3 := ⟨RX3, TX3, 11, rfl, by decide, by decide +kernel, lay3, rfl⟩
theorem fnX4_78 : FN RX4 78 3 4 := ⟨RX3, TX3, 11, rfl, by decide, by decide +kernel, lay3, rfl⟩
theorem fnX0_46 : FN RX0 46 3 5 := ⟨RX3, TX3, 11, rfl, by decide, by decide +kernel, lay3, rfl⟩
theorem fnX4_88 : FN RX4 88 3 5 := ⟨RX3, TX3, 11, rfl, by decide, by decide +kernel, lay3, rfl⟩
theorem fnX4_98 : FN RX4 98 3 6 := ⟨RX3, TX3, 11, rfl, by decide, by decide +kernel, lay3, rfl⟩
theorem fnX4_114 : FN RX4 114 3 10 := ⟨RX3, TX3, 11, rfl, by decide, by decide +kernel, lay3, rfl⟩
theorem fnX4_144 : FN RX4 144 0 0 := ⟨RX0, TX0, 6, rfl, by decide, by decide +kernel, lay0, rfl⟩
theorem fnX4_141 : FN RX4 141 0 2 := ⟨RX0, TX0, 6, rfl, by decide, by decide +kernel, lay0, rfl⟩
theorem fnX4_138 : FN RX4 138 0 3 := ⟨RX0, TX0, 6, rfl, by decide, by decide +kernel, lay0, rfl⟩
theorem fnX4_135 : FN RX4 135 0 4 := ⟨RX0, TX0, 6, rfl, by decide, by decide +kernel, lay0, rfl⟩
theorem fnX4_163 : FN RX4 163 1 0 := ⟨RX1, TX1, 12, rfl, by decide, by decide +kernel, lay1, rfl⟩
theorem fnX4_168 : FN RX4 168 1 4 := ⟨RX1, TX1, 12, rfl, by decide, by decide +kernel, lay1, rfl⟩
theorem fnX4_174 : FN RX4 174 1 7 := ⟨RX1, TX1, 12, rfl, by decide, by decide +kernel, lay1, rfl⟩
theorem fnX4_177 : FN RX4 177 1 8 := ⟨RX1, TX1, 12, rfl, by decide, by decide +kernel, lay1, rfl⟩
theorem fnX4_180 : FN RX4 180 1 9 := ⟨RX1, TX1, 12, rfl, by decide, by decide +kernel, lay1, rfl⟩
theorem fnX4_183 : FN RX4 183 1 10 := ⟨RX1, TX1, 12, rfl, by decide, by decide +kernel, lay1, rfl⟩
theorem fnX4_186 : FN RX4 186 1 11 := ⟨RX1, TX1, 12, rfl, by decide, by decide +kernel, lay1, rfl⟩
theorem fnX4_217 : FN RX4 217 2 0 := ⟨RX2, TX2, 3, rfl, by decide, by decide +kernel, lay2, rfl⟩
theorem fnX4_207 : FN RX4 207 2 1 := ⟨RX2, TX2, 3, rfl, by decide, by decide +kernel, lay2, rfl⟩
theorem fnX4_223 : FN RX4 223 2 2 := ⟨RX2, TX2, 3, rfl, by decide, by decide +kernel, lay2, rfl⟩
abbrev jX0_search : Mt := mkJ yX0_search cX0_search 2 none 3 70
abbrev jX0_findRow : Mt := mkJ yX0_findRow cX0_findRow 5 (some .int) 2 46
abbrev jX0_fits : Mt := mkJ yX0_fits cX0_fits 4 (some .boolean) 1 22
abbrev jX0_change : Mt := mkJ yX0_change cX0_change 5 none 1 22
abbrev jX1_hasMultipleOf : Mt := mkJ yX1_hasMultipleOf cX1_hasMultipleOf 5 (some .boolean) 0 0
abbrev jX1_add : Mt := mkJ yX1_add cX1_add 6 (some .int) 0 0
abbrev jX1_removeLatest : Mt := mkJ yX1_removeLatest cX1_removeLatest 2 (some .int) 0 0
abbrev jX1_judge : Mt := mkJ yX1_judge cX1_judge 2 none 2 46
abbrev jX1_findPairsAndThrees : Mt := mkJ yX1_findPairsAndThrees cX1_findPairsAndThrees 3 none 1 24
abbrev jX1_findThreesOf : Mt := mkJ yX1_findThreesOf cX1_findThreesOf 5 none 0 0
abbrev jX1_areColours : Mt := mkJ yX1_areColours cX1_areColours 3 (some .boolean) 1 20
abbrev jX2_renew : Mt := mkJ yX2_renew cX2_renew 3 none 1 23
abbrev jX2_isNothing : Mt := mkJ yX2_isNothing cX2_isNothing 1 (some .boolean) 0 0
abbrev jX2_hasCell : Mt := mkJ yX2_hasCell cX2_hasCell 2 (some .boolean) 0 0
abbrev jX2_write : Mt := mkJ yX2_write cX2_write 3 none 0 0
abbrev jX3_begin : Mt := mkJ yX3_begin cX3_begin 2 none 0 0
abbrev jX3_hiddenCount : Mt := mkJ yX3_hiddenCount cX3_hiddenCount 1 (some .int) 0 0
abbrev jX3_hasSet : Mt := mkJ yX3_hasSet cX3_hasSet 2 (some .boolean) 0 0
abbrev jX3_hasJoint : Mt := mkJ yX3_hasJoint cX3_hasJoint 3 (some .boolean) 2 41
abbrev jX3_jointCount : Mt := mkJ yX3_jointCount cX3_jointCount 2 (some .int) 1 20
abbrev jX3_hasSetOf : Mt := mkJ yX3_hasSetOf cX3_hasSetOf 3 (some .boolean) 0 0
abbrev jX3_add : Mt := mkJ yX3_add cX3_add 5 (some .int) 1 24
abbrev jX3_numberOf : Mt := mkJ yX3_numberOf cX3_numberOf 5 (some .int) 0 0
abbrev jX3_removeLatest : Mt := mkJ yX3_removeLatest cX3_removeLatest 1 (some .int) 0 0
abbrev jX3_setWeight : Mt := mkJ yX3_setWeight cX3_setWeight 3 none 0 0
abbrev jX3_weighBy : Mt := mkJ yX3_weighBy cX3_weighBy 4 none 1 23
abbrev jX3_placeBy : Mt := mkJ yX3_placeBy cX3_placeBy 3 (some .int) 0 0
abbrev jX3_weightSum : Mt := mkJ yX3_weightSum cX3_weightSum 4 (some .int) 2 41
abbrev jX3_weightsAboveZero : Mt := mkJ yX3_weightsAboveZero cX3_weightsAboveZero 4 (some .int) 2 41
abbrev jX3_firstQuarrel : Mt := mkJ yX3_firstQuarrel cX3_firstQuarrel 3 (some .int) 4 93
abbrev jX3_areUnlike : Mt := mkJ yX3_areUnlike cX3_areUnlike 8 (some .boolean) 3 66
abbrev jX3_addToSums : Mt := mkJ yX3_addToSums cX3_addToSums 6 none 2 41
abbrev jX3_isPossible : Mt := mkJ yX3_isPossible cX3_isPossible 3 (some .boolean) 1 22
abbrev jX3_findMet : Mt := mkJ yX3_findMet cX3_findMet 3 none 2 44
abbrev jX3_stakeSum : Mt := mkJ yX3_stakeSum cX3_stakeSum 4 (some .int) 1 22
abbrev jX3_bestHidden : Mt := mkJ yX3_bestHidden cX3_bestHidden 5 (some .int) 2 45
abbrev jX3_stakesTimesWeights : Mt := mkJ yX3_stakesTimesWeights cX3_stakesTimesWeights 3 (some .int) 0 0
abbrev jX3_isFulfilledBy : Mt := mkJ yX3_isFulfilledBy cX3_isFulfilledBy 3 (some .boolean) 1 20
abbrev jX3_isProof : Mt := mkJ yX3_isProof cX3_isProof 5 (some .boolean) 0 0
abbrev jX4_looks : Mt := mkJ yX4_looks cX4_looks 3 (some .int) 1 21
abbrev jX4_put : Mt := mkJ yX4_put cX4_put 2 (some .int) 2 48
abbrev jX4_drop : Mt := mkJ yX4_drop cX4_drop 1 (some .int) 1 20
abbrev jX4_told : Mt := mkJ yX4_told cX4_told 3 (some .int) 3 64
abbrev jX4_weight : Mt := mkJ yX4_weight cX4_weight 6 (some .int) 3 63
abbrev jX4_stake : Mt := mkJ yX4_stake cX4_stake 6 (some .int) 3 63
abbrev jX4_parity : Mt := mkJ yX4_parity cX4_parity 4 (some .int) 1 21
abbrev jX4_joint : Mt := mkJ yX4_joint cX4_joint 3 (some .int) 1 22
abbrev jX4_isWeight : Mt := mkJ yX4_isWeight cX4_isWeight 1 (some .boolean) 0 0
abbrev jX4_isStake : Mt := mkJ yX4_isStake cX4_isStake 1 (some .boolean) 0 0
abbrev jX4_agrees : Mt := mkJ yX4_agrees cX4_agrees 1 (some .int) 5 115
abbrev jX4_quarrel : Mt := mkJ yX4_quarrel cX4_quarrel 1 (some .int) 5 115
abbrev jX4_possible : Mt := mkJ yX4_possible cX4_possible 5 (some .int) 2 44
abbrev jX4_lost : Mt := mkJ yX4_lost cX4_lost 5 (some .int) 3 66
abbrev jX4_bound : Mt := mkJ yX4_bound cX4_bound 1 (some .int) 3 69
abbrev jX4_best : Mt := mkJ yX4_best cX4_best 1 (some .int) 3 69
abbrev jX4_worth : Mt := mkJ yX4_worth cX4_worth 1 (some .int) 1 22
abbrev jX4_beyond : Mt := mkJ yX4_beyond cX4_beyond 2 (some .int) 5 115
abbrev jX4_parted : Mt := mkJ yX4_parted cX4_parted 1 (some .int) 6 136
abbrev jX4_part : Mt := mkJ yX4_part cX4_part 2 (some .int) 6 136
abbrev jX4_canBeSearched : Mt := mkJ yX4_canBeSearched cX4_canBeSearched 2 (some .boolean) 5 115
abbrev jX4_mix : Mt := mkJ yX4_mix cX4_mix 3 (some .int) 2 46
abbrev jX4_fulfil : Mt := mkJ yX4_fulfil cX4_fulfil 3 (some .int) 2 42
abbrev jX4_proof : Mt := mkJ yX4_proof cX4_proof 4 (some .int) 1 24
abbrev jX4_ray : Mt := mkJ yX4_ray cX4_ray 4 (some .int) 1 25
abbrev jX4_cut : Mt := mkJ yX4_cut cX4_cut 1 (some .int) 1 21
abbrev jX4_square : Mt := mkJ yX4_square cX4_square 2 (some .int) 0 0
abbrev jX4_colours : Mt := mkJ yX4_colours cX4_colours 2 (some .int) 3 67
abbrev jX4_isRayNumber : Mt := mkJ yX4_isRayNumber cX4_isRayNumber 1 (some .boolean) 0 0
abbrev jX4_sheet : Mt := mkJ yX4_sheet cX4_sheet 4 (some .int) 2 45
abbrev jX4_lay : Mt := mkJ yX4_lay cX4_lay 4 (some .int) 1 22
abbrev jX4_draw : Mt := mkJ yX4_draw cX4_draw 10 (some .int) 2 46
abbrev jX4_firstFault : Mt := mkJ yX4_firstFault cX4_firstFault 6 (some .int) 1 21
abbrev jX4_count : Mt := mkJ yX4_count cX4_count 2 (some .int) 3 64
abbrev jX4_isSheet : Mt := mkJ yX4_isSheet cX4_isSheet 1 (some .boolean) 0 0
abbrev jX4_isLane : Mt := mkJ yX4_isLane cX4_isLane 1 (some .boolean) 0 0
abbrev jX5_in : Mt := mkJ yX5_in cX5_in 6 (some .boolean) 0 0
abbrev jX5_bits : Mt := mkJ yX5_bits cX5_bits 3 (some .int) 0 0
abbrev jX5_isSet : Mt := mkJ yX5_isSet cX5_isSet 2 (some .boolean) 1 25
abbrev jX5_isJoint : Mt := mkJ yX5_isJoint cX5_isJoint 3 (some .boolean) 2 46
abbrev jX5_hiddenMany : Mt := mkJ yX5_hiddenMany cX5_hiddenMany 1 (some .int) 0 0
abbrev jX5_looks : Mt := mkJ yX5_looks cX5_looks 3 (some .int) 1 25
abbrev jX5_put : Mt := mkJ yX5_put cX5_put 3 (some .int) 1 25
abbrev jX5_drop : Mt := mkJ yX5_drop cX5_drop 1 (some .int) 0 0
abbrev jX5_sumOf : Mt := mkJ yX5_sumOf cX5_sumOf 4 (some .int) 0 0
abbrev jX5_told : Mt := mkJ yX5_told cX5_told 3 (some .int) 2 46
abbrev jX5_weight : Mt := mkJ yX5_weight cX5_weight 5 (some .int) 3 68
abbrev jX5_stake : Mt := mkJ yX5_stake cX5_stake 5 (some .int) 3 68
abbrev jX5_parity : Mt := mkJ yX5_parity cX5_parity 4 (some .int) 2 46
abbrev jX5_jointOf : Mt := mkJ yX5_jointOf cX5_jointOf 6 (some .int) 0 0
abbrev jX5_joint : Mt := mkJ yX5_joint cX5_joint 3 (some .int) 2 46
abbrev jX5_sumBy : Mt := mkJ yX5_sumBy cX5_sumBy 9 (some .int) 1 22
abbrev jX5_areUnlike : Mt := mkJ yX5_areUnlike cX5_areUnlike 6 (some .boolean) 2 50
abbrev jX5_findQuarrel : Mt := mkJ yX5_findQuarrel cX5_findQuarrel 3 (some .int) 3 75
abbrev jX5_agrees : Mt := mkJ yX5_agrees cX5_agrees 1 (some .int) 4 97
abbrev jX5_quarrel : Mt := mkJ yX5_quarrel cX5_quarrel 1 (some .int) 4 97
abbrev jX5_isPossible : Mt := mkJ yX5_isPossible cX5_isPossible 4 (some .boolean) 1 25
abbrev jX5_possible : Mt := mkJ yX5_possible cX5_possible 5 (some .int) 2 48
abbrev jX5_isLost : Mt := mkJ yX5_isLost cX5_isLost 5 (some .boolean) 2 48
abbrev jX5_lost : Mt := mkJ yX5_lost cX5_lost 5 (some .int) 3 72
abbrev jX5_stakeOf : Mt := mkJ yX5_stakeOf cX5_stakeOf 4 (some .int) 1 25
abbrev jX5_bestOf : Mt := mkJ yX5_bestOf cX5_bestOf 3 (some .int) 2 48
abbrev jX5_bound : Mt := mkJ yX5_bound cX5_bound 1 (some .int) 3 70
abbrev jX5_best : Mt := mkJ yX5_best cX5_best 1 (some .int) 3 70
abbrev jX5_worthOf : Mt := mkJ yX5_worthOf cX5_worthOf 3 (some .int) 0 0
abbrev jX5_worth : Mt := mkJ yX5_worth cX5_worth 1 (some .int) 1 22
abbrev jX5_beyond : Mt := mkJ yX5_beyond cX5_beyond 1 (some .int) 4 97
abbrev jX5_isPartable : Mt := mkJ yX5_isPartable cX5_isPartable 1 (some .boolean) 4 97
abbrev jX5_canStand : Mt := mkJ yX5_canStand cX5_canStand 4 (some .boolean) 1 25
abbrev jX5_stands : Mt := mkJ yX5_stands cX5_stands 4 none 1 25
abbrev jX5_search : Mt := mkJ yX5_search cX5_search 4 (some .int) 2 48
abbrev jX5_parted : Mt := mkJ yX5_parted cX5_parted 1 (some .int) 5 117
abbrev jX5_part : Mt := mkJ yX5_part cX5_part 4 (some .int) 5 117
abbrev jX5_mix : Mt := mkJ yX5_mix cX5_mix 5 (some .int) 1 25
abbrev jX5_fulfil : Mt := mkJ yX5_fulfil cX5_fulfil 5 (some .int) 1 22
abbrev jX5_isProof : Mt := mkJ yX5_isProof cX5_isProof 6 (some .boolean) 0 0
abbrev jX5_proof : Mt := mkJ yX5_proof cX5_proof 3 (some .int) 1 25
abbrev jX5_ray : Mt := mkJ yX5_ray cX5_ray 5 (some .int) 1 25
abbrev jX5_cut : Mt := mkJ yX5_cut cX5_cut 1 (some .int) 0 0
abbrev jX5_areSquare : Mt := mkJ yX5_areSquare cX5_areSquare 3 (some .boolean) 0 0
abbrev jX5_squareOf : Mt := mkJ yX5_squareOf cX5_squareOf 4 (some .int) 1 22
abbrev jX5_square : Mt := mkJ yX5_square cX5_square 2 (some .int) 2 45
abbrev jX5_findThrees : Mt := mkJ yX5_findThrees cX5_findThrees 5 (some .int) 2 45
abbrev jX5_isColour : Mt := mkJ yX5_isColour cX5_isColour 4 (some .boolean) 1 22
abbrev jX5_colours : Mt := mkJ yX5_colours cX5_colours 7 (some .int) 3 69
abbrev jX5_isSheet : Mt := mkJ yX5_isSheet cX5_isSheet 2 (some .boolean) 1 25
abbrev jX5_sheet : Mt := mkJ yX5_sheet cX5_sheet 5 (some .int) 2 46
abbrev jX5_lay : Mt := mkJ yX5_lay cX5_lay 4 (some .int) 2 46
abbrev jX5_draw : Mt := mkJ yX5_draw cX5_draw 10 (some .int) 2 46
abbrev jX5_count : Mt := mkJ yX5_count cX5_count 4 (some .int) 0 0
abbrev jJ6_bitCount_0f7a4 : Mt := mkJ yJ6_bitCount_0f7a4 cJ6_bitCount_0f7a4 1 (some .int) 0 0
abbrev jJ9_max_7cf53 : Mt := mkJ yJ9_max_7cf53 cJ9_max_7cf53 2 (some .int) 0 0
abbrev jJ9_min_7cf53 : Mt := mkJ yJ9_min_7cf53 cJ9_min_7cf53 2 (some .int) 0 0
abbrev jJ7_fill_53178 : Mt := mkJ yJ7_fill_53178 cJ7_fill_53178 4 none 0 0
theorem lkX0_36 : LkV RX0 36 1 jX3_weightSum := ⟨by decide +kernel, by decide, by decide, by decide +kernel⟩
theorem lkX0_40 : LkS RX0 40 2 jJ9_min_7cf53 := ⟨by decide +kernel, by decide, by decide, by decide +kernel⟩
theorem lkX0_55 : LkV RX0 55 1 jX0_findRow := ⟨by decide +kernel, by decide, by decide, by decide +kernel⟩
theorem lkX0_60 : LkV RX0 60 0 jX3_hiddenCount := ⟨by decide +kernel, by decide, by decide, by decide +kernel⟩
theorem lkX0_64 : LkV RX0 64 3 jX0_change := ⟨by decide +kernel, by decide, by decide, by decide +kernel⟩
theorem lkX0_68 : LkV RX0 68 2 jX0_fits := ⟨by decide +kernel, by decide, by decide, by decide +kernel⟩
theorem lkX0_75 : LkV RX0 75 2 jX3_placeBy := ⟨by decide +kernel, by decide, by decide, by decide +kernel⟩
theorem lkX1_50 : LkV RX1 50 0 jX1_findPairsAndThrees := ⟨by decide +kernel, by decide, by decide, by decide +kernel⟩
theorem lkX1_53 : LkV RX1 53 1 jX1_areColours := ⟨by decide +kernel, by decide, by decide, by decide +kernel⟩
theorem lkX1_57 : LkS RX1 57 1 jJ6_bitCount_0f7a4 := ⟨by decide +kernel, by decide, by decide, by decide +kernel⟩
theorem lkX1_63 : LkS RX1 63 2 jJ9_max_7cf53 := ⟨by decide +kernel, by decide, by decide, by decide +kernel⟩
theorem lkX1_69 : LkV RX1 69 2 jX1_findThreesOf := ⟨by decide +kernel, by decide, by decide, by decide +kernel⟩
theorem lkX2_22 : LkS RX2 22 2 jJ7_fill_53178 := ⟨by decide +kernel, by decide, by decide, by decide +kernel⟩
theorem lkX3_47 : LkV RX3 47 1 jX3_hasSet := ⟨by decide +kernel, by decide, by decide, by decide +kernel⟩
theorem lkX3_51 : LkV RX3 51 1 jX3_jointCount := ⟨by decide +kernel, by decide, by decide, by decide +kernel⟩
theorem lkX3_55 : LkS RX3 55 1 jJ6_bitCount_0f7a4 := ⟨by decide +kernel, by decide, by decide, by decide +kernel⟩
theorem lkX3_60 : LkV RX3 60 0 jX3_hiddenCount := ⟨by decide +kernel, by decide, by decide, by decide +kernel⟩
theorem lkX3_64 : LkS RX3 64 2 jX3_numberOf := ⟨by decide +kernel, by decide, by decide, by decide +kernel⟩
theorem lkX3_68 : LkS RX3 68 2 jJ7_fill_53178 := ⟨by decide +kernel, by decide, by decide, by decide +kernel⟩
theorem lkX3_74 : LkV RX3 74 2 jX3_placeBy := ⟨by decide +kernel, by decide, by decide, by decide +kernel⟩
theorem lkX3_77 : LkV RX3 77 2 jX3_areUnlike := ⟨by decide +kernel, by decide, by decide, by decide +kernel⟩
theorem lkX3_81 : LkV RX3 81 3 jX3_addToSums := ⟨by decide +kernel, by decide, by decide, by decide +kernel⟩
theorem lkX3_85 : LkV RX3 85 1 jX3_isPossible := ⟨by decide +kernel, by decide, by decide, by decide +kernel⟩
theorem lkX3_88 : LkV RX3 88 1 jX3_stakeSum := ⟨by decide +kernel, by decide, by decide, by decide +kernel⟩
theorem lkX4_41 : LkV RX4 41 1 jX3_begin := ⟨by decide +kernel, by decide, by decide, by decide +kernel⟩
theorem lkX4_45 : LkV RX4 45 0 jX3_hiddenCount := ⟨by decide +kernel, by decide, by decide, by decide +kernel⟩
theorem lkX4_49 : LkS RX4 49 1 jJ6_bitCount_0f7a4 := ⟨by decide +kernel, by decide, by decide, by decide +kernel⟩
theorem lkX4_55 : LkV RX4 55 1 jX3_hasSetOf := ⟨by decide +kernel, by decide, by decide, by decide +kernel⟩
theorem lkX4_62 : LkV RX4 62 1 jX3_add := ⟨by decide +kernel, by decide, by decide, by decide +kernel⟩
theorem lkX4_65 : LkV RX4 65 0 jX3_removeLatest := ⟨by decide +kernel, by decide, by decide, by decide +kernel⟩
theorem lkX4_68 : LkV RX4 68 1 jX3_hasSet := ⟨by decide +kernel, by decide, by decide, by decide +kernel⟩
theorem lkX4_75 : LkV RX4 75 1 jX3_weightSum := ⟨by decide +kernel, by decide, by decide, by decide +kernel⟩
theorem lkX4_81 : LkV RX4 81 2 jX3_hasJoint := ⟨by decide +kernel, by decide, by decide, by decide +kernel⟩
theorem lkX4_85 : LkS RX4 85 1 jX4_isWeight := ⟨by decide +kernel, by decide, by decide, by decide +kernel⟩
theorem lkX4_91 : LkV RX4 91 2 jX3_setWeight := ⟨by decide +kernel, by decide, by decide, by decide +kernel⟩
theorem lkX4_95 : LkS RX4 95 1 jX4_isStake := ⟨by decide +kernel, by decide, by decide, by decide +kernel⟩
theorem lkX4_101 : LkV RX4 101 2 jX3_placeBy := ⟨by decide +kernel, by decide, by decide, by decide +kernel⟩
theorem lkX4_105 : LkV RX4 105 0 jX3_firstQuarrel := ⟨by decide +kernel, by decide, by decide, by decide +kernel⟩
theorem lkX4_108 : LkV RX4 108 1 jX3_isPossible := ⟨by decide +kernel, by decide, by decide, by decide +kernel⟩
theorem lkX4_111 : LkV RX4 111 0 jX3_findMet := ⟨by decide +kernel, by decide, by decide, by decide +kernel⟩
theorem lkX4_118 : LkV RX4 118 0 jX3_bestHidden := ⟨by decide +kernel, by decide, by decide, by decide +kernel⟩
theorem lkX4_121 : LkV RX4 121 1 jX3_stakeSum := ⟨by decide +kernel, by decide, by decide, by decide +kernel⟩
theorem lkX4_124 : LkV RX4 124 0 jX3_stakesTimesWeights := ⟨by decide +kernel, by decide, by decide, by decide +kernel⟩
theorem lkX4_127 : LkV RX4 127 0 jX4_canBeSearched := ⟨by decide +kernel, by decide, by decide, by decide +kernel⟩
theorem lkX4_131 : LkV RX4 131 1 jX0_search := ⟨by decide +kernel, by decide, by decide, by decide +kernel⟩
theorem lkX4_147 : LkV RX4 147 1 jX3_weighBy := ⟨by decide +kernel, by decide, by decide, by decide +kernel⟩
theorem lkX4_150 : LkV RX4 150 1 jX3_isFulfilledBy := ⟨by decide +kernel, by decide, by decide, by decide +kernel⟩
theorem lkX4_153 : LkV RX4 153 1 jX3_isProof := ⟨by decide +kernel, by decide, by decide, by decide +kernel⟩
theorem lkX4_156 : LkS RX4 156 1 jX4_isRayNumber := ⟨by decide +kernel, by decide, by decide, by decide +kernel⟩
theorem lkX4_159 : LkV RX4 159 3 jX1_hasMultipleOf := ⟨by decide +kernel, by decide, by decide, by decide +kernel⟩
theorem lkX4_164 : LkV RX4 164 3 jX1_add := ⟨by decide +kernel, by decide, by decide, by decide +kernel⟩
theorem lkX4_167 : LkV RX4 167 0 jX1_removeLatest := ⟨by decide +kernel, by decide, by decide, by decide +kernel⟩
theorem lkX4_171 : LkV RX4 171 0 jX1_judge := ⟨by decide +kernel, by decide, by decide, by decide +kernel⟩
theorem lkX4_189 : LkS RX4 189 1 jX4_isSheet := ⟨by decide +kernel, by decide, by decide, by decide +kernel⟩
theorem lkX4_192 : LkS RX4 192 1 jX4_isLane := ⟨by decide +kernel, by decide, by decide, by decide +kernel⟩
theorem lkX4_195 : LkV RX4 195 2 jX2_renew := ⟨by decide +kernel, by decide, by decide, by decide +kernel⟩
theorem lkX4_198 : LkV RX4 198 0 jX2_isNothing := ⟨by decide +kernel, by decide, by decide, by decide +kernel⟩
theorem lkX4_201 : LkV RX4 201 1 jX2_hasCell := ⟨by decide +kernel, by decide, by decide, by decide +kernel⟩
theorem lkX4_204 : LkV RX4 204 2 jX2_write := ⟨by decide +kernel, by decide, by decide, by decide +kernel⟩
theorem lkX4_210 : LkV RX4 210 1 jX3_jointCount := ⟨by decide +kernel, by decide, by decide, by decide +kernel⟩
theorem lkX4_213 : LkS RX4 213 4 jX4_firstFault := ⟨by decide +kernel, by decide, by decide, by decide +kernel⟩
theorem lkX4_220 : LkV RX4 220 0 jX3_weightsAboveZero := ⟨by decide +kernel, by decide, by decide, by decide +kernel⟩
theorem lkX5_59 : LkS RX5 59 3 jX5_in := ⟨by decide +kernel, by decide, by decide, by decide +kernel⟩
theorem lkX5_63 : LkV RX5 63 1 jX5_isSet := ⟨by decide +kernel, by decide, by decide, by decide +kernel⟩
theorem lkX5_67 : LkS RX5 67 1 jX5_bits := ⟨by decide +kernel, by decide, by decide, by decide +kernel⟩
theorem lkX5_75 : LkV RX5 75 1 jX5_sumOf := ⟨by decide +kernel, by decide, by decide, by decide +kernel⟩
theorem lkX5_78 : LkV RX5 78 2 jX5_isJoint := ⟨by decide +kernel, by decide, by decide, by decide +kernel⟩
theorem lkX5_88 : LkV RX5 88 0 jX5_hiddenMany := ⟨by decide +kernel, by decide, by decide, by decide +kernel⟩
theorem lkX5_92 : LkV RX5 92 2 jX5_jointOf := ⟨by decide +kernel, by decide, by decide, by decide +kernel⟩
theorem lkX5_96 : LkV RX5 96 3 jX5_sumBy := ⟨by decide +kernel, by decide, by decide, by decide +kernel⟩
theorem lkX5_100 : LkV RX5 100 2 jX5_areUnlike := ⟨by decide +kernel, by decide, by decide, by decide +kernel⟩
theorem lkX5_103 : LkV RX5 103 0 jX5_findQuarrel := ⟨by decide +kernel, by decide, by decide, by decide +kernel⟩
theorem lkX5_106 : LkV RX5 106 1 jX5_isPossible := ⟨by decide +kernel, by decide, by decide, by decide +kernel⟩
theorem lkX5_109 : LkV RX5 109 2 jX5_isLost := ⟨by decide +kernel, by decide, by decide, by decide +kernel⟩
theorem lkX5_112 : LkV RX5 112 1 jX5_stakeOf := ⟨by decide +kernel, by decide, by decide, by decide +kernel⟩
theorem lkX5_115 : LkV RX5 115 0 jX5_bestOf := ⟨by decide +kernel, by decide, by decide, by decide +kernel⟩
theorem lkX5_118 : LkV RX5 118 0 jX5_worthOf := ⟨by decide +kernel, by decide, by decide, by decide +kernel⟩
theorem lkX5_126 : LkV RX5 126 2 jX5_stands := ⟨by decide +kernel, by decide, by decide, by decide +kernel⟩
theorem lkX5_130 : LkV RX5 130 1 jX5_canStand := ⟨by decide +kernel, by decide, by decide, by decide +kernel⟩
theorem lkX5_133 : LkV RX5 133 0 jX5_isPartable := ⟨by decide +kernel, by decide, by decide, by decide +kernel⟩
theorem lkX5_137 : LkV RX5 137 0 jX5_search := ⟨by decide +kernel, by decide, by decide, by decide +kernel⟩
theorem lkX5_142 : LkV RX5 142 1 jX5_isProof := ⟨by decide +kernel, by decide, by decide, by decide +kernel⟩
theorem lkX5_152 : LkV RX5 152 2 jX5_areSquare := ⟨by decide +kernel, by decide, by decide, by decide +kernel⟩
theorem lkX5_155 : LkV RX5 155 1 jX5_squareOf := ⟨by decide +kernel, by decide, by decide, by decide +kernel⟩
theorem lkX5_163 : LkV RX5 163 0 jX5_findThrees := ⟨by decide +kernel, by decide, by decide, by decide +kernel⟩
theorem lkX5_166 : LkV RX5 166 1 jX5_isColour := ⟨by decide +kernel, by decide, by decide, by decide +kernel⟩
theorem lkX5_171 : LkS RX5 171 2 jX5_isSheet := ⟨by decide +kernel, by decide, by decide, by decide +kernel⟩
theorem lkL_13 : LkV RL 13 1 jX4_looks := ⟨by decide +kernel, by decide, by decide, by decide +kernel⟩
theorem lkL_17 : LkV RL 17 1 jX5_looks := ⟨by decide +kernel, by decide, by decide, by decide +kernel⟩
theorem lkL_18 : LkV RL 18 1 jX4_put := ⟨by decide +kernel, by decide, by decide, by decide +kernel⟩
theorem lkL_21 : LkV RL 21 1 jX5_put := ⟨by decide +kernel, by decide, by decide, by decide +kernel⟩
theorem lkL_22 : LkV RL 22 0 jX4_drop := ⟨by decide +kernel, by decide, by decide, by decide +kernel⟩
theorem lkL_26 : LkV RL 26 0 jX5_drop := ⟨by decide +kernel, by decide, by decide, by decide +kernel⟩
theorem lkL_27 : LkV RL 27 2 jX4_told := ⟨by decide +kernel, by decide, by decide, by decide +kernel⟩
theorem lkL_31 : LkV RL 31 2 jX5_told := ⟨by decide +kernel, by decide, by decide, by decide +kernel⟩
theorem lkL_32 : LkV RL 32 3 jX4_weight := ⟨by decide +kernel, by decide, by decide, by decide +kernel⟩
theorem lkL_36 : LkV RL 36 3 jX5_weight := ⟨by decide +kernel, by decide, by decide, by decide +kernel⟩
theorem lkL_37 : LkV RL 37 3 jX4_stake := ⟨by decide +kernel, by decide, by decide, by decide +kernel⟩
theorem lkL_40 : LkV RL 40 3 jX5_stake := ⟨by decide +kernel, by decide, by decide, by decide +kernel⟩
theorem lkL_41 : LkV RL 41 2 jX4_parity := ⟨by decide +kernel, by decide, by decide, by decide +kernel⟩
theorem lkL_44 : LkV RL 44 2 jX5_parity := ⟨by decide +kernel, by decide, by decide, by decide +kernel⟩
theorem lkL_45 : LkV RL 45 2 jX4_joint := ⟨by decide +kernel, by decide, by decide, by decide +kernel⟩
theorem lkL_48 : LkV RL 48 2 jX5_joint := ⟨by decide +kernel, by decide, by decide, by decide +kernel⟩
theorem lkL_49 : LkV RL 49 0 jX4_agrees := ⟨by decide +kernel, by decide, by decide, by decide +kernel⟩
theorem lkL_52 : LkV RL 52 0 jX5_agrees := ⟨by decide +kernel, by decide, by decide, by decide +kernel⟩
theorem lkL_53 : LkV RL 53 0 jX4_quarrel := ⟨by decide +kernel, by decide, by decide, by decide +kernel⟩
theorem lkL_56 : LkV RL 56 0 jX5_quarrel := ⟨by decide +kernel, by decide, by decide, by decide +kernel⟩
theorem lkL_57 : LkV RL 57 1 jX4_possible := ⟨by decide +kernel, by decide, by decide, by decide +kernel⟩
theorem lkL_60 : LkV RL 60 1 jX5_possible := ⟨by decide +kernel, by decide, by decide, by decide +kernel⟩
theorem lkL_61 : LkV RL 61 1 jX4_lost := ⟨by decide +kernel, by decide, by decide, by decide +kernel⟩
theorem lkL_64 : LkV RL 64 1 jX5_lost := ⟨by decide +kernel, by decide, by decide, by decide +kernel⟩
theorem lkL_65 : LkV RL 65 0 jX4_bound := ⟨by decide +kernel, by decide, by decide, by decide +kernel⟩
theorem lkL_68 : LkV RL 68 0 jX5_bound := ⟨by decide +kernel, by decide, by decide, by decide +kernel⟩
theorem lkL_69 : LkV RL 69 0 jX4_best := ⟨by decide +kernel, by decide, by decide, by decide +kernel⟩
theorem lkL_72 : LkV RL 72 0 jX5_best := ⟨by decide +kernel, by decide, by decide, by decide +kernel⟩
theorem lkL_73 : LkV RL 73 0 jX4_worth := ⟨by decide +kernel, by decide, by decide, by decide +kernel⟩
theorem lkL_76 : LkV RL 76 0 jX5_worth := ⟨by decide +kernel, by decide, by decide, by decide +kernel⟩
theorem lkL_77 : LkV RL 77 0 jX4_beyond := ⟨by decide +kernel, by decide, by decide, by decide +kernel⟩
theorem lkL_80 : LkV RL 80 0 jX5_beyond := ⟨by decide +kernel, by decide, by decide, by decide +kernel⟩
theorem lkL_81 : LkV RL 81 0 jX4_parted := ⟨by decide +kernel, by decide, by decide, by decide +kernel⟩
theorem lkL_84 : LkV RL 84 0 jX5_parted := ⟨by decide +kernel, by decide, by decide, by decide +kernel⟩
theorem lkL_85 : LkV RL 85 1 jX4_part := ⟨by decide +kernel, by decide, by decide, by decide +kernel⟩
theorem lkL_88 : LkV RL 88 1 jX5_part := ⟨by decide +kernel, by decide, by decide, by decide +kernel⟩
theorem lkL_89 : LkV RL 89 1 jX4_mix := ⟨by decide +kernel, by decide, by decide, by decide +kernel⟩
theorem lkL_92 : LkV RL 92 1 jX5_mix := ⟨by decide +kernel, by decide, by decide, by decide +kernel⟩
theorem lkL_93 : LkV RL 93 0 jX4_fulfil := ⟨by decide +kernel, by decide, by decide, by decide +kernel⟩
theorem lkL_96 : LkV RL 96 0 jX5_fulfil := ⟨by decide +kernel, by decide, by decide, by decide +kernel⟩
theorem lkL_97 : LkV RL 97 0 jX4_proof := ⟨by decide +kernel, by decide, by decide, by decide +kernel⟩
theorem lkL_100 : LkV RL 100 0 jX5_proof := ⟨by decide +kernel, by decide, by decide, by decide +kernel⟩
theorem lkL_101 : LkV RL 101 3 jX4_ray := ⟨by decide +kernel, by decide, by decide, by decide +kernel⟩
theorem lkL_104 : LkV RL 104 3 jX5_ray := ⟨by decide +kernel, by decide, by decide, by decide +kernel⟩
theorem lkL_105 : LkV RL 105 0 jX4_cut := ⟨by decide +kernel, by decide, by decide, by decide +kernel⟩
theorem lkL_108 : LkV RL 108 0 jX5_cut := ⟨by decide +kernel, by decide, by decide, by decide +kernel⟩
theorem lkL_109 : LkV RL 109 1 jX4_square := ⟨by decide +kernel, by decide, by decide, by decide +kernel⟩
theorem lkL_112 : LkV RL 112 1 jX5_square := ⟨by decide +kernel, by decide, by decide, by decide +kernel⟩
theorem lkL_113 : LkV RL 113 1 jX4_colours := ⟨by decide +kernel, by decide, by decide, by decide +kernel⟩
theorem lkL_116 : LkV RL 116 1 jX5_colours := ⟨by decide +kernel, by decide, by decide, by decide +kernel⟩
theorem lkL_117 : LkV RL 117 3 jX4_sheet := ⟨by decide +kernel, by decide, by decide, by decide +kernel⟩
theorem lkL_120 : LkV RL 120 3 jX5_sheet := ⟨by decide +kernel, by decide, by decide, by decide +kernel⟩
theorem lkL_121 : LkV RL 121 3 jX4_lay := ⟨by decide +kernel, by decide, by decide, by decide +kernel⟩
theorem lkL_124 : LkV RL 124 3 jX5_lay := ⟨by decide +kernel, by decide, by decide, by decide +kernel⟩
theorem lkL_125 : LkV RL 125 5 jX4_draw := ⟨by decide +kernel, by decide, by decide, by decide +kernel⟩
theorem lkL_129 : LkV RL 129 5 jX5_draw := ⟨by decide +kernel, by decide, by decide, by decide +kernel⟩
theorem lkL_130 : LkV RL 130 1 jX4_count := ⟨by decide +kernel, by decide, by decide, by decide +kernel⟩
theorem lkL_133 : LkV RL 133 1 jX5_count := ⟨by decide +kernel, by decide, by decide, by decide +kernel⟩
end
section
/-! plain facts on numbers and arrays, to paste: each family by itself; over the kit's rows on nI and upd -/
/-! ===== order of ints, in all its forms, and through longs ===== -/
theorem fa_lt (a b : Int32) : a < b ↔ a.toInt < b.toInt := Int32.lt_iff_toInt_lt
theorem fa_le (a b : Int32) : a ≤ b ↔ a.toInt ≤ b.toInt := Int32.le_iff_toInt_le
theorem fa_eq (a b : Int32) : a = b ↔ a.toInt = b.toInt := Int32.toInt_inj.symm
theorem fa_lt64 (a b : Int64) : a < b ↔ a.toInt < b.toInt := Int64.lt_iff_toInt_lt
theorem fa_le64 (a b : Int64) : a ≤ b ↔ a.toInt ≤ b.toInt := Int64.le_iff_toInt_le
theorem fa_eq64 (a b : Int64) : a = b ↔ a.toInt = b.toInt := Int64.toInt_inj.symm
/-- a comparison of two ints taken as longs -/
theorem fa_wide_lt (a b : Int32) : a.toInt64 < b.toInt64 ↔ a < b := by rw [fa_lt64, fa_lt, Int32.toInt_toInt64, Int32.toInt_toInt64]
theorem fa_wide_le (a b : Int32) : a.toInt64 ≤ b.toInt64 ↔ a ≤ b := by rw [fa_le64, fa_le, Int32.toInt_toInt64, Int32.toInt_toInt64]
theorem fa_wide_eq (a b : Int32) : a.toInt64 = b.toInt64 ↔ a = b := by rw [fa_eq64, fa_eq, Int32.toInt_toInt64, Int32.toInt_toInt64]
/-- one strict comparison gives all the others -/
theorem fa_of_lt {a b : Int32} (h : a < b) : a ≤ b ∧ ¬ b ≤ a ∧ ¬ b < a ∧ a ≠ b ∧ b ≠ a := by
  rw [fa_lt] at h
  refine ⟨?_, ?_, ?_, ?_, ?_⟩
  · rw [fa_le]; omega
  · rw [fa_le]; omega
  · rw [fa_lt]; omega
  · intro e; rw [fa_eq] at e; omega
  · intro e; rw [fa_eq] at e; omega
theorem fa_of_nlt {a b : Int32} (h : ¬ a < b) : b ≤ a := by
  rw [fa_lt] at h
  rw [fa_le]
  omega
theorem fa_of_nle {a b : Int32} (h : ¬ a ≤ b) : b < a := by
  rw [fa_le] at h
  rw [fa_lt]
  omega
theorem fa_le_ne {a b : Int32} (h : a ≤ b) (h2 : a ≠ b) : a < b := by
  rw [fa_le] at h
  rw [fa_lt]
  have h3 : a.toInt ≠ b.toInt := fun e => h2 ((fa_eq a b).mpr e)
  omega
theorem fa_three (a b : Int32) : a < b ∨ a = b ∨ b < a := by
  rw [fa_lt, fa_lt, fa_eq]
  omega
theorem fa_trans {a b c : Int32} (h : a < b) (h2 : b ≤ c) : a < c := by
  rw [fa_lt] at *
  rw [fa_le] at h2
  omega
/-! ===== small literals as numbers ===== -/
theorem fa_lit (n : Nat) : (OfNat.ofNat n : Int32) = nI n := rfl
theorem fa_litL (n : Nat) : (OfNat.ofNat n : Int64) = lN n := rfl
/-! ===== bits of a number: 'or', masks, one bit ===== -/
theorem fa_and (a b : Nat) : nI a &&& nI b = nI (a &&& b) := by
  apply Int32.toBitVec_inj.1
  show BitVec.ofNat 32 a &&& BitVec.ofNat 32 b = BitVec.ofNat 32 (a &&& b)
  apply BitVec.eq_of_getLsbD_eq
  intro i hi
  simp [hi]
theorem fa_or (a b : Nat) : nI a ||| nI b = nI (a ||| b) := by
  apply Int32.toBitVec_inj.1
  show BitVec.ofNat 32 a ||| BitVec.ofNat 32 b = BitVec.ofNat 32 (a ||| b)
  apply BitVec.eq_of_getLsbD_eq
  intro i hi
  simp [hi]
/-- a remainder by a power of two, as a mask -/
theorem fa_mask (n k : Nat) : nI n &&& nI (2 ^ k - 1) = nI (n % 2 ^ k) := by rw [fa_and, Nat.and_two_pow_sub_one_eq_mod]
/-- 'or' of a high part and a low one that don't meet is their sum -/
theorem fa_or_sum {a k : Nat} (b : Nat) (h : a < 2 ^ k) : nI (2 ^ k * b) ||| nI a = nI (2 ^ k * b + a) := by rw [fa_or, Nat.two_pow_add_eq_or_of_lt h]
/-- one bit, by 'and' with a power of two -/
theorem fa_bit {n j : Nat} (hj : j < 31) : nI n &&& nI (2 ^ j) = 0 ↔ n.testBit j = false := by
  have h2 : (2 : Nat) ^ j < 2 ^ 31 := Nat.pow_lt_pow_right (by decide) hj
  have hle : n &&& 2 ^ j ≤ 2 ^ j := Nat.and_le_right
  have e : n &&& 2 ^ j = 0 ↔ n.testBit j = false := by
    constructor
    · intro h
      have h1 : (n &&& 2 ^ j).testBit j = false := by rw [h]; simp
      rw [Nat.testBit_and] at h1
      first | simpa using h1 | simpa [Nat.testBit_two_pow_self] using h1 | simpa [Nat.testBit_two_pow] using h1
    · intro h
      apply Nat.eq_of_testBit_eq
      intro i
      rw [Nat.testBit_and]
      by_cases hi : j = i
      · subst hi; simp [h]
      · first | (simp [Nat.testBit_two_pow, hi]; done) | (simp [Nat.testBit_two_pow_of_ne hi]; done)
  rw [fa_and]
  constructor
  · intro h
    apply e.mp
    rcases Nat.eq_zero_or_pos (n &&& 2 ^ j) with z | z
    · exact z
    · exact absurd h (nI_ne0 z (Nat.lt_of_le_of_lt hle h2))
  · intro h
    rw [e.mpr h]; exact nI_0
/-- a remainder by a power of two of a number that isn't negative, as Java divides -/
theorem fa_rem {a k : Nat} (ha : a < 2 ^ 31) (hk : k < 31) : nI a - nI a / nI (2 ^ k) * nI (2 ^ k) = nI (a % 2 ^ k) := pk_rem ha (Nat.two_pow_pos k) (Nat.pow_lt_pow_right (by decide) hk)
/-! ===== cuts to a byte, a short ===== -/
theorem fa_byte_xor (x y : Int32) : (x ^^^ y).toInt8 = x.toInt8 ^^^ y.toInt8 := by
  apply Int8.toBitVec_inj.1
  apply BitVec.eq_of_getLsbD_eq
  intro i hi
  first | (simp [hi]; done) | (simp [hi, BitVec.getLsbD_setWidth, BitVec.getLsbD_signExtend]; done)
theorem fa_short_xor (x y : Int32) : (x ^^^ y).toInt16 = x.toInt16 ^^^ y.toInt16 := by
  apply Int16.toBitVec_inj.1
  apply BitVec.eq_of_getLsbD_eq
  intro i hi
  first | (simp [hi]; done) | (simp [hi, BitVec.getLsbD_setWidth, BitVec.getLsbD_signExtend]; done)
/-- the cut to a byte sees the low byte alone -/
theorem fa_byte_low (x : Int32) : (x &&& 255).toInt8 = x.toInt8 := by
  apply Int8.toBitVec_inj.1
  apply BitVec.eq_of_getLsbD_eq
  intro i hi
  have h2 : (255 : Int32).toBitVec.getLsbD i = true := by
    have : ∀ j : Fin 8, (255 : Int32).toBitVec.getLsbD j.val = true := by decide +kernel
    exact this ⟨i, hi⟩
  have h4 : (x &&& 255).toBitVec.getLsbD i = x.toBitVec.getLsbD i := by
    show (x.toBitVec &&& (255 : Int32).toBitVec).getLsbD i = _
    rw [BitVec.getLsbD_and, h2, Bool.and_true]
  have h3 : i < 32 := by omega
  first
    | (show (((x &&& 255).toBitVec).signExtend 8).getLsbD i = (x.toBitVec.signExtend 8).getLsbD i; rw [BitVec.getLsbD_signExtend, BitVec.getLsbD_signExtend, if_pos h3, if_pos h3, h4])
    | (show (((x &&& 255).toBitVec).setWidth 8).getLsbD i = (x.toBitVec.setWidth 8).getLsbD i; rw [BitVec.getLsbD_setWidth, BitVec.getLsbD_setWidth, h4])
    | (simp [hi, h3, h4]; done)
theorem fa_short_low (x : Int32) : (x &&& 65535).toInt16 = x.toInt16 := by
  apply Int16.toBitVec_inj.1
  apply BitVec.eq_of_getLsbD_eq
  intro i hi
  have h2 : (65535 : Int32).toBitVec.getLsbD i = true := by
    have : ∀ j : Fin 16, (65535 : Int32).toBitVec.getLsbD j.val = true := by decide +kernel
    exact this ⟨i, hi⟩
  have h4 : (x &&& 65535).toBitVec.getLsbD i = x.toBitVec.getLsbD i := by
    show (x.toBitVec &&& (65535 : Int32).toBitVec).getLsbD i = _
    rw [BitVec.getLsbD_and, h2, Bool.and_true]
  have h3 : i < 32 := by omega
  first
    | (show (((x &&& 65535).toBitVec).signExtend 16).getLsbD i = (x.toBitVec.signExtend 16).getLsbD i; rw [BitVec.getLsbD_signExtend, BitVec.getLsbD_signExtend, if_pos h3, if_pos h3, h4])
    | (show (((x &&& 65535).toBitVec).setWidth 16).getLsbD i = (x.toBitVec.setWidth 16).getLsbD i; rw [BitVec.getLsbD_setWidth, BitVec.getLsbD_setWidth, h4])
    | (simp [hi, h3, h4]; done)
/-- a small number is its own byte, its own short -/
theorem fa_byte_small {n : Nat} (h : n < 128) : (nI n).toInt8.toInt32 = nI n := by
  have : ∀ j : Fin 128, (nI j.val).toInt8.toInt32 = nI j.val := by decide +kernel
  exact this ⟨n, h⟩
/-! ===== absolute difference ===== -/
theorem fa_absdiff {a b : Nat} (ha : a < 2 ^ 31) (hb : b < 2 ^ 31) : (if nI a < nI b then nI b - nI a else nI a - nI b) = nI (if a < b then b - a else a - b) := by
  by_cases h : a < b
  · rw [if_pos (nI_lt h hb), if_pos h]
    exact pk_sub (Nat.le_of_lt h)
  · rw [if_neg (nI_nlt (Nat.le_of_not_lt h) ha), if_neg h]
    exact pk_sub (Nat.le_of_not_lt h)
/-! ===== an array behind i stores, a conditional store, a row copied ===== -/
/-- f where k < i, what stood there else -/
def fa_fill {α : Type} (f g : Nat → α) (i : Nat) : Nat → α := fun k => if k < i then f k else g k
theorem fa_fill_0 {α : Type} (f g : Nat → α) : fa_fill f g 0 = g := funext fun k => if_neg (Nat.not_lt_zero k)
theorem fa_fill_in {α : Type} {f g : Nat → α} {i k : Nat} (h : k < i) : fa_fill f g i k = f k := if_pos h
theorem fa_fill_out {α : Type} {f g : Nat → α} {i k : Nat} (h : i ≤ k) : fa_fill f g i k = g k := if_neg (Nat.not_lt.mpr h)
theorem fa_fill_succ (f g : Nat → Int32) (i : Nat) : upd (fa_fill f g i) i (f i) = fa_fill f g (i + 1) := by
  funext k
  by_cases e : k = i
  · subst e
    rw [pk_us]
    exact (if_pos (Nat.lt_succ_self k)).symm
  · rw [pk_un e]
    by_cases h : k < i
    · rw [fa_fill_in h, fa_fill_in (Nat.lt_succ_of_lt h)]
    · rw [fa_fill_out (Nat.le_of_not_lt h), fa_fill_out (by omega)]
/-- a store that changes nothing -/
theorem fa_upd_same {f : Nat → Int32} {i : Nat} {x : Int32} (h : f i = x) : upd f i x = f := by
  funext k
  by_cases e : k = i
  · subst e
    rw [pk_us, h]
  · rw [pk_un e]
/-- a store under a condition, told as one -/
theorem fa_upd_if (c : Prop) [Decidable c] (f : Nat → Int32) (i : Nat) (x : Int32) : (if c then upd f i x else f) = upd f i (if c then x else f i) := by
  by_cases h : c
  · rw [if_pos h, if_pos h]
  · rw [if_neg h, if_neg h, fa_upd_same rfl]
/-- two stores at one place, at two -/
theorem fa_upd_twice (f : Nat → Int32) (i : Nat) (x y : Int32) : upd (upd f i x) i y = upd f i y := by
  funext k
  by_cases e : k = i
  · subst e
    rw [pk_us, pk_us]
  · rw [pk_un e, pk_un e, pk_un e]
theorem fa_upd_swap (f : Nat → Int32) {i j : Nat} (h : i ≠ j) (x y : Int32) : upd (upd f i x) j y = upd (upd f j y) i x := by
  funext k
  by_cases e : k = i
  · subst e
    rw [pk_un h, pk_us, pk_us]
  · by_cases e2 : k = j
    · subst e2
      rw [pk_us, pk_un e, pk_us]
    · rw [pk_un e2, pk_un e, pk_un e, pk_un e2]
/-! ===== the first index with a property; a count ===== -/
/-- the first k < n with p k, n if there is none -/
def fa_first (p : Nat → Bool) : Nat → Nat
  | 0 => 0
  | n + 1 => if fa_first p n < n then fa_first p n else if p n then n else n + 1
theorem fa_first_le (p : Nat → Bool) : ∀ n, fa_first p n ≤ n
  | 0 => Nat.le_refl 0
  | n + 1 => by
    have ih := fa_first_le p n
    unfold fa_first
    split
    · omega
    · split
      · omega
      · omega
theorem fa_first_no (p : Nat → Bool) : ∀ n k, k < fa_first p n → p k = false
  | 0, k, h => absurd h (Nat.not_lt_zero k)
  | n + 1, k, h => by
    have ih := fa_first_no p n
    have hl := fa_first_le p n
    unfold fa_first at h
    split at h
    · exact ih k h
    · rename_i h1
      split at h
      · exact ih k (by omega)
      · rename_i h2
        by_cases e : k = n
        · subst e
          exact Bool.eq_false_iff.mpr h2
        · exact ih k (by omega)
theorem fa_first_yes (p : Nat → Bool) : ∀ n, fa_first p n < n → p (fa_first p n) = true
  | 0, h => absurd h (Nat.not_lt_zero _)
  | n + 1, h => by
    have ih := fa_first_yes p n
    have hl := fa_first_le p n
    unfold fa_first at h ⊢
    split at h
    · rename_i h1
      rw [if_pos h1]
      exact ih h1
    · rename_i h1
      rw [if_neg h1]
      split at h
      · rename_i h2
        rw [if_pos h2]
        exact h2
      · omega
/-- how many k < n have p k -/
def fa_cnt (p : Nat → Bool) : Nat → Nat
  | 0 => 0
  | n + 1 => fa_cnt p n + if p n then 1 else 0
theorem fa_cnt_le (p : Nat → Bool) : ∀ n, fa_cnt p n ≤ n
  | 0 => Nat.le_refl 0
  | n + 1 => by
    have ih := fa_cnt_le p n
    unfold fa_cnt
    split
    · omega
    · omega
theorem fa_cnt_yes {p : Nat → Bool} {n : Nat} (h : p n = true) : fa_cnt p (n + 1) = fa_cnt p n + 1 := by rw [fa_cnt, if_pos h]
theorem fa_cnt_no {p : Nat → Bool} {n : Nat} (h : p n = false) : fa_cnt p (n + 1) = fa_cnt p n := by rw [fa_cnt, if_neg (by rw [h]; decide)]; rfl
theorem fa_cnt_cong {p q : Nat → Bool} : ∀ {n : Nat}, (∀ k, k < n → p k = q k) → fa_cnt p n = fa_cnt q n
  | 0, _ => rfl
  | n + 1, h => by rw [fa_cnt, fa_cnt, fa_cnt_cong (fun k hk => h k (Nat.lt_succ_of_lt hk)), h n (Nat.lt_succ_self n)]
/-! ===== an answer carried into a post; a branch on a boolean answer ===== -/
theorem fa_post {α : Type} {P : α → Prop} {x y : α} (h : x = y) (hp : P y) : P x := h ▸ hp
theorem fa_post2 {α β : Type} {P : α → β → Prop} {x y : α} {u v : β} (h : x = y) (h2 : u = v) (hp : P y v) : P x u := h ▸ h2 ▸ hp
theorem fa_bool {r : Int32} {b : Bool} (h : r = if b then 1 else 0) : (r = 0 ↔ b = false) ∧ (¬ r = 0 ↔ b = true) := by
  subst h
  cases b
  · exact ⟨⟨fun _ => rfl, fun _ => rfl⟩, ⟨fun h => absurd rfl h, fun h => absurd h (by decide)⟩⟩
  · exact ⟨⟨fun h => absurd h (by decide), fun h => absurd h (by decide)⟩, ⟨fun _ => rfl, fun _ => by decide⟩⟩
/-- a boolean's narrowing changes nothing -/
theorem fa_bool_and {r : Int32} (h : r = 0 ∨ r = 1) : r &&& 1 = r := by
  rcases h with rfl | rfl
  · decide
  · decide
theorem fa_bool_prop {c : Prop} [Decidable c] {r : Int32} (h : r = if c then 1 else 0) : (r = 0 ↔ ¬ c) ∧ (¬ r = 0 ↔ c) := by
  subst h
  by_cases hc : c
  · rw [if_pos hc]
    exact ⟨⟨fun h => absurd h (by decide), fun h => absurd hc h⟩, ⟨fun _ => hc, fun _ => by decide⟩⟩
  · rw [if_neg hc]
    exact ⟨⟨fun _ => hc, fun _ => rfl⟩, ⟨fun h => absurd rfl h, fun h => absurd h hc⟩⟩
/-! plain facts to paste, each family by itself; over the kit's nI, lN and upd -/
/-! ===== drawers: more things than places ===== -/
theorem fb_holes : ∀ (m n : Nat) (f : Nat → Nat), (∀ i, i < n → f i < m) → (∀ i j, i < j → j < n → f i ≠ f j) → n ≤ m := by
  intro m
  induction m with
  | zero =>
    intro n f h1 _
    rcases Nat.eq_zero_or_pos n with h | h
    · omega
    · exact absurd (h1 0 h) (Nat.not_lt_zero _)
  | succ m ih =>
    intro n f h1 h2
    by_cases hx : ∃ i, i < n ∧ f i = m
    · obtain ⟨a, ha, hfa⟩ := hx
      have hg := ih (n - 1) (fun i => if i < a then f i else f (i + 1)) (by
        intro i hi
        by_cases q : i < a
        · simp only [if_pos q]
          have b1 := h1 i (by omega)
          have b2 := h2 i a q ha
          omega
        · simp only [if_neg q]
          have b1 := h1 (i + 1) (by omega)
          have b2 := h2 a (i + 1) (by omega) (by omega)
          omega) (by
        intro i j hij hj
        by_cases q : i < a
        · by_cases r : j < a
          · simp only [if_pos q, if_pos r]
            exact h2 i j hij (by omega)
          · simp only [if_pos q, if_neg r]
            exact h2 i (j + 1) (by omega) (by omega)
        · have r : ¬ j < a := by omega
          simp only [if_neg q, if_neg r]
          exact h2 (i + 1) (j + 1) (by omega) (by omega))
      omega
    · have hg := ih n f (fun i hi => by
        have b1 := h1 i hi
        have b2 : f i ≠ m := fun e => hx ⟨i, hi, e⟩
        omega) h2
      omega
/-- two of them in one place -/
theorem fb_twice {m n : Nat} {f : Nat → Nat} (h : ∀ i, i < n → f i < m) (hm : m < n) : ∃ i j, i < j ∧ j < n ∧ f i = f j := by
  refine Classical.byContradiction fun hx => ?_
  have := fb_holes m n f h (fun i j hij hj e => hx ⟨i, j, hij, hj, e⟩)
  omega
/-- as many as places, none twice: each place is taken -/
theorem fb_onto {n : Nat} {f : Nat → Nat} (h : ∀ i, i < n → f i < n) (h2 : ∀ i j, i < j → j < n → f i ≠ f j) {y : Nat} (hy : y < n) : ∃ i, i < n ∧ f i = y := by
  refine Classical.byContradiction fun hx => ?_
  have hne : ∀ i, i < n → f i ≠ y := fun i hi e => hx ⟨i, hi, e⟩
  have := fb_holes (n - 1) n (fun i => if f i < y then f i else f i - 1) (by
    intro i hi
    have b1 := h i hi
    have b2 := hne i hi
    by_cases q : f i < y
    · simp only [if_pos q]; omega
    · simp only [if_neg q]; omega) (by
    intro i j hij hj
    have b1 := hne i (by omega)
    have b2 := hne j hj
    have b3 := h2 i j hij hj
    by_cases q : f i < y
    · by_cases r : f j < y
      · simp only [if_pos q, if_pos r]; exact b3
      · simp only [if_pos q, if_neg r]; omega
    · by_cases r : f j < y
      · simp only [if_neg q, if_pos r]; omega
      · simp only [if_neg q, if_neg r]; omega)
  omega
/-! ===== how many places have a property ===== -/
def fb_ct (p : Nat → Bool) : Nat → Nat
  | 0 => 0
  | n + 1 => fb_ct p n + (if p n then 1 else 0)
theorem fb_ct_succ (p : Nat → Bool) (n : Nat) : fb_ct p (n + 1) = fb_ct p n + (if p n then 1 else 0) := rfl
theorem fb_ct_le (p : Nat → Bool) : ∀ n, fb_ct p n ≤ n
  | 0 => Nat.le_refl _
  | n + 1 => by
    have h := fb_ct_le p n
    rw [fb_ct_succ]
    split <;> omega
theorem fb_ct_step (p : Nat → Bool) (m : Nat) : ∀ n, fb_ct p m ≤ fb_ct p (m + n)
  | 0 => Nat.le_refl _
  | n + 1 => by
    have h := fb_ct_step p m n
    show fb_ct p m ≤ fb_ct p (m + n + 1)
    rw [fb_ct_succ]
    omega
theorem fb_ct_mono (p : Nat → Bool) {m n : Nat} (h : m ≤ n) : fb_ct p m ≤ fb_ct p n := by
  have := fb_ct_step p m (n - m)
  rwa [Nat.add_sub_cancel' h] at this
theorem fb_ct_cong {p q : Nat → Bool} : ∀ {n : Nat}, (∀ k, k < n → p k = q k) → fb_ct p n = fb_ct q n
  | 0, _ => rfl
  | n + 1, h => by
    rw [fb_ct_succ, fb_ct_succ, fb_ct_cong (fun k hk => h k (by omega)), h n (by omega)]
/-- one place changed -/
theorem fb_ct_out (p : Nat → Bool) (b : Bool) {i n : Nat} (h : n ≤ i) : fb_ct (fun k => if k = i then b else p k) n = fb_ct p n :=
  fb_ct_cong fun k hk => if_neg (by omega)
theorem fb_ct_upd (p : Nat → Bool) (b : Bool) {i : Nat} : ∀ {n : Nat}, i < n → fb_ct (fun k => if k = i then b else p k) n + (if p i then 1 else 0) = fb_ct p n + (if b then 1 else 0)
  | 0, h => absurd h (Nat.not_lt_zero i)
  | n + 1, h => by
    rw [fb_ct_succ, fb_ct_succ]
    rcases Nat.lt_or_ge i n with q | q
    · have := fb_ct_upd p b q
      have e : (if n = i then b else p n) = p n := if_neg (by omega)
      rw [e]
      omega
    · have e : i = n := by omega
      subst e
      rw [fb_ct_out p b (Nat.le_refl _)]
      simp only [if_true]
      omega
theorem fb_ct_sub {p q : Nat → Bool} : ∀ {n : Nat}, (∀ k, k < n → p k = true → q k = true) → fb_ct p n ≤ fb_ct q n
  | 0, _ => Nat.le_refl _
  | n + 1, h => by
    have h1 := fb_ct_sub (n := n) (p := p) (q := q) (fun k hk => h k (by omega))
    have h2 := h n (by omega)
    rw [fb_ct_succ, fb_ct_succ]
    cases hp : p n <;> cases hq : q n <;> simp_all <;> omega
theorem fb_ct_or {p q : Nat → Bool} : ∀ {n : Nat}, (∀ k, k < n → ¬ (p k = true ∧ q k = true)) → fb_ct (fun k => p k || q k) n = fb_ct p n + fb_ct q n
  | 0, _ => rfl
  | n + 1, h => by
    have h1 := fb_ct_or (n := n) (p := p) (q := q) (fun k hk => h k (by omega))
    have h2 := h n (by omega)
    rw [fb_ct_succ, fb_ct_succ, fb_ct_succ, h1]
    cases hp : p n <;> cases hq : q n <;> simp_all <;> omega
theorem fb_ct_not (p : Nat → Bool) : ∀ n, fb_ct p n + fb_ct (fun k => !p k) n = n
  | 0 => rfl
  | n + 1 => by
    have h := fb_ct_not p n
    rw [fb_ct_succ, fb_ct_succ]
    cases p n <;> simp <;> omega
theorem fb_ct_split (p : Nat → Bool) (m : Nat) : ∀ n, fb_ct p (m + n) = fb_ct p m + fb_ct (fun k => p (m + k)) n
  | 0 => rfl
  | n + 1 => by
    have h := fb_ct_split p m n
    show fb_ct p (m + n + 1) = _
    rw [fb_ct_succ, fb_ct_succ, h, Nat.add_assoc]
theorem fb_ct_zero {p : Nat → Bool} : ∀ {n : Nat}, fb_ct p n = 0 ↔ ∀ k, k < n → p k = false
  | 0 => ⟨fun _ k hk => absurd hk (Nat.not_lt_zero k), fun _ => rfl⟩
  | n + 1 => by
    have h := fb_ct_zero (p := p) (n := n)
    rw [fb_ct_succ]
    constructor
    · intro e k hk
      have e1 : fb_ct p n = 0 := by omega
      rcases Nat.lt_or_ge k n with q | q
      · exact h.mp e1 k q
      · have ek : k = n := by omega
        subst ek
        cases hp : p k
        · rfl
        · simp [hp] at e
    · intro a
      rw [h.mpr (fun k hk => a k (by omega)), a n (by omega)]
      rfl
theorem fb_ct_pos {p : Nat → Bool} {n : Nat} : 0 < fb_ct p n ↔ ∃ k, k < n ∧ p k = true := by
  constructor
  · intro h
    refine Classical.byContradiction fun hx => ?_
    have := fb_ct_zero.mpr (fun k hk => by
      cases hp : p k
      · rfl
      · exact absurd ⟨k, hk, hp⟩ hx : ∀ k, k < n → p k = false)
    omega
  · rintro ⟨k, hk, hp⟩
    rcases Nat.eq_zero_or_pos (fb_ct p n) with e | e
    · have := fb_ct_zero.mp e k hk
      rw [this] at hp
      cases hp
    · exact e
theorem fb_ct_all {p : Nat → Bool} {n : Nat} : fb_ct p n = n ↔ ∀ k, k < n → p k = true := by
  have h := fb_ct_not p n
  constructor
  · intro e k hk
    have z : fb_ct (fun k => !p k) n = 0 := by omega
    have := fb_ct_zero.mp z k hk
    cases hp : p k
    · simp [hp] at this
    · rfl
  · intro a
    have z : fb_ct (fun k => !p k) n = 0 := fb_ct_zero.mpr (fun k hk => by simp [a k hk])
    omega
/-- the k-th place with the property -/
theorem fb_ct_kth {p : Nat → Bool} {k : Nat} : ∀ {n : Nat}, k < fb_ct p n → ∃ i, i < n ∧ p i = true ∧ fb_ct p i = k
  | 0, h => absurd h (Nat.not_lt_zero k)
  | n + 1, h => by
    rcases Nat.lt_or_ge k (fb_ct p n) with q | q
    · obtain ⟨i, h1, h2⟩ := fb_ct_kth q
      exact ⟨i, by omega, h2⟩
    · rw [fb_ct_succ] at h
      cases hp : p n
      · simp [hp] at h; omega
      · simp [hp] at h
        exact ⟨n, by omega, hp, by omega⟩
theorem fb_ct_kth_one {p : Nat → Bool} {i j : Nat} (hi : p i = true) (hj : p j = true) (e : fb_ct p i = fb_ct p j) : i = j := by
  have key : ∀ a b : Nat, a < b → p a = true → fb_ct p a < fb_ct p b := by
    intro a b hab ha
    have h := fb_ct_mono p (show a + 1 ≤ b from hab)
    rw [fb_ct_succ, ha] at h
    simp at h
    omega
  rcases Nat.lt_trichotomy i j with q | q | q
  · have := key i j q hi; omega
  · exact q
  · have := key j i q hj; omega
/-! ===== sums over a range: one place changed, parts, bounds ===== -/
def fb_sm (f : Nat → Nat) : Nat → Nat
  | 0 => 0
  | n + 1 => fb_sm f n + f n
theorem fb_sm_succ (f : Nat → Nat) (n : Nat) : fb_sm f (n + 1) = fb_sm f n + f n := rfl
theorem fb_sm_cong {f g : Nat → Nat} : ∀ {n : Nat}, (∀ k, k < n → f k = g k) → fb_sm f n = fb_sm g n
  | 0, _ => rfl
  | n + 1, h => by rw [fb_sm_succ, fb_sm_succ, fb_sm_cong (fun k hk => h k (by omega)), h n (by omega)]
theorem fb_sm_out (f : Nat → Nat) (v : Nat) {i n : Nat} (h : n ≤ i) : fb_sm (fun k => if k = i then v else f k) n = fb_sm f n :=
  fb_sm_cong fun k hk => if_neg (by omega)
theorem fb_sm_upd (f : Nat → Nat) (v : Nat) {i : Nat} : ∀ {n : Nat}, i < n → fb_sm (fun k => if k = i then v else f k) n + f i = fb_sm f n + v
  | 0, h => absurd h (Nat.not_lt_zero i)
  | n + 1, h => by
    rw [fb_sm_succ, fb_sm_succ]
    rcases Nat.lt_or_ge i n with q | q
    · have := fb_sm_upd f v q
      have e : (if n = i then v else f n) = f n := if_neg (by omega)
      rw [e]
      omega
    · have e : i = n := by omega
      subst e
      rw [fb_sm_out f v (Nat.le_refl _)]
      simp only [if_true]
      omega
theorem fb_sm_add (f g : Nat → Nat) : ∀ n, fb_sm (fun k => f k + g k) n = fb_sm f n + fb_sm g n
  | 0 => rfl
  | n + 1 => by
    have h := fb_sm_add f g n
    rw [fb_sm_succ, fb_sm_succ, fb_sm_succ, h]
    omega
theorem fb_sm_le {f g : Nat → Nat} : ∀ {n : Nat}, (∀ k, k < n → f k ≤ g k) → fb_sm f n ≤ fb_sm g n
  | 0, _ => Nat.le_refl _
  | n + 1, h => by
    have h1 := fb_sm_le (n := n) (f := f) (g := g) (fun k hk => h k (by omega))
    have h2 := h n (by omega)
    rw [fb_sm_succ, fb_sm_succ]
    omega
theorem fb_sm_const (c : Nat) : ∀ n, fb_sm (fun _ => c) n = n * c
  | 0 => by rw [Nat.zero_mul]; rfl
  | n + 1 => by rw [fb_sm_succ, fb_sm_const c n, Nat.succ_mul]
theorem fb_sm_bound {f : Nat → Nat} {c n : Nat} (h : ∀ k, k < n → f k ≤ c) : fb_sm f n ≤ n * c := by
  rw [← fb_sm_const c n]
  exact fb_sm_le h
theorem fb_sm_mono (f : Nat → Nat) (m : Nat) : ∀ n, fb_sm f m ≤ fb_sm f (m + n)
  | 0 => Nat.le_refl _
  | n + 1 => by
    have h := fb_sm_mono f m n
    show fb_sm f m ≤ fb_sm f (m + n + 1)
    rw [fb_sm_succ]
    omega
theorem fb_sm_part (f : Nat → Nat) {i n : Nat} (h : i < n) : fb_sm f i + f i ≤ fb_sm f n := by
  have := fb_sm_mono f (i + 1) (n - (i + 1))
  rw [fb_sm_succ, show i + 1 + (n - (i + 1)) = n by omega] at this
  exact this
theorem fb_sm_split (f : Nat → Nat) (m : Nat) : ∀ n, fb_sm f (m + n) = fb_sm f m + fb_sm (fun k => f (m + k)) n
  | 0 => rfl
  | n + 1 => by
    have h := fb_sm_split f m n
    show fb_sm f (m + n + 1) = _
    rw [fb_sm_succ, fb_sm_succ, h, Nat.add_assoc]
theorem fb_sm_zero {f : Nat → Nat} {n : Nat} (h : fb_sm f n = 0) : ∀ k, k < n → f k = 0 := fun k hk => by
  have := fb_sm_part f hk
  omega
/-- the same over whole numbers -/
def fb_si (f : Nat → Int) : Nat → Int
  | 0 => 0
  | n + 1 => fb_si f n + f n
theorem fb_si_succ (f : Nat → Int) (n : Nat) : fb_si f (n + 1) = fb_si f n + f n := rfl
theorem fb_si_cong {f g : Nat → Int} : ∀ {n : Nat}, (∀ k, k < n → f k = g k) → fb_si f n = fb_si g n
  | 0, _ => rfl
  | n + 1, h => by rw [fb_si_succ, fb_si_succ, fb_si_cong (fun k hk => h k (by omega)), h n (by omega)]
theorem fb_si_out (f : Nat → Int) (v : Int) {i n : Nat} (h : n ≤ i) : fb_si (fun k => if k = i then v else f k) n = fb_si f n :=
  fb_si_cong fun k hk => if_neg (by omega)
theorem fb_si_upd (f : Nat → Int) (v : Int) {i : Nat} : ∀ {n : Nat}, i < n → fb_si (fun k => if k = i then v else f k) n = fb_si f n - f i + v
  | 0, h => absurd h (Nat.not_lt_zero i)
  | n + 1, h => by
    rw [fb_si_succ, fb_si_succ]
    rcases Nat.lt_or_ge i n with q | q
    · have := fb_si_upd f v q
      have e : (if n = i then v else f n) = f n := if_neg (by omega)
      rw [e]
      omega
    · have e : i = n := by omega
      subst e
      rw [fb_si_out f v (Nat.le_refl _)]
      simp only [if_true]
      omega
theorem fb_si_add (f g : Nat → Int) : ∀ n, fb_si (fun k => f k + g k) n = fb_si f n + fb_si g n
  | 0 => rfl
  | n + 1 => by
    have h := fb_si_add f g n
    rw [fb_si_succ, fb_si_succ, fb_si_succ, h]
    omega
theorem fb_si_sub (f g : Nat → Int) : ∀ n, fb_si (fun k => f k - g k) n = fb_si f n - fb_si g n
  | 0 => rfl
  | n + 1 => by
    have h := fb_si_sub f g n
    rw [fb_si_succ, fb_si_succ, fb_si_succ, h]
    omega
theorem fb_si_mul (c : Int) (f : Nat → Int) : ∀ n, fb_si (fun k => c * f k) n = c * fb_si f n
  | 0 => (Int.mul_zero c).symm
  | n + 1 => by
    have h := fb_si_mul c f n
    rw [fb_si_succ, fb_si_succ, h, Int.mul_add]
theorem fb_si_split (f : Nat → Int) (m : Nat) : ∀ n, fb_si f (m + n) = fb_si f m + fb_si (fun k => f (m + k)) n
  | 0 => (Int.add_zero _).symm
  | n + 1 => by
    have h := fb_si_split f m n
    show fb_si f (m + n + 1) = _
    rw [fb_si_succ, fb_si_succ, h, Int.add_assoc]
theorem fb_si_nat (f : Nat → Nat) : ∀ n, fb_si (fun k => (f k : Int)) n = (fb_sm f n : Int)
  | 0 => rfl
  | n + 1 => by
    have h := fb_si_nat f n
    rw [fb_si_succ, fb_sm_succ, h]
    omega
theorem fb_si_bound {f : Nat → Int} {c : Int} (hc : 0 ≤ c) : ∀ {n : Nat}, (∀ k, k < n → -c ≤ f k ∧ f k ≤ c) → -(n * c) ≤ fb_si f n ∧ fb_si f n ≤ n * c
  | 0, _ => by simp [fb_si]
  | n + 1, h => by
    have h1 := fb_si_bound (n := n) (f := f) hc (fun k hk => h k (by omega))
    have h2 := h n (by omega)
    have e : ((n + 1 : Nat) : Int) * c = n * c + c := by rw [Int.natCast_add, Int.add_mul]; simp
    rw [fb_si_succ, e]
    omega
/-! ===== bits of a long that isn't negative ===== -/
theorem fb_andL (a b : Nat) : lN a &&& lN b = lN (a &&& b) := by
  apply Int64.toBitVec_inj.1
  show BitVec.ofNat 64 a &&& BitVec.ofNat 64 b = BitVec.ofNat 64 (a &&& b)
  apply BitVec.eq_of_getLsbD_eq
  intro i hi
  simp [hi]
theorem fb_orL (a b : Nat) : lN a ||| lN b = lN (a ||| b) := by
  apply Int64.toBitVec_inj.1
  show BitVec.ofNat 64 a ||| BitVec.ofNat 64 b = BitVec.ofNat 64 (a ||| b)
  apply BitVec.eq_of_getLsbD_eq
  intro i hi
  simp [hi]
theorem fb_xorL (a b : Nat) : lN a ^^^ lN b = lN (a ^^^ b) := by
  apply Int64.toBitVec_inj.1
  show BitVec.ofNat 64 a ^^^ BitVec.ofNat 64 b = BitVec.ofNat 64 (a ^^^ b)
  apply BitVec.eq_of_getLsbD_eq
  intro i hi
  simp [hi]
theorem fb_xorI (a b : Nat) : nI a ^^^ nI b = nI (a ^^^ b) := by
  apply Int32.toBitVec_inj.1
  show BitVec.ofNat 32 a ^^^ BitVec.ofNat 32 b = BitVec.ofNat 32 (a ^^^ b)
  apply BitVec.eq_of_getLsbD_eq
  intro i hi
  simp [hi]
theorem fb_maskL (n k : Nat) : lN n &&& lN (2 ^ k - 1) = lN (n % 2 ^ k) := by rw [fb_andL, Nat.and_two_pow_sub_one_eq_mod]
theorem fb_or_sumL {a k : Nat} (b : Nat) (h : a < 2 ^ k) : lN (2 ^ k * b) ||| lN a = lN (2 ^ k * b + a) := by rw [fb_orL, Nat.two_pow_add_eq_or_of_lt h]
theorem fb_lN_inj {a b : Nat} (ha : a < 2 ^ 63) (hb : b < 2 ^ 63) : lN a = lN b ↔ a = b := by
  constructor
  · intro h
    have h1 : (BitVec.ofNat 64 a).toNat = (BitVec.ofNat 64 b).toNat := congrArg (fun x : Int64 => x.toBitVec.toNat) h
    rw [BitVec.toNat_ofNat, BitVec.toNat_ofNat, Nat.mod_eq_of_lt (by omega), Nat.mod_eq_of_lt (by omega)] at h1
    exact h1
  · rintro rfl; rfl
theorem fb_bit_nat (n j : Nat) : n &&& 2 ^ j = 0 ↔ n.testBit j = false := by
  constructor
  · intro h
    have h1 : (n &&& 2 ^ j).testBit j = false := by rw [h]; simp
    rw [Nat.testBit_and] at h1
    simpa using h1
  · intro h
    apply Nat.eq_of_testBit_eq
    intro i
    rw [Nat.testBit_and]
    by_cases hi : j = i
    · subst hi; simp [h]
    · first | (simp [Nat.testBit_two_pow, hi]; done) | (simp [Nat.testBit_two_pow_of_ne hi]; done)
/-- one bit of a long -/
theorem fb_bitL {n j : Nat} (hj : j < 63) : lN n &&& lN (2 ^ j) = 0 ↔ n.testBit j = false := by
  have h2 : (2 : Nat) ^ j < 2 ^ 63 := Nat.pow_lt_pow_right (by decide) hj
  have hle : n &&& 2 ^ j ≤ 2 ^ j := Nat.and_le_right
  rw [fb_andL, ← fb_bit_nat, show (0 : Int64) = lN 0 from rfl]
  exact fb_lN_inj (by omega) (by decide)
/-- a bit set, a bit taken off -/
theorem fb_bit_set (n j i : Nat) : (n ||| 2 ^ j).testBit i = (n.testBit i || decide (i = j)) := by
  rw [Nat.testBit_or]
  by_cases h : j = i
  · subst h; simp
  · have h2 : ¬ i = j := fun e => h e.symm
    first | (simp [Nat.testBit_two_pow, h, h2]; done) | (simp [Nat.testBit_two_pow_of_ne h, h2]; done)
theorem fb_bit_flip (n j i : Nat) : (n ^^^ 2 ^ j).testBit i = (n.testBit i ^^ decide (i = j)) := by
  rw [Nat.testBit_xor]
  by_cases h : j = i
  · subst h; simp
  · have h2 : ¬ i = j := fun e => h e.symm
    first | (simp [Nat.testBit_two_pow, h, h2]; done) | (simp [Nat.testBit_two_pow_of_ne h, h2]; done)
/-! ===== a stretch of an array written over by a function ===== -/
def fb_put {α : Type} (f g : Nat → α) (a n : Nat) : Nat → α := fun k => if a ≤ k ∧ k < a + n then g (k - a) else f k
theorem fb_put_0 {α : Type} (f g : Nat → α) (a : Nat) : fb_put f g a 0 = f := funext fun k => if_neg (by omega)
theorem fb_put_in {α : Type} {f g : Nat → α} {a n k : Nat} (h1 : a ≤ k) (h2 : k < a + n) : fb_put f g a n k = g (k - a) := if_pos ⟨h1, h2⟩
theorem fb_put_out {α : Type} {f g : Nat → α} {a n k : Nat} (h : k < a ∨ a + n ≤ k) : fb_put f g a n k = f k := if_neg (by omega)
theorem fb_put_succ (f g : Nat → Int32) (a n : Nat) : upd (fb_put f g a n) (a + n) (g n) = fb_put f g a (n + 1) := by
  funext k
  by_cases h : k = a + n
  · subst h
    simp [upd, fb_put]
  · by_cases h1 : a ≤ k ∧ k < a + n
    · have h2 : a ≤ k ∧ k < a + (n + 1) := by omega
      simp only [upd, fb_put, if_neg h, if_pos h1, if_pos h2]
    · have h2 : ¬ (a ≤ k ∧ k < a + (n + 1)) := by omega
      simp only [upd, fb_put, if_neg h, if_neg h1, if_neg h2]
/-- .. from the far end down -/
theorem fb_put_down (f g : Nat → Int32) {a n m : Nat} (h : m < n) : upd (fb_put f (fun k => g (k + (m + 1))) (a + (m + 1)) (n - (m + 1))) (a + m) (g m) = fb_put f (fun k => g (k + m)) (a + m) (n - m) := by
  funext k
  by_cases h0 : k = a + m
  · subst h0
    simp only [upd, if_true]
    rw [fb_put_in (by omega) (by omega)]
    exact congrArg g (by omega)
  · simp only [upd, if_neg h0]
    by_cases h1 : a + (m + 1) ≤ k ∧ k < a + (m + 1) + (n - (m + 1))
    · rw [fb_put_in h1.1 h1.2, fb_put_in (by omega) (by omega)]
      exact congrArg g (by omega)
    · rw [fb_put_out (by omega), fb_put_out (by omega)]
theorem fb_put_cong {α : Type} {f f2 g g2 : Nat → α} {a n : Nat} (hf : ∀ k, (k < a ∨ a + n ≤ k) → f k = f2 k) (hg : ∀ k, k < n → g k = g2 k) : fb_put f g a n = fb_put f2 g2 a n := by
  funext k
  by_cases h : a ≤ k ∧ k < a + n
  · rw [fb_put_in h.1 h.2, fb_put_in h.1 h.2, hg _ (by omega)]
  · rw [fb_put_out (by omega), fb_put_out (by omega), hf _ (by omega)]
/-! ===== the least, the first, the best so far; that there is one alone ===== -/
theorem fb_first {p : Nat → Prop} [DecidablePred p] : ∀ {n : Nat}, (∃ i, i < n ∧ p i) → ∃ i, i < n ∧ p i ∧ ∀ j, j < i → ¬ p j
  | 0, h => by obtain ⟨i, hi, -⟩ := h; exact absurd hi (Nat.not_lt_zero i)
  | n + 1, h => by
    by_cases q : ∃ i, i < n ∧ p i
    · obtain ⟨i, h1, h2⟩ := fb_first q
      exact ⟨i, by omega, h2⟩
    · obtain ⟨i, h1, h2⟩ := h
      have e : i = n := by
        rcases Nat.lt_or_ge i n with r | r
        · exact absurd ⟨i, r, h2⟩ q
        · omega
      subst e
      exact ⟨i, by omega, h2, fun j hj hp => q ⟨j, hj, hp⟩⟩
theorem fb_first_one {p : Nat → Prop} {i j : Nat} (hi : p i) (hi2 : ∀ k, k < i → ¬ p k) (hj : p j) (hj2 : ∀ k, k < j → ¬ p k) : i = j := by
  rcases Nat.lt_trichotomy i j with q | q | q
  · exact absurd hi (hj2 i q)
  · exact q
  · exact absurd hj (hi2 j q)
theorem fb_last {p : Nat → Prop} [DecidablePred p] : ∀ {n : Nat}, (∃ i, i < n ∧ p i) → ∃ i, i < n ∧ p i ∧ ∀ j, i < j → j < n → ¬ p j
  | 0, h => by obtain ⟨i, hi, -⟩ := h; exact absurd hi (Nat.not_lt_zero i)
  | n + 1, h => by
    by_cases q : p n
    · exact ⟨n, by omega, q, fun j h1 h2 => by omega⟩
    · obtain ⟨i, h1, h2⟩ := h
      have hi : i < n := by
        rcases Nat.lt_or_ge i n with r | r
        · exact r
        · have e : i = n := by omega
          subst e
          exact absurd h2 q
      obtain ⟨i2, a1, a2, a3⟩ := fb_last (n := n) ⟨i, hi, h2⟩
      refine ⟨i2, by omega, a2, fun j b1 b2 => ?_⟩
      rcases Nat.lt_or_ge j n with r | r
      · exact a3 j b1 r
      · have e : j = n := by omega
        subst e
        exact q
/-- the first greatest -/
theorem fb_best (f : Nat → Int) : ∀ {n : Nat}, 0 < n → ∃ i, i < n ∧ (∀ j, j < n → f j ≤ f i) ∧ ∀ j, j < i → f j < f i
  | 0, h => absurd h (Nat.lt_irrefl 0)
  | 1, _ => ⟨0, by omega, fun j hj => by have e : j = 0 := by omega
                                         subst e; exact Int.le_refl _, fun j hj => absurd hj (Nat.not_lt_zero j)⟩
  | n + 2, _ => by
    obtain ⟨i, h1, h2, h3⟩ := fb_best f (n := n + 1) (by omega)
    by_cases q : f i < f (n + 1)
    · refine ⟨n + 1, by omega, fun j hj => ?_, fun j hj => ?_⟩
      · rcases Nat.lt_or_ge j (n + 1) with r | r
        · have := h2 j r; omega
        · have e : j = n + 1 := by omega
          subst e; exact Int.le_refl _
      · have := h2 j hj; omega
    · refine ⟨i, by omega, fun j hj => ?_, h3⟩
      rcases Nat.lt_or_ge j (n + 1) with r | r
      · exact h2 j r
      · have e : j = n + 1 := by omega
        subst e; omega
theorem fb_best_one {f : Nat → Int} {n i j : Nat} (hi : i < n) (hi2 : ∀ k, k < n → f k ≤ f i) (hi3 : ∀ k, k < i → f k < f i) (hj : j < n) (hj2 : ∀ k, k < n → f k ≤ f j) (hj3 : ∀ k, k < j → f k < f j) : i = j := by
  rcases Nat.lt_trichotomy i j with q | q | q
  · have a := hj3 i q
    have b := hi2 j hj
    omega
  · exact q
  · have a := hi3 j q
    have b := hj2 i hi
    omega
/-- the first least -/
theorem fb_low (f : Nat → Int) {n : Nat} (h : 0 < n) : ∃ i, i < n ∧ (∀ j, j < n → f i ≤ f j) ∧ ∀ j, j < i → f i < f j := by
  obtain ⟨i, h1, h2, h3⟩ := fb_best (fun k => -f k) h
  exact ⟨i, h1, fun j hj => by have := h2 j hj; omega, fun j hj => by have := h3 j hj; omega⟩
/-! ===== signed ints as whole numbers, within bounds ===== -/
theorem fb_rng (x : Int32) : -2147483648 ≤ x.toInt ∧ x.toInt < 2147483648 := by
  have h1 := Int32.le_toInt x
  have h2 := Int32.toInt_lt x
  omega
theorem fb_bmod {z : Int} (h1 : -2147483648 ≤ z) (h2 : z < 2147483648) : z.bmod (2 ^ 32) = z := by
  rw [Int.bmod_eq_of_le (by omega) (by omega)]
theorem fb_addI {x y : Int32} (h1 : -2147483648 ≤ x.toInt + y.toInt) (h2 : x.toInt + y.toInt < 2147483648) : (x + y).toInt = x.toInt + y.toInt := by
  rw [Int32.toInt_add, fb_bmod h1 h2]
theorem fb_subI {x y : Int32} (h1 : -2147483648 ≤ x.toInt - y.toInt) (h2 : x.toInt - y.toInt < 2147483648) : (x - y).toInt = x.toInt - y.toInt := by
  rw [Int32.toInt_sub, fb_bmod h1 h2]
theorem fb_mulI {x y : Int32} (h1 : -2147483648 ≤ x.toInt * y.toInt) (h2 : x.toInt * y.toInt < 2147483648) : (x * y).toInt = x.toInt * y.toInt := by
  rw [Int32.toInt_mul, fb_bmod h1 h2]
theorem fb_negI {x : Int32} (h : x.toInt ≠ -2147483648) : (-x).toInt = -x.toInt := by
  have := fb_rng x
  rw [Int32.toInt_neg, fb_bmod (by omega) (by omega)]
theorem fb_ofI {z : Int} (h1 : -2147483648 ≤ z) (h2 : z < 2147483648) : (Int32.ofInt z).toInt = z := by
  rw [Int32.toInt_ofInt, fb_bmod h1 h2]
theorem fb_asI (x : Int32) : Int32.ofInt x.toInt = x := Int32.ofInt_toInt x
theorem fb_rngL (x : Int64) : -9223372036854775808 ≤ x.toInt ∧ x.toInt < 9223372036854775808 := by
  have h1 := Int64.le_toInt x
  have h2 := Int64.toInt_lt x
  omega
theorem fb_bmodL {z : Int} (h1 : -9223372036854775808 ≤ z) (h2 : z < 9223372036854775808) : z.bmod (2 ^ 64) = z := by
  rw [Int.bmod_eq_of_le (by omega) (by omega)]
theorem fb_addL {x y : Int64} (h1 : -9223372036854775808 ≤ x.toInt + y.toInt) (h2 : x.toInt + y.toInt < 9223372036854775808) : (x + y).toInt = x.toInt + y.toInt := by
  rw [Int64.toInt_add, fb_bmodL h1 h2]
theorem fb_subL {x y : Int64} (h1 : -9223372036854775808 ≤ x.toInt - y.toInt) (h2 : x.toInt - y.toInt < 9223372036854775808) : (x - y).toInt = x.toInt - y.toInt := by
  rw [Int64.toInt_sub, fb_bmodL h1 h2]
theorem fb_mulL {x y : Int64} (h1 : -9223372036854775808 ≤ x.toInt * y.toInt) (h2 : x.toInt * y.toInt < 9223372036854775808) : (x * y).toInt = x.toInt * y.toInt := by
  rw [Int64.toInt_mul, fb_bmodL h1 h2]
/-! ===== cuts of what is narrow already ===== -/
theorem fb_byte {x : Int32} (h1 : -128 ≤ x.toInt) (h2 : x.toInt < 128) : x.toInt8.toInt32 = x := by
  apply Int32.toInt_inj.1
  rw [Int8.toInt_toInt32, Int32.toInt_toInt8, Int.bmod_eq_of_le (by omega) (by omega)]
theorem fb_short {x : Int32} (h1 : -32768 ≤ x.toInt) (h2 : x.toInt < 32768) : x.toInt16.toInt32 = x := by
  apply Int32.toInt_inj.1
  rw [Int16.toInt_toInt32, Int32.toInt_toInt16, Int.bmod_eq_of_le (by omega) (by omega)]
theorem fb_byte_rng (x : Int32) : -128 ≤ x.toInt8.toInt32.toInt ∧ x.toInt8.toInt32.toInt < 128 := by
  rw [Int8.toInt_toInt32]
  have h1 := Int8.le_toInt x.toInt8
  have h2 := Int8.toInt_lt x.toInt8
  omega
theorem fb_short_rng (x : Int32) : -32768 ≤ x.toInt16.toInt32.toInt ∧ x.toInt16.toInt32.toInt < 32768 := by
  rw [Int16.toInt_toInt32]
  have h1 := Int16.le_toInt x.toInt16
  have h2 := Int16.toInt_lt x.toInt16
  omega
theorem fb_byte_twice (x : Int32) : x.toInt8.toInt32.toInt8.toInt32 = x.toInt8.toInt32 := fb_byte (fb_byte_rng x).1 (fb_byte_rng x).2
theorem fb_short_twice (x : Int32) : x.toInt16.toInt32.toInt16.toInt32 = x.toInt16.toInt32 := fb_short (fb_short_rng x).1 (fb_short_rng x).2
theorem fb_char {n : Nat} (h : n < 65536) : (nI n).toUInt32.toUInt16.toUInt32.toInt32 = nI n := by
  apply Int32.toBitVec_inj.1
  apply BitVec.eq_of_toNat_eq
  have e1 : (nI n).toBitVec.toNat = n := by
    show (BitVec.ofNat 32 n).toNat = n
    rw [BitVec.toNat_ofNat, Nat.mod_eq_of_lt (by omega)]
  have e2 : ((nI n).toUInt32.toUInt16.toUInt32).toNat = n := by
    rw [UInt16.toNat_toUInt32, UInt32.toNat_toUInt16]
    show (nI n).toBitVec.toNat % 2 ^ 16 = n
    rw [e1, Nat.mod_eq_of_lt (by omega)]
  rw [e1]
  exact e2
end
section
/-! more rows: calls whose answer is told, numbers from 0 on; loops -/
def Ret (x : Int32) (h1 : Hp) : Option Value → Hp → Prop := fun v h' => v = some (.int x) ∧ h' = h1
def RetV (h1 : Hp) : Option Value → Hp → Prop := fun v h' => v = none ∧ h' = h1
theorem sw_cvi {J : Mt} {E : ExT} {Z : ZT} {pc : Nat} {L : List (Option Value)} {st : List Value} {h : Hp} {J' : Mt} {idx n q ci i : Nat} {f : Option Nat} {As : List Value} {stk : List Value} {x : Int32} {h1 : Hp} (hC : Ctr J' (.ref q :: As) h (Ret x h1)) (hd : decode J.c pc = .ok (.invokevirtual idx, 3)) (hL : LkV J.y.cls idx n J') (hf : fit J J' = true) (hq : ob q ci i f) (hci : (clsX[ci]?).map (·.1) = some J'.y.cls) (hn : As.length = n) (hs : stk = As.reverse ++ .ref q :: st) (hc : (st.map Value.category).sum ≤ 8)
    (k : SW J E Z (pc + 3) L (.int x :: st) h1) : SW J E Z pc L stk h := sw_callV hC hd hL hf hq hci hn hs hc (fun v h' hv => by obtain ⟨rfl, rfl⟩ := hv; exact k)
theorem sw_cvv {J : Mt} {E : ExT} {Z : ZT} {pc : Nat} {L : List (Option Value)} {st : List Value} {h : Hp} {J' : Mt} {idx n q ci i : Nat} {f : Option Nat} {As : List Value} {stk : List Value} {h1 : Hp} (hC : Ctr J' (.ref q :: As) h (RetV h1)) (hd : decode J.c pc = .ok (.invokevirtual idx, 3)) (hL : LkV J.y.cls idx n J') (hf : fit J J' = true) (hq : ob q ci i f) (hci : (clsX[ci]?).map (·.1) = some J'.y.cls) (hn : As.length = n) (hs : stk = As.reverse ++ .ref q :: st) (hc : (st.map Value.category).sum ≤ 8)
    (k : SW J E Z (pc + 3) L st h1) : SW J E Z pc L stk h := sw_callV hC hd hL hf hq hci hn hs hc (fun v h' hv => by obtain ⟨rfl, rfl⟩ := hv; exact k)
theorem sw_csi {J : Mt} {E : ExT} {Z : ZT} {pc : Nat} {L : List (Option Value)} {st : List Value} {h : Hp} {J' : Mt} {idx n : Nat} {As : List Value} {stk : List Value} {x : Int32} {h1 : Hp} (hC : Ctr J' As h (Ret x h1)) (hd : decode J.c pc = .ok (.invokestatic idx, 3)) (hL : LkS J.y.cls idx n J') (hf : fit J J' = true) (hn : As.length = n) (hs : stk = As.reverse ++ st) (hc : (st.map Value.category).sum ≤ 8)
    (k : SW J E Z (pc + 3) L (.int x :: st) h1) : SW J E Z pc L stk h := sw_callS hC hd hL hf hn hs hc (fun v h' hv => by obtain ⟨rfl, rfl⟩ := hv; exact k)
theorem sw_csv {J : Mt} {E : ExT} {Z : ZT} {pc : Nat} {L : List (Option Value)} {st : List Value} {h : Hp} {J' : Mt} {idx n : Nat} {As : List Value} {stk : List Value} {h1 : Hp} (hC : Ctr J' As h (RetV h1)) (hd : decode J.c pc = .ok (.invokestatic idx, 3)) (hL : LkS J.y.cls idx n J') (hf : fit J J' = true) (hn : As.length = n) (hs : stk = As.reverse ++ st) (hc : (st.map Value.category).sum ≤ 8)
    (k : SW J E Z (pc + 3) L st h1) : SW J E Z pc L stk h := sw_callS hC hd hL hf hn hs hc (fun v h' hv => by obtain ⟨rfl, rfl⟩ := hv; exact k)
theorem sh_k : ∀ k, k < 32 → ((nI k &&& 31).toBitVec.smod 32).toNat = k := by decide +kernel
theorem nI_shr {a k : Nat} (ha : a < 2 ^ 31) (hk : k < 32) : nI a >>> (nI k &&& 31) = nI (a / 2 ^ k) := pk_shrN ha _ k (sh_k k hk)
theorem nI_shl {a k : Nat} (hk : k < 32) (h : a * 2 ^ k < 2 ^ 32) : nI a <<< (nI k &&& 31) = nI (a * 2 ^ k) := pk_shlN _ k (sh_k k hk) h
theorem nI_and1 (a : Nat) : nI a &&& nI 1 = nI (a % 2) := by rw [fa_and, Nat.and_one_is_mod]
theorem sw_iand1 {J : Mt} {E : ExT} {Z : ZT} {pc : Nat} {L : List (Option Value)} {st : List Value} {h : Hp} {a : Nat} (hd : decode J.c pc = .ok (.iand, 1)) (k : SW J E Z (pc + 1) L (.int (nI (a % 2)) :: st) h) : SW J E Z pc L (.int (nI 1) :: .int (nI a) :: st) h := sw_iand hd (by rw [nI_and1]; exact k)
theorem sw_iandN {J : Mt} {E : ExT} {Z : ZT} {pc : Nat} {L : List (Option Value)} {st : List Value} {h : Hp} {a b : Nat} (hd : decode J.c pc = .ok (.iand, 1)) (k : SW J E Z (pc + 1) L (.int (nI (a &&& b)) :: st) h) : SW J E Z pc L (.int (nI b) :: .int (nI a) :: st) h := sw_iand hd (by rw [fa_and]; exact k)
theorem sw_iorN {J : Mt} {E : ExT} {Z : ZT} {pc : Nat} {L : List (Option Value)} {st : List Value} {h : Hp} {a b : Nat} (hd : decode J.c pc = .ok (.ior, 1)) (k : SW J E Z (pc + 1) L (.int (nI (a ||| b)) :: st) h) : SW J E Z pc L (.int (nI b) :: .int (nI a) :: st) h := sw_ior hd (by rw [fa_or]; exact k)
theorem sw_ixorN {J : Mt} {E : ExT} {Z : ZT} {pc : Nat} {L : List (Option Value)} {st : List Value} {h : Hp} {a b : Nat} (hd : decode J.c pc = .ok (.ixor, 1)) (k : SW J E Z (pc + 1) L (.int (nI (a ^^^ b)) :: st) h) : SW J E Z pc L (.int (nI b) :: .int (nI a) :: st) h := sw_ixor hd (by rw [fb_xorI]; exact k)
theorem sw_ishlN {J : Mt} {E : ExT} {Z : ZT} {pc : Nat} {L : List (Option Value)} {st : List Value} {h : Hp} {a b : Nat} (hd : decode J.c pc = .ok (.ishl, 1)) (hb : b < 32) (ha : a * 2 ^ b < 2 ^ 32) (k : SW J E Z (pc + 1) L (.int (nI (a * 2 ^ b)) :: st) h) : SW J E Z pc L (.int (nI b) :: .int (nI a) :: st) h := sw_ishl hd (by rw [nI_shl hb ha]; exact k)
theorem sw_ishrN {J : Mt} {E : ExT} {Z : ZT} {pc : Nat} {L : List (Option Value)} {st : List Value} {h : Hp} {a b : Nat} (hd : decode J.c pc = .ok (.ishr, 1)) (ha : a < 2 ^ 31) (hb : b < 32) (k : SW J E Z (pc + 1) L (.int (nI (a / 2 ^ b)) :: st) h) : SW J E Z pc L (.int (nI b) :: .int (nI a) :: st) h := sw_ishr hd (by rw [nI_shr ha hb]; exact k)
/-- up to n, from anywhere -/
theorem lp_up {S : Nat → Prop} {n : Nat} (hn : S n) (hs : ∀ i, i < n → S (i + 1) → S i) : ∀ i, i ≤ n → S i := by
  intro i hi
  obtain ⟨d, rfl⟩ : ∃ d, n = i + d := ⟨n - i, by omega⟩
  clear hi
  induction d generalizing i with
  | zero => exact hn
  | succ d ih => exact hs i (by omega) (ih (i + 1) (by rw [show i + 1 + d = i + (d + 1) by omega]; exact hn) (by intro j hj; exact hs j (by omega)))
theorem hset_k {h : Hp} {k i a b : Nat} {v : Int32} (hn : a ≠ k) : hset h k i v a b = h a b := hset_ne (fun q => hn q.1)
theorem hset_i {h : Hp} {k i b : Nat} {v : Int32} (hn : b ≠ i) : hset h k i v k b = h k b := hset_ne (fun q => hn q.2)
/-- bits of n below k, counted -/
def bs (n : Nat) : Nat → Nat
  | 0 => 0
  | k + 1 => bs n k + n / 2 ^ k % 2
theorem bs_le (n : Nat) : ∀ k, bs n k ≤ k
  | 0 => Nat.le_refl _
  | k + 1 => by
    have := bs_le n k
    have h2 : n / 2 ^ k % 2 < 2 := Nat.mod_lt _ (by omega)
    simp only [bs]
    omega
def pop (n : Nat) : Nat := bs n 16
theorem zO : narrow .boolean (.int (nI 1)) = .int (nI 1) := by decide
end
section
def bc1 (n : Nat) : Nat := n - (n / 2 ^ 1 &&& 1431655765)
def bc2 (n : Nat) : Nat := (bc1 n &&& 858993459) + (bc1 n / 2 ^ 2 &&& 858993459)
def bc3 (n : Nat) : Nat := bc2 n + bc2 n / 2 ^ 4 &&& 252645135
def bc4 (n : Nat) : Nat := bc3 n + bc3 n / 2 ^ 8
def bc5 (n : Nat) : Nat := bc4 n + bc4 n / 2 ^ 16
theorem bc_pop_0 : ∀ a, a < 16 → ∀ b, b < 256 → bc5 (256 * (a + 0) + b) &&& 63 = pop (256 * (a + 0) + b) := by decide +kernel
theorem bc_pop_1 : ∀ a, a < 16 → ∀ b, b < 256 → bc5 (256 * (a + 16) + b) &&& 63 = pop (256 * (a + 16) + b) := by decide +kernel
theorem bc_pop_2 : ∀ a, a < 16 → ∀ b, b < 256 → bc5 (256 * (a + 32) + b) &&& 63 = pop (256 * (a + 32) + b) := by decide +kernel
theorem bc_pop_3 : ∀ a, a < 16 → ∀ b, b < 256 → bc5 (256 * (a + 48) + b) &&& 63 = pop (256 * (a + 48) + b) := by decide +kernel
theorem bc_pop_4 : ∀ a, a < 16 → ∀ b, b < 256 → bc5 (256 * (a + 64) + b) &&& 63 = pop (256 * (a + 64) + b) := by decide +kernel
theorem bc_pop_5 : ∀ a, a < 16 → ∀ b, b < 256 → bc5 (256 * (a + 80) + b) &&& 63 = pop (256 * (a + 80) + b) := by decide +kernel
theorem bc_pop_6 : ∀ a, a < 16 → ∀ b, b < 256 → bc5 (256 * (a + 96) + b) &&& 63 = pop (256 * (a + 96) + b) := by decide +kernel
theorem bc_pop_7 : ∀ a, a < 16 → ∀ b, b < 256 → bc5 (256 * (a + 112) + b) &&& 63 = pop (256 * (a + 112) + b) := by decide +kernel
theorem bc_pop_8 : ∀ a, a < 16 → ∀ b, b < 256 → bc5 (256 * (a + 128) + b) &&& 63 = pop (256 * (a + 128) + b) := by decide +kernel
theorem bc_pop_9 : ∀ a, a < 16 → ∀ b, b < 256 → bc5 (256 * (a + 144) + b) &&& 63 = pop (256 * (a + 144) + b) := by decide +kernel
theorem bc_pop_10 : ∀ a, a < 16 → ∀ b, b < 256 → bc5 (256 * (a + 160) + b) &&& 63 = pop (256 * (a + 160) + b) := by decide +kernel
theorem bc_pop_11 : ∀ a, a < 16 → ∀ b, b < 256 → bc5 (256 * (a + 176) + b) &&& 63 = pop (256 * (a + 176) + b) := by decide +kernel
theorem bc_pop_12 : ∀ a, a < 16 → ∀ b, b < 256 → bc5 (256 * (a + 192) + b) &&& 63 = pop (256 * (a + 192) + b) := by decide +kernel
theorem bc_pop_13 : ∀ a, a < 16 → ∀ b, b < 256 → bc5 (256 * (a + 208) + b) &&& 63 = pop (256 * (a + 208) + b) := by decide +kernel
theorem bc_pop_14 : ∀ a, a < 16 → ∀ b, b < 256 → bc5 (256 * (a + 224) + b) &&& 63 = pop (256 * (a + 224) + b) := by decide +kernel
theorem bc_pop_15 : ∀ a, a < 16 → ∀ b, b < 256 → bc5 (256 * (a + 240) + b) &&& 63 = pop (256 * (a + 240) + b) := by decide +kernel
theorem bc_pop {n : Nat} (hn : n < 65536) : bc5 n &&& 63 = pop n := by
  obtain ⟨t, a, b, ht, ha, hb, rfl⟩ : ∃ t a b, t < 16 ∧ a < 16 ∧ b < 256 ∧ n = 256 * (a + 16 * t) + b := ⟨n / 4096, n / 256 % 16, n % 256, by omega, by omega, by omega, by omega⟩
  have hc : t = 0 ∨ t = 1 ∨ t = 2 ∨ t = 3 ∨ t = 4 ∨ t = 5 ∨ t = 6 ∨ t = 7 ∨ t = 8 ∨ t = 9 ∨ t = 10 ∨ t = 11 ∨ t = 12 ∨ t = 13 ∨ t = 14 ∨ t = 15 := by omega
  rcases hc with rfl | rfl | rfl | rfl | rfl | rfl | rfl | rfl | rfl | rfl | rfl | rfl | rfl | rfl | rfl | rfl
  · exact bc_pop_0 a ha b hb
  · exact bc_pop_1 a ha b hb
  · exact bc_pop_2 a ha b hb
  · exact bc_pop_3 a ha b hb
  · exact bc_pop_4 a ha b hb
  · exact bc_pop_5 a ha b hb
  · exact bc_pop_6 a ha b hb
  · exact bc_pop_7 a ha b hb
  · exact bc_pop_8 a ha b hb
  · exact bc_pop_9 a ha b hb
  · exact bc_pop_10 a ha b hb
  · exact bc_pop_11 a ha b hb
  · exact bc_pop_12 a ha b hb
  · exact bc_pop_13 a ha b hb
  · exact bc_pop_14 a ha b hb
  · exact bc_pop_15 a ha b hb
end
section
theorem ush_k : ∀ k, k < 32 → (((nI k).toUInt32 &&& Int32.toUInt32 31).toBitVec % 32).toNat = k := by decide +kernel
theorem sw_iushrN {J : Mt} {E : ExT} {Z : ZT} {pc : Nat} {L : List (Option Value)} {st : List Value} {h : Hp} {a b : Nat} (hd : decode J.c pc = .ok (.iushr, 1)) (ha : a < 2 ^ 32) (hb : b < 32) (k : SW J E Z (pc + 1) L (.int (nI (a / 2 ^ b)) :: st) h) : SW J E Z pc L (.int (nI b) :: .int (nI a) :: st) h := sw_iushr (v := nI (a / 2 ^ b)) hd (pk_ushrN ha _ b (ush_k b hb)) k
/-- Integer.bitCount of a number of sixteen bits -/
theorem c_bitCount {h : Hp} {n : Nat} (hn : n < 65536) : Ctr jJ6_bitCount_0f7a4 [.int (nI n)] h (Ret (nI (pop n)) h) := by
  have h1 : bc1 n ≤ n := Nat.sub_le _ _
  have a2 : bc2 n ≤ 2 * n := by
    have q1 : bc1 n &&& 858993459 ≤ bc1 n := Nat.and_le_left
    have q2 : bc1 n / 2 ^ 2 &&& 858993459 ≤ bc1 n / 2 ^ 2 := Nat.and_le_left
    unfold bc2
    omega
  have a3 : bc3 n ≤ 3 * n := by
    have q1 : bc2 n + bc2 n / 2 ^ 4 &&& 252645135 ≤ bc2 n + bc2 n / 2 ^ 4 := Nat.and_le_left
    unfold bc3
    omega
  have a4 : bc4 n ≤ 6 * n := by
    unfold bc4
    omega
  have hz : n / 2 ^ 1 &&& 1431655765 ≤ n := Nat.le_trans Nat.and_le_left (Nat.div_le_self _ _)
  have hp : bc5 n &&& 63 = pop n := bc_pop hn
  refine ctr_start (by decide) (Nat.le_of_ble_eq_true rfl) rfl rfl ?_
  show SW jJ6_bitCount_0f7a4 E0 _ 0 [some (.int (nI n))] [] _
  refine sw_iload_n dJ6_bitCount_0f7a4_0 rfl ?_
  refine sw_iload_n dJ6_bitCount_0f7a4_1 rfl ?_
  refine sw_iconst (v := nI 1) dJ6_bitCount_0f7a4_2 (by decide) ?_
  refine sw_iushrN dJ6_bitCount_0f7a4_3 (by omega) (by decide) ?_
  refine sw_ldc_w (v := nI 1431655765) dJ6_bitCount_0f7a4_4 (by decide +kernel) ?_
  first | refine sw_iandN dJ6_bitCount_0f7a4_7 ?_ | refine sw_iand dJ6_bitCount_0f7a4_7 ?_
  refine sw_isubN dJ6_bitCount_0f7a4_8 hz ?_
  refine sw_istore_n dJ6_bitCount_0f7a4_9 (by decide) rfl ?_
  show SW jJ6_bitCount_0f7a4 E0 _ 10 [some (.int (nI (bc1 n)))] [] _
  refine sw_iload_n dJ6_bitCount_0f7a4_10 rfl ?_
  refine sw_ldc_w (v := nI 858993459) dJ6_bitCount_0f7a4_11 (by decide +kernel) ?_
  first | refine sw_iandN dJ6_bitCount_0f7a4_14 ?_ | refine sw_iand dJ6_bitCount_0f7a4_14 ?_
  refine sw_iload_n dJ6_bitCount_0f7a4_15 rfl ?_
  refine sw_iconst (v := nI 2) dJ6_bitCount_0f7a4_16 (by decide) ?_
  refine sw_iushrN dJ6_bitCount_0f7a4_17 (by omega) (by decide) ?_
  refine sw_ldc_w (v := nI 858993459) dJ6_bitCount_0f7a4_18 (by decide +kernel) ?_
  first | refine sw_iandN dJ6_bitCount_0f7a4_21 ?_ | refine sw_iand dJ6_bitCount_0f7a4_21 ?_
  first | refine sw_iaddN dJ6_bitCount_0f7a4_22 ?_ | refine sw_iadd dJ6_bitCount_0f7a4_22 ?_
  refine sw_istore_n dJ6_bitCount_0f7a4_23 (by decide) rfl ?_
  show SW jJ6_bitCount_0f7a4 E0 _ 24 [some (.int (nI (bc2 n)))] [] _
  refine sw_iload_n dJ6_bitCount_0f7a4_24 rfl ?_
  refine sw_iload_n dJ6_bitCount_0f7a4_25 rfl ?_
  refine sw_iconst (v := nI 4) dJ6_bitCount_0f7a4_26 (by decide) ?_
  refine sw_iushrN dJ6_bitCount_0f7a4_27 (by omega) (by decide) ?_
  first | refine sw_iaddN dJ6_bitCount_0f7a4_28 ?_ | refine sw_iadd dJ6_bitCount_0f7a4_28 ?_
  refine sw_ldc_w (v := nI 252645135) dJ6_bitCount_0f7a4_29 (by decide +kernel) ?_
  first | refine sw_iandN dJ6_bitCount_0f7a4_32 ?_ | refine sw_iand dJ6_bitCount_0f7a4_32 ?_
  refine sw_istore_n dJ6_bitCount_0f7a4_33 (by decide) rfl ?_
  show SW jJ6_bitCount_0f7a4 E0 _ 34 [some (.int (nI (bc3 n)))] [] _
  refine sw_iload_n dJ6_bitCount_0f7a4_34 rfl ?_
  refine sw_iload_n dJ6_bitCount_0f7a4_35 rfl ?_
  refine sw_bipush (v := nI 8) dJ6_bitCount_0f7a4_36 (by decide) ?_
  refine sw_iushrN dJ6_bitCount_0f7a4_38 (by omega) (by decide) ?_
  first | refine sw_iaddN dJ6_bitCount_0f7a4_39 ?_ | refine sw_iadd dJ6_bitCount_0f7a4_39 ?_
  refine sw_istore_n dJ6_bitCount_0f7a4_40 (by decide) rfl ?_
  show SW jJ6_bitCount_0f7a4 E0 _ 41 [some (.int (nI (bc4 n)))] [] _
  refine sw_iload_n dJ6_bitCount_0f7a4_41 rfl ?_
  refine sw_iload_n dJ6_bitCount_0f7a4_42 rfl ?_
  refine sw_bipush (v := nI 16) dJ6_bitCount_0f7a4_43 (by decide) ?_
  refine sw_iushrN dJ6_bitCount_0f7a4_45 (by omega) (by decide) ?_
  first | refine sw_iaddN dJ6_bitCount_0f7a4_46 ?_ | refine sw_iadd dJ6_bitCount_0f7a4_46 ?_
  refine sw_istore_n dJ6_bitCount_0f7a4_47 (by decide) rfl ?_
  show SW jJ6_bitCount_0f7a4 E0 _ 48 [some (.int (nI (bc5 n)))] [] _
  refine sw_iload_n dJ6_bitCount_0f7a4_48 rfl ?_
  refine sw_bipush (v := nI 63) dJ6_bitCount_0f7a4_49 (by decide) ?_
  first | refine sw_iandN dJ6_bitCount_0f7a4_51 ?_ | refine sw_iand dJ6_bitCount_0f7a4_51 ?_
  refine sw_iret dJ6_bitCount_0f7a4_52 rfl rfl rfl ?_
  exact ⟨by rw [hp], rfl⟩
/-- the reference's bits -/
theorem c_bits {h : Hp} {n : Nat} (hn : n < 65536) : Ctr jX5_bits [.int (nI n)] h (Ret (nI (pop n)) h) := by
  refine ctr_start (by decide) (Nat.le_of_ble_eq_true rfl) rfl rfl ?_
  show SW jX5_bits E0 _ 0 [some (.int (nI n)), none, none] [] _
  refine sw_iconst (v := nI 0) dX5_bits_0 (by decide) ?_
  refine sw_istore_n dX5_bits_1 (by decide) rfl ?_
  refine sw_iconst (v := nI 0) dX5_bits_2 (by decide) ?_
  refine sw_istore_n dX5_bits_3 (by decide) rfl ?_
  refine lp_up (n := 16) (S := fun i => SW jX5_bits E0 (Zm (Ret (nI (pop n)) h)) 4 [some (.int (nI n)), some (.int (nI (bs n i))), some (.int (nI i))] [] h) ?_ ?_ 0 (by omega)
  · refine sw_iload_n dX5_bits_4 rfl ?_
    refine sw_bipush (v := nI 16) dX5_bits_5 (by decide) ?_
    refine sw_icmpN_ge (tgt := 24) dX5_bits_7 (by decide) (by omega) (by omega) (fun hc => ?_) (fun hc => ?_)
    · refine sw_iload_n dX5_bits_24 rfl ?_
      refine sw_iret dX5_bits_25 rfl rfl rfl ?_
      exact ⟨rfl, rfl⟩
    · omega
  · intro i hi ih
    refine sw_iload_n dX5_bits_4 rfl ?_
    refine sw_bipush (v := nI 16) dX5_bits_5 (by decide) ?_
    refine sw_icmpN_ge (tgt := 24) dX5_bits_7 (by decide) (by omega) (by omega) (fun hc => ?_) (fun hc => ?_)
    · omega
    · refine sw_iload_n dX5_bits_10 rfl ?_
      refine sw_iload_n dX5_bits_11 rfl ?_
      refine sw_iload_n dX5_bits_12 rfl ?_
      first | refine sw_ishrN dX5_bits_13 (by omega) (by omega) ?_ | refine sw_ishr dX5_bits_13 ?_
      refine sw_iconst (v := nI 1) dX5_bits_14 (by decide) ?_
      first | refine sw_iand1 dX5_bits_15 ?_ | refine sw_iand dX5_bits_15 ?_
      first | refine sw_iaddN dX5_bits_16 ?_ | refine sw_iadd dX5_bits_16 ?_
      refine sw_istore_n dX5_bits_17 (by decide) rfl ?_
      first | refine sw_iincN (b := 1) dX5_bits_18 rfl (by decide) rfl ?_ | refine sw_iinc dX5_bits_18 rfl rfl (by decide) rfl ?_
      refine sw_goto (tgt := 4) dX5_bits_21 (by decide) ?_
      exact ih
theorem c_in {h : Hp} {a b c : Int64} : Ctr jX5_in [.long a, .long b, .long c] h (Ret (if b ≤ a ∧ a ≤ c then nI 1 else nI 0) h) := by
  refine ctr_start (by decide) (Nat.le_of_ble_eq_true rfl) rfl rfl ?_
  show SW jX5_in E0 _ 0 [some (.long a), none, some (.long b), none, some (.long c), none] [] _
  refine sw_lload_n dX5_in_0 rfl ?_
  refine sw_lload_n dX5_in_1 rfl ?_
  refine sw_lcmp dX5_in_2 ?_
  refine sw_if_lt (tgt := 17) dX5_in_3 (by decide) (fun hc => ?_) (fun hc => ?_)
  · have hx : ¬ b ≤ a := fun q => by
      have := (lg_cmp_ge a b).mpr q
      exact absurd hc (Int32.not_lt.mpr this)
    rw [if_neg (fun q => hx q.1)]
    refine sw_iconst (v := nI 0) dX5_in_17 (by decide) ?_
    refine sw_zret dX5_in_18 rfl rfl rfl rfl ?_
    exact ⟨rfl, rfl⟩
  · have hx : b ≤ a := (lg_cmp_ge a b).mp (Int32.not_lt.mp hc)
    clear hc
    refine sw_lload_n dX5_in_6 rfl ?_
    refine sw_lload dX5_in_7 rfl ?_
    refine sw_lcmp dX5_in_9 ?_
    refine sw_if_gt (tgt := 17) dX5_in_10 (by decide) (fun hc => ?_) (fun hc => ?_)
    · have hy : ¬ a ≤ c := fun q => by
        unfold lg_cmp at hc
        have q1 : ¬ a > c := Int64.not_lt.mpr q
        rw [if_neg q1] at hc
        split at hc <;> exact absurd hc (by decide)
      rw [if_neg (fun q => hy q.2)]
      refine sw_iconst (v := nI 0) dX5_in_17 (by decide) ?_
      refine sw_zret dX5_in_18 rfl rfl rfl rfl ?_
      exact ⟨rfl, rfl⟩
    · have hy : a ≤ c := by
        unfold lg_cmp at hc
        rcases Int64.lt_or_le c a with q | q
        · rw [if_pos q] at hc
          exact absurd (by decide : (0 : Int32) < 1) hc
        · exact q
      rw [if_pos ⟨hx, hy⟩]
      refine sw_iconst (v := nI 1) dX5_in_13 (by decide) ?_
      refine sw_goto (tgt := 18) dX5_in_14 (by decide) ?_
      refine sw_zret dX5_in_18 rfl rfl rfl rfl ?_
      exact ⟨rfl, rfl⟩
end
section
/-! the table's small methods -/
/-- the number of the JOINT by x, of the looks s, of those below k -/
def jn (s x : Nat) : Nat → Nat
  | 0 => 0
  | k + 1 => jn s x k + (if s / 2 ^ k % 2 = 1 then x / 2 ^ k % 2 * 2 ^ bs s k else 0)
theorem jn_lt (s x : Nat) : ∀ k, jn s x k < 2 ^ bs s k
  | 0 => by simp [jn, bs]
  | k + 1 => by
    have ih := jn_lt s x k
    have h2 : x / 2 ^ k % 2 < 2 := Nat.mod_lt _ (by omega)
    have h3 : s / 2 ^ k % 2 < 2 := Nat.mod_lt _ (by omega)
    simp only [jn, bs]
    by_cases hs : s / 2 ^ k % 2 = 1
    · rw [if_pos hs, hs, Nat.pow_succ]
      have : x / 2 ^ k % 2 * 2 ^ bs s k ≤ 1 * 2 ^ bs s k := Nat.mul_le_mul_right _ (by omega)
      omega
    · rw [if_neg hs, show s / 2 ^ k % 2 = 0 by omega]
      simpa using ih
theorem jn_or (s x k : Nat) (hs : s / 2 ^ k % 2 = 1) : jn s x k ||| (x / 2 ^ k % 2) * 2 ^ bs s k = jn s x (k + 1) := by
  have h := jn_lt s x k
  simp only [jn, if_pos hs]
  rw [Nat.or_comm, Nat.mul_comm, ← Nat.two_pow_add_eq_or_of_lt h, Nat.add_comm]
theorem jn_no (s x k : Nat) (hs : ¬ s / 2 ^ k % 2 = 1) : jn s x k = jn s x (k + 1) := by
  simp only [jn, if_neg hs, Nat.add_zero]
theorem bs_yes (s k : Nat) (hs : s / 2 ^ k % 2 = 1) : bs s k + 1 = bs s (k + 1) := by
  simp only [bs, hs]
theorem bs_no (s k : Nat) (hs : ¬ s / 2 ^ k % 2 = 1) : bs s k = bs s (k + 1) := by
  have h3 : s / 2 ^ k % 2 < 2 := Nat.mod_lt _ (by omega)
  simp only [bs]
  omega
abbrev jnt (s x : Nat) : Nat := jn s x 6
theorem pow6 {n : Nat} (h : n ≤ 6) : 2 ^ n ≤ 64 := Nat.pow_le_pow_right (by omega) h
theorem c_hiddenCount {h : Hp} {n : Nat} (hn : h 1 0 = nI n) (hn6 : n ≤ 6) : Ctr jX3_hiddenCount [.ref 1] h (Ret (nI (2 ^ n)) h) := by
  have h1 := pow6 hn6
  refine ctr_start (by decide) (Nat.le_of_ble_eq_true rfl) rfl rfl ?_
  show SW jX3_hiddenCount E0 _ 0 [some (.ref 1)] [] _
  refine sw_iconst (v := nI 1) dX3_hiddenCount_0 (by decide) ?_
  refine sw_aload_n dX3_hiddenCount_1 rfl ?_
  refine sw_getI dX3_hiddenCount_2 flX3_9 ⟨by decide, _, rfl, rfl⟩ ?_
  rw [hn]
  first | refine sw_ishlN dX3_hiddenCount_5 (by omega) (by omega) ?_ | refine sw_ishl dX3_hiddenCount_5 ?_
  refine sw_iret dX3_hiddenCount_6 rfl rfl rfl ?_
  rw [Nat.one_mul]
  exact ⟨rfl, rfl⟩
theorem c_numberOf {h : Hp} {s x : Nat} (hs : s < 64) (hx : x < 64) : Ctr jX3_numberOf [.int (nI s), .int (nI x)] h (Ret (nI (jnt s x)) h) := by
  refine ctr_start (by decide) (Nat.le_of_ble_eq_true rfl) rfl rfl ?_
  show SW jX3_numberOf E0 _ 0 [some (.int (nI s)), some (.int (nI x)), none, none, none] [] _
  refine sw_iconst (v := nI 0) dX3_numberOf_0 (by decide) ?_
  refine sw_istore_n dX3_numberOf_1 (by decide) rfl ?_
  refine sw_iconst (v := nI 0) dX3_numberOf_2 (by decide) ?_
  refine sw_istore_n dX3_numberOf_3 (by decide) rfl ?_
  refine sw_iconst (v := nI 0) dX3_numberOf_4 (by decide) ?_
  refine sw_istore dX3_numberOf_5 (by decide) rfl ?_
  refine lp_up (n := 6) (S := fun i => SW jX3_numberOf E0 (Zm (Ret (nI (jnt s x)) h)) 7 [some (.int (nI s)), some (.int (nI x)), some (.int (nI (jn s x i))), some (.int (nI (bs s i))), some (.int (nI i))] [] h) ?_ ?_ 0 (by omega)
  · refine sw_iload dX3_numberOf_7 rfl ?_
    refine sw_bipush (v := nI 6) dX3_numberOf_9 (by decide) ?_
    refine sw_icmpN_ge (tgt := 44) dX3_numberOf_11 (by decide) (by omega) (by omega) (fun hc => ?_) (fun hc => ?_)
    · refine sw_iload_n dX3_numberOf_44 rfl ?_
      refine sw_iret dX3_numberOf_45 rfl rfl rfl ?_
      exact ⟨rfl, rfl⟩
    · omega
  · intro i hi ih
    refine sw_iload dX3_numberOf_7 rfl ?_
    refine sw_bipush (v := nI 6) dX3_numberOf_9 (by decide) ?_
    refine sw_icmpN_ge (tgt := 44) dX3_numberOf_11 (by decide) (by omega) (by omega) (fun hc => ?_) (fun hc => ?_)
    · omega
    · have hb := bs_le s i
      have hm : x / 2 ^ i % 2 < 2 := Nat.mod_lt _ (by omega)
      have hq : x / 2 ^ i % 2 * 2 ^ bs s i < 2 ^ 32 := by
        have q1 : (2 : Nat) ^ bs s i ≤ 2 ^ 6 := Nat.pow_le_pow_right (by omega) (by omega)
        have q2 : x / 2 ^ i % 2 * 2 ^ bs s i ≤ 1 * 2 ^ 6 := Nat.mul_le_mul (by omega) q1
        omega
      refine sw_iload_n dX3_numberOf_14 rfl ?_
      refine sw_iload dX3_numberOf_15 rfl ?_
      first | refine sw_ishrN dX3_numberOf_17 (by omega) (by omega) ?_ | refine sw_ishr dX3_numberOf_17 ?_
      refine sw_iconst (v := nI 1) dX3_numberOf_18 (by decide) ?_
      first | refine sw_iand1 dX3_numberOf_19 ?_ | refine sw_iand dX3_numberOf_19 ?_
      refine sw_iconst (v := nI 1) dX3_numberOf_20 (by decide) ?_
      refine sw_icmpN_ne (tgt := 38) dX3_numberOf_21 (by decide) (by omega) (by omega) (fun hc => ?_) (fun hc => ?_)
      · rw [jn_no s x i hc, bs_no s i hc] at *
        first | refine sw_iincN (b := 1) dX3_numberOf_38 rfl (by decide) rfl ?_ | refine sw_iinc dX3_numberOf_38 rfl rfl (by decide) rfl ?_
        refine sw_goto (tgt := 7) dX3_numberOf_41 (by decide) ?_
        exact ih
      · refine sw_iload_n dX3_numberOf_24 rfl ?_
        refine sw_iload_n dX3_numberOf_25 rfl ?_
        refine sw_iload dX3_numberOf_26 rfl ?_
        first | refine sw_ishrN dX3_numberOf_28 (by omega) (by omega) ?_ | refine sw_ishr dX3_numberOf_28 ?_
        refine sw_iconst (v := nI 1) dX3_numberOf_29 (by decide) ?_
        first | refine sw_iand1 dX3_numberOf_30 ?_ | refine sw_iand dX3_numberOf_30 ?_
        refine sw_iload_n dX3_numberOf_31 rfl ?_
        first | refine sw_ishlN dX3_numberOf_32 (by omega) hq ?_ | refine sw_ishl dX3_numberOf_32 ?_
        first | refine sw_iorN dX3_numberOf_33 ?_ | refine sw_ior dX3_numberOf_33 ?_
        rw [jn_or s x i hc]
        refine sw_istore_n dX3_numberOf_34 (by decide) rfl ?_
        first | refine sw_iincN (b := 1) dX3_numberOf_35 rfl (by decide) rfl ?_ | refine sw_iinc dX3_numberOf_35 rfl rfl (by decide) rfl ?_
        rw [bs_yes s i hc]
        first | refine sw_iincN (b := 1) dX3_numberOf_38 rfl (by decide) rfl ?_ | refine sw_iinc dX3_numberOf_38 rfl rfl (by decide) rfl ?_
        refine sw_goto (tgt := 7) dX3_numberOf_41 (by decide) ?_
        exact ih
end
section
/-! ranges, truth, sums -/
def bI (b : Bool) : Int32 := if b then nI 1 else nI 0
theorem bI_nar (b : Bool) : narrow .boolean (.int (bI b)) = .int (bI b) := by cases b <;> decide
theorem bI_t : bI true = nI 1 := rfl
theorem bI_f : bI false = nI 0 := rfl
theorem bI_0 {b : Bool} (h : bI b = 0) : b = false := by cases b <;> first | rfl | exact absurd h (by decide)
theorem bI_1 {b : Bool} (h : ¬ bI b = 0) : b = true := by cases b <;> first | rfl | exact absurd (by decide) h
def rg (lo hi : Int) (v : Int32) : Bool := decide (lo ≤ v.toInt ∧ v.toInt ≤ hi)
theorem rg_t {lo hi : Int} {v : Int32} (h1 : lo ≤ v.toInt) (h2 : v.toInt ≤ hi) : rg lo hi v = true := decide_eq_true ⟨h1, h2⟩
theorem rg_f1 {lo hi : Int} {v : Int32} (h1 : v.toInt < lo) : rg lo hi v = false := decide_eq_false (fun q => by omega)
theorem rg_f2 {lo hi : Int} {v : Int32} (h1 : hi < v.toInt) : rg lo hi v = false := decide_eq_false (fun q => by omega)
theorem rg_nat {z : Nat} {c : Int32} (hz : z < 2 ^ 31) (h : rg 0 ((z : Int) - 1) c = true) : ∃ k, k < z ∧ c = nI k := by
  have h := of_decide_eq_true h
  have := vp_in_of (x := c) (n := z) (vp_in_iff.mpr ⟨h.1, by omega⟩) hz
  exact this
theorem rg_nI {z k : Nat} (hz : z < 2 ^ 31) (h : k < z) : rg 0 ((z : Int) - 1) (nI k) = true := rg_t (by rw [nI_toInt (by omega)]; omega) (by rw [nI_toInt (by omega)]; omega)
theorem rg_nat2 {z : Nat} {c : Int32} (hz : z < 2 ^ 30) (h : rg 0 (z : Int) c = true) : ∃ k, k ≤ z ∧ c = nI k := by
  have h2 : rg 0 (((z + 1 : Nat) : Int) - 1) c = true := by
    rw [show ((z + 1 : Nat) : Int) - 1 = (z : Int) by omega]
    exact h
  obtain ⟨k, h3, h4⟩ := rg_nat (z := z + 1) (by omega) h2
  exact ⟨k, by omega, h4⟩
theorem i_lt {x y : Int32} : x < y ↔ x.toInt < y.toInt := Int32.lt_iff_toInt_lt
theorem i_le {x y : Int32} : x ≤ y ↔ x.toInt ≤ y.toInt := Int32.le_iff_toInt_le
theorem t_0 : (0 : Int32).toInt = 0 := by decide
theorem t_N {k : Nat} (h : k < 2 ^ 31) : (nI k).toInt = (k : Int) := nI_toInt h
def sI (f : Nat → Int32) : Nat → Int32
  | 0 => 0
  | n + 1 => sI f n + f n
theorem sI_cong {f g : Nat → Int32} : ∀ {n : Nat}, (∀ k, k < n → f k = g k) → sI f n = sI g n
  | 0, _ => rfl
  | n + 1, h => by simp only [sI]; rw [sI_cong (fun k hk => h k (by omega)), h n (by omega)]
theorem sI_zero {f : Nat → Int32} {k : Nat} : ∀ {n : Nat}, k ≤ n → (∀ j, k ≤ j → j < n → f j = 0) → sI f n = sI f k
  | 0, h1, h2 => by rw [show k = 0 by omega]
  | n + 1, h1, h2 => by
    rcases Nat.lt_or_ge n k with q | q
    · rw [show k = n + 1 by omega]
    · simp only [sI]
      rw [h2 n q (by omega), sI_zero q (fun j a b => h2 j a (by omega))]
      simp
def allB (p : Nat → Bool) : Nat → Bool
  | 0 => true
  | n + 1 => allB p n && p n
theorem allB_cong {p q : Nat → Bool} : ∀ {n : Nat}, (∀ k, k < n → p k = q k) → allB p n = allB q n
  | 0, _ => rfl
  | n + 1, h => by simp only [allB]; rw [allB_cong (fun k hk => h k (by omega)), h n (by omega)]
theorem allB_f {p : Nat → Bool} {k : Nat} : ∀ {n : Nat}, k < n → p k = false → allB p n = false
  | 0, h, _ => absurd h (Nat.not_lt_zero _)
  | n + 1, h, hp => by
    simp only [allB]
    rcases Nat.lt_or_ge k n with q | q
    · rw [allB_f q hp]; rfl
    · rw [show n = k by omega, hp, Bool.and_false]
theorem allB_t {p : Nat → Bool} : ∀ {n : Nat}, allB p n = true ↔ ∀ k, k < n → p k = true
  | 0 => ⟨fun _ k h => absurd h (Nat.not_lt_zero _), fun _ => rfl⟩
  | n + 1 => by
    simp only [allB, Bool.and_eq_true]
    rw [allB_t]
    constructor
    · intro h k hk
      rcases Nat.lt_or_ge k n with q | q
      · exact h.1 k q
      · rw [show k = n by omega]; exact h.2
    · intro h
      exact ⟨fun k hk => h k (by omega), h n (by omega)⟩
/-- the bits of j laid where s has its own -/
def dp (s j : Nat) : Nat → Nat
  | 0 => 0
  | k + 1 => dp s j k + (if s / 2 ^ k % 2 = 1 then j / 2 ^ bs s k % 2 * 2 ^ k else 0)
theorem pop6 : ∀ s, s < 64 → pop s = bs s 6 := by decide +kernel
theorem jnt_lt {s : Nat} (hs : s < 64) (x : Nat) : jnt s x < 2 ^ pop s := by rw [pop6 s hs]; exact jn_lt s x 6
/-- the class's table: n looks, z sets of looks sm -/
def TX (h : Hp) (n z : Nat) (sm : Nat → Nat) : Prop :=
  (n ≤ 6 ∧ z ≤ 8 ∧ h 1 0 = nI n ∧ h 1 1 = nI z) ∧ (∀ c, c < z → h 2 c = nI (sm c) ∧ 1 ≤ sm c ∧ sm c < 2 ^ n ∧ pop (sm c) ≤ 3) ∧ (∀ c x, c < z → x < 2 ^ n → h 7 (64 * c + x) = nI (8 * c + jnt (sm c) x)) ∧ ∀ c j, c < z → j < 2 ^ pop (sm c) → h 6 (8 * c + j) = nI (dp (sm c) j 6)
theorem TX.s64 {h : Hp} {n z : Nat} {sm : Nat → Nat} (T : TX h n z sm) {c : Nat} (hc : c < z) : sm c < 64 := Nat.lt_of_lt_of_le (T.2.1 c hc).2.2.1 (pow6 T.1.1)
theorem pow3 {k : Nat} (h : k ≤ 3) : 2 ^ k ≤ 8 := Nat.pow_le_pow_right (by omega) h
theorem TX.j8 {h : Hp} {n z : Nat} {sm : Nat → Nat} (T : TX h n z sm) {c : Nat} (hc : c < z) (x : Nat) : jnt (sm c) x < 8 := Nat.lt_of_lt_of_le (jnt_lt (T.s64 hc) x) (pow3 (T.2.1 c hc).2.2.2)
section TAB
variable {h : Hp} {n z : Nat} {sm : Nat → Nat}
theorem c_hasSet (T : TX h n z sm) (c : Int32) : Ctr jX3_hasSet [.ref 1, .int c] h (Ret (bI (rg 0 ((z : Int) - 1) c)) h) := by
  obtain ⟨⟨hn6, hz8, hn, hz⟩, -⟩ := T
  refine ctr_start (by decide) (Nat.le_of_ble_eq_true rfl) rfl rfl ?_
  show SW jX3_hasSet E0 _ 0 [some (.ref 1), some (.int c)] [] _
  refine sw_iload_n dX3_hasSet_0 rfl ?_
  refine sw_if_lt (tgt := 16) dX3_hasSet_1 (by decide) (fun hc => ?_) (fun hc => ?_)
  · rw [i_lt, t_0] at hc
    refine sw_iconst (v := nI 0) dX3_hasSet_16 (by decide) ?_
    refine sw_zret dX3_hasSet_17 rfl rfl rfl rfl ?_
    exact ⟨by rw [rg_f1 hc]; rfl, rfl⟩
  · rw [i_lt, t_0] at hc
    refine sw_iload_n dX3_hasSet_4 rfl ?_
    refine sw_aload_n dX3_hasSet_5 rfl ?_
    refine sw_getI dX3_hasSet_6 flX3_15 ⟨by decide, _, rfl, rfl⟩ ?_
    rw [hz]
    have hc0 := hc
    clear hc
    refine sw_icmp_ge (tgt := 16) dX3_hasSet_9 (by decide) (fun hc => ?_) (fun hc => ?_)
    · rw [i_le, t_N (by omega)] at hc
      refine sw_iconst (v := nI 0) dX3_hasSet_16 (by decide) ?_
      refine sw_zret dX3_hasSet_17 rfl rfl rfl rfl ?_
      exact ⟨by rw [rg_f2 (by omega)]; rfl, rfl⟩
    · rw [i_le, t_N (by omega)] at hc
      refine sw_iconst (v := nI 1) dX3_hasSet_12 (by decide) ?_
      refine sw_goto (tgt := 17) dX3_hasSet_13 (by decide) ?_
      refine sw_zret dX3_hasSet_17 rfl rfl rfl rfl ?_
      exact ⟨by rw [rg_t (by omega) (by omega)]; rfl, rfl⟩
theorem c_jointCount (T : TX h n z sm) {c : Nat} (hc : c < z) : Ctr jX3_jointCount [.ref 1, .int (nI c)] h (Ret (nI (2 ^ pop (sm c))) h) := by
  have h64 := T.s64 hc
  obtain ⟨⟨hn6, hz8, hn, hz⟩, hs, -⟩ := T
  obtain ⟨s1, s2, s3, s4⟩ := hs c hc
  have hp := pow3 s4
  refine ctr_start (by decide) (Nat.le_of_ble_eq_true rfl) rfl rfl ?_
  show SW jX3_jointCount E0 _ 0 [some (.ref 1), some (.int (nI c))] [] _
  refine sw_iconst (v := nI 1) dX3_jointCount_0 (by decide) ?_
  refine sw_aload_n dX3_jointCount_1 rfl ?_
  refine sw_getR dX3_jointCount_2 flX3_21 ⟨by decide, _, rfl, rfl⟩ ?_
  refine sw_iload_n dX3_jointCount_5 rfl ?_
  refine sw_iald dX3_jointCount_6 rfl (by simp only [plA]; omega) ?_
  rw [s1]
  refine sw_csi (c_bitCount (by omega)) dX3_jointCount_7 lkX3_55 (by decide) rfl rfl (Nat.le_of_ble_eq_true rfl) ?_
  first | refine sw_ishlN dX3_jointCount_10 (by omega) (by omega) ?_ | refine sw_ishl dX3_jointCount_10 ?_
  refine sw_iret dX3_jointCount_11 rfl rfl rfl ?_
  rw [Nat.one_mul]
  exact ⟨rfl, rfl⟩
theorem c_hasJoint (T : TX h n z sm) (c j : Int32) : Ctr jX3_hasJoint [.ref 1, .int c, .int j] h (Ret (bI (rg 0 ((z : Int) - 1) c && rg 0 (((2 ^ pop (sm c.toNatClampNeg) : Nat) : Int) - 1) j)) h) := by
  have hz8 := T.1.2.1
  refine ctr_start (by decide) (Nat.le_of_ble_eq_true rfl) rfl rfl ?_
  show SW jX3_hasJoint E0 _ 0 [some (.ref 1), some (.int c), some (.int j)] [] _
  refine sw_aload_n dX3_hasJoint_0 rfl ?_
  refine sw_iload_n dX3_hasJoint_1 rfl ?_
  refine sw_cvi (i := 0) (c_hasSet T c) dX3_hasJoint_2 lkX3_47 (by decide) ⟨by decide, _, rfl, rfl⟩ rfl rfl rfl (Nat.le_of_ble_eq_true rfl) ?_
  refine sw_if_eq (tgt := 25) dX3_hasJoint_5 (by decide) (fun hc => ?_) (fun hc => ?_)
  · have hx := bI_0 hc
    refine sw_iconst (v := nI 0) dX3_hasJoint_25 (by decide) ?_
    refine sw_zret dX3_hasJoint_26 rfl rfl rfl rfl ?_
    exact ⟨by rw [hx]; rfl, rfl⟩
  · have hx := bI_1 hc
    obtain ⟨k, hk, rfl⟩ := rg_nat (by omega) hx
    rw [nI_clamp (by omega), hx]
    have hp := pow3 (T.2.1 k hk).2.2.2
    clear hc
    refine sw_iload_n dX3_hasJoint_8 rfl ?_
    refine sw_if_lt (tgt := 25) dX3_hasJoint_9 (by decide) (fun hc => ?_) (fun hc => ?_)
    · rw [i_lt, t_0] at hc
      refine sw_iconst (v := nI 0) dX3_hasJoint_25 (by decide) ?_
      refine sw_zret dX3_hasJoint_26 rfl rfl rfl rfl ?_
      exact ⟨by rw [rg_f1 hc]; rfl, rfl⟩
    · rw [i_lt, t_0] at hc
      have hc0 := hc
      clear hc
      refine sw_iload_n dX3_hasJoint_12 rfl ?_
      refine sw_aload_n dX3_hasJoint_13 rfl ?_
      refine sw_iload_n dX3_hasJoint_14 rfl ?_
      refine sw_cvi (i := 0) (c_jointCount T hk) dX3_hasJoint_15 lkX3_51 (by decide) ⟨by decide, _, rfl, rfl⟩ rfl rfl rfl (Nat.le_of_ble_eq_true rfl) ?_
      refine sw_icmp_ge (tgt := 25) dX3_hasJoint_18 (by decide) (fun hc => ?_) (fun hc => ?_)
      · rw [i_le, t_N (by omega)] at hc
        refine sw_iconst (v := nI 0) dX3_hasJoint_25 (by decide) ?_
        refine sw_zret dX3_hasJoint_26 rfl rfl rfl rfl ?_
        exact ⟨by rw [rg_f2 (by omega)]; rfl, rfl⟩
      · rw [i_le, t_N (by omega)] at hc
        refine sw_iconst (v := nI 1) dX3_hasJoint_21 (by decide) ?_
        refine sw_goto (tgt := 26) dX3_hasJoint_22 (by decide) ?_
        refine sw_zret dX3_hasJoint_26 rfl rfl rfl rfl ?_
        exact ⟨by rw [rg_t (by omega) (by omega)]; rfl, rfl⟩
theorem c_placeBy (T : TX h n z sm) {c x : Nat} (hc : c < z) (hx : x < 2 ^ n) : Ctr jX3_placeBy [.ref 1, .int (nI c), .int (nI x)] h (Ret (nI (8 * c + jnt (sm c) x)) h) := by
  obtain ⟨⟨hn6, hz8, hn, hz⟩, hs, hp, -⟩ := T
  have h64 := pow6 hn6
  refine ctr_start (by decide) (Nat.le_of_ble_eq_true rfl) rfl rfl ?_
  show SW jX3_placeBy E0 _ 0 [some (.ref 1), some (.int (nI c)), some (.int (nI x))] [] _
  refine sw_aload_n dX3_placeBy_0 rfl ?_
  refine sw_getR dX3_placeBy_1 flX3_37 ⟨by decide, _, rfl, rfl⟩ ?_
  refine sw_bipush (v := nI 64) dX3_placeBy_4 (by decide) ?_
  refine sw_iload_n dX3_placeBy_6 rfl ?_
  first | refine sw_imulN dX3_placeBy_7 ?_ | refine sw_imul dX3_placeBy_7 ?_
  refine sw_iload_n dX3_placeBy_8 rfl ?_
  first | refine sw_iaddN dX3_placeBy_9 ?_ | refine sw_iadd dX3_placeBy_9 ?_
  refine sw_iald dX3_placeBy_10 rfl (by simp only [plA]; omega) ?_
  rw [hp c x hc hx]
  refine sw_iret dX3_placeBy_11 rfl rfl rfl ?_
  exact ⟨rfl, rfl⟩
theorem c_hasSetOf (T : TX h n z sm) (v : Int32) : Ctr jX3_hasSetOf [.ref 1, .int v] h (Ret (bI (!allB (fun c => decide (¬ h 2 c = v)) z)) h) := by
  obtain ⟨⟨hn6, hz8, hn, hz⟩, -⟩ := T
  refine ctr_start (by decide) (Nat.le_of_ble_eq_true rfl) rfl rfl ?_
  show SW jX3_hasSetOf E0 _ 0 [some (.ref 1), some (.int v), none] [] _
  refine sw_iconst (v := nI 0) dX3_hasSetOf_0 (by decide) ?_
  refine sw_istore_n dX3_hasSetOf_1 (by decide) rfl ?_
  refine lp_up (n := z) (S := fun i => allB (fun c => decide (¬ h 2 c = v)) i = true → SW jX3_hasSetOf E0 (Zm (Ret (bI (!allB (fun c => decide (¬ h 2 c = v)) z)) h)) 2 [some (.ref 1), some (.int v), some (.int (nI i))] [] h) ?_ ?_ 0 (by omega) rfl
  · intro ha
    refine sw_iload_n dX3_hasSetOf_2 rfl ?_
    refine sw_aload_n dX3_hasSetOf_3 rfl ?_
    refine sw_getI dX3_hasSetOf_4 flX3_15 ⟨by decide, _, rfl, rfl⟩ ?_
    rw [hz]
    refine sw_icmpN_ge (tgt := 28) dX3_hasSetOf_7 (by decide) (by omega) (by omega) (fun hc => ?_) (fun hc => ?_)
    · refine sw_iconst (v := nI 0) dX3_hasSetOf_28 (by decide) ?_
      refine sw_zret dX3_hasSetOf_29 rfl rfl rfl rfl ?_
      exact ⟨by rw [ha]; rfl, rfl⟩
    · omega
  · intro i hi ih ha
    refine sw_iload_n dX3_hasSetOf_2 rfl ?_
    refine sw_aload_n dX3_hasSetOf_3 rfl ?_
    refine sw_getI dX3_hasSetOf_4 flX3_15 ⟨by decide, _, rfl, rfl⟩ ?_
    rw [hz]
    refine sw_icmpN_ge (tgt := 28) dX3_hasSetOf_7 (by decide) (by omega) (by omega) (fun hc => ?_) (fun hc => ?_)
    · omega
    · refine sw_aload_n dX3_hasSetOf_10 rfl ?_
      refine sw_getR dX3_hasSetOf_11 flX3_21 ⟨by decide, _, rfl, rfl⟩ ?_
      refine sw_iload_n dX3_hasSetOf_14 rfl ?_
      refine sw_iald dX3_hasSetOf_15 rfl (by simp only [plA]; omega) ?_
      refine sw_iload_n dX3_hasSetOf_16 rfl ?_
      clear hc
      refine sw_icmp_ne (tgt := 22) dX3_hasSetOf_17 (by decide) (fun hc => ?_) (fun hc => ?_)
      · first | refine sw_iincN (b := 1) dX3_hasSetOf_22 rfl (by decide) rfl ?_ | refine sw_iinc dX3_hasSetOf_22 rfl rfl (by decide) rfl ?_
        refine sw_goto (tgt := 2) dX3_hasSetOf_25 (by decide) ?_
        exact ih (by simp only [allB, ha, Bool.true_and]; exact decide_eq_true hc)
      · refine sw_iconst (v := nI 1) dX3_hasSetOf_20 (by decide) ?_
        refine sw_zret dX3_hasSetOf_21 rfl rfl rfl rfl ?_
        exact ⟨by rw [allB_f hi (decide_eq_false (fun q => q hc))]; rfl, rfl⟩
theorem c_weightSum (T : TX h n z sm) {c : Nat} (hc : c < z) : Ctr jX3_weightSum [.ref 1, .int (nI c)] h (Ret (sI (fun j => h 4 (8 * c + j)) (2 ^ pop (sm c))) h) := by
  have hz8 := T.1.2.1
  have hp := pow3 (T.2.1 c hc).2.2.2
  have hcc := hc
  clear hc
  refine ctr_start (by decide) (Nat.le_of_ble_eq_true rfl) rfl rfl ?_
  show SW jX3_weightSum E0 _ 0 [some (.ref 1), some (.int (nI c)), none, none] [] _
  refine sw_iconst (v := nI 0) dX3_weightSum_0 (by decide) ?_
  refine sw_istore_n dX3_weightSum_1 (by decide) rfl ?_
  refine sw_iconst (v := nI 0) dX3_weightSum_2 (by decide) ?_
  refine sw_istore_n dX3_weightSum_3 (by decide) rfl ?_
  refine lp_up (n := 2 ^ pop (sm c)) (S := fun i => SW jX3_weightSum E0 (Zm (Ret (sI (fun j => h 4 (8 * c + j)) (2 ^ pop (sm c))) h)) 4 [some (.ref 1), some (.int (nI c)), some (.int (sI (fun j => h 4 (8 * c + j)) i)), some (.int (nI i))] [] h) ?_ ?_ 0 (Nat.zero_le _)
  · refine sw_iload_n dX3_weightSum_4 rfl ?_
    refine sw_aload_n dX3_weightSum_5 rfl ?_
    refine sw_iload_n dX3_weightSum_6 rfl ?_
    refine sw_cvi (i := 0) (c_jointCount T hcc) dX3_weightSum_7 lkX3_51 (by decide) ⟨by decide, _, rfl, rfl⟩ rfl rfl rfl (Nat.le_of_ble_eq_true rfl) ?_
    refine sw_icmpN_ge (tgt := 33) dX3_weightSum_10 (by decide) (by omega) (by omega) (fun hc => ?_) (fun hc => ?_)
    · refine sw_iload_n dX3_weightSum_33 rfl ?_
      refine sw_iret dX3_weightSum_34 rfl rfl rfl ?_
      exact ⟨rfl, rfl⟩
    · omega
  · intro i hi ih
    refine sw_iload_n dX3_weightSum_4 rfl ?_
    refine sw_aload_n dX3_weightSum_5 rfl ?_
    refine sw_iload_n dX3_weightSum_6 rfl ?_
    refine sw_cvi (i := 0) (c_jointCount T hcc) dX3_weightSum_7 lkX3_51 (by decide) ⟨by decide, _, rfl, rfl⟩ rfl rfl rfl (Nat.le_of_ble_eq_true rfl) ?_
    refine sw_icmpN_ge (tgt := 33) dX3_weightSum_10 (by decide) (by omega) (by omega) (fun hc => ?_) (fun hc => ?_)
    · omega
    · refine sw_iload_n dX3_weightSum_13 rfl ?_
      refine sw_aload_n dX3_weightSum_14 rfl ?_
      refine sw_getR dX3_weightSum_15 flX3_28 ⟨by decide, _, rfl, rfl⟩ ?_
      refine sw_bipush (v := nI 8) dX3_weightSum_18 (by decide) ?_
      refine sw_iload_n dX3_weightSum_20 rfl ?_
      first | refine sw_imulN dX3_weightSum_21 ?_ | refine sw_imul dX3_weightSum_21 ?_
      refine sw_iload_n dX3_weightSum_22 rfl ?_
      first | refine sw_iaddN dX3_weightSum_23 ?_ | refine sw_iadd dX3_weightSum_23 ?_
      refine sw_iald dX3_weightSum_24 rfl (by simp only [plA]; omega) ?_
      first | refine sw_iaddN dX3_weightSum_25 ?_ | refine sw_iadd dX3_weightSum_25 ?_
      refine sw_istore_n dX3_weightSum_26 (by decide) rfl ?_
      first | refine sw_iincN (b := 1) dX3_weightSum_27 rfl (by decide) rfl ?_ | refine sw_iinc dX3_weightSum_27 rfl rfl (by decide) rfl ?_
      refine sw_goto (tgt := 4) dX3_weightSum_30 (by decide) ?_
      exact ih
theorem c_isPossible (T : TX h n z sm) {x : Nat} (hx : x < 2 ^ n) : Ctr jX3_isPossible [.ref 1, .int (nI x)] h (Ret (bI (allB (fun c => decide (¬ h 4 (8 * c + jnt (sm c) x) = 0)) z)) h) := by
  have hz8 := T.1.2.1
  have hz := T.1.2.2.2
  refine ctr_start (by decide) (Nat.le_of_ble_eq_true rfl) rfl rfl ?_
  show SW jX3_isPossible E0 _ 0 [some (.ref 1), some (.int (nI x)), none] [] _
  refine sw_iconst (v := nI 0) dX3_isPossible_0 (by decide) ?_
  refine sw_istore_n dX3_isPossible_1 (by decide) rfl ?_
  refine lp_up (n := z) (S := fun i => allB (fun c => decide (¬ h 4 (8 * c + jnt (sm c) x) = 0)) i = true → SW jX3_isPossible E0 (Zm (Ret (bI (allB (fun c => decide (¬ h 4 (8 * c + jnt (sm c) x) = 0)) z)) h)) 2 [some (.ref 1), some (.int (nI x)), some (.int (nI i))] [] h) ?_ ?_ 0 (by omega) rfl
  · intro ha
    refine sw_iload_n dX3_isPossible_2 rfl ?_
    refine sw_aload_n dX3_isPossible_3 rfl ?_
    refine sw_getI dX3_isPossible_4 flX3_15 ⟨by decide, _, rfl, rfl⟩ ?_
    rw [hz]
    refine sw_icmpN_ge (tgt := 32) dX3_isPossible_7 (by decide) (by omega) (by omega) (fun hc => ?_) (fun hc => ?_)
    · refine sw_iconst (v := nI 1) dX3_isPossible_32 (by decide) ?_
      refine sw_zret dX3_isPossible_33 rfl rfl rfl rfl ?_
      exact ⟨by rw [ha]; rfl, rfl⟩
    · omega
  · intro i hi ih ha
    have hj := T.j8 hi x
    refine sw_iload_n dX3_isPossible_2 rfl ?_
    refine sw_aload_n dX3_isPossible_3 rfl ?_
    refine sw_getI dX3_isPossible_4 flX3_15 ⟨by decide, _, rfl, rfl⟩ ?_
    rw [hz]
    refine sw_icmpN_ge (tgt := 32) dX3_isPossible_7 (by decide) (by omega) (by omega) (fun hc => ?_) (fun hc => ?_)
    · omega
    · refine sw_aload_n dX3_isPossible_10 rfl ?_
      refine sw_getR dX3_isPossible_11 flX3_28 ⟨by decide, _, rfl, rfl⟩ ?_
      refine sw_aload_n dX3_isPossible_14 rfl ?_
      refine sw_iload_n dX3_isPossible_15 rfl ?_
      refine sw_iload_n dX3_isPossible_16 rfl ?_
      refine sw_cvi (i := 0) (c_placeBy T hi hx) dX3_isPossible_17 lkX3_74 (by decide) ⟨by decide, _, rfl, rfl⟩ rfl rfl rfl (Nat.le_of_ble_eq_true rfl) ?_
      refine sw_iald dX3_isPossible_20 rfl (by simp only [plA]; omega) ?_
      clear hc
      refine sw_if_ne (tgt := 26) dX3_isPossible_21 (by decide) (fun hc => ?_) (fun hc => ?_)
      · first | refine sw_iincN (b := 1) dX3_isPossible_26 rfl (by decide) rfl ?_ | refine sw_iinc dX3_isPossible_26 rfl rfl (by decide) rfl ?_
        refine sw_goto (tgt := 2) dX3_isPossible_29 (by decide) ?_
        exact ih (by simp only [allB, ha, Bool.true_and]; exact decide_eq_true hc)
      · refine sw_iconst (v := nI 0) dX3_isPossible_24 (by decide) ?_
        refine sw_zret dX3_isPossible_25 rfl rfl rfl rfl ?_
        exact ⟨by rw [allB_f hi (decide_eq_false (fun q => q hc))]; rfl, rfl⟩
theorem c_stakeSum (T : TX h n z sm) {x : Nat} (hx : x < 2 ^ n) : Ctr jX3_stakeSum [.ref 1, .int (nI x)] h (Ret (sI (fun c => h 5 (8 * c + jnt (sm c) x)) z) h) := by
  have hz8 := T.1.2.1
  have hz := T.1.2.2.2
  refine ctr_start (by decide) (Nat.le_of_ble_eq_true rfl) rfl rfl ?_
  show SW jX3_stakeSum E0 _ 0 [some (.ref 1), some (.int (nI x)), none, none] [] _
  refine sw_iconst (v := nI 0) dX3_stakeSum_0 (by decide) ?_
  refine sw_istore_n dX3_stakeSum_1 (by decide) rfl ?_
  refine sw_iconst (v := nI 0) dX3_stakeSum_2 (by decide) ?_
  refine sw_istore_n dX3_stakeSum_3 (by decide) rfl ?_
  refine lp_up (n := z) (S := fun i => SW jX3_stakeSum E0 (Zm (Ret (sI (fun c => h 5 (8 * c + jnt (sm c) x)) z) h)) 4 [some (.ref 1), some (.int (nI x)), some (.int (sI (fun c => h 5 (8 * c + jnt (sm c) x)) i)), some (.int (nI i))] [] h) ?_ ?_ 0 (by omega)
  · refine sw_iload_n dX3_stakeSum_4 rfl ?_
    refine sw_aload_n dX3_stakeSum_5 rfl ?_
    refine sw_getI dX3_stakeSum_6 flX3_15 ⟨by decide, _, rfl, rfl⟩ ?_
    rw [hz]
    refine sw_icmpN_ge (tgt := 32) dX3_stakeSum_9 (by decide) (by omega) (by omega) (fun hc => ?_) (fun hc => ?_)
    · refine sw_iload_n dX3_stakeSum_32 rfl ?_
      refine sw_iret dX3_stakeSum_33 rfl rfl rfl ?_
      exact ⟨rfl, rfl⟩
    · omega
  · intro i hi ih
    have hj := T.j8 hi x
    refine sw_iload_n dX3_stakeSum_4 rfl ?_
    refine sw_aload_n dX3_stakeSum_5 rfl ?_
    refine sw_getI dX3_stakeSum_6 flX3_15 ⟨by decide, _, rfl, rfl⟩ ?_
    rw [hz]
    refine sw_icmpN_ge (tgt := 32) dX3_stakeSum_9 (by decide) (by omega) (by omega) (fun hc => ?_) (fun hc => ?_)
    · omega
    · refine sw_iload_n dX3_stakeSum_12 rfl ?_
      refine sw_aload_n dX3_stakeSum_13 rfl ?_
      refine sw_getR dX3_stakeSum_14 flX3_31 ⟨by decide, _, rfl, rfl⟩ ?_
      refine sw_aload_n dX3_stakeSum_17 rfl ?_
      refine sw_iload_n dX3_stakeSum_18 rfl ?_
      refine sw_iload_n dX3_stakeSum_19 rfl ?_
      refine sw_cvi (i := 0) (c_placeBy T hi hx) dX3_stakeSum_20 lkX3_74 (by decide) ⟨by decide, _, rfl, rfl⟩ rfl rfl rfl (Nat.le_of_ble_eq_true rfl) ?_
      refine sw_iald dX3_stakeSum_23 rfl (by simp only [plA]; omega) ?_
      first | refine sw_iaddN dX3_stakeSum_24 ?_ | refine sw_iadd dX3_stakeSum_24 ?_
      refine sw_istore_n dX3_stakeSum_25 (by decide) rfl ?_
      first | refine sw_iincN (b := 1) dX3_stakeSum_26 rfl (by decide) rfl ?_ | refine sw_iinc dX3_stakeSum_26 rfl rfl (by decide) rfl ?_
      refine sw_goto (tgt := 4) dX3_stakeSum_29 (by decide) ?_
      exact ih
theorem c_stakesTimesWeights (T : TX h n z sm) : Ctr jX3_stakesTimesWeights [.ref 1] h (Ret (sI (fun k => h 5 k * h 4 k) (8 * z)) h) := by
  have hz8 := T.1.2.1
  have hz := T.1.2.2.2
  refine ctr_start (by decide) (Nat.le_of_ble_eq_true rfl) rfl rfl ?_
  show SW jX3_stakesTimesWeights E0 _ 0 [some (.ref 1), none, none] [] _
  refine sw_iconst (v := nI 0) dX3_stakesTimesWeights_0 (by decide) ?_
  refine sw_istore_n dX3_stakesTimesWeights_1 (by decide) rfl ?_
  refine sw_iconst (v := nI 0) dX3_stakesTimesWeights_2 (by decide) ?_
  refine sw_istore_n dX3_stakesTimesWeights_3 (by decide) rfl ?_
  refine lp_up (n := 8 * z) (S := fun i => SW jX3_stakesTimesWeights E0 (Zm (Ret (sI (fun k => h 5 k * h 4 k) (8 * z)) h)) 4 [some (.ref 1), some (.int (sI (fun k => h 5 k * h 4 k) i)), some (.int (nI i))] [] h) ?_ ?_ 0 (by omega)
  · refine sw_iload_n dX3_stakesTimesWeights_4 rfl ?_
    refine sw_bipush (v := nI 8) dX3_stakesTimesWeights_5 (by decide) ?_
    refine sw_aload_n dX3_stakesTimesWeights_7 rfl ?_
    refine sw_getI dX3_stakesTimesWeights_8 flX3_15 ⟨by decide, _, rfl, rfl⟩ ?_
    rw [hz]
    first | refine sw_imulN dX3_stakesTimesWeights_11 ?_ | refine sw_imul dX3_stakesTimesWeights_11 ?_
    refine sw_icmpN_ge (tgt := 37) dX3_stakesTimesWeights_12 (by decide) (by omega) (by omega) (fun hc => ?_) (fun hc => ?_)
    · refine sw_iload_n dX3_stakesTimesWeights_37 rfl ?_
      refine sw_iret dX3_stakesTimesWeights_38 rfl rfl rfl ?_
      exact ⟨rfl, rfl⟩
    · omega
  · intro i hi ih
    refine sw_iload_n dX3_stakesTimesWeights_4 rfl ?_
    refine sw_bipush (v := nI 8) dX3_stakesTimesWeights_5 (by decide) ?_
    refine sw_aload_n dX3_stakesTimesWeights_7 rfl ?_
    refine sw_getI dX3_stakesTimesWeights_8 flX3_15 ⟨by decide, _, rfl, rfl⟩ ?_
    rw [hz]
    first | refine sw_imulN dX3_stakesTimesWeights_11 ?_ | refine sw_imul dX3_stakesTimesWeights_11 ?_
    refine sw_icmpN_ge (tgt := 37) dX3_stakesTimesWeights_12 (by decide) (by omega) (by omega) (fun hc => ?_) (fun hc => ?_)
    · omega
    · refine sw_iload_n dX3_stakesTimesWeights_15 rfl ?_
      refine sw_aload_n dX3_stakesTimesWeights_16 rfl ?_
      refine sw_getR dX3_stakesTimesWeights_17 flX3_31 ⟨by decide, _, rfl, rfl⟩ ?_
      refine sw_iload_n dX3_stakesTimesWeights_20 rfl ?_
      refine sw_iald dX3_stakesTimesWeights_21 rfl (by simp only [plA]; omega) ?_
      refine sw_aload_n dX3_stakesTimesWeights_22 rfl ?_
      refine sw_getR dX3_stakesTimesWeights_23 flX3_28 ⟨by decide, _, rfl, rfl⟩ ?_
      refine sw_iload_n dX3_stakesTimesWeights_26 rfl ?_
      refine sw_iald dX3_stakesTimesWeights_27 rfl (by simp only [plA]; omega) ?_
      first | refine sw_imulN dX3_stakesTimesWeights_28 ?_ | refine sw_imul dX3_stakesTimesWeights_28 ?_
      first | refine sw_iaddN dX3_stakesTimesWeights_29 ?_ | refine sw_iadd dX3_stakesTimesWeights_29 ?_
      refine sw_istore_n dX3_stakesTimesWeights_30 (by decide) rfl ?_
      first | refine sw_iincN (b := 1) dX3_stakesTimesWeights_31 rfl (by decide) rfl ?_ | refine sw_iinc dX3_stakesTimesWeights_31 rfl rfl (by decide) rfl ?_
      refine sw_goto (tgt := 4) dX3_stakesTimesWeights_34 (by decide) ?_
      exact ih
end TAB
end
section
/-- a row filled below i -/
def hfl (h : Hp) (q : Nat) (v : Int32) (i : Nat) : Hp := fun k => if k = q then (fun j => if j < i then v else h q j) else h k
theorem hfl_0 (h : Hp) (q : Nat) (v : Int32) : hfl h q v 0 = h := by
  funext k
  by_cases hk : k = q
  · subst hk; funext j; simp [hfl]
  · simp [hfl, hk]
theorem hfl_s (h : Hp) (q : Nat) (v : Int32) (i : Nat) : hset (hfl h q v i) q i v = hfl h q v (i + 1) := by
  funext k
  by_cases hk : k = q
  · subst hk
    funext j
    rw [hset_eq]
    by_cases hj : j = i
    · subst hj; simp [hfl]
    · by_cases h1 : j < i
      · simp [hfl, hj, h1, show j < i + 1 by omega]
      · simp [hfl, hj, h1, show ¬ j < i + 1 by omega]
  · rw [hset_off k hk]
    simp [hfl, hk]
theorem hfl_off {h : Hp} {q : Nat} {v : Int32} {i k : Nat} (hk : k ≠ q) : hfl h q v i k = h k := by simp [hfl, hk]
theorem hfl_in {h : Hp} {q : Nat} {v : Int32} {i j : Nat} (hj : j < i) : hfl h q v i q j = v := by simp [hfl, hj]
theorem c_fill {h : Hp} {q : Nat} (hq : isI q = true) (v : Int32) : Ctr jJ7_fill_53178 [.ref q, .int v] h (RetV (hfl h q v (plA q))) := by
  have hA := plA_le q
  refine ctr_start (by decide) (Nat.le_of_ble_eq_true rfl) rfl rfl ?_
  show SW jJ7_fill_53178 E0 _ 0 [some (.ref q), some (.int v), none, none] [] _
  refine sw_iconst (v := nI 0) dJ7_fill_53178_0 (by decide) ?_
  refine sw_istore_n dJ7_fill_53178_1 (by decide) rfl ?_
  refine sw_aload_n dJ7_fill_53178_2 rfl ?_
  refine sw_alen dJ7_fill_53178_3 hq rfl ?_
  refine sw_istore_n dJ7_fill_53178_4 (by decide) rfl ?_
  have key := lp_up (n := plA q) (S := fun i => SW jJ7_fill_53178 E0 (Zm (RetV (hfl h q v (plA q)))) 5 [some (.ref q), some (.int v), some (.int (nI i)), some (.int (nI (plA q)))] [] (hfl h q v i)) ?_ ?_ 0 (by omega)
  · rw [hfl_0] at key
    exact key
  · refine sw_iload_n dJ7_fill_53178_5 rfl ?_
    refine sw_iload_n dJ7_fill_53178_6 rfl ?_
    refine sw_icmpN_ge (tgt := 20) dJ7_fill_53178_7 (by decide) (by omega) (by omega) (fun hc => ?_) (fun hc => ?_)
    · refine sw_vret dJ7_fill_53178_20 rfl rfl rfl ?_
      exact ⟨rfl, rfl⟩
    · omega
  · intro i hi ih
    refine sw_iload_n dJ7_fill_53178_5 rfl ?_
    refine sw_iload_n dJ7_fill_53178_6 rfl ?_
    refine sw_icmpN_ge (tgt := 20) dJ7_fill_53178_7 (by decide) (by omega) (by omega) (fun hc => ?_) (fun hc => ?_)
    · omega
    · refine sw_aload_n dJ7_fill_53178_10 rfl ?_
      refine sw_iload_n dJ7_fill_53178_11 rfl ?_
      refine sw_iload_n dJ7_fill_53178_12 rfl ?_
      refine sw_iast dJ7_fill_53178_13 hq hi ?_
      rw [hfl_s]
      first | refine sw_iincN (b := 1) dJ7_fill_53178_14 rfl (by decide) rfl ?_ | refine sw_iinc dJ7_fill_53178_14 rfl rfl (by decide) rfl ?_
      refine sw_goto (tgt := 5) dJ7_fill_53178_17 (by decide) ?_
      exact ih
/-- the best of 0 to k -/
def bst (f : Nat → Int32) : Nat → Nat
  | 0 => 0
  | k + 1 => if f (bst f k) < f (k + 1) then k + 1 else bst f k
theorem bst_le (f : Nat → Int32) : ∀ k, bst f k ≤ k
  | 0 => Nat.le_refl _
  | k + 1 => by
    have := bst_le f k
    simp only [bst]
    split <;> omega
theorem bst_cong {f g : Nat → Int32} : ∀ {k : Nat}, (∀ i, i ≤ k → f i = g i) → bst f k = bst g k
  | 0, _ => rfl
  | k + 1, hq => by
    have ih := bst_cong (f := f) (g := g) (k := k) (fun i hi => hq i (by omega))
    have hb := bst_le g k
    simp only [bst]
    rw [ih, hq _ (show bst g k ≤ k + 1 by omega), hq (k + 1) (by omega)]
section TAB
variable {h : Hp} {n z : Nat} {sm : Nat → Nat}
abbrev stX (h : Hp) (z : Nat) (sm : Nat → Nat) (x : Nat) : Int32 := sI (fun c => h 5 (8 * c + jnt (sm c) x)) z
theorem c_bestHidden (T : TX h n z sm) : Ctr jX3_bestHidden [.ref 1] h (Ret (nI (bst (stX h z sm) (2 ^ n - 1))) h) := by
  have h64 := pow6 T.1.1
  have hpos : 0 < 2 ^ n := Nat.two_pow_pos n
  refine ctr_start (by decide) (Nat.le_of_ble_eq_true rfl) rfl rfl ?_
  show SW jX3_bestHidden E0 _ 0 [some (.ref 1), none, none, none, none] [] _
  refine sw_iconst (v := nI 0) dX3_bestHidden_0 (by decide) ?_
  refine sw_istore_n dX3_bestHidden_1 (by decide) rfl ?_
  refine sw_aload_n dX3_bestHidden_2 rfl ?_
  refine sw_iconst (v := nI 0) dX3_bestHidden_3 (by decide) ?_
  refine sw_cvi (i := 0) (c_stakeSum T hpos) dX3_bestHidden_4 lkX3_88 (by decide) ⟨by decide, _, rfl, rfl⟩ rfl rfl rfl (Nat.le_of_ble_eq_true rfl) ?_
  refine sw_istore_n dX3_bestHidden_7 (by decide) rfl ?_
  refine sw_iconst (v := nI 1) dX3_bestHidden_8 (by decide) ?_
  refine sw_istore_n dX3_bestHidden_9 (by decide) rfl ?_
  have key := lp_up (n := 2 ^ n - 1) (S := fun i => ∀ v4, SW jX3_bestHidden E0 (Zm (Ret (nI (bst (stX h z sm) (2 ^ n - 1))) h)) 10 [some (.ref 1), some (.int (nI (bst (stX h z sm) i))), some (.int (stX h z sm (bst (stX h z sm) i))), some (.int (nI (i + 1))), v4] [] h) ?_ ?_ 0 (Nat.zero_le _)
  · exact key none
  · intro v4
    refine sw_iload_n dX3_bestHidden_10 rfl ?_
    refine sw_aload_n dX3_bestHidden_11 rfl ?_
    refine sw_cvi (i := 0) (c_hiddenCount T.1.2.2.1 T.1.1) dX3_bestHidden_12 lkX3_60 (by decide) ⟨by decide, _, rfl, rfl⟩ rfl rfl rfl (Nat.le_of_ble_eq_true rfl) ?_
    refine sw_icmpN_ge (tgt := 42) dX3_bestHidden_15 (by decide) (by omega) (by omega) (fun hc => ?_) (fun hc => ?_)
    · refine sw_iload_n dX3_bestHidden_42 rfl ?_
      refine sw_iret dX3_bestHidden_43 rfl rfl rfl ?_
      exact ⟨rfl, rfl⟩
    · omega
  · intro i hi ih v4
    refine sw_iload_n dX3_bestHidden_10 rfl ?_
    refine sw_aload_n dX3_bestHidden_11 rfl ?_
    refine sw_cvi (i := 0) (c_hiddenCount T.1.2.2.1 T.1.1) dX3_bestHidden_12 lkX3_60 (by decide) ⟨by decide, _, rfl, rfl⟩ rfl rfl rfl (Nat.le_of_ble_eq_true rfl) ?_
    refine sw_icmpN_ge (tgt := 42) dX3_bestHidden_15 (by decide) (by omega) (by omega) (fun hc => ?_) (fun hc => ?_)
    · omega
    · refine sw_aload_n dX3_bestHidden_18 rfl ?_
      refine sw_iload_n dX3_bestHidden_19 rfl ?_
      refine sw_cvi (i := 0) (c_stakeSum T (x := i + 1) (by omega)) dX3_bestHidden_20 lkX3_88 (by decide) ⟨by decide, _, rfl, rfl⟩ rfl rfl rfl (Nat.le_of_ble_eq_true rfl) ?_
      have hk : okS [some (.ref 1), some (.int (nI (bst (stX h z sm) i))), some (.int (stX h z sm (bst (stX h z sm) i))), some (.int (nI (i + 1))), v4] 4 = true := rfl
      refine sw_istore dX3_bestHidden_23 (by decide) rfl ?_
      refine sw_iload dX3_bestHidden_25 rfl ?_
      refine sw_iload_n dX3_bestHidden_27 rfl ?_
      clear hc
      refine sw_icmp_le (tgt := 36) dX3_bestHidden_28 (by decide) (fun hc => ?_) (fun hc => ?_)
      · have e : bst (stX h z sm) (i + 1) = bst (stX h z sm) i := by
          simp only [bst]
          rw [if_neg (Int32.not_lt.mpr hc)]
        rw [e] at ih
        first | refine sw_iincN (b := 1) dX3_bestHidden_36 rfl (by decide) rfl ?_ | refine sw_iinc dX3_bestHidden_36 rfl rfl (by decide) rfl ?_
        refine sw_goto (tgt := 10) dX3_bestHidden_39 (by decide) ?_
        exact ih _
      · have e : bst (stX h z sm) (i + 1) = i + 1 := by
          simp only [bst]
          rw [if_pos (Int32.not_le.mp hc)]
        rw [e] at ih
        refine sw_iload_n dX3_bestHidden_31 rfl ?_
        refine sw_istore_n dX3_bestHidden_32 (by decide) rfl ?_
        refine sw_iload dX3_bestHidden_33 rfl ?_
        refine sw_istore_n dX3_bestHidden_35 (by decide) rfl ?_
        first | refine sw_iincN (b := 1) dX3_bestHidden_36 rfl (by decide) rfl ?_ | refine sw_iinc dX3_bestHidden_36 rfl rfl (by decide) rfl ?_
        refine sw_goto (tgt := 10) dX3_bestHidden_39 (by decide) ?_
        exact ih _
def ffB (h : Hp) (z : Nat) (sm : Nat → Nat) (x : Nat) : Bool := allB (fun c => decide (h 3 c = -4 ∨ nI (pop (x &&& sm c) % 2) = h 3 c)) z
theorem c_isFulfilledBy (T : TX h n z sm) {x : Nat} (hx : x < 2 ^ n) : Ctr jX3_isFulfilledBy [.ref 1, .int (nI x)] h (Ret (bI (ffB h z sm x)) h) := by
  have hz8 := T.1.2.1
  have hz := T.1.2.2.2
  have h64 := pow6 T.1.1
  refine ctr_start (by decide) (Nat.le_of_ble_eq_true rfl) rfl rfl ?_
  show SW jX3_isFulfilledBy E0 _ 0 [some (.ref 1), some (.int (nI x)), none] [] _
  refine sw_iconst (v := nI 0) dX3_isFulfilledBy_0 (by decide) ?_
  refine sw_istore_n dX3_isFulfilledBy_1 (by decide) rfl ?_
  refine lp_up (n := z) (S := fun i => ffB h i sm x = true → SW jX3_isFulfilledBy E0 (Zm (Ret (bI (ffB h z sm x)) h)) 2 [some (.ref 1), some (.int (nI x)), some (.int (nI i))] [] h) ?_ ?_ 0 (by omega) rfl
  · intro ha
    refine sw_iload_n dX3_isFulfilledBy_2 rfl ?_
    refine sw_aload_n dX3_isFulfilledBy_3 rfl ?_
    refine sw_getI dX3_isFulfilledBy_4 flX3_15 ⟨by decide, _, rfl, rfl⟩ ?_
    rw [hz]
    refine sw_icmpN_ge (tgt := 51) dX3_isFulfilledBy_7 (by decide) (by omega) (by omega) (fun hc => ?_) (fun hc => ?_)
    · refine sw_iconst (v := nI 1) dX3_isFulfilledBy_51 (by decide) ?_
      refine sw_zret dX3_isFulfilledBy_52 rfl rfl rfl rfl ?_
      exact ⟨by rw [ha]; rfl, rfl⟩
    · omega
  · intro i hi ih ha
    have hs := (T.2.1 i hi).1
    have hand : x &&& sm i ≤ x := Nat.and_le_left
    refine sw_iload_n dX3_isFulfilledBy_2 rfl ?_
    refine sw_aload_n dX3_isFulfilledBy_3 rfl ?_
    refine sw_getI dX3_isFulfilledBy_4 flX3_15 ⟨by decide, _, rfl, rfl⟩ ?_
    rw [hz]
    refine sw_icmpN_ge (tgt := 51) dX3_isFulfilledBy_7 (by decide) (by omega) (by omega) (fun hc => ?_) (fun hc => ?_)
    · omega
    · refine sw_aload_n dX3_isFulfilledBy_10 rfl ?_
      refine sw_getR dX3_isFulfilledBy_11 flX3_25 ⟨by decide, _, rfl, rfl⟩ ?_
      refine sw_iload_n dX3_isFulfilledBy_14 rfl ?_
      refine sw_iald dX3_isFulfilledBy_15 rfl (by simp only [plA]; omega) ?_
      refine sw_bipush (v := (-4)) dX3_isFulfilledBy_16 (by decide) ?_
      clear hc
      refine sw_icmp_eq (tgt := 45) dX3_isFulfilledBy_18 (by decide) (fun hc => ?_) (fun hc => ?_)
      · first | refine sw_iincN (b := 1) dX3_isFulfilledBy_45 rfl (by decide) rfl ?_ | refine sw_iinc dX3_isFulfilledBy_45 rfl rfl (by decide) rfl ?_
        refine sw_goto (tgt := 2) dX3_isFulfilledBy_48 (by decide) ?_
        exact ih (by unfold ffB at ha ⊢; simp only [allB, ha, Bool.true_and]; exact decide_eq_true (Or.inl hc))
      · have hc0 := hc
        clear hc
        refine sw_iload_n dX3_isFulfilledBy_21 rfl ?_
        refine sw_aload_n dX3_isFulfilledBy_22 rfl ?_
        refine sw_getR dX3_isFulfilledBy_23 flX3_21 ⟨by decide, _, rfl, rfl⟩ ?_
        refine sw_iload_n dX3_isFulfilledBy_26 rfl ?_
        refine sw_iald dX3_isFulfilledBy_27 rfl (by simp only [plA]; omega) ?_
        rw [hs]
        first | refine sw_iandN dX3_isFulfilledBy_28 ?_ | refine sw_iand dX3_isFulfilledBy_28 ?_
        refine sw_csi (c_bitCount (by omega)) dX3_isFulfilledBy_29 lkX3_55 (by decide) rfl rfl (Nat.le_of_ble_eq_true rfl) ?_
        refine sw_iconst (v := nI 1) dX3_isFulfilledBy_32 (by decide) ?_
        first | refine sw_iand1 dX3_isFulfilledBy_33 ?_ | refine sw_iand dX3_isFulfilledBy_33 ?_
        refine sw_aload_n dX3_isFulfilledBy_34 rfl ?_
        refine sw_getR dX3_isFulfilledBy_35 flX3_25 ⟨by decide, _, rfl, rfl⟩ ?_
        refine sw_iload_n dX3_isFulfilledBy_38 rfl ?_
        refine sw_iald dX3_isFulfilledBy_39 rfl (by simp only [plA]; omega) ?_
        refine sw_icmp_eq (tgt := 45) dX3_isFulfilledBy_40 (by decide) (fun hc => ?_) (fun hc => ?_)
        · first | refine sw_iincN (b := 1) dX3_isFulfilledBy_45 rfl (by decide) rfl ?_ | refine sw_iinc dX3_isFulfilledBy_45 rfl rfl (by decide) rfl ?_
          refine sw_goto (tgt := 2) dX3_isFulfilledBy_48 (by decide) ?_
          exact ih (by unfold ffB at ha ⊢; simp only [allB, ha, Bool.true_and]; exact decide_eq_true (Or.inr hc))
        · refine sw_iconst (v := nI 0) dX3_isFulfilledBy_43 (by decide) ?_
          refine sw_zret dX3_isFulfilledBy_44 rfl rfl rfl rfl ?_
          exact ⟨by unfold ffB; rw [allB_f hi (decide_eq_false (fun q => q.elim hc0 hc))]; rfl, rfl⟩
/-- a place's PARITY as a number, where there is one -/
def pN (v : Int32) : Nat := if v = 1 then 1 else 0
def okP (v : Int32) : Prop := v = 0 ∨ v = 1 ∨ v = -4
theorem pN_of {v : Int32} (h : okP v) (h4 : ¬ v = -4) : v = nI (pN v) := by
  rcases h with rfl | rfl | rfl
  · decide
  · decide
  · exact absurd rfl h4
theorem pN_le (v : Int32) : pN v ≤ 1 := by unfold pN; split <;> omega
def xrN (sm : Nat → Nat) (m : Nat) : Nat → Nat
  | 0 => 0
  | c + 1 => if m / 2 ^ c % 2 = 1 then xrN sm m c ^^^ sm c else xrN sm m c
def psN (p : Nat → Int32) (m : Nat) : Nat → Nat
  | 0 => 0
  | c + 1 => if m / 2 ^ c % 2 = 1 then psN p m c + pN (p c) else psN p m c
theorem psN_le (p : Nat → Int32) (m : Nat) : ∀ c, psN p m c ≤ c
  | 0 => Nat.le_refl _
  | c + 1 => by
    have := psN_le p m c
    have h2 := pN_le (p c)
    simp only [psN]
    split <;> omega
def okN (p : Nat → Int32) (m z : Nat) : Bool := allB (fun c => decide (m / 2 ^ c % 2 = 1 → ¬ p c = -4)) z
def prB (p : Nat → Int32) (sm : Nat → Nat) (m z : Nat) : Bool := okN p m z && decide (xrN sm m z = 0) && decide (psN p m z % 2 = 1)
theorem xrN_lt {sm : Nat → Nat} {m : Nat} : ∀ {z : Nat}, (∀ c, c < z → sm c < 64) → xrN sm m z < 64
  | 0, _ => by simp [xrN]
  | c + 1, hs => by
    have ih := xrN_lt (sm := sm) (m := m) (z := c) (fun k hk => hs k (by omega))
    simp only [xrN]
    split
    · exact Nat.xor_lt_two_pow (n := 6) ih (hs c (by omega))
    · exact ih
theorem c_isProof (T : TX h n z sm) (hP : ∀ c, c < z → okP (h 3 c)) {m : Nat} (hm : m < 256) : Ctr jX3_isProof [.ref 1, .int (nI m)] h (Ret (bI (prB (h 3) sm m z)) h) := by
  have hz8 := T.1.2.1
  have hz := T.1.2.2.2
  refine ctr_start (by decide) (Nat.le_of_ble_eq_true rfl) rfl rfl ?_
  show SW jX3_isProof E0 _ 0 [some (.ref 1), some (.int (nI m)), none, none, none] [] _
  refine sw_iconst (v := nI 0) dX3_isProof_0 (by decide) ?_
  refine sw_istore_n dX3_isProof_1 (by decide) rfl ?_
  refine sw_iconst (v := nI 0) dX3_isProof_2 (by decide) ?_
  refine sw_istore_n dX3_isProof_3 (by decide) rfl ?_
  refine sw_iconst (v := nI 0) dX3_isProof_4 (by decide) ?_
  refine sw_istore dX3_isProof_5 (by decide) rfl ?_
  refine lp_up (n := z) (S := fun i => okN (h 3) m i = true → SW jX3_isProof E0 (Zm (Ret (bI (prB (h 3) sm m z)) h)) 7 [some (.ref 1), some (.int (nI m)), some (.int (nI (xrN sm m i))), some (.int (nI (psN (h 3) m i))), some (.int (nI i))] [] h) ?_ ?_ 0 (by omega) rfl
  · intro ha
    have hxr := xrN_lt (sm := sm) (m := m) (z := z) (fun c hc => T.s64 hc)
    have hps := psN_le (h 3) m z
    refine sw_iload dX3_isProof_7 rfl ?_
    refine sw_aload_n dX3_isProof_9 rfl ?_
    refine sw_getI dX3_isProof_10 flX3_15 ⟨by decide, _, rfl, rfl⟩ ?_
    rw [hz]
    refine sw_icmpN_ge (tgt := 66) dX3_isProof_13 (by decide) (by omega) (by omega) (fun hc => ?_) (fun hc => ?_)
    · refine sw_iload_n dX3_isProof_66 rfl ?_
      clear hc
      refine sw_if_ne (tgt := 81) dX3_isProof_67 (by decide) (fun hc => ?_) (fun hc => ?_)
      · have hx : ¬ xrN sm m z = 0 := fun q => hc (by rw [q]; rfl)
        refine sw_iconst (v := nI 0) dX3_isProof_81 (by decide) ?_
        refine sw_zret dX3_isProof_82 rfl rfl rfl rfl ?_
        exact ⟨by unfold prB; rw [decide_eq_false hx, Bool.and_false, Bool.false_and]; rfl, rfl⟩
      · have hx : xrN sm m z = 0 := by
          have := (nI_eq (a := xrN sm m z) (b := 0) (by omega) (by omega)).mp hc
          exact this
        clear hc
        refine sw_iload_n dX3_isProof_70 rfl ?_
        refine sw_iconst (v := nI 1) dX3_isProof_71 (by decide) ?_
        first | refine sw_iand1 dX3_isProof_72 ?_ | refine sw_iand dX3_isProof_72 ?_
        refine sw_iconst (v := nI 1) dX3_isProof_73 (by decide) ?_
        refine sw_icmpN_ne (tgt := 81) dX3_isProof_74 (by decide) (by omega) (by omega) (fun hc => ?_) (fun hc => ?_)
        · refine sw_iconst (v := nI 0) dX3_isProof_81 (by decide) ?_
          refine sw_zret dX3_isProof_82 rfl rfl rfl rfl ?_
          exact ⟨by unfold prB; rw [decide_eq_false hc, Bool.and_false]; rfl, rfl⟩
        · refine sw_iconst (v := nI 1) dX3_isProof_77 (by decide) ?_
          refine sw_goto (tgt := 82) dX3_isProof_78 (by decide) ?_
          refine sw_zret dX3_isProof_82 rfl rfl rfl rfl ?_
          exact ⟨by unfold prB; rw [ha, decide_eq_true hx, decide_eq_true hc]; rfl, rfl⟩
    · omega
  · intro i hi ih ha
    have hs := (T.2.1 i hi).1
    refine sw_iload dX3_isProof_7 rfl ?_
    refine sw_aload_n dX3_isProof_9 rfl ?_
    refine sw_getI dX3_isProof_10 flX3_15 ⟨by decide, _, rfl, rfl⟩ ?_
    rw [hz]
    refine sw_icmpN_ge (tgt := 66) dX3_isProof_13 (by decide) (by omega) (by omega) (fun hc => ?_) (fun hc => ?_)
    · omega
    · clear hc
      refine sw_iload_n dX3_isProof_16 rfl ?_
      refine sw_iload dX3_isProof_17 rfl ?_
      first | refine sw_ishrN dX3_isProof_19 (by omega) (by omega) ?_ | refine sw_ishr dX3_isProof_19 ?_
      refine sw_iconst (v := nI 1) dX3_isProof_20 (by decide) ?_
      first | refine sw_iand1 dX3_isProof_21 ?_ | refine sw_iand dX3_isProof_21 ?_
      refine sw_iconst (v := nI 1) dX3_isProof_22 (by decide) ?_
      refine sw_icmpN_ne (tgt := 60) dX3_isProof_23 (by decide) (by omega) (by omega) (fun hc => ?_) (fun hc => ?_)
      · have e1 : xrN sm m (i + 1) = xrN sm m i := by simp only [xrN, if_neg hc]
        have e2 : psN (h 3) m (i + 1) = psN (h 3) m i := by simp only [psN, if_neg hc]
        rw [e1, e2] at ih
        first | refine sw_iincN (b := 1) dX3_isProof_60 rfl (by decide) rfl ?_ | refine sw_iinc dX3_isProof_60 rfl rfl (by decide) rfl ?_
        refine sw_goto (tgt := 7) dX3_isProof_63 (by decide) ?_
        exact ih (by unfold okN at ha ⊢; simp only [allB, ha, Bool.true_and]; exact decide_eq_true (fun q => absurd q hc))
      · have hb := hc
        clear hc
        refine sw_aload_n dX3_isProof_26 rfl ?_
        refine sw_getR dX3_isProof_27 flX3_25 ⟨by decide, _, rfl, rfl⟩ ?_
        refine sw_iload dX3_isProof_30 rfl ?_
        refine sw_iald dX3_isProof_32 rfl (by simp only [plA]; omega) ?_
        refine sw_bipush (v := (-4)) dX3_isProof_33 (by decide) ?_
        refine sw_icmp_ne (tgt := 40) dX3_isProof_35 (by decide) (fun hc => ?_) (fun hc => ?_)
        · have e1 : xrN sm m (i + 1) = xrN sm m i ^^^ sm i := by simp only [xrN, if_pos hb]
          have e2 : psN (h 3) m (i + 1) = psN (h 3) m i + pN (h 3 i) := by simp only [psN, if_pos hb]
          rw [e1, e2] at ih
          have hpv := pN_of (hP i hi) hc
          refine sw_iload_n dX3_isProof_40 rfl ?_
          refine sw_aload_n dX3_isProof_41 rfl ?_
          refine sw_getR dX3_isProof_42 flX3_21 ⟨by decide, _, rfl, rfl⟩ ?_
          refine sw_iload dX3_isProof_45 rfl ?_
          refine sw_iald dX3_isProof_47 rfl (by simp only [plA]; omega) ?_
          rw [hs]
          first | refine sw_ixorN dX3_isProof_48 ?_ | refine sw_ixor dX3_isProof_48 ?_
          refine sw_istore_n dX3_isProof_49 (by decide) rfl ?_
          refine sw_iload_n dX3_isProof_50 rfl ?_
          refine sw_aload_n dX3_isProof_51 rfl ?_
          refine sw_getR dX3_isProof_52 flX3_25 ⟨by decide, _, rfl, rfl⟩ ?_
          refine sw_iload dX3_isProof_55 rfl ?_
          refine sw_iald dX3_isProof_57 rfl (by simp only [plA]; omega) ?_
          rw [hpv]
          first | refine sw_iaddN dX3_isProof_58 ?_ | refine sw_iadd dX3_isProof_58 ?_
          refine sw_istore_n dX3_isProof_59 (by decide) rfl ?_
          first | refine sw_iincN (b := 1) dX3_isProof_60 rfl (by decide) rfl ?_ | refine sw_iinc dX3_isProof_60 rfl rfl (by decide) rfl ?_
          refine sw_goto (tgt := 7) dX3_isProof_63 (by decide) ?_
          exact ih (by unfold okN at ha ⊢; simp only [allB, ha, Bool.true_and]; exact decide_eq_true (fun _ => hc))
        · refine sw_iconst (v := nI 0) dX3_isProof_38 (by decide) ?_
          refine sw_zret dX3_isProof_39 rfl rfl rfl rfl ?_
          exact ⟨by unfold prB okN; rw [allB_f hi (decide_eq_false (fun q => q hb hc)), Bool.false_and, Bool.false_and]; rfl, rfl⟩
end TAB
end
section
theorem dp_lt (s j : Nat) : ∀ k, dp s j k < 2 ^ k
  | 0 => by simp [dp]
  | k + 1 => by
    have ih := dp_lt s j k
    have h2 : j / 2 ^ bs s k % 2 < 2 := Nat.mod_lt _ (by omega)
    simp only [dp]
    rw [Nat.pow_succ]
    split
    · have : j / 2 ^ bs s k % 2 * 2 ^ k ≤ 1 * 2 ^ k := Nat.mul_le_mul_right _ (by omega)
      omega
    · omega
theorem hset_sw {h : Hp} {k i : Nat} {v : Int32} {a : Nat} (ha : a ≠ k) : hset h k i v a = h a := hset_off a ha
/-- what the sums get of a set's weights, at a, of its first m joints -/
def sA (w : Nat → Int32) (sg : Int32) (s b c a : Nat) (m : Nat) : Int32 := sI (fun j => if dp s j 6 &&& b = a then sg * w (8 * c + j) else 0) m
theorem TX_keep {h g : Hp} {n z : Nat} {sm : Nat → Nat} (T : TX h n z sm) (e1 : g 1 = h 1) (e2 : g 2 = h 2) (e6 : g 6 = h 6) (e7 : g 7 = h 7) : TX g n z sm := by
  unfold TX at T ⊢
  rw [e1, e2, e6, e7]
  exact T
section TAB
variable {h : Hp} {n z : Nat} {sm : Nat → Nat}
/-- all but cell q is as it was -/
def Sam (q : Nat) (h g : Hp) : Prop := ∀ k, k ≠ q → g k = h k
theorem Sam.rf {q : Nat} {h : Hp} : Sam q h h := fun _ _ => rfl
theorem Sam.set {q : Nat} {h g : Hp} {i : Nat} {v : Int32} (s : Sam q h g) : Sam q h (hset g q i v) := fun k hk => by rw [hset_off k hk]; exact s k hk
theorem Sam.tr {q : Nat} {h g f : Hp} (s : Sam q h g) (s2 : Sam q g f) : Sam q h f := fun k hk => (s2 k hk).trans (s k hk)
theorem Sam.T {q : Nat} {g : Hp} (s : Sam q h g) (hq : q ≠ 1 ∧ q ≠ 2 ∧ q ≠ 6 ∧ q ≠ 7) (T : TX h n z sm) : TX g n z sm := TX_keep T (s 1 (Ne.symm hq.1)) (s 2 (Ne.symm hq.2.1)) (s 6 (Ne.symm hq.2.2.1)) (s 7 (Ne.symm hq.2.2.2))
theorem c_addToSums (T : TX h n z sm) {c b : Nat} (hc : c < z) (hb : b < 64) (sg : Int32) : Ctr jX3_addToSums [.ref 1, .int (nI c), .int (nI b), .int sg] h (fun v g => v = none ∧ Sam 8 h g ∧ ∀ a, g 8 a = h 8 a + sA (h 4) sg (sm c) b c a (2 ^ pop (sm c))) := by
  have hz8 := T.1.2.1
  have hp := pow3 (T.2.1 c hc).2.2.2
  have hcc := hc
  clear hc
  refine ctr_start (by decide) (Nat.le_of_ble_eq_true rfl) rfl rfl ?_
  show SW jX3_addToSums E0 _ 0 [some (.ref 1), some (.int (nI c)), some (.int (nI b)), some (.int sg), none, none] [] _
  refine sw_iconst (v := nI 0) dX3_addToSums_0 (by decide) ?_
  refine sw_istore dX3_addToSums_1 (by decide) rfl ?_
  have key := lp_up (n := 2 ^ pop (sm c)) (S := fun i => ∀ (g : Hp) (v5 : Option Value), Sam 8 h g → (∀ a, g 8 a = h 8 a + sA (h 4) sg (sm c) b c a i) → SW jX3_addToSums E0 (Zm (fun v g => v = none ∧ Sam 8 h g ∧ ∀ a, g 8 a = h 8 a + sA (h 4) sg (sm c) b c a (2 ^ pop (sm c)))) 3 [some (.ref 1), some (.int (nI c)), some (.int (nI b)), some (.int sg), some (.int (nI i)), v5] [] g) ?_ ?_ 0 (Nat.zero_le _)
  · exact key h none Sam.rf (fun a => by simp [sA, sI])
  · intro g v5 hS hg
    refine sw_iload dX3_addToSums_3 rfl ?_
    refine sw_aload_n dX3_addToSums_5 rfl ?_
    refine sw_iload_n dX3_addToSums_6 rfl ?_
    refine sw_cvi (i := 0) (c_jointCount (hS.T (by decide) T) hcc) dX3_addToSums_7 lkX3_51 (by decide) ⟨by decide, _, rfl, rfl⟩ rfl rfl rfl (Nat.le_of_ble_eq_true rfl) ?_
    refine sw_icmpN_ge (tgt := 54) dX3_addToSums_10 (by decide) (by omega) (by omega) (fun hc => ?_) (fun hc => ?_)
    · refine sw_vret dX3_addToSums_54 rfl rfl rfl ?_
      exact ⟨rfl, hS, hg⟩
    · omega
  · intro i hi ih g v5 hS hg
    have T' := hS.T (by decide) T
    refine sw_iload dX3_addToSums_3 rfl ?_
    refine sw_aload_n dX3_addToSums_5 rfl ?_
    refine sw_iload_n dX3_addToSums_6 rfl ?_
    refine sw_cvi (i := 0) (c_jointCount T' hcc) dX3_addToSums_7 lkX3_51 (by decide) ⟨by decide, _, rfl, rfl⟩ rfl rfl rfl (Nat.le_of_ble_eq_true rfl) ?_
    refine sw_icmpN_ge (tgt := 54) dX3_addToSums_10 (by decide) (by omega) (by omega) (fun hc => ?_) (fun hc => ?_)
    · omega
    · have hd := dp_lt (sm c) i 6
      have hda : dp (sm c) i 6 &&& b ≤ b := Nat.and_le_right
      refine sw_bipush (v := nI 8) dX3_addToSums_13 (by decide) ?_
      refine sw_iload_n dX3_addToSums_15 rfl ?_
      first | refine sw_imulN dX3_addToSums_16 ?_ | refine sw_imul dX3_addToSums_16 ?_
      refine sw_iload dX3_addToSums_17 rfl ?_
      first | refine sw_iaddN dX3_addToSums_19 ?_ | refine sw_iadd dX3_addToSums_19 ?_
      refine sw_istore dX3_addToSums_20 (by decide) rfl ?_
      refine sw_aload_n dX3_addToSums_22 rfl ?_
      refine sw_getR dX3_addToSums_23 flX3_40 ⟨by decide, _, rfl, rfl⟩ ?_
      refine sw_aload_n dX3_addToSums_26 rfl ?_
      refine sw_getR dX3_addToSums_27 flX3_34 ⟨by decide, _, rfl, rfl⟩ ?_
      refine sw_iload dX3_addToSums_30 rfl ?_
      refine sw_iald dX3_addToSums_32 rfl (by simp only [plA]; omega) ?_
      rw [T'.2.2.2 c i hcc hi]
      refine sw_iload_n dX3_addToSums_33 rfl ?_
      first | refine sw_iandN dX3_addToSums_34 ?_ | refine sw_iand dX3_addToSums_34 ?_
      refine sw_dup2 dX3_addToSums_35 rfl rfl ?_
      refine sw_iald dX3_addToSums_36 rfl (by simp only [plA]; omega) ?_
      refine sw_iload_n dX3_addToSums_37 rfl ?_
      refine sw_aload_n dX3_addToSums_38 rfl ?_
      refine sw_getR dX3_addToSums_39 flX3_28 ⟨by decide, _, rfl, rfl⟩ ?_
      refine sw_iload dX3_addToSums_42 rfl ?_
      refine sw_iald dX3_addToSums_44 rfl (by simp only [plA]; omega) ?_
      rw [hS 4 (by decide)]
      first | refine sw_imulN dX3_addToSums_45 ?_ | refine sw_imul dX3_addToSums_45 ?_
      first | refine sw_iaddN dX3_addToSums_46 ?_ | refine sw_iadd dX3_addToSums_46 ?_
      refine sw_iast dX3_addToSums_47 rfl (by simp only [plA]; omega) ?_
      first | refine sw_iincN (b := 1) dX3_addToSums_48 rfl (by decide) rfl ?_ | refine sw_iinc dX3_addToSums_48 rfl rfl (by decide) rfl ?_
      refine sw_goto (tgt := 3) dX3_addToSums_51 (by decide) ?_
      refine ih _ _ hS.set (fun a => ?_)
      simp only [sA, sI]
      rw [hset_eq]
      by_cases ha : dp (sm c) i 6 &&& b = a
      · rw [if_pos ⟨rfl, ha.symm⟩, if_pos ha, hg, ha]
        simp only [sA]
        rw [Int32.add_assoc]
      · rw [if_neg (fun q => ha q.2.symm), if_neg ha, hg]
        simp [sA]
abbrev SAf (h : Hp) (sm : Nat → Nat) (c d a : Nat) : Int32 := 0 + sA (h 4) 1 (sm c) (sm c &&& sm d) c a (2 ^ pop (sm c)) + sA (h 4) (-1) (sm d) (sm c &&& sm d) d a (2 ^ pop (sm d))
def uX (h : Hp) (sm : Nat → Nat) (c d : Nat) : Bool := !allB (fun a => decide (SAf h sm c d a = 0)) 64
theorem c_areUnlike (T : TX h n z sm) {c d : Nat} (hc : c < z) (hd : d < z) : Ctr jX3_areUnlike [.ref 1, .int (nI c), .int (nI d)] h (fun v g => v = some (.int (bI (uX h sm c d))) ∧ Sam 8 h g) := by
  have hz8 := T.1.2.1
  have hb : sm c &&& sm d < 64 := Nat.lt_of_le_of_lt Nat.and_le_left (T.s64 hc)
  have s1 := (T.2.1 c hc).1
  have s2 := (T.2.1 d hd).1
  refine ctr_start (by decide) (Nat.le_of_ble_eq_true rfl) rfl rfl ?_
  show SW jX3_areUnlike E0 _ 0 [some (.ref 1), some (.int (nI c)), some (.int (nI d)), none, none, none, none, none] [] _
  refine sw_aload_n dX3_areUnlike_0 rfl ?_
  refine sw_getR dX3_areUnlike_1 flX3_21 ⟨by decide, _, rfl, rfl⟩ ?_
  refine sw_iload_n dX3_areUnlike_4 rfl ?_
  refine sw_iald dX3_areUnlike_5 rfl (by simp only [plA]; omega) ?_
  rw [s1]
  refine sw_aload_n dX3_areUnlike_6 rfl ?_
  refine sw_getR dX3_areUnlike_7 flX3_21 ⟨by decide, _, rfl, rfl⟩ ?_
  refine sw_iload_n dX3_areUnlike_10 rfl ?_
  refine sw_iald dX3_areUnlike_11 rfl (by simp only [plA]; omega) ?_
  rw [s2]
  first | refine sw_iandN dX3_areUnlike_12 ?_ | refine sw_iand dX3_areUnlike_12 ?_
  refine sw_istore_n dX3_areUnlike_13 (by decide) rfl ?_
  refine sw_aload_n dX3_areUnlike_14 rfl ?_
  refine sw_getR dX3_areUnlike_15 flX3_40 ⟨by decide, _, rfl, rfl⟩ ?_
  refine sw_iconst (v := nI 0) dX3_areUnlike_18 (by decide) ?_
  refine sw_csv (c_fill (q := 8) rfl (nI 0)) dX3_areUnlike_19 lkX3_68 (by decide) rfl rfl (Nat.le_of_ble_eq_true rfl) ?_
  have hS1 : Sam 8 h (hfl h 8 (nI 0) (plA 8)) := fun k hk => hfl_off hk
  have T1 := hS1.T (by decide) T
  refine sw_aload_n dX3_areUnlike_22 rfl ?_
  refine sw_iload_n dX3_areUnlike_23 rfl ?_
  refine sw_iload_n dX3_areUnlike_24 rfl ?_
  refine sw_iconst (v := nI 1) dX3_areUnlike_25 (by decide) ?_
  refine sw_callV (i := 0) (c_addToSums T1 hc hb (nI 1)) dX3_areUnlike_26 lkX3_81 (by decide) ⟨by decide, _, rfl, rfl⟩ rfl rfl rfl (Nat.le_of_ble_eq_true rfl) (fun v h1 hq => ?_)
  obtain ⟨rfl, hS2, hg2⟩ := hq
  have T2 := hS2.T (by decide) T1
  refine sw_aload_n dX3_areUnlike_29 rfl ?_
  refine sw_iload_n dX3_areUnlike_30 rfl ?_
  refine sw_iload_n dX3_areUnlike_31 rfl ?_
  refine sw_iconst (v := (-1)) dX3_areUnlike_32 (by decide) ?_
  refine sw_callV (i := 0) (c_addToSums T2 hd hb (-1)) dX3_areUnlike_33 lkX3_81 (by decide) ⟨by decide, _, rfl, rfl⟩ rfl rfl rfl (Nat.le_of_ble_eq_true rfl) (fun v h1 hq => ?_)
  obtain ⟨rfl, hS3, hg3⟩ := hq
  have hfin : ∀ a, a < 64 → h1 8 a = SAf h sm c d a := fun a ha => by
    rw [hg3, hg2, hfl_in (show a < plA 8 from ha), hS2 4 (by decide), hS1 4 (by decide)]
    rfl
  have hSf : Sam 8 h h1 := (hS1.tr hS2).tr hS3
  clear hg3 hg2 hS3 hS2
  refine sw_aload_n dX3_areUnlike_36 rfl ?_
  refine sw_getR dX3_areUnlike_37 flX3_40 ⟨by decide, _, rfl, rfl⟩ ?_
  refine sw_astore dX3_areUnlike_40 (by decide) rfl ?_
  refine sw_aload dX3_areUnlike_42 rfl ?_
  refine sw_alen dX3_areUnlike_44 rfl rfl ?_
  refine sw_istore dX3_areUnlike_45 (by decide) rfl ?_
  refine sw_iconst (v := nI 0) dX3_areUnlike_47 (by decide) ?_
  refine sw_istore dX3_areUnlike_48 (by decide) rfl ?_
  have key := lp_up (n := 64) (S := fun i => allB (fun a => decide (SAf h sm c d a = 0)) i = true → ∀ v7, SW jX3_areUnlike E0 (Zm (fun v g => v = some (.int (bI (uX h sm c d))) ∧ Sam 8 h g)) 50 [some (.ref 1), some (.int (nI c)), some (.int (nI d)), some (.int (nI (sm c &&& sm d))), some (.ref 8), some (.int (nI 64)), some (.int (nI i)), v7] [] h1) ?_ ?_ 0 (by omega) rfl none
  · exact key
  · intro ha v7
    refine sw_iload dX3_areUnlike_50 rfl ?_
    refine sw_iload dX3_areUnlike_52 rfl ?_
    refine sw_icmpN_ge (tgt := 77) dX3_areUnlike_54 (by decide) (by omega) (by omega) (fun hc => ?_) (fun hc => ?_)
    · refine sw_iconst (v := nI 0) dX3_areUnlike_77 (by decide) ?_
      refine sw_zret dX3_areUnlike_78 rfl rfl rfl rfl ?_
      exact ⟨by unfold uX; rw [ha]; rfl, hSf⟩
    · omega
  · intro i hi ih ha v7
    refine sw_iload dX3_areUnlike_50 rfl ?_
    refine sw_iload dX3_areUnlike_52 rfl ?_
    refine sw_icmpN_ge (tgt := 77) dX3_areUnlike_54 (by decide) (by omega) (by omega) (fun hc => ?_) (fun hc => ?_)
    · omega
    · clear hc
      refine sw_aload dX3_areUnlike_57 rfl ?_
      refine sw_iload dX3_areUnlike_59 rfl ?_
      refine sw_iald dX3_areUnlike_61 rfl (by simp only [plA]; omega) ?_
      rw [hfin i hi]
      refine sw_istore dX3_areUnlike_62 (by decide) rfl ?_
      refine sw_iload dX3_areUnlike_64 rfl ?_
      refine sw_if_eq (tgt := 71) dX3_areUnlike_66 (by decide) (fun hc => ?_) (fun hc => ?_)
      · first | refine sw_iincN (b := 1) dX3_areUnlike_71 rfl (by decide) rfl ?_ | refine sw_iinc dX3_areUnlike_71 rfl rfl (by decide) rfl ?_
        refine sw_goto (tgt := 50) dX3_areUnlike_74 (by decide) ?_
        exact ih (by simp only [allB, ha, Bool.true_and]; exact decide_eq_true hc) _
      · refine sw_iconst (v := nI 1) dX3_areUnlike_69 (by decide) ?_
        refine sw_zret dX3_areUnlike_70 rfl rfl rfl rfl ?_
        exact ⟨by unfold uX; rw [allB_f hi (decide_eq_false hc)]; rfl, hSf⟩
/-- the first pair, row by row -/
def fqI (u : Nat → Nat → Bool) (c : Nat) : Nat → Nat → Option Int32
  | 0, _ => none
  | m + 1, d => if u c d then some (nI (8 * c + d)) else fqI u c m (d + 1)
def fqO (u : Nat → Nat → Bool) (z : Nat) : Nat → Nat → Int32
  | 0, _ => -4
  | m + 1, c => match fqI u c (z - (c + 1)) (c + 1) with
    | some v => v
    | none => fqO u z m (c + 1)
def fq (u : Nat → Nat → Bool) (z : Nat) : Int32 := fqO u z z 0
theorem fqI_cong {u w : Nat → Nat → Bool} {c z : Nat} : ∀ (m d : Nat), (∀ k, d ≤ k → k < d + m → u c k = w c k) → fqI u c m d = fqI w c m d
  | 0, _, _ => rfl
  | m + 1, d, hh => by
    simp only [fqI]
    rw [hh d (by omega) (by omega), fqI_cong (z := z) m (d + 1) (fun k h1 h2 => hh k (by omega) (by omega))]
theorem fqO_cong {u w : Nat → Nat → Bool} {z : Nat} (hu : ∀ c d, c < z → d < z → c < d → u c d = w c d) : ∀ (m c : Nat), m + c ≤ z → fqO u z m c = fqO w z m c
  | 0, _, _ => rfl
  | m + 1, c, h => by
    simp only [fqO]
    rw [fqI_cong (z := z) (z - (c + 1)) (c + 1) (fun k h1 h2 => hu c k (by omega) (by omega) (by omega)), fqO_cong hu m (c + 1) (by omega)]
theorem fq_cong {u w : Nat → Nat → Bool} {z : Nat} (hu : ∀ c d, c < z → d < z → c < d → u c d = w c d) : fq u z = fq w z := fqO_cong hu z 0 (by omega)
theorem uX_keep {g : Hp} (hS : Sam 8 h g) (c d : Nat) : uX g sm c d = uX h sm c d := by
  unfold uX SAf
  rw [hS 4 (by decide)]
theorem c_firstQuarrel (T : TX h n z sm) : Ctr jX3_firstQuarrel [.ref 1] h (fun v g => v = some (.int (fq (uX h sm) z)) ∧ Sam 8 h g) := by
  have hz8 := T.1.2.1
  refine ctr_start (by decide) (Nat.le_of_ble_eq_true rfl) rfl rfl ?_
  show SW jX3_firstQuarrel E0 _ 0 [some (.ref 1), none, none] [] _
  refine sw_iconst (v := nI 0) dX3_firstQuarrel_0 (by decide) ?_
  refine sw_istore_n dX3_firstQuarrel_1 (by decide) rfl ?_
  have key := lp_up (n := z) (S := fun i => fqO (uX h sm) z (z - i) i = fq (uX h sm) z → ∀ g v2, Sam 8 h g → SW jX3_firstQuarrel E0 (Zm (fun v g => v = some (.int (fq (uX h sm) z)) ∧ Sam 8 h g)) 2 [some (.ref 1), some (.int (nI i)), v2] [] g) ?_ ?_ 0 (by omega) rfl h none Sam.rf
  · exact key
  · intro he g v2 hS
    have hz := (hS.T (by decide) T).1.2.2.2
    refine sw_iload_n dX3_firstQuarrel_2 rfl ?_
    refine sw_aload_n dX3_firstQuarrel_3 rfl ?_
    refine sw_getI dX3_firstQuarrel_4 flX3_15 ⟨by decide, _, rfl, rfl⟩ ?_
    rw [hz]
    refine sw_icmpN_ge (tgt := 50) dX3_firstQuarrel_7 (by decide) (by omega) (by omega) (fun hc => ?_) (fun hc => ?_)
    · refine sw_bipush (v := (-4)) dX3_firstQuarrel_50 (by decide) ?_
      refine sw_iret dX3_firstQuarrel_52 rfl rfl rfl ?_
      exact ⟨by rw [← he, Nat.sub_self]; rfl, hS⟩
    · omega
  · intro i hi ih he g v2 hS
    have hz := (hS.T (by decide) T).1.2.2.2
    refine sw_iload_n dX3_firstQuarrel_2 rfl ?_
    refine sw_aload_n dX3_firstQuarrel_3 rfl ?_
    refine sw_getI dX3_firstQuarrel_4 flX3_15 ⟨by decide, _, rfl, rfl⟩ ?_
    rw [hz]
    refine sw_icmpN_ge (tgt := 50) dX3_firstQuarrel_7 (by decide) (by omega) (by omega) (fun hc => ?_) (fun hc => ?_)
    · omega
    · clear hc
      have e1 : z - i = (z - (i + 1)) + 1 := by omega
      rw [e1] at he
      simp only [fqO] at he
      refine sw_iload_n dX3_firstQuarrel_10 rfl ?_
      refine sw_iconst (v := nI 1) dX3_firstQuarrel_11 (by decide) ?_
      first | refine sw_iaddN dX3_firstQuarrel_12 ?_ | refine sw_iadd dX3_firstQuarrel_12 ?_
      refine sw_istore_n dX3_firstQuarrel_13 (by decide) rfl ?_
      have key2 := lp_up (n := z) (S := fun d => i + 1 ≤ d → fqI (uX h sm) i (z - d) d = fqI (uX h sm) i (z - (i + 1)) (i + 1) → ∀ g, Sam 8 h g → SW jX3_firstQuarrel E0 (Zm (fun v g => v = some (.int (fq (uX h sm) z)) ∧ Sam 8 h g)) 14 [some (.ref 1), some (.int (nI i)), some (.int (nI d))] [] g) ?_ ?_ (i + 1) (by omega) (by omega) rfl g hS
      · exact key2
      · intro hid hf g hS
        have hz := (hS.T (by decide) T).1.2.2.2
        refine sw_iload_n dX3_firstQuarrel_14 rfl ?_
        refine sw_aload_n dX3_firstQuarrel_15 rfl ?_
        refine sw_getI dX3_firstQuarrel_16 flX3_15 ⟨by decide, _, rfl, rfl⟩ ?_
        rw [hz]
        refine sw_icmpN_ge (tgt := 44) dX3_firstQuarrel_19 (by decide) (by omega) (by omega) (fun hc => ?_) (fun hc => ?_)
        · first | refine sw_iincN (b := 1) dX3_firstQuarrel_44 rfl (by decide) rfl ?_ | refine sw_iinc dX3_firstQuarrel_44 rfl rfl (by decide) rfl ?_
          refine sw_goto (tgt := 2) dX3_firstQuarrel_47 (by decide) ?_
          refine ih ?_ g _ hS
          rw [← he, ← hf, Nat.sub_self]
          rfl
        · omega
      · intro d hd ih2 hid hf g hS
        have T' := hS.T (by decide) T
        have hz := T'.1.2.2.2
        refine sw_iload_n dX3_firstQuarrel_14 rfl ?_
        refine sw_aload_n dX3_firstQuarrel_15 rfl ?_
        refine sw_getI dX3_firstQuarrel_16 flX3_15 ⟨by decide, _, rfl, rfl⟩ ?_
        rw [hz]
        refine sw_icmpN_ge (tgt := 44) dX3_firstQuarrel_19 (by decide) (by omega) (by omega) (fun hc => ?_) (fun hc => ?_)
        · omega
        · clear hc
          refine sw_aload_n dX3_firstQuarrel_22 rfl ?_
          refine sw_iload_n dX3_firstQuarrel_23 rfl ?_
          refine sw_iload_n dX3_firstQuarrel_24 rfl ?_
          refine sw_callV (i := 0) (c_areUnlike T' hi hd) dX3_firstQuarrel_25 lkX3_77 (by decide) ⟨by decide, _, rfl, rfl⟩ rfl rfl rfl (Nat.le_of_ble_eq_true rfl) (fun v h1 hq => ?_)
          obtain ⟨rfl, hS2⟩ := hq
          rw [uX_keep hS]
          have e2 : z - d = (z - (d + 1)) + 1 := by omega
          rw [e2] at hf
          simp only [fqI] at hf
          show SW jX3_firstQuarrel E0 _ 28 _ [.int (bI (uX h sm i d))] _
          refine sw_if_eq (tgt := 38) dX3_firstQuarrel_28 (by decide) (fun hc => ?_) (fun hc => ?_)
          · have hu := bI_0 hc
            rw [hu] at hf
            first | refine sw_iincN (b := 1) dX3_firstQuarrel_38 rfl (by decide) rfl ?_ | refine sw_iinc dX3_firstQuarrel_38 rfl rfl (by decide) rfl ?_
            refine sw_goto (tgt := 14) dX3_firstQuarrel_41 (by decide) ?_
            exact ih2 (by omega) hf _ (hS.tr hS2)
          · have hu := bI_1 hc
            rw [hu] at hf
            rw [← hf] at he
            refine sw_bipush (v := nI 8) dX3_firstQuarrel_31 (by decide) ?_
            refine sw_iload_n dX3_firstQuarrel_33 rfl ?_
            first | refine sw_imulN dX3_firstQuarrel_34 ?_ | refine sw_imul dX3_firstQuarrel_34 ?_
            refine sw_iload_n dX3_firstQuarrel_35 rfl ?_
            first | refine sw_iaddN dX3_firstQuarrel_36 ?_ | refine sw_iadd dX3_firstQuarrel_36 ?_
            refine sw_iret dX3_firstQuarrel_37 rfl rfl rfl ?_
            exact ⟨by rw [← he]; rfl, hS.tr hS2⟩
end TAB
end
section
/-! the table's methods that write -/
section TAB
variable {h : Hp} {n z : Nat} {sm : Nat → Nat}
theorem c_begin (k : Int32) : Ctr jX3_begin [.ref 1, .int k] h (RetV (hset (hset (hset h 1 0 k) 1 1 (nI 0)) 1 2 (h 1 2 + nI 1))) := by
  refine ctr_start (by decide) (Nat.le_of_ble_eq_true rfl) rfl rfl ?_
  show SW jX3_begin E0 _ 0 [some (.ref 1), some (.int k)] [] _
  refine sw_aload_n dX3_begin_0 rfl ?_
  refine sw_iload_n dX3_begin_1 rfl ?_
  refine sw_put dX3_begin_2 fpX3_9 ⟨by decide, _, rfl, rfl⟩ rfl rfl ?_
  refine sw_aload_n dX3_begin_5 rfl ?_
  refine sw_iconst (v := nI 0) dX3_begin_6 (by decide) ?_
  refine sw_put dX3_begin_7 fpX3_15 ⟨by decide, _, rfl, rfl⟩ rfl rfl ?_
  refine sw_aload_n dX3_begin_10 rfl ?_
  refine sw_dup dX3_begin_11 rfl ?_
  refine sw_getI dX3_begin_12 flX3_18 ⟨by decide, _, rfl, rfl⟩ ?_
  refine sw_iconst (v := nI 1) dX3_begin_15 (by decide) ?_
  rw [show hset (hset h 1 0 k) 1 1 (nI 0) 1 2 = h 1 2 by rw [hset_i (by decide), hset_i (by decide)]]
  first | refine sw_iaddN dX3_begin_16 ?_ | refine sw_iadd dX3_begin_16 ?_
  refine sw_put dX3_begin_17 fpX3_18 ⟨by decide, _, rfl, rfl⟩ rfl rfl ?_
  refine sw_vret dX3_begin_20 rfl rfl rfl ?_
  exact ⟨rfl, rfl⟩
theorem c_removeLatest3 (hz : h 1 1 = nI (z + 1)) : Ctr jX3_removeLatest [.ref 1] h (Ret (nI z) (hset (hset h 1 1 (nI z)) 1 2 (h 1 2 + nI 1))) := by
  refine ctr_start (by decide) (Nat.le_of_ble_eq_true rfl) rfl rfl ?_
  show SW jX3_removeLatest E0 _ 0 [some (.ref 1)] [] _
  refine sw_aload_n dX3_removeLatest_0 rfl ?_
  refine sw_dup dX3_removeLatest_1 rfl ?_
  refine sw_getI dX3_removeLatest_2 flX3_15 ⟨by decide, _, rfl, rfl⟩ ?_
  refine sw_iconst (v := nI 1) dX3_removeLatest_5 (by decide) ?_
  rw [hz]
  first | refine sw_isubN dX3_removeLatest_6 (by omega) ?_ | refine sw_isub dX3_removeLatest_6 ?_
  rw [show z + 1 - 1 = z by omega]
  refine sw_put dX3_removeLatest_7 fpX3_15 ⟨by decide, _, rfl, rfl⟩ rfl rfl ?_
  refine sw_aload_n dX3_removeLatest_10 rfl ?_
  refine sw_dup dX3_removeLatest_11 rfl ?_
  refine sw_getI dX3_removeLatest_12 flX3_18 ⟨by decide, _, rfl, rfl⟩ ?_
  refine sw_iconst (v := nI 1) dX3_removeLatest_15 (by decide) ?_
  rw [show hset h 1 1 (nI z) 1 2 = h 1 2 from hset_i (by decide)]
  first | refine sw_iaddN dX3_removeLatest_16 ?_ | refine sw_iadd dX3_removeLatest_16 ?_
  refine sw_put dX3_removeLatest_17 fpX3_18 ⟨by decide, _, rfl, rfl⟩ rfl rfl ?_
  refine sw_aload_n dX3_removeLatest_20 rfl ?_
  refine sw_getI dX3_removeLatest_21 flX3_15 ⟨by decide, _, rfl, rfl⟩ ?_
  rw [show hset (hset h 1 1 (nI z)) 1 2 (h 1 2 + nI 1) 1 1 = nI z by rw [hset_i (by decide), hset_at]]
  refine sw_iret dX3_removeLatest_24 rfl rfl rfl ?_
  exact ⟨rfl, rfl⟩
theorem c_setWeight {k : Nat} (hk : k < 64) (v : Int32) : Ctr jX3_setWeight [.ref 1, .int (nI k), .int v] h (RetV (hset (hset h 4 k v) 1 2 (h 1 2 + nI 1))) := by
  refine ctr_start (by decide) (Nat.le_of_ble_eq_true rfl) rfl rfl ?_
  show SW jX3_setWeight E0 _ 0 [some (.ref 1), some (.int (nI k)), some (.int v)] [] _
  refine sw_aload_n dX3_setWeight_0 rfl ?_
  refine sw_getR dX3_setWeight_1 flX3_28 ⟨by decide, _, rfl, rfl⟩ ?_
  refine sw_iload_n dX3_setWeight_4 rfl ?_
  refine sw_iload_n dX3_setWeight_5 rfl ?_
  refine sw_iast dX3_setWeight_6 rfl (by simp only [plA]; omega) ?_
  refine sw_aload_n dX3_setWeight_7 rfl ?_
  refine sw_dup dX3_setWeight_8 rfl ?_
  refine sw_getI dX3_setWeight_9 flX3_18 ⟨by decide, _, rfl, rfl⟩ ?_
  refine sw_iconst (v := nI 1) dX3_setWeight_12 (by decide) ?_
  rw [show hset h 4 k v 1 2 = h 1 2 from hset_k (by decide)]
  first | refine sw_iaddN dX3_setWeight_13 ?_ | refine sw_iadd dX3_setWeight_13 ?_
  refine sw_put dX3_setWeight_14 fpX3_18 ⟨by decide, _, rfl, rfl⟩ rfl rfl ?_
  refine sw_vret dX3_setWeight_17 rfl rfl rfl ?_
  exact ⟨rfl, rfl⟩
/-- what the class's weighBy leaves: the weights by the hidden below x that m has -/
def mixW (sm : Nat → Nat) (m z : Nat) : Nat → Nat → Int32
  | 0, _ => 0
  | x + 1, k => mixW sm m z x k + (if m / 2 ^ x % 2 = 1 ∧ k / 8 < z ∧ jnt (sm (k / 8)) x = k % 8 then nI 1 else 0)
theorem c_weighBy (T : TX h n z sm) {m : Nat} (hm : m < 65536) (hn4 : n ≤ 4) : Ctr jX3_weighBy [.ref 1, .int (nI m)] h (fun v g => v = none ∧ (∀ k, k ≠ 1 → k ≠ 4 → g k = h k) ∧ g 1 0 = h 1 0 ∧ g 1 1 = h 1 1 ∧ g 1 2 = h 1 2 + nI 1 ∧ ∀ k, k < 64 → g 4 k = mixW sm m z (2 ^ n) k) := by
  have hz8 := T.1.2.1
  have h16 : 2 ^ n ≤ 16 := Nat.pow_le_pow_right (n := 2) (by omega) hn4
  refine ctr_start (by decide) (Nat.le_of_ble_eq_true rfl) rfl rfl ?_
  show SW jX3_weighBy E0 _ 0 [some (.ref 1), some (.int (nI m)), none, none] [] _
  refine sw_aload_n dX3_weighBy_0 rfl ?_
  refine sw_getR dX3_weighBy_1 flX3_28 ⟨by decide, _, rfl, rfl⟩ ?_
  refine sw_iconst (v := nI 0) dX3_weighBy_4 (by decide) ?_
  refine sw_csv (c_fill (q := 4) rfl (nI 0)) dX3_weighBy_5 lkX3_68 (by decide) rfl rfl (Nat.le_of_ble_eq_true rfl) ?_
  have hS1 : Sam 4 h (hfl h 4 (nI 0) (plA 4)) := fun k hk => hfl_off hk
  have hw1 : ∀ k, k < 64 → hfl h 4 (nI 0) (plA 4) 4 k = mixW sm m z 0 k := fun k hk => hfl_in (show k < plA 4 from hk)
  generalize hfl h 4 (nI 0) (plA 4) = g1 at hS1 hw1 ⊢
  refine sw_iconst (v := nI 0) dX3_weighBy_8 (by decide) ?_
  refine sw_istore_n dX3_weighBy_9 (by decide) rfl ?_
  have key := lp_up (n := 2 ^ n) (S := fun i => ∀ g v3, Sam 4 h g → (∀ k, k < 64 → g 4 k = mixW sm m z i k) → SW jX3_weighBy E0 (Zm (fun v g => v = none ∧ (∀ k, k ≠ 1 → k ≠ 4 → g k = h k) ∧ g 1 0 = h 1 0 ∧ g 1 1 = h 1 1 ∧ g 1 2 = h 1 2 + nI 1 ∧ ∀ k, k < 64 → g 4 k = mixW sm m z (2 ^ n) k)) 10 [some (.ref 1), some (.int (nI m)), some (.int (nI i)), v3] [] g) ?_ ?_ 0 (Nat.zero_le _) g1 none hS1 hw1
  · exact key
  · intro g v3 hS hg
    have T' := hS.T (by decide) T
    refine sw_iload_n dX3_weighBy_10 rfl ?_
    refine sw_aload_n dX3_weighBy_11 rfl ?_
    refine sw_cvi (i := 0) (c_hiddenCount T'.1.2.2.1 T'.1.1) dX3_weighBy_12 lkX3_60 (by decide) ⟨by decide, _, rfl, rfl⟩ rfl rfl rfl (Nat.le_of_ble_eq_true rfl) ?_
    refine sw_icmpN_ge (tgt := 64) dX3_weighBy_15 (by decide) (by omega) (by omega) (fun hc => ?_) (fun hc => ?_)
    · refine sw_aload_n dX3_weighBy_64 rfl ?_
      refine sw_dup dX3_weighBy_65 rfl ?_
      refine sw_getI dX3_weighBy_66 flX3_18 ⟨by decide, _, rfl, rfl⟩ ?_
      refine sw_iconst (v := nI 1) dX3_weighBy_69 (by decide) ?_
      first | refine sw_iaddN dX3_weighBy_70 ?_ | refine sw_iadd dX3_weighBy_70 ?_
      refine sw_put dX3_weighBy_71 fpX3_18 ⟨by decide, _, rfl, rfl⟩ rfl rfl ?_
      refine sw_vret dX3_weighBy_74 rfl rfl rfl ?_
      refine ⟨rfl, fun k h1 h4 => ?_, ?_, ?_, ?_, fun k hk => ?_⟩
      · rw [hset_off k h1]; exact hS k h4
      · rw [hset_i (by decide), hS 1 (by decide)]
      · rw [hset_i (by decide), hS 1 (by decide)]
      · rw [hset_at, hS 1 (by decide)]
      · rw [hset_k (by decide)]; exact hg k hk
    · omega
  · intro i hi ih g v3 hS hg
    have T' := hS.T (by decide) T
    refine sw_iload_n dX3_weighBy_10 rfl ?_
    refine sw_aload_n dX3_weighBy_11 rfl ?_
    refine sw_cvi (i := 0) (c_hiddenCount T'.1.2.2.1 T'.1.1) dX3_weighBy_12 lkX3_60 (by decide) ⟨by decide, _, rfl, rfl⟩ rfl rfl rfl (Nat.le_of_ble_eq_true rfl) ?_
    refine sw_icmpN_ge (tgt := 64) dX3_weighBy_15 (by decide) (by omega) (by omega) (fun hc => ?_) (fun hc => ?_)
    · omega
    · clear hc
      refine sw_iload_n dX3_weighBy_18 rfl ?_
      refine sw_iload_n dX3_weighBy_19 rfl ?_
      first | refine sw_ishrN dX3_weighBy_20 (by omega) (by omega) ?_ | refine sw_ishr dX3_weighBy_20 ?_
      refine sw_iconst (v := nI 1) dX3_weighBy_21 (by decide) ?_
      first | refine sw_iand1 dX3_weighBy_22 ?_ | refine sw_iand dX3_weighBy_22 ?_
      refine sw_iconst (v := nI 1) dX3_weighBy_23 (by decide) ?_
      refine sw_icmpN_ne (tgt := 58) dX3_weighBy_24 (by decide) (by omega) (by omega) (fun hc => ?_) (fun hc => ?_)
      · first | refine sw_iincN (b := 1) dX3_weighBy_58 rfl (by decide) rfl ?_ | refine sw_iinc dX3_weighBy_58 rfl rfl (by decide) rfl ?_
        refine sw_goto (tgt := 10) dX3_weighBy_61 (by decide) ?_
        refine ih g _ hS (fun k hk => ?_)
        simp only [mixW]
        rw [if_neg (fun q => hc q.1), hg k hk]
        simp
      · have hb := hc
        clear hc
        refine sw_iconst (v := nI 0) dX3_weighBy_27 (by decide) ?_
        refine sw_istore_n dX3_weighBy_28 (by decide) rfl ?_
        have key2 := lp_up (n := z) (S := fun c => ∀ g, Sam 4 h g → (∀ k, k < 64 → g 4 k = mixW sm m z i k + (if k / 8 < c ∧ jnt (sm (k / 8)) i = k % 8 then nI 1 else 0)) → SW jX3_weighBy E0 (Zm (fun v g => v = none ∧ (∀ k, k ≠ 1 → k ≠ 4 → g k = h k) ∧ g 1 0 = h 1 0 ∧ g 1 1 = h 1 1 ∧ g 1 2 = h 1 2 + nI 1 ∧ ∀ k, k < 64 → g 4 k = mixW sm m z (2 ^ n) k)) 29 [some (.ref 1), some (.int (nI m)), some (.int (nI i)), some (.int (nI c))] [] g) ?_ ?_ 0 (Nat.zero_le _) g hS (fun k hk => by rw [if_neg (fun q => Nat.not_lt_zero _ q.1), hg k hk]; simp)
        · exact key2
        · intro g hS hg
          have hz := (hS.T (by decide) T).1.2.2.2
          refine sw_iload_n dX3_weighBy_29 rfl ?_
          refine sw_aload_n dX3_weighBy_30 rfl ?_
          refine sw_getI dX3_weighBy_31 flX3_15 ⟨by decide, _, rfl, rfl⟩ ?_
          rw [hz]
          refine sw_icmpN_ge (tgt := 58) dX3_weighBy_34 (by decide) (by omega) (by omega) (fun hc => ?_) (fun hc => ?_)
          · first | refine sw_iincN (b := 1) dX3_weighBy_58 rfl (by decide) rfl ?_ | refine sw_iinc dX3_weighBy_58 rfl rfl (by decide) rfl ?_
            refine sw_goto (tgt := 10) dX3_weighBy_61 (by decide) ?_
            refine ih g _ hS (fun k hk => ?_)
            simp only [mixW]
            rw [hg k hk]
            congr 1
            by_cases q : k / 8 < z ∧ jnt (sm (k / 8)) i = k % 8
            · rw [if_pos q, if_pos ⟨hb, q⟩]
            · rw [if_neg q, if_neg (fun r => q r.2)]
          · omega
        · intro c hcz ih2 g hS hg
          have T' := hS.T (by decide) T
          have hz := T'.1.2.2.2
          have hj := T.j8 hcz i
          refine sw_iload_n dX3_weighBy_29 rfl ?_
          refine sw_aload_n dX3_weighBy_30 rfl ?_
          refine sw_getI dX3_weighBy_31 flX3_15 ⟨by decide, _, rfl, rfl⟩ ?_
          rw [hz]
          refine sw_icmpN_ge (tgt := 58) dX3_weighBy_34 (by decide) (by omega) (by omega) (fun hc => ?_) (fun hc => ?_)
          · omega
          · clear hc
            refine sw_aload_n dX3_weighBy_37 rfl ?_
            refine sw_getR dX3_weighBy_38 flX3_28 ⟨by decide, _, rfl, rfl⟩ ?_
            refine sw_aload_n dX3_weighBy_41 rfl ?_
            refine sw_iload_n dX3_weighBy_42 rfl ?_
            refine sw_iload_n dX3_weighBy_43 rfl ?_
            refine sw_cvi (i := 0) (c_placeBy T' hcz hi) dX3_weighBy_44 lkX3_74 (by decide) ⟨by decide, _, rfl, rfl⟩ rfl rfl rfl (Nat.le_of_ble_eq_true rfl) ?_
            refine sw_dup2 dX3_weighBy_47 rfl rfl ?_
            refine sw_iald dX3_weighBy_48 rfl (by simp only [plA]; omega) ?_
            refine sw_iconst (v := nI 1) dX3_weighBy_49 (by decide) ?_
            first | refine sw_iaddN dX3_weighBy_50 ?_ | refine sw_iadd dX3_weighBy_50 ?_
            refine sw_iast dX3_weighBy_51 rfl (by simp only [plA]; omega) ?_
            first | refine sw_iincN (b := 1) dX3_weighBy_52 rfl (by decide) rfl ?_ | refine sw_iinc dX3_weighBy_52 rfl rfl (by decide) rfl ?_
            refine sw_goto (tgt := 29) dX3_weighBy_55 (by decide) ?_
            refine ih2 _ hS.set (fun k hk => ?_)
            rw [hset_eq]
            by_cases q : k = 8 * c + jnt (sm c) i
            · have e1 : k / 8 = c := by omega
              have e2 : k % 8 = jnt (sm c) i := by omega
              rw [if_pos ⟨rfl, q⟩, if_pos ⟨by omega, by rw [e1, e2]⟩, ← q, hg k hk, if_neg (fun r => by omega)]
              simp
            · rw [if_neg (fun r => q r.2), hg k hk]
              congr 1
              by_cases r : k / 8 < c ∧ jnt (sm (k / 8)) i = k % 8
              · rw [if_pos r, if_pos ⟨by omega, r.2⟩]
              · rw [if_neg r, if_neg]
                rintro ⟨r1, r2⟩
                by_cases e : k / 8 = c
                · rw [e] at r2
                  omega
                · exact r ⟨by omega, r2⟩
theorem c_weightsAboveZero (T : TX h n z sm) (hw : ∀ c j, c < z → 2 ^ pop (sm c) ≤ j → j < 8 → h 4 (8 * c + j) = 0) : Ctr jX3_weightsAboveZero [.ref 1] h (Ret (nI (fa_cnt (fun k => decide (0 < h 4 k)) (8 * z))) h) := by
  have hz8 := T.1.2.1
  have hz := T.1.2.2.2
  refine ctr_start (by decide) (Nat.le_of_ble_eq_true rfl) rfl rfl ?_
  show SW jX3_weightsAboveZero E0 _ 0 [some (.ref 1), none, none, none] [] _
  refine sw_iconst (v := nI 0) dX3_weightsAboveZero_0 (by decide) ?_
  refine sw_istore_n dX3_weightsAboveZero_1 (by decide) rfl ?_
  refine sw_iconst (v := nI 0) dX3_weightsAboveZero_2 (by decide) ?_
  refine sw_istore_n dX3_weightsAboveZero_3 (by decide) rfl ?_
  have key := lp_up (n := z) (S := fun i => ∀ v3, SW jX3_weightsAboveZero E0 (Zm (Ret (nI (fa_cnt (fun k => decide (0 < h 4 k)) (8 * z))) h)) 4 [some (.ref 1), some (.int (nI (fa_cnt (fun k => decide (0 < h 4 k)) (8 * i)))), some (.int (nI i)), v3] [] h) ?_ ?_ 0 (Nat.zero_le _) none
  · exact key
  · intro v3
    refine sw_iload_n dX3_weightsAboveZero_4 rfl ?_
    refine sw_aload_n dX3_weightsAboveZero_5 rfl ?_
    refine sw_getI dX3_weightsAboveZero_6 flX3_15 ⟨by decide, _, rfl, rfl⟩ ?_
    rw [hz]
    refine sw_icmpN_ge (tgt := 52) dX3_weightsAboveZero_9 (by decide) (by omega) (by omega) (fun hc => ?_) (fun hc => ?_)
    · refine sw_iload_n dX3_weightsAboveZero_52 rfl ?_
      refine sw_iret dX3_weightsAboveZero_53 rfl rfl rfl ?_
      exact ⟨rfl, rfl⟩
    · omega
  · intro i hi ih v3
    have hp := pow3 (T.2.1 i hi).2.2.2
    refine sw_iload_n dX3_weightsAboveZero_4 rfl ?_
    refine sw_aload_n dX3_weightsAboveZero_5 rfl ?_
    refine sw_getI dX3_weightsAboveZero_6 flX3_15 ⟨by decide, _, rfl, rfl⟩ ?_
    rw [hz]
    refine sw_icmpN_ge (tgt := 52) dX3_weightsAboveZero_9 (by decide) (by omega) (by omega) (fun hc => ?_) (fun hc => ?_)
    · omega
    · clear hc
      refine sw_iconst (v := nI 0) dX3_weightsAboveZero_12 (by decide) ?_
      refine sw_istore_n dX3_weightsAboveZero_13 (by decide) rfl ?_
      have key2 := lp_up (n := 2 ^ pop (sm i)) (S := fun j => SW jX3_weightsAboveZero E0 (Zm (Ret (nI (fa_cnt (fun k => decide (0 < h 4 k)) (8 * z))) h)) 14 [some (.ref 1), some (.int (nI (fa_cnt (fun k => decide (0 < h 4 k)) (8 * i + j)))), some (.int (nI i)), some (.int (nI j))] [] h) ?_ ?_ 0 (Nat.zero_le _)
      · exact key2
      · have e : ∀ m, m ≤ 8 - 2 ^ pop (sm i) → fa_cnt (fun k => decide (0 < h 4 k)) (8 * i + 2 ^ pop (sm i) + m) = fa_cnt (fun k => decide (0 < h 4 k)) (8 * i + 2 ^ pop (sm i)) := by
          intro m
          induction m with
          | zero => intro _; rfl
          | succ m ihm =>
            intro hm
            rw [← ihm (by omega), ← Nat.add_assoc]
            refine fa_cnt_no (decide_eq_false ?_)
            have := hw i (2 ^ pop (sm i) + m) hi (by omega) (by omega)
            rw [← Nat.add_assoc] at this
            rw [this]
            decide
        have e2 := e (8 - 2 ^ pop (sm i)) (Nat.le_refl _)
        rw [show 8 * i + 2 ^ pop (sm i) + (8 - 2 ^ pop (sm i)) = 8 * (i + 1) by omega] at e2
        rw [e2] at ih
        refine sw_iload_n dX3_weightsAboveZero_14 rfl ?_
        refine sw_aload_n dX3_weightsAboveZero_15 rfl ?_
        refine sw_iload_n dX3_weightsAboveZero_16 rfl ?_
        refine sw_cvi (i := 0) (c_jointCount T hi) dX3_weightsAboveZero_17 lkX3_51 (by decide) ⟨by decide, _, rfl, rfl⟩ rfl rfl rfl (Nat.le_of_ble_eq_true rfl) ?_
        refine sw_icmpN_ge (tgt := 46) dX3_weightsAboveZero_20 (by decide) (by omega) (by omega) (fun hc => ?_) (fun hc => ?_)
        · first | refine sw_iincN (b := 1) dX3_weightsAboveZero_46 rfl (by decide) rfl ?_ | refine sw_iinc dX3_weightsAboveZero_46 rfl rfl (by decide) rfl ?_
          refine sw_goto (tgt := 4) dX3_weightsAboveZero_49 (by decide) ?_
          exact ih _
        · omega
      · intro j hj ih2
        refine sw_iload_n dX3_weightsAboveZero_14 rfl ?_
        refine sw_aload_n dX3_weightsAboveZero_15 rfl ?_
        refine sw_iload_n dX3_weightsAboveZero_16 rfl ?_
        refine sw_cvi (i := 0) (c_jointCount T hi) dX3_weightsAboveZero_17 lkX3_51 (by decide) ⟨by decide, _, rfl, rfl⟩ rfl rfl rfl (Nat.le_of_ble_eq_true rfl) ?_
        refine sw_icmpN_ge (tgt := 46) dX3_weightsAboveZero_20 (by decide) (by omega) (by omega) (fun hc => ?_) (fun hc => ?_)
        · omega
        · clear hc
          refine sw_aload_n dX3_weightsAboveZero_23 rfl ?_
          refine sw_getR dX3_weightsAboveZero_24 flX3_28 ⟨by decide, _, rfl, rfl⟩ ?_
          refine sw_bipush (v := nI 8) dX3_weightsAboveZero_27 (by decide) ?_
          refine sw_iload_n dX3_weightsAboveZero_29 rfl ?_
          first | refine sw_imulN dX3_weightsAboveZero_30 ?_ | refine sw_imul dX3_weightsAboveZero_30 ?_
          refine sw_iload_n dX3_weightsAboveZero_31 rfl ?_
          first | refine sw_iaddN dX3_weightsAboveZero_32 ?_ | refine sw_iadd dX3_weightsAboveZero_32 ?_
          refine sw_iald dX3_weightsAboveZero_33 rfl (by simp only [plA]; omega) ?_
          refine sw_if_le (tgt := 40) dX3_weightsAboveZero_34 (by decide) (fun hc => ?_) (fun hc => ?_)
          · have e : fa_cnt (fun k => decide (0 < h 4 k)) (8 * i + j + 1) = fa_cnt (fun k => decide (0 < h 4 k)) (8 * i + j) := fa_cnt_no (decide_eq_false (Int32.not_lt.mpr hc))
            rw [← Nat.add_assoc, e] at ih2
            first | refine sw_iincN (b := 1) dX3_weightsAboveZero_40 rfl (by decide) rfl ?_ | refine sw_iinc dX3_weightsAboveZero_40 rfl rfl (by decide) rfl ?_
            refine sw_goto (tgt := 14) dX3_weightsAboveZero_43 (by decide) ?_
            exact ih2
          · have e : fa_cnt (fun k => decide (0 < h 4 k)) (8 * i + j + 1) = fa_cnt (fun k => decide (0 < h 4 k)) (8 * i + j) + 1 := fa_cnt_yes (decide_eq_true (Int32.not_le.mp hc))
            rw [← Nat.add_assoc, e] at ih2
            first | refine sw_iincN (b := 1) dX3_weightsAboveZero_37 rfl (by decide) rfl ?_ | refine sw_iinc dX3_weightsAboveZero_37 rfl rfl (by decide) rfl ?_
            first | refine sw_iincN (b := 1) dX3_weightsAboveZero_40 rfl (by decide) rfl ?_ | refine sw_iinc dX3_weightsAboveZero_40 rfl rfl (by decide) rfl ?_
            refine sw_goto (tgt := 14) dX3_weightsAboveZero_43 (by decide) ?_
            exact ih2
end TAB
end
section
def metB (P : Nat → Bool) (sm : Nat → Nat) (k : Nat) : Nat → Bool
  | 0 => false
  | x + 1 => metB P sm k x || (P x && decide (jnt (sm (k / 8)) x = k % 8))
theorem dp_jnt : ∀ s, s < 64 → ∀ x, x < 64 → dp s (jnt s x) 6 = x &&& s := by decide +kernel
theorem jnt_dp : ∀ s, s < 64 → ∀ j, j < 8 → j < 2 ^ pop s → jnt s (dp s j 6) = j ∧ dp s j 6 ≤ s := by decide +kernel
section TAB
variable {h : Hp} {n z : Nat} {sm : Nat → Nat}
abbrev posX (h : Hp) (z : Nat) (sm : Nat → Nat) (x : Nat) : Bool := allB (fun c => decide (¬ h 4 (8 * c + jnt (sm c) x) = 0)) z
theorem c_findMet (T : TX h n z sm) : Ctr jX3_findMet [.ref 1] h (fun v g => v = none ∧ Sam 9 h g ∧ ∀ k, k < 8 * z → g 9 k = bI (metB (posX h z sm) sm k (2 ^ n))) := by
  have hz8 := T.1.2.1
  have h64 := pow6 T.1.1
  refine ctr_start (by decide) (Nat.le_of_ble_eq_true rfl) rfl rfl ?_
  show SW jX3_findMet E0 _ 0 [some (.ref 1), none, none] [] _
  refine sw_iconst (v := nI 0) dX3_findMet_0 (by decide) ?_
  refine sw_istore_n dX3_findMet_1 (by decide) rfl ?_
  have key := lp_up (n := 8 * z) (S := fun i => ∀ g, Sam 9 h g → (∀ k, k < i → g 9 k = nI 0) → SW jX3_findMet E0 (Zm (fun v g => v = none ∧ Sam 9 h g ∧ ∀ k, k < 8 * z → g 9 k = bI (metB (posX h z sm) sm k (2 ^ n)))) 2 [some (.ref 1), some (.int (nI i)), none] [] g) ?_ ?_ 0 (Nat.zero_le _) h Sam.rf (fun k hk => absurd hk (Nat.not_lt_zero _))
  · exact key
  · intro g hS hg
    have hz := (hS.T (by decide) T).1.2.2.2
    refine sw_iload_n dX3_findMet_2 rfl ?_
    refine sw_bipush (v := nI 8) dX3_findMet_3 (by decide) ?_
    refine sw_aload_n dX3_findMet_5 rfl ?_
    refine sw_getI dX3_findMet_6 flX3_15 ⟨by decide, _, rfl, rfl⟩ ?_
    rw [hz]
    first | refine sw_imulN dX3_findMet_9 ?_ | refine sw_imul dX3_findMet_9 ?_
    refine sw_icmpN_ge (tgt := 26) dX3_findMet_10 (by decide) (by omega) (by omega) (fun hc => ?_) (fun hc => ?_)
    · clear hc
      refine sw_iconst (v := nI 0) dX3_findMet_26 (by decide) ?_
      refine sw_istore_n dX3_findMet_27 (by decide) rfl ?_
      have key2 := lp_up (n := 2 ^ n) (S := fun i => ∀ g v2, Sam 9 h g → (∀ k, k < 8 * z → g 9 k = bI (metB (posX h z sm) sm k i)) → SW jX3_findMet E0 (Zm (fun v g => v = none ∧ Sam 9 h g ∧ ∀ k, k < 8 * z → g 9 k = bI (metB (posX h z sm) sm k (2 ^ n)))) 28 [some (.ref 1), some (.int (nI i)), v2] [] g) ?_ ?_ 0 (Nat.zero_le _) g none hS hg
      · exact key2
      · intro g v2 hS hg
        have T' := hS.T (by decide) T
        refine sw_iload_n dX3_findMet_28 rfl ?_
        refine sw_aload_n dX3_findMet_29 rfl ?_
        refine sw_cvi (i := 0) (c_hiddenCount T'.1.2.2.1 T'.1.1) dX3_findMet_30 lkX3_60 (by decide) ⟨by decide, _, rfl, rfl⟩ rfl rfl rfl (Nat.le_of_ble_eq_true rfl) ?_
        refine sw_icmpN_ge (tgt := 78) dX3_findMet_33 (by decide) (by omega) (by omega) (fun hc => ?_) (fun hc => ?_)
        · refine sw_vret dX3_findMet_78 rfl rfl rfl ?_
          exact ⟨rfl, hS, hg⟩
        · omega
      · intro i hi ih g v2 hS hg
        have T' := hS.T (by decide) T
        have hz := T'.1.2.2.2
        refine sw_iload_n dX3_findMet_28 rfl ?_
        refine sw_aload_n dX3_findMet_29 rfl ?_
        refine sw_cvi (i := 0) (c_hiddenCount T'.1.2.2.1 T'.1.1) dX3_findMet_30 lkX3_60 (by decide) ⟨by decide, _, rfl, rfl⟩ rfl rfl rfl (Nat.le_of_ble_eq_true rfl) ?_
        refine sw_icmpN_ge (tgt := 78) dX3_findMet_33 (by decide) (by omega) (by omega) (fun hc => ?_) (fun hc => ?_)
        · omega
        · clear hc
          refine sw_aload_n dX3_findMet_36 rfl ?_
          refine sw_iload_n dX3_findMet_37 rfl ?_
          refine sw_cvi (i := 0) (c_isPossible T' hi) dX3_findMet_38 lkX3_85 (by decide) ⟨by decide, _, rfl, rfl⟩ rfl rfl rfl (Nat.le_of_ble_eq_true rfl) ?_
          rw [hS 4 (by decide)]
          refine sw_if_eq (tgt := 72) dX3_findMet_41 (by decide) (fun hc => ?_) (fun hc => ?_)
          · have hp : posX h z sm i = false := bI_0 hc
            first | refine sw_iincN (b := 1) dX3_findMet_72 rfl (by decide) rfl ?_ | refine sw_iinc dX3_findMet_72 rfl rfl (by decide) rfl ?_
            refine sw_goto (tgt := 28) dX3_findMet_75 (by decide) ?_
            refine ih g _ hS (fun k hk => ?_)
            simp only [metB]
            rw [hp, Bool.false_and, Bool.or_false]
            exact hg k hk
          · have hp : posX h z sm i = true := bI_1 hc
            clear hc
            refine sw_iconst (v := nI 0) dX3_findMet_44 (by decide) ?_
            refine sw_istore_n dX3_findMet_45 (by decide) rfl ?_
            have key3 := lp_up (n := z) (S := fun c => ∀ g, Sam 9 h g → (∀ k, k < 8 * z → g 9 k = bI (metB (posX h z sm) sm k i || decide (k / 8 < c ∧ jnt (sm (k / 8)) i = k % 8))) → SW jX3_findMet E0 (Zm (fun v g => v = none ∧ Sam 9 h g ∧ ∀ k, k < 8 * z → g 9 k = bI (metB (posX h z sm) sm k (2 ^ n)))) 46 [some (.ref 1), some (.int (nI i)), some (.int (nI c))] [] g) ?_ ?_ 0 (Nat.zero_le _) g hS (fun k hk => by rw [decide_eq_false (fun q => Nat.not_lt_zero _ q.1), Bool.or_false]; exact hg k hk)
            · exact key3
            · intro g hS hg
              have hz := (hS.T (by decide) T).1.2.2.2
              refine sw_iload_n dX3_findMet_46 rfl ?_
              refine sw_aload_n dX3_findMet_47 rfl ?_
              refine sw_getI dX3_findMet_48 flX3_15 ⟨by decide, _, rfl, rfl⟩ ?_
              rw [hz]
              refine sw_icmpN_ge (tgt := 72) dX3_findMet_51 (by decide) (by omega) (by omega) (fun hc => ?_) (fun hc => ?_)
              · first | refine sw_iincN (b := 1) dX3_findMet_72 rfl (by decide) rfl ?_ | refine sw_iinc dX3_findMet_72 rfl rfl (by decide) rfl ?_
                refine sw_goto (tgt := 28) dX3_findMet_75 (by decide) ?_
                refine ih g _ hS (fun k hk => ?_)
                rw [hg k hk]
                simp only [metB]
                rw [hp, Bool.true_and]
                congr 2
                by_cases q : jnt (sm (k / 8)) i = k % 8
                · rw [decide_eq_true q, decide_eq_true ⟨by omega, q⟩]
                · rw [decide_eq_false q, decide_eq_false (fun r => q r.2)]
              · omega
            · intro c hcz ih2 g hS hg
              have T' := hS.T (by decide) T
              have hz := T'.1.2.2.2
              have hj := T.j8 hcz i
              refine sw_iload_n dX3_findMet_46 rfl ?_
              refine sw_aload_n dX3_findMet_47 rfl ?_
              refine sw_getI dX3_findMet_48 flX3_15 ⟨by decide, _, rfl, rfl⟩ ?_
              rw [hz]
              refine sw_icmpN_ge (tgt := 72) dX3_findMet_51 (by decide) (by omega) (by omega) (fun hc => ?_) (fun hc => ?_)
              · omega
              · clear hc
                refine sw_aload_n dX3_findMet_54 rfl ?_
                refine sw_getR dX3_findMet_55 flX3_43 ⟨by decide, _, rfl, rfl⟩ ?_
                refine sw_aload_n dX3_findMet_58 rfl ?_
                refine sw_iload_n dX3_findMet_59 rfl ?_
                refine sw_iload_n dX3_findMet_60 rfl ?_
                refine sw_cvi (i := 0) (c_placeBy T' hcz hi) dX3_findMet_61 lkX3_74 (by decide) ⟨by decide, _, rfl, rfl⟩ rfl rfl rfl (Nat.le_of_ble_eq_true rfl) ?_
                refine sw_iconst (v := nI 1) dX3_findMet_64 (by decide) ?_
                refine sw_zast dX3_findMet_65 (by omega) rfl ?_
                first | refine sw_iincN (b := 1) dX3_findMet_66 rfl (by decide) rfl ?_ | refine sw_iinc dX3_findMet_66 rfl rfl (by decide) rfl ?_
                refine sw_goto (tgt := 46) dX3_findMet_69 (by decide) ?_
                refine ih2 _ hS.set (fun k hk => ?_)
                rw [hset_eq]
                by_cases q : k = 8 * c + jnt (sm c) i
                · have e1 : k / 8 = c := by omega
                  have e2 : k % 8 = jnt (sm c) i := by omega
                  rw [if_pos ⟨rfl, q⟩, decide_eq_true ⟨by omega, by rw [e1, e2]⟩, Bool.or_true]
                  rfl
                · rw [if_neg (fun r => q r.2), hg k hk]
                  congr 2
                  by_cases r : k / 8 < c ∧ jnt (sm (k / 8)) i = k % 8
                  · rw [decide_eq_true r, decide_eq_true ⟨by omega, r.2⟩]
                  · rw [decide_eq_false r, decide_eq_false]
                    rintro ⟨r1, r2⟩
                    by_cases e : k / 8 = c
                    · rw [e] at r2
                      omega
                    · exact r ⟨by omega, r2⟩
    · omega
  · intro i hi ih g hS hg
    have hz := (hS.T (by decide) T).1.2.2.2
    refine sw_iload_n dX3_findMet_2 rfl ?_
    refine sw_bipush (v := nI 8) dX3_findMet_3 (by decide) ?_
    refine sw_aload_n dX3_findMet_5 rfl ?_
    refine sw_getI dX3_findMet_6 flX3_15 ⟨by decide, _, rfl, rfl⟩ ?_
    rw [hz]
    first | refine sw_imulN dX3_findMet_9 ?_ | refine sw_imul dX3_findMet_9 ?_
    refine sw_icmpN_ge (tgt := 26) dX3_findMet_10 (by decide) (by omega) (by omega) (fun hc => ?_) (fun hc => ?_)
    · omega
    · refine sw_aload_n dX3_findMet_13 rfl ?_
      refine sw_getR dX3_findMet_14 flX3_43 ⟨by decide, _, rfl, rfl⟩ ?_
      refine sw_iload_n dX3_findMet_17 rfl ?_
      refine sw_iconst (v := nI 0) dX3_findMet_18 (by decide) ?_
      refine sw_zast dX3_findMet_19 (by omega) rfl ?_
      first | refine sw_iincN (b := 1) dX3_findMet_20 rfl (by decide) rfl ?_ | refine sw_iinc dX3_findMet_20 rfl rfl (by decide) rfl ?_
      refine sw_goto (tgt := 2) dX3_findMet_23 (by decide) ?_
      refine ih _ hS.set (fun k hk => ?_)
      rw [hset_eq]
      by_cases q : k = i
      · rw [if_pos ⟨rfl, q⟩]
      · rw [if_neg (fun r => q r.2)]
        exact hg k (by omega)
/-- what add leaves -/
def addP (h : Hp) (n z s : Nat) (g : Hp) : Prop := (∀ k, k ≠ 1 → k ≠ 2 → k ≠ 3 → k ≠ 4 → k ≠ 5 → k ≠ 6 → k ≠ 7 → g k = h k) ∧ g 1 0 = h 1 0 ∧ g 2 = upd (h 2) z (nI s) ∧ g 3 = upd (h 3) z (-4) ∧ (∀ i, g 4 i = if 8 * z ≤ i ∧ i < 8 * z + 8 then nI 0 else h 4 i) ∧ (∀ i, g 5 i = if 8 * z ≤ i ∧ i < 8 * z + 8 then nI 0 else h 5 i) ∧ (∀ x, x < 2 ^ n → g 7 (64 * z + x) = nI (8 * z + jnt s x)) ∧ (∀ i, i < 64 * z → g 7 i = h 7 i) ∧ (∀ x, x < 2 ^ n → g 6 (8 * z + jnt s x) = nI (dp s (jnt s x) 6)) ∧ ∀ i, i < 8 * z → g 6 i = h 6 i
theorem c_add3 (T : TX h n z sm) (hz7 : z < 8) {s : Nat} (hs : s < 2 ^ n) (hs3 : pop s ≤ 3) : Ctr jX3_add [.ref 1, .int (nI s)] h (fun v g => v = some (.int (nI z)) ∧ addP h n z s g ∧ g 1 1 = nI (z + 1) ∧ g 1 2 = h 1 2 + nI 1) := by
  have h64 := pow6 T.1.1
  obtain ⟨⟨hn6, hz8, hn, hz⟩, -⟩ := T
  have hj8 : ∀ x, jnt s x < 8 := fun x => Nat.lt_of_lt_of_le (jnt_lt (by omega) x) (pow3 hs3)
  refine ctr_start (by decide) (Nat.le_of_ble_eq_true rfl) rfl rfl ?_
  show SW jX3_add E0 _ 0 [some (.ref 1), some (.int (nI s)), none, none, none] [] _
  refine sw_aload_n dX3_add_0 rfl ?_
  refine sw_getI dX3_add_1 flX3_15 ⟨by decide, _, rfl, rfl⟩ ?_
  rw [hz]
  refine sw_istore_n dX3_add_4 (by decide) rfl ?_
  refine sw_aload_n dX3_add_5 rfl ?_
  refine sw_getR dX3_add_6 flX3_21 ⟨by decide, _, rfl, rfl⟩ ?_
  refine sw_iload_n dX3_add_9 rfl ?_
  refine sw_iload_n dX3_add_10 rfl ?_
  refine sw_iast dX3_add_11 rfl (by simp only [plA]; omega) ?_
  refine sw_aload_n dX3_add_12 rfl ?_
  refine sw_getR dX3_add_13 flX3_25 ⟨by decide, _, rfl, rfl⟩ ?_
  refine sw_iload_n dX3_add_16 rfl ?_
  refine sw_bipush (v := (-4)) dX3_add_17 (by decide) ?_
  refine sw_iast dX3_add_19 rfl (by simp only [plA]; omega) ?_
  refine sw_iconst (v := nI 0) dX3_add_20 (by decide) ?_
  refine sw_istore_n dX3_add_21 (by decide) rfl ?_
  have key := lp_up (n := 8) (S := fun i => ∀ g : Hp, (∀ k, k ≠ 4 → k ≠ 5 → g k = hset (hset h 2 z (nI s)) 3 z (-4) k) → (∀ a, g 4 a = if 8 * z ≤ a ∧ a < 8 * z + i then nI 0 else h 4 a) → (∀ a, g 5 a = if 8 * z ≤ a ∧ a < 8 * z + i then nI 0 else h 5 a) → SW jX3_add E0 (Zm (fun v g => v = some (.int (nI z)) ∧ addP h n z s g ∧ g 1 1 = nI (z + 1) ∧ g 1 2 = h 1 2 + nI 1)) 22 [some (.ref 1), some (.int (nI s)), some (.int (nI z)), some (.int (nI i)), none] [] g) ?_ ?_ 0 (Nat.zero_le _) _ (fun k h4 h5 => rfl) (fun a => by rw [if_neg (fun q => by omega), hset_k (by decide), hset_k (by decide)]) (fun a => by rw [if_neg (fun q => by omega), hset_k (by decide), hset_k (by decide)])
  · exact key
  · intro g hg g4 g5
    refine sw_iload_n dX3_add_22 rfl ?_
    refine sw_bipush (v := nI 8) dX3_add_23 (by decide) ?_
    refine sw_icmpN_ge (tgt := 58) dX3_add_25 (by decide) (by omega) (by omega) (fun hc => ?_) (fun hc => ?_)
    · clear hc
      have e1 : g 1 = h 1 := by rw [hg 1 (by decide) (by decide), hset_off 1 (by decide), hset_off 1 (by decide)]
      have e2 : g 2 = upd (h 2) z (nI s) := by rw [hg 2 (by decide) (by decide), hset_off 2 (by decide), hset_same]
      have e3 : g 3 = upd (h 3) z (-4) := by rw [hg 3 (by decide) (by decide), hset_same, hset_off 3 (by decide)]
      refine sw_iconst (v := nI 0) dX3_add_58 (by decide) ?_
      refine sw_istore_n dX3_add_59 (by decide) rfl ?_
      have key2 := lp_up (n := 2 ^ n) (S := fun i => ∀ (f : Hp) v4, (∀ k, k ≠ 6 → k ≠ 7 → f k = g k) → (∀ x, x < i → f 7 (64 * z + x) = nI (8 * z + jnt s x)) → (∀ a, a < 64 * z → f 7 a = h 7 a) → (∀ x, x < i → f 6 (8 * z + jnt s x) = nI (dp s (jnt s x) 6)) → (∀ a, a < 8 * z → f 6 a = h 6 a) → SW jX3_add E0 (Zm (fun v g => v = some (.int (nI z)) ∧ addP h n z s g ∧ g 1 1 = nI (z + 1) ∧ g 1 2 = h 1 2 + nI 1)) 60 [some (.ref 1), some (.int (nI s)), some (.int (nI z)), some (.int (nI i)), v4] [] f) ?_ ?_ 0 (Nat.zero_le _) g none (fun _ _ _ => rfl) (fun x hx => absurd hx (Nat.not_lt_zero _)) (fun a _ => by rw [hg 7 (by decide) (by decide), hset_k (by decide), hset_k (by decide)]) (fun x hx => absurd hx (Nat.not_lt_zero _)) (fun a _ => by rw [hg 6 (by decide) (by decide), hset_k (by decide), hset_k (by decide)])
      · exact key2
      · intro f v4 hf f7 f7o f6 f6o
        have ef : f 1 = h 1 := by rw [hf 1 (by decide) (by decide), e1]
        refine sw_iload_n dX3_add_60 rfl ?_
        refine sw_aload_n dX3_add_61 rfl ?_
        refine sw_cvi (i := 0) (c_hiddenCount (n := n) (by rw [ef]; exact hn) hn6) dX3_add_62 lkX3_60 (by decide) ⟨by decide, _, rfl, rfl⟩ rfl rfl rfl (Nat.le_of_ble_eq_true rfl) ?_
        refine sw_icmpN_ge (tgt := 109) dX3_add_65 (by decide) (by omega) (by omega) (fun hc => ?_) (fun hc => ?_)
        · refine sw_aload_n dX3_add_109 rfl ?_
          refine sw_dup dX3_add_110 rfl ?_
          refine sw_getI dX3_add_111 flX3_15 ⟨by decide, _, rfl, rfl⟩ ?_
          refine sw_iconst (v := nI 1) dX3_add_114 (by decide) ?_
          rw [show f 1 1 = nI z by rw [ef]; exact hz]
          first | refine sw_iaddN dX3_add_115 ?_ | refine sw_iadd dX3_add_115 ?_
          refine sw_put dX3_add_116 fpX3_15 ⟨by decide, _, rfl, rfl⟩ rfl rfl ?_
          refine sw_aload_n dX3_add_119 rfl ?_
          refine sw_dup dX3_add_120 rfl ?_
          refine sw_getI dX3_add_121 flX3_18 ⟨by decide, _, rfl, rfl⟩ ?_
          refine sw_iconst (v := nI 1) dX3_add_124 (by decide) ?_
          rw [show hset f 1 1 (nI (z + 1)) 1 2 = h 1 2 by rw [hset_i (by decide), ef]]
          refine sw_iadd dX3_add_125 ?_
          refine sw_put dX3_add_126 fpX3_18 ⟨by decide, _, rfl, rfl⟩ rfl rfl ?_
          refine sw_iload_n dX3_add_129 rfl ?_
          refine sw_iret dX3_add_130 rfl rfl rfl ?_
          have off : ∀ k, k ≠ 1 → hset (hset f 1 1 (nI (z + 1))) 1 2 (h 1 2 + nI 1) k = f k := fun k hk => by rw [hset_off k hk, hset_off k hk]
          refine ⟨rfl, ⟨fun k k1 k2 k3 k4 k5 k6 k7 => ?_, ?_, ?_, ?_, fun i => ?_, fun i => ?_, fun x hx => ?_, fun i hi => ?_, fun x hx => ?_, fun i hi => ?_⟩, ?_, ?_⟩
          · rw [off k k1, hf k k6 k7, hg k k4 k5, hset_off k k3, hset_off k k2]
          · rw [hset_i (by decide), hset_i (by decide), ef]
          · rw [off 2 (by decide), hf 2 (by decide) (by decide), e2]
          · rw [off 3 (by decide), hf 3 (by decide) (by decide), e3]
          · rw [off 4 (by decide), hf 4 (by decide) (by decide), g4]
          · rw [off 5 (by decide), hf 5 (by decide) (by decide), g5]
          · rw [off 7 (by decide)]; exact f7 x hx
          · rw [off 7 (by decide)]; exact f7o i hi
          · rw [off 6 (by decide)]; exact f6 x hx
          · rw [off 6 (by decide)]; exact f6o i hi
          · rw [hset_i (by decide), hset_at]
          · rw [hset_at]
        · omega
      · intro i hi ih f v4 hf f7 f7o f6 f6o
        have ef : f 1 = h 1 := by rw [hf 1 (by decide) (by decide), e1]
        have hj := hj8 i
        refine sw_iload_n dX3_add_60 rfl ?_
        refine sw_aload_n dX3_add_61 rfl ?_
        refine sw_cvi (i := 0) (c_hiddenCount (n := n) (by rw [ef]; exact hn) hn6) dX3_add_62 lkX3_60 (by decide) ⟨by decide, _, rfl, rfl⟩ rfl rfl rfl (Nat.le_of_ble_eq_true rfl) ?_
        refine sw_icmpN_ge (tgt := 109) dX3_add_65 (by decide) (by omega) (by omega) (fun hc => ?_) (fun hc => ?_)
        · omega
        · clear hc
          refine sw_bipush (v := nI 8) dX3_add_68 (by decide) ?_
          refine sw_iload_n dX3_add_70 rfl ?_
          first | refine sw_imulN dX3_add_71 ?_ | refine sw_imul dX3_add_71 ?_
          refine sw_iload_n dX3_add_72 rfl ?_
          refine sw_iload_n dX3_add_73 rfl ?_
          refine sw_csi (c_numberOf (by omega) (by omega)) dX3_add_74 lkX3_64 (by decide) rfl rfl (Nat.le_of_ble_eq_true rfl) ?_
          first | refine sw_iaddN dX3_add_77 ?_ | refine sw_iadd dX3_add_77 ?_
          refine sw_istore dX3_add_78 (by decide) rfl ?_
          refine sw_aload_n dX3_add_80 rfl ?_
          refine sw_getR dX3_add_81 flX3_37 ⟨by decide, _, rfl, rfl⟩ ?_
          refine sw_bipush (v := nI 64) dX3_add_84 (by decide) ?_
          refine sw_iload_n dX3_add_86 rfl ?_
          first | refine sw_imulN dX3_add_87 ?_ | refine sw_imul dX3_add_87 ?_
          refine sw_iload_n dX3_add_88 rfl ?_
          first | refine sw_iaddN dX3_add_89 ?_ | refine sw_iadd dX3_add_89 ?_
          refine sw_iload dX3_add_90 rfl ?_
          refine sw_iast dX3_add_92 rfl (by simp only [plA]; omega) ?_
          refine sw_aload_n dX3_add_93 rfl ?_
          refine sw_getR dX3_add_94 flX3_34 ⟨by decide, _, rfl, rfl⟩ ?_
          refine sw_iload dX3_add_97 rfl ?_
          refine sw_iload_n dX3_add_99 rfl ?_
          refine sw_iload_n dX3_add_100 rfl ?_
          first | refine sw_iandN dX3_add_101 ?_ | refine sw_iand dX3_add_101 ?_
          refine sw_iast dX3_add_102 rfl (by simp only [plA]; omega) ?_
          first | refine sw_iincN (b := 1) dX3_add_103 rfl (by decide) rfl ?_ | refine sw_iinc dX3_add_103 rfl rfl (by decide) rfl ?_
          refine sw_goto (tgt := 60) dX3_add_106 (by decide) ?_
          refine ih _ _ (fun k k6 k7 => ?_) (fun x hx => ?_) (fun a ha => ?_) (fun x hx => ?_) (fun a ha => ?_)
          · rw [hset_off k k6, hset_off k k7]; exact hf k k6 k7
          · rw [hset_k (by decide), hset_eq]
            by_cases q : x = i
            · rw [if_pos ⟨rfl, by omega⟩, q]
            · rw [if_neg (fun r => by omega)]
              exact f7 x (by omega)
          · rw [hset_k (by decide), hset_ne (fun r => by omega)]
            exact f7o a ha
          · rw [hset_eq]
            by_cases q : jnt s x = jnt s i
            · rw [if_pos ⟨rfl, by rw [q]⟩, q, dp_jnt s (by omega) i (by omega)]
            · rw [if_neg (fun r => q (by omega)), hset_k (by decide)]
              have : x ≠ i := fun e => q (by rw [e])
              exact f6 x (by omega)
          · rw [hset_ne (fun r => by omega), hset_k (by decide)]
            exact f6o a ha
    · omega
  · intro i hi ih g hg g4 g5
    refine sw_iload_n dX3_add_22 rfl ?_
    refine sw_bipush (v := nI 8) dX3_add_23 (by decide) ?_
    refine sw_icmpN_ge (tgt := 58) dX3_add_25 (by decide) (by omega) (by omega) (fun hc => ?_) (fun hc => ?_)
    · omega
    · refine sw_aload_n dX3_add_28 rfl ?_
      refine sw_getR dX3_add_29 flX3_28 ⟨by decide, _, rfl, rfl⟩ ?_
      refine sw_bipush (v := nI 8) dX3_add_32 (by decide) ?_
      refine sw_iload_n dX3_add_34 rfl ?_
      first | refine sw_imulN dX3_add_35 ?_ | refine sw_imul dX3_add_35 ?_
      refine sw_iload_n dX3_add_36 rfl ?_
      first | refine sw_iaddN dX3_add_37 ?_ | refine sw_iadd dX3_add_37 ?_
      refine sw_iconst (v := nI 0) dX3_add_38 (by decide) ?_
      refine sw_iast dX3_add_39 rfl (by simp only [plA]; omega) ?_
      refine sw_aload_n dX3_add_40 rfl ?_
      refine sw_getR dX3_add_41 flX3_31 ⟨by decide, _, rfl, rfl⟩ ?_
      refine sw_bipush (v := nI 8) dX3_add_44 (by decide) ?_
      refine sw_iload_n dX3_add_46 rfl ?_
      first | refine sw_imulN dX3_add_47 ?_ | refine sw_imul dX3_add_47 ?_
      refine sw_iload_n dX3_add_48 rfl ?_
      first | refine sw_iaddN dX3_add_49 ?_ | refine sw_iadd dX3_add_49 ?_
      refine sw_iconst (v := nI 0) dX3_add_50 (by decide) ?_
      refine sw_iast dX3_add_51 rfl (by simp only [plA]; omega) ?_
      first | refine sw_iincN (b := 1) dX3_add_52 rfl (by decide) rfl ?_ | refine sw_iinc dX3_add_52 rfl rfl (by decide) rfl ?_
      refine sw_goto (tgt := 22) dX3_add_55 (by decide) ?_
      refine ih _ (fun k k4 k5 => ?_) (fun a => ?_) (fun a => ?_)
      · rw [hset_off k k5, hset_off k k4]; exact hg k k4 k5
      · rw [hset_k (by decide), hset_eq, g4]
        by_cases q : a = 8 * z + i
        · rw [if_pos ⟨rfl, q⟩, if_pos (by omega)]
        · rw [if_neg (fun r => q r.2)]
          by_cases r : 8 * z ≤ a ∧ a < 8 * z + i
          · rw [if_pos r, if_pos (by omega)]
          · rw [if_neg r, if_neg (by omega)]
      · rw [hset_eq, hset_k (by decide), g5]
        by_cases q : a = 8 * z + i
        · rw [if_pos ⟨rfl, q⟩, if_pos (by omega)]
        · rw [if_neg (fun r => q r.2)]
          by_cases r : 8 * z ≤ a ∧ a < 8 * z + i
          · rw [if_pos r, if_pos (by omega)]
          · rw [if_neg r, if_neg (by omega)]
end TAB
end
section
/-! sheets, and the class's own ranges -/
theorem k4 {P : Nat → Prop} {k : Nat} (hk : k < 4) (h0 : P 0) (h1 : P 1) (h2 : P 2) (h3 : P 3) : P k := by
  rcases (show k = 0 ∨ k = 1 ∨ k = 2 ∨ k = 3 by omega) with rfl | rfl | rfl | rfl <;> assumption
theorem obL {k : Nat} (hk : k < 4) : ob (20 + k) 2 1 none := k4 (P := fun k => ob (20 + k) 2 1 none) hk ⟨by decide, _, rfl, rfl⟩ ⟨by decide, _, rfl, rfl⟩ ⟨by decide, _, rfl, rfl⟩ ⟨by decide, _, rfl, rfl⟩
theorem obZ {k : Nat} (hk : k < 4) : ob (20 + k) 2 2 none := k4 (P := fun k => ob (20 + k) 2 2 none) hk ⟨by decide, _, rfl, rfl⟩ ⟨by decide, _, rfl, rfl⟩ ⟨by decide, _, rfl, rfl⟩ ⟨by decide, _, rfl, rfl⟩
theorem obC {k : Nat} (hk : k < 4) : ob (20 + k) 2 0 (some (24 + k)) := k4 (P := fun k => ob (20 + k) 2 0 (some (24 + k))) hk ⟨by decide, _, rfl, rfl⟩ ⟨by decide, _, rfl, rfl⟩ ⟨by decide, _, rfl, rfl⟩ ⟨by decide, _, rfl, rfl⟩
theorem isI_C {k : Nat} (hk : k < 4) : isI (24 + k) = true := k4 (P := fun k => isI (24 + k) = true) hk rfl rfl rfl rfl
theorem plA_C {k : Nat} (hk : k < 4) : plA (24 + k) = 64 := k4 (P := fun k => plA (24 + k) = 64) hk rfl rfl rfl rfl
def nar (lane v : Int32) : Int32 := if lane = 0 then v.toInt8.toInt32 else if lane = 1 then v.toInt16.toInt32 else v
section SHEET
variable {h : Hp} {k : Nat}
theorem c_isNothing (hk : k < 4) : Ctr jX2_isNothing [.ref (20 + k)] h (Ret (bI (decide (h (20 + k) 1 = -1))) h) := by
  refine ctr_start (by decide) (Nat.le_of_ble_eq_true rfl) rfl rfl ?_
  show SW jX2_isNothing E0 _ 0 [some (.ref (20 + k))] [] _
  refine sw_aload_n dX2_isNothing_0 rfl ?_
  refine sw_getI dX2_isNothing_1 flX2_15 (obL hk) ?_
  refine sw_iconst (v := (-1)) dX2_isNothing_4 (by decide) ?_
  refine sw_icmp_ne (tgt := 12) dX2_isNothing_5 (by decide) (fun hc => ?_) (fun hc => ?_)
  · refine sw_iconst (v := nI 0) dX2_isNothing_12 (by decide) ?_
    refine sw_zret dX2_isNothing_13 rfl rfl rfl rfl ?_
    exact ⟨by rw [decide_eq_false hc]; rfl, rfl⟩
  · refine sw_iconst (v := nI 1) dX2_isNothing_8 (by decide) ?_
    refine sw_goto (tgt := 13) dX2_isNothing_9 (by decide) ?_
    refine sw_zret dX2_isNothing_13 rfl rfl rfl rfl ?_
    exact ⟨by rw [decide_eq_true hc]; rfl, rfl⟩
theorem c_hasCell (hk : k < 4) {s : Nat} (hs : s ≤ 64) (hz : h (20 + k) 2 = nI s) (i : Int32) : Ctr jX2_hasCell [.ref (20 + k), .int i] h (Ret (bI (rg 0 ((s : Int) - 1) i)) h) := by
  refine ctr_start (by decide) (Nat.le_of_ble_eq_true rfl) rfl rfl ?_
  show SW jX2_hasCell E0 _ 0 [some (.ref (20 + k)), some (.int i)] [] _
  refine sw_iload_n dX2_hasCell_0 rfl ?_
  refine sw_if_lt (tgt := 16) dX2_hasCell_1 (by decide) (fun hc => ?_) (fun hc => ?_)
  · rw [i_lt, t_0] at hc
    refine sw_iconst (v := nI 0) dX2_hasCell_16 (by decide) ?_
    refine sw_zret dX2_hasCell_17 rfl rfl rfl rfl ?_
    exact ⟨by rw [rg_f1 hc]; rfl, rfl⟩
  · rw [i_lt, t_0] at hc
    refine sw_iload_n dX2_hasCell_4 rfl ?_
    refine sw_aload_n dX2_hasCell_5 rfl ?_
    refine sw_getI dX2_hasCell_6 flX2_19 (obZ hk) ?_
    rw [hz]
    have hc0 := hc
    clear hc
    refine sw_icmp_ge (tgt := 16) dX2_hasCell_9 (by decide) (fun hc => ?_) (fun hc => ?_)
    · rw [i_le, t_N (by omega)] at hc
      refine sw_iconst (v := nI 0) dX2_hasCell_16 (by decide) ?_
      refine sw_zret dX2_hasCell_17 rfl rfl rfl rfl ?_
      exact ⟨by rw [rg_f2 (by omega)]; rfl, rfl⟩
    · rw [i_le, t_N (by omega)] at hc
      refine sw_iconst (v := nI 1) dX2_hasCell_12 (by decide) ?_
      refine sw_goto (tgt := 17) dX2_hasCell_13 (by decide) ?_
      refine sw_zret dX2_hasCell_17 rfl rfl rfl rfl ?_
      exact ⟨by rw [rg_t (by omega) (by omega)]; rfl, rfl⟩
theorem c_renew (hk : k < 4) (lane s : Int32) : Ctr jX2_renew [.ref (20 + k), .int lane, .int s] h (RetV (hset (hset (hfl h (24 + k) (nI 0) 64) (20 + k) 1 lane) (20 + k) 2 s)) := by
  refine ctr_start (by decide) (Nat.le_of_ble_eq_true rfl) rfl rfl ?_
  show SW jX2_renew E0 _ 0 [some (.ref (20 + k)), some (.int lane), some (.int s)] [] _
  refine sw_aload_n dX2_renew_0 rfl ?_
  refine sw_getR dX2_renew_1 flX2_9 (obC hk) ?_
  refine sw_iconst (v := nI 0) dX2_renew_4 (by decide) ?_
  refine sw_csv (c_fill (isI_C hk) (nI 0)) dX2_renew_5 lkX2_22 (by decide) rfl rfl (Nat.le_of_ble_eq_true rfl) ?_
  rw [plA_C hk]
  refine sw_aload_n dX2_renew_8 rfl ?_
  refine sw_iload_n dX2_renew_9 rfl ?_
  refine sw_put dX2_renew_10 fpX2_15 (obL hk) rfl rfl ?_
  refine sw_aload_n dX2_renew_13 rfl ?_
  refine sw_iload_n dX2_renew_14 rfl ?_
  refine sw_put dX2_renew_15 fpX2_19 (obZ hk) rfl rfl ?_
  refine sw_vret dX2_renew_18 rfl rfl rfl ?_
  exact ⟨rfl, rfl⟩
theorem c_write (hk : k < 4) {i : Nat} (hi : i < 64) (v : Int32) : Ctr jX2_write [.ref (20 + k), .int (nI i), .int v] h (RetV (hset h (24 + k) i (nar (h (20 + k) 1) v))) := by
  have hp : i < plA (24 + k) := by rw [plA_C hk]; exact hi
  refine ctr_start (by decide) (Nat.le_of_ble_eq_true rfl) rfl rfl ?_
  show SW jX2_write E0 _ 0 [some (.ref (20 + k)), some (.int (nI i)), some (.int v)] [] _
  refine sw_aload_n dX2_write_0 rfl ?_
  refine sw_getI dX2_write_1 flX2_15 (obL hk) ?_
  by_cases h0 : h (20 + k) 1 = 0
  · refine sw_lookup (off := 28) (tgt := 32) dX2_write_4 (by decide) (by rw [h0]; decide) (by decide) ?_
    refine sw_aload_n dX2_write_32 rfl ?_
    refine sw_getR dX2_write_33 flX2_9 (obC hk) ?_
    refine sw_iload_n dX2_write_36 rfl ?_
    refine sw_iload_n dX2_write_37 rfl ?_
    refine sw_i2b dX2_write_38 ?_
    refine sw_iast dX2_write_39 (isI_C hk) hp ?_
    refine sw_goto (tgt := 61) dX2_write_40 (by decide) ?_
    refine sw_vret dX2_write_61 rfl rfl rfl ?_
    exact ⟨rfl, by simp [nar, h0]⟩
  · by_cases h1 : h (20 + k) 1 = 1
    · refine sw_lookup (off := 39) (tgt := 43) dX2_write_4 (by decide) (by rw [h1]; decide) (by decide) ?_
      refine sw_aload_n dX2_write_43 rfl ?_
      refine sw_getR dX2_write_44 flX2_9 (obC hk) ?_
      refine sw_iload_n dX2_write_47 rfl ?_
      refine sw_iload_n dX2_write_48 rfl ?_
      refine sw_i2s dX2_write_49 ?_
      refine sw_iast dX2_write_50 (isI_C hk) hp ?_
      refine sw_goto (tgt := 61) dX2_write_51 (by decide) ?_
      refine sw_vret dX2_write_61 rfl rfl rfl ?_
      exact ⟨rfl, by simp [nar, h0, h1]⟩
    · refine sw_lookup (off := 50) (tgt := 54) dX2_write_4 (by decide) ?_ (by decide) ?_
      · show Op.lookupswitch.offset [(0, 28), (1, 39)] 50 _ = 50
        rw [lv_osw h0 (by decide), lv_osw h1 (by decide)]
        rfl
      · refine sw_aload_n dX2_write_54 rfl ?_
        refine sw_getR dX2_write_55 flX2_9 (obC hk) ?_
        refine sw_iload_n dX2_write_58 rfl ?_
        refine sw_iload_n dX2_write_59 rfl ?_
        refine sw_iast dX2_write_60 (isI_C hk) hp ?_
        refine sw_vret dX2_write_61 rfl rfl rfl ?_
        exact ⟨rfl, by simp [nar, h0, h1]⟩
end SHEET
theorem c_isWeight {h : Hp} (v : Int32) : Ctr jX4_isWeight [.int v] h (Ret (bI (rg (0) 1000 v)) h) := by
  refine ctr_start (by decide) (Nat.le_of_ble_eq_true rfl) rfl rfl ?_
  show SW jX4_isWeight E0 _ 0 [some (.int v)] [] _
  refine sw_iload_n dX4_isWeight_0 rfl ?_
  refine sw_if_lt (tgt := 15) dX4_isWeight_1 (by decide) (fun hc => ?_) (fun hc => ?_)
  · rw [i_lt, t_0] at hc
    refine sw_iconst (v := nI 0) dX4_isWeight_15 (by decide) ?_
    refine sw_zret dX4_isWeight_16 rfl rfl rfl rfl ?_
    exact ⟨by rw [rg_f1 (by omega)]; rfl, rfl⟩
  · rw [i_lt, t_0] at hc
    have hc0 := hc
    clear hc
    refine sw_iload_n dX4_isWeight_4 rfl ?_
    refine sw_sipush (v := nI 1000) dX4_isWeight_5 (by decide) ?_
    refine sw_icmp_gt (tgt := 15) dX4_isWeight_8 (by decide) (fun hc => ?_) (fun hc => ?_)
    · rw [i_lt, t_N (by omega)] at hc
      refine sw_iconst (v := nI 0) dX4_isWeight_15 (by decide) ?_
      refine sw_zret dX4_isWeight_16 rfl rfl rfl rfl ?_
      exact ⟨by rw [rg_f2 (by omega)]; rfl, rfl⟩
    · rw [i_lt, t_N (by omega)] at hc
      refine sw_iconst (v := nI 1) dX4_isWeight_11 (by decide) ?_
      refine sw_goto (tgt := 16) dX4_isWeight_12 (by decide) ?_
      refine sw_zret dX4_isWeight_16 rfl rfl rfl rfl ?_
      exact ⟨by rw [rg_t (by omega) (by omega)]; rfl, rfl⟩
theorem c_isStake {h : Hp} (v : Int32) : Ctr jX4_isStake [.int v] h (Ret (bI (rg (-100) 100 v)) h) := by
  refine ctr_start (by decide) (Nat.le_of_ble_eq_true rfl) rfl rfl ?_
  show SW jX4_isStake E0 _ 0 [some (.int v)] [] _
  refine sw_iload_n dX4_isStake_0 rfl ?_
  refine sw_bipush (v := (-100)) dX4_isStake_1 (by decide) ?_
  refine sw_icmp_lt (tgt := 16) dX4_isStake_3 (by decide) (fun hc => ?_) (fun hc => ?_)
  · rw [i_lt, (show ((-100) : Int32).toInt = -100 by decide)] at hc
    refine sw_iconst (v := nI 0) dX4_isStake_16 (by decide) ?_
    refine sw_zret dX4_isStake_17 rfl rfl rfl rfl ?_
    exact ⟨by rw [rg_f1 (by omega)]; rfl, rfl⟩
  · rw [i_lt, (show ((-100) : Int32).toInt = -100 by decide)] at hc
    have hc0 := hc
    clear hc
    refine sw_iload_n dX4_isStake_6 rfl ?_
    refine sw_bipush (v := nI 100) dX4_isStake_7 (by decide) ?_
    refine sw_icmp_gt (tgt := 16) dX4_isStake_9 (by decide) (fun hc => ?_) (fun hc => ?_)
    · rw [i_lt, t_N (by omega)] at hc
      refine sw_iconst (v := nI 0) dX4_isStake_16 (by decide) ?_
      refine sw_zret dX4_isStake_17 rfl rfl rfl rfl ?_
      exact ⟨by rw [rg_f2 (by omega)]; rfl, rfl⟩
    · rw [i_lt, t_N (by omega)] at hc
      refine sw_iconst (v := nI 1) dX4_isStake_12 (by decide) ?_
      refine sw_goto (tgt := 17) dX4_isStake_13 (by decide) ?_
      refine sw_zret dX4_isStake_17 rfl rfl rfl rfl ?_
      exact ⟨by rw [rg_t (by omega) (by omega)]; rfl, rfl⟩
theorem c_isRayNumber {h : Hp} (v : Int32) : Ctr jX4_isRayNumber [.int v] h (Ret (bI (rg (-5) 5 v)) h) := by
  refine ctr_start (by decide) (Nat.le_of_ble_eq_true rfl) rfl rfl ?_
  show SW jX4_isRayNumber E0 _ 0 [some (.int v)] [] _
  refine sw_iload_n dX4_isRayNumber_0 rfl ?_
  refine sw_bipush (v := (-5)) dX4_isRayNumber_1 (by decide) ?_
  refine sw_icmp_lt (tgt := 15) dX4_isRayNumber_3 (by decide) (fun hc => ?_) (fun hc => ?_)
  · rw [i_lt, (show ((-5) : Int32).toInt = -5 by decide)] at hc
    refine sw_iconst (v := nI 0) dX4_isRayNumber_15 (by decide) ?_
    refine sw_zret dX4_isRayNumber_16 rfl rfl rfl rfl ?_
    exact ⟨by rw [rg_f1 (by omega)]; rfl, rfl⟩
  · rw [i_lt, (show ((-5) : Int32).toInt = -5 by decide)] at hc
    have hc0 := hc
    clear hc
    refine sw_iload_n dX4_isRayNumber_6 rfl ?_
    refine sw_iconst (v := nI 5) dX4_isRayNumber_7 (by decide) ?_
    refine sw_icmp_gt (tgt := 15) dX4_isRayNumber_8 (by decide) (fun hc => ?_) (fun hc => ?_)
    · rw [i_lt, t_N (by omega)] at hc
      refine sw_iconst (v := nI 0) dX4_isRayNumber_15 (by decide) ?_
      refine sw_zret dX4_isRayNumber_16 rfl rfl rfl rfl ?_
      exact ⟨by rw [rg_f2 (by omega)]; rfl, rfl⟩
    · rw [i_lt, t_N (by omega)] at hc
      refine sw_iconst (v := nI 1) dX4_isRayNumber_11 (by decide) ?_
      refine sw_goto (tgt := 16) dX4_isRayNumber_12 (by decide) ?_
      refine sw_zret dX4_isRayNumber_16 rfl rfl rfl rfl ?_
      exact ⟨by rw [rg_t (by omega) (by omega)]; rfl, rfl⟩
theorem c_isSheet {h : Hp} (v : Int32) : Ctr jX4_isSheet [.int v] h (Ret (bI (rg (0) 3 v)) h) := by
  refine ctr_start (by decide) (Nat.le_of_ble_eq_true rfl) rfl rfl ?_
  show SW jX4_isSheet E0 _ 0 [some (.int v)] [] _
  refine sw_iload_n dX4_isSheet_0 rfl ?_
  refine sw_if_lt (tgt := 13) dX4_isSheet_1 (by decide) (fun hc => ?_) (fun hc => ?_)
  · rw [i_lt, t_0] at hc
    refine sw_iconst (v := nI 0) dX4_isSheet_13 (by decide) ?_
    refine sw_zret dX4_isSheet_14 rfl rfl rfl rfl ?_
    exact ⟨by rw [rg_f1 (by omega)]; rfl, rfl⟩
  · rw [i_lt, t_0] at hc
    have hc0 := hc
    clear hc
    refine sw_iload_n dX4_isSheet_4 rfl ?_
    refine sw_iconst (v := nI 4) dX4_isSheet_5 (by decide) ?_
    refine sw_icmp_ge (tgt := 13) dX4_isSheet_6 (by decide) (fun hc => ?_) (fun hc => ?_)
    · rw [i_le, t_N (by omega)] at hc
      refine sw_iconst (v := nI 0) dX4_isSheet_13 (by decide) ?_
      refine sw_zret dX4_isSheet_14 rfl rfl rfl rfl ?_
      exact ⟨by rw [rg_f2 (by omega)]; rfl, rfl⟩
    · rw [i_le, t_N (by omega)] at hc
      refine sw_iconst (v := nI 1) dX4_isSheet_9 (by decide) ?_
      refine sw_goto (tgt := 14) dX4_isSheet_10 (by decide) ?_
      refine sw_zret dX4_isSheet_14 rfl rfl rfl rfl ?_
      exact ⟨by rw [rg_t (by omega) (by omega)]; rfl, rfl⟩
theorem c_isLane {h : Hp} (v : Int32) : Ctr jX4_isLane [.int v] h (Ret (bI (rg (0) 2 v)) h) := by
  refine ctr_start (by decide) (Nat.le_of_ble_eq_true rfl) rfl rfl ?_
  show SW jX4_isLane E0 _ 0 [some (.int v)] [] _
  refine sw_iload_n dX4_isLane_0 rfl ?_
  refine sw_if_lt (tgt := 13) dX4_isLane_1 (by decide) (fun hc => ?_) (fun hc => ?_)
  · rw [i_lt, t_0] at hc
    refine sw_iconst (v := nI 0) dX4_isLane_13 (by decide) ?_
    refine sw_zret dX4_isLane_14 rfl rfl rfl rfl ?_
    exact ⟨by rw [rg_f1 (by omega)]; rfl, rfl⟩
  · rw [i_lt, t_0] at hc
    have hc0 := hc
    clear hc
    refine sw_iload_n dX4_isLane_4 rfl ?_
    refine sw_iconst (v := nI 3) dX4_isLane_5 (by decide) ?_
    refine sw_icmp_ge (tgt := 13) dX4_isLane_6 (by decide) (fun hc => ?_) (fun hc => ?_)
    · rw [i_le, t_N (by omega)] at hc
      refine sw_iconst (v := nI 0) dX4_isLane_13 (by decide) ?_
      refine sw_zret dX4_isLane_14 rfl rfl rfl rfl ?_
      exact ⟨by rw [rg_f2 (by omega)]; rfl, rfl⟩
    · rw [i_le, t_N (by omega)] at hc
      refine sw_iconst (v := nI 1) dX4_isLane_9 (by decide) ?_
      refine sw_goto (tgt := 14) dX4_isLane_10 (by decide) ?_
      refine sw_zret dX4_isLane_14 rfl rfl rfl rfl ?_
      exact ⟨by rw [rg_t (by omega) (by omega)]; rfl, rfl⟩
end
section
/-! the search of a parting -/
theorem sw_mmax {J : Mt} {E : ExT} {Z : ZT} {pc : Nat} {L : List (Option Value)} {st : List Value} {h : Hp} {idx : Nat} {x y : Int32} (hd : decode J.c pc = .ok (.invokestatic idx, 3)) (hlk : Cond.methodLink J.y.cls idx Lib.Math.max.name ∈ ws0) (hst : Cond.static Lib.Math.max.name ∈ ws0) (hini : Cond.initialized "java/lang/Math" ∈ ws0) (hco : Cond.code Lib.Math.max.name Lib.Math.max.code 2 (some .int) ∈ ws0) (hf : 1 ≤ J.R.frames) (hlo : (st.map Value.category).sum + 13 ≤ J.R.locals) (hk : J.k ≤ J.R.cells) (hs : J.s ≤ J.R.slots) (k : SW J E Z (pc + 3) L (.int (if x < y then y else x) :: st) h) : SW J E Z pc L (.int y :: .int x :: st) h := by
  intro p l e s m args below meth c dC dI cI cZ cS ad F H locs ls hP hD hS hl
  have hsum : ((st.map (trV ad)).map fun v => v.category) = st.map Value.category := by rw [List.map_map]; congr 1; funext v; exact trV_cat ad v
  exact va_mmax F.1 F.2.1 (F.2.2.1.trans hl.1.symm) F.2.2.2.1 (F.2.2.2.2.1 _ hlk) (F.2.2.2.2.1 _ hst) (F.2.2.2.2.1 _ hini) (F.2.2.2.2.1 _ hco) hf (by rw [hsum]; exact hlo) hk hs hd (k p l e s m args below meth c dC dI cI cZ cS ad F H locs ls hP hD hS hl)
theorem sw_mmin {J : Mt} {E : ExT} {Z : ZT} {pc : Nat} {L : List (Option Value)} {st : List Value} {h : Hp} {idx : Nat} {x y : Int32} (hd : decode J.c pc = .ok (.invokestatic idx, 3)) (hlk : Cond.methodLink J.y.cls idx Lib.Math.min.name ∈ ws0) (hst : Cond.static Lib.Math.min.name ∈ ws0) (hini : Cond.initialized "java/lang/Math" ∈ ws0) (hco : Cond.code Lib.Math.min.name Lib.Math.min.code 2 (some .int) ∈ ws0) (hf : 1 ≤ J.R.frames) (hlo : (st.map Value.category).sum + 13 ≤ J.R.locals) (hk : J.k ≤ J.R.cells) (hs : J.s ≤ J.R.slots) (k : SW J E Z (pc + 3) L (.int (if y < x then y else x) :: st) h) : SW J E Z pc L (.int y :: .int x :: st) h := by
  intro p l e s m args below meth c dC dI cI cZ cS ad F H locs ls hP hD hS hl
  have hsum : ((st.map (trV ad)).map fun v => v.category) = st.map Value.category := by rw [List.map_map]; congr 1; funext v; exact trV_cat ad v
  exact va_mmin F.1 F.2.1 (F.2.2.1.trans hl.1.symm) F.2.2.2.1 (F.2.2.2.2.1 _ hlk) (F.2.2.2.2.1 _ hst) (F.2.2.2.2.1 _ hini) (F.2.2.2.2.1 _ hco) hf (by rw [hsum]; exact hlo) hk hs hd (k p l e s m args below meth c dC dI cI cZ cS ad F H locs ls hP hD hS hl)
theorem sw_acopy {J : Mt} {E : ExT} {Z : ZT} {pc : Nat} {L : List (Option Value)} {st : List Value} {h : Hp} {idx : Nat} (hd : decode J.c pc = .ok (.invokestatic idx, 3)) (hlk : Cond.methodLink J.y.cls idx arraycopyName ∈ ws0) (hnat : Cond.native arraycopyName ∈ ws0) (hst : Cond.static arraycopyName ∈ ws0) (hini : Cond.initialized "java/lang/System" ∈ ws0) (hf : 1 ≤ J.R.frames) (hlo : (st.map Value.category).sum + (nativeFrameWords "java/lang/System" "arraycopy" 5 + 11) ≤ J.R.locals) (k : SW J E Z (pc + 3) L st (fun k => if k = 12 then va_cpy (h 4) (h 12) 0 0 64 else h k)) : SW J E Z pc L (.int (nI 64) :: .int (nI 0) :: .ref 12 :: .int (nI 0) :: .ref 4 :: st) h := by
  intro p l e s m args below meth c dC dI cI cZ cS ad F H locs ls hP hD hS hl
  have hsum : ((st.map (trV ad)).map fun v => v.category) = st.map Value.category := by rw [List.map_map]; congr 1; funext v; exact trV_cat ad v
  have z0 : (nI 0).toNatClampNeg = 0 := nI_clamp (by omega)
  have z64 : (nI 64).toNatClampNeg = 64 := nI_clamp (by omega)
  refine va_copyi F.1 F.2.1 (F.2.2.1.trans hl.1.symm) F.2.2.2.1 (F.2.2.2.2.1 _ hlk) (F.2.2.2.2.1 _ hnat) (F.2.2.2.2.1 _ hst) (F.2.2.2.2.1 _ hini) F.2.2.2.2.2.1 hP hD hS 4 12 0 0 (isI_cE (k := 4) rfl) (isI_cE (k := 12) rfl) rfl rfl rfl (by decide) (by decide) (by decide) (by rw [z0, z64]; decide) (by rw [z0, z64]; decide) (fun _ _ => rfl) hf (by rw [hsum]; exact hlo) hd (fun H1 locs1 hP1 hD1 hS1 => ?_)
  rw [z0, z64] at hP1 hD1
  have ee := isI_set (k := 12) rfl (cI := cI) (cZ := cZ) (cS := cS) (ad := ad) (h := h) (h' := fun k => if k = 12 then va_cpy (h 4) (h 12) 0 0 64 else h k) (f := va_cpy (h 4) (h 12) 0 0 64) (fun a ha => by simp [ha]) (by simp)
  rw [ee] at hP1 hD1
  exact k p l e s m args below meth c dC dI cI cZ cS ad F H1 locs1 ls hP1 hD1 hS1 hl
def fitB (z : Nat) (sm : Nat → Nat) (lf : Nat → Nat) (x : Nat) : Bool := allB (fun c => decide (0 < lf (8 * c + jnt (sm c) x))) z
def hasJ (z : Nat) (sm : Nat → Nat) (x k : Nat) : Prop := k / 8 < z ∧ jnt (sm (k / 8)) x = k % 8
def chU (z : Nat) (sm : Nat → Nat) (lf : Nat → Nat) (x : Nat) : Nat → Nat := fun k => if k / 8 < z ∧ jnt (sm (k / 8)) x = k % 8 then lf k + 1 else lf k
def chD (z : Nat) (sm : Nat → Nat) (lf : Nat → Nat) (x : Nat) : Nat → Nat := fun k => if k / 8 < z ∧ jnt (sm (k / 8)) x = k % 8 then lf k - 1 else lf k
def upN (f : Nat → Nat) (k v : Nat) : Nat → Nat := fun j => if j = k then v else f j
/-- the search: how it ends, how many were tried, the row -/
def srch (N T z : Nat) (sm : Nat → Nat) : Nat → Nat → Nat → Nat → (Nat → Nat) → (Nat → Nat) → Int32 × Nat × (Nat → Nat)
  | 0, _, _, tr, _, rw => (-6, tr, rw)
  | f + 1, p, x, tr, lf, rw =>
    if T ≤ p then (1, tr, rw)
    else if N ≤ x then (if p = 0 then (0, tr, rw) else srch N T z sm f (p - 1) (rw (p - 1) + 1) tr (chU z sm lf (rw (p - 1))) rw)
    else if tr = 20000 then (-6, tr, rw)
    else if fitB z sm lf x then srch N T z sm f (p + 1) x (tr + 1) (chD z sm lf x) (upN rw p x)
    else srch N T z sm f p (x + 1) (tr + 1) lf rw
section PART
variable {h : Hp} {n z : Nat} {sm : Nat → Nat}
theorem c_fits (T : TX h n z sm) {lf : Nat → Nat} (hl : ∀ k, k < 64 → h 12 k = nI (lf k)) (hb : ∀ k, k < 64 → lf k < 2 ^ 31) {x : Nat} (hx : x < 2 ^ n) : Ctr jX0_fits [.ref 10, .ref 1, .int (nI x)] h (Ret (bI (fitB z sm lf x)) h) := by
  have hz8 := T.1.2.1
  have hz := T.1.2.2.2
  refine ctr_start (by decide) (Nat.le_of_ble_eq_true rfl) rfl rfl ?_
  show SW jX0_fits E0 _ 0 [some (.ref 10), some (.ref 1), some (.int (nI x)), none] [] _
  refine sw_iconst (v := nI 0) dX0_fits_0 (by decide) ?_
  refine sw_istore_n dX0_fits_1 (by decide) rfl ?_
  refine lp_up (n := z) (S := fun i => fitB i sm lf x = true → SW jX0_fits E0 (Zm (Ret (bI (fitB z sm lf x)) h)) 2 [some (.ref 10), some (.ref 1), some (.int (nI x)), some (.int (nI i))] [] h) ?_ ?_ 0 (by omega) rfl
  · intro ha
    refine sw_iload_n dX0_fits_2 rfl ?_
    refine sw_aload_n dX0_fits_3 rfl ?_
    refine sw_getNI dX0_fits_4 fnX0_72 ⟨by decide, _, rfl, rfl⟩ ?_
    rw [hz]
    refine sw_icmpN_ge (tgt := 32) dX0_fits_7 (by decide) (by omega) (by omega) (fun hc => ?_) (fun hc => ?_)
    · refine sw_iconst (v := nI 1) dX0_fits_32 (by decide) ?_
      refine sw_zret dX0_fits_33 rfl rfl rfl rfl ?_
      exact ⟨by rw [ha]; rfl, rfl⟩
    · omega
  · intro i hi ih ha
    have hj := T.j8 hi x
    have hk : 8 * i + jnt (sm i) x < 64 := by omega
    refine sw_iload_n dX0_fits_2 rfl ?_
    refine sw_aload_n dX0_fits_3 rfl ?_
    refine sw_getNI dX0_fits_4 fnX0_72 ⟨by decide, _, rfl, rfl⟩ ?_
    rw [hz]
    refine sw_icmpN_ge (tgt := 32) dX0_fits_7 (by decide) (by omega) (by omega) (fun hc => ?_) (fun hc => ?_)
    · omega
    · refine sw_aload_n dX0_fits_10 rfl ?_
      refine sw_getR dX0_fits_11 flX0_15 ⟨by decide, _, rfl, rfl⟩ ?_
      refine sw_aload_n dX0_fits_14 rfl ?_
      refine sw_iload_n dX0_fits_15 rfl ?_
      refine sw_iload_n dX0_fits_16 rfl ?_
      refine sw_cvi (i := 0) (c_placeBy T hi hx) dX0_fits_17 lkX0_75 (by decide) ⟨by decide, _, rfl, rfl⟩ rfl rfl rfl (Nat.le_of_ble_eq_true rfl) ?_
      refine sw_iald dX0_fits_20 rfl (by simp only [plA]; omega) ?_
      rw [hl _ hk]
      clear hc
      refine sw_if_ne (tgt := 26) dX0_fits_21 (by decide) (fun hc => ?_) (fun hc => ?_)
      · have hp : 0 < lf (8 * i + jnt (sm i) x) := Nat.pos_of_ne_zero (fun q => hc (by rw [q]; rfl))
        first | refine sw_iincN (b := 1) dX0_fits_26 rfl (by decide) rfl ?_ | refine sw_iinc dX0_fits_26 rfl rfl (by decide) rfl ?_
        refine sw_goto (tgt := 2) dX0_fits_29 (by decide) ?_
        exact ih (by unfold fitB at ha ⊢; simp only [allB, ha, Bool.true_and]; exact decide_eq_true hp)
      · have hp : lf (8 * i + jnt (sm i) x) = 0 := (nI_eq (hb _ hk) (by omega)).mp hc
        refine sw_iconst (v := nI 0) dX0_fits_24 (by decide) ?_
        refine sw_zret dX0_fits_25 rfl rfl rfl rfl ?_
        exact ⟨by unfold fitB; rw [allB_f hi (decide_eq_false (by rw [hp]; omega))]; rfl, rfl⟩
theorem c_change (T : TX h n z sm) {x : Nat} (hx : x < 2 ^ n) (b : Int32) : Ctr jX0_change [.ref 10, .ref 1, .int (nI x), .int b] h (fun v g => v = none ∧ Sam 12 h g ∧ ∀ k, k < 64 → g 12 k = if k / 8 < z ∧ jnt (sm (k / 8)) x = k % 8 then h 12 k + b else h 12 k) := by
  have hz8 := T.1.2.1
  refine ctr_start (by decide) (Nat.le_of_ble_eq_true rfl) rfl rfl ?_
  show SW jX0_change E0 _ 0 [some (.ref 10), some (.ref 1), some (.int (nI x)), some (.int b), none] [] _
  refine sw_iconst (v := nI 0) dX0_change_0 (by decide) ?_
  refine sw_istore dX0_change_1 (by decide) rfl ?_
  have key := lp_up (n := z) (S := fun c => ∀ g, Sam 12 h g → (∀ k, k < 64 → g 12 k = if k / 8 < c ∧ jnt (sm (k / 8)) x = k % 8 then h 12 k + b else h 12 k) → SW jX0_change E0 (Zm (fun v g => v = none ∧ Sam 12 h g ∧ ∀ k, k < 64 → g 12 k = if k / 8 < z ∧ jnt (sm (k / 8)) x = k % 8 then h 12 k + b else h 12 k)) 3 [some (.ref 10), some (.ref 1), some (.int (nI x)), some (.int b), some (.int (nI c))] [] g) ?_ ?_ 0 (Nat.zero_le _) h Sam.rf (fun k hk => by rw [if_neg (fun q => Nat.not_lt_zero _ q.1)])
  · exact key
  · intro g hS hg
    have hz := (hS.T (by decide) T).1.2.2.2
    refine sw_iload dX0_change_3 rfl ?_
    refine sw_aload_n dX0_change_5 rfl ?_
    refine sw_getNI dX0_change_6 fnX0_72 ⟨by decide, _, rfl, rfl⟩ ?_
    rw [hz]
    refine sw_icmpN_ge (tgt := 34) dX0_change_9 (by decide) (by omega) (by omega) (fun hc => ?_) (fun hc => ?_)
    · refine sw_vret dX0_change_34 rfl rfl rfl ?_
      exact ⟨rfl, hS, hg⟩
    · omega
  · intro c hcz ih g hS hg
    have T' := hS.T (by decide) T
    have hz := T'.1.2.2.2
    have hj := T.j8 hcz x
    refine sw_iload dX0_change_3 rfl ?_
    refine sw_aload_n dX0_change_5 rfl ?_
    refine sw_getNI dX0_change_6 fnX0_72 ⟨by decide, _, rfl, rfl⟩ ?_
    rw [hz]
    refine sw_icmpN_ge (tgt := 34) dX0_change_9 (by decide) (by omega) (by omega) (fun hc => ?_) (fun hc => ?_)
    · omega
    · clear hc
      refine sw_aload_n dX0_change_12 rfl ?_
      refine sw_getR dX0_change_13 flX0_15 ⟨by decide, _, rfl, rfl⟩ ?_
      refine sw_aload_n dX0_change_16 rfl ?_
      refine sw_iload dX0_change_17 rfl ?_
      refine sw_iload_n dX0_change_19 rfl ?_
      refine sw_cvi (i := 0) (c_placeBy T' hcz hx) dX0_change_20 lkX0_75 (by decide) ⟨by decide, _, rfl, rfl⟩ rfl rfl rfl (Nat.le_of_ble_eq_true rfl) ?_
      refine sw_dup2 dX0_change_23 rfl rfl ?_
      refine sw_iald dX0_change_24 rfl (by simp only [plA]; omega) ?_
      refine sw_iload_n dX0_change_25 rfl ?_
      refine sw_iadd dX0_change_26 ?_
      refine sw_iast dX0_change_27 rfl (by simp only [plA]; omega) ?_
      first | refine sw_iincN (b := 1) dX0_change_28 rfl (by decide) rfl ?_ | refine sw_iinc dX0_change_28 rfl rfl (by decide) rfl ?_
      refine sw_goto (tgt := 3) dX0_change_31 (by decide) ?_
      refine ih _ hS.set (fun k hk => ?_)
      rw [hset_eq]
      by_cases q : k = 8 * c + jnt (sm c) x
      · have e1 : k / 8 = c := by omega
        have e2 : k % 8 = jnt (sm c) x := by omega
        rw [if_pos ⟨rfl, q⟩, if_pos ⟨by omega, by rw [e1, e2]⟩, ← q, hg k hk, if_neg (fun r => by omega)]
      · rw [if_neg (fun r => q r.2), hg k hk]
        by_cases r : k / 8 < c ∧ jnt (sm (k / 8)) x = k % 8
        · rw [if_pos r, if_pos ⟨by omega, r.2⟩]
        · rw [if_neg r, if_neg]
          rintro ⟨r1, r2⟩
          by_cases e : k / 8 = c
          · rw [e] at r2
            omega
          · exact r ⟨by omega, r2⟩
/-- the parting's cells as the search has them -/
def frP (h : Hp) (T : Nat) (S : Int32 × Nat × (Nat → Nat)) (v : Option Value) (g : Hp) : Prop := v = some (.int S.1) ∧ (∀ k, k ≠ 10 → k ≠ 11 → k ≠ 12 → g k = h k) ∧ (∀ i, i ≠ 3 → g 10 i = h 10 i) ∧ g 10 3 = nI S.2.1 ∧ (S.1 = 1 → ∀ i, i < T → g 11 i = nI (S.2.2 i))
theorem findRow_loop (TT : TX h n z sm) {T : Nat} (hT : T ≤ 24) (hTot : h 10 2 = nI T) : ∀ (f p x tr : Nat) (lf rw : Nat → Nat) (g : Hp), p ≤ T → x ≤ 2 ^ n → tr ≤ 20000 → 2 * (20000 - tr) + p + 1 ≤ f → f ≤ 40001 → (∀ k, k < 64 → lf k + f ≤ 41001) → (∀ i, i < p → rw i < 2 ^ n) → (∀ k, k ≠ 10 → k ≠ 11 → k ≠ 12 → g k = h k) → (∀ i, i ≠ 3 → g 10 i = h 10 i) → g 10 3 = nI tr → (∀ i, i < p → g 11 i = nI (rw i)) → (∀ k, k < 64 → g 12 k = nI (lf k)) → SW jX0_findRow E0 (Zm (frP h T (srch (2 ^ n) T z sm f p x tr lf rw))) 7 [some (.ref 10), some (.ref 1), some (.int (nI p)), some (.int (nI x)), some (.int (nI (40001 - f)))] [] g := by
  have h64 := pow6 TT.1.1
  intro f
  induction f with
  | zero => intro p x tr lf rw g h1 h2 h3 h4; omega
  | succ f ih =>
    intro p x tr lf rw g hp hx htr hmu hf hlf hrw hg hg10 hg3 hg11 hg12
    have TG : TX g n z sm := TX_keep TT (hg 1 (by decide) (by decide) (by decide)) (hg 2 (by decide) (by decide) (by decide)) (hg 6 (by decide) (by decide) (by decide)) (hg 7 (by decide) (by decide) (by decide))
    have htot : g 10 2 = nI T := by rw [hg10 2 (by decide)]; exact hTot
    simp only [srch]
    refine sw_iload dX0_findRow_7 rfl ?_
    refine sw_ldc (v := nI 40000) dX0_findRow_9 (by decide +kernel) ?_
    refine sw_icmpN_gt (tgt := 124) dX0_findRow_11 (by decide) (by omega) (by omega) (fun hc => ?_) (fun hc => ?_)
    · omega
    · clear hc
      refine sw_iload_n dX0_findRow_14 rfl ?_
      refine sw_aload_n dX0_findRow_15 rfl ?_
      refine sw_getI dX0_findRow_16 flX0_18 ⟨by decide, _, rfl, rfl⟩ ?_
      rw [htot]
      refine sw_icmpN_ge (tgt := 124) dX0_findRow_19 (by decide) (by omega) (by omega) (fun hc => ?_) (fun hc => ?_)
      · rw [if_pos hc]
        have hpT : p = T := by omega
        refine sw_iload_n dX0_findRow_124 rfl ?_
        refine sw_aload_n dX0_findRow_125 rfl ?_
        refine sw_getI dX0_findRow_126 flX0_18 ⟨by decide, _, rfl, rfl⟩ ?_
        rw [htot]
        refine sw_icmpN_ne (tgt := 136) dX0_findRow_129 (by decide) (by omega) (by omega) (fun hc => ?_) (fun hc => ?_)
        · omega
        · refine sw_iconst (v := nI 1) dX0_findRow_132 (by decide) ?_
          refine sw_goto (tgt := 138) dX0_findRow_133 (by decide) ?_
          refine sw_iret dX0_findRow_138 rfl rfl rfl ?_
          exact ⟨rfl, hg, hg10, hg3, fun _ i hi => hg11 i (by omega)⟩
      · rw [if_neg (by omega)]
        have hpT := hc
        clear hc
        refine sw_iload_n dX0_findRow_22 rfl ?_
        refine sw_aload_n dX0_findRow_23 rfl ?_
        refine sw_cvi (i := 0) (c_hiddenCount TG.1.2.2.1 TG.1.1) dX0_findRow_24 lkX0_60 (by decide) ⟨by decide, _, rfl, rfl⟩ rfl rfl rfl (Nat.le_of_ble_eq_true rfl) ?_
        refine sw_icmpN_lt (tgt := 63) dX0_findRow_27 (by decide) (by omega) (by omega) (fun hc => ?_) (fun hc => ?_)
        · have hxn := hc
          rw [if_neg (by omega)]
          clear hc
          refine sw_aload_n dX0_findRow_63 rfl ?_
          refine sw_getI dX0_findRow_64 flX0_22 ⟨by decide, _, rfl, rfl⟩ ?_
          rw [hg3]
          refine sw_sipush (v := nI 20000) dX0_findRow_67 (by decide) ?_
          refine sw_icmpN_ne (tgt := 76) dX0_findRow_70 (by decide) (by omega) (by omega) (fun hc => ?_) (fun hc => ?_)
          · rw [if_neg hc]
            have htr2 := hc
            refine sw_aload_n dX0_findRow_76 rfl ?_
            refine sw_dup dX0_findRow_77 rfl ?_
            refine sw_getI dX0_findRow_78 flX0_22 ⟨by decide, _, rfl, rfl⟩ ?_
            rw [hg3]
            refine sw_iconst (v := nI 1) dX0_findRow_81 (by decide) ?_
            first | refine sw_iaddN dX0_findRow_82 ?_ | refine sw_iadd dX0_findRow_82 ?_
            refine sw_put dX0_findRow_83 fpX0_22 ⟨by decide, _, rfl, rfl⟩ rfl rfl ?_
            have TG2 : TX (hset g 10 3 (nI (tr + 1))) n z sm := TX_keep TG (hset_off 1 (by decide)) (hset_off 2 (by decide)) (hset_off 6 (by decide)) (hset_off 7 (by decide))
            have g12' : ∀ k, k < 64 → hset g 10 3 (nI (tr + 1)) 12 k = nI (lf k) := fun k hk => by rw [hset_k (by decide)]; exact hg12 k hk
            refine sw_aload_n dX0_findRow_86 rfl ?_
            refine sw_aload_n dX0_findRow_87 rfl ?_
            refine sw_iload_n dX0_findRow_88 rfl ?_
            refine sw_cvi (i := 0) (c_fits TG2 g12' (fun k hk => by have := hlf k hk; omega) hxn) dX0_findRow_89 lkX0_68 (by decide) ⟨by decide, _, rfl, rfl⟩ rfl rfl rfl (Nat.le_of_ble_eq_true rfl) ?_
            clear hc
            refine sw_if_eq (tgt := 115) dX0_findRow_92 (by decide) (fun hc => ?_) (fun hc => ?_)
            · have hfit := bI_0 hc
              rw [hfit]
              first | refine sw_iincN (b := 1) dX0_findRow_115 rfl (by decide) rfl ?_ | refine sw_iinc dX0_findRow_115 rfl rfl (by decide) rfl ?_
              first | refine sw_iincN (b := 1) dX0_findRow_118 rfl (by decide) rfl ?_ | refine sw_iinc dX0_findRow_118 rfl rfl (by decide) rfl ?_
              refine sw_goto (tgt := 7) dX0_findRow_121 (by decide) ?_
              rw [show 40001 - (f + 1) + 1 = 40001 - f by omega]
              refine ih p (x + 1) (tr + 1) lf rw _ hp (by omega) (by omega) (by omega) (by omega) (fun k hk => by have := hlf k hk; omega) hrw ?_ ?_ hset_at ?_ g12'
              · intro k k1 k2 k3
                rw [hset_off k k1]; exact hg k k1 k2 k3
              · intro i hi
                rw [hset_i hi]; exact hg10 i hi
              · intro i hi
                rw [hset_k (by decide)]; exact hg11 i hi
            · have hfit := bI_1 hc
              rw [if_pos hfit]
              clear hc
              refine sw_aload_n dX0_findRow_95 rfl ?_
              refine sw_aload_n dX0_findRow_96 rfl ?_
              refine sw_iload_n dX0_findRow_97 rfl ?_
              refine sw_iconst (v := (-1)) dX0_findRow_98 (by decide) ?_
              refine sw_callV (i := 0) (c_change TG2 hxn (-1)) dX0_findRow_99 lkX0_64 (by decide) ⟨by decide, _, rfl, rfl⟩ rfl rfl rfl (Nat.le_of_ble_eq_true rfl) (fun v h1 hq => ?_)
              obtain ⟨rfl, hS, hch⟩ := hq
              have e11 : h1 11 = g 11 := by rw [hS 11 (by decide), hset_off 11 (by decide)]
              refine sw_aload_n dX0_findRow_102 rfl ?_
              refine sw_getR dX0_findRow_103 flX0_9 ⟨by decide, _, rfl, rfl⟩ ?_
              refine sw_iload_n dX0_findRow_106 rfl ?_
              refine sw_iload_n dX0_findRow_107 rfl ?_
              refine sw_iast dX0_findRow_108 rfl (by simp only [plA]; omega) ?_
              first | refine sw_iincN (b := 1) dX0_findRow_109 rfl (by decide) rfl ?_ | refine sw_iinc dX0_findRow_109 rfl rfl (by decide) rfl ?_
              refine sw_goto (tgt := 118) dX0_findRow_112 (by decide) ?_
              first | refine sw_iincN (b := 1) dX0_findRow_118 rfl (by decide) rfl ?_ | refine sw_iinc dX0_findRow_118 rfl rfl (by decide) rfl ?_
              refine sw_goto (tgt := 7) dX0_findRow_121 (by decide) ?_
              rw [show 40001 - (f + 1) + 1 = 40001 - f by omega]
              refine ih (p + 1) x (tr + 1) (chD z sm lf x) (upN rw p x) _ (by omega) (by omega) (by omega) (by omega) (by omega) ?_ ?_ ?_ ?_ ?_ ?_ ?_
              · intro k hk
                have := hlf k hk
                unfold chD
                split <;> omega
              · intro i hi
                unfold upN
                split
                · exact hxn
                · exact hrw i (by omega)
              · intro k k1 k2 k3
                rw [hset_off k k2, hS k k3, hset_off k k1]; exact hg k k1 k2 k3
              · intro i hi
                rw [hset_k (by decide), hS 10 (by decide), hset_i hi]; exact hg10 i hi
              · rw [hset_k (by decide), hS 10 (by decide), hset_at]
              · intro i hi
                unfold upN
                by_cases q : i = p
                · rw [q, hset_at, if_pos rfl]
                · rw [hset_i q, if_neg q, e11]; exact hg11 i (by omega)
              · intro k hk
                rw [hset_k (by decide), hch k hk, g12' k hk]
                unfold chD
                by_cases q : k / 8 < z ∧ jnt (sm (k / 8)) x = k % 8
                · rw [if_pos q, if_pos q]
                  have hpos : 0 < lf k := by
                    have := (allB_t.mp hfit) (k / 8) q.1
                    have := of_decide_eq_true this
                    rw [q.2, Nat.div_add_mod] at this
                    exact this
                  exact sb_m1 hpos
                · rw [if_neg q, if_neg q]
          · rw [if_pos hc]
            refine sw_bipush (v := (-6)) dX0_findRow_73 (by decide) ?_
            refine sw_iret dX0_findRow_75 rfl rfl rfl ?_
            exact ⟨rfl, hg, hg10, by rw [hg3], fun q => absurd (show (-6 : Int32) = 1 from q) (by decide)⟩
        · have hxn : x = 2 ^ n := by omega
          rw [if_pos (by omega)]
          clear hc
          refine sw_iload_n dX0_findRow_30 rfl ?_
          refine sw_if_ne (tgt := 36) dX0_findRow_31 (by decide) (fun hc => ?_) (fun hc => ?_)
          · have hp0 : ¬ p = 0 := fun q => hc (by rw [q]; rfl)
            rw [if_neg hp0]
            clear hc
            obtain ⟨r, rfl⟩ : ∃ r, p = r + 1 := ⟨p - 1, by omega⟩
            have hrv := hg11 r (by omega)
            have hrr := hrw r (by omega)
            refine sw_iinc (v := nI r) dX0_findRow_36 rfl (pk_m1 r) (by decide) rfl ?_
            refine sw_aload_n dX0_findRow_39 rfl ?_
            refine sw_aload_n dX0_findRow_40 rfl ?_
            refine sw_aload_n dX0_findRow_41 rfl ?_
            refine sw_getR dX0_findRow_42 flX0_9 ⟨by decide, _, rfl, rfl⟩ ?_
            refine sw_iload_n dX0_findRow_45 rfl ?_
            refine sw_iald dX0_findRow_46 rfl (by simp only [plA]; omega) ?_
            rw [hrv]
            refine sw_iconst (v := nI 1) dX0_findRow_47 (by decide) ?_
            refine sw_callV (i := 0) (c_change TG hrr (nI 1)) dX0_findRow_48 lkX0_64 (by decide) ⟨by decide, _, rfl, rfl⟩ rfl rfl rfl (Nat.le_of_ble_eq_true rfl) (fun v h1 hq => ?_)
            obtain ⟨rfl, hS, hch⟩ := hq
            have e11 : h1 11 = g 11 := hS 11 (by decide)
            refine sw_aload_n dX0_findRow_51 rfl ?_
            refine sw_getR dX0_findRow_52 flX0_9 ⟨by decide, _, rfl, rfl⟩ ?_
            refine sw_iload_n dX0_findRow_55 rfl ?_
            refine sw_iald dX0_findRow_56 rfl (by simp only [plA]; omega) ?_
            rw [show h1 11 r = nI (rw r) by rw [e11]; exact hrv]
            refine sw_iconst (v := nI 1) dX0_findRow_57 (by decide) ?_
            first | refine sw_iaddN dX0_findRow_58 ?_ | refine sw_iadd dX0_findRow_58 ?_
            refine sw_istore_n dX0_findRow_59 (by decide) rfl ?_
            refine sw_goto (tgt := 118) dX0_findRow_60 (by decide) ?_
            first | refine sw_iincN (b := 1) dX0_findRow_118 rfl (by decide) rfl ?_ | refine sw_iinc dX0_findRow_118 rfl rfl (by decide) rfl ?_
            refine sw_goto (tgt := 7) dX0_findRow_121 (by decide) ?_
            rw [show 40001 - (f + 1) + 1 = 40001 - f by omega]
            refine ih r (rw r + 1) tr (chU z sm lf (rw r)) rw _ (by omega) (by omega) htr (by omega) (by omega) ?_ (fun i hi => hrw i (by omega)) ?_ ?_ ?_ ?_ ?_
            · intro k hk
              have := hlf k hk
              unfold chU
              split <;> omega
            · intro k k1 k2 k3
              rw [hS k k3]; exact hg k k1 k2 k3
            · intro i hi
              rw [hS 10 (by decide)]; exact hg10 i hi
            · rw [hS 10 (by decide)]; exact hg3
            · intro i hi
              rw [e11]; exact hg11 i (by omega)
            · intro k hk
              rw [hch k hk, hg12 k hk]
              unfold chU
              by_cases q : k / 8 < z ∧ jnt (sm (k / 8)) (rw r) = k % 8
              · rw [if_pos q, if_pos q, nI_add]
              · rw [if_neg q, if_neg q]
          · have hp0 : p = 0 := (nI_eq (by omega) (by omega)).mp hc
            rw [if_pos hp0]
            refine sw_iconst (v := nI 0) dX0_findRow_34 (by decide) ?_
            refine sw_iret dX0_findRow_35 rfl rfl rfl ?_
            exact ⟨rfl, hg, hg10, hg3, fun q => absurd (show (nI 0) = 1 from q) (by decide)⟩
theorem c_findRow (TT : TX h n z sm) {T : Nat} (hT : T ≤ 24) (hTot : h 10 2 = nI T) (hTr : h 10 3 = nI 0) {lf : Nat → Nat} (hl : ∀ k, k < 64 → h 12 k = nI (lf k)) (hb : ∀ k, k < 64 → lf k ≤ 1000) : Ctr jX0_findRow [.ref 10, .ref 1] h (frP h T (srch (2 ^ n) T z sm 40001 0 0 0 lf (fun _ => 0))) := by
  refine ctr_start (by decide) (Nat.le_of_ble_eq_true rfl) rfl rfl ?_
  show SW jX0_findRow E0 _ 0 [some (.ref 10), some (.ref 1), none, none, none] [] _
  refine sw_iconst (v := nI 0) dX0_findRow_0 (by decide) ?_
  refine sw_istore_n dX0_findRow_1 (by decide) rfl ?_
  refine sw_iconst (v := nI 0) dX0_findRow_2 (by decide) ?_
  refine sw_istore_n dX0_findRow_3 (by decide) rfl ?_
  refine sw_iconst (v := nI 0) dX0_findRow_4 (by decide) ?_
  refine sw_istore dX0_findRow_5 (by decide) rfl ?_
  exact findRow_loop TT hT hTot 40001 0 0 0 lf _ h (by omega) (Nat.zero_le _) (by omega) (by omega) (by omega) (fun k hk => by have := hb k hk; omega) (fun i hi => absurd hi (Nat.not_lt_zero _)) (fun _ _ _ _ => rfl) (fun _ _ => rfl) hTr (fun i hi => absurd hi (Nat.not_lt_zero _)) hl
end PART
end
section
/-- the class's kept search is that of the weights w -/
def kept (h : Hp) (n z : Nat) (sm : Nat → Nat) (T : Nat) (lf : Nat → Nat) : Prop := h 10 2 = nI T ∧ h 10 4 = (srch (2 ^ n) T z sm 40001 0 0 0 lf (fun _ => 0)).1 ∧ h 10 3 = nI (srch (2 ^ n) T z sm 40001 0 0 0 lf (fun _ => 0)).2.1 ∧ ((srch (2 ^ n) T z sm 40001 0 0 0 lf (fun _ => 0)).1 = 1 → ∀ i, i < T → h 11 i = nI ((srch (2 ^ n) T z sm 40001 0 0 0 lf (fun _ => 0)).2.2 i))
theorem c_search0 {h : Hp} {n z : Nat} {sm : Nat → Nat} (TT : TX h n z sm) (hz0 : 0 < z) {T : Nat} (hT : T ≤ 24) (hw : sI (fun j => h 4 (8 * 0 + j)) (2 ^ pop (sm 0)) = nI T) {lf : Nat → Nat} (hl : ∀ k, k < 64 → h 4 k = nI (lf k)) (hb : ∀ k, k < 64 → lf k ≤ 1000) (hk : h 10 5 = h 1 2 → kept h n z sm T lf) : Ctr jX0_search [.ref 10, .ref 1] h (fun v g => v = none ∧ (∀ k, k ≠ 10 → k ≠ 11 → k ≠ 12 → g k = h k) ∧ g 10 5 = h 1 2 ∧ kept g n z sm T lf) := by
  refine ctr_start (by decide) (Nat.le_of_ble_eq_true rfl) rfl rfl ?_
  show SW jX0_search E0 _ 0 [some (.ref 10), some (.ref 1)] [] _
  refine sw_aload_n dX0_search_0 rfl ?_
  refine sw_getI dX0_search_1 flX0_28 ⟨by decide, _, rfl, rfl⟩ ?_
  refine sw_aload_n dX0_search_4 rfl ?_
  refine sw_getNI dX0_search_5 fnX0_31 ⟨by decide, _, rfl, rfl⟩ ?_
  refine sw_icmp_ne (tgt := 12) dX0_search_8 (by decide) (fun hc => ?_) (fun hc => ?_)
  · clear hc hk
    refine sw_aload_n dX0_search_12 rfl ?_
    refine sw_aload_n dX0_search_13 rfl ?_
    refine sw_getNI dX0_search_14 fnX0_31 ⟨by decide, _, rfl, rfl⟩ ?_
    refine sw_put dX0_search_17 fpX0_28 ⟨by decide, _, rfl, rfl⟩ rfl rfl ?_
    have T1 : TX (hset h 10 5 (h 1 2)) n z sm := TX_keep TT (hset_off 1 (by decide)) (hset_off 2 (by decide)) (hset_off 6 (by decide)) (hset_off 7 (by decide))
    have hw1 : sI (fun j => hset h 10 5 (h 1 2) 4 (8 * 0 + j)) (2 ^ pop (sm 0)) = nI T := by
      rw [hset_off 4 (by decide)]
      exact hw
    refine sw_aload_n dX0_search_20 rfl ?_
    refine sw_aload_n dX0_search_21 rfl ?_
    refine sw_iconst (v := nI 0) dX0_search_22 (by decide) ?_
    refine sw_cvi (i := 0) (c_weightSum T1 hz0) dX0_search_23 lkX0_36 (by decide) ⟨by decide, _, rfl, rfl⟩ rfl rfl rfl (Nat.le_of_ble_eq_true rfl) ?_
    rw [hw1]
    refine sw_bipush (v := nI 24) dX0_search_26 (by decide) ?_
    refine sw_mmin dX0_search_28 (by decide +kernel) (by decide +kernel) (by decide +kernel) (by decide +kernel) (by decide) (Nat.le_of_ble_eq_true rfl) (by decide) (by decide) ?_
    rw [if_neg (nI_nlt (a := 24) (b := T) hT (by omega))]
    refine sw_put dX0_search_31 fpX0_18 ⟨by decide, _, rfl, rfl⟩ rfl rfl ?_
    refine sw_aload_n dX0_search_34 rfl ?_
    refine sw_iconst (v := nI 0) dX0_search_35 (by decide) ?_
    refine sw_put dX0_search_36 fpX0_22 ⟨by decide, _, rfl, rfl⟩ rfl rfl ?_
    refine sw_aload_n dX0_search_39 rfl ?_
    refine sw_getNR dX0_search_40 fnX0_46 ⟨by decide, _, rfl, rfl⟩ ?_
    refine sw_iconst (v := nI 0) dX0_search_43 (by decide) ?_
    refine sw_aload_n dX0_search_44 rfl ?_
    refine sw_getR dX0_search_45 flX0_15 ⟨by decide, _, rfl, rfl⟩ ?_
    refine sw_iconst (v := nI 0) dX0_search_48 (by decide) ?_
    refine sw_aload_n dX0_search_49 rfl ?_
    refine sw_getR dX0_search_50 flX0_15 ⟨by decide, _, rfl, rfl⟩ ?_
    refine sw_alen dX0_search_53 rfl rfl ?_
    refine sw_acopy dX0_search_54 (by decide +kernel) (by decide +kernel) (by decide +kernel) (by decide +kernel) (by decide) (Nat.le_of_ble_eq_true rfl) ?_
    generalize hge : (fun k => if k = 12 then va_cpy (hset (hset (hset h 10 5 (h 1 2)) 10 2 (nI T)) 10 3 (nI 0) 4) (hset (hset (hset h 10 5 (h 1 2)) 10 2 (nI T)) 10 3 (nI 0) 12) 0 0 64 else hset (hset (hset h 10 5 (h 1 2)) 10 2 (nI T)) 10 3 (nI 0) k) = g
    have g0 : ∀ k, k ≠ 10 → k ≠ 12 → g k = h k := fun k k1 k2 => by
      rw [← hge]
      simp only [if_neg k2]
      rw [hset_off k k1, hset_off k k1, hset_off k k1]
    have g2 : g 10 2 = nI T := by
      rw [← hge]
      simp only [if_neg (show ¬ (10 = 12) by decide)]
      rw [hset_i (by decide), hset_at]
    have g3 : g 10 3 = nI 0 := by
      rw [← hge]
      simp only [if_neg (show ¬ (10 = 12) by decide)]
      rw [hset_at]
    have g5 : g 10 5 = h 1 2 := by
      rw [← hge]
      simp only [if_neg (show ¬ (10 = 12) by decide)]
      rw [hset_i (by decide), hset_i (by decide), hset_at]
    have g12 : ∀ k, k < 64 → g 12 k = nI (lf k) := fun k hk => by
      rw [← hge]
      simp only [if_true]
      rw [pk_cpy_in (Nat.zero_le _) (by omega), hset_off 4 (by decide), hset_off 4 (by decide), hset_off 4 (by decide), Nat.zero_add, Nat.sub_zero]
      exact hl k hk
    have T2 : TX g n z sm := TX_keep TT (g0 1 (by decide) (by decide)) (g0 2 (by decide) (by decide)) (g0 6 (by decide) (by decide)) (g0 7 (by decide) (by decide))
    refine sw_aload_n dX0_search_57 rfl ?_
    refine sw_aload_n dX0_search_58 rfl ?_
    refine sw_aload_n dX0_search_59 rfl ?_
    refine sw_callV (i := 0) (c_findRow T2 hT g2 g3 g12 hb) dX0_search_60 lkX0_55 (by decide) ⟨by decide, _, rfl, rfl⟩ rfl rfl rfl (Nat.le_of_ble_eq_true rfl) (fun v h1 hq => ?_)
    obtain ⟨rfl, f1, f2, f3, f4⟩ := hq
    refine sw_put dX0_search_63 fpX0_25 ⟨by decide, _, rfl, rfl⟩ rfl rfl ?_
    refine sw_vret dX0_search_66 rfl rfl rfl ?_
    refine ⟨rfl, fun k k1 k2 k3 => ?_, ?_, ?_, ?_, ?_, fun q i hi => ?_⟩
    · rw [hset_off k k1, f1 k k1 k2 k3, g0 k k1 k3]
    · rw [hset_i (by decide), f2 5 (by decide), g5]
    · rw [hset_i (by decide), f2 2 (by decide), g2]
    · rw [hset_at]
    · rw [hset_i (by decide), f3]
    · rw [hset_k (by decide)]
      exact f4 q i hi
  · refine sw_vret dX0_search_11 rfl rfl rfl ?_
    exact ⟨rfl, fun _ _ _ _ => rfl, hc, hk hc⟩
end
section
/-! rays: the class's -/
def ort (X Y Z : Nat → Int32) (i j : Nat) : Bool := decide (i ≠ j) && decide (X i * X j + Y i * Y j + Z i * Z j = 0)
theorem ort_symm (X Y Z : Nat → Int32) (i j : Nat) : ort X Y Z i j = ort X Y Z j i := by
  unfold ort
  rw [Int32.mul_comm (X i), Int32.mul_comm (Y i), Int32.mul_comm (Z i)]
  congr 1
  simp only [ne_eq, eq_comm]
theorem ort_self (X Y Z : Nat → Int32) (i : Nat) : ort X Y Z i i = false := by simp [ort]
/-- bits of a truth below k -/
def bm (p : Nat → Bool) : Nat → Nat
  | 0 => 0
  | k + 1 => bm p k + (if p k then 2 ^ k else 0)
theorem bm_lt (p : Nat → Bool) : ∀ k, bm p k < 2 ^ k
  | 0 => by simp [bm]
  | k + 1 => by
    have := bm_lt p k
    simp only [bm]
    rw [Nat.pow_succ]
    split <;> omega
theorem bm_cong {p q : Nat → Bool} : ∀ {k : Nat}, (∀ j, j < k → p j = q j) → bm p k = bm q k
  | 0, _ => rfl
  | k + 1, h => by simp only [bm]; rw [bm_cong (fun j hj => h j (by omega)), h k (by omega)]
theorem bm_bit (p : Nat → Bool) : ∀ {k j : Nat}, j < k → bm p k / 2 ^ j % 2 = if p j then 1 else 0
  | 0, j, h => absurd h (Nat.not_lt_zero _)
  | k + 1, j, h => by
    have hl := bm_lt p k
    simp only [bm]
    by_cases e : j = k
    · subst e
      by_cases hp : p j
      · rw [if_pos hp, if_pos hp, Nat.add_div_right _ (Nat.two_pow_pos j), Nat.div_eq_of_lt hl]
      · rw [if_neg hp, if_neg hp, Nat.add_zero, Nat.div_eq_of_lt hl]
    · have hjk : j < k := by omega
      rw [← bm_bit p hjk]
      by_cases hp : p k
      · rw [if_pos hp]
        obtain ⟨d, rfl⟩ : ∃ d, k = j + (d + 1) := ⟨k - j - 1, by omega⟩
        rw [Nat.pow_add, Nat.mul_comm (2 ^ j), Nat.add_mul_div_right _ _ (Nat.two_pow_pos j), Nat.pow_succ]
        omega
      · rw [if_neg hp, Nat.add_zero]
theorem bm_or (p : Nat → Bool) (k : Nat) (hp : p k = true) : bm p k ||| 2 ^ k = bm p (k + 1) := by
  have h := bm_lt p k
  simp only [bm, hp, if_true]
  have := Nat.two_pow_add_eq_or_of_lt h 1
  rw [Nat.mul_one] at this
  rw [Nat.or_comm, ← this, Nat.add_comm]
theorem bm_no (p : Nat → Bool) (k : Nat) (hp : p k = false) : bm p (k + 1) = bm p k := by
  simp only [bm, hp]
  rfl
theorem cut_nat : ∀ s, s < 12 → ∀ a, a < 64 → ∀ b, b < 64 → 64 * a + b < 2 ^ (s + 1) → (64 * a + b) &&& (2 ^ s ^^^ 4294967295) = (64 * a + b) % 2 ^ s := by decide +kernel
theorem cut_bit (s : Nat) (hs : s < 12) (x : Nat) (hx : x < 2 ^ (s + 1)) : nI x &&& (nI (2 ^ s) ^^^ (-1)) = nI (x % 2 ^ s) := by
  have h12 : 2 ^ (s + 1) ≤ 2 ^ 12 := Nat.pow_le_pow_right (by omega) (by omega)
  rw [show (-1 : Int32) = nI 4294967295 by decide, fb_xorI, fa_and]
  congr 1
  have := cut_nat s hs (x / 64) (by omega) (x % 64) (by omega)
  rw [Nat.div_add_mod] at this
  exact this hx
theorem bm_mod (p : Nat → Bool) (k : Nat) : bm p (k + 1) % 2 ^ k = bm p k := by
  have h := bm_lt p k
  simp only [bm]
  split
  · rw [Nat.add_mod_right, Nat.mod_eq_of_lt h]
  · rw [Nat.add_zero, Nat.mod_eq_of_lt h]
abbrev ox (h : Hp) (i j : Nat) : Bool := ort (h 14) (h 15) (h 16) i j
def RV (h : Hp) (r : Nat) : Prop := r ≤ 12 ∧ h 13 0 = nI r ∧ ∀ i, i < r → h 17 i = nI (bm (ox h i) r)
theorem pow12 {r : Nat} (h : r ≤ 12) : 2 ^ r ≤ 4096 := Nat.pow_le_pow_right (n := 2) (by omega) h
theorem RV.lt {h : Hp} {r : Nat} (V : RV h r) (i : Nat) : bm (ox h i) r < 4096 := Nat.lt_of_lt_of_le (bm_lt _ r) (pow12 V.1)
def parB (X Y Z : Nat → Int32) (x y z : Int32) (i : Nat) : Bool := decide (X i * y = Y i * x ∧ X i * z = Z i * x ∧ Y i * z = Z i * y)
section RAYS
variable {h : Hp} {r : Nat}
theorem c_hasMultipleOf (hr : r ≤ 12) (hz : h 13 0 = nI r) (x y w : Int32) : Ctr jX1_hasMultipleOf [.ref 13, .int x, .int y, .int w] h (Ret (bI (!allB (fun i => !parB (h 14) (h 15) (h 16) x y w i) r)) h) := by
  refine ctr_start (by decide) (Nat.le_of_ble_eq_true rfl) rfl rfl ?_
  show SW jX1_hasMultipleOf E0 _ 0 [some (.ref 13), some (.int x), some (.int y), some (.int w), none] [] _
  refine sw_iconst (v := nI 0) dX1_hasMultipleOf_0 (by decide) ?_
  refine sw_istore dX1_hasMultipleOf_1 (by decide) rfl ?_
  refine lp_up (n := r) (S := fun i => allB (fun i => !parB (h 14) (h 15) (h 16) x y w i) i = true → SW jX1_hasMultipleOf E0 (Zm (Ret (bI (!allB (fun i => !parB (h 14) (h 15) (h 16) x y w i) r)) h)) 3 [some (.ref 13), some (.int x), some (.int y), some (.int w), some (.int (nI i))] [] h) ?_ ?_ 0 (Nat.zero_le _) rfl
  · intro ha
    refine sw_iload dX1_hasMultipleOf_3 rfl ?_
    refine sw_aload_n dX1_hasMultipleOf_5 rfl ?_
    refine sw_getI dX1_hasMultipleOf_6 flX1_9 ⟨by decide, _, rfl, rfl⟩ ?_
    rw [hz]
    refine sw_icmpN_ge (tgt := 83) dX1_hasMultipleOf_9 (by decide) (by omega) (by omega) (fun hc => ?_) (fun hc => ?_)
    · refine sw_iconst (v := nI 0) dX1_hasMultipleOf_83 (by decide) ?_
      refine sw_zret dX1_hasMultipleOf_84 rfl rfl rfl rfl ?_
      exact ⟨by rw [ha]; rfl, rfl⟩
    · omega
  · intro i hi ih ha
    have nx : parB (h 14) (h 15) (h 16) x y w i = false → SW jX1_hasMultipleOf E0 (Zm (Ret (bI (!allB (fun i => !parB (h 14) (h 15) (h 16) x y w i) r)) h)) 77 [some (.ref 13), some (.int x), some (.int y), some (.int w), some (.int (nI i))] [] h := fun hp => by
      first | refine sw_iincN (b := 1) dX1_hasMultipleOf_77 rfl (by decide) rfl ?_ | refine sw_iinc dX1_hasMultipleOf_77 rfl rfl (by decide) rfl ?_
      refine sw_goto (tgt := 3) dX1_hasMultipleOf_80 (by decide) ?_
      exact ih (by simp only [allB, ha, Bool.true_and, hp]; rfl)
    refine sw_iload dX1_hasMultipleOf_3 rfl ?_
    refine sw_aload_n dX1_hasMultipleOf_5 rfl ?_
    refine sw_getI dX1_hasMultipleOf_6 flX1_9 ⟨by decide, _, rfl, rfl⟩ ?_
    rw [hz]
    refine sw_icmpN_ge (tgt := 83) dX1_hasMultipleOf_9 (by decide) (by omega) (by omega) (fun hc => ?_) (fun hc => ?_)
    · omega
    · clear hc
      refine sw_aload_n dX1_hasMultipleOf_12 rfl ?_
      refine sw_getR dX1_hasMultipleOf_13 flX1_15 ⟨by decide, _, rfl, rfl⟩ ?_
      refine sw_iload dX1_hasMultipleOf_16 rfl ?_
      refine sw_iald dX1_hasMultipleOf_18 rfl (by simp only [plA]; omega) ?_
      refine sw_iload_n dX1_hasMultipleOf_19 rfl ?_
      refine sw_imul dX1_hasMultipleOf_20 ?_
      refine sw_aload_n dX1_hasMultipleOf_21 rfl ?_
      refine sw_getR dX1_hasMultipleOf_22 flX1_19 ⟨by decide, _, rfl, rfl⟩ ?_
      refine sw_iload dX1_hasMultipleOf_25 rfl ?_
      refine sw_iald dX1_hasMultipleOf_27 rfl (by simp only [plA]; omega) ?_
      refine sw_iload_n dX1_hasMultipleOf_28 rfl ?_
      refine sw_imul dX1_hasMultipleOf_29 ?_
      refine sw_icmp_ne (tgt := 77) dX1_hasMultipleOf_30 (by decide) (fun hc => ?_) (fun hc => ?_)
      · exact nx (decide_eq_false (fun q => hc q.1))
      · have h1 := hc
        clear hc
        refine sw_aload_n dX1_hasMultipleOf_33 rfl ?_
        refine sw_getR dX1_hasMultipleOf_34 flX1_15 ⟨by decide, _, rfl, rfl⟩ ?_
        refine sw_iload dX1_hasMultipleOf_37 rfl ?_
        refine sw_iald dX1_hasMultipleOf_39 rfl (by simp only [plA]; omega) ?_
        refine sw_iload_n dX1_hasMultipleOf_40 rfl ?_
        refine sw_imul dX1_hasMultipleOf_41 ?_
        refine sw_aload_n dX1_hasMultipleOf_42 rfl ?_
        refine sw_getR dX1_hasMultipleOf_43 flX1_22 ⟨by decide, _, rfl, rfl⟩ ?_
        refine sw_iload dX1_hasMultipleOf_46 rfl ?_
        refine sw_iald dX1_hasMultipleOf_48 rfl (by simp only [plA]; omega) ?_
        refine sw_iload_n dX1_hasMultipleOf_49 rfl ?_
        refine sw_imul dX1_hasMultipleOf_50 ?_
        refine sw_icmp_ne (tgt := 77) dX1_hasMultipleOf_51 (by decide) (fun hc => ?_) (fun hc => ?_)
        · exact nx (decide_eq_false (fun q => hc q.2.1))
        · have h2 := hc
          clear hc
          refine sw_aload_n dX1_hasMultipleOf_54 rfl ?_
          refine sw_getR dX1_hasMultipleOf_55 flX1_19 ⟨by decide, _, rfl, rfl⟩ ?_
          refine sw_iload dX1_hasMultipleOf_58 rfl ?_
          refine sw_iald dX1_hasMultipleOf_60 rfl (by simp only [plA]; omega) ?_
          refine sw_iload_n dX1_hasMultipleOf_61 rfl ?_
          refine sw_imul dX1_hasMultipleOf_62 ?_
          refine sw_aload_n dX1_hasMultipleOf_63 rfl ?_
          refine sw_getR dX1_hasMultipleOf_64 flX1_22 ⟨by decide, _, rfl, rfl⟩ ?_
          refine sw_iload dX1_hasMultipleOf_67 rfl ?_
          refine sw_iald dX1_hasMultipleOf_69 rfl (by simp only [plA]; omega) ?_
          refine sw_iload_n dX1_hasMultipleOf_70 rfl ?_
          refine sw_imul dX1_hasMultipleOf_71 ?_
          refine sw_icmp_ne (tgt := 77) dX1_hasMultipleOf_72 (by decide) (fun hc => ?_) (fun hc => ?_)
          · exact nx (decide_eq_false (fun q => hc q.2.2))
          · have hp : parB (h 14) (h 15) (h 16) x y w i = true := decide_eq_true ⟨h1, h2, hc⟩
            refine sw_iconst (v := nI 1) dX1_hasMultipleOf_75 (by decide) ?_
            refine sw_zret dX1_hasMultipleOf_76 rfl rfl rfl rfl ?_
            exact ⟨by rw [allB_f hi (by rw [hp]; rfl)]; rfl, rfl⟩
/-- what add leaves -/
theorem c_add1 (V : RV h r) (hr : r < 12) (x y w : Int32) : Ctr jX1_add [.ref 13, .int x, .int y, .int w] h (fun v g => v = some (.int (nI r)) ∧ (∀ k, k ≠ 13 → k ≠ 14 → k ≠ 15 → k ≠ 16 → k ≠ 17 → g k = h k) ∧ g 14 = upd (h 14) r x ∧ g 15 = upd (h 15) r y ∧ g 16 = upd (h 16) r w ∧ RV g (r + 1) ∧ g 13 6 = nI 0) := by
  obtain ⟨hr12, hz, hs⟩ := V
  refine ctr_start (by decide) (Nat.le_of_ble_eq_true rfl) rfl rfl ?_
  show SW jX1_add E0 _ 0 [some (.ref 13), some (.int x), some (.int y), some (.int w), none, none] [] _
  refine sw_aload_n dX1_add_0 rfl ?_
  refine sw_getI dX1_add_1 flX1_9 ⟨by decide, _, rfl, rfl⟩ ?_
  rw [hz]
  refine sw_istore dX1_add_4 (by decide) rfl ?_
  refine sw_aload_n dX1_add_6 rfl ?_
  refine sw_getR dX1_add_7 flX1_15 ⟨by decide, _, rfl, rfl⟩ ?_
  refine sw_iload dX1_add_10 rfl ?_
  refine sw_iload_n dX1_add_12 rfl ?_
  refine sw_iast dX1_add_13 rfl (by simp only [plA]; omega) ?_
  refine sw_aload_n dX1_add_14 rfl ?_
  refine sw_getR dX1_add_15 flX1_19 ⟨by decide, _, rfl, rfl⟩ ?_
  refine sw_iload dX1_add_18 rfl ?_
  refine sw_iload_n dX1_add_20 rfl ?_
  refine sw_iast dX1_add_21 rfl (by simp only [plA]; omega) ?_
  refine sw_aload_n dX1_add_22 rfl ?_
  refine sw_getR dX1_add_23 flX1_22 ⟨by decide, _, rfl, rfl⟩ ?_
  refine sw_iload dX1_add_26 rfl ?_
  refine sw_iload_n dX1_add_28 rfl ?_
  refine sw_iast dX1_add_29 rfl (by simp only [plA]; omega) ?_
  refine sw_aload_n dX1_add_30 rfl ?_
  refine sw_getR dX1_add_31 flX1_25 ⟨by decide, _, rfl, rfl⟩ ?_
  refine sw_iload dX1_add_34 rfl ?_
  refine sw_iconst (v := nI 0) dX1_add_36 (by decide) ?_
  refine sw_iast dX1_add_37 rfl (by simp only [plA]; omega) ?_
  refine sw_iconst (v := nI 0) dX1_add_38 (by decide) ?_
  refine sw_istore dX1_add_39 (by decide) rfl ?_
  generalize hge : hset (hset (hset (hset h 14 r x) 15 r y) 16 r w) 17 r (nI 0) = g0
  have e0 : ∀ k, k ≠ 14 → k ≠ 15 → k ≠ 16 → k ≠ 17 → g0 k = h k := fun k k1 k2 k3 k4 => by rw [← hge, hset_off k k4, hset_off k k3, hset_off k k2, hset_off k k1]
  have e14 : g0 14 = upd (h 14) r x := by rw [← hge, hset_off 14 (by decide), hset_off 14 (by decide), hset_off 14 (by decide), hset_same]
  have e15 : g0 15 = upd (h 15) r y := by rw [← hge, hset_off 15 (by decide), hset_off 15 (by decide), hset_same, hset_off 15 (by decide)]
  have e16 : g0 16 = upd (h 16) r w := by rw [← hge, hset_off 16 (by decide), hset_same, hset_off 16 (by decide), hset_off 16 (by decide)]
  have e17 : g0 17 = upd (h 17) r (nI 0) := by rw [← hge, hset_same, hset_off 17 (by decide), hset_off 17 (by decide), hset_off 17 (by decide)]
  have hold : ∀ i j, i < r → j < r → ox g0 i j = ox h i j := fun i j hi hj => by
    unfold ox ort
    rw [e14, e15, e16, pk_un (show i ≠ r by omega), pk_un (show j ≠ r by omega), pk_un (show i ≠ r by omega), pk_un (show j ≠ r by omega), pk_un (show i ≠ r by omega), pk_un (show j ≠ r by omega)]
  have key := lp_up (n := r) (S := fun i => ∀ g, Sam 17 g0 g → (∀ j, j < i → g 17 j = nI (bm (ox g0 j) (r + 1))) → (∀ j, i ≤ j → j < r → g 17 j = nI (bm (ox g0 j) r)) → g 17 r = nI (bm (ox g0 r) i) → SW jX1_add E0 (Zm (fun v g => v = some (.int (nI r)) ∧ (∀ k, k ≠ 13 → k ≠ 14 → k ≠ 15 → k ≠ 16 → k ≠ 17 → g k = h k) ∧ g 14 = upd (h 14) r x ∧ g 15 = upd (h 15) r y ∧ g 16 = upd (h 16) r w ∧ RV g (r + 1) ∧ g 13 6 = nI 0)) 41 [some (.ref 13), some (.int x), some (.int y), some (.int w), some (.int (nI r)), some (.int (nI i))] [] g) ?_ ?_ 0 (Nat.zero_le _) g0 Sam.rf (fun j hj => absurd hj (Nat.not_lt_zero _)) (fun j _ hj => by rw [e17, pk_un (by omega), hs j hj]; congr 1; exact bm_cong (fun i hi => (hold j i hj hi).symm)) (by rw [e17, pk_us]; rfl)
  · exact key
  · intro g hS h1 h2 h3
    refine sw_iload dX1_add_41 rfl ?_
    refine sw_iload dX1_add_43 rfl ?_
    refine sw_icmpN_ge (tgt := 114) dX1_add_45 (by decide) (by omega) (by omega) (fun hc => ?_) (fun hc => ?_)
    · refine sw_aload_n dX1_add_114 rfl ?_
      refine sw_dup dX1_add_115 rfl ?_
      refine sw_getI dX1_add_116 flX1_9 ⟨by decide, _, rfl, rfl⟩ ?_
      refine sw_iconst (v := nI 1) dX1_add_119 (by decide) ?_
      rw [show g 13 0 = nI r by rw [hS 13 (by decide), e0 13 (by decide) (by decide) (by decide) (by decide)]; exact hz]
      first | refine sw_iaddN dX1_add_120 ?_ | refine sw_iadd dX1_add_120 ?_
      refine sw_put dX1_add_121 fpX1_9 ⟨by decide, _, rfl, rfl⟩ rfl rfl ?_
      refine sw_aload_n dX1_add_124 rfl ?_
      refine sw_iconst (v := nI 0) dX1_add_125 (by decide) ?_
      refine sw_put dX1_add_126 fpX1_31 ⟨by decide, _, rfl, rfl⟩ rfl rfl ?_
      refine sw_iload dX1_add_129 rfl ?_
      refine sw_iret dX1_add_131 rfl rfl rfl ?_
      have off : ∀ k, k ≠ 13 → hset (hset g 13 0 (nI (r + 1))) 13 6 (nI 0) k = g k := fun k hk => by rw [hset_off k hk, hset_off k hk]
      refine ⟨rfl, fun k k1 k2 k3 k4 k5 => ?_, ?_, ?_, ?_, ⟨by omega, ?_, fun i hi => ?_⟩, hset_at⟩
      · rw [off k k1, hS k k5, e0 k k2 k3 k4 k5]
      · rw [off 14 (by decide), hS 14 (by decide), e14]
      · rw [off 15 (by decide), hS 15 (by decide), e15]
      · rw [off 16 (by decide), hS 16 (by decide), e16]
      · rw [hset_i (by decide), hset_at]
      · have eo : ox (hset (hset g 13 0 (nI (r + 1))) 13 6 (nI 0)) i = ox g0 i := by
          funext j
          unfold ox
          rw [off 14 (by decide), off 15 (by decide), off 16 (by decide), hS 14 (by decide), hS 15 (by decide), hS 16 (by decide)]
        rw [off 17 (by decide), eo]
        by_cases q : i = r
        · subst q
          rw [h3, bm_no _ _ (ort_self _ _ _ _)]
        · exact h1 i (by omega)
    · omega
  · intro i hi ih g hS h1 h2 h3
    have f14 : g 14 = upd (h 14) r x := by rw [hS 14 (by decide), e14]
    have f15 : g 15 = upd (h 15) r y := by rw [hS 15 (by decide), e15]
    have f16 : g 16 = upd (h 16) r w := by rw [hS 16 (by decide), e16]
    have eor : ox g0 r i = decide (g 14 i * x + g 15 i * y + g 16 i * w = 0) := by
      rw [show ox g0 r i = ox g0 i r from ort_symm _ _ _ _ _]
      unfold ox ort
      rw [f14, f15, f16, e14, e15, e16, pk_us, pk_us, pk_us, decide_eq_true (show i ≠ r by omega), Bool.true_and]
    have h12 : ∀ j, bm (ox g0 j) r < 4096 := fun j => Nat.lt_of_lt_of_le (bm_lt _ r) (pow12 (by omega))
    refine sw_iload dX1_add_41 rfl ?_
    refine sw_iload dX1_add_43 rfl ?_
    refine sw_icmpN_ge (tgt := 114) dX1_add_45 (by decide) (by omega) (by omega) (fun hc => ?_) (fun hc => ?_)
    · omega
    · clear hc
      refine sw_aload_n dX1_add_48 rfl ?_
      refine sw_getR dX1_add_49 flX1_15 ⟨by decide, _, rfl, rfl⟩ ?_
      refine sw_iload dX1_add_52 rfl ?_
      refine sw_iald dX1_add_54 rfl (by simp only [plA]; omega) ?_
      refine sw_iload_n dX1_add_55 rfl ?_
      refine sw_imul dX1_add_56 ?_
      refine sw_aload_n dX1_add_57 rfl ?_
      refine sw_getR dX1_add_58 flX1_19 ⟨by decide, _, rfl, rfl⟩ ?_
      refine sw_iload dX1_add_61 rfl ?_
      refine sw_iald dX1_add_63 rfl (by simp only [plA]; omega) ?_
      refine sw_iload_n dX1_add_64 rfl ?_
      refine sw_imul dX1_add_65 ?_
      refine sw_iadd dX1_add_66 ?_
      refine sw_aload_n dX1_add_67 rfl ?_
      refine sw_getR dX1_add_68 flX1_22 ⟨by decide, _, rfl, rfl⟩ ?_
      refine sw_iload dX1_add_71 rfl ?_
      refine sw_iald dX1_add_73 rfl (by simp only [plA]; omega) ?_
      refine sw_iload_n dX1_add_74 rfl ?_
      refine sw_imul dX1_add_75 ?_
      refine sw_iadd dX1_add_76 ?_
      refine sw_if_ne (tgt := 108) dX1_add_77 (by decide) (fun hc => ?_) (fun hc => ?_)
      · have hno : ox g0 r i = false := by rw [eor]; exact decide_eq_false hc
        have hno2 : ox g0 i r = false := by rw [← hno]; exact ort_symm _ _ _ _ _
        first | refine sw_iincN (b := 1) dX1_add_108 rfl (by decide) rfl ?_ | refine sw_iinc dX1_add_108 rfl rfl (by decide) rfl ?_
        refine sw_goto (tgt := 41) dX1_add_111 (by decide) ?_
        refine ih g hS (fun j hj => ?_) (fun j hj1 hj2 => h2 j (by omega) hj2) (by rw [h3, bm_no _ _ hno])
        by_cases q : j = i
        · subst q
          rw [bm_no _ _ hno2]
          exact h2 j (by omega) hi
        · exact h1 j (by omega)
      · have hyes : ox g0 r i = true := by rw [eor]; exact decide_eq_true hc
        have hyes2 : ox g0 i r = true := by rw [← hyes]; exact ort_symm _ _ _ _ _
        clear hc
        have p1 : 1 * 2 ^ i < 2 ^ 32 := by
          have := pow12 (show i ≤ 12 by omega)
          omega
        have p2 : 1 * 2 ^ r < 2 ^ 32 := by
          have := pow12 (show r ≤ 12 by omega)
          omega
        refine sw_aload_n dX1_add_80 rfl ?_
        refine sw_getR dX1_add_81 flX1_25 ⟨by decide, _, rfl, rfl⟩ ?_
        refine sw_iload dX1_add_84 rfl ?_
        refine sw_dup2 dX1_add_86 rfl rfl ?_
        refine sw_iald dX1_add_87 rfl (by simp only [plA]; omega) ?_
        rw [h3]
        refine sw_iconst (v := nI 1) dX1_add_88 (by decide) ?_
        refine sw_iload dX1_add_89 rfl ?_
        first | refine sw_ishlN dX1_add_91 (by omega) p1 ?_ | refine sw_ishl dX1_add_91 ?_
        refine sw_iorN dX1_add_92 ?_
        rw [Nat.one_mul, bm_or _ _ hyes]
        refine sw_iast dX1_add_93 rfl (by simp only [plA]; omega) ?_
        refine sw_aload_n dX1_add_94 rfl ?_
        refine sw_getR dX1_add_95 flX1_25 ⟨by decide, _, rfl, rfl⟩ ?_
        refine sw_iload dX1_add_98 rfl ?_
        refine sw_dup2 dX1_add_100 rfl rfl ?_
        refine sw_iald dX1_add_101 rfl (by simp only [plA]; omega) ?_
        rw [show hset g 17 r (nI (bm (ox g0 r) (i + 1))) 17 i = nI (bm (ox g0 i) r) by rw [hset_i (by omega)]; exact h2 i (by omega) hi]
        refine sw_iconst (v := nI 1) dX1_add_102 (by decide) ?_
        refine sw_iload dX1_add_103 rfl ?_
        first | refine sw_ishlN dX1_add_105 (by omega) p2 ?_ | refine sw_ishl dX1_add_105 ?_
        refine sw_iorN dX1_add_106 ?_
        rw [Nat.one_mul, bm_or _ _ hyes2]
        refine sw_iast dX1_add_107 rfl (by simp only [plA]; omega) ?_
        first | refine sw_iincN (b := 1) dX1_add_108 rfl (by decide) rfl ?_ | refine sw_iinc dX1_add_108 rfl rfl (by decide) rfl ?_
        refine sw_goto (tgt := 41) dX1_add_111 (by decide) ?_
        refine ih _ hS.set.set (fun j hj => ?_) (fun j hj1 hj2 => ?_) ?_
        · by_cases q : j = i
          · rw [q, hset_at]
          · rw [hset_i q, hset_i (by omega)]
            exact h1 j (by omega)
        · rw [hset_i (by omega), hset_i (by omega)]
          exact h2 j (by omega) hj2
        · rw [hset_i (by omega), hset_at]
theorem c_removeLatest1 (V : RV h (r + 1)) : Ctr jX1_removeLatest [.ref 13] h (fun v g => v = some (.int (nI r)) ∧ (∀ k, k ≠ 13 → k ≠ 17 → g k = h k) ∧ RV g r ∧ g 13 6 = nI 0) := by
  obtain ⟨hr12, hz, hs⟩ := V
  refine ctr_start (by decide) (Nat.le_of_ble_eq_true rfl) rfl rfl ?_
  show SW jX1_removeLatest E0 _ 0 [some (.ref 13), none] [] _
  refine sw_aload_n dX1_removeLatest_0 rfl ?_
  refine sw_dup dX1_removeLatest_1 rfl ?_
  refine sw_getI dX1_removeLatest_2 flX1_9 ⟨by decide, _, rfl, rfl⟩ ?_
  refine sw_iconst (v := nI 1) dX1_removeLatest_5 (by decide) ?_
  rw [hz]
  first | refine sw_isubN dX1_removeLatest_6 (by omega) ?_ | refine sw_isub dX1_removeLatest_6 ?_
  rw [show r + 1 - 1 = r by omega]
  refine sw_put dX1_removeLatest_7 fpX1_9 ⟨by decide, _, rfl, rfl⟩ rfl rfl ?_
  refine sw_iconst (v := nI 0) dX1_removeLatest_10 (by decide) ?_
  refine sw_istore_n dX1_removeLatest_11 (by decide) rfl ?_
  generalize hge : hset h 13 0 (nI r) = g0
  have e0 : ∀ k, k ≠ 13 → g0 k = h k := fun k hk => by rw [← hge, hset_off k hk]
  have ez : g0 13 0 = nI r := by rw [← hge, hset_at]
  have hox : ∀ i, ox g0 i = ox h i := fun i => by
    funext j
    unfold ox
    rw [e0 14 (by decide), e0 15 (by decide), e0 16 (by decide)]
  have key := lp_up (n := r) (S := fun i => ∀ g, Sam 17 g0 g → (∀ j, j < i → g 17 j = nI (bm (ox h j) r)) → (∀ j, i ≤ j → j < r + 1 → g 17 j = nI (bm (ox h j) (r + 1))) → SW jX1_removeLatest E0 (Zm (fun v g => v = some (.int (nI r)) ∧ (∀ k, k ≠ 13 → k ≠ 17 → g k = h k) ∧ RV g r ∧ g 13 6 = nI 0)) 12 [some (.ref 13), some (.int (nI i))] [] g) ?_ ?_ 0 (Nat.zero_le _) g0 Sam.rf (fun j hj => absurd hj (Nat.not_lt_zero _)) (fun j _ hj => by rw [e0 17 (by decide)]; exact hs j hj)
  · exact key
  · intro g hS h1 h2
    have gz : g 13 0 = nI r := by rw [hS 13 (by decide)]; exact ez
    refine sw_iload_n dX1_removeLatest_12 rfl ?_
    refine sw_aload_n dX1_removeLatest_13 rfl ?_
    refine sw_getI dX1_removeLatest_14 flX1_9 ⟨by decide, _, rfl, rfl⟩ ?_
    rw [gz]
    refine sw_icmpN_ge (tgt := 43) dX1_removeLatest_17 (by decide) (by omega) (by omega) (fun hc => ?_) (fun hc => ?_)
    · refine sw_aload_n dX1_removeLatest_43 rfl ?_
      refine sw_iconst (v := nI 0) dX1_removeLatest_44 (by decide) ?_
      refine sw_put dX1_removeLatest_45 fpX1_31 ⟨by decide, _, rfl, rfl⟩ rfl rfl ?_
      refine sw_aload_n dX1_removeLatest_48 rfl ?_
      refine sw_getI dX1_removeLatest_49 flX1_9 ⟨by decide, _, rfl, rfl⟩ ?_
      rw [show hset g 13 6 (nI 0) 13 0 = nI r by rw [hset_i (by decide)]; exact gz]
      refine sw_iret dX1_removeLatest_52 rfl rfl rfl ?_
      refine ⟨rfl, fun k k1 k2 => ?_, ⟨by omega, by rw [hset_i (by decide)]; exact gz, fun i hi => ?_⟩, hset_at⟩
      · rw [hset_off k k1, hS k k2, e0 k k1]
      · have eo : ox (hset g 13 6 (nI 0)) i = ox h i := by
          rw [← hox i]
          funext j
          unfold ox
          rw [hset_off 14 (by decide), hset_off 15 (by decide), hset_off 16 (by decide), hS 14 (by decide), hS 15 (by decide), hS 16 (by decide)]
        rw [eo, hset_k (by decide)]
        exact h1 i hi
    · omega
  · intro i hi ih g hS h1 h2
    have gz : g 13 0 = nI r := by rw [hS 13 (by decide)]; exact ez
    have p2 : 1 * 2 ^ r < 2 ^ 32 := by
      have := pow12 (show r ≤ 12 by omega)
      omega
    refine sw_iload_n dX1_removeLatest_12 rfl ?_
    refine sw_aload_n dX1_removeLatest_13 rfl ?_
    refine sw_getI dX1_removeLatest_14 flX1_9 ⟨by decide, _, rfl, rfl⟩ ?_
    rw [gz]
    refine sw_icmpN_ge (tgt := 43) dX1_removeLatest_17 (by decide) (by omega) (by omega) (fun hc => ?_) (fun hc => ?_)
    · omega
    · clear hc
      refine sw_aload_n dX1_removeLatest_20 rfl ?_
      refine sw_getR dX1_removeLatest_21 flX1_25 ⟨by decide, _, rfl, rfl⟩ ?_
      refine sw_iload_n dX1_removeLatest_24 rfl ?_
      refine sw_dup2 dX1_removeLatest_25 rfl rfl ?_
      refine sw_iald dX1_removeLatest_26 rfl (by simp only [plA]; omega) ?_
      rw [h2 i (by omega) (by omega)]
      refine sw_iconst (v := nI 1) dX1_removeLatest_27 (by decide) ?_
      refine sw_aload_n dX1_removeLatest_28 rfl ?_
      refine sw_getI dX1_removeLatest_29 flX1_9 ⟨by decide, _, rfl, rfl⟩ ?_
      rw [gz]
      first | refine sw_ishlN dX1_removeLatest_32 (by omega) p2 ?_ | refine sw_ishl dX1_removeLatest_32 ?_
      rw [Nat.one_mul]
      refine sw_iconst (v := (-1)) dX1_removeLatest_33 (by decide) ?_
      refine sw_ixor dX1_removeLatest_34 ?_
      refine sw_iand dX1_removeLatest_35 ?_
      rw [cut_bit r (by omega) _ (bm_lt _ _), bm_mod]
      refine sw_iast dX1_removeLatest_36 rfl (by simp only [plA]; omega) ?_
      first | refine sw_iincN (b := 1) dX1_removeLatest_37 rfl (by decide) rfl ?_ | refine sw_iinc dX1_removeLatest_37 rfl rfl (by decide) rfl ?_
      refine sw_goto (tgt := 12) dX1_removeLatest_40 (by decide) ?_
      refine ih _ hS.set (fun j hj => ?_) (fun j hj1 hj2 => ?_)
      · by_cases q : j = i
        · rw [q, hset_at]
        · rw [hset_i q]
          exact h1 j (by omega)
      · rw [hset_i (by omega)]
        exact h2 j (by omega) hj2
end RAYS
end
section
/-! rays: pairs, threes, colours -/
def trS (e : Nat → Nat → Bool) (a b c : Nat) : Bool := e a b && (e a c && e b c)
def mk3 (a b c : Nat) : Nat := 2 ^ a ||| 2 ^ b ||| 2 ^ c
def f2 (e : Nat → Nat → Bool) (a b : Nat) : Nat := if a < b ∧ e a b = true then 1 else 0
def f3 (e : Nat → Nat → Bool) (a b c : Nat) : Nat := if a < b ∧ b < c ∧ trS e a b c = true then 1 else 0
/-- the row th holds, below n, just the threes of R rays that D tells -/
def TLs (th : Nat → Int32) (n : Nat) (e : Nat → Nat → Bool) (R : Nat) (D : Nat → Nat → Nat → Prop) : Prop := (∀ i, i < n → ∃ a b c, a < b ∧ b < c ∧ c < R ∧ trS e a b c = true ∧ th i = nI (mk3 a b c)) ∧ ∀ a b c, a < b → b < c → c < R → D a b c → trS e a b c = true → ∃ i, i < n ∧ th i = nI (mk3 a b c)
theorem fb_sm_0 {f : Nat → Nat} : ∀ {n : Nat}, (∀ k, k < n → f k = 0) → fb_sm f n = 0
  | 0, _ => rfl
  | n + 1, h => by simp only [fb_sm]; rw [fb_sm_0 (fun k hk => h k (by omega)), h n (by omega)]
theorem p32 {i : Nat} (h : i < 12) : 1 * 2 ^ i < 2 ^ 32 := by
  have := pow12 (show i ≤ 12 by omega)
  omega
section RAYS
variable {h : Hp} {r : Nat}
/-- cells that a walk over the rays leaves alone -/
def KR (h g : Hp) : Prop := ∀ k, k ≠ 13 → k ≠ 18 → g k = h k
theorem KR.oxe {h g : Hp} (K : KR h g) : ox g = ox h := by
  funext i j
  unfold ox
  rw [K 14 (by decide) (by decide), K 15 (by decide) (by decide), K 16 (by decide) (by decide)]
theorem KR.rv {h g : Hp} (K : KR h g) (hz : g 13 0 = h 13 0) (V : RV h r) : RV g r := by
  refine ⟨V.1, by rw [hz]; exact V.2.1, fun i hi => ?_⟩
  rw [K.oxe, K 17 (by decide) (by decide)]
  exact V.2.2 i hi
theorem c_findThreesOf (V : RV h r) {a b n : Nat} (hab : a < b) (hb : b < r) (hn : h 13 8 = nI n) (hn2 : n + (r - (b + 1)) ≤ 220) (he : ox h a b = true) (hT : TLs (h 18) n (ox h) r (fun x y _ => x < a ∨ (x = a ∧ y < b))) : Ctr jX1_findThreesOf [.ref 13, .int (nI a), .int (nI b)] h (fun v g => v = none ∧ KR h g ∧ (∀ i, i ≠ 8 → g 13 i = h 13 i) ∧ g 13 8 = nI (n + fb_sm (f3 (ox h) a b) r) ∧ n + fb_sm (f3 (ox h) a b) r ≤ n + (r - (b + 1)) ∧ TLs (g 18) (n + fb_sm (f3 (ox h) a b) r) (ox h) r (fun x y _ => x < a ∨ (x = a ∧ y < b + 1))) := by
  have hr := V.1
  have e1 := V.2.2 a (by omega)
  have e2 := V.2.2 b hb
  have l1 := V.lt a
  have l2 := V.lt b
  have hand : bm (ox h a) r &&& bm (ox h b) r < 4096 := Nat.lt_of_le_of_lt Nat.and_le_left l1
  have hbit : ∀ t, t < r → (bm (ox h a) r &&& bm (ox h b) r) / 2 ^ t % 2 = if ox h a t && ox h b t then 1 else 0 := fun t ht => by
    have q1 := bm_bit (ox h a) ht
    have q2 := bm_bit (ox h b) ht
    rw [← Nat.shiftRight_eq_div_pow, Nat.shiftRight_and_distrib, ← Nat.and_one_is_mod, Nat.shiftRight_eq_div_pow, Nat.shiftRight_eq_div_pow, Nat.and_one_is_mod]
    have q3 : ∀ x y : Nat, (x &&& y) % 2 = (x % 2) &&& (y % 2) := fun x y => by
      have := Nat.and_mod_two_pow (a := x) (b := y) (n := 1)
      simpa using this
    rw [q3, q1, q2]
    cases ox h a t <;> cases ox h b t <;> rfl
  have hstart : fb_sm (f3 (ox h) a b) (b + 1) = 0 := fb_sm_0 (fun k hk => by unfold f3; rw [if_neg (fun q => by omega)])
  refine ctr_start (by decide) (Nat.le_of_ble_eq_true rfl) rfl rfl ?_
  show SW jX1_findThreesOf E0 _ 0 [some (.ref 13), some (.int (nI a)), some (.int (nI b)), none, none] [] _
  refine sw_aload_n dX1_findThreesOf_0 rfl ?_
  refine sw_getR dX1_findThreesOf_1 flX1_25 ⟨by decide, _, rfl, rfl⟩ ?_
  refine sw_iload_n dX1_findThreesOf_4 rfl ?_
  refine sw_iald dX1_findThreesOf_5 rfl (by simp only [plA]; omega) ?_
  rw [e1]
  refine sw_aload_n dX1_findThreesOf_6 rfl ?_
  refine sw_getR dX1_findThreesOf_7 flX1_25 ⟨by decide, _, rfl, rfl⟩ ?_
  refine sw_iload_n dX1_findThreesOf_10 rfl ?_
  refine sw_iald dX1_findThreesOf_11 rfl (by simp only [plA]; omega) ?_
  rw [e2]
  refine sw_iandN dX1_findThreesOf_12 ?_
  refine sw_istore_n dX1_findThreesOf_13 (by decide) rfl ?_
  refine sw_iload_n dX1_findThreesOf_14 rfl ?_
  refine sw_iconst (v := nI 1) dX1_findThreesOf_15 (by decide) ?_
  first | refine sw_iaddN dX1_findThreesOf_16 ?_ | refine sw_iadd dX1_findThreesOf_16 ?_
  refine sw_istore dX1_findThreesOf_17 (by decide) rfl ?_
  have key := lp_up (n := r) (S := fun t => b + 1 ≤ t → ∀ g, KR h g → (∀ i, i ≠ 8 → g 13 i = h 13 i) → g 13 8 = nI (n + fb_sm (f3 (ox h) a b) t) → fb_sm (f3 (ox h) a b) t ≤ t - (b + 1) → TLs (g 18) (n + fb_sm (f3 (ox h) a b) t) (ox h) r (fun x y z => x < a ∨ (x = a ∧ (y < b ∨ (y = b ∧ z < t)))) → SW jX1_findThreesOf E0 (Zm (fun v g => v = none ∧ KR h g ∧ (∀ i, i ≠ 8 → g 13 i = h 13 i) ∧ g 13 8 = nI (n + fb_sm (f3 (ox h) a b) r) ∧ n + fb_sm (f3 (ox h) a b) r ≤ n + (r - (b + 1)) ∧ TLs (g 18) (n + fb_sm (f3 (ox h) a b) r) (ox h) r (fun x y _ => x < a ∨ (x = a ∧ y < b + 1)))) 19 [some (.ref 13), some (.int (nI a)), some (.int (nI b)), some (.int (nI (bm (ox h a) r &&& bm (ox h b) r))), some (.int (nI t))] [] g) ?_ ?_ (b + 1) (by omega) (Nat.le_refl _) h (fun _ _ _ => rfl) (fun _ _ => rfl) (by rw [hstart]; exact hn) (by rw [hstart]; omega) (by
    rw [hstart]
    refine ⟨hT.1, fun x y z h1 h2 h3 hD ht => hT.2 x y z h1 h2 h3 ?_ ht⟩
    rcases hD with q | ⟨q1, q2 | ⟨q2, q3⟩⟩
    · exact Or.inl q
    · exact Or.inr ⟨q1, q2⟩
    · omega)
  · exact key
  · intro _ g K hi g8 hle hTL
    refine sw_iload dX1_findThreesOf_19 rfl ?_
    refine sw_aload_n dX1_findThreesOf_21 rfl ?_
    refine sw_getI dX1_findThreesOf_22 flX1_9 ⟨by decide, _, rfl, rfl⟩ ?_
    rw [hi 0 (by decide), V.2.1]
    refine sw_icmpN_ge (tgt := 85) dX1_findThreesOf_25 (by decide) (by omega) (by omega) (fun hc => ?_) (fun hc => ?_)
    · refine sw_vret dX1_findThreesOf_85 rfl rfl rfl ?_
      refine ⟨rfl, K, hi, g8, by omega, hTL.1, fun x y z h1 h2 h3 hD ht => hTL.2 x y z h1 h2 h3 ?_ ht⟩
      rcases hD with q | ⟨q1, q2⟩
      · exact Or.inl q
      · refine Or.inr ⟨q1, ?_⟩
        rcases (show y < b ∨ y = b by omega) with q | q
        · exact Or.inl q
        · exact Or.inr ⟨q, h3⟩
    · omega
  · intro t ht ih hbt g K hi g8 hle hTL
    have hb2 := hbit t ht
    refine sw_iload dX1_findThreesOf_19 rfl ?_
    refine sw_aload_n dX1_findThreesOf_21 rfl ?_
    refine sw_getI dX1_findThreesOf_22 flX1_9 ⟨by decide, _, rfl, rfl⟩ ?_
    rw [hi 0 (by decide), V.2.1]
    refine sw_icmpN_ge (tgt := 85) dX1_findThreesOf_25 (by decide) (by omega) (by omega) (fun hc => ?_) (fun hc => ?_)
    · omega
    · clear hc
      refine sw_iload_n dX1_findThreesOf_28 rfl ?_
      refine sw_iload dX1_findThreesOf_29 rfl ?_
      first | refine sw_ishrN dX1_findThreesOf_31 (by omega) (by omega) ?_ | refine sw_ishr dX1_findThreesOf_31 ?_
      refine sw_iconst (v := nI 1) dX1_findThreesOf_32 (by decide) ?_
      first | refine sw_iand1 dX1_findThreesOf_33 ?_ | refine sw_iand dX1_findThreesOf_33 ?_
      refine sw_iconst (v := nI 1) dX1_findThreesOf_34 (by decide) ?_
      refine sw_icmpN_ne (tgt := 79) dX1_findThreesOf_35 (by decide) (by omega) (by omega) (fun hc => ?_) (fun hc => ?_)
      · have hno : (ox h a t && ox h b t) = false := by
          cases hq : (ox h a t && ox h b t) with
          | false => rfl
          | true => rw [hq] at hb2; exact absurd hb2 hc
        have ef : fb_sm (f3 (ox h) a b) (t + 1) = fb_sm (f3 (ox h) a b) t := by
          have : f3 (ox h) a b t = 0 := by
            unfold f3 trS
            rw [if_neg (fun q => by rw [hno, Bool.and_false] at q; exact absurd q.2.2 (by decide))]
          simp only [fb_sm]
          omega
        first | refine sw_iincN (b := 1) dX1_findThreesOf_79 rfl (by decide) rfl ?_ | refine sw_iinc dX1_findThreesOf_79 rfl rfl (by decide) rfl ?_
        refine sw_goto (tgt := 19) dX1_findThreesOf_82 (by decide) ?_
        refine ih (by omega) g K hi (by rw [ef]; exact g8) (by rw [ef]; omega) ?_
        rw [ef]
        refine ⟨hTL.1, fun x y z h1 h2 h3 hD htr => hTL.2 x y z h1 h2 h3 ?_ htr⟩
        rcases hD with q | ⟨q1, q2 | ⟨q2, q3⟩⟩
        · exact Or.inl q
        · exact Or.inr ⟨q1, Or.inl q2⟩
        · refine Or.inr ⟨q1, Or.inr ⟨q2, ?_⟩⟩
          rcases (show z < t ∨ z = t by omega) with q | q
          · exact q
          · subst q1 q2 q
            unfold trS at htr
            rw [hno, Bool.and_false] at htr
            exact absurd htr (by decide)
      · have hyes : (ox h a t && ox h b t) = true := by
          cases hq : (ox h a t && ox h b t) with
          | true => rfl
          | false => rw [hq] at hb2; rw [hb2] at hc; exact absurd hc (by decide)
        have htr : trS (ox h) a b t = true := by unfold trS; rw [he, hyes]; rfl
        have ef : fb_sm (f3 (ox h) a b) (t + 1) = fb_sm (f3 (ox h) a b) t + 1 := by
          have : f3 (ox h) a b t = 1 := by
            unfold f3
            rw [if_pos ⟨hab, by omega, htr⟩]
          simp only [fb_sm]
          omega
        clear hc
        have p1 := p32 (show a < 12 by omega)
        have p2 := p32 (show b < 12 by omega)
        have p3 := p32 (show t < 12 by omega)
        refine sw_aload_n dX1_findThreesOf_38 rfl ?_
        refine sw_getI dX1_findThreesOf_39 flX1_38 ⟨by decide, _, rfl, rfl⟩ ?_
        rw [g8]
        refine sw_sipush (v := nI 220) dX1_findThreesOf_42 (by decide) ?_
        refine sw_icmpN_ge (tgt := 79) dX1_findThreesOf_45 (by decide) (by omega) (by omega) (fun hc => ?_) (fun hc => ?_)
        · omega
        · clear hc
          refine sw_aload_n dX1_findThreesOf_48 rfl ?_
          refine sw_getR dX1_findThreesOf_49 flX1_28 ⟨by decide, _, rfl, rfl⟩ ?_
          refine sw_aload_n dX1_findThreesOf_52 rfl ?_
          refine sw_getI dX1_findThreesOf_53 flX1_38 ⟨by decide, _, rfl, rfl⟩ ?_
          rw [g8]
          refine sw_iconst (v := nI 1) dX1_findThreesOf_56 (by decide) ?_
          refine sw_iload_n dX1_findThreesOf_57 rfl ?_
          first | refine sw_ishlN dX1_findThreesOf_58 (by omega) p1 ?_ | refine sw_ishl dX1_findThreesOf_58 ?_
          refine sw_iconst (v := nI 1) dX1_findThreesOf_59 (by decide) ?_
          refine sw_iload_n dX1_findThreesOf_60 rfl ?_
          first | refine sw_ishlN dX1_findThreesOf_61 (by omega) p2 ?_ | refine sw_ishl dX1_findThreesOf_61 ?_
          refine sw_iorN dX1_findThreesOf_62 ?_
          refine sw_iconst (v := nI 1) dX1_findThreesOf_63 (by decide) ?_
          refine sw_iload dX1_findThreesOf_64 rfl ?_
          first | refine sw_ishlN dX1_findThreesOf_66 (by omega) p3 ?_ | refine sw_ishl dX1_findThreesOf_66 ?_
          refine sw_iorN dX1_findThreesOf_67 ?_
          rw [Nat.one_mul, Nat.one_mul, Nat.one_mul]
          show SW jX1_findThreesOf E0 _ 68 _ [.int (nI (mk3 a b t)), _, _] _
          refine sw_iast dX1_findThreesOf_68 rfl (by simp only [plA]; omega) ?_
          refine sw_aload_n dX1_findThreesOf_69 rfl ?_
          refine sw_dup dX1_findThreesOf_70 rfl ?_
          refine sw_getI dX1_findThreesOf_71 flX1_38 ⟨by decide, _, rfl, rfl⟩ ?_
          rw [show hset g 18 (n + fb_sm (f3 (ox h) a b) t) (nI (mk3 a b t)) 13 8 = nI (n + fb_sm (f3 (ox h) a b) t) by rw [hset_k (by decide)]; exact g8]
          refine sw_iconst (v := nI 1) dX1_findThreesOf_74 (by decide) ?_
          first | refine sw_iaddN dX1_findThreesOf_75 ?_ | refine sw_iadd dX1_findThreesOf_75 ?_
          refine sw_put dX1_findThreesOf_76 fpX1_38 ⟨by decide, _, rfl, rfl⟩ rfl rfl ?_
          first | refine sw_iincN (b := 1) dX1_findThreesOf_79 rfl (by decide) rfl ?_ | refine sw_iinc dX1_findThreesOf_79 rfl rfl (by decide) rfl ?_
          refine sw_goto (tgt := 19) dX1_findThreesOf_82 (by decide) ?_
          refine ih (by omega) _ (fun k k1 k2 => ?_) (fun i hi8 => ?_) ?_ (by omega) ?_
          · rw [hset_off k k1, hset_off k k2]; exact K k k1 k2
          · rw [hset_i hi8, hset_k (by decide)]; exact hi i hi8
          · rw [hset_at, ef, Nat.add_assoc]
          · rw [hset_off 18 (by decide), hset_same, ef]
            refine ⟨fun i hin => ?_, fun x y z h1 h2 h3 hD htr2 => ?_⟩
            · by_cases q : i = n + fb_sm (f3 (ox h) a b) t
              · exact ⟨a, b, t, hab, by omega, ht, htr, by rw [q, pk_us]⟩
              · rw [pk_un q]
                exact hTL.1 i (by omega)
            · by_cases q : x = a ∧ y = b ∧ z = t
              · obtain ⟨rfl, rfl, rfl⟩ := q
                exact ⟨_, by omega, pk_us⟩
              · obtain ⟨i, hin, hie⟩ := hTL.2 x y z h1 h2 h3 (by
                  rcases hD with q0 | ⟨q1, q2 | ⟨q2, q3⟩⟩
                  · exact Or.inl q0
                  · exact Or.inr ⟨q1, Or.inl q2⟩
                  · exact Or.inr ⟨q1, Or.inr ⟨q2, by omega⟩⟩) htr2
                exact ⟨i, by omega, by rw [pk_un (by omega)]; exact hie⟩
end RAYS
end
section
def c2 : Nat → Nat
  | 0 => 0
  | m + 1 => c2 m + m
def c3 : Nat → Nat
  | 0 => 0
  | m + 1 => c3 m + c2 m
theorem c3_le : ∀ r, r < 13 → c3 r ≤ 220 := by decide
def S2 (e : Nat → Nat → Bool) (R a : Nat) : Nat := fb_sm (f2 e a) R
def S3 (e : Nat → Nat → Bool) (R a : Nat) : Nat := fb_sm (fun b => fb_sm (f3 e a b) R) R
theorem f2_le (e : Nat → Nat → Bool) (a b : Nat) : f2 e a b ≤ 1 := by unfold f2; split <;> omega
section RAYS
variable {h : Hp} {r : Nat}
/-- pairs and threes told -/
def PT (h g : Hp) (r : Nat) : Prop := KR h g ∧ (∀ i, i ≠ 7 → i ≠ 8 → g 13 i = h 13 i) ∧ g 13 7 = nI (fb_sm (S2 (ox h) r) r) ∧ g 13 8 = nI (fb_sm (S3 (ox h) r) r) ∧ fb_sm (S3 (ox h) r) r ≤ 220 ∧ TLs (g 18) (fb_sm (S3 (ox h) r) r) (ox h) r (fun _ _ _ => True)
theorem c_findPairsAndThrees (V : RV h r) : Ctr jX1_findPairsAndThrees [.ref 13] h (fun v g => v = none ∧ PT h g r) := by
  have hr := V.1
  refine ctr_start (by decide) (Nat.le_of_ble_eq_true rfl) rfl rfl ?_
  show SW jX1_findPairsAndThrees E0 _ 0 [some (.ref 13), none, none] [] _
  refine sw_aload_n dX1_findPairsAndThrees_0 rfl ?_
  refine sw_iconst (v := nI 0) dX1_findPairsAndThrees_1 (by decide) ?_
  refine sw_put dX1_findPairsAndThrees_2 fpX1_35 ⟨by decide, _, rfl, rfl⟩ rfl rfl ?_
  refine sw_aload_n dX1_findPairsAndThrees_5 rfl ?_
  refine sw_iconst (v := nI 0) dX1_findPairsAndThrees_6 (by decide) ?_
  refine sw_put dX1_findPairsAndThrees_7 fpX1_38 ⟨by decide, _, rfl, rfl⟩ rfl rfl ?_
  refine sw_iconst (v := nI 0) dX1_findPairsAndThrees_10 (by decide) ?_
  refine sw_istore_n dX1_findPairsAndThrees_11 (by decide) rfl ?_
  generalize hge : hset (hset h 13 7 (nI 0)) 13 8 (nI 0) = g0
  have k0 : KR h g0 := fun k k1 k2 => by rw [← hge, hset_off k k1, hset_off k k1]
  have i0 : ∀ i, i ≠ 7 → i ≠ 8 → g0 13 i = h 13 i := fun i h7 h8 => by rw [← hge, hset_i h8, hset_i h7]
  have g7 : g0 13 7 = nI 0 := by rw [← hge, hset_i (by decide), hset_at]
  have g8 : g0 13 8 = nI 0 := by rw [← hge, hset_at]
  have key := lp_up (n := r) (S := fun a => ∀ g v2, KR h g → (∀ i, i ≠ 7 → i ≠ 8 → g 13 i = h 13 i) → g 13 7 = nI (fb_sm (S2 (ox h) r) a) → g 13 8 = nI (fb_sm (S3 (ox h) r) a) → fb_sm (S3 (ox h) r) a + c3 (r - a) ≤ 220 → TLs (g 18) (fb_sm (S3 (ox h) r) a) (ox h) r (fun x _ _ => x < a) → SW jX1_findPairsAndThrees E0 (Zm (fun v g => v = none ∧ PT h g r)) 12 [some (.ref 13), some (.int (nI a)), v2] [] g) ?_ ?_ 0 (Nat.zero_le _) g0 none k0 i0 g7 g8 (by have := c3_le r (by omega); rw [Nat.sub_zero]; simp only [fb_sm]; omega) ⟨fun i hi => absurd hi (Nat.not_lt_zero _), fun x y z _ _ _ hD => absurd hD (Nat.not_lt_zero _)⟩
  · exact key
  · intro g v2 K hi q7 q8 hle hTL
    refine sw_iload_n dX1_findPairsAndThrees_12 rfl ?_
    refine sw_aload_n dX1_findPairsAndThrees_13 rfl ?_
    refine sw_getI dX1_findPairsAndThrees_14 flX1_9 ⟨by decide, _, rfl, rfl⟩ ?_
    rw [hi 0 (by decide) (by decide), V.2.1]
    refine sw_icmpN_ge (tgt := 74) dX1_findPairsAndThrees_17 (by decide) (by omega) (by omega) (fun hc => ?_) (fun hc => ?_)
    · refine sw_vret dX1_findPairsAndThrees_74 rfl rfl rfl ?_
      exact ⟨rfl, K, hi, q7, q8, by omega, hTL.1, fun x y z h1 h2 h3 _ ht => hTL.2 x y z h1 h2 h3 (by omega) ht⟩
    · omega
  · intro a ha ih g v2 K hi q7 q8 hle hTL
    refine sw_iload_n dX1_findPairsAndThrees_12 rfl ?_
    refine sw_aload_n dX1_findPairsAndThrees_13 rfl ?_
    refine sw_getI dX1_findPairsAndThrees_14 flX1_9 ⟨by decide, _, rfl, rfl⟩ ?_
    rw [hi 0 (by decide) (by decide), V.2.1]
    refine sw_icmpN_ge (tgt := 74) dX1_findPairsAndThrees_17 (by decide) (by omega) (by omega) (fun hc => ?_) (fun hc => ?_)
    · omega
    · clear hc
      have z2 : fb_sm (f2 (ox h) a) (a + 1) = 0 := fb_sm_0 (fun k hk => by unfold f2; rw [if_neg (fun q => by omega)])
      have z3 : fb_sm (fun b => fb_sm (f3 (ox h) a b) r) (a + 1) = 0 := fb_sm_0 (fun k hk => fb_sm_0 (fun c _ => by unfold f3; rw [if_neg (fun q => by omega)]))
      have ec3 : c3 (r - a) = c3 (r - (a + 1)) + c2 (r - (a + 1)) := by
        rw [show r - a = (r - (a + 1)) + 1 by omega]
        rfl
      refine sw_iload_n dX1_findPairsAndThrees_20 rfl ?_
      refine sw_iconst (v := nI 1) dX1_findPairsAndThrees_21 (by decide) ?_
      first | refine sw_iaddN dX1_findPairsAndThrees_22 ?_ | refine sw_iadd dX1_findPairsAndThrees_22 ?_
      refine sw_istore_n dX1_findPairsAndThrees_23 (by decide) rfl ?_
      have key2 := lp_up (n := r) (S := fun b => a + 1 ≤ b → ∀ g, KR h g → (∀ i, i ≠ 7 → i ≠ 8 → g 13 i = h 13 i) → g 13 7 = nI (fb_sm (S2 (ox h) r) a + fb_sm (f2 (ox h) a) b) → g 13 8 = nI (fb_sm (S3 (ox h) r) a + fb_sm (fun b => fb_sm (f3 (ox h) a b) r) b) → fb_sm (S3 (ox h) r) a + fb_sm (fun b => fb_sm (f3 (ox h) a b) r) b + c2 (r - b) + c3 (r - (a + 1)) ≤ 220 → TLs (g 18) (fb_sm (S3 (ox h) r) a + fb_sm (fun b => fb_sm (f3 (ox h) a b) r) b) (ox h) r (fun x y _ => x < a ∨ (x = a ∧ y < b)) → SW jX1_findPairsAndThrees E0 (Zm (fun v g => v = none ∧ PT h g r)) 24 [some (.ref 13), some (.int (nI a)), some (.int (nI b))] [] g) ?_ ?_ (a + 1) (by omega) (Nat.le_refl _) g K hi (by rw [z2]; exact q7) (by rw [z3]; exact q8) (by rw [z3]; omega) (by
        rw [z3]
        refine ⟨hTL.1, fun x y z h1 h2 h3 hD ht => hTL.2 x y z h1 h2 h3 ?_ ht⟩
        rcases hD with q | q <;> omega)
      · exact key2
      · intro _ g K hi q7 q8 hle hTL
        refine sw_iload_n dX1_findPairsAndThrees_24 rfl ?_
        refine sw_aload_n dX1_findPairsAndThrees_25 rfl ?_
        refine sw_getI dX1_findPairsAndThrees_26 flX1_9 ⟨by decide, _, rfl, rfl⟩ ?_
        rw [hi 0 (by decide) (by decide), V.2.1]
        refine sw_icmpN_ge (tgt := 68) dX1_findPairsAndThrees_29 (by decide) (by omega) (by omega) (fun hc => ?_) (fun hc => ?_)
        · first | refine sw_iincN (b := 1) dX1_findPairsAndThrees_68 rfl (by decide) rfl ?_ | refine sw_iinc dX1_findPairsAndThrees_68 rfl rfl (by decide) rfl ?_
          refine sw_goto (tgt := 12) dX1_findPairsAndThrees_71 (by decide) ?_
          refine ih g _ K hi q7 q8 ?_ ?_
          · rw [Nat.sub_self] at hle
            exact hle
          · refine ⟨hTL.1, fun x y z h1 h2 h3 hD ht => hTL.2 x y z h1 h2 h3 ?_ ht⟩
            rcases (show x < a ∨ x = a by omega) with q | q
            · exact Or.inl q
            · exact Or.inr ⟨q, by omega⟩
        · omega
      · intro b hb ih2 hab g K hi q7 q8 hle hTL
        have VG := K.rv (hi 0 (by decide) (by decide)) V
        have hbit := bm_bit (ox h a) hb
        have la := V.lt a
        have ec2 : c2 (r - b) = c2 (r - (b + 1)) + (r - (b + 1)) := by
          rw [show r - b = (r - (b + 1)) + 1 by omega]
          rfl
        refine sw_iload_n dX1_findPairsAndThrees_24 rfl ?_
        refine sw_aload_n dX1_findPairsAndThrees_25 rfl ?_
        refine sw_getI dX1_findPairsAndThrees_26 flX1_9 ⟨by decide, _, rfl, rfl⟩ ?_
        rw [hi 0 (by decide) (by decide), V.2.1]
        refine sw_icmpN_ge (tgt := 68) dX1_findPairsAndThrees_29 (by decide) (by omega) (by omega) (fun hc => ?_) (fun hc => ?_)
        · omega
        · clear hc
          refine sw_aload_n dX1_findPairsAndThrees_32 rfl ?_
          refine sw_getR dX1_findPairsAndThrees_33 flX1_25 ⟨by decide, _, rfl, rfl⟩ ?_
          refine sw_iload_n dX1_findPairsAndThrees_36 rfl ?_
          refine sw_iald dX1_findPairsAndThrees_37 rfl (by simp only [plA]; omega) ?_
          rw [show g 17 a = nI (bm (ox h a) r) by rw [K 17 (by decide) (by decide)]; exact V.2.2 a ha]
          refine sw_iload_n dX1_findPairsAndThrees_38 rfl ?_
          first | refine sw_ishrN dX1_findPairsAndThrees_39 (by omega) (by omega) ?_ | refine sw_ishr dX1_findPairsAndThrees_39 ?_
          refine sw_iconst (v := nI 1) dX1_findPairsAndThrees_40 (by decide) ?_
          first | refine sw_iand1 dX1_findPairsAndThrees_41 ?_ | refine sw_iand dX1_findPairsAndThrees_41 ?_
          refine sw_iconst (v := nI 1) dX1_findPairsAndThrees_42 (by decide) ?_
          refine sw_icmpN_ne (tgt := 62) dX1_findPairsAndThrees_43 (by decide) (by omega) (by omega) (fun hc => ?_) (fun hc => ?_)
          · have hno : ox h a b = false := by
              cases hq : ox h a b with
              | false => rfl
              | true => rw [hq] at hbit; exact absurd hbit hc
            have ef2 : fb_sm (f2 (ox h) a) (b + 1) = fb_sm (f2 (ox h) a) b := by
              have : f2 (ox h) a b = 0 := by unfold f2; rw [if_neg (fun q => by rw [hno] at q; exact absurd q.2 (by decide))]
              simp only [fb_sm]
              omega
            have ef3 : fb_sm (fun b => fb_sm (f3 (ox h) a b) r) (b + 1) = fb_sm (fun b => fb_sm (f3 (ox h) a b) r) b := by
              have : fb_sm (f3 (ox h) a b) r = 0 := fb_sm_0 (fun c _ => by
                unfold f3 trS
                rw [if_neg (fun q => by rw [hno, Bool.false_and] at q; exact absurd q.2.2 (by decide))])
              simp only [fb_sm]
              omega
            first | refine sw_iincN (b := 1) dX1_findPairsAndThrees_62 rfl (by decide) rfl ?_ | refine sw_iinc dX1_findPairsAndThrees_62 rfl rfl (by decide) rfl ?_
            refine sw_goto (tgt := 24) dX1_findPairsAndThrees_65 (by decide) ?_
            refine ih2 (by omega) g K hi (by rw [ef2]; exact q7) (by rw [ef3]; exact q8) (by rw [ef3]; omega) ?_
            rw [ef3]
            refine ⟨hTL.1, fun x y z h1 h2 h3 hD ht => hTL.2 x y z h1 h2 h3 ?_ ht⟩
            rcases hD with q | ⟨qa, qb⟩
            · exact Or.inl q
            · refine Or.inr ⟨qa, ?_⟩
              rcases (show y < b ∨ y = b by omega) with q | q
              · exact q
              · subst qa q
                unfold trS at ht
                rw [hno, Bool.false_and] at ht
                exact absurd ht (by decide)
          · have hyes : ox h a b = true := by
              cases hq : ox h a b with
              | true => rfl
              | false => rw [hq] at hbit; rw [hbit] at hc; exact absurd hc (by decide)
            clear hc
            have ef2 : fb_sm (f2 (ox h) a) (b + 1) = fb_sm (f2 (ox h) a) b + 1 := by
              have : f2 (ox h) a b = 1 := by unfold f2; rw [if_pos ⟨by omega, hyes⟩]
              simp only [fb_sm]
              omega
            have ef3 : fb_sm (fun b => fb_sm (f3 (ox h) a b) r) (b + 1) = fb_sm (fun b => fb_sm (f3 (ox h) a b) r) b + fb_sm (f3 (ox h) a b) r := rfl
            refine sw_aload_n dX1_findPairsAndThrees_46 rfl ?_
            refine sw_dup dX1_findPairsAndThrees_47 rfl ?_
            refine sw_getI dX1_findPairsAndThrees_48 flX1_35 ⟨by decide, _, rfl, rfl⟩ ?_
            rw [q7]
            refine sw_iconst (v := nI 1) dX1_findPairsAndThrees_51 (by decide) ?_
            first | refine sw_iaddN dX1_findPairsAndThrees_52 ?_ | refine sw_iadd dX1_findPairsAndThrees_52 ?_
            refine sw_put dX1_findPairsAndThrees_53 fpX1_35 ⟨by decide, _, rfl, rfl⟩ rfl rfl ?_
            generalize hgf : hset g 13 7 (nI (fb_sm (S2 (ox h) r) a + fb_sm (f2 (ox h) a) b + 1)) = f
            have Kf : KR h f := fun k k1 k2 => by rw [← hgf, hset_off k k1]; exact K k k1 k2
            have hif : ∀ i, i ≠ 7 → i ≠ 8 → f 13 i = h 13 i := fun i h7 h8 => by rw [← hgf, hset_i h7]; exact hi i h7 h8
            have f7 : f 13 7 = nI (fb_sm (S2 (ox h) r) a + fb_sm (f2 (ox h) a) b + 1) := by rw [← hgf, hset_at]
            have f8 : f 13 8 = nI (fb_sm (S3 (ox h) r) a + fb_sm (fun b => fb_sm (f3 (ox h) a b) r) b) := by rw [← hgf, hset_i (by decide)]; exact q8
            have f18 : f 18 = g 18 := by rw [← hgf, hset_off 18 (by decide)]
            have Vf := Kf.rv (hif 0 (by decide) (by decide)) V
            refine sw_aload_n dX1_findPairsAndThrees_56 rfl ?_
            refine sw_iload_n dX1_findPairsAndThrees_57 rfl ?_
            refine sw_iload_n dX1_findPairsAndThrees_58 rfl ?_
            refine sw_callV (i := 0) (c_findThreesOf Vf (a := a) (b := b) (by omega) hb f8 (by omega) (by rw [Kf.oxe]; exact hyes) (by rw [Kf.oxe, f18]; exact hTL)) dX1_findPairsAndThrees_59 lkX1_69 (by decide) ⟨by decide, _, rfl, rfl⟩ rfl rfl rfl (Nat.le_of_ble_eq_true rfl) (fun v h1 hq => ?_)
            obtain ⟨rfl, Kq, hiq, q8q, hleq, hTLq⟩ := hq
            rw [Kf.oxe] at q8q hleq hTLq
            first | refine sw_iincN (b := 1) dX1_findPairsAndThrees_62 rfl (by decide) rfl ?_ | refine sw_iinc dX1_findPairsAndThrees_62 rfl rfl (by decide) rfl ?_
            refine sw_goto (tgt := 24) dX1_findPairsAndThrees_65 (by decide) ?_
            refine ih2 (by omega) h1 (fun k k1 k2 => by rw [Kq k k1 k2]; exact Kf k k1 k2) (fun i h7 h8 => by rw [hiq i h8]; exact hif i h7 h8) ?_ ?_ ?_ ?_
            · rw [hiq 7 (by decide), f7, ef2, Nat.add_assoc]
            · rw [q8q, ef3, Nat.add_assoc]
            · rw [ef3]
              omega
            · rw [ef3, ← Nat.add_assoc]
              exact hTLq
/-- the red ones of m are COLOURS of R rays -/
def triOk (e : Nat → Nat → Bool) (R m : Nat) : Prop := ∀ a b c, a < b → b < c → c < R → trS e a b c = true → pop (m &&& mk3 a b c) = 1
def sqB (e : Nat → Nat → Bool) (R m : Nat) : Bool := allB (fun i => decide (m / 2 ^ i % 2 = 1 → bm (e i) R &&& m = 0)) R
def triB (e : Nat → Nat → Bool) (R m : Nat) : Bool := allB (fun a => allB (fun b => allB (fun c => decide (a < b → b < c → trS e a b c = true → pop (m &&& mk3 a b c) = 1)) R) R) R
theorem triB_t {e : Nat → Nat → Bool} {R m : Nat} : triB e R m = true ↔ triOk e R m := by
  unfold triB triOk
  rw [allB_t]
  constructor
  · intro h a b c h1 h2 h3 ht
    have q := allB_t.mp (allB_t.mp (h a (by omega)) b (by omega)) c h3
    exact of_decide_eq_true q h1 h2 ht
  · intro h a ha
    exact allB_t.mpr (fun b hb => allB_t.mpr (fun c hc => decide_eq_true (fun h1 h2 ht => h a b c h1 h2 hc ht)))
def colB (e : Nat → Nat → Bool) (R m : Nat) : Bool := triB e R m && sqB e R m
theorem mk3_lt : ∀ a, a < 12 → ∀ b, b < 12 → ∀ c, c < 12 → mk3 a b c < 4096 := by decide +kernel
theorem c_areColours (V : RV h r) {n : Nat} (hn : h 13 8 = nI n) (hn2 : n ≤ 220) (hT : TLs (h 18) n (ox h) r (fun _ _ _ => True)) {m : Nat} (hm : m < 4096) : Ctr jX1_areColours [.ref 13, .int (nI m)] h (Ret (bI (colB (ox h) r m)) h) := by
  have hr := V.1
  have hmk : ∀ i, i < n → ∃ a b c, a < b ∧ b < c ∧ c < r ∧ trS (ox h) a b c = true ∧ h 18 i = nI (mk3 a b c) := hT.1
  refine ctr_start (by decide) (Nat.le_of_ble_eq_true rfl) rfl rfl ?_
  show SW jX1_areColours E0 _ 0 [some (.ref 13), some (.int (nI m)), none] [] _
  refine sw_iconst (v := nI 0) dX1_areColours_0 (by decide) ?_
  refine sw_istore_n dX1_areColours_1 (by decide) rfl ?_
  have key := lp_up (n := n) (S := fun i => (∀ j a b c, j < i → h 18 j = nI (mk3 a b c) → a < 12 → b < 12 → c < 12 → pop (m &&& mk3 a b c) = 1) → SW jX1_areColours E0 (Zm (Ret (bI (colB (ox h) r m)) h)) 2 [some (.ref 13), some (.int (nI m)), some (.int (nI i))] [] h) ?_ ?_ 0 (Nat.zero_le _) (fun j a b c hj => absurd hj (Nat.not_lt_zero _))
  · exact key
  · intro hall
    have htri : triB (ox h) r m = true := triB_t.mpr (fun a b c h1 h2 h3 ht => by
      obtain ⟨i, hi, hie⟩ := hT.2 a b c h1 h2 h3 trivial ht
      exact hall i a b c hi hie (by omega) (by omega) (by omega))
    refine sw_iload_n dX1_areColours_2 rfl ?_
    refine sw_aload_n dX1_areColours_3 rfl ?_
    refine sw_getI dX1_areColours_4 flX1_38 ⟨by decide, _, rfl, rfl⟩ ?_
    rw [hn]
    refine sw_icmpN_ge (tgt := 33) dX1_areColours_7 (by decide) (by omega) (by omega) (fun hc => ?_) (fun hc => ?_)
    · clear hc
      refine sw_iconst (v := nI 0) dX1_areColours_33 (by decide) ?_
      refine sw_istore_n dX1_areColours_34 (by decide) rfl ?_
      have key2 := lp_up (n := r) (S := fun i => allB (fun i => decide (m / 2 ^ i % 2 = 1 → bm (ox h i) r &&& m = 0)) i = true → SW jX1_areColours E0 (Zm (Ret (bI (colB (ox h) r m)) h)) 35 [some (.ref 13), some (.int (nI m)), some (.int (nI i))] [] h) ?_ ?_ 0 (Nat.zero_le _) rfl
      · exact key2
      · intro ha
        refine sw_iload_n dX1_areColours_35 rfl ?_
        refine sw_aload_n dX1_areColours_36 rfl ?_
        refine sw_getI dX1_areColours_37 flX1_9 ⟨by decide, _, rfl, rfl⟩ ?_
        rw [V.2.1]
        refine sw_icmpN_ge (tgt := 71) dX1_areColours_40 (by decide) (by omega) (by omega) (fun hc => ?_) (fun hc => ?_)
        · refine sw_iconst (v := nI 1) dX1_areColours_71 (by decide) ?_
          refine sw_zret dX1_areColours_72 rfl rfl rfl rfl ?_
          exact ⟨by unfold colB sqB; rw [htri, ha]; rfl, rfl⟩
        · omega
      · intro i hi ih ha
        have hand : bm (ox h i) r &&& m < 4096 := Nat.lt_of_le_of_lt Nat.and_le_right hm
        have nx : (m / 2 ^ i % 2 = 1 → bm (ox h i) r &&& m = 0) → SW jX1_areColours E0 (Zm (Ret (bI (colB (ox h) r m)) h)) 65 [some (.ref 13), some (.int (nI m)), some (.int (nI i))] [] h := fun q => by
          first | refine sw_iincN (b := 1) dX1_areColours_65 rfl (by decide) rfl ?_ | refine sw_iinc dX1_areColours_65 rfl rfl (by decide) rfl ?_
          refine sw_goto (tgt := 35) dX1_areColours_68 (by decide) ?_
          exact ih (by simp only [allB, ha, Bool.true_and]; exact decide_eq_true q)
        refine sw_iload_n dX1_areColours_35 rfl ?_
        refine sw_aload_n dX1_areColours_36 rfl ?_
        refine sw_getI dX1_areColours_37 flX1_9 ⟨by decide, _, rfl, rfl⟩ ?_
        rw [V.2.1]
        refine sw_icmpN_ge (tgt := 71) dX1_areColours_40 (by decide) (by omega) (by omega) (fun hc => ?_) (fun hc => ?_)
        · omega
        · clear hc
          refine sw_iload_n dX1_areColours_43 rfl ?_
          refine sw_iload_n dX1_areColours_44 rfl ?_
          first | refine sw_ishrN dX1_areColours_45 (by omega) (by omega) ?_ | refine sw_ishr dX1_areColours_45 ?_
          refine sw_iconst (v := nI 1) dX1_areColours_46 (by decide) ?_
          first | refine sw_iand1 dX1_areColours_47 ?_ | refine sw_iand dX1_areColours_47 ?_
          refine sw_iconst (v := nI 1) dX1_areColours_48 (by decide) ?_
          refine sw_icmpN_ne (tgt := 65) dX1_areColours_49 (by decide) (by omega) (by omega) (fun hc => ?_) (fun hc => ?_)
          · exact nx (fun q => absurd q hc)
          · have hb := hc
            clear hc
            refine sw_aload_n dX1_areColours_52 rfl ?_
            refine sw_getR dX1_areColours_53 flX1_25 ⟨by decide, _, rfl, rfl⟩ ?_
            refine sw_iload_n dX1_areColours_56 rfl ?_
            refine sw_iald dX1_areColours_57 rfl (by simp only [plA]; omega) ?_
            rw [V.2.2 i hi]
            refine sw_iload_n dX1_areColours_58 rfl ?_
            first | refine sw_iandN dX1_areColours_59 ?_ | refine sw_iand dX1_areColours_59 ?_
            refine sw_if_eq (tgt := 65) dX1_areColours_60 (by decide) (fun hc => ?_) (fun hc => ?_)
            · exact nx (fun _ => (nI_eq (by omega) (by omega)).mp hc)
            · refine sw_iconst (v := nI 0) dX1_areColours_63 (by decide) ?_
              refine sw_zret dX1_areColours_64 rfl rfl rfl rfl ?_
              exact ⟨by unfold colB sqB; rw [allB_f hi (decide_eq_false (fun q => hc (by rw [q hb]; rfl))), Bool.and_false]; rfl, rfl⟩
    · omega
  · intro i hi ih hall
    obtain ⟨a, b, c, h1, h2, h3, htr, hie⟩ := hmk i hi
    have hl := mk3_lt a (by omega) b (by omega) c (by omega)
    have hand : m &&& mk3 a b c < 4096 := Nat.lt_of_le_of_lt Nat.and_le_left hm
    refine sw_iload_n dX1_areColours_2 rfl ?_
    refine sw_aload_n dX1_areColours_3 rfl ?_
    refine sw_getI dX1_areColours_4 flX1_38 ⟨by decide, _, rfl, rfl⟩ ?_
    rw [hn]
    refine sw_icmpN_ge (tgt := 33) dX1_areColours_7 (by decide) (by omega) (by omega) (fun hc => ?_) (fun hc => ?_)
    · omega
    · clear hc
      refine sw_iload_n dX1_areColours_10 rfl ?_
      refine sw_aload_n dX1_areColours_11 rfl ?_
      refine sw_getR dX1_areColours_12 flX1_28 ⟨by decide, _, rfl, rfl⟩ ?_
      refine sw_iload_n dX1_areColours_15 rfl ?_
      refine sw_iald dX1_areColours_16 rfl (by simp only [plA]; omega) ?_
      rw [hie]
      refine sw_iandN dX1_areColours_17 ?_
      refine sw_csi (c_bitCount (by omega)) dX1_areColours_18 lkX1_57 (by decide) rfl rfl (Nat.le_of_ble_eq_true rfl) ?_
      refine sw_iconst (v := nI 1) dX1_areColours_21 (by decide) ?_
      have hpop : pop (m &&& mk3 a b c) ≤ 16 := bs_le _ 16
      refine sw_icmpN_eq (tgt := 27) dX1_areColours_22 (by decide) (by omega) (by omega) (fun hc => ?_) (fun hc => ?_)
      · first | refine sw_iincN (b := 1) dX1_areColours_27 rfl (by decide) rfl ?_ | refine sw_iinc dX1_areColours_27 rfl rfl (by decide) rfl ?_
        refine sw_goto (tgt := 2) dX1_areColours_30 (by decide) ?_
        refine ih (fun j a' b' c' hj hje ha' hb' hc' => ?_)
        rcases (show j < i ∨ j = i by omega) with q | q
        · exact hall j a' b' c' q hje ha' hb' hc'
        · subst q
          have e := hie.symm.trans hje
          have hl2 := mk3_lt a' ha' b' hb' c' hc'
          rw [← (nI_eq (by omega) (by omega)).mp e]
          exact hc
      · refine sw_iconst (v := nI 0) dX1_areColours_25 (by decide) ?_
        refine sw_zret dX1_areColours_26 rfl rfl rfl rfl ?_
        have hf : triB (ox h) r m = false := by
          cases q : triB (ox h) r m with
          | false => rfl
          | true => exact absurd (triB_t.mp q a b c h1 h2 h3 htr) hc
        exact ⟨by unfold colB; rw [hf, Bool.false_and]; rfl, rfl⟩
end RAYS
end
section
def fstL (p : Nat → Bool) : Nat → Int32
  | 0 => -4
  | i + 1 => if p i then (if fa_cnt p i = 0 then nI i else fstL p i) else fstL p i
def mostX (p : Nat → Bool) : Nat → Int32
  | 0 => -4
  | i + 1 => if p i then (if mostX p i < nI (pop i) then nI (pop i) else mostX p i) else mostX p i
/-- what is kept of the rays' colours -/
def JD (h : Hp) (r : Nat) : Prop := h 13 7 = nI (fb_sm (S2 (ox h) r) r) ∧ h 13 8 = nI (fb_sm (S3 (ox h) r) r) ∧ h 13 9 = nI (fa_cnt (colB (ox h) r) (2 ^ r)) ∧ h 13 10 = fstL (colB (ox h) r) (2 ^ r) ∧ h 13 11 = mostX (colB (ox h) r) (2 ^ r)
theorem fits_i (x : Int32) : fits .int (.int x) = true := rfl
theorem c_judge {h : Hp} {r : Nat} (V : RV h r) (hj : ¬ h 13 6 = 0 → JD h r) : Ctr jX1_judge [.ref 13] h (fun v g => v = none ∧ KR h g ∧ g 13 0 = h 13 0 ∧ ¬ g 13 6 = 0 ∧ JD g r) := by
  have hr := V.1
  have h12 := pow12 hr
  refine ctr_start (by decide) (Nat.le_of_ble_eq_true rfl) rfl rfl ?_
  show SW jX1_judge E0 _ 0 [some (.ref 13), none] [] _
  refine sw_aload_n dX1_judge_0 rfl ?_
  refine sw_getI dX1_judge_1 flX1_31 ⟨by decide, _, rfl, rfl⟩ ?_
  refine sw_if_eq (tgt := 8) dX1_judge_4 (by decide) (fun hc => ?_) (fun hc => ?_)
  · clear hc hj
    refine sw_aload_n dX1_judge_8 rfl ?_
    refine sw_iconst (v := nI 1) dX1_judge_9 (by decide) ?_
    refine sw_put dX1_judge_10 fpX1_31 ⟨by decide, _, rfl, rfl⟩ rfl rfl ?_
    generalize hge : hset h 13 6 (nI 1) = g0
    have k0 : KR h g0 := fun k k1 k2 => by rw [← hge, hset_off k k1]
    have g00 : g0 13 0 = h 13 0 := by rw [← hge, hset_i (by decide)]
    have g06 : g0 13 6 = nI 1 := by rw [← hge, hset_at]
    have V0 := k0.rv g00 V
    refine sw_aload_n dX1_judge_13 rfl ?_
    refine sw_callV (i := 0) (c_findPairsAndThrees V0) dX1_judge_14 lkX1_50 (by decide) ⟨by decide, _, rfl, rfl⟩ rfl rfl rfl (Nat.le_of_ble_eq_true rfl) (fun v h1 hq => ?_)
    obtain ⟨rfl, K1, i1, q7, q8, hle, hTL⟩ := hq
    rw [k0.oxe] at q7 q8 hle hTL
    have K : KR h h1 := fun k k1 k2 => by rw [K1 k k1 k2]; exact k0 k k1 k2
    have z1 : h1 13 0 = h 13 0 := by rw [i1 0 (by decide) (by decide), g00]
    have z6 : h1 13 6 = nI 1 := by rw [i1 6 (by decide) (by decide), g06]
    refine sw_aload_n dX1_judge_17 rfl ?_
    refine sw_iconst (v := nI 0) dX1_judge_18 (by decide) ?_
    refine sw_put dX1_judge_19 fpX1_41 ⟨by decide, _, rfl, rfl⟩ rfl rfl ?_
    refine sw_aload_n dX1_judge_22 rfl ?_
    refine sw_bipush (v := (-4)) dX1_judge_23 (by decide) ?_
    refine sw_put dX1_judge_25 fpX1_44 ⟨by decide, _, rfl, rfl⟩ rfl rfl ?_
    refine sw_aload_n dX1_judge_28 rfl ?_
    refine sw_bipush (v := (-4)) dX1_judge_29 (by decide) ?_
    refine sw_put dX1_judge_31 fpX1_47 ⟨by decide, _, rfl, rfl⟩ rfl rfl ?_
    refine sw_iconst (v := nI 0) dX1_judge_34 (by decide) ?_
    refine sw_istore_n dX1_judge_35 (by decide) rfl ?_
    generalize hgf : hset (hset (hset h1 13 9 (nI 0)) 13 10 (-4)) 13 11 (-4) = f
    have key := lp_up (n := 2 ^ r) (S := fun i => ∀ g : Hp, KR h g → g 13 0 = h 13 0 → g 13 6 = nI 1 → g 13 7 = nI (fb_sm (S2 (ox h) r) r) → g 13 8 = nI (fb_sm (S3 (ox h) r) r) → g 13 9 = nI (fa_cnt (colB (ox h) r) i) → g 13 10 = fstL (colB (ox h) r) i → g 13 11 = mostX (colB (ox h) r) i → g 18 = h1 18 → SW jX1_judge E0 (Zm (fun v g => v = none ∧ KR h g ∧ g 13 0 = h 13 0 ∧ ¬ g 13 6 = 0 ∧ JD g r)) 36 [some (.ref 13), some (.int (nI i))] [] g) ?_ ?_ 0 (Nat.zero_le _) f (fun k k1 k2 => by rw [← hgf, hset_off k k1, hset_off k k1, hset_off k k1]; exact K k k1 k2) (by rw [← hgf, hset_i (by decide), hset_i (by decide), hset_i (by decide)]; exact z1) (by rw [← hgf, hset_i (by decide), hset_i (by decide), hset_i (by decide)]; exact z6) (by rw [← hgf, hset_i (by decide), hset_i (by decide), hset_i (by decide)]; exact q7) (by rw [← hgf, hset_i (by decide), hset_i (by decide), hset_i (by decide)]; exact q8) (by rw [← hgf, hset_i (by decide), hset_i (by decide), hset_at]; rfl) (by rw [← hgf, hset_i (by decide), hset_at]; rfl) (by rw [← hgf, hset_at]; rfl) (by rw [← hgf, hset_off 18 (by decide), hset_off 18 (by decide), hset_off 18 (by decide)])
    · exact key
    · intro g Kg a0 a6 a7 a8 a9 a10 a11 a18
      refine sw_iload_n dX1_judge_36 rfl ?_
      refine sw_iconst (v := nI 1) dX1_judge_37 (by decide) ?_
      refine sw_aload_n dX1_judge_38 rfl ?_
      refine sw_getI dX1_judge_39 flX1_9 ⟨by decide, _, rfl, rfl⟩ ?_
      rw [show g 13 0 = nI r from a0.trans V.2.1]
      first | refine sw_ishlN dX1_judge_42 (by omega) (by omega) ?_ | refine sw_ishl dX1_judge_42 ?_
      rw [Nat.one_mul]
      refine sw_icmpN_ge (tgt := 104) dX1_judge_43 (by decide) (by omega) (by omega) (fun hc => ?_) (fun hc => ?_)
      · refine sw_vret dX1_judge_104 rfl rfl rfl ?_
        refine ⟨rfl, Kg, a0, by rw [a6]; decide, ?_, ?_, ?_, ?_, ?_⟩
        · rw [Kg.oxe]; exact a7
        · rw [Kg.oxe]; exact a8
        · rw [Kg.oxe]; exact a9
        · rw [Kg.oxe]; exact a10
        · rw [Kg.oxe]; exact a11
      · omega
    · intro i hi ih g Kg a0 a6 a7 a8 a9 a10 a11 a18
      have VG := Kg.rv a0 V
      refine sw_iload_n dX1_judge_36 rfl ?_
      refine sw_iconst (v := nI 1) dX1_judge_37 (by decide) ?_
      refine sw_aload_n dX1_judge_38 rfl ?_
      refine sw_getI dX1_judge_39 flX1_9 ⟨by decide, _, rfl, rfl⟩ ?_
      rw [show g 13 0 = nI r from a0.trans V.2.1]
      first | refine sw_ishlN dX1_judge_42 (by omega) (by omega) ?_ | refine sw_ishl dX1_judge_42 ?_
      rw [Nat.one_mul]
      refine sw_icmpN_ge (tgt := 104) dX1_judge_43 (by decide) (by omega) (by omega) (fun hc => ?_) (fun hc => ?_)
      · omega
      · clear hc
        refine sw_aload_n dX1_judge_46 rfl ?_
        refine sw_iload_n dX1_judge_47 rfl ?_
        refine sw_cvi (i := 0) (c_areColours VG (n := fb_sm (S3 (ox h) r) r) a8 hle (by rw [Kg.oxe, a18]; exact hTL) (by omega)) dX1_judge_48 lkX1_53 (by decide) ⟨by decide, _, rfl, rfl⟩ rfl rfl rfl (Nat.le_of_ble_eq_true rfl) ?_
        rw [Kg.oxe]
        refine sw_if_eq (tgt := 98) dX1_judge_51 (by decide) (fun hc => ?_) (fun hc => ?_)
        · have hno := bI_0 hc
          first | refine sw_iincN (b := 1) dX1_judge_98 rfl (by decide) rfl ?_ | refine sw_iinc dX1_judge_98 rfl rfl (by decide) rfl ?_
          refine sw_goto (tgt := 36) dX1_judge_101 (by decide) ?_
          refine ih g Kg a0 a6 a7 a8 ?_ ?_ ?_ a18
          · rw [fa_cnt_no hno]; exact a9
          · simp only [fstL, hno]; exact a10
          · simp only [mostX, hno]; exact a11
        · have hyes := bI_1 hc
          clear hc
          have hcle := fa_cnt_le (colB (ox h) r) i
          have go : ∀ lc : Int32, lc = fstL (colB (ox h) r) (i + 1) → SW jX1_judge E0 (Zm (fun v g => v = none ∧ KR h g ∧ g 13 0 = h 13 0 ∧ ¬ g 13 6 = 0 ∧ JD g r)) 70 [some (.ref 13), some (.int (nI i))] [.int lc, .ref 13] g := fun lc hlc => by
            refine sw_put dX1_judge_70 fpX1_44 ⟨by decide, _, rfl, rfl⟩ rfl rfl ?_
            refine sw_aload_n dX1_judge_73 rfl ?_
            refine sw_aload_n dX1_judge_74 rfl ?_
            refine sw_getI dX1_judge_75 flX1_47 ⟨by decide, _, rfl, rfl⟩ ?_
            rw [show hset g 13 10 lc 13 11 = mostX (colB (ox h) r) i by rw [hset_i (by decide)]; exact a11]
            refine sw_iload_n dX1_judge_78 rfl ?_
            refine sw_csi (c_bitCount (by omega)) dX1_judge_79 lkX1_57 (by decide) rfl rfl (Nat.le_of_ble_eq_true rfl) ?_
            refine sw_mmax dX1_judge_82 (by decide +kernel) (by decide +kernel) (by decide +kernel) (by decide +kernel) (by decide) (Nat.le_of_ble_eq_true rfl) (by decide) (by decide) ?_
            generalize hmx : (if mostX (colB (ox h) r) i < nI (pop i) then nI (pop i) else mostX (colB (ox h) r) i) = mx
            have emx : mx = mostX (colB (ox h) r) (i + 1) := by rw [← hmx]; simp only [mostX, hyes, if_true]
            refine sw_put dX1_judge_85 fpX1_47 ⟨by decide, _, rfl, rfl⟩ rfl rfl ?_
            refine sw_aload_n dX1_judge_88 rfl ?_
            refine sw_dup dX1_judge_89 rfl ?_
            refine sw_getI dX1_judge_90 flX1_41 ⟨by decide, _, rfl, rfl⟩ ?_
            rw [show hset (hset g 13 10 lc) 13 11 mx 13 9 = nI (fa_cnt (colB (ox h) r) i) by rw [hset_i (by decide), hset_i (by decide)]; exact a9]
            refine sw_iconst (v := nI 1) dX1_judge_93 (by decide) ?_
            first | refine sw_iaddN dX1_judge_94 ?_ | refine sw_iadd dX1_judge_94 ?_
            refine sw_put dX1_judge_95 fpX1_41 ⟨by decide, _, rfl, rfl⟩ rfl rfl ?_
            first | refine sw_iincN (b := 1) dX1_judge_98 rfl (by decide) rfl ?_ | refine sw_iinc dX1_judge_98 rfl rfl (by decide) rfl ?_
            refine sw_goto (tgt := 36) dX1_judge_101 (by decide) ?_
            refine ih _ (fun k k1 k2 => ?_) ?_ ?_ ?_ ?_ ?_ ?_ ?_ ?_
            · rw [hset_off k k1, hset_off k k1, hset_off k k1]; exact Kg k k1 k2
            · rw [hset_i (by decide), hset_i (by decide), hset_i (by decide)]; exact a0
            · rw [hset_i (by decide), hset_i (by decide), hset_i (by decide)]; exact a6
            · rw [hset_i (by decide), hset_i (by decide), hset_i (by decide)]; exact a7
            · rw [hset_i (by decide), hset_i (by decide), hset_i (by decide)]; exact a8
            · rw [hset_at, fa_cnt_yes hyes]
            · rw [hset_i (by decide), hset_i (by decide), hset_at]; exact hlc
            · rw [hset_i (by decide), hset_at]; exact emx
            · rw [hset_off 18 (by decide), hset_off 18 (by decide), hset_off 18 (by decide)]; exact a18
          refine sw_aload_n dX1_judge_54 rfl ?_
          refine sw_aload_n dX1_judge_55 rfl ?_
          refine sw_getI dX1_judge_56 flX1_41 ⟨by decide, _, rfl, rfl⟩ ?_
          rw [a9]
          refine sw_if_ne (tgt := 66) dX1_judge_59 (by decide) (fun hc => ?_) (fun hc => ?_)
          · have hc0 : ¬ fa_cnt (colB (ox h) r) i = 0 := fun q => hc (by rw [q]; rfl)
            refine sw_aload_n dX1_judge_66 rfl ?_
            refine sw_getI dX1_judge_67 flX1_44 ⟨by decide, _, rfl, rfl⟩ ?_
            rw [a10]
            exact go (fstL (colB (ox h) r) i) (by simp only [fstL, hyes, if_true, if_neg hc0])
          · have hc0 : fa_cnt (colB (ox h) r) i = 0 := (nI_eq (by omega) (by omega)).mp hc
            refine sw_iload_n dX1_judge_62 rfl ?_
            refine sw_goto (tgt := 70) dX1_judge_63 (by decide) ?_
            exact go (nI i) (by simp only [fstL, hyes, if_true, if_pos hc0])
  · refine sw_vret dX1_judge_7 rfl rfl rfl ?_
    exact ⟨rfl, fun _ _ _ => rfl, rfl, hc, hj hc⟩
end
section
/-! the reference: its own methods -/
theorem c_inR {h : Hp} {a : Int32} {lo hi : Int64} {l u : Int} (hl : lo.toInt = l) (hu : hi.toInt = u) : Ctr jX5_in [.long a.toInt64, .long lo, .long hi] h (Ret (bI (rg l u a)) h) := by
  have h1 := c_in (h := h) (a := a.toInt64) (b := lo) (c := hi)
  have e : (if lo ≤ a.toInt64 ∧ a.toInt64 ≤ hi then nI 1 else nI 0) = bI (rg l u a) := by
    have hiff : (lo ≤ a.toInt64 ∧ a.toInt64 ≤ hi) ↔ (l ≤ a.toInt ∧ a.toInt ≤ u) := by
      rw [Int64.le_iff_toInt_le, Int64.le_iff_toInt_le, Int32.toInt_toInt64, hl, hu]
    unfold rg bI
    by_cases q : l ≤ a.toInt ∧ a.toInt ≤ u
    · rw [if_pos (hiff.mpr q), decide_eq_true q]; rfl
    · rw [if_neg (fun w => q (hiff.mp w)), decide_eq_false q]; rfl
  rw [e] at h1
  exact h1
theorem i64N {k : Nat} (hk : k < 2 ^ 31) : (nI k).toInt64.toInt = (k : Int) := by rw [Int32.toInt_toInt64, nI_toInt hk]
theorem i64S {k : Nat} (hk : k < 2 ^ 30) : (nI k - nI 1).toInt64.toInt = (k : Int) - 1 := by
  rw [Int32.toInt_toInt64, pk_sub_toInt hk (by omega)]
  rfl
theorem lN_k {k : Nat} (hk : k < 2 ^ 31) : (lN k).toInt = (k : Int) := lN_toInt hk
def TM (h : Hp) (n z : Nat) (sm : Nat → Nat) : Prop := (n ≤ 6 ∧ z ≤ 8 ∧ h 28 0 = nI n ∧ h 28 1 = nI z) ∧ ∀ c, c < z → h 29 c = nI (sm c) ∧ 1 ≤ sm c ∧ sm c < 2 ^ n ∧ pop (sm c) ≤ 3
theorem TM.s64 {h : Hp} {n z : Nat} {sm : Nat → Nat} (T : TM h n z sm) {c : Nat} (hc : c < z) : sm c < 64 := Nat.lt_of_lt_of_le (T.2 c hc).2.2.1 (pow6 T.1.1)
theorem TM.j8 {h : Hp} {n z : Nat} {sm : Nat → Nat} (T : TM h n z sm) {c : Nat} (hc : c < z) (x : Nat) : jnt (sm c) x < 8 := Nat.lt_of_lt_of_le (jnt_lt (T.s64 hc) x) (pow3 (T.2 c hc).2.2.2)
theorem bit_hi {s n k : Nat} (hs : s < 2 ^ n) (hk : n ≤ k) : s / 2 ^ k % 2 = 0 := by
  rw [Nat.div_eq_of_lt (Nat.lt_of_lt_of_le hs (Nat.pow_le_pow_right (by omega) hk))]
theorem jn_stop {s x n : Nat} (hs : s < 2 ^ n) : ∀ d, jn s x (n + d) = jn s x n
  | 0 => rfl
  | d + 1 => by
    rw [← Nat.add_assoc]
    simp only [jn]
    rw [bit_hi hs (by omega), if_neg (by decide), Nat.add_zero, jn_stop hs d]
theorem jn_n {s x n : Nat} (hs : s < 2 ^ n) (hn : n ≤ 6) : jn s x n = jnt s x := by
  have := jn_stop (x := x) hs (6 - n)
  rw [show n + (6 - n) = 6 by omega] at this
  exact this.symm
section MOD
variable {h : Hp} {n z : Nat} {sm : Nat → Nat}
theorem c_hiddenMany (hn : h 28 0 = nI n) (hn6 : n ≤ 6) : Ctr jX5_hiddenMany [.ref 28] h (Ret (nI (2 ^ n)) h) := by
  have h1 := pow6 hn6
  refine ctr_start (by decide) (Nat.le_of_ble_eq_true rfl) rfl rfl ?_
  show SW jX5_hiddenMany E0 _ 0 [some (.ref 28)] [] _
  refine sw_iconst (v := nI 1) dX5_hiddenMany_0 (by decide) ?_
  refine sw_aload_n dX5_hiddenMany_1 rfl ?_
  refine sw_getI dX5_hiddenMany_2 flX5_7 ⟨by decide, _, rfl, rfl⟩ ?_
  rw [hn]
  first | refine sw_ishlN dX5_hiddenMany_5 (by omega) (by omega) ?_ | refine sw_ishl dX5_hiddenMany_5 ?_
  refine sw_iret dX5_hiddenMany_6 rfl rfl rfl ?_
  rw [Nat.one_mul]
  exact ⟨rfl, rfl⟩
theorem c_isSet (hz8 : z ≤ 8) (hz : h 28 1 = nI z) (c : Int32) : Ctr jX5_isSet [.ref 28, .int c] h (Ret (bI (rg 0 ((z : Int) - 1) c)) h) := by
  refine ctr_start (by decide) (Nat.le_of_ble_eq_true rfl) rfl rfl ?_
  show SW jX5_isSet E0 _ 0 [some (.ref 28), some (.int c)] [] _
  refine sw_iload_n dX5_isSet_0 rfl ?_
  refine sw_i2l dX5_isSet_1 ?_
  refine sw_lconst (v := lN 0) dX5_isSet_2 (by decide) ?_
  refine sw_aload_n dX5_isSet_3 rfl ?_
  refine sw_getI dX5_isSet_4 flX5_56 ⟨by decide, _, rfl, rfl⟩ ?_
  rw [hz]
  refine sw_iconst (v := nI 1) dX5_isSet_7 (by decide) ?_
  refine sw_isub dX5_isSet_8 ?_
  refine sw_i2l dX5_isSet_9 ?_
  refine sw_csi (c_inR (l := 0) (u := (z : Int) - 1) (by decide) (i64S (by omega))) dX5_isSet_10 lkX5_59 (by decide) rfl rfl (Nat.le_of_ble_eq_true rfl) ?_
  refine sw_zret dX5_isSet_13 rfl rfl rfl (bI_nar _) ?_
  exact ⟨rfl, rfl⟩
theorem c_isJoint (T : TM h n z sm) (c j : Int32) : Ctr jX5_isJoint [.ref 28, .int c, .int j] h (Ret (bI (rg 0 ((z : Int) - 1) c && rg 0 (((2 ^ pop (sm c.toNatClampNeg) : Nat) : Int) - 1) j)) h) := by
  have hz8 := T.1.2.1
  refine ctr_start (by decide) (Nat.le_of_ble_eq_true rfl) rfl rfl ?_
  show SW jX5_isJoint E0 _ 0 [some (.ref 28), some (.int c), some (.int j)] [] _
  refine sw_aload_n dX5_isJoint_0 rfl ?_
  refine sw_iload_n dX5_isJoint_1 rfl ?_
  refine sw_cvi (i := 0) (c_isSet hz8 T.1.2.2.2 c) dX5_isJoint_2 lkX5_63 (by decide) ⟨by decide, _, rfl, rfl⟩ rfl rfl rfl (Nat.le_of_ble_eq_true rfl) ?_
  refine sw_if_eq (tgt := 35) dX5_isJoint_5 (by decide) (fun hc => ?_) (fun hc => ?_)
  · have hx := bI_0 hc
    refine sw_iconst (v := nI 0) dX5_isJoint_35 (by decide) ?_
    refine sw_zret dX5_isJoint_36 rfl rfl rfl rfl ?_
    exact ⟨by rw [hx]; rfl, rfl⟩
  · have hx := bI_1 hc
    obtain ⟨k, hk, rfl⟩ := rg_nat (by omega) hx
    rw [nI_clamp (by omega), hx]
    have hp3 := (T.2 k hk).2.2.2
    have hp := pow3 hp3
    have h64 := T.s64 hk
    clear hc
    refine sw_iload_n dX5_isJoint_8 rfl ?_
    refine sw_i2l dX5_isJoint_9 ?_
    refine sw_lconst (v := lN 0) dX5_isJoint_10 (by decide) ?_
    refine sw_iconst (v := nI 1) dX5_isJoint_11 (by decide) ?_
    refine sw_aload_n dX5_isJoint_12 rfl ?_
    refine sw_getR dX5_isJoint_13 flX5_13 ⟨by decide, _, rfl, rfl⟩ ?_
    refine sw_iload_n dX5_isJoint_16 rfl ?_
    refine sw_iald dX5_isJoint_17 rfl (by simp only [plA]; omega) ?_
    rw [(T.2 k hk).1]
    refine sw_csi (c_bits (by omega)) dX5_isJoint_18 lkX5_67 (by decide) rfl rfl (Nat.le_of_ble_eq_true rfl) ?_
    first | refine sw_ishlN dX5_isJoint_21 (by omega) (by omega) ?_ | refine sw_ishl dX5_isJoint_21 ?_
    rw [Nat.one_mul]
    refine sw_iconst (v := nI 1) dX5_isJoint_22 (by decide) ?_
    refine sw_isub dX5_isJoint_23 ?_
    refine sw_i2l dX5_isJoint_24 ?_
    refine sw_csi (c_inR (l := 0) (u := ((2 ^ pop (sm k) : Nat) : Int) - 1) (by decide) (i64S (by omega))) dX5_isJoint_25 lkX5_59 (by decide) rfl rfl (Nat.le_of_ble_eq_true rfl) ?_
    refine sw_if_eq (tgt := 35) dX5_isJoint_28 (by decide) (fun hc => ?_) (fun hc => ?_)
    · refine sw_iconst (v := nI 0) dX5_isJoint_35 (by decide) ?_
      refine sw_zret dX5_isJoint_36 rfl rfl rfl rfl ?_
      exact ⟨by rw [bI_0 hc]; rfl, rfl⟩
    · refine sw_iconst (v := nI 1) dX5_isJoint_31 (by decide) ?_
      refine sw_goto (tgt := 36) dX5_isJoint_32 (by decide) ?_
      refine sw_zret dX5_isJoint_36 rfl rfl rfl rfl ?_
      exact ⟨by rw [bI_1 hc]; rfl, rfl⟩
theorem c_jointOf (T : TM h n z sm) {c x : Nat} (hc : c < z) (hx : x < 64) : Ctr jX5_jointOf [.ref 28, .int (nI c), .int (nI x)] h (Ret (nI (jnt (sm c) x)) h) := by
  obtain ⟨⟨hn6, hz8, hn, hz⟩, hs⟩ := T
  obtain ⟨s1, s2, s3, s4⟩ := hs c hc
  have h64 := pow6 hn6
  rw [← jn_n (x := x) s3 hn6]
  have hcc := hc
  clear hc
  refine ctr_start (by decide) (Nat.le_of_ble_eq_true rfl) rfl rfl ?_
  show SW jX5_jointOf E0 _ 0 [some (.ref 28), some (.int (nI c)), some (.int (nI x)), none, none, none] [] _
  refine sw_iconst (v := nI 0) dX5_jointOf_0 (by decide) ?_
  refine sw_istore_n dX5_jointOf_1 (by decide) rfl ?_
  refine sw_iconst (v := nI 0) dX5_jointOf_2 (by decide) ?_
  refine sw_istore dX5_jointOf_3 (by decide) rfl ?_
  refine sw_iconst (v := nI 0) dX5_jointOf_5 (by decide) ?_
  refine sw_istore dX5_jointOf_6 (by decide) rfl ?_
  refine lp_up (n := n) (S := fun i => SW jX5_jointOf E0 (Zm (Ret (nI (jn (sm c) x n)) h)) 8 [some (.ref 28), some (.int (nI c)), some (.int (nI x)), some (.int (nI (jn (sm c) x i))), some (.int (nI (bs (sm c) i))), some (.int (nI i))] [] h) ?_ ?_ 0 (Nat.zero_le _)
  · refine sw_iload dX5_jointOf_8 rfl ?_
    refine sw_aload_n dX5_jointOf_10 rfl ?_
    refine sw_getI dX5_jointOf_11 flX5_7 ⟨by decide, _, rfl, rfl⟩ ?_
    rw [hn]
    refine sw_icmpN_ge (tgt := 53) dX5_jointOf_14 (by decide) (by omega) (by omega) (fun hc => ?_) (fun hc => ?_)
    · refine sw_iload_n dX5_jointOf_53 rfl ?_
      refine sw_iret dX5_jointOf_54 rfl rfl rfl ?_
      exact ⟨rfl, rfl⟩
    · omega
  · intro i hi ih
    refine sw_iload dX5_jointOf_8 rfl ?_
    refine sw_aload_n dX5_jointOf_10 rfl ?_
    refine sw_getI dX5_jointOf_11 flX5_7 ⟨by decide, _, rfl, rfl⟩ ?_
    rw [hn]
    refine sw_icmpN_ge (tgt := 53) dX5_jointOf_14 (by decide) (by omega) (by omega) (fun hc => ?_) (fun hc => ?_)
    · omega
    · have hb := bs_le (sm c) i
      have hm : x / 2 ^ i % 2 < 2 := Nat.mod_lt _ (by omega)
      have hq : x / 2 ^ i % 2 * 2 ^ bs (sm c) i < 2 ^ 32 := by
        have q1 : (2 : Nat) ^ bs (sm c) i ≤ 2 ^ 6 := Nat.pow_le_pow_right (by omega) (by omega)
        have q2 : x / 2 ^ i % 2 * 2 ^ bs (sm c) i ≤ 1 * 2 ^ 6 := Nat.mul_le_mul (by omega) q1
        omega
      clear hc
      refine sw_aload_n dX5_jointOf_17 rfl ?_
      refine sw_getR dX5_jointOf_18 flX5_13 ⟨by decide, _, rfl, rfl⟩ ?_
      refine sw_iload_n dX5_jointOf_21 rfl ?_
      refine sw_iald dX5_jointOf_22 rfl (by simp only [plA]; omega) ?_
      rw [s1]
      refine sw_iload dX5_jointOf_23 rfl ?_
      first | refine sw_ishrN dX5_jointOf_25 (by omega) (by omega) ?_ | refine sw_ishr dX5_jointOf_25 ?_
      refine sw_iconst (v := nI 1) dX5_jointOf_26 (by decide) ?_
      first | refine sw_iand1 dX5_jointOf_27 ?_ | refine sw_iand dX5_jointOf_27 ?_
      refine sw_iconst (v := nI 1) dX5_jointOf_28 (by decide) ?_
      refine sw_icmpN_ne (tgt := 47) dX5_jointOf_29 (by decide) (by omega) (by omega) (fun hc => ?_) (fun hc => ?_)
      · rw [jn_no (sm c) x i hc, bs_no (sm c) i hc] at *
        first | refine sw_iincN (b := 1) dX5_jointOf_47 rfl (by decide) rfl ?_ | refine sw_iinc dX5_jointOf_47 rfl rfl (by decide) rfl ?_
        refine sw_goto (tgt := 8) dX5_jointOf_50 (by decide) ?_
        exact ih
      · refine sw_iload_n dX5_jointOf_32 rfl ?_
        refine sw_iload_n dX5_jointOf_33 rfl ?_
        refine sw_iload dX5_jointOf_34 rfl ?_
        first | refine sw_ishrN dX5_jointOf_36 (by omega) (by omega) ?_ | refine sw_ishr dX5_jointOf_36 ?_
        refine sw_iconst (v := nI 1) dX5_jointOf_37 (by decide) ?_
        first | refine sw_iand1 dX5_jointOf_38 ?_ | refine sw_iand dX5_jointOf_38 ?_
        refine sw_iload dX5_jointOf_39 rfl ?_
        first | refine sw_ishlN dX5_jointOf_41 (by omega) hq ?_ | refine sw_ishl dX5_jointOf_41 ?_
        refine sw_iorN dX5_jointOf_42 ?_
        rw [jn_or (sm c) x i hc]
        refine sw_istore_n dX5_jointOf_43 (by decide) rfl ?_
        first | refine sw_iincN (b := 1) dX5_jointOf_44 rfl (by decide) rfl ?_ | refine sw_iinc dX5_jointOf_44 rfl rfl (by decide) rfl ?_
        rw [bs_yes (sm c) i hc]
        first | refine sw_iincN (b := 1) dX5_jointOf_47 rfl (by decide) rfl ?_ | refine sw_iinc dX5_jointOf_47 rfl rfl (by decide) rfl ?_
        refine sw_goto (tgt := 8) dX5_jointOf_50 (by decide) ?_
        exact ih
theorem c_sumOf {c : Nat} (hc : c < 8) : Ctr jX5_sumOf [.ref 28, .int (nI c)] h (Ret (sI (fun j => h 31 (8 * c + j)) 8) h) := by
  have hcc := hc
  clear hc
  refine ctr_start (by decide) (Nat.le_of_ble_eq_true rfl) rfl rfl ?_
  show SW jX5_sumOf E0 _ 0 [some (.ref 28), some (.int (nI c)), none, none] [] _
  refine sw_iconst (v := nI 0) dX5_sumOf_0 (by decide) ?_
  refine sw_istore_n dX5_sumOf_1 (by decide) rfl ?_
  refine sw_iconst (v := nI 0) dX5_sumOf_2 (by decide) ?_
  refine sw_istore_n dX5_sumOf_3 (by decide) rfl ?_
  refine lp_up (n := 8) (S := fun i => SW jX5_sumOf E0 (Zm (Ret (sI (fun j => h 31 (8 * c + j)) 8) h)) 4 [some (.ref 28), some (.int (nI c)), some (.int (sI (fun j => h 31 (8 * c + j)) i)), some (.int (nI i))] [] h) ?_ ?_ 0 (Nat.zero_le _)
  · refine sw_iload_n dX5_sumOf_4 rfl ?_
    refine sw_bipush (v := nI 8) dX5_sumOf_5 (by decide) ?_
    refine sw_icmpN_ge (tgt := 30) dX5_sumOf_7 (by decide) (by omega) (by omega) (fun hc => ?_) (fun hc => ?_)
    · refine sw_iload_n dX5_sumOf_30 rfl ?_
      refine sw_iret dX5_sumOf_31 rfl rfl rfl ?_
      exact ⟨rfl, rfl⟩
    · omega
  · intro i hi ih
    refine sw_iload_n dX5_sumOf_4 rfl ?_
    refine sw_bipush (v := nI 8) dX5_sumOf_5 (by decide) ?_
    refine sw_icmpN_ge (tgt := 30) dX5_sumOf_7 (by decide) (by omega) (by omega) (fun hc => ?_) (fun hc => ?_)
    · omega
    · refine sw_iload_n dX5_sumOf_10 rfl ?_
      refine sw_aload_n dX5_sumOf_11 rfl ?_
      refine sw_getR dX5_sumOf_12 flX5_20 ⟨by decide, _, rfl, rfl⟩ ?_
      refine sw_bipush (v := nI 8) dX5_sumOf_15 (by decide) ?_
      refine sw_iload_n dX5_sumOf_17 rfl ?_
      first | refine sw_imulN dX5_sumOf_18 ?_ | refine sw_imul dX5_sumOf_18 ?_
      refine sw_iload_n dX5_sumOf_19 rfl ?_
      first | refine sw_iaddN dX5_sumOf_20 ?_ | refine sw_iadd dX5_sumOf_20 ?_
      refine sw_iald dX5_sumOf_21 rfl (by simp only [plA]; omega) ?_
      refine sw_iadd dX5_sumOf_22 ?_
      refine sw_istore_n dX5_sumOf_23 (by decide) rfl ?_
      first | refine sw_iincN (b := 1) dX5_sumOf_24 rfl (by decide) rfl ?_ | refine sw_iinc dX5_sumOf_24 rfl rfl (by decide) rfl ?_
      refine sw_goto (tgt := 4) dX5_sumOf_27 (by decide) ?_
      exact ih
theorem c_stakeOf (T : TM h n z sm) {x : Nat} (hx : x < 64) : Ctr jX5_stakeOf [.ref 28, .int (nI x)] h (Ret (sI (fun c => h 32 (8 * c + jnt (sm c) x)) z) h) := by
  have hz8 := T.1.2.1
  have hz := T.1.2.2.2
  refine ctr_start (by decide) (Nat.le_of_ble_eq_true rfl) rfl rfl ?_
  show SW jX5_stakeOf E0 _ 0 [some (.ref 28), some (.int (nI x)), none, none] [] _
  refine sw_iconst (v := nI 0) dX5_stakeOf_0 (by decide) ?_
  refine sw_istore_n dX5_stakeOf_1 (by decide) rfl ?_
  refine sw_iconst (v := nI 0) dX5_stakeOf_2 (by decide) ?_
  refine sw_istore_n dX5_stakeOf_3 (by decide) rfl ?_
  refine lp_up (n := z) (S := fun i => SW jX5_stakeOf E0 (Zm (Ret (sI (fun c => h 32 (8 * c + jnt (sm c) x)) z) h)) 4 [some (.ref 28), some (.int (nI x)), some (.int (sI (fun c => h 32 (8 * c + jnt (sm c) x)) i)), some (.int (nI i))] [] h) ?_ ?_ 0 (Nat.zero_le _)
  · refine sw_iload_n dX5_stakeOf_4 rfl ?_
    refine sw_aload_n dX5_stakeOf_5 rfl ?_
    refine sw_getI dX5_stakeOf_6 flX5_56 ⟨by decide, _, rfl, rfl⟩ ?_
    rw [hz]
    refine sw_icmpN_ge (tgt := 37) dX5_stakeOf_9 (by decide) (by omega) (by omega) (fun hc => ?_) (fun hc => ?_)
    · refine sw_iload_n dX5_stakeOf_37 rfl ?_
      refine sw_iret dX5_stakeOf_38 rfl rfl rfl ?_
      exact ⟨rfl, rfl⟩
    · omega
  · intro i hi ih
    have hj := T.j8 hi x
    refine sw_iload_n dX5_stakeOf_4 rfl ?_
    refine sw_aload_n dX5_stakeOf_5 rfl ?_
    refine sw_getI dX5_stakeOf_6 flX5_56 ⟨by decide, _, rfl, rfl⟩ ?_
    rw [hz]
    refine sw_icmpN_ge (tgt := 37) dX5_stakeOf_9 (by decide) (by omega) (by omega) (fun hc => ?_) (fun hc => ?_)
    · omega
    · clear hc
      refine sw_iload_n dX5_stakeOf_12 rfl ?_
      refine sw_aload_n dX5_stakeOf_13 rfl ?_
      refine sw_getR dX5_stakeOf_14 flX5_23 ⟨by decide, _, rfl, rfl⟩ ?_
      refine sw_bipush (v := nI 8) dX5_stakeOf_17 (by decide) ?_
      refine sw_iload_n dX5_stakeOf_19 rfl ?_
      first | refine sw_imulN dX5_stakeOf_20 ?_ | refine sw_imul dX5_stakeOf_20 ?_
      refine sw_aload_n dX5_stakeOf_21 rfl ?_
      refine sw_iload_n dX5_stakeOf_22 rfl ?_
      refine sw_iload_n dX5_stakeOf_23 rfl ?_
      refine sw_cvi (i := 0) (c_jointOf T hi hx) dX5_stakeOf_24 lkX5_92 (by decide) ⟨by decide, _, rfl, rfl⟩ rfl rfl rfl (Nat.le_of_ble_eq_true rfl) ?_
      first | refine sw_iaddN dX5_stakeOf_27 ?_ | refine sw_iadd dX5_stakeOf_27 ?_
      refine sw_iald dX5_stakeOf_28 rfl (by simp only [plA]; omega) ?_
      refine sw_iadd dX5_stakeOf_29 ?_
      refine sw_istore_n dX5_stakeOf_30 (by decide) rfl ?_
      first | refine sw_iincN (b := 1) dX5_stakeOf_31 rfl (by decide) rfl ?_ | refine sw_iinc dX5_stakeOf_31 rfl rfl (by decide) rfl ?_
      refine sw_goto (tgt := 4) dX5_stakeOf_34 (by decide) ?_
      exact ih
abbrev stM (h : Hp) (z : Nat) (sm : Nat → Nat) (x : Nat) : Int32 := sI (fun c => h 32 (8 * c + jnt (sm c) x)) z
theorem c_bestOf (T : TM h n z sm) : Ctr jX5_bestOf [.ref 28] h (Ret (nI (bst (stM h z sm) (2 ^ n - 1))) h) := by
  have h64 := pow6 T.1.1
  have hpos : 0 < 2 ^ n := Nat.two_pow_pos n
  refine ctr_start (by decide) (Nat.le_of_ble_eq_true rfl) rfl rfl ?_
  show SW jX5_bestOf E0 _ 0 [some (.ref 28), none, none] [] _
  refine sw_iconst (v := nI 0) dX5_bestOf_0 (by decide) ?_
  refine sw_istore_n dX5_bestOf_1 (by decide) rfl ?_
  refine sw_iconst (v := nI 1) dX5_bestOf_2 (by decide) ?_
  refine sw_istore_n dX5_bestOf_3 (by decide) rfl ?_
  refine lp_up (n := 2 ^ n - 1) (S := fun i => SW jX5_bestOf E0 (Zm (Ret (nI (bst (stM h z sm) (2 ^ n - 1))) h)) 4 [some (.ref 28), some (.int (nI (bst (stM h z sm) i))), some (.int (nI (i + 1)))] [] h) ?_ ?_ 0 (Nat.zero_le _)
  · refine sw_iload_n dX5_bestOf_4 rfl ?_
    refine sw_aload_n dX5_bestOf_5 rfl ?_
    refine sw_cvi (i := 0) (c_hiddenMany T.1.2.2.1 T.1.1) dX5_bestOf_6 lkX5_88 (by decide) ⟨by decide, _, rfl, rfl⟩ rfl rfl rfl (Nat.le_of_ble_eq_true rfl) ?_
    refine sw_icmpN_ge (tgt := 37) dX5_bestOf_9 (by decide) (by omega) (by omega) (fun hc => ?_) (fun hc => ?_)
    · refine sw_iload_n dX5_bestOf_37 rfl ?_
      refine sw_iret dX5_bestOf_38 rfl rfl rfl ?_
      exact ⟨rfl, rfl⟩
    · omega
  · intro i hi ih
    have hbl := bst_le (stM h z sm) i
    refine sw_iload_n dX5_bestOf_4 rfl ?_
    refine sw_aload_n dX5_bestOf_5 rfl ?_
    refine sw_cvi (i := 0) (c_hiddenMany T.1.2.2.1 T.1.1) dX5_bestOf_6 lkX5_88 (by decide) ⟨by decide, _, rfl, rfl⟩ rfl rfl rfl (Nat.le_of_ble_eq_true rfl) ?_
    refine sw_icmpN_ge (tgt := 37) dX5_bestOf_9 (by decide) (by omega) (by omega) (fun hc => ?_) (fun hc => ?_)
    · omega
    · clear hc
      refine sw_aload_n dX5_bestOf_12 rfl ?_
      refine sw_iload_n dX5_bestOf_13 rfl ?_
      refine sw_cvi (i := 0) (c_stakeOf T (x := i + 1) (by omega)) dX5_bestOf_14 lkX5_112 (by decide) ⟨by decide, _, rfl, rfl⟩ rfl rfl rfl (Nat.le_of_ble_eq_true rfl) ?_
      refine sw_aload_n dX5_bestOf_17 rfl ?_
      refine sw_iload_n dX5_bestOf_18 rfl ?_
      refine sw_cvi (i := 0) (c_stakeOf T (x := bst (stM h z sm) i) (by omega)) dX5_bestOf_19 lkX5_112 (by decide) ⟨by decide, _, rfl, rfl⟩ rfl rfl rfl (Nat.le_of_ble_eq_true rfl) ?_
      refine sw_icmp_le (tgt := 29) dX5_bestOf_22 (by decide) (fun hc => ?_) (fun hc => ?_)
      · have e : bst (stM h z sm) (i + 1) = bst (stM h z sm) i := by
          simp only [bst]
          rw [if_neg (Int32.not_lt.mpr hc)]
        rw [e] at ih
        refine sw_iload_n dX5_bestOf_29 rfl ?_
        refine sw_istore_n dX5_bestOf_30 (by decide) rfl ?_
        first | refine sw_iincN (b := 1) dX5_bestOf_31 rfl (by decide) rfl ?_ | refine sw_iinc dX5_bestOf_31 rfl rfl (by decide) rfl ?_
        refine sw_goto (tgt := 4) dX5_bestOf_34 (by decide) ?_
        exact ih
      · have e : bst (stM h z sm) (i + 1) = i + 1 := by
          simp only [bst]
          rw [if_pos (Int32.not_le.mp hc)]
        rw [e] at ih
        refine sw_iload_n dX5_bestOf_25 rfl ?_
        refine sw_goto (tgt := 30) dX5_bestOf_26 (by decide) ?_
        refine sw_istore_n dX5_bestOf_30 (by decide) rfl ?_
        first | refine sw_iincN (b := 1) dX5_bestOf_31 rfl (by decide) rfl ?_ | refine sw_iinc dX5_bestOf_31 rfl rfl (by decide) rfl ?_
        refine sw_goto (tgt := 4) dX5_bestOf_34 (by decide) ?_
        exact ih
theorem c_worthOf (T : TM h n z sm) : Ctr jX5_worthOf [.ref 28] h (Ret (sI (fun k => h 32 k * h 31 k) (8 * z)) h) := by
  have hz8 := T.1.2.1
  have hz := T.1.2.2.2
  refine ctr_start (by decide) (Nat.le_of_ble_eq_true rfl) rfl rfl ?_
  show SW jX5_worthOf E0 _ 0 [some (.ref 28), none, none] [] _
  refine sw_iconst (v := nI 0) dX5_worthOf_0 (by decide) ?_
  refine sw_istore_n dX5_worthOf_1 (by decide) rfl ?_
  refine sw_iconst (v := nI 0) dX5_worthOf_2 (by decide) ?_
  refine sw_istore_n dX5_worthOf_3 (by decide) rfl ?_
  refine lp_up (n := 8 * z) (S := fun i => SW jX5_worthOf E0 (Zm (Ret (sI (fun k => h 32 k * h 31 k) (8 * z)) h)) 4 [some (.ref 28), some (.int (sI (fun k => h 32 k * h 31 k) i)), some (.int (nI i))] [] h) ?_ ?_ 0 (Nat.zero_le _)
  · refine sw_iload_n dX5_worthOf_4 rfl ?_
    refine sw_bipush (v := nI 8) dX5_worthOf_5 (by decide) ?_
    refine sw_aload_n dX5_worthOf_7 rfl ?_
    refine sw_getI dX5_worthOf_8 flX5_56 ⟨by decide, _, rfl, rfl⟩ ?_
    rw [hz]
    refine sw_imulN dX5_worthOf_11 ?_
    refine sw_icmpN_ge (tgt := 37) dX5_worthOf_12 (by decide) (by omega) (by omega) (fun hc => ?_) (fun hc => ?_)
    · refine sw_iload_n dX5_worthOf_37 rfl ?_
      refine sw_iret dX5_worthOf_38 rfl rfl rfl ?_
      exact ⟨rfl, rfl⟩
    · omega
  · intro i hi ih
    refine sw_iload_n dX5_worthOf_4 rfl ?_
    refine sw_bipush (v := nI 8) dX5_worthOf_5 (by decide) ?_
    refine sw_aload_n dX5_worthOf_7 rfl ?_
    refine sw_getI dX5_worthOf_8 flX5_56 ⟨by decide, _, rfl, rfl⟩ ?_
    rw [hz]
    refine sw_imulN dX5_worthOf_11 ?_
    refine sw_icmpN_ge (tgt := 37) dX5_worthOf_12 (by decide) (by omega) (by omega) (fun hc => ?_) (fun hc => ?_)
    · omega
    · refine sw_iload_n dX5_worthOf_15 rfl ?_
      refine sw_aload_n dX5_worthOf_16 rfl ?_
      refine sw_getR dX5_worthOf_17 flX5_23 ⟨by decide, _, rfl, rfl⟩ ?_
      refine sw_iload_n dX5_worthOf_20 rfl ?_
      refine sw_iald dX5_worthOf_21 rfl (by simp only [plA]; omega) ?_
      refine sw_aload_n dX5_worthOf_22 rfl ?_
      refine sw_getR dX5_worthOf_23 flX5_20 ⟨by decide, _, rfl, rfl⟩ ?_
      refine sw_iload_n dX5_worthOf_26 rfl ?_
      refine sw_iald dX5_worthOf_27 rfl (by simp only [plA]; omega) ?_
      refine sw_imul dX5_worthOf_28 ?_
      refine sw_iadd dX5_worthOf_29 ?_
      refine sw_istore_n dX5_worthOf_30 (by decide) rfl ?_
      first | refine sw_iincN (b := 1) dX5_worthOf_31 rfl (by decide) rfl ?_ | refine sw_iinc dX5_worthOf_31 rfl rfl (by decide) rfl ?_
      refine sw_goto (tgt := 4) dX5_worthOf_34 (by decide) ?_
      exact ih
abbrev posM (h : Hp) (z : Nat) (sm : Nat → Nat) (x : Nat) : Bool := allB (fun c => decide (0 < h 31 (8 * c + jnt (sm c) x))) z
theorem c_isPossibleM (T : TM h n z sm) {x : Nat} (hx : x < 64) : Ctr jX5_isPossible [.ref 28, .int (nI x)] h (Ret (bI (posM h z sm x)) h) := by
  have hz8 := T.1.2.1
  have hz := T.1.2.2.2
  refine ctr_start (by decide) (Nat.le_of_ble_eq_true rfl) rfl rfl ?_
  show SW jX5_isPossible E0 _ 0 [some (.ref 28), some (.int (nI x)), none, none] [] _
  refine sw_iconst (v := nI 1) dX5_isPossible_0 (by decide) ?_
  refine sw_istore_n dX5_isPossible_1 (by decide) rfl ?_
  refine sw_iconst (v := nI 0) dX5_isPossible_2 (by decide) ?_
  refine sw_istore_n dX5_isPossible_3 (by decide) rfl ?_
  refine lp_up (n := z) (S := fun i => SW jX5_isPossible E0 (Zm (Ret (bI (posM h z sm x)) h)) 4 [some (.ref 28), some (.int (nI x)), some (.int (bI (posM h i sm x))), some (.int (nI i))] [] h) ?_ ?_ 0 (Nat.zero_le _)
  · refine sw_iload_n dX5_isPossible_4 rfl ?_
    refine sw_aload_n dX5_isPossible_5 rfl ?_
    refine sw_getI dX5_isPossible_6 flX5_56 ⟨by decide, _, rfl, rfl⟩ ?_
    rw [hz]
    refine sw_icmpN_ge (tgt := 47) dX5_isPossible_9 (by decide) (by omega) (by omega) (fun hc => ?_) (fun hc => ?_)
    · refine sw_iload_n dX5_isPossible_47 rfl ?_
      refine sw_zret dX5_isPossible_48 rfl rfl rfl (bI_nar _) ?_
      exact ⟨rfl, rfl⟩
    · omega
  · intro i hi ih
    have hj := T.j8 hi x
    refine sw_iload_n dX5_isPossible_4 rfl ?_
    refine sw_aload_n dX5_isPossible_5 rfl ?_
    refine sw_getI dX5_isPossible_6 flX5_56 ⟨by decide, _, rfl, rfl⟩ ?_
    rw [hz]
    refine sw_icmpN_ge (tgt := 47) dX5_isPossible_9 (by decide) (by omega) (by omega) (fun hc => ?_) (fun hc => ?_)
    · omega
    · clear hc
      refine sw_iload_n dX5_isPossible_12 rfl ?_
      refine sw_if_eq (tgt := 39) dX5_isPossible_13 (by decide) (fun hc => ?_) (fun hc => ?_)
      · have e0 := bI_0 hc
        have e : posM h (i + 1) sm x = false := by unfold posM at e0 ⊢; simp only [allB]; rw [e0, Bool.false_and]
        rw [e] at ih
        refine sw_iconst (v := nI 0) dX5_isPossible_39 (by decide) ?_
        refine sw_istore_n dX5_isPossible_40 (by decide) rfl ?_
        first | refine sw_iincN (b := 1) dX5_isPossible_41 rfl (by decide) rfl ?_ | refine sw_iinc dX5_isPossible_41 rfl rfl (by decide) rfl ?_
        refine sw_goto (tgt := 4) dX5_isPossible_44 (by decide) ?_
        exact ih
      · have hp := bI_1 hc
        clear hc
        refine sw_aload_n dX5_isPossible_16 rfl ?_
        refine sw_getR dX5_isPossible_17 flX5_20 ⟨by decide, _, rfl, rfl⟩ ?_
        refine sw_bipush (v := nI 8) dX5_isPossible_20 (by decide) ?_
        refine sw_iload_n dX5_isPossible_22 rfl ?_
        first | refine sw_imulN dX5_isPossible_23 ?_ | refine sw_imul dX5_isPossible_23 ?_
        refine sw_aload_n dX5_isPossible_24 rfl ?_
        refine sw_iload_n dX5_isPossible_25 rfl ?_
        refine sw_iload_n dX5_isPossible_26 rfl ?_
        refine sw_cvi (i := 0) (c_jointOf T hi hx) dX5_isPossible_27 lkX5_92 (by decide) ⟨by decide, _, rfl, rfl⟩ rfl rfl rfl (Nat.le_of_ble_eq_true rfl) ?_
        first | refine sw_iaddN dX5_isPossible_30 ?_ | refine sw_iadd dX5_isPossible_30 ?_
        refine sw_iald dX5_isPossible_31 rfl (by simp only [plA]; omega) ?_
        refine sw_if_le (tgt := 39) dX5_isPossible_32 (by decide) (fun hc => ?_) (fun hc => ?_)
        · have e : posM h (i + 1) sm x = false := by unfold posM; simp only [allB]; rw [decide_eq_false (Int32.not_lt.mpr hc), Bool.and_false]
          rw [e] at ih
          refine sw_iconst (v := nI 0) dX5_isPossible_39 (by decide) ?_
          refine sw_istore_n dX5_isPossible_40 (by decide) rfl ?_
          first | refine sw_iincN (b := 1) dX5_isPossible_41 rfl (by decide) rfl ?_ | refine sw_iinc dX5_isPossible_41 rfl rfl (by decide) rfl ?_
          refine sw_goto (tgt := 4) dX5_isPossible_44 (by decide) ?_
          exact ih
        · have e : posM h (i + 1) sm x = true := by unfold posM at hp ⊢; simp only [allB]; rw [hp, decide_eq_true (Int32.not_le.mp hc)]; rfl
          rw [e] at ih
          refine sw_iconst (v := nI 1) dX5_isPossible_35 (by decide) ?_
          refine sw_goto (tgt := 40) dX5_isPossible_36 (by decide) ?_
          refine sw_istore_n dX5_isPossible_40 (by decide) rfl ?_
          first | refine sw_iincN (b := 1) dX5_isPossible_41 rfl (by decide) rfl ?_ | refine sw_iinc dX5_isPossible_41 rfl rfl (by decide) rfl ?_
          refine sw_goto (tgt := 4) dX5_isPossible_44 (by decide) ?_
          exact ih
end MOD
end
section
def cm (s b x jt : Nat) : Nat → Bool
  | 0 => true
  | k + 1 => if s / 2 ^ k % 2 = 1 then cm s b x jt k && (decide (b / 2 ^ k % 2 = 0) || decide (jt / 2 ^ bs s k % 2 = x / 2 ^ k % 2)) else cm s b x jt k
theorem cm_stop {s b x jt n : Nat} (hs : s < 2 ^ n) : ∀ d, cm s b x jt (n + d) = cm s b x jt n
  | 0 => rfl
  | d + 1 => by
    rw [← Nat.add_assoc]
    simp only [cm]
    rw [bit_hi hs (by omega), if_neg (by decide), cm_stop hs d]
theorem cm_n {s b x jt n : Nat} (hs : s < 2 ^ n) (hn : n ≤ 6) : cm s b x jt n = cm s b x jt 6 := by
  have := cm_stop (b := b) (x := x) (jt := jt) hs (6 - n)
  rw [show n + (6 - n) = 6 by omega] at this
  exact this.symm
def sbM (w : Nat → Int32) (s b c x : Nat) (m : Nat) : Int32 := sI (fun j => if cm s b x j 6 then w (8 * c + j) else nI 0) m
theorem nb_nat : ∀ x, x < 64 → ∀ b, b < 64 → (x &&& (b ^^^ 4294967295) = 0 ↔ x &&& b = x) := by decide +kernel
theorem nb_int {x b : Nat} (hx : x < 64) (hb : b < 64) : nI x &&& (nI b ^^^ (-1)) = 0 ↔ x &&& b = x := by
  rw [show (-1 : Int32) = nI 4294967295 by decide, fb_xorI, fa_and, ← nb_nat x hx b hb]
  have hl : x &&& (b ^^^ 4294967295) < 64 := Nat.lt_of_le_of_lt Nat.and_le_left hx
  exact nI_eq (b := 0) (by omega) (by omega)
section MOD
variable {h : Hp} {n z : Nat} {sm : Nat → Nat}
theorem c_sumBy (T : TM h n z sm) {c b x : Nat} (hc : c < z) (hb : b < 64) (hx : x < 64) : Ctr jX5_sumBy [.ref 28, .int (nI c), .int (nI b), .int (nI x)] h (Ret (sbM (h 31) (sm c) b c x (2 ^ pop (sm c))) h) := by
  have hz8 := T.1.2.1
  have hn := T.1.2.2.1
  have hn6 := T.1.1
  obtain ⟨s1, s2, s3, s4⟩ := T.2 c hc
  have hp := pow3 s4
  have h64 := T.s64 hc
  have hcc := hc
  clear hc
  refine ctr_start (by decide) (Nat.le_of_ble_eq_true rfl) rfl rfl ?_
  show SW jX5_sumBy E0 _ 0 [some (.ref 28), some (.int (nI c)), some (.int (nI b)), some (.int (nI x)), none, none, none, none, none] [] _
  refine sw_iconst (v := nI 0) dX5_sumBy_0 (by decide) ?_
  refine sw_istore dX5_sumBy_1 (by decide) rfl ?_
  refine sw_iconst (v := nI 0) dX5_sumBy_3 (by decide) ?_
  refine sw_istore dX5_sumBy_4 (by decide) rfl ?_
  have key := lp_up (n := 2 ^ pop (sm c)) (S := fun j => ∀ v6 v7 v8, SW jX5_sumBy E0 (Zm (Ret (sbM (h 31) (sm c) b c x (2 ^ pop (sm c))) h)) 6 [some (.ref 28), some (.int (nI c)), some (.int (nI b)), some (.int (nI x)), some (.int (sbM (h 31) (sm c) b c x j)), some (.int (nI j)), v6, v7, v8] [] h) ?_ ?_ 0 (Nat.zero_le _) none none none
  · exact key
  · intro v6 v7 v8
    refine sw_iload dX5_sumBy_6 rfl ?_
    refine sw_iconst (v := nI 1) dX5_sumBy_8 (by decide) ?_
    refine sw_aload_n dX5_sumBy_9 rfl ?_
    refine sw_getR dX5_sumBy_10 flX5_13 ⟨by decide, _, rfl, rfl⟩ ?_
    refine sw_iload_n dX5_sumBy_13 rfl ?_
    refine sw_iald dX5_sumBy_14 rfl (by simp only [plA]; omega) ?_
    rw [s1]
    refine sw_csi (c_bits (by omega)) dX5_sumBy_15 lkX5_67 (by decide) rfl rfl (Nat.le_of_ble_eq_true rfl) ?_
    first | refine sw_ishlN dX5_sumBy_18 (by omega) (by omega) ?_ | refine sw_ishl dX5_sumBy_18 ?_
    rw [Nat.one_mul]
    refine sw_icmpN_ge (tgt := 133) dX5_sumBy_19 (by decide) (by omega) (by omega) (fun hc => ?_) (fun hc => ?_)
    · refine sw_iload dX5_sumBy_133 rfl ?_
      refine sw_iret dX5_sumBy_135 rfl rfl rfl ?_
      exact ⟨rfl, rfl⟩
    · omega
  · intro j hj ih v6 v7 v8
    refine sw_iload dX5_sumBy_6 rfl ?_
    refine sw_iconst (v := nI 1) dX5_sumBy_8 (by decide) ?_
    refine sw_aload_n dX5_sumBy_9 rfl ?_
    refine sw_getR dX5_sumBy_10 flX5_13 ⟨by decide, _, rfl, rfl⟩ ?_
    refine sw_iload_n dX5_sumBy_13 rfl ?_
    refine sw_iald dX5_sumBy_14 rfl (by simp only [plA]; omega) ?_
    rw [s1]
    refine sw_csi (c_bits (by omega)) dX5_sumBy_15 lkX5_67 (by decide) rfl rfl (Nat.le_of_ble_eq_true rfl) ?_
    first | refine sw_ishlN dX5_sumBy_18 (by omega) (by omega) ?_ | refine sw_ishl dX5_sumBy_18 ?_
    rw [Nat.one_mul]
    refine sw_icmpN_ge (tgt := 133) dX5_sumBy_19 (by decide) (by omega) (by omega) (fun hc => ?_) (fun hc => ?_)
    · omega
    · clear hc
      have ok6 : okS [some (.ref 28), some (.int (nI c)), some (.int (nI b)), some (.int (nI x)), some (.int (sbM (h 31) (sm c) b c x j)), some (.int (nI j)), v6, v7, v8] 6 = true := rfl
      refine sw_iconst (v := nI 0) dX5_sumBy_22 (by decide) ?_
      refine sw_istore dX5_sumBy_23 (by decide) rfl ?_
      refine sw_iconst (v := nI 1) dX5_sumBy_25 (by decide) ?_
      refine sw_istore dX5_sumBy_26 (by decide) rfl ?_
      refine sw_iconst (v := nI 0) dX5_sumBy_28 (by decide) ?_
      refine sw_istore dX5_sumBy_29 (by decide) rfl ?_
      refine lp_up (n := n) (S := fun k => SW jX5_sumBy E0 (Zm (Ret (sbM (h 31) (sm c) b c x (2 ^ pop (sm c))) h)) 31 [some (.ref 28), some (.int (nI c)), some (.int (nI b)), some (.int (nI x)), some (.int (sbM (h 31) (sm c) b c x j)), some (.int (nI j)), some (.int (nI (bs (sm c) k))), some (.int (bI (cm (sm c) b x j k))), some (.int (nI k))] [] h) ?_ ?_ 0 (Nat.zero_le _)
      · refine sw_iload dX5_sumBy_31 rfl ?_
        refine sw_aload_n dX5_sumBy_33 rfl ?_
        refine sw_getI dX5_sumBy_34 flX5_7 ⟨by decide, _, rfl, rfl⟩ ?_
        rw [hn]
        refine sw_icmpN_ge (tgt := 101) dX5_sumBy_37 (by decide) (by omega) (by omega) (fun hc => ?_) (fun hc => ?_)
        · clear hc
          rw [cm_n s3 hn6]
          refine sw_iload dX5_sumBy_101 rfl ?_
          refine sw_iload dX5_sumBy_103 rfl ?_
          refine sw_if_eq (tgt := 123) dX5_sumBy_105 (by decide) (fun hc => ?_) (fun hc => ?_)
          · have e : sbM (h 31) (sm c) b c x (j + 1) = sbM (h 31) (sm c) b c x j + nI 0 := by
              unfold sbM
              simp only [sI]
              rw [bI_0 hc]
              rfl
            rw [e] at ih
            refine sw_iconst (v := nI 0) dX5_sumBy_123 (by decide) ?_
            refine sw_iadd dX5_sumBy_124 ?_
            refine sw_istore dX5_sumBy_125 (by decide) rfl ?_
            first | refine sw_iincN (b := 1) dX5_sumBy_127 rfl (by decide) rfl ?_ | refine sw_iinc dX5_sumBy_127 rfl rfl (by decide) rfl ?_
            refine sw_goto (tgt := 6) dX5_sumBy_130 (by decide) ?_
            exact ih _ _ _
          · have e : sbM (h 31) (sm c) b c x (j + 1) = sbM (h 31) (sm c) b c x j + h 31 (8 * c + j) := by
              unfold sbM
              simp only [sI]
              rw [bI_1 hc]
              rfl
            rw [e] at ih
            refine sw_aload_n dX5_sumBy_108 rfl ?_
            refine sw_getR dX5_sumBy_109 flX5_20 ⟨by decide, _, rfl, rfl⟩ ?_
            refine sw_bipush (v := nI 8) dX5_sumBy_112 (by decide) ?_
            refine sw_iload_n dX5_sumBy_114 rfl ?_
            first | refine sw_imulN dX5_sumBy_115 ?_ | refine sw_imul dX5_sumBy_115 ?_
            refine sw_iload dX5_sumBy_116 rfl ?_
            first | refine sw_iaddN dX5_sumBy_118 ?_ | refine sw_iadd dX5_sumBy_118 ?_
            refine sw_iald dX5_sumBy_119 rfl (by simp only [plA]; omega) ?_
            refine sw_goto (tgt := 124) dX5_sumBy_120 (by decide) ?_
            refine sw_iadd dX5_sumBy_124 ?_
            refine sw_istore dX5_sumBy_125 (by decide) rfl ?_
            first | refine sw_iincN (b := 1) dX5_sumBy_127 rfl (by decide) rfl ?_ | refine sw_iinc dX5_sumBy_127 rfl rfl (by decide) rfl ?_
            refine sw_goto (tgt := 6) dX5_sumBy_130 (by decide) ?_
            exact ih _ _ _
        · omega
      · intro k hk ih2
        have hbl := bs_le (sm c) k
        refine sw_iload dX5_sumBy_31 rfl ?_
        refine sw_aload_n dX5_sumBy_33 rfl ?_
        refine sw_getI dX5_sumBy_34 flX5_7 ⟨by decide, _, rfl, rfl⟩ ?_
        rw [hn]
        refine sw_icmpN_ge (tgt := 101) dX5_sumBy_37 (by decide) (by omega) (by omega) (fun hc => ?_) (fun hc => ?_)
        · omega
        · clear hc
          refine sw_aload_n dX5_sumBy_40 rfl ?_
          refine sw_getR dX5_sumBy_41 flX5_13 ⟨by decide, _, rfl, rfl⟩ ?_
          refine sw_iload_n dX5_sumBy_44 rfl ?_
          refine sw_iald dX5_sumBy_45 rfl (by simp only [plA]; omega) ?_
          rw [s1]
          refine sw_iload dX5_sumBy_46 rfl ?_
          first | refine sw_ishrN dX5_sumBy_48 (by omega) (by omega) ?_ | refine sw_ishr dX5_sumBy_48 ?_
          refine sw_iconst (v := nI 1) dX5_sumBy_49 (by decide) ?_
          first | refine sw_iand1 dX5_sumBy_50 ?_ | refine sw_iand dX5_sumBy_50 ?_
          refine sw_iconst (v := nI 1) dX5_sumBy_51 (by decide) ?_
          refine sw_icmpN_ne (tgt := 95) dX5_sumBy_52 (by decide) (by omega) (by omega) (fun hc => ?_) (fun hc => ?_)
          · have e : cm (sm c) b x j (k + 1) = cm (sm c) b x j k := by simp only [cm, if_neg hc]
            rw [e, ← bs_no (sm c) k hc] at ih2
            first | refine sw_iincN (b := 1) dX5_sumBy_95 rfl (by decide) rfl ?_ | refine sw_iinc dX5_sumBy_95 rfl rfl (by decide) rfl ?_
            refine sw_goto (tgt := 31) dX5_sumBy_98 (by decide) ?_
            exact ih2
          · have hsb := hc
            clear hc
            rw [← bs_yes (sm c) k hsb] at ih2
            have e : cm (sm c) b x j (k + 1) = (cm (sm c) b x j k && (decide (b / 2 ^ k % 2 = 0) || decide (j / 2 ^ bs (sm c) k % 2 = x / 2 ^ k % 2))) := by simp only [cm, if_pos hsb]
            rw [e] at ih2
            have yes : (cm (sm c) b x j k && (decide (b / 2 ^ k % 2 = 0) || decide (j / 2 ^ bs (sm c) k % 2 = x / 2 ^ k % 2))) = true → SW jX5_sumBy E0 (Zm (Ret (sbM (h 31) (sm c) b c x (2 ^ pop (sm c))) h)) 85 [some (.ref 28), some (.int (nI c)), some (.int (nI b)), some (.int (nI x)), some (.int (sbM (h 31) (sm c) b c x j)), some (.int (nI j)), some (.int (nI (bs (sm c) k))), some (.int (bI (cm (sm c) b x j k))), some (.int (nI k))] [] h := fun q => by
              rw [q] at ih2
              refine sw_iconst (v := nI 1) dX5_sumBy_85 (by decide) ?_
              refine sw_goto (tgt := 90) dX5_sumBy_86 (by decide) ?_
              refine sw_istore dX5_sumBy_90 (by decide) rfl ?_
              first | refine sw_iincN (b := 1) dX5_sumBy_92 rfl (by decide) rfl ?_ | refine sw_iinc dX5_sumBy_92 rfl rfl (by decide) rfl ?_
              first | refine sw_iincN (b := 1) dX5_sumBy_95 rfl (by decide) rfl ?_ | refine sw_iinc dX5_sumBy_95 rfl rfl (by decide) rfl ?_
              refine sw_goto (tgt := 31) dX5_sumBy_98 (by decide) ?_
              exact ih2
            have no : (cm (sm c) b x j k && (decide (b / 2 ^ k % 2 = 0) || decide (j / 2 ^ bs (sm c) k % 2 = x / 2 ^ k % 2))) = false → SW jX5_sumBy E0 (Zm (Ret (sbM (h 31) (sm c) b c x (2 ^ pop (sm c))) h)) 89 [some (.ref 28), some (.int (nI c)), some (.int (nI b)), some (.int (nI x)), some (.int (sbM (h 31) (sm c) b c x j)), some (.int (nI j)), some (.int (nI (bs (sm c) k))), some (.int (bI (cm (sm c) b x j k))), some (.int (nI k))] [] h := fun q => by
              rw [q] at ih2
              refine sw_iconst (v := nI 0) dX5_sumBy_89 (by decide) ?_
              refine sw_istore dX5_sumBy_90 (by decide) rfl ?_
              first | refine sw_iincN (b := 1) dX5_sumBy_92 rfl (by decide) rfl ?_ | refine sw_iinc dX5_sumBy_92 rfl rfl (by decide) rfl ?_
              first | refine sw_iincN (b := 1) dX5_sumBy_95 rfl (by decide) rfl ?_ | refine sw_iinc dX5_sumBy_95 rfl rfl (by decide) rfl ?_
              refine sw_goto (tgt := 31) dX5_sumBy_98 (by decide) ?_
              exact ih2
            refine sw_iload dX5_sumBy_55 rfl ?_
            refine sw_if_eq (tgt := 89) dX5_sumBy_57 (by decide) (fun hc => ?_) (fun hc => ?_)
            · exact no (by rw [bI_0 hc]; rfl)
            · have hcm := bI_1 hc
              clear hc
              have m1 : b / 2 ^ k % 2 < 2 := Nat.mod_lt _ (by omega)
              have m2 : j / 2 ^ bs (sm c) k % 2 < 2 := Nat.mod_lt _ (by omega)
              have m3 : x / 2 ^ k % 2 < 2 := Nat.mod_lt _ (by omega)
              refine sw_iload_n dX5_sumBy_60 rfl ?_
              refine sw_iload dX5_sumBy_61 rfl ?_
              first | refine sw_ishrN dX5_sumBy_63 (by omega) (by omega) ?_ | refine sw_ishr dX5_sumBy_63 ?_
              refine sw_iconst (v := nI 1) dX5_sumBy_64 (by decide) ?_
              first | refine sw_iand1 dX5_sumBy_65 ?_ | refine sw_iand dX5_sumBy_65 ?_
              refine sw_if_eq (tgt := 85) dX5_sumBy_66 (by decide) (fun hc => ?_) (fun hc => ?_)
              · have hb0 : b / 2 ^ k % 2 = 0 := (nI_eq (b := 0) (by omega) (by omega)).mp hc
                exact yes (by rw [hcm, decide_eq_true hb0]; rfl)
              · have hb0 : ¬ b / 2 ^ k % 2 = 0 := fun q => hc (by rw [q]; rfl)
                clear hc
                refine sw_iload dX5_sumBy_69 rfl ?_
                refine sw_iload dX5_sumBy_71 rfl ?_
                first | refine sw_ishrN dX5_sumBy_73 (by omega) (by omega) ?_ | refine sw_ishr dX5_sumBy_73 ?_
                refine sw_iconst (v := nI 1) dX5_sumBy_74 (by decide) ?_
                first | refine sw_iand1 dX5_sumBy_75 ?_ | refine sw_iand dX5_sumBy_75 ?_
                refine sw_iload_n dX5_sumBy_76 rfl ?_
                refine sw_iload dX5_sumBy_77 rfl ?_
                first | refine sw_ishrN dX5_sumBy_79 (by omega) (by omega) ?_ | refine sw_ishr dX5_sumBy_79 ?_
                refine sw_iconst (v := nI 1) dX5_sumBy_80 (by decide) ?_
                first | refine sw_iand1 dX5_sumBy_81 ?_ | refine sw_iand dX5_sumBy_81 ?_
                refine sw_icmpN_ne (tgt := 89) dX5_sumBy_82 (by decide) (by omega) (by omega) (fun hc => ?_) (fun hc => ?_)
                · exact no (by rw [hcm, decide_eq_false hb0, decide_eq_false hc]; rfl)
                · exact yes (by rw [hcm, decide_eq_true hc, Bool.or_true]; rfl)
abbrev sbF (h : Hp) (sm : Nat → Nat) (b c x : Nat) : Int32 := sbM (h 31) (sm c) b c x (2 ^ pop (sm c))
def uM (h : Hp) (n : Nat) (sm : Nat → Nat) (c d : Nat) : Bool := !allB (fun x => decide (¬ (x &&& (sm c &&& sm d) = x ∧ ¬ sbF h sm (sm c &&& sm d) c x = sbF h sm (sm c &&& sm d) d x))) (2 ^ n)
theorem c_areUnlikeM (T : TM h n z sm) {c d : Nat} (hc : c < z) (hd : d < z) : Ctr jX5_areUnlike [.ref 28, .int (nI c), .int (nI d)] h (Ret (bI (uM h n sm c d)) h) := by
  have hz8 := T.1.2.1
  have hn := T.1.2.2.1
  have hn6 := T.1.1
  have h64 := pow6 hn6
  have hb : sm c &&& sm d < 64 := Nat.lt_of_le_of_lt Nat.and_le_left (T.s64 hc)
  have s1 := (T.2 c hc).1
  have s2 := (T.2 d hd).1
  have hcc := hc
  clear hc
  refine ctr_start (by decide) (Nat.le_of_ble_eq_true rfl) rfl rfl ?_
  show SW jX5_areUnlike E0 _ 0 [some (.ref 28), some (.int (nI c)), some (.int (nI d)), none, none, none] [] _
  refine sw_aload_n dX5_areUnlike_0 rfl ?_
  refine sw_getR dX5_areUnlike_1 flX5_13 ⟨by decide, _, rfl, rfl⟩ ?_
  refine sw_iload_n dX5_areUnlike_4 rfl ?_
  refine sw_iald dX5_areUnlike_5 rfl (by simp only [plA]; omega) ?_
  rw [s1]
  refine sw_aload_n dX5_areUnlike_6 rfl ?_
  refine sw_getR dX5_areUnlike_7 flX5_13 ⟨by decide, _, rfl, rfl⟩ ?_
  refine sw_iload_n dX5_areUnlike_10 rfl ?_
  refine sw_iald dX5_areUnlike_11 rfl (by simp only [plA]; omega) ?_
  rw [s2]
  refine sw_iandN dX5_areUnlike_12 ?_
  refine sw_istore_n dX5_areUnlike_13 (by decide) rfl ?_
  refine sw_iconst (v := nI 0) dX5_areUnlike_14 (by decide) ?_
  refine sw_istore dX5_areUnlike_15 (by decide) rfl ?_
  refine sw_iconst (v := nI 0) dX5_areUnlike_17 (by decide) ?_
  refine sw_istore dX5_areUnlike_18 (by decide) rfl ?_
  refine lp_up (n := 2 ^ n) (S := fun i => allB (fun x => decide (¬ (x &&& (sm c &&& sm d) = x ∧ ¬ sbF h sm (sm c &&& sm d) c x = sbF h sm (sm c &&& sm d) d x))) i = true → SW jX5_areUnlike E0 (Zm (Ret (bI (uM h n sm c d)) h)) 20 [some (.ref 28), some (.int (nI c)), some (.int (nI d)), some (.int (nI (sm c &&& sm d))), some (.int (nI 0)), some (.int (nI i))] [] h) ?_ ?_ 0 (Nat.zero_le _) rfl
  · intro ha
    refine sw_iload dX5_areUnlike_20 rfl ?_
    refine sw_aload_n dX5_areUnlike_22 rfl ?_
    refine sw_cvi (i := 0) (c_hiddenMany hn hn6) dX5_areUnlike_23 lkX5_88 (by decide) ⟨by decide, _, rfl, rfl⟩ rfl rfl rfl (Nat.le_of_ble_eq_true rfl) ?_
    refine sw_icmpN_ge (tgt := 75) dX5_areUnlike_26 (by decide) (by omega) (by omega) (fun hc => ?_) (fun hc => ?_)
    · refine sw_iload dX5_areUnlike_75 rfl ?_
      refine sw_zret dX5_areUnlike_77 rfl rfl rfl rfl ?_
      exact ⟨by unfold uM; rw [ha]; rfl, rfl⟩
    · omega
  · intro i hi ih ha
    have nx : ¬ (i &&& (sm c &&& sm d) = i ∧ ¬ sbF h sm (sm c &&& sm d) c i = sbF h sm (sm c &&& sm d) d i) → SW jX5_areUnlike E0 (Zm (Ret (bI (uM h n sm c d)) h)) 66 [some (.ref 28), some (.int (nI c)), some (.int (nI d)), some (.int (nI (sm c &&& sm d))), some (.int (nI 0)), some (.int (nI i))] [] h := fun q => by
      refine sw_iconst (v := nI 0) dX5_areUnlike_66 (by decide) ?_
      refine sw_istore dX5_areUnlike_67 (by decide) rfl ?_
      first | refine sw_iincN (b := 1) dX5_areUnlike_69 rfl (by decide) rfl ?_ | refine sw_iinc dX5_areUnlike_69 rfl rfl (by decide) rfl ?_
      refine sw_goto (tgt := 20) dX5_areUnlike_72 (by decide) ?_
      exact ih (by simp only [allB, ha, Bool.true_and]; exact decide_eq_true q)
    refine sw_iload dX5_areUnlike_20 rfl ?_
    refine sw_aload_n dX5_areUnlike_22 rfl ?_
    refine sw_cvi (i := 0) (c_hiddenMany hn hn6) dX5_areUnlike_23 lkX5_88 (by decide) ⟨by decide, _, rfl, rfl⟩ rfl rfl rfl (Nat.le_of_ble_eq_true rfl) ?_
    refine sw_icmpN_ge (tgt := 75) dX5_areUnlike_26 (by decide) (by omega) (by omega) (fun hc => ?_) (fun hc => ?_)
    · omega
    · clear hc
      refine sw_iload dX5_areUnlike_29 rfl ?_
      refine sw_if_ne (tgt := 75) dX5_areUnlike_31 (by decide) (fun hc => ?_) (fun hc => ?_)
      · exact absurd rfl hc
      · clear hc
        refine sw_iload dX5_areUnlike_34 rfl ?_
        refine sw_iload_n dX5_areUnlike_36 rfl ?_
        refine sw_iconst (v := (-1)) dX5_areUnlike_37 (by decide) ?_
        refine sw_ixor dX5_areUnlike_38 ?_
        refine sw_iand dX5_areUnlike_39 ?_
        refine sw_if_ne (tgt := 66) dX5_areUnlike_40 (by decide) (fun hc => ?_) (fun hc => ?_)
        · exact nx (fun q => hc ((nb_int (by omega) hb).mpr q.1))
        · have hsub := (nb_int (by omega) hb).mp hc
          clear hc
          refine sw_aload_n dX5_areUnlike_43 rfl ?_
          refine sw_iload_n dX5_areUnlike_44 rfl ?_
          refine sw_iload_n dX5_areUnlike_45 rfl ?_
          refine sw_iload dX5_areUnlike_46 rfl ?_
          refine sw_cvi (i := 0) (c_sumBy T hcc hb (x := i) (by omega)) dX5_areUnlike_48 lkX5_96 (by decide) ⟨by decide, _, rfl, rfl⟩ rfl rfl rfl (Nat.le_of_ble_eq_true rfl) ?_
          refine sw_aload_n dX5_areUnlike_51 rfl ?_
          refine sw_iload_n dX5_areUnlike_52 rfl ?_
          refine sw_iload_n dX5_areUnlike_53 rfl ?_
          refine sw_iload dX5_areUnlike_54 rfl ?_
          refine sw_cvi (i := 0) (c_sumBy T hd hb (x := i) (by omega)) dX5_areUnlike_56 lkX5_96 (by decide) ⟨by decide, _, rfl, rfl⟩ rfl rfl rfl (Nat.le_of_ble_eq_true rfl) ?_
          refine sw_icmp_eq (tgt := 66) dX5_areUnlike_59 (by decide) (fun hc => ?_) (fun hc => ?_)
          · exact nx (fun q => q.2 hc)
          · have hu : uM h n sm c d = true := by
              unfold uM
              rw [allB_f hi (decide_eq_false (fun q => q ⟨hsub, hc⟩))]
              rfl
            refine sw_iconst (v := nI 1) dX5_areUnlike_62 (by decide) ?_
            refine sw_goto (tgt := 67) dX5_areUnlike_63 (by decide) ?_
            refine sw_istore dX5_areUnlike_67 (by decide) rfl ?_
            first | refine sw_iincN (b := 1) dX5_areUnlike_69 rfl (by decide) rfl ?_ | refine sw_iinc dX5_areUnlike_69 rfl rfl (by decide) rfl ?_
            refine sw_goto (tgt := 20) dX5_areUnlike_72 (by decide) ?_
            refine sw_iload dX5_areUnlike_20 rfl ?_
            refine sw_aload_n dX5_areUnlike_22 rfl ?_
            refine sw_cvi (i := 0) (c_hiddenMany hn hn6) dX5_areUnlike_23 lkX5_88 (by decide) ⟨by decide, _, rfl, rfl⟩ rfl rfl rfl (Nat.le_of_ble_eq_true rfl) ?_
            clear hc
            refine sw_icmp_ge (tgt := 75) dX5_areUnlike_26 (by decide) (fun hc => ?_) (fun hc => ?_)
            · refine sw_iload dX5_areUnlike_75 rfl ?_
              refine sw_zret dX5_areUnlike_77 rfl rfl rfl rfl ?_
              exact ⟨by rw [hu]; rfl, rfl⟩
            · clear hc
              refine sw_iload dX5_areUnlike_29 rfl ?_
              refine sw_if_ne (tgt := 75) dX5_areUnlike_31 (by decide) (fun hc => ?_) (fun hc => ?_)
              · refine sw_iload dX5_areUnlike_75 rfl ?_
                refine sw_zret dX5_areUnlike_77 rfl rfl rfl rfl ?_
                exact ⟨by rw [hu]; rfl, rfl⟩
              · exact absurd hc (by decide)
theorem c_findQuarrel (T : TM h n z sm) : Ctr jX5_findQuarrel [.ref 28] h (Ret (fq (uM h n sm) z) h) := by
  have hz8 := T.1.2.1
  have hz := T.1.2.2.2
  refine ctr_start (by decide) (Nat.le_of_ble_eq_true rfl) rfl rfl ?_
  show SW jX5_findQuarrel E0 _ 0 [some (.ref 28), none, none] [] _
  refine sw_iconst (v := nI 0) dX5_findQuarrel_0 (by decide) ?_
  refine sw_istore_n dX5_findQuarrel_1 (by decide) rfl ?_
  have key := lp_up (n := z) (S := fun i => fqO (uM h n sm) z (z - i) i = fq (uM h n sm) z → ∀ v2, SW jX5_findQuarrel E0 (Zm (Ret (fq (uM h n sm) z) h)) 2 [some (.ref 28), some (.int (nI i)), v2] [] h) ?_ ?_ 0 (by omega) rfl none
  · exact key
  · intro he v2
    refine sw_iload_n dX5_findQuarrel_2 rfl ?_
    refine sw_aload_n dX5_findQuarrel_3 rfl ?_
    refine sw_getI dX5_findQuarrel_4 flX5_56 ⟨by decide, _, rfl, rfl⟩ ?_
    rw [hz]
    refine sw_icmpN_ge (tgt := 50) dX5_findQuarrel_7 (by decide) (by omega) (by omega) (fun hc => ?_) (fun hc => ?_)
    · refine sw_bipush (v := (-4)) dX5_findQuarrel_50 (by decide) ?_
      refine sw_iret dX5_findQuarrel_52 rfl rfl rfl ?_
      exact ⟨by rw [← he, Nat.sub_self]; rfl, rfl⟩
    · omega
  · intro i hi ih he v2
    refine sw_iload_n dX5_findQuarrel_2 rfl ?_
    refine sw_aload_n dX5_findQuarrel_3 rfl ?_
    refine sw_getI dX5_findQuarrel_4 flX5_56 ⟨by decide, _, rfl, rfl⟩ ?_
    rw [hz]
    refine sw_icmpN_ge (tgt := 50) dX5_findQuarrel_7 (by decide) (by omega) (by omega) (fun hc => ?_) (fun hc => ?_)
    · omega
    · clear hc
      have e1 : z - i = (z - (i + 1)) + 1 := by omega
      rw [e1] at he
      simp only [fqO] at he
      refine sw_iload_n dX5_findQuarrel_10 rfl ?_
      refine sw_iconst (v := nI 1) dX5_findQuarrel_11 (by decide) ?_
      first | refine sw_iaddN dX5_findQuarrel_12 ?_ | refine sw_iadd dX5_findQuarrel_12 ?_
      refine sw_istore_n dX5_findQuarrel_13 (by decide) rfl ?_
      have key2 := lp_up (n := z) (S := fun d => i + 1 ≤ d → fqI (uM h n sm) i (z - d) d = fqI (uM h n sm) i (z - (i + 1)) (i + 1) → SW jX5_findQuarrel E0 (Zm (Ret (fq (uM h n sm) z) h)) 14 [some (.ref 28), some (.int (nI i)), some (.int (nI d))] [] h) ?_ ?_ (i + 1) (by omega) (by omega) rfl
      · exact key2
      · intro hid hf
        refine sw_iload_n dX5_findQuarrel_14 rfl ?_
        refine sw_aload_n dX5_findQuarrel_15 rfl ?_
        refine sw_getI dX5_findQuarrel_16 flX5_56 ⟨by decide, _, rfl, rfl⟩ ?_
        rw [hz]
        refine sw_icmpN_ge (tgt := 44) dX5_findQuarrel_19 (by decide) (by omega) (by omega) (fun hc => ?_) (fun hc => ?_)
        · first | refine sw_iincN (b := 1) dX5_findQuarrel_44 rfl (by decide) rfl ?_ | refine sw_iinc dX5_findQuarrel_44 rfl rfl (by decide) rfl ?_
          refine sw_goto (tgt := 2) dX5_findQuarrel_47 (by decide) ?_
          refine ih ?_ _
          rw [← he, ← hf, Nat.sub_self]
          rfl
        · omega
      · intro d hd ih2 hid hf
        refine sw_iload_n dX5_findQuarrel_14 rfl ?_
        refine sw_aload_n dX5_findQuarrel_15 rfl ?_
        refine sw_getI dX5_findQuarrel_16 flX5_56 ⟨by decide, _, rfl, rfl⟩ ?_
        rw [hz]
        refine sw_icmpN_ge (tgt := 44) dX5_findQuarrel_19 (by decide) (by omega) (by omega) (fun hc => ?_) (fun hc => ?_)
        · omega
        · clear hc
          refine sw_aload_n dX5_findQuarrel_22 rfl ?_
          refine sw_iload_n dX5_findQuarrel_23 rfl ?_
          refine sw_iload_n dX5_findQuarrel_24 rfl ?_
          refine sw_cvi (i := 0) (c_areUnlikeM T hi hd) dX5_findQuarrel_25 lkX5_100 (by decide) ⟨by decide, _, rfl, rfl⟩ rfl rfl rfl (Nat.le_of_ble_eq_true rfl) ?_
          have e2 : z - d = (z - (d + 1)) + 1 := by omega
          rw [e2] at hf
          simp only [fqI] at hf
          refine sw_if_eq (tgt := 38) dX5_findQuarrel_28 (by decide) (fun hc => ?_) (fun hc => ?_)
          · have hu := bI_0 hc
            rw [hu] at hf
            first | refine sw_iincN (b := 1) dX5_findQuarrel_38 rfl (by decide) rfl ?_ | refine sw_iinc dX5_findQuarrel_38 rfl rfl (by decide) rfl ?_
            refine sw_goto (tgt := 14) dX5_findQuarrel_41 (by decide) ?_
            exact ih2 (by omega) hf
          · have hu := bI_1 hc
            rw [hu] at hf
            rw [← hf] at he
            refine sw_bipush (v := nI 8) dX5_findQuarrel_31 (by decide) ?_
            refine sw_iload_n dX5_findQuarrel_33 rfl ?_
            first | refine sw_imulN dX5_findQuarrel_34 ?_ | refine sw_imul dX5_findQuarrel_34 ?_
            refine sw_iload_n dX5_findQuarrel_35 rfl ?_
            first | refine sw_iaddN dX5_findQuarrel_36 ?_ | refine sw_iadd dX5_findQuarrel_36 ?_
            refine sw_iret dX5_findQuarrel_37 rfl rfl rfl ?_
            exact ⟨by rw [← he]; rfl, rfl⟩
theorem c_isLost (T : TM h n z sm) {c j : Nat} (hc : c < z) (hj : j < 8) : Ctr jX5_isLost [.ref 28, .int (nI c), .int (nI j)] h (Ret (bI (decide (0 < h 31 (8 * c + j)) && !metB (posM h z sm) sm (8 * c + j) (2 ^ n))) h) := by
  have hz8 := T.1.2.1
  have hn := T.1.2.2.1
  have hn6 := T.1.1
  have h64 := pow6 hn6
  have ed : (8 * c + j) / 8 = c := by omega
  have em : (8 * c + j) % 8 = j := by omega
  have hcc := hc
  clear hc
  refine ctr_start (by decide) (Nat.le_of_ble_eq_true rfl) rfl rfl ?_
  show SW jX5_isLost E0 _ 0 [some (.ref 28), some (.int (nI c)), some (.int (nI j)), none, none] [] _
  refine sw_aload_n dX5_isLost_0 rfl ?_
  refine sw_getR dX5_isLost_1 flX5_20 ⟨by decide, _, rfl, rfl⟩ ?_
  refine sw_bipush (v := nI 8) dX5_isLost_4 (by decide) ?_
  refine sw_iload_n dX5_isLost_6 rfl ?_
  first | refine sw_imulN dX5_isLost_7 ?_ | refine sw_imul dX5_isLost_7 ?_
  refine sw_iload_n dX5_isLost_8 rfl ?_
  first | refine sw_iaddN dX5_isLost_9 ?_ | refine sw_iadd dX5_isLost_9 ?_
  refine sw_iald dX5_isLost_10 rfl (by simp only [plA]; omega) ?_
  have zero : (decide (0 < h 31 (8 * c + j)) && !metB (posM h z sm) sm (8 * c + j) (2 ^ n)) = false → ∀ i : Nat, SW jX5_isLost E0 (Zm (Ret (bI (decide (0 < h 31 (8 * c + j)) && !metB (posM h z sm) sm (8 * c + j) (2 ^ n))) h)) 23 [some (.ref 28), some (.int (nI c)), some (.int (nI j)), some (.int (nI 0)), some (.int (nI i))] [] h := fun q i => by
    rw [q]
    refine sw_iload dX5_isLost_23 rfl ?_
    refine sw_aload_n dX5_isLost_25 rfl ?_
    refine sw_cvi (i := 0) (c_hiddenMany hn hn6) dX5_isLost_26 lkX5_88 (by decide) ⟨by decide, _, rfl, rfl⟩ rfl rfl rfl (Nat.le_of_ble_eq_true rfl) ?_
    refine sw_icmp_ge (tgt := 68) dX5_isLost_29 (by decide) (fun hc => ?_) (fun hc => ?_)
    · refine sw_iload_n dX5_isLost_68 rfl ?_
      refine sw_zret dX5_isLost_69 rfl rfl rfl rfl ?_
      exact ⟨rfl, rfl⟩
    · clear hc
      refine sw_iload_n dX5_isLost_32 rfl ?_
      refine sw_if_eq (tgt := 68) dX5_isLost_33 (by decide) (fun hc => ?_) (fun hc => ?_)
      · refine sw_iload_n dX5_isLost_68 rfl ?_
        refine sw_zret dX5_isLost_69 rfl rfl rfl rfl ?_
        exact ⟨rfl, rfl⟩
      · exact absurd rfl hc
  refine sw_if_le (tgt := 18) dX5_isLost_11 (by decide) (fun hc => ?_) (fun hc => ?_)
  · have hw : ¬ 0 < h 31 (8 * c + j) := Int32.not_lt.mpr hc
    refine sw_iconst (v := nI 0) dX5_isLost_18 (by decide) ?_
    refine sw_istore_n dX5_isLost_19 (by decide) rfl ?_
    refine sw_iconst (v := nI 0) dX5_isLost_20 (by decide) ?_
    refine sw_istore dX5_isLost_21 (by decide) rfl ?_
    exact zero (by rw [decide_eq_false hw, Bool.false_and]) 0
  · have hw : 0 < h 31 (8 * c + j) := Int32.not_le.mp hc
    clear hc
    refine sw_iconst (v := nI 1) dX5_isLost_14 (by decide) ?_
    refine sw_goto (tgt := 19) dX5_isLost_15 (by decide) ?_
    refine sw_istore_n dX5_isLost_19 (by decide) rfl ?_
    refine sw_iconst (v := nI 0) dX5_isLost_20 (by decide) ?_
    refine sw_istore dX5_isLost_21 (by decide) rfl ?_
    refine lp_up (n := 2 ^ n) (S := fun i => metB (posM h z sm) sm (8 * c + j) i = false → SW jX5_isLost E0 (Zm (Ret (bI (decide (0 < h 31 (8 * c + j)) && !metB (posM h z sm) sm (8 * c + j) (2 ^ n))) h)) 23 [some (.ref 28), some (.int (nI c)), some (.int (nI j)), some (.int (nI 1)), some (.int (nI i))] [] h) ?_ ?_ 0 (Nat.zero_le _) rfl
    · intro ha
      refine sw_iload dX5_isLost_23 rfl ?_
      refine sw_aload_n dX5_isLost_25 rfl ?_
      refine sw_cvi (i := 0) (c_hiddenMany hn hn6) dX5_isLost_26 lkX5_88 (by decide) ⟨by decide, _, rfl, rfl⟩ rfl rfl rfl (Nat.le_of_ble_eq_true rfl) ?_
      refine sw_icmpN_ge (tgt := 68) dX5_isLost_29 (by decide) (by omega) (by omega) (fun hc => ?_) (fun hc => ?_)
      · refine sw_iload_n dX5_isLost_68 rfl ?_
        refine sw_zret dX5_isLost_69 rfl rfl rfl rfl ?_
        exact ⟨by rw [ha, decide_eq_true hw]; rfl, rfl⟩
      · omega
    · intro i hi ih ha
      have hj8 := T.j8 hcc i
      have em1 : metB (posM h z sm) sm (8 * c + j) (i + 1) = (posM h z sm i && decide (jnt (sm c) i = j)) := by
        simp only [metB]
        rw [ha, Bool.false_or, ed, em]
      have nx : (posM h z sm i && decide (jnt (sm c) i = j)) = false → SW jX5_isLost E0 (Zm (Ret (bI (decide (0 < h 31 (8 * c + j)) && !metB (posM h z sm) sm (8 * c + j) (2 ^ n))) h)) 56 [some (.ref 28), some (.int (nI c)), some (.int (nI j)), some (.int (nI 1)), some (.int (nI i))] [] h := fun q => by
        refine sw_iconst (v := nI 1) dX5_isLost_56 (by decide) ?_
        refine sw_goto (tgt := 61) dX5_isLost_57 (by decide) ?_
        refine sw_istore_n dX5_isLost_61 (by decide) rfl ?_
        first | refine sw_iincN (b := 1) dX5_isLost_62 rfl (by decide) rfl ?_ | refine sw_iinc dX5_isLost_62 rfl rfl (by decide) rfl ?_
        refine sw_goto (tgt := 23) dX5_isLost_65 (by decide) ?_
        exact ih (by rw [em1]; exact q)
      refine sw_iload dX5_isLost_23 rfl ?_
      refine sw_aload_n dX5_isLost_25 rfl ?_
      refine sw_cvi (i := 0) (c_hiddenMany hn hn6) dX5_isLost_26 lkX5_88 (by decide) ⟨by decide, _, rfl, rfl⟩ rfl rfl rfl (Nat.le_of_ble_eq_true rfl) ?_
      refine sw_icmpN_ge (tgt := 68) dX5_isLost_29 (by decide) (by omega) (by omega) (fun hc => ?_) (fun hc => ?_)
      · omega
      · clear hc
        refine sw_iload_n dX5_isLost_32 rfl ?_
        refine sw_if_eq (tgt := 68) dX5_isLost_33 (by decide) (fun hc => ?_) (fun hc => ?_)
        · exact absurd hc (by decide)
        · clear hc
          refine sw_aload_n dX5_isLost_36 rfl ?_
          refine sw_iload_n dX5_isLost_37 rfl ?_
          refine sw_iload dX5_isLost_38 rfl ?_
          refine sw_cvi (i := 0) (c_jointOf T hcc (x := i) (by omega)) dX5_isLost_40 lkX5_92 (by decide) ⟨by decide, _, rfl, rfl⟩ rfl rfl rfl (Nat.le_of_ble_eq_true rfl) ?_
          refine sw_iload_n dX5_isLost_43 rfl ?_
          refine sw_icmpN_ne (tgt := 56) dX5_isLost_44 (by decide) (by omega) (by omega) (fun hc => ?_) (fun hc => ?_)
          · exact nx (by rw [decide_eq_false hc, Bool.and_false])
          · have hjj := hc
            clear hc
            refine sw_aload_n dX5_isLost_47 rfl ?_
            refine sw_iload dX5_isLost_48 rfl ?_
            refine sw_cvi (i := 0) (c_isPossibleM T (x := i) (by omega)) dX5_isLost_50 lkX5_106 (by decide) ⟨by decide, _, rfl, rfl⟩ rfl rfl rfl (Nat.le_of_ble_eq_true rfl) ?_
            refine sw_if_ne (tgt := 60) dX5_isLost_53 (by decide) (fun hc => ?_) (fun hc => ?_)
            · have hp := bI_1 hc
              refine sw_iconst (v := nI 0) dX5_isLost_60 (by decide) ?_
              refine sw_istore_n dX5_isLost_61 (by decide) rfl ?_
              first | refine sw_iincN (b := 1) dX5_isLost_62 rfl (by decide) rfl ?_ | refine sw_iinc dX5_isLost_62 rfl rfl (by decide) rfl ?_
              refine sw_goto (tgt := 23) dX5_isLost_65 (by decide) ?_
              have hm : metB (posM h z sm) sm (8 * c + j) (i + 1) = true := by rw [em1, hp, decide_eq_true hjj]; rfl
              have hmono : ∀ d, metB (posM h z sm) sm (8 * c + j) (i + 1 + d) = true := by
                intro d
                induction d with
                | zero => exact hm
                | succ d ihd => rw [← Nat.add_assoc]; simp only [metB]; rw [ihd, Bool.true_or]
              have hmf : metB (posM h z sm) sm (8 * c + j) (2 ^ n) = true := by
                have := hmono (2 ^ n - (i + 1))
                rw [show i + 1 + (2 ^ n - (i + 1)) = 2 ^ n by omega] at this
                exact this
              exact zero (by rw [hmf]; simp) (i + 1)
            · exact nx (by rw [bI_0 hc, Bool.false_and])
end MOD
end
