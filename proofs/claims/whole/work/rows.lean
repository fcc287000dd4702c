section
-- ===== PART A: goes FIRST, ahead of the names: the tables' words, and 'selects' of the private methods out of them =====
/-- a private method of a class that the tables say can be made, by its rows of tables_1 -/
def lw_okq (q : MethodName × Nat) : Prop := (q.1.cls ≠ "java/lang/invoke/MethodHandle" ∧ q.1.cls ≠ "java/lang/invoke/VarHandle") ∧ Cond.instantiable q.1.cls q.2 ∈ tables_1 ∧ Cond.privateMethod q.1 ∈ tables_1 ∧ Cond.instanceMethod q.1 ∈ tables_1
theorem lw_p0 : lw_okq (⟨"DebtCoats$Tape", "readCoat", "(LDebtCoats$Person;)Z"⟩, 3) := ⟨⟨by decide +kernel, by decide +kernel⟩, List.mem_of_getElem? (i := 188) (by decide +kernel), List.mem_of_getElem? (i := 337) (by decide +kernel), List.mem_of_getElem? (i := 338) (by decide +kernel)⟩
theorem lw_p1 : lw_okq (⟨"DebtCoats$Tape", "nextByte", "()I"⟩, 3) := ⟨⟨by decide +kernel, by decide +kernel⟩, List.mem_of_getElem? (i := 188) (by decide +kernel), List.mem_of_getElem? (i := 341) (by decide +kernel), List.mem_of_getElem? (i := 342) (by decide +kernel)⟩
theorem lw_p2 : lw_okq (⟨"DebtCoats$Tape", "readNumber", "(II)I"⟩, 3) := ⟨⟨by decide +kernel, by decide +kernel⟩, List.mem_of_getElem? (i := 188) (by decide +kernel), List.mem_of_getElem? (i := 346) (by decide +kernel), List.mem_of_getElem? (i := 347) (by decide +kernel)⟩
theorem lw_p3 : lw_okq (⟨"DebtCoats$Tape", "skipIf", "(I)Z"⟩, 3) := ⟨⟨by decide +kernel, by decide +kernel⟩, List.mem_of_getElem? (i := 188) (by decide +kernel), List.mem_of_getElem? (i := 352) (by decide +kernel), List.mem_of_getElem? (i := 353) (by decide +kernel)⟩
theorem lw_p4 : lw_okq (⟨"DebtCoats$Tape", "readDigit", "()I"⟩, 3) := ⟨⟨by decide +kernel, by decide +kernel⟩, List.mem_of_getElem? (i := 188) (by decide +kernel), List.mem_of_getElem? (i := 356) (by decide +kernel), List.mem_of_getElem? (i := 357) (by decide +kernel)⟩
theorem lw_p5 : lw_okq (⟨"DebtCoats$World", "passNight", "()V"⟩, 10) := ⟨⟨by decide +kernel, by decide +kernel⟩, List.mem_of_getElem? (i := 21) (by decide +kernel), List.mem_of_getElem? (i := 416) (by decide +kernel), List.mem_of_getElem? (i := 417) (by decide +kernel)⟩
theorem lw_p6 : lw_okq (⟨"DebtCoats$BestRing", "keepIfBetter", "(IIIII)V"⟩, 3) := ⟨⟨by decide +kernel, by decide +kernel⟩, List.mem_of_getElem? (i := 169) (by decide +kernel), List.mem_of_getElem? (i := 482) (by decide +kernel), List.mem_of_getElem? (i := 483) (by decide +kernel)⟩
theorem lw_p7 : lw_okq (⟨"DebtCoats$BestRing", "findThirds", "(LDebtCoats$World;II)V"⟩, 3) := ⟨⟨by decide +kernel, by decide +kernel⟩, List.mem_of_getElem? (i := 169) (by decide +kernel), List.mem_of_getElem? (i := 486) (by decide +kernel), List.mem_of_getElem? (i := 487) (by decide +kernel)⟩
theorem lw_p8 : lw_okq (⟨"DebtCoats$Planner", "tryEach", "(IIIII)V"⟩, 7) := ⟨⟨by decide +kernel, by decide +kernel⟩, List.mem_of_getElem? (i := 136) (by decide +kernel), List.mem_of_getElem? (i := 508) (by decide +kernel), List.mem_of_getElem? (i := 509) (by decide +kernel)⟩
theorem lw_p9 : lw_okq (⟨"DebtCoats$Planner", "keepIfBetter", "(III)V"⟩, 7) := ⟨⟨by decide +kernel, by decide +kernel⟩, List.mem_of_getElem? (i := 136) (by decide +kernel), List.mem_of_getElem? (i := 512) (by decide +kernel), List.mem_of_getElem? (i := 513) (by decide +kernel)⟩
theorem lw_p10 : lw_okq (⟨"DebtCoats$Planner", "payNext", "(IIIII)V"⟩, 7) := ⟨⟨by decide +kernel, by decide +kernel⟩, List.mem_of_getElem? (i := 136) (by decide +kernel), List.mem_of_getElem? (i := 520) (by decide +kernel), List.mem_of_getElem? (i := 521) (by decide +kernel)⟩
theorem lw_p11 : lw_okq (⟨"DebtCoats$Planner", "taxesOf", "(I)I"⟩, 7) := ⟨⟨by decide +kernel, by decide +kernel⟩, List.mem_of_getElem? (i := 136) (by decide +kernel), List.mem_of_getElem? (i := 524) (by decide +kernel), List.mem_of_getElem? (i := 525) (by decide +kernel)⟩
theorem lw_p12 : lw_okq (⟨"DebtCoats$Planner", "growAmounts", "([II)V"⟩, 7) := ⟨⟨by decide +kernel, by decide +kernel⟩, List.mem_of_getElem? (i := 136) (by decide +kernel), List.mem_of_getElem? (i := 531) (by decide +kernel), List.mem_of_getElem? (i := 532) (by decide +kernel)⟩
theorem lw_p13 : lw_okq (⟨"DebtCoatsModel", "isOne", "(I)Z"⟩, 28) := ⟨⟨by decide +kernel, by decide +kernel⟩, List.mem_of_getElem? (i := 634) (by decide +kernel), List.mem_of_getElem? (i := 739) (by decide +kernel), List.mem_of_getElem? (i := 740) (by decide +kernel)⟩
theorem lw_p14 : lw_okq (⟨"DebtCoatsModel", "thickOf", "(I)I"⟩, 28) := ⟨⟨by decide +kernel, by decide +kernel⟩, List.mem_of_getElem? (i := 634) (by decide +kernel), List.mem_of_getElem? (i := 744) (by decide +kernel), List.mem_of_getElem? (i := 745) (by decide +kernel)⟩
theorem lw_p15 : lw_okq (⟨"DebtCoatsModel", "isCoat", "(II)Z"⟩, 28) := ⟨⟨by decide +kernel, by decide +kernel⟩, List.mem_of_getElem? (i := 634) (by decide +kernel), List.mem_of_getElem? (i := 753) (by decide +kernel), List.mem_of_getElem? (i := 754) (by decide +kernel)⟩
def lw_privs_1 : List (MethodName × Nat) := [(⟨"DebtCoats$Tape", "readCoat", "(LDebtCoats$Person;)Z"⟩, 3), (⟨"DebtCoats$Tape", "nextByte", "()I"⟩, 3), (⟨"DebtCoats$Tape", "readNumber", "(II)I"⟩, 3), (⟨"DebtCoats$Tape", "skipIf", "(I)Z"⟩, 3), (⟨"DebtCoats$Tape", "readDigit", "()I"⟩, 3), (⟨"DebtCoats$World", "passNight", "()V"⟩, 10), (⟨"DebtCoats$BestRing", "keepIfBetter", "(IIIII)V"⟩, 3), (⟨"DebtCoats$BestRing", "findThirds", "(LDebtCoats$World;II)V"⟩, 3), (⟨"DebtCoats$Planner", "tryEach", "(IIIII)V"⟩, 7), (⟨"DebtCoats$Planner", "keepIfBetter", "(III)V"⟩, 7), (⟨"DebtCoats$Planner", "payNext", "(IIIII)V"⟩, 7), (⟨"DebtCoats$Planner", "taxesOf", "(I)I"⟩, 7), (⟨"DebtCoats$Planner", "growAmounts", "([II)V"⟩, 7), (⟨"DebtCoatsModel", "isOne", "(I)Z"⟩, 28), (⟨"DebtCoatsModel", "thickOf", "(I)I"⟩, 28), (⟨"DebtCoatsModel", "isCoat", "(II)Z"⟩, 28)]
theorem lw_r1 : ∀ q ∈ lw_privs_1, lw_okq q := List.forall_mem_cons.mpr ⟨lw_p0, List.forall_mem_cons.mpr ⟨lw_p1, List.forall_mem_cons.mpr ⟨lw_p2, List.forall_mem_cons.mpr ⟨lw_p3, List.forall_mem_cons.mpr ⟨lw_p4, List.forall_mem_cons.mpr ⟨lw_p5, List.forall_mem_cons.mpr ⟨lw_p6, List.forall_mem_cons.mpr ⟨lw_p7, List.forall_mem_cons.mpr ⟨lw_p8, List.forall_mem_cons.mpr ⟨lw_p9, List.forall_mem_cons.mpr ⟨lw_p10, List.forall_mem_cons.mpr ⟨lw_p11, List.forall_mem_cons.mpr ⟨lw_p12, List.forall_mem_cons.mpr ⟨lw_p13, List.forall_mem_cons.mpr ⟨lw_p14, List.forall_mem_cons.mpr ⟨lw_p15, fun _ h => absurd h List.not_mem_nil⟩⟩⟩⟩⟩⟩⟩⟩⟩⟩⟩⟩⟩⟩⟩⟩
theorem lw_p16 : lw_okq (⟨"DebtCoatsModel", "byteOf", "(II)I"⟩, 28) := ⟨⟨by decide +kernel, by decide +kernel⟩, List.mem_of_getElem? (i := 634) (by decide +kernel), List.mem_of_getElem? (i := 790) (by decide +kernel), List.mem_of_getElem? (i := 791) (by decide +kernel)⟩
theorem lw_p17 : lw_okq (⟨"DebtCoatsModel", "here", "()I"⟩, 28) := ⟨⟨by decide +kernel, by decide +kernel⟩, List.mem_of_getElem? (i := 634) (by decide +kernel), List.mem_of_getElem? (i := 794) (by decide +kernel), List.mem_of_getElem? (i := 795) (by decide +kernel)⟩
theorem lw_p18 : lw_okq (⟨"DebtCoatsModel", "number", "(II)I"⟩, 28) := ⟨⟨by decide +kernel, by decide +kernel⟩, List.mem_of_getElem? (i := 634) (by decide +kernel), List.mem_of_getElem? (i := 798) (by decide +kernel), List.mem_of_getElem? (i := 799) (by decide +kernel)⟩
theorem lw_p19 : lw_okq (⟨"DebtCoatsModel", "has", "(I)Z"⟩, 28) := ⟨⟨by decide +kernel, by decide +kernel⟩, List.mem_of_getElem? (i := 634) (by decide +kernel), List.mem_of_getElem? (i := 805) (by decide +kernel), List.mem_of_getElem? (i := 806) (by decide +kernel)⟩
theorem lw_p20 : lw_okq (⟨"DebtCoatsModel", "sleeps", "(I)V"⟩, 28) := ⟨⟨by decide +kernel, by decide +kernel⟩, List.mem_of_getElem? (i := 634) (by decide +kernel), List.mem_of_getElem? (i := 817) (by decide +kernel), List.mem_of_getElem? (i := 818) (by decide +kernel)⟩
theorem lw_p21 : lw_okq (⟨"DebtCoatsModel", "rests", "(I)V"⟩, 28) := ⟨⟨by decide +kernel, by decide +kernel⟩, List.mem_of_getElem? (i := 634) (by decide +kernel), List.mem_of_getElem? (i := 821) (by decide +kernel), List.mem_of_getElem? (i := 822) (by decide +kernel)⟩
theorem lw_p22 : lw_okq (⟨"DebtCoatsModel", "isTooHot", "(II)Z"⟩, 28) := ⟨⟨by decide +kernel, by decide +kernel⟩, List.mem_of_getElem? (i := 634) (by decide +kernel), List.mem_of_getElem? (i := 829) (by decide +kernel), List.mem_of_getElem? (i := 830) (by decide +kernel)⟩
theorem lw_p23 : lw_okq (⟨"DebtCoatsModel", "mayOff", "(II)Z"⟩, 28) := ⟨⟨by decide +kernel, by decide +kernel⟩, List.mem_of_getElem? (i := 634) (by decide +kernel), List.mem_of_getElem? (i := 842) (by decide +kernel), List.mem_of_getElem? (i := 843) (by decide +kernel)⟩
theorem lw_p24 : lw_okq (⟨"DebtCoatsModel", "off", "(II)V"⟩, 28) := ⟨⟨by decide +kernel, by decide +kernel⟩, List.mem_of_getElem? (i := 634) (by decide +kernel), List.mem_of_getElem? (i := 846) (by decide +kernel), List.mem_of_getElem? (i := 847) (by decide +kernel)⟩
theorem lw_p25 : lw_okq (⟨"DebtCoatsModel", "isBetween", "(II)Z"⟩, 28) := ⟨⟨by decide +kernel, by decide +kernel⟩, List.mem_of_getElem? (i := 634) (by decide +kernel), List.mem_of_getElem? (i := 854) (by decide +kernel), List.mem_of_getElem? (i := 855) (by decide +kernel)⟩
theorem lw_p26 : lw_okq (⟨"DebtCoatsModel", "saved", "(III)I"⟩, 28) := ⟨⟨by decide +kernel, by decide +kernel⟩, List.mem_of_getElem? (i := 634) (by decide +kernel), List.mem_of_getElem? (i := 862) (by decide +kernel), List.mem_of_getElem? (i := 863) (by decide +kernel)⟩
theorem lw_p27 : lw_okq (⟨"DebtCoatsModel", "gains", "(II)I"⟩, 28) := ⟨⟨by decide +kernel, by decide +kernel⟩, List.mem_of_getElem? (i := 634) (by decide +kernel), List.mem_of_getElem? (i := 866) (by decide +kernel), List.mem_of_getElem? (i := 867) (by decide +kernel)⟩
theorem lw_p28 : lw_okq (⟨"DebtCoatsModel", "outer", "(I)I"⟩, 28) := ⟨⟨by decide +kernel, by decide +kernel⟩, List.mem_of_getElem? (i := 634) (by decide +kernel), List.mem_of_getElem? (i := 870) (by decide +kernel), List.mem_of_getElem? (i := 871) (by decide +kernel)⟩
theorem lw_p29 : lw_okq (⟨"DebtCoatsModel", "starts", "(I)V"⟩, 28) := ⟨⟨by decide +kernel, by decide +kernel⟩, List.mem_of_getElem? (i := 634) (by decide +kernel), List.mem_of_getElem? (i := 888) (by decide +kernel), List.mem_of_getElem? (i := 889) (by decide +kernel)⟩
theorem lw_p30 : lw_okq (⟨"DebtCoatsModel", "bestFree", "(I)I"⟩, 28) := ⟨⟨by decide +kernel, by decide +kernel⟩, List.mem_of_getElem? (i := 634) (by decide +kernel), List.mem_of_getElem? (i := 892) (by decide +kernel), List.mem_of_getElem? (i := 893) (by decide +kernel)⟩
theorem lw_p31 : lw_okq (⟨"DebtCoatsModel", "isLawful", "(I)Z"⟩, 28) := ⟨⟨by decide +kernel, by decide +kernel⟩, List.mem_of_getElem? (i := 634) (by decide +kernel), List.mem_of_getElem? (i := 896) (by decide +kernel), List.mem_of_getElem? (i := 897) (by decide +kernel)⟩
def lw_privs_2 : List (MethodName × Nat) := [(⟨"DebtCoatsModel", "byteOf", "(II)I"⟩, 28), (⟨"DebtCoatsModel", "here", "()I"⟩, 28), (⟨"DebtCoatsModel", "number", "(II)I"⟩, 28), (⟨"DebtCoatsModel", "has", "(I)Z"⟩, 28), (⟨"DebtCoatsModel", "sleeps", "(I)V"⟩, 28), (⟨"DebtCoatsModel", "rests", "(I)V"⟩, 28), (⟨"DebtCoatsModel", "isTooHot", "(II)Z"⟩, 28), (⟨"DebtCoatsModel", "mayOff", "(II)Z"⟩, 28), (⟨"DebtCoatsModel", "off", "(II)V"⟩, 28), (⟨"DebtCoatsModel", "isBetween", "(II)Z"⟩, 28), (⟨"DebtCoatsModel", "saved", "(III)I"⟩, 28), (⟨"DebtCoatsModel", "gains", "(II)I"⟩, 28), (⟨"DebtCoatsModel", "outer", "(I)I"⟩, 28), (⟨"DebtCoatsModel", "starts", "(I)V"⟩, 28), (⟨"DebtCoatsModel", "bestFree", "(I)I"⟩, 28), (⟨"DebtCoatsModel", "isLawful", "(I)Z"⟩, 28)]
theorem lw_r2 : ∀ q ∈ lw_privs_2, lw_okq q := List.forall_mem_cons.mpr ⟨lw_p16, List.forall_mem_cons.mpr ⟨lw_p17, List.forall_mem_cons.mpr ⟨lw_p18, List.forall_mem_cons.mpr ⟨lw_p19, List.forall_mem_cons.mpr ⟨lw_p20, List.forall_mem_cons.mpr ⟨lw_p21, List.forall_mem_cons.mpr ⟨lw_p22, List.forall_mem_cons.mpr ⟨lw_p23, List.forall_mem_cons.mpr ⟨lw_p24, List.forall_mem_cons.mpr ⟨lw_p25, List.forall_mem_cons.mpr ⟨lw_p26, List.forall_mem_cons.mpr ⟨lw_p27, List.forall_mem_cons.mpr ⟨lw_p28, List.forall_mem_cons.mpr ⟨lw_p29, List.forall_mem_cons.mpr ⟨lw_p30, List.forall_mem_cons.mpr ⟨lw_p31, fun _ h => absurd h List.not_mem_nil⟩⟩⟩⟩⟩⟩⟩⟩⟩⟩⟩⟩⟩⟩⟩⟩
theorem lw_p32 : lw_okq (⟨"DebtCoatsModel", "freeBy", "(II)I"⟩, 28) := ⟨⟨by decide +kernel, by decide +kernel⟩, List.mem_of_getElem? (i := 634) (by decide +kernel), List.mem_of_getElem? (i := 900) (by decide +kernel), List.mem_of_getElem? (i := 901) (by decide +kernel)⟩
theorem lw_p33 : lw_okq (⟨"DebtCoatsModel", "turns", "(I)Z"⟩, 28) := ⟨⟨by decide +kernel, by decide +kernel⟩, List.mem_of_getElem? (i := 634) (by decide +kernel), List.mem_of_getElem? (i := 904) (by decide +kernel), List.mem_of_getElem? (i := 905) (by decide +kernel)⟩
theorem lw_p34 : lw_okq (⟨"DebtCoatsModel", "lay", "([II)I"⟩, 28) := ⟨⟨by decide +kernel, by decide +kernel⟩, List.mem_of_getElem? (i := 634) (by decide +kernel), List.mem_of_getElem? (i := 929) (by decide +kernel), List.mem_of_getElem? (i := 930) (by decide +kernel)⟩
theorem lw_p35 : lw_okq (⟨"DebtCoatsModel", "gives", "(I[I)I"⟩, 28) := ⟨⟨by decide +kernel, by decide +kernel⟩, List.mem_of_getElem? (i := 634) (by decide +kernel), List.mem_of_getElem? (i := 937) (by decide +kernel), List.mem_of_getElem? (i := 938) (by decide +kernel)⟩
theorem lw_p36 : lw_okq (⟨"DebtCoatsModel", "finds", "(IIII)I"⟩, 28) := ⟨⟨by decide +kernel, by decide +kernel⟩, List.mem_of_getElem? (i := 634) (by decide +kernel), List.mem_of_getElem? (i := 951) (by decide +kernel), List.mem_of_getElem? (i := 952) (by decide +kernel)⟩
def lw_privs_3 : List (MethodName × Nat) := [(⟨"DebtCoatsModel", "freeBy", "(II)I"⟩, 28), (⟨"DebtCoatsModel", "turns", "(I)Z"⟩, 28), (⟨"DebtCoatsModel", "lay", "([II)I"⟩, 28), (⟨"DebtCoatsModel", "gives", "(I[I)I"⟩, 28), (⟨"DebtCoatsModel", "finds", "(IIII)I"⟩, 28)]
theorem lw_r3 : ∀ q ∈ lw_privs_3, lw_okq q := List.forall_mem_cons.mpr ⟨lw_p32, List.forall_mem_cons.mpr ⟨lw_p33, List.forall_mem_cons.mpr ⟨lw_p34, List.forall_mem_cons.mpr ⟨lw_p35, List.forall_mem_cons.mpr ⟨lw_p36, fun _ h => absurd h List.not_mem_nil⟩⟩⟩⟩⟩
def lw_privs : List (MethodName × Nat) := lw_privs_1 ++ (lw_privs_2 ++ (lw_privs_3))
def lw_tbl : List Cond := k2_sels lw_privs ++ tables_1
theorem lw_privs_ok : ∀ q ∈ lw_privs, lw_okq q := by
  show ∀ q ∈ lw_privs_1 ++ (lw_privs_2 ++ (lw_privs_3)), lw_okq q
  exact List.forall_mem_append.mpr ⟨lw_r1, List.forall_mem_append.mpr ⟨lw_r2, lw_r3⟩⟩
end
section
def RX0 : String := "DebtCoats$BestRing"
def TX0 : u_T := fun k => match k with
  | 0 => ("DebtCoats$BestRing", "row", "[I", true)
  | 1 => ("DebtCoats$BestRing", "size", "I", false)
  | _ => ("DebtCoats$BestRing", "saved", "I", false)
def tyX0 : Nat → FieldType := fun k => match k with
  | 0 => .array .int
  | 1 => .int
  | _ => .int
abbrev wsX00 : List Cond := u_ws RX0 TX0 3
theorem nmX0 : ∀ a, a < 3 → ∀ b, b < 3 → a ≠ b → (TX0 a).2.1 ≠ (TX0 b).2.1 := by decide +kernel
theorem tyX0_ok : ∀ k, k < 3 → parseFieldDescriptor (TX0 k).2.2.1 = some (tyX0 k) := by decide +kernel
abbrev cX0_init : ByteArray := prog_2_method_1_code
def yX0_init : MethodName := ⟨RX0, "<init>", "()V"⟩
abbrev cX0_find : ByteArray := prog_2_method_2_code
def yX0_find : MethodName := ⟨RX0, "find", "(LDebtCoats$World;)V"⟩
abbrev cX0_findThirds : ByteArray := prog_2_method_3_code
def yX0_findThirds : MethodName := ⟨RX0, "findThirds", "(LDebtCoats$World;II)V"⟩
abbrev cX0_keepIfBetter : ByteArray := prog_2_method_4_code
def yX0_keepIfBetter : MethodName := ⟨RX0, "keepIfBetter", "(IIIII)V"⟩
abbrev cX0_savedBy : ByteArray := prog_2_method_5_code
def yX0_savedBy : MethodName := ⟨RX0, "savedBy", "(LDebtCoats$Person;LDebtCoats$Person;LDebtCoats$Person;)I"⟩
abbrev cX0_gain : ByteArray := prog_2_method_6_code
def yX0_gain : MethodName := ⟨RX0, "gain", "(LDebtCoats$Person;LDebtCoats$Person;)I"⟩
def RX1 : String := "DebtCoats$Person"
def TX1 : u_T := fun k => match k with
  | 0 => ("DebtCoats$Person", "lenders", "[I", true)
  | 1 => ("DebtCoats$Person", "amounts", "[I", true)
  | 2 => ("DebtCoats$Person", "rates", "[I", true)
  | 3 => ("DebtCoats$Person", "thicks", "[I", true)
  | 4 => ("DebtCoats$Person", "taxes", "[I", true)
  | 5 => ("DebtCoats$Person", "worn", "I", false)
  | 6 => ("DebtCoats$Person", "purse", "I", false)
  | 7 => ("DebtCoats$Person", "income", "I", false)
  | 8 => ("DebtCoats$Person", "strength", "I", false)
  | _ => ("DebtCoats$Person", "fellOn", "I", false)
def tyX1 : Nat → FieldType := fun k => match k with
  | 0 => .array .int
  | 1 => .array .int
  | 2 => .array .int
  | 3 => .array .int
  | 4 => .array .int
  | 5 => .int
  | 6 => .int
  | 7 => .int
  | 8 => .int
  | _ => .int
abbrev wsX10 : List Cond := u_ws RX1 TX1 10
theorem nmX1 : ∀ a, a < 10 → ∀ b, b < 10 → a ≠ b → (TX1 a).2.1 ≠ (TX1 b).2.1 := by decide +kernel
theorem tyX1_ok : ∀ k, k < 10 → parseFieldDescriptor (TX1 k).2.2.1 = some (tyX1 k) := by decide +kernel
abbrev cX1_init : ByteArray := prog_3_method_1_code
def yX1_init : MethodName := ⟨RX1, "<init>", "()V"⟩
abbrev cX1_begin : ByteArray := prog_3_method_2_code
def yX1_begin : MethodName := ⟨RX1, "begin", "(III)V"⟩
abbrev cX1_becomeLike : ByteArray := prog_3_method_3_code
def yX1_becomeLike : MethodName := ⟨RX1, "becomeLike", "(LDebtCoats$Person;)V"⟩
abbrev cX1_wearAs : ByteArray := prog_3_method_4_code
def yX1_wearAs : MethodName := ⟨RX1, "wearAs", "(LDebtCoats$Person;)V"⟩
abbrev cX1_wornSet : ByteArray := prog_3_method_5_code
def yX1_wornSet : MethodName := ⟨RX1, "wornSet", "()I"⟩
abbrev cX1_isBetween : ByteArray := prog_3_method_6_code
def yX1_isBetween : MethodName := ⟨RX1, "isBetween", "(I)Z"⟩
abbrev cX1_thickTogether : ByteArray := prog_3_method_7_code
def yX1_thickTogether : MethodName := ⟨RX1, "thickTogether", "()I"⟩
abbrev cX1_amountsTogether : ByteArray := prog_3_method_8_code
def yX1_amountsTogether : MethodName := ⟨RX1, "amountsTogether", "()I"⟩
abbrev cX1_owedTo : ByteArray := prog_3_method_9_code
def yX1_owedTo : MethodName := ⟨RX1, "owedTo", "(I)I"⟩
abbrev cX1_putOn : ByteArray := prog_3_method_10_code
def yX1_putOn : MethodName := ⟨RX1, "putOn", "(IIII)V"⟩
abbrev cX1_takeOff : ByteArray := prog_3_method_11_code
def yX1_takeOff : MethodName := ⟨RX1, "takeOff", "(I)V"⟩
abbrev cX1_payOff : ByteArray := prog_3_method_12_code
def yX1_payOff : MethodName := ⟨RX1, "payOff", "(I)V"⟩
abbrev cX1_swapOutermost : ByteArray := prog_3_method_13_code
def yX1_swapOutermost : MethodName := ⟨RX1, "swapOutermost", "(LDebtCoats$Person;)V"⟩
abbrev cX1_swapItems : ByteArray := prog_3_method_14_code
def yX1_swapItems : MethodName := ⟨RX1, "swapItems", "([II[II)V"⟩
abbrev cX1_passNight : ByteArray := prog_3_method_15_code
def yX1_passNight : MethodName := ⟨RX1, "passNight", "()V"⟩
abbrev cX1_isOverburdened : ByteArray := prog_3_method_16_code
def yX1_isOverburdened : MethodName := ⟨RX1, "isOverburdened", "(I)Z"⟩
abbrev cX1_fall : ByteArray := prog_3_method_17_code
def yX1_fall : MethodName := ⟨RX1, "fall", "(I)V"⟩
def RX2 : String := "DebtCoats$Planner"
def TX2 : u_T := fun k => match k with
  | 0 => ("DebtCoats$Planner", "amountsBehind", "[[I", true)
  | 1 => ("DebtCoats$Planner", "order", "[I", true)
  | 2 => ("DebtCoats$Planner", "bestOrder", "[I", true)
  | 3 => ("DebtCoats$Planner", "who", "LDebtCoats$Person;", false)
  | 4 => ("DebtCoats$Planner", "off", "I", false)
  | 5 => ("DebtCoats$Planner", "bestDays", "I", false)
  | _ => ("DebtCoats$Planner", "bestPaid", "I", false)
def tyX2 : Nat → FieldType := fun k => match k with
  | 0 => .array (.array .int)
  | 1 => .array .int
  | 2 => .array .int
  | 3 => .object "DebtCoats$Person"
  | 4 => .int
  | 5 => .int
  | _ => .int
abbrev wsX20 : List Cond := u_ws RX2 TX2 7
theorem nmX2 : ∀ a, a < 7 → ∀ b, b < 7 → a ≠ b → (TX2 a).2.1 ≠ (TX2 b).2.1 := by decide +kernel
theorem tyX2_ok : ∀ k, k < 7 → parseFieldDescriptor (TX2 k).2.2.1 = some (tyX2 k) := by decide +kernel
abbrev cX2_init : ByteArray := prog_4_method_1_code
def yX2_init : MethodName := ⟨RX2, "<init>", "()V"⟩
abbrev cX2_plan : ByteArray := prog_4_method_2_code
def yX2_plan : MethodName := ⟨RX2, "plan", "(LDebtCoats$Person;I)V"⟩
abbrev cX2_tryEach : ByteArray := prog_4_method_3_code
def yX2_tryEach : MethodName := ⟨RX2, "tryEach", "(IIIII)V"⟩
abbrev cX2_payNext : ByteArray := prog_4_method_4_code
def yX2_payNext : MethodName := ⟨RX2, "payNext", "(IIIII)V"⟩
abbrev cX2_taxesOf : ByteArray := prog_4_method_5_code
def yX2_taxesOf : MethodName := ⟨RX2, "taxesOf", "(I)I"⟩
abbrev cX2_growAmounts : ByteArray := prog_4_method_6_code
def yX2_growAmounts : MethodName := ⟨RX2, "growAmounts", "([II)V"⟩
abbrev cX2_keepIfBetter : ByteArray := prog_4_method_7_code
def yX2_keepIfBetter : MethodName := ⟨RX2, "keepIfBetter", "(III)V"⟩
def RX3 : String := "DebtCoats$Sheet"
def TX3 : u_T := fun k => match k with
  | 0 => ("DebtCoats$Sheet", "items", "[I", true)
  | 1 => ("DebtCoats$Sheet", "isThere", "Z", false)
  | 2 => ("DebtCoats$Sheet", "lane", "I", false)
  | _ => ("DebtCoats$Sheet", "length", "I", false)
def tyX3 : Nat → FieldType := fun k => match k with
  | 0 => .array .int
  | 1 => .boolean
  | 2 => .int
  | _ => .int
abbrev wsX30 : List Cond := u_ws RX3 TX3 4
theorem nmX3 : ∀ a, a < 4 → ∀ b, b < 4 → a ≠ b → (TX3 a).2.1 ≠ (TX3 b).2.1 := by decide +kernel
theorem tyX3_ok : ∀ k, k < 4 → parseFieldDescriptor (TX3 k).2.2.1 = some (tyX3 k) := by decide +kernel
abbrev cX3_init : ByteArray := prog_5_method_1_code
def yX3_init : MethodName := ⟨RX3, "<init>", "()V"⟩
abbrev cX3_begin : ByteArray := prog_5_method_2_code
def yX3_begin : MethodName := ⟨RX3, "begin", "(II)V"⟩
abbrev cX3_narrowed : ByteArray := prog_5_method_3_code
def yX3_narrowed : MethodName := ⟨RX3, "narrowed", "(II)I"⟩
abbrev cX3_hasItems : ByteArray := prog_5_method_4_code
def yX3_hasItems : MethodName := ⟨RX3, "hasItems", "(II)Z"⟩
abbrev cX3_refusal : ByteArray := prog_5_method_5_code
def yX3_refusal : MethodName := ⟨RX3, "refusal", "(III)I"⟩
def RX4 : String := "DebtCoats$Tape"
def TX4 : u_T := fun k => match k with
  | 0 => ("DebtCoats$Tape", "bytes", "[I", true)
  | 1 => ("DebtCoats$Tape", "length", "I", false)
  | _ => ("DebtCoats$Tape", "place", "I", false)
def tyX4 : Nat → FieldType := fun k => match k with
  | 0 => .array .int
  | 1 => .int
  | _ => .int
abbrev wsX40 : List Cond := u_ws RX4 TX4 3
theorem nmX4 : ∀ a, a < 3 → ∀ b, b < 3 → a ≠ b → (TX4 a).2.1 ≠ (TX4 b).2.1 := by decide +kernel
theorem tyX4_ok : ∀ k, k < 3 → parseFieldDescriptor (TX4 k).2.2.1 = some (tyX4 k) := by decide +kernel
abbrev cX4_init : ByteArray := prog_6_method_1_code
def yX4_init : MethodName := ⟨RX4, "<init>", "()V"⟩
abbrev cX4_isPrintable : ByteArray := prog_6_method_2_code
def yX4_isPrintable : MethodName := ⟨RX4, "isPrintable", "(JI)Z"⟩
abbrev cX4_append : ByteArray := prog_6_method_3_code
def yX4_append : MethodName := ⟨RX4, "append", "(JI)V"⟩
abbrev cX4_readCoats : ByteArray := prog_6_method_4_code
def yX4_readCoats : MethodName := ⟨RX4, "readCoats", "(LDebtCoats$Person;)I"⟩
abbrev cX4_readCoat : ByteArray := prog_6_method_5_code
def yX4_readCoat : MethodName := ⟨RX4, "readCoat", "(LDebtCoats$Person;)Z"⟩
abbrev cX4_nextByte : ByteArray := prog_6_method_6_code
def yX4_nextByte : MethodName := ⟨RX4, "nextByte", "()I"⟩
abbrev cX4_skipIf : ByteArray := prog_6_method_7_code
def yX4_skipIf : MethodName := ⟨RX4, "skipIf", "(I)Z"⟩
abbrev cX4_readNumber : ByteArray := prog_6_method_8_code
def yX4_readNumber : MethodName := ⟨RX4, "readNumber", "(II)I"⟩
abbrev cX4_readDigit : ByteArray := prog_6_method_9_code
def yX4_readDigit : MethodName := ⟨RX4, "readDigit", "()I"⟩
def RX5 : String := "DebtCoats$World"
def TX5 : u_T := fun k => match k with
  | 0 => ("DebtCoats$World", "all", "[LDebtCoats$Person;", true)
  | 1 => ("DebtCoats$World", "heats", "[I", true)
  | 2 => ("DebtCoats$World", "wareAmounts", "[I", true)
  | 3 => ("DebtCoats$World", "wareThicks", "[I", true)
  | 4 => ("DebtCoats$World", "people", "I", false)
  | 5 => ("DebtCoats$World", "wares", "I", false)
  | 6 => ("DebtCoats$World", "day", "I", false)
  | 7 => ("DebtCoats$World", "off", "I", false)
  | 8 => ("DebtCoats$World", "cutsAllowed", "I", false)
  | _ => ("DebtCoats$World", "cutsMade", "I", false)
def tyX5 : Nat → FieldType := fun k => match k with
  | 0 => .array (.object "DebtCoats$Person")
  | 1 => .array .int
  | 2 => .array .int
  | 3 => .array .int
  | 4 => .int
  | 5 => .int
  | 6 => .int
  | 7 => .int
  | 8 => .int
  | _ => .int
abbrev wsX50 : List Cond := u_ws RX5 TX5 10
theorem nmX5 : ∀ a, a < 10 → ∀ b, b < 10 → a ≠ b → (TX5 a).2.1 ≠ (TX5 b).2.1 := by decide +kernel
theorem tyX5_ok : ∀ k, k < 10 → parseFieldDescriptor (TX5 k).2.2.1 = some (tyX5 k) := by decide +kernel
abbrev cX5_init : ByteArray := prog_7_method_1_code
def yX5_init : MethodName := ⟨RX5, "<init>", "()V"⟩
abbrev cX5_becomeLike : ByteArray := prog_7_method_2_code
def yX5_becomeLike : MethodName := ⟨RX5, "becomeLike", "(LDebtCoats$World;)V"⟩
abbrev cX5_hasPerson : ByteArray := prog_7_method_3_code
def yX5_hasPerson : MethodName := ⟨RX5, "hasPerson", "(I)Z"⟩
abbrev cX5_hasCoat : ByteArray := prog_7_method_4_code
def yX5_hasCoat : MethodName := ⟨RX5, "hasCoat", "(II)Z"⟩
abbrev cX5_coatsOfAll : ByteArray := prog_7_method_5_code
def yX5_coatsOfAll : MethodName := ⟨RX5, "coatsOfAll", "()I"⟩
abbrev cX5_fallenOnes : ByteArray := prog_7_method_6_code
def yX5_fallenOnes : MethodName := ⟨RX5, "fallenOnes", "()I"⟩
abbrev cX5_heatOn : ByteArray := prog_7_method_7_code
def yX5_heatOn : MethodName := ⟨RX5, "heatOn", "(I)I"⟩
abbrev cX5_passNightsUntil : ByteArray := prog_7_method_8_code
def yX5_passNightsUntil : MethodName := ⟨RX5, "passNightsUntil", "(I)V"⟩
abbrev cX5_passNight : ByteArray := prog_7_method_9_code
def yX5_passNight : MethodName := ⟨RX5, "passNight", "()V"⟩
abbrev cX5_canBePaid : ByteArray := prog_7_method_10_code
def yX5_canBePaid : MethodName := ⟨RX5, "canBePaid", "(III)Z"⟩
abbrev cX5_isSetOfWares : ByteArray := prog_7_method_11_code
def yX5_isSetOfWares : MethodName := ⟨RX5, "isSetOfWares", "(III)Z"⟩
def RX6 : String := "DebtCoats"
def TX6 : u_T := fun k => match k with
  | 0 => ("DebtCoats", "world", "LDebtCoats$World;", true)
  | 1 => ("DebtCoats", "kept", "LDebtCoats$World;", true)
  | 2 => ("DebtCoats", "trial", "LDebtCoats$World;", true)
  | 3 => ("DebtCoats", "spare", "LDebtCoats$Person;", true)
  | 4 => ("DebtCoats", "planner", "LDebtCoats$Planner;", true)
  | 5 => ("DebtCoats", "bestRing", "LDebtCoats$BestRing;", true)
  | 6 => ("DebtCoats", "tape", "LDebtCoats$Tape;", true)
  | 7 => ("DebtCoats", "sheets", "[LDebtCoats$Sheet;", true)
  | _ => ("DebtCoats", "isKept", "Z", false)
def tyX6 : Nat → FieldType := fun k => match k with
  | 0 => .object "DebtCoats$World"
  | 1 => .object "DebtCoats$World"
  | 2 => .object "DebtCoats$World"
  | 3 => .object "DebtCoats$Person"
  | 4 => .object "DebtCoats$Planner"
  | 5 => .object "DebtCoats$BestRing"
  | 6 => .object "DebtCoats$Tape"
  | 7 => .array (.object "DebtCoats$Sheet")
  | _ => .boolean
abbrev wsX60 : List Cond := u_ws RX6 TX6 9
theorem nmX6 : ∀ a, a < 9 → ∀ b, b < 9 → a ≠ b → (TX6 a).2.1 ≠ (TX6 b).2.1 := by decide +kernel
theorem tyX6_ok : ∀ k, k < 9 → parseFieldDescriptor (TX6 k).2.2.1 = some (tyX6 k) := by decide +kernel
abbrev cX6_init : ByteArray := prog_1_method_1_code
def yX6_init : MethodName := ⟨RX6, "<init>", "()V"⟩
abbrev cX6_person : ByteArray := prog_1_method_2_code
def yX6_person : MethodName := ⟨RX6, "person", "(III)I"⟩
abbrev cX6_of : ByteArray := prog_1_method_3_code
def yX6_of : MethodName := ⟨RX6, "of", "(II)I"⟩
abbrev cX6_coat : ByteArray := prog_1_method_4_code
def yX6_coat : MethodName := ⟨RX6, "coat", "(III)I"⟩
abbrev cX6_tax : ByteArray := prog_1_method_5_code
def yX6_tax : MethodName := ⟨RX6, "tax", "(III)I"⟩
abbrev cX6_heat : ByteArray := prog_1_method_6_code
def yX6_heat : MethodName := ⟨RX6, "heat", "(II)I"⟩
abbrev cX6_rule : ByteArray := prog_1_method_7_code
def yX6_rule : MethodName := ⟨RX6, "rule", "(II)I"⟩
abbrev cX6_type : ByteArray := prog_1_method_8_code
def yX6_type : MethodName := ⟨RX6, "type", "(JI)I"⟩
abbrev cX6_coats : ByteArray := prog_1_method_9_code
def yX6_coats : MethodName := ⟨RX6, "coats", "(I)I"⟩
abbrev cX6_count : ByteArray := prog_1_method_10_code
def yX6_count : MethodName := ⟨RX6, "count", "(I)I"⟩
abbrev cX6_take : ByteArray := prog_1_method_11_code
def yX6_take : MethodName := ⟨RX6, "take", "(IIIII)I"⟩
abbrev cX6_pay : ByteArray := prog_1_method_12_code
def yX6_pay : MethodName := ⟨RX6, "pay", "(II)I"⟩
abbrev cX6_nights : ByteArray := prog_1_method_13_code
def yX6_nights : MethodName := ⟨RX6, "nights", "(I)I"⟩
abbrev cX6_cut : ByteArray := prog_1_method_14_code
def yX6_cut : MethodName := ⟨RX6, "cut", "(II)I"⟩
abbrev cX6_ring : ByteArray := prog_1_method_15_code
def yX6_ring : MethodName := ⟨RX6, "ring", "(III)I"⟩
abbrev cX6_rings : ByteArray := prog_1_method_16_code
def yX6_rings : MethodName := ⟨RX6, "rings", "(I)I"⟩
abbrev cX6_owed : ByteArray := prog_1_method_17_code
def yX6_owed : MethodName := ⟨RX6, "owed", "(I)I"⟩
abbrev cX6_free : ByteArray := prog_1_method_18_code
def yX6_free : MethodName := ⟨RX6, "free", "(II)I"⟩
abbrev cX6_saves : ByteArray := prog_1_method_19_code
def yX6_saves : MethodName := ⟨RX6, "saves", "(II)I"⟩
abbrev cX6_bears : ByteArray := prog_1_method_20_code
def yX6_bears : MethodName := ⟨RX6, "bears", "(I)I"⟩
abbrev cX6_ware : ByteArray := prog_1_method_21_code
def yX6_ware : MethodName := ⟨RX6, "ware", "(II)I"⟩
abbrev cX6_under : ByteArray := prog_1_method_22_code
def yX6_under : MethodName := ⟨RX6, "under", "(IIII)I"⟩
abbrev cX6_image : ByteArray := prog_1_method_23_code
def yX6_image : MethodName := ⟨RX6, "image", "()I"⟩
abbrev cX6_restore : ByteArray := prog_1_method_24_code
def yX6_restore : MethodName := ⟨RX6, "restore", "()I"⟩
abbrev cX6_judged : ByteArray := prog_1_method_25_code
def yX6_judged : MethodName := ⟨RX6, "judged", "(IIII)I"⟩
abbrev cX6_sheet : ByteArray := prog_1_method_26_code
def yX6_sheet : MethodName := ⟨RX6, "sheet", "(III)I"⟩
abbrev cX6_drop : ByteArray := prog_1_method_27_code
def yX6_drop : MethodName := ⟨RX6, "drop", "(I)I"⟩
abbrev cX6_item : ByteArray := prog_1_method_28_code
def yX6_item : MethodName := ⟨RX6, "item", "(IIII)I"⟩
abbrev cX6_copy : ByteArray := prog_1_method_29_code
def yX6_copy : MethodName := ⟨RX6, "copy", "(IIIII)I"⟩
abbrev cX6_isWithin : ByteArray := prog_1_method_30_code
def yX6_isWithin : MethodName := ⟨RX6, "isWithin", "(III)Z"⟩
abbrev cX6_isLender : ByteArray := prog_1_method_31_code
def yX6_isLender : MethodName := ⟨RX6, "isLender", "(I)Z"⟩
abbrev cX6_isSheet : ByteArray := prog_1_method_32_code
def yX6_isSheet : MethodName := ⟨RX6, "isSheet", "(I)Z"⟩
abbrev cX6_isLane : ByteArray := prog_1_method_33_code
def yX6_isLane : MethodName := ⟨RX6, "isLane", "(I)Z"⟩
abbrev cX6_isIn : ByteArray := prog_1_method_34_code
def yX6_isIn : MethodName := ⟨RX6, "isIn", "(II)Z"⟩
abbrev cX6_mayComeOff : ByteArray := prog_1_method_35_code
def yX6_mayComeOff : MethodName := ⟨RX6, "mayComeOff", "(III)Z"⟩
abbrev cX6_amountNextDay : ByteArray := prog_1_method_36_code
def yX6_amountNextDay : MethodName := ⟨RX6, "amountNextDay", "(II)I"⟩
abbrev cX6_purseNextDay : ByteArray := prog_1_method_37_code
def yX6_purseNextDay : MethodName := ⟨RX6, "purseNextDay", "(III)I"⟩
def RX7 : String := "DebtCoatsModel"
def TX7 : u_T := fun k => match k with
  | 0 => ("DebtCoatsModel", "people", "I", false)
  | 1 => ("DebtCoatsModel", "now", "[I", true)
  | 2 => ("DebtCoatsModel", "tried", "[I", true)
  | 3 => ("DebtCoatsModel", "state", "[I", false)
  | 4 => ("DebtCoatsModel", "taxes", "[I", true)
  | 5 => ("DebtCoatsModel", "heats", "[I", true)
  | 6 => ("DebtCoatsModel", "laws", "[I", true)
  | 7 => ("DebtCoatsModel", "day", "I", false)
  | 8 => ("DebtCoatsModel", "cuts", "I", false)
  | 9 => ("DebtCoatsModel", "wares", "I", false)
  | 10 => ("DebtCoatsModel", "wareAmount", "[I", true)
  | 11 => ("DebtCoatsModel", "wareThick", "[I", true)
  | 12 => ("DebtCoatsModel", "tape", "[I", true)
  | 13 => ("DebtCoatsModel", "taped", "I", false)
  | 14 => ("DebtCoatsModel", "at", "I", false)
  | 15 => ("DebtCoatsModel", "wrong", "Z", false)
  | 16 => ("DebtCoatsModel", "read", "[I", true)
  | 17 => ("DebtCoatsModel", "order", "[I", true)
  | 18 => ("DebtCoatsModel", "bestOrder", "[I", true)
  | 19 => ("DebtCoatsModel", "paid", "I", false)
  | 20 => ("DebtCoatsModel", "bestPaid", "I", false)
  | 21 => ("DebtCoatsModel", "start", "[I", true)
  | 22 => ("DebtCoatsModel", "image", "[I", true)
  | 23 => ("DebtCoatsModel", "isImage", "Z", false)
  | 24 => ("DebtCoatsModel", "lanes", "[I", true)
  | 25 => ("DebtCoatsModel", "sizes", "[I", true)
  | 26 => ("DebtCoatsModel", "items", "[I", true)
  | _ => ("DebtCoatsModel", "moved", "[I", true)
def tyX7 : Nat → FieldType := fun k => match k with
  | 0 => .int
  | 1 => .array .int
  | 2 => .array .int
  | 3 => .array .int
  | 4 => .array .int
  | 5 => .array .int
  | 6 => .array .int
  | 7 => .int
  | 8 => .int
  | 9 => .int
  | 10 => .array .int
  | 11 => .array .int
  | 12 => .array .int
  | 13 => .int
  | 14 => .int
  | 15 => .boolean
  | 16 => .array .int
  | 17 => .array .int
  | 18 => .array .int
  | 19 => .int
  | 20 => .int
  | 21 => .array .int
  | 22 => .array .int
  | 23 => .boolean
  | 24 => .array .int
  | 25 => .array .int
  | 26 => .array .int
  | _ => .array .int
abbrev wsX70 : List Cond := u_ws RX7 TX7 28
theorem nmX7 : ∀ a, a < 28 → ∀ b, b < 28 → a ≠ b → (TX7 a).2.1 ≠ (TX7 b).2.1 := by decide +kernel
theorem tyX7_ok : ∀ k, k < 28 → parseFieldDescriptor (TX7 k).2.2.1 = some (tyX7 k) := by decide +kernel
abbrev cX7_in : ByteArray := prog_9_method_2_code
def yX7_in : MethodName := ⟨RX7, "in", "(JJJ)Z"⟩
abbrev cX7_init : ByteArray := prog_9_method_3_code
def yX7_init : MethodName := ⟨RX7, "<init>", "()V"⟩
abbrev cX7_isOne : ByteArray := prog_9_method_4_code
def yX7_isOne : MethodName := ⟨RX7, "isOne", "(I)Z"⟩
abbrev cX7_isLender : ByteArray := prog_9_method_5_code
def yX7_isLender : MethodName := ⟨RX7, "isLender", "(I)Z"⟩
abbrev cX7_person : ByteArray := prog_9_method_6_code
def yX7_person : MethodName := ⟨RX7, "person", "(III)I"⟩
abbrev cX7_thickOf : ByteArray := prog_9_method_7_code
def yX7_thickOf : MethodName := ⟨RX7, "thickOf", "(I)I"⟩
abbrev cX7_of : ByteArray := prog_9_method_8_code
def yX7_of : MethodName := ⟨RX7, "of", "(II)I"⟩
abbrev cX7_isCoat : ByteArray := prog_9_method_9_code
def yX7_isCoat : MethodName := ⟨RX7, "isCoat", "(II)Z"⟩
abbrev cX7_coat : ByteArray := prog_9_method_10_code
def yX7_coat : MethodName := ⟨RX7, "coat", "(III)I"⟩
abbrev cX7_tax : ByteArray := prog_9_method_11_code
def yX7_tax : MethodName := ⟨RX7, "tax", "(III)I"⟩
abbrev cX7_heat : ByteArray := prog_9_method_12_code
def yX7_heat : MethodName := ⟨RX7, "heat", "(II)I"⟩
abbrev cX7_rule : ByteArray := prog_9_method_13_code
def yX7_rule : MethodName := ⟨RX7, "rule", "(II)I"⟩
abbrev cX7_type : ByteArray := prog_9_method_14_code
def yX7_type : MethodName := ⟨RX7, "type", "(JI)I"⟩
abbrev cX7_here : ByteArray := prog_9_method_15_code
def yX7_here : MethodName := ⟨RX7, "here", "()I"⟩
abbrev cX7_has : ByteArray := prog_9_method_16_code
def yX7_has : MethodName := ⟨RX7, "has", "(I)Z"⟩
abbrev cX7_byteOf : ByteArray := prog_9_method_17_code
def yX7_byteOf : MethodName := ⟨RX7, "byteOf", "(II)I"⟩
abbrev cX7_number : ByteArray := prog_9_method_18_code
def yX7_number : MethodName := ⟨RX7, "number", "(II)I"⟩
abbrev cX7_coats : ByteArray := prog_9_method_19_code
def yX7_coats : MethodName := ⟨RX7, "coats", "(I)I"⟩
abbrev cX7_count : ByteArray := prog_9_method_20_code
def yX7_count : MethodName := ⟨RX7, "count", "(I)I"⟩
abbrev cX7_most : ByteArray := prog_9_method_21_code
def yX7_most : MethodName := ⟨RX7, "most", "(I)I"⟩
abbrev cX7_rests : ByteArray := prog_9_method_22_code
def yX7_rests : MethodName := ⟨RX7, "rests", "(I)V"⟩
abbrev cX7_isTooHot : ByteArray := prog_9_method_23_code
def yX7_isTooHot : MethodName := ⟨RX7, "isTooHot", "(II)Z"⟩
abbrev cX7_sleeps : ByteArray := prog_9_method_24_code
def yX7_sleeps : MethodName := ⟨RX7, "sleeps", "(I)V"⟩
abbrev cX7_nights : ByteArray := prog_9_method_25_code
def yX7_nights : MethodName := ⟨RX7, "nights", "(I)I"⟩
abbrev cX7_take : ByteArray := prog_9_method_26_code
def yX7_take : MethodName := ⟨RX7, "take", "(IIIII)I"⟩
abbrev cX7_mayOff : ByteArray := prog_9_method_27_code
def yX7_mayOff : MethodName := ⟨RX7, "mayOff", "(II)Z"⟩
abbrev cX7_off : ByteArray := prog_9_method_28_code
def yX7_off : MethodName := ⟨RX7, "off", "(II)V"⟩
abbrev cX7_pay : ByteArray := prog_9_method_29_code
def yX7_pay : MethodName := ⟨RX7, "pay", "(II)I"⟩
abbrev cX7_isBetween : ByteArray := prog_9_method_30_code
def yX7_isBetween : MethodName := ⟨RX7, "isBetween", "(II)Z"⟩
abbrev cX7_cut : ByteArray := prog_9_method_31_code
def yX7_cut : MethodName := ⟨RX7, "cut", "(II)I"⟩
abbrev cX7_outer : ByteArray := prog_9_method_32_code
def yX7_outer : MethodName := ⟨RX7, "outer", "(I)I"⟩
abbrev cX7_gains : ByteArray := prog_9_method_33_code
def yX7_gains : MethodName := ⟨RX7, "gains", "(II)I"⟩
abbrev cX7_saved : ByteArray := prog_9_method_34_code
def yX7_saved : MethodName := ⟨RX7, "saved", "(III)I"⟩
abbrev cX7_ring : ByteArray := prog_9_method_35_code
def yX7_ring : MethodName := ⟨RX7, "ring", "(III)I"⟩
abbrev cX7_rings : ByteArray := prog_9_method_36_code
def yX7_rings : MethodName := ⟨RX7, "rings", "(I)I"⟩
abbrev cX7_owed : ByteArray := prog_9_method_37_code
def yX7_owed : MethodName := ⟨RX7, "owed", "(I)I"⟩
abbrev cX7_turns : ByteArray := prog_9_method_38_code
def yX7_turns : MethodName := ⟨RX7, "turns", "(I)Z"⟩
abbrev cX7_freeBy : ByteArray := prog_9_method_39_code
def yX7_freeBy : MethodName := ⟨RX7, "freeBy", "(II)I"⟩
abbrev cX7_starts : ByteArray := prog_9_method_40_code
def yX7_starts : MethodName := ⟨RX7, "starts", "(I)V"⟩
abbrev cX7_isLawful : ByteArray := prog_9_method_41_code
def yX7_isLawful : MethodName := ⟨RX7, "isLawful", "(I)Z"⟩
abbrev cX7_bestFree : ByteArray := prog_9_method_42_code
def yX7_bestFree : MethodName := ⟨RX7, "bestFree", "(I)I"⟩
abbrev cX7_free : ByteArray := prog_9_method_43_code
def yX7_free : MethodName := ⟨RX7, "free", "(II)I"⟩
abbrev cX7_saves : ByteArray := prog_9_method_44_code
def yX7_saves : MethodName := ⟨RX7, "saves", "(II)I"⟩
abbrev cX7_bears : ByteArray := prog_9_method_45_code
def yX7_bears : MethodName := ⟨RX7, "bears", "(I)I"⟩
abbrev cX7_ware : ByteArray := prog_9_method_46_code
def yX7_ware : MethodName := ⟨RX7, "ware", "(II)I"⟩
abbrev cX7_under : ByteArray := prog_9_method_47_code
def yX7_under : MethodName := ⟨RX7, "under", "(IIII)I"⟩
abbrev cX7_lay : ByteArray := prog_9_method_48_code
def yX7_lay : MethodName := ⟨RX7, "lay", "([II)I"⟩
abbrev cX7_gives : ByteArray := prog_9_method_49_code
def yX7_gives : MethodName := ⟨RX7, "gives", "(I[I)I"⟩
abbrev cX7_image : ByteArray := prog_9_method_50_code
def yX7_image : MethodName := ⟨RX7, "image", "()I"⟩
abbrev cX7_restore : ByteArray := prog_9_method_51_code
def yX7_restore : MethodName := ⟨RX7, "restore", "()I"⟩
abbrev cX7_isSheet : ByteArray := prog_9_method_52_code
def yX7_isSheet : MethodName := ⟨RX7, "isSheet", "(I)Z"⟩
abbrev cX7_isLane : ByteArray := prog_9_method_53_code
def yX7_isLane : MethodName := ⟨RX7, "isLane", "(I)Z"⟩
abbrev cX7_finds : ByteArray := prog_9_method_54_code
def yX7_finds : MethodName := ⟨RX7, "finds", "(IIII)I"⟩
abbrev cX7_judged : ByteArray := prog_9_method_55_code
def yX7_judged : MethodName := ⟨RX7, "judged", "(IIII)I"⟩
abbrev cX7_sheet : ByteArray := prog_9_method_56_code
def yX7_sheet : MethodName := ⟨RX7, "sheet", "(III)I"⟩
abbrev cX7_drop : ByteArray := prog_9_method_57_code
def yX7_drop : MethodName := ⟨RX7, "drop", "(I)I"⟩
abbrev cX7_item : ByteArray := prog_9_method_58_code
def yX7_item : MethodName := ⟨RX7, "item", "(IIII)I"⟩
abbrev cX7_copy : ByteArray := prog_9_method_59_code
def yX7_copy : MethodName := ⟨RX7, "copy", "(IIIII)I"⟩
def RJ9 : String := "java/lang/Math"
def TJ9 : u_T := fun k => match k with
  | _ => ("", "", "", false)
def tyJ9 : Nat → FieldType := fun k => match k with
  | _ => .int
abbrev wsJ90 : List Cond := u_ws RJ9 TJ9 0
theorem nmJ9 : ∀ a, a < 0 → ∀ b, b < 0 → a ≠ b → (TJ9 a).2.1 ≠ (TJ9 b).2.1 := by decide +kernel
theorem tyJ9_ok : ∀ k, k < 0 → parseFieldDescriptor (TJ9 k).2.2.1 = some (tyJ9 k) := by decide +kernel
abbrev cJ9_max_7cf53 : ByteArray := prog_10_method_65_code
def yJ9_max_7cf53 : MethodName := ⟨RJ9, "max", "(II)I"⟩
abbrev cJ9_min_7cf53 : ByteArray := prog_10_method_69_code
def yJ9_min_7cf53 : MethodName := ⟨RJ9, "min", "(II)I"⟩
def RJ10 : String := "java/lang/System"
def TJ10 : u_T := fun k => match k with
  | _ => ("", "", "", false)
def tyJ10 : Nat → FieldType := fun k => match k with
  | _ => .int
abbrev wsJ100 : List Cond := u_ws RJ10 TJ10 0
theorem nmJ10 : ∀ a, a < 0 → ∀ b, b < 0 → a ≠ b → (TJ10 a).2.1 ≠ (TJ10 b).2.1 := by decide +kernel
theorem tyJ10_ok : ∀ k, k < 0 → parseFieldDescriptor (TJ10 k).2.2.1 = some (tyJ10 k) := by decide +kernel
def RJ7 : String := "java/util/Arrays"
def TJ7 : u_T := fun k => match k with
  | _ => ("", "", "", false)
def tyJ7 : Nat → FieldType := fun k => match k with
  | _ => .int
abbrev wsJ70 : List Cond := u_ws RJ7 TJ7 0
theorem nmJ7 : ∀ a, a < 0 → ∀ b, b < 0 → a ≠ b → (TJ7 a).2.1 ≠ (TJ7 b).2.1 := by decide +kernel
theorem tyJ7_ok : ∀ k, k < 0 → parseFieldDescriptor (TJ7 k).2.2.1 = some (tyJ7 k) := by decide +kernel
abbrev cJ7_fill_53178 : ByteArray := prog_12_method_103_code
def yJ7_fill_53178 : MethodName := ⟨RJ7, "fill", "([II)V"⟩
def RL : String := "DebtCoatsLaw"
abbrev cL_law : ByteArray := code
def yL_law : MethodName := ⟨RL, "law", "([I)Z"⟩
abbrev vwCl : List vw_C := [(RX0, TX0, 3), (RX1, TX1, 10), (RX2, TX2, 7), (RX3, TX3, 4), (RX4, TX4, 3), (RX5, TX5, 10), (RX6, TX6, 9), (RX7, TX7, 28)]
end
section
theorem dX0_init_0 : decode cX0_init 0 = .ok (.aload_n 0, 1) := by decide +kernel
theorem dX0_init_1 : decode cX0_init 1 = .ok (.invokespecial 1, 3) := by decide +kernel
theorem dX0_init_4 : decode cX0_init 4 = .ok (.aload_n 0, 1) := by decide +kernel
theorem dX0_init_5 : decode cX0_init 5 = .ok (.iconst 3, 1) := by decide +kernel
theorem dX0_init_6 : decode cX0_init 6 = .ok (.newarray .int, 2) := by decide +kernel
theorem dX0_init_8 : decode cX0_init 8 = .ok (.putfield 7, 3) := by decide +kernel
theorem dX0_init_11 : decode cX0_init 11 = .ok (.return_, 1) := by decide +kernel
theorem dX0_find_0 : decode cX0_find 0 = .ok (.aload_n 0, 1) := by decide +kernel
theorem dX0_find_1 : decode cX0_find 1 = .ok (.iconst 0, 1) := by decide +kernel
theorem dX0_find_2 : decode cX0_find 2 = .ok (.putfield 13, 3) := by decide +kernel
theorem dX0_find_5 : decode cX0_find 5 = .ok (.aload_n 0, 1) := by decide +kernel
theorem dX0_find_6 : decode cX0_find 6 = .ok (.iconst 0, 1) := by decide +kernel
theorem dX0_find_7 : decode cX0_find 7 = .ok (.putfield 17, 3) := by decide +kernel
theorem dX0_find_10 : decode cX0_find 10 = .ok (.iconst 0, 1) := by decide +kernel
theorem dX0_find_11 : decode cX0_find 11 = .ok (.istore_n 2, 1) := by decide +kernel
theorem dX0_find_12 : decode cX0_find 12 = .ok (.iload_n 2, 1) := by decide +kernel
theorem dX0_find_13 : decode cX0_find 13 = .ok (.aload_n 1, 1) := by decide +kernel
theorem dX0_find_14 : decode cX0_find 14 = .ok (.getfield 20, 3) := by decide +kernel
theorem dX0_find_17 : decode cX0_find 17 = .ok (.if_icmp .ge 51, 3) := by decide +kernel
theorem dX0_find_20 : decode cX0_find 20 = .ok (.iload_n 2, 1) := by decide +kernel
theorem dX0_find_21 : decode cX0_find 21 = .ok (.iconst 1, 1) := by decide +kernel
theorem dX0_find_22 : decode cX0_find 22 = .ok (.iadd, 1) := by decide +kernel
theorem dX0_find_23 : decode cX0_find 23 = .ok (.istore_n 3, 1) := by decide +kernel
theorem dX0_find_24 : decode cX0_find 24 = .ok (.iload_n 3, 1) := by decide +kernel
theorem dX0_find_25 : decode cX0_find 25 = .ok (.aload_n 1, 1) := by decide +kernel
theorem dX0_find_26 : decode cX0_find 26 = .ok (.getfield 20, 3) := by decide +kernel
theorem dX0_find_29 : decode cX0_find 29 = .ok (.if_icmp .ge 33, 3) := by decide +kernel
theorem dX0_find_32 : decode cX0_find 32 = .ok (.aload_n 0, 1) := by decide +kernel
theorem dX0_find_33 : decode cX0_find 33 = .ok (.aload_n 1, 1) := by decide +kernel
theorem dX0_find_34 : decode cX0_find 34 = .ok (.getfield 25, 3) := by decide +kernel
theorem dX0_find_37 : decode cX0_find 37 = .ok (.iload_n 2, 1) := by decide +kernel
theorem dX0_find_38 : decode cX0_find 38 = .ok (.aaload, 1) := by decide +kernel
theorem dX0_find_39 : decode cX0_find 39 = .ok (.aload_n 1, 1) := by decide +kernel
theorem dX0_find_40 : decode cX0_find 40 = .ok (.getfield 25, 3) := by decide +kernel
theorem dX0_find_43 : decode cX0_find 43 = .ok (.iload_n 3, 1) := by decide +kernel
theorem dX0_find_44 : decode cX0_find 44 = .ok (.aaload, 1) := by decide +kernel
theorem dX0_find_45 : decode cX0_find 45 = .ok (.aconst_null, 1) := by decide +kernel
theorem dX0_find_46 : decode cX0_find 46 = .ok (.invokestatic 29, 3) := by decide +kernel
theorem dX0_find_49 : decode cX0_find 49 = .ok (.iconst 2, 1) := by decide +kernel
theorem dX0_find_50 : decode cX0_find 50 = .ok (.iload_n 2, 1) := by decide +kernel
theorem dX0_find_51 : decode cX0_find 51 = .ok (.iload_n 3, 1) := by decide +kernel
theorem dX0_find_52 : decode cX0_find 52 = .ok (.iconst (-1), 1) := by decide +kernel
theorem dX0_find_53 : decode cX0_find 53 = .ok (.invokevirtual 33, 3) := by decide +kernel
theorem dX0_find_56 : decode cX0_find 56 = .ok (.iinc 3 1, 3) := by decide +kernel
theorem dX0_find_59 : decode cX0_find 59 = .ok (.goto (-35), 3) := by decide +kernel
theorem dX0_find_62 : decode cX0_find 62 = .ok (.iinc 2 1, 3) := by decide +kernel
theorem dX0_find_65 : decode cX0_find 65 = .ok (.goto (-53), 3) := by decide +kernel
theorem dX0_find_68 : decode cX0_find 68 = .ok (.iconst 0, 1) := by decide +kernel
theorem dX0_find_69 : decode cX0_find 69 = .ok (.istore_n 2, 1) := by decide +kernel
theorem dX0_find_70 : decode cX0_find 70 = .ok (.iload_n 2, 1) := by decide +kernel
theorem dX0_find_71 : decode cX0_find 71 = .ok (.aload_n 1, 1) := by decide +kernel
theorem dX0_find_72 : decode cX0_find 72 = .ok (.getfield 20, 3) := by decide +kernel
theorem dX0_find_75 : decode cX0_find 75 = .ok (.if_icmp .ge 34, 3) := by decide +kernel
theorem dX0_find_78 : decode cX0_find 78 = .ok (.iload_n 2, 1) := by decide +kernel
theorem dX0_find_79 : decode cX0_find 79 = .ok (.iconst 1, 1) := by decide +kernel
theorem dX0_find_80 : decode cX0_find 80 = .ok (.iadd, 1) := by decide +kernel
theorem dX0_find_81 : decode cX0_find 81 = .ok (.istore_n 3, 1) := by decide +kernel
theorem dX0_find_82 : decode cX0_find 82 = .ok (.iload_n 3, 1) := by decide +kernel
theorem dX0_find_83 : decode cX0_find 83 = .ok (.aload_n 1, 1) := by decide +kernel
theorem dX0_find_84 : decode cX0_find 84 = .ok (.getfield 20, 3) := by decide +kernel
theorem dX0_find_87 : decode cX0_find 87 = .ok (.if_icmp .ge 16, 3) := by decide +kernel
theorem dX0_find_90 : decode cX0_find 90 = .ok (.aload_n 0, 1) := by decide +kernel
theorem dX0_find_91 : decode cX0_find 91 = .ok (.aload_n 1, 1) := by decide +kernel
theorem dX0_find_92 : decode cX0_find 92 = .ok (.iload_n 2, 1) := by decide +kernel
theorem dX0_find_93 : decode cX0_find 93 = .ok (.iload_n 3, 1) := by decide +kernel
theorem dX0_find_94 : decode cX0_find 94 = .ok (.invokevirtual 37, 3) := by decide +kernel
theorem dX0_find_97 : decode cX0_find 97 = .ok (.iinc 3 1, 3) := by decide +kernel
theorem dX0_find_100 : decode cX0_find 100 = .ok (.goto (-18), 3) := by decide +kernel
theorem dX0_find_103 : decode cX0_find 103 = .ok (.iinc 2 1, 3) := by decide +kernel
theorem dX0_find_106 : decode cX0_find 106 = .ok (.goto (-36), 3) := by decide +kernel
theorem dX0_find_109 : decode cX0_find 109 = .ok (.return_, 1) := by decide +kernel
theorem dX0_findThirds_0 : decode cX0_findThirds 0 = .ok (.iload_n 2, 1) := by decide +kernel
theorem dX0_findThirds_1 : decode cX0_findThirds 1 = .ok (.iconst 1, 1) := by decide +kernel
theorem dX0_findThirds_2 : decode cX0_findThirds 2 = .ok (.iadd, 1) := by decide +kernel
theorem dX0_findThirds_3 : decode cX0_findThirds 3 = .ok (.istore 4, 2) := by decide +kernel
theorem dX0_findThirds_5 : decode cX0_findThirds 5 = .ok (.iload 4, 2) := by decide +kernel
theorem dX0_findThirds_7 : decode cX0_findThirds 7 = .ok (.aload_n 1, 1) := by decide +kernel
theorem dX0_findThirds_8 : decode cX0_findThirds 8 = .ok (.getfield 20, 3) := by decide +kernel
theorem dX0_findThirds_11 : decode cX0_findThirds 11 = .ok (.if_icmp .ge 46, 3) := by decide +kernel
theorem dX0_findThirds_14 : decode cX0_findThirds 14 = .ok (.iload 4, 2) := by decide +kernel
theorem dX0_findThirds_16 : decode cX0_findThirds 16 = .ok (.iload_n 3, 1) := by decide +kernel
theorem dX0_findThirds_17 : decode cX0_findThirds 17 = .ok (.if_icmp .eq 34, 3) := by decide +kernel
theorem dX0_findThirds_20 : decode cX0_findThirds 20 = .ok (.aload_n 0, 1) := by decide +kernel
theorem dX0_findThirds_21 : decode cX0_findThirds 21 = .ok (.aload_n 1, 1) := by decide +kernel
theorem dX0_findThirds_22 : decode cX0_findThirds 22 = .ok (.getfield 25, 3) := by decide +kernel
theorem dX0_findThirds_25 : decode cX0_findThirds 25 = .ok (.iload_n 2, 1) := by decide +kernel
theorem dX0_findThirds_26 : decode cX0_findThirds 26 = .ok (.aaload, 1) := by decide +kernel
theorem dX0_findThirds_27 : decode cX0_findThirds 27 = .ok (.aload_n 1, 1) := by decide +kernel
theorem dX0_findThirds_28 : decode cX0_findThirds 28 = .ok (.getfield 25, 3) := by decide +kernel
theorem dX0_findThirds_31 : decode cX0_findThirds 31 = .ok (.iload_n 3, 1) := by decide +kernel
theorem dX0_findThirds_32 : decode cX0_findThirds 32 = .ok (.aaload, 1) := by decide +kernel
theorem dX0_findThirds_33 : decode cX0_findThirds 33 = .ok (.aload_n 1, 1) := by decide +kernel
theorem dX0_findThirds_34 : decode cX0_findThirds 34 = .ok (.getfield 25, 3) := by decide +kernel
theorem dX0_findThirds_37 : decode cX0_findThirds 37 = .ok (.iload 4, 2) := by decide +kernel
theorem dX0_findThirds_39 : decode cX0_findThirds 39 = .ok (.aaload, 1) := by decide +kernel
theorem dX0_findThirds_40 : decode cX0_findThirds 40 = .ok (.invokestatic 29, 3) := by decide +kernel
theorem dX0_findThirds_43 : decode cX0_findThirds 43 = .ok (.iconst 3, 1) := by decide +kernel
theorem dX0_findThirds_44 : decode cX0_findThirds 44 = .ok (.iload_n 2, 1) := by decide +kernel
theorem dX0_findThirds_45 : decode cX0_findThirds 45 = .ok (.iload_n 3, 1) := by decide +kernel
theorem dX0_findThirds_46 : decode cX0_findThirds 46 = .ok (.iload 4, 2) := by decide +kernel
theorem dX0_findThirds_48 : decode cX0_findThirds 48 = .ok (.invokevirtual 33, 3) := by decide +kernel
theorem dX0_findThirds_51 : decode cX0_findThirds 51 = .ok (.iinc 4 1, 3) := by decide +kernel
theorem dX0_findThirds_54 : decode cX0_findThirds 54 = .ok (.goto (-49), 3) := by decide +kernel
theorem dX0_findThirds_57 : decode cX0_findThirds 57 = .ok (.return_, 1) := by decide +kernel
theorem dX0_keepIfBetter_0 : decode cX0_keepIfBetter 0 = .ok (.iload_n 1, 1) := by decide +kernel
theorem dX0_keepIfBetter_1 : decode cX0_keepIfBetter 1 = .ok (.aload_n 0, 1) := by decide +kernel
theorem dX0_keepIfBetter_2 : decode cX0_keepIfBetter 2 = .ok (.getfield 17, 3) := by decide +kernel
theorem dX0_keepIfBetter_5 : decode cX0_keepIfBetter 5 = .ok (.if_icmp .le 36, 3) := by decide +kernel
theorem dX0_keepIfBetter_8 : decode cX0_keepIfBetter 8 = .ok (.aload_n 0, 1) := by decide +kernel
theorem dX0_keepIfBetter_9 : decode cX0_keepIfBetter 9 = .ok (.iload_n 1, 1) := by decide +kernel
theorem dX0_keepIfBetter_10 : decode cX0_keepIfBetter 10 = .ok (.putfield 17, 3) := by decide +kernel
theorem dX0_keepIfBetter_13 : decode cX0_keepIfBetter 13 = .ok (.aload_n 0, 1) := by decide +kernel
theorem dX0_keepIfBetter_14 : decode cX0_keepIfBetter 14 = .ok (.iload_n 2, 1) := by decide +kernel
theorem dX0_keepIfBetter_15 : decode cX0_keepIfBetter 15 = .ok (.putfield 13, 3) := by decide +kernel
theorem dX0_keepIfBetter_18 : decode cX0_keepIfBetter 18 = .ok (.aload_n 0, 1) := by decide +kernel
theorem dX0_keepIfBetter_19 : decode cX0_keepIfBetter 19 = .ok (.getfield 7, 3) := by decide +kernel
theorem dX0_keepIfBetter_22 : decode cX0_keepIfBetter 22 = .ok (.iconst 0, 1) := by decide +kernel
theorem dX0_keepIfBetter_23 : decode cX0_keepIfBetter 23 = .ok (.iload_n 3, 1) := by decide +kernel
theorem dX0_keepIfBetter_24 : decode cX0_keepIfBetter 24 = .ok (.iastore, 1) := by decide +kernel
theorem dX0_keepIfBetter_25 : decode cX0_keepIfBetter 25 = .ok (.aload_n 0, 1) := by decide +kernel
theorem dX0_keepIfBetter_26 : decode cX0_keepIfBetter 26 = .ok (.getfield 7, 3) := by decide +kernel
theorem dX0_keepIfBetter_29 : decode cX0_keepIfBetter 29 = .ok (.iconst 1, 1) := by decide +kernel
theorem dX0_keepIfBetter_30 : decode cX0_keepIfBetter 30 = .ok (.iload 4, 2) := by decide +kernel
theorem dX0_keepIfBetter_32 : decode cX0_keepIfBetter 32 = .ok (.iastore, 1) := by decide +kernel
theorem dX0_keepIfBetter_33 : decode cX0_keepIfBetter 33 = .ok (.aload_n 0, 1) := by decide +kernel
theorem dX0_keepIfBetter_34 : decode cX0_keepIfBetter 34 = .ok (.getfield 7, 3) := by decide +kernel
theorem dX0_keepIfBetter_37 : decode cX0_keepIfBetter 37 = .ok (.iconst 2, 1) := by decide +kernel
theorem dX0_keepIfBetter_38 : decode cX0_keepIfBetter 38 = .ok (.iload 5, 2) := by decide +kernel
theorem dX0_keepIfBetter_40 : decode cX0_keepIfBetter 40 = .ok (.iastore, 1) := by decide +kernel
theorem dX0_keepIfBetter_41 : decode cX0_keepIfBetter 41 = .ok (.return_, 1) := by decide +kernel
theorem dX0_savedBy_0 : decode cX0_savedBy 0 = .ok (.aload_n 1, 1) := by decide +kernel
theorem dX0_savedBy_1 : decode cX0_savedBy 1 = .ok (.aload_n 0, 1) := by decide +kernel
theorem dX0_savedBy_2 : decode cX0_savedBy 2 = .ok (.invokestatic 41, 3) := by decide +kernel
theorem dX0_savedBy_5 : decode cX0_savedBy 5 = .ok (.istore_n 3, 1) := by decide +kernel
theorem dX0_savedBy_6 : decode cX0_savedBy 6 = .ok (.aload_n 2, 1) := by decide +kernel
theorem dX0_savedBy_7 : decode cX0_savedBy 7 = .ok (.ifnonnull 28, 3) := by decide +kernel
theorem dX0_savedBy_10 : decode cX0_savedBy 10 = .ok (.aload_n 0, 1) := by decide +kernel
theorem dX0_savedBy_11 : decode cX0_savedBy 11 = .ok (.aload_n 1, 1) := by decide +kernel
theorem dX0_savedBy_12 : decode cX0_savedBy 12 = .ok (.invokestatic 41, 3) := by decide +kernel
theorem dX0_savedBy_15 : decode cX0_savedBy 15 = .ok (.istore 4, 2) := by decide +kernel
theorem dX0_savedBy_17 : decode cX0_savedBy 17 = .ok (.iload 4, 2) := by decide +kernel
theorem dX0_savedBy_19 : decode cX0_savedBy 19 = .ok (.ifCond .le 14, 3) := by decide +kernel
theorem dX0_savedBy_22 : decode cX0_savedBy 22 = .ok (.iload_n 3, 1) := by decide +kernel
theorem dX0_savedBy_23 : decode cX0_savedBy 23 = .ok (.ifCond .le 10, 3) := by decide +kernel
theorem dX0_savedBy_26 : decode cX0_savedBy 26 = .ok (.iload 4, 2) := by decide +kernel
theorem dX0_savedBy_28 : decode cX0_savedBy 28 = .ok (.iload_n 3, 1) := by decide +kernel
theorem dX0_savedBy_29 : decode cX0_savedBy 29 = .ok (.iadd, 1) := by decide +kernel
theorem dX0_savedBy_30 : decode cX0_savedBy 30 = .ok (.goto 4, 3) := by decide +kernel
theorem dX0_savedBy_33 : decode cX0_savedBy 33 = .ok (.iconst 0, 1) := by decide +kernel
theorem dX0_savedBy_34 : decode cX0_savedBy 34 = .ok (.ireturn, 1) := by decide +kernel
theorem dX0_savedBy_35 : decode cX0_savedBy 35 = .ok (.aload_n 2, 1) := by decide +kernel
theorem dX0_savedBy_36 : decode cX0_savedBy 36 = .ok (.aload_n 1, 1) := by decide +kernel
theorem dX0_savedBy_37 : decode cX0_savedBy 37 = .ok (.invokestatic 41, 3) := by decide +kernel
theorem dX0_savedBy_40 : decode cX0_savedBy 40 = .ok (.istore 4, 2) := by decide +kernel
theorem dX0_savedBy_42 : decode cX0_savedBy 42 = .ok (.aload_n 0, 1) := by decide +kernel
theorem dX0_savedBy_43 : decode cX0_savedBy 43 = .ok (.aload_n 2, 1) := by decide +kernel
theorem dX0_savedBy_44 : decode cX0_savedBy 44 = .ok (.invokestatic 41, 3) := by decide +kernel
theorem dX0_savedBy_47 : decode cX0_savedBy 47 = .ok (.istore 5, 2) := by decide +kernel
theorem dX0_savedBy_49 : decode cX0_savedBy 49 = .ok (.iload 5, 2) := by decide +kernel
theorem dX0_savedBy_51 : decode cX0_savedBy 51 = .ok (.ifCond .le 22, 3) := by decide +kernel
theorem dX0_savedBy_54 : decode cX0_savedBy 54 = .ok (.iload_n 3, 1) := by decide +kernel
theorem dX0_savedBy_55 : decode cX0_savedBy 55 = .ok (.ifCond .le 18, 3) := by decide +kernel
theorem dX0_savedBy_58 : decode cX0_savedBy 58 = .ok (.iload 4, 2) := by decide +kernel
theorem dX0_savedBy_60 : decode cX0_savedBy 60 = .ok (.ifCond .le 13, 3) := by decide +kernel
theorem dX0_savedBy_63 : decode cX0_savedBy 63 = .ok (.iload 5, 2) := by decide +kernel
theorem dX0_savedBy_65 : decode cX0_savedBy 65 = .ok (.iload_n 3, 1) := by decide +kernel
theorem dX0_savedBy_66 : decode cX0_savedBy 66 = .ok (.iadd, 1) := by decide +kernel
theorem dX0_savedBy_67 : decode cX0_savedBy 67 = .ok (.iload 4, 2) := by decide +kernel
theorem dX0_savedBy_69 : decode cX0_savedBy 69 = .ok (.iadd, 1) := by decide +kernel
theorem dX0_savedBy_70 : decode cX0_savedBy 70 = .ok (.goto 4, 3) := by decide +kernel
theorem dX0_savedBy_73 : decode cX0_savedBy 73 = .ok (.iconst 0, 1) := by decide +kernel
theorem dX0_savedBy_74 : decode cX0_savedBy 74 = .ok (.ireturn, 1) := by decide +kernel
theorem dX0_gain_0 : decode cX0_gain 0 = .ok (.aload_n 0, 1) := by decide +kernel
theorem dX0_gain_1 : decode cX0_gain 1 = .ok (.getfield 45, 3) := by decide +kernel
theorem dX0_gain_4 : decode cX0_gain 4 = .ok (.iconst 1, 1) := by decide +kernel
theorem dX0_gain_5 : decode cX0_gain 5 = .ok (.if_icmp .lt 11, 3) := by decide +kernel
theorem dX0_gain_8 : decode cX0_gain 8 = .ok (.aload_n 1, 1) := by decide +kernel
theorem dX0_gain_9 : decode cX0_gain 9 = .ok (.getfield 45, 3) := by decide +kernel
theorem dX0_gain_12 : decode cX0_gain 12 = .ok (.iconst 1, 1) := by decide +kernel
theorem dX0_gain_13 : decode cX0_gain 13 = .ok (.if_icmp .ge 5, 3) := by decide +kernel
theorem dX0_gain_16 : decode cX0_gain 16 = .ok (.iconst 0, 1) := by decide +kernel
theorem dX0_gain_17 : decode cX0_gain 17 = .ok (.ireturn, 1) := by decide +kernel
theorem dX0_gain_18 : decode cX0_gain 18 = .ok (.aload_n 0, 1) := by decide +kernel
theorem dX0_gain_19 : decode cX0_gain 19 = .ok (.getfield 50, 3) := by decide +kernel
theorem dX0_gain_22 : decode cX0_gain 22 = .ok (.aload_n 0, 1) := by decide +kernel
theorem dX0_gain_23 : decode cX0_gain 23 = .ok (.getfield 45, 3) := by decide +kernel
theorem dX0_gain_26 : decode cX0_gain 26 = .ok (.iconst 1, 1) := by decide +kernel
theorem dX0_gain_27 : decode cX0_gain 27 = .ok (.isub, 1) := by decide +kernel
theorem dX0_gain_28 : decode cX0_gain 28 = .ok (.iaload, 1) := by decide +kernel
theorem dX0_gain_29 : decode cX0_gain 29 = .ok (.istore_n 2, 1) := by decide +kernel
theorem dX0_gain_30 : decode cX0_gain 30 = .ok (.aload_n 1, 1) := by decide +kernel
theorem dX0_gain_31 : decode cX0_gain 31 = .ok (.getfield 50, 3) := by decide +kernel
theorem dX0_gain_34 : decode cX0_gain 34 = .ok (.aload_n 1, 1) := by decide +kernel
theorem dX0_gain_35 : decode cX0_gain 35 = .ok (.getfield 45, 3) := by decide +kernel
theorem dX0_gain_38 : decode cX0_gain 38 = .ok (.iconst 1, 1) := by decide +kernel
theorem dX0_gain_39 : decode cX0_gain 39 = .ok (.isub, 1) := by decide +kernel
theorem dX0_gain_40 : decode cX0_gain 40 = .ok (.iaload, 1) := by decide +kernel
theorem dX0_gain_41 : decode cX0_gain 41 = .ok (.istore_n 3, 1) := by decide +kernel
theorem dX0_gain_42 : decode cX0_gain 42 = .ok (.aload_n 0, 1) := by decide +kernel
theorem dX0_gain_43 : decode cX0_gain 43 = .ok (.getfield 53, 3) := by decide +kernel
theorem dX0_gain_46 : decode cX0_gain 46 = .ok (.iload_n 2, 1) := by decide +kernel
theorem dX0_gain_47 : decode cX0_gain 47 = .ok (.iaload, 1) := by decide +kernel
theorem dX0_gain_48 : decode cX0_gain 48 = .ok (.aload_n 0, 1) := by decide +kernel
theorem dX0_gain_49 : decode cX0_gain 49 = .ok (.getfield 53, 3) := by decide +kernel
theorem dX0_gain_52 : decode cX0_gain 52 = .ok (.iload_n 3, 1) := by decide +kernel
theorem dX0_gain_53 : decode cX0_gain 53 = .ok (.iaload, 1) := by decide +kernel
theorem dX0_gain_54 : decode cX0_gain 54 = .ok (.isub, 1) := by decide +kernel
theorem dX0_gain_55 : decode cX0_gain 55 = .ok (.ireturn, 1) := by decide +kernel
theorem dX1_init_0 : decode cX1_init 0 = .ok (.aload_n 0, 1) := by decide +kernel
theorem dX1_init_1 : decode cX1_init 1 = .ok (.invokespecial 3, 3) := by decide +kernel
theorem dX1_init_4 : decode cX1_init 4 = .ok (.aload_n 0, 1) := by decide +kernel
theorem dX1_init_5 : decode cX1_init 5 = .ok (.bipush 8, 2) := by decide +kernel
theorem dX1_init_7 : decode cX1_init 7 = .ok (.newarray .int, 2) := by decide +kernel
theorem dX1_init_9 : decode cX1_init 9 = .ok (.putfield 9, 3) := by decide +kernel
theorem dX1_init_12 : decode cX1_init 12 = .ok (.aload_n 0, 1) := by decide +kernel
theorem dX1_init_13 : decode cX1_init 13 = .ok (.bipush 8, 2) := by decide +kernel
theorem dX1_init_15 : decode cX1_init 15 = .ok (.newarray .int, 2) := by decide +kernel
theorem dX1_init_17 : decode cX1_init 17 = .ok (.putfield 15, 3) := by decide +kernel
theorem dX1_init_20 : decode cX1_init 20 = .ok (.aload_n 0, 1) := by decide +kernel
theorem dX1_init_21 : decode cX1_init 21 = .ok (.bipush 8, 2) := by decide +kernel
theorem dX1_init_23 : decode cX1_init 23 = .ok (.newarray .int, 2) := by decide +kernel
theorem dX1_init_25 : decode cX1_init 25 = .ok (.putfield 18, 3) := by decide +kernel
theorem dX1_init_28 : decode cX1_init 28 = .ok (.aload_n 0, 1) := by decide +kernel
theorem dX1_init_29 : decode cX1_init 29 = .ok (.bipush 8, 2) := by decide +kernel
theorem dX1_init_31 : decode cX1_init 31 = .ok (.newarray .int, 2) := by decide +kernel
theorem dX1_init_33 : decode cX1_init 33 = .ok (.putfield 21, 3) := by decide +kernel
theorem dX1_init_36 : decode cX1_init 36 = .ok (.aload_n 0, 1) := by decide +kernel
theorem dX1_init_37 : decode cX1_init 37 = .ok (.iconst 5, 1) := by decide +kernel
theorem dX1_init_38 : decode cX1_init 38 = .ok (.newarray .int, 2) := by decide +kernel
theorem dX1_init_40 : decode cX1_init 40 = .ok (.putfield 24, 3) := by decide +kernel
theorem dX1_init_43 : decode cX1_init 43 = .ok (.return_, 1) := by decide +kernel
theorem dX1_begin_0 : decode cX1_begin 0 = .ok (.aload_n 0, 1) := by decide +kernel
theorem dX1_begin_1 : decode cX1_begin 1 = .ok (.iload_n 1, 1) := by decide +kernel
theorem dX1_begin_2 : decode cX1_begin 2 = .ok (.putfield 27, 3) := by decide +kernel
theorem dX1_begin_5 : decode cX1_begin 5 = .ok (.aload_n 0, 1) := by decide +kernel
theorem dX1_begin_6 : decode cX1_begin 6 = .ok (.iload_n 2, 1) := by decide +kernel
theorem dX1_begin_7 : decode cX1_begin 7 = .ok (.putfield 31, 3) := by decide +kernel
theorem dX1_begin_10 : decode cX1_begin 10 = .ok (.aload_n 0, 1) := by decide +kernel
theorem dX1_begin_11 : decode cX1_begin 11 = .ok (.iload_n 3, 1) := by decide +kernel
theorem dX1_begin_12 : decode cX1_begin 12 = .ok (.putfield 34, 3) := by decide +kernel
theorem dX1_begin_15 : decode cX1_begin 15 = .ok (.aload_n 0, 1) := by decide +kernel
theorem dX1_begin_16 : decode cX1_begin 16 = .ok (.bipush (-4), 2) := by decide +kernel
theorem dX1_begin_18 : decode cX1_begin 18 = .ok (.putfield 37, 3) := by decide +kernel
theorem dX1_begin_21 : decode cX1_begin 21 = .ok (.aload_n 0, 1) := by decide +kernel
theorem dX1_begin_22 : decode cX1_begin 22 = .ok (.iconst 0, 1) := by decide +kernel
theorem dX1_begin_23 : decode cX1_begin 23 = .ok (.putfield 40, 3) := by decide +kernel
theorem dX1_begin_26 : decode cX1_begin 26 = .ok (.aload_n 0, 1) := by decide +kernel
theorem dX1_begin_27 : decode cX1_begin 27 = .ok (.getfield 24, 3) := by decide +kernel
theorem dX1_begin_30 : decode cX1_begin 30 = .ok (.iconst 0, 1) := by decide +kernel
theorem dX1_begin_31 : decode cX1_begin 31 = .ok (.invokestatic 43, 3) := by decide +kernel
theorem dX1_begin_34 : decode cX1_begin 34 = .ok (.return_, 1) := by decide +kernel
theorem dX1_becomeLike_0 : decode cX1_becomeLike 0 = .ok (.aload_n 0, 1) := by decide +kernel
theorem dX1_becomeLike_1 : decode cX1_becomeLike 1 = .ok (.aload_n 1, 1) := by decide +kernel
theorem dX1_becomeLike_2 : decode cX1_becomeLike 2 = .ok (.getfield 27, 3) := by decide +kernel
theorem dX1_becomeLike_5 : decode cX1_becomeLike 5 = .ok (.aload_n 1, 1) := by decide +kernel
theorem dX1_becomeLike_6 : decode cX1_becomeLike 6 = .ok (.getfield 31, 3) := by decide +kernel
theorem dX1_becomeLike_9 : decode cX1_becomeLike 9 = .ok (.aload_n 1, 1) := by decide +kernel
theorem dX1_becomeLike_10 : decode cX1_becomeLike 10 = .ok (.getfield 34, 3) := by decide +kernel
theorem dX1_becomeLike_13 : decode cX1_becomeLike 13 = .ok (.invokevirtual 49, 3) := by decide +kernel
theorem dX1_becomeLike_16 : decode cX1_becomeLike 16 = .ok (.aload_n 0, 1) := by decide +kernel
theorem dX1_becomeLike_17 : decode cX1_becomeLike 17 = .ok (.aload_n 1, 1) := by decide +kernel
theorem dX1_becomeLike_18 : decode cX1_becomeLike 18 = .ok (.getfield 37, 3) := by decide +kernel
theorem dX1_becomeLike_21 : decode cX1_becomeLike 21 = .ok (.putfield 37, 3) := by decide +kernel
theorem dX1_becomeLike_24 : decode cX1_becomeLike 24 = .ok (.aload_n 1, 1) := by decide +kernel
theorem dX1_becomeLike_25 : decode cX1_becomeLike 25 = .ok (.getfield 24, 3) := by decide +kernel
theorem dX1_becomeLike_28 : decode cX1_becomeLike 28 = .ok (.iconst 0, 1) := by decide +kernel
theorem dX1_becomeLike_29 : decode cX1_becomeLike 29 = .ok (.aload_n 0, 1) := by decide +kernel
theorem dX1_becomeLike_30 : decode cX1_becomeLike 30 = .ok (.getfield 24, 3) := by decide +kernel
theorem dX1_becomeLike_33 : decode cX1_becomeLike 33 = .ok (.iconst 0, 1) := by decide +kernel
theorem dX1_becomeLike_34 : decode cX1_becomeLike 34 = .ok (.iconst 5, 1) := by decide +kernel
theorem dX1_becomeLike_35 : decode cX1_becomeLike 35 = .ok (.invokestatic 53, 3) := by decide +kernel
theorem dX1_becomeLike_38 : decode cX1_becomeLike 38 = .ok (.aload_n 0, 1) := by decide +kernel
theorem dX1_becomeLike_39 : decode cX1_becomeLike 39 = .ok (.aload_n 1, 1) := by decide +kernel
theorem dX1_becomeLike_40 : decode cX1_becomeLike 40 = .ok (.invokevirtual 59, 3) := by decide +kernel
theorem dX1_becomeLike_43 : decode cX1_becomeLike 43 = .ok (.return_, 1) := by decide +kernel
theorem dX1_wearAs_0 : decode cX1_wearAs 0 = .ok (.aload_n 0, 1) := by decide +kernel
theorem dX1_wearAs_1 : decode cX1_wearAs 1 = .ok (.aload_n 1, 1) := by decide +kernel
theorem dX1_wearAs_2 : decode cX1_wearAs 2 = .ok (.getfield 40, 3) := by decide +kernel
theorem dX1_wearAs_5 : decode cX1_wearAs 5 = .ok (.putfield 40, 3) := by decide +kernel
theorem dX1_wearAs_8 : decode cX1_wearAs 8 = .ok (.aload_n 1, 1) := by decide +kernel
theorem dX1_wearAs_9 : decode cX1_wearAs 9 = .ok (.getfield 9, 3) := by decide +kernel
theorem dX1_wearAs_12 : decode cX1_wearAs 12 = .ok (.iconst 0, 1) := by decide +kernel
theorem dX1_wearAs_13 : decode cX1_wearAs 13 = .ok (.aload_n 0, 1) := by decide +kernel
theorem dX1_wearAs_14 : decode cX1_wearAs 14 = .ok (.getfield 9, 3) := by decide +kernel
theorem dX1_wearAs_17 : decode cX1_wearAs 17 = .ok (.iconst 0, 1) := by decide +kernel
theorem dX1_wearAs_18 : decode cX1_wearAs 18 = .ok (.bipush 8, 2) := by decide +kernel
theorem dX1_wearAs_20 : decode cX1_wearAs 20 = .ok (.invokestatic 53, 3) := by decide +kernel
theorem dX1_wearAs_23 : decode cX1_wearAs 23 = .ok (.aload_n 1, 1) := by decide +kernel
theorem dX1_wearAs_24 : decode cX1_wearAs 24 = .ok (.getfield 15, 3) := by decide +kernel
theorem dX1_wearAs_27 : decode cX1_wearAs 27 = .ok (.iconst 0, 1) := by decide +kernel
theorem dX1_wearAs_28 : decode cX1_wearAs 28 = .ok (.aload_n 0, 1) := by decide +kernel
theorem dX1_wearAs_29 : decode cX1_wearAs 29 = .ok (.getfield 15, 3) := by decide +kernel
theorem dX1_wearAs_32 : decode cX1_wearAs 32 = .ok (.iconst 0, 1) := by decide +kernel
theorem dX1_wearAs_33 : decode cX1_wearAs 33 = .ok (.bipush 8, 2) := by decide +kernel
theorem dX1_wearAs_35 : decode cX1_wearAs 35 = .ok (.invokestatic 53, 3) := by decide +kernel
theorem dX1_wearAs_38 : decode cX1_wearAs 38 = .ok (.aload_n 1, 1) := by decide +kernel
theorem dX1_wearAs_39 : decode cX1_wearAs 39 = .ok (.getfield 18, 3) := by decide +kernel
theorem dX1_wearAs_42 : decode cX1_wearAs 42 = .ok (.iconst 0, 1) := by decide +kernel
theorem dX1_wearAs_43 : decode cX1_wearAs 43 = .ok (.aload_n 0, 1) := by decide +kernel
theorem dX1_wearAs_44 : decode cX1_wearAs 44 = .ok (.getfield 18, 3) := by decide +kernel
theorem dX1_wearAs_47 : decode cX1_wearAs 47 = .ok (.iconst 0, 1) := by decide +kernel
theorem dX1_wearAs_48 : decode cX1_wearAs 48 = .ok (.bipush 8, 2) := by decide +kernel
theorem dX1_wearAs_50 : decode cX1_wearAs 50 = .ok (.invokestatic 53, 3) := by decide +kernel
theorem dX1_wearAs_53 : decode cX1_wearAs 53 = .ok (.aload_n 1, 1) := by decide +kernel
theorem dX1_wearAs_54 : decode cX1_wearAs 54 = .ok (.getfield 21, 3) := by decide +kernel
theorem dX1_wearAs_57 : decode cX1_wearAs 57 = .ok (.iconst 0, 1) := by decide +kernel
theorem dX1_wearAs_58 : decode cX1_wearAs 58 = .ok (.aload_n 0, 1) := by decide +kernel
theorem dX1_wearAs_59 : decode cX1_wearAs 59 = .ok (.getfield 21, 3) := by decide +kernel
theorem dX1_wearAs_62 : decode cX1_wearAs 62 = .ok (.iconst 0, 1) := by decide +kernel
theorem dX1_wearAs_63 : decode cX1_wearAs 63 = .ok (.bipush 8, 2) := by decide +kernel
theorem dX1_wearAs_65 : decode cX1_wearAs 65 = .ok (.invokestatic 53, 3) := by decide +kernel
theorem dX1_wearAs_68 : decode cX1_wearAs 68 = .ok (.return_, 1) := by decide +kernel
theorem dX1_wornSet_0 : decode cX1_wornSet 0 = .ok (.iconst 1, 1) := by decide +kernel
theorem dX1_wornSet_1 : decode cX1_wornSet 1 = .ok (.aload_n 0, 1) := by decide +kernel
theorem dX1_wornSet_2 : decode cX1_wornSet 2 = .ok (.getfield 40, 3) := by decide +kernel
theorem dX1_wornSet_5 : decode cX1_wornSet 5 = .ok (.ishl, 1) := by decide +kernel
theorem dX1_wornSet_6 : decode cX1_wornSet 6 = .ok (.iconst 1, 1) := by decide +kernel
theorem dX1_wornSet_7 : decode cX1_wornSet 7 = .ok (.isub, 1) := by decide +kernel
theorem dX1_wornSet_8 : decode cX1_wornSet 8 = .ok (.ireturn, 1) := by decide +kernel
theorem dX1_isBetween_0 : decode cX1_isBetween 0 = .ok (.iload_n 1, 1) := by decide +kernel
theorem dX1_isBetween_1 : decode cX1_isBetween 1 = .ok (.ifCond .le 17, 3) := by decide +kernel
theorem dX1_isBetween_4 : decode cX1_isBetween 4 = .ok (.iload_n 1, 1) := by decide +kernel
theorem dX1_isBetween_5 : decode cX1_isBetween 5 = .ok (.aload_n 0, 1) := by decide +kernel
theorem dX1_isBetween_6 : decode cX1_isBetween 6 = .ok (.getfield 40, 3) := by decide +kernel
theorem dX1_isBetween_9 : decode cX1_isBetween 9 = .ok (.iconst 1, 1) := by decide +kernel
theorem dX1_isBetween_10 : decode cX1_isBetween 10 = .ok (.isub, 1) := by decide +kernel
theorem dX1_isBetween_11 : decode cX1_isBetween 11 = .ok (.if_icmp .ge 7, 3) := by decide +kernel
theorem dX1_isBetween_14 : decode cX1_isBetween 14 = .ok (.iconst 1, 1) := by decide +kernel
theorem dX1_isBetween_15 : decode cX1_isBetween 15 = .ok (.goto 4, 3) := by decide +kernel
theorem dX1_isBetween_18 : decode cX1_isBetween 18 = .ok (.iconst 0, 1) := by decide +kernel
theorem dX1_isBetween_19 : decode cX1_isBetween 19 = .ok (.ireturn, 1) := by decide +kernel
theorem dX1_thickTogether_0 : decode cX1_thickTogether 0 = .ok (.iconst 0, 1) := by decide +kernel
theorem dX1_thickTogether_1 : decode cX1_thickTogether 1 = .ok (.istore_n 1, 1) := by decide +kernel
theorem dX1_thickTogether_2 : decode cX1_thickTogether 2 = .ok (.iconst 0, 1) := by decide +kernel
theorem dX1_thickTogether_3 : decode cX1_thickTogether 3 = .ok (.istore_n 2, 1) := by decide +kernel
theorem dX1_thickTogether_4 : decode cX1_thickTogether 4 = .ok (.iload_n 2, 1) := by decide +kernel
theorem dX1_thickTogether_5 : decode cX1_thickTogether 5 = .ok (.aload_n 0, 1) := by decide +kernel
theorem dX1_thickTogether_6 : decode cX1_thickTogether 6 = .ok (.getfield 40, 3) := by decide +kernel
theorem dX1_thickTogether_9 : decode cX1_thickTogether 9 = .ok (.if_icmp .ge 18, 3) := by decide +kernel
theorem dX1_thickTogether_12 : decode cX1_thickTogether 12 = .ok (.iload_n 1, 1) := by decide +kernel
theorem dX1_thickTogether_13 : decode cX1_thickTogether 13 = .ok (.aload_n 0, 1) := by decide +kernel
theorem dX1_thickTogether_14 : decode cX1_thickTogether 14 = .ok (.getfield 21, 3) := by decide +kernel
theorem dX1_thickTogether_17 : decode cX1_thickTogether 17 = .ok (.iload_n 2, 1) := by decide +kernel
theorem dX1_thickTogether_18 : decode cX1_thickTogether 18 = .ok (.iaload, 1) := by decide +kernel
theorem dX1_thickTogether_19 : decode cX1_thickTogether 19 = .ok (.iadd, 1) := by decide +kernel
theorem dX1_thickTogether_20 : decode cX1_thickTogether 20 = .ok (.istore_n 1, 1) := by decide +kernel
theorem dX1_thickTogether_21 : decode cX1_thickTogether 21 = .ok (.iinc 2 1, 3) := by decide +kernel
theorem dX1_thickTogether_24 : decode cX1_thickTogether 24 = .ok (.goto (-20), 3) := by decide +kernel
theorem dX1_thickTogether_27 : decode cX1_thickTogether 27 = .ok (.iload_n 1, 1) := by decide +kernel
theorem dX1_thickTogether_28 : decode cX1_thickTogether 28 = .ok (.ireturn, 1) := by decide +kernel
theorem dX1_amountsTogether_0 : decode cX1_amountsTogether 0 = .ok (.iconst 0, 1) := by decide +kernel
theorem dX1_amountsTogether_1 : decode cX1_amountsTogether 1 = .ok (.istore_n 1, 1) := by decide +kernel
theorem dX1_amountsTogether_2 : decode cX1_amountsTogether 2 = .ok (.iconst 0, 1) := by decide +kernel
theorem dX1_amountsTogether_3 : decode cX1_amountsTogether 3 = .ok (.istore_n 2, 1) := by decide +kernel
theorem dX1_amountsTogether_4 : decode cX1_amountsTogether 4 = .ok (.iload_n 2, 1) := by decide +kernel
theorem dX1_amountsTogether_5 : decode cX1_amountsTogether 5 = .ok (.aload_n 0, 1) := by decide +kernel
theorem dX1_amountsTogether_6 : decode cX1_amountsTogether 6 = .ok (.getfield 40, 3) := by decide +kernel
theorem dX1_amountsTogether_9 : decode cX1_amountsTogether 9 = .ok (.if_icmp .ge 18, 3) := by decide +kernel
theorem dX1_amountsTogether_12 : decode cX1_amountsTogether 12 = .ok (.iload_n 1, 1) := by decide +kernel
theorem dX1_amountsTogether_13 : decode cX1_amountsTogether 13 = .ok (.aload_n 0, 1) := by decide +kernel
theorem dX1_amountsTogether_14 : decode cX1_amountsTogether 14 = .ok (.getfield 15, 3) := by decide +kernel
theorem dX1_amountsTogether_17 : decode cX1_amountsTogether 17 = .ok (.iload_n 2, 1) := by decide +kernel
theorem dX1_amountsTogether_18 : decode cX1_amountsTogether 18 = .ok (.iaload, 1) := by decide +kernel
theorem dX1_amountsTogether_19 : decode cX1_amountsTogether 19 = .ok (.iadd, 1) := by decide +kernel
theorem dX1_amountsTogether_20 : decode cX1_amountsTogether 20 = .ok (.istore_n 1, 1) := by decide +kernel
theorem dX1_amountsTogether_21 : decode cX1_amountsTogether 21 = .ok (.iinc 2 1, 3) := by decide +kernel
theorem dX1_amountsTogether_24 : decode cX1_amountsTogether 24 = .ok (.goto (-20), 3) := by decide +kernel
theorem dX1_amountsTogether_27 : decode cX1_amountsTogether 27 = .ok (.iload_n 1, 1) := by decide +kernel
theorem dX1_amountsTogether_28 : decode cX1_amountsTogether 28 = .ok (.ireturn, 1) := by decide +kernel
theorem dX1_owedTo_0 : decode cX1_owedTo 0 = .ok (.iconst 0, 1) := by decide +kernel
theorem dX1_owedTo_1 : decode cX1_owedTo 1 = .ok (.istore_n 2, 1) := by decide +kernel
theorem dX1_owedTo_2 : decode cX1_owedTo 2 = .ok (.iconst 0, 1) := by decide +kernel
theorem dX1_owedTo_3 : decode cX1_owedTo 3 = .ok (.istore_n 3, 1) := by decide +kernel
theorem dX1_owedTo_4 : decode cX1_owedTo 4 = .ok (.iload_n 3, 1) := by decide +kernel
theorem dX1_owedTo_5 : decode cX1_owedTo 5 = .ok (.aload_n 0, 1) := by decide +kernel
theorem dX1_owedTo_6 : decode cX1_owedTo 6 = .ok (.getfield 40, 3) := by decide +kernel
theorem dX1_owedTo_9 : decode cX1_owedTo 9 = .ok (.if_icmp .ge 28, 3) := by decide +kernel
theorem dX1_owedTo_12 : decode cX1_owedTo 12 = .ok (.aload_n 0, 1) := by decide +kernel
theorem dX1_owedTo_13 : decode cX1_owedTo 13 = .ok (.getfield 9, 3) := by decide +kernel
theorem dX1_owedTo_16 : decode cX1_owedTo 16 = .ok (.iload_n 3, 1) := by decide +kernel
theorem dX1_owedTo_17 : decode cX1_owedTo 17 = .ok (.iaload, 1) := by decide +kernel
theorem dX1_owedTo_18 : decode cX1_owedTo 18 = .ok (.iload_n 1, 1) := by decide +kernel
theorem dX1_owedTo_19 : decode cX1_owedTo 19 = .ok (.if_icmp .ne 12, 3) := by decide +kernel
theorem dX1_owedTo_22 : decode cX1_owedTo 22 = .ok (.iload_n 2, 1) := by decide +kernel
theorem dX1_owedTo_23 : decode cX1_owedTo 23 = .ok (.aload_n 0, 1) := by decide +kernel
theorem dX1_owedTo_24 : decode cX1_owedTo 24 = .ok (.getfield 15, 3) := by decide +kernel
theorem dX1_owedTo_27 : decode cX1_owedTo 27 = .ok (.iload_n 3, 1) := by decide +kernel
theorem dX1_owedTo_28 : decode cX1_owedTo 28 = .ok (.iaload, 1) := by decide +kernel
theorem dX1_owedTo_29 : decode cX1_owedTo 29 = .ok (.iadd, 1) := by decide +kernel
theorem dX1_owedTo_30 : decode cX1_owedTo 30 = .ok (.istore_n 2, 1) := by decide +kernel
theorem dX1_owedTo_31 : decode cX1_owedTo 31 = .ok (.iinc 3 1, 3) := by decide +kernel
theorem dX1_owedTo_34 : decode cX1_owedTo 34 = .ok (.goto (-30), 3) := by decide +kernel
theorem dX1_owedTo_37 : decode cX1_owedTo 37 = .ok (.iload_n 2, 1) := by decide +kernel
theorem dX1_owedTo_38 : decode cX1_owedTo 38 = .ok (.ireturn, 1) := by decide +kernel
theorem dX1_putOn_0 : decode cX1_putOn 0 = .ok (.aload_n 0, 1) := by decide +kernel
theorem dX1_putOn_1 : decode cX1_putOn 1 = .ok (.getfield 40, 3) := by decide +kernel
theorem dX1_putOn_4 : decode cX1_putOn 4 = .ok (.bipush 8, 2) := by decide +kernel
theorem dX1_putOn_6 : decode cX1_putOn 6 = .ok (.if_icmp .ge 54, 3) := by decide +kernel
theorem dX1_putOn_9 : decode cX1_putOn 9 = .ok (.aload_n 0, 1) := by decide +kernel
theorem dX1_putOn_10 : decode cX1_putOn 10 = .ok (.getfield 9, 3) := by decide +kernel
theorem dX1_putOn_13 : decode cX1_putOn 13 = .ok (.aload_n 0, 1) := by decide +kernel
theorem dX1_putOn_14 : decode cX1_putOn 14 = .ok (.getfield 40, 3) := by decide +kernel
theorem dX1_putOn_17 : decode cX1_putOn 17 = .ok (.iload_n 1, 1) := by decide +kernel
theorem dX1_putOn_18 : decode cX1_putOn 18 = .ok (.iastore, 1) := by decide +kernel
theorem dX1_putOn_19 : decode cX1_putOn 19 = .ok (.aload_n 0, 1) := by decide +kernel
theorem dX1_putOn_20 : decode cX1_putOn 20 = .ok (.getfield 15, 3) := by decide +kernel
theorem dX1_putOn_23 : decode cX1_putOn 23 = .ok (.aload_n 0, 1) := by decide +kernel
theorem dX1_putOn_24 : decode cX1_putOn 24 = .ok (.getfield 40, 3) := by decide +kernel
theorem dX1_putOn_27 : decode cX1_putOn 27 = .ok (.iload_n 2, 1) := by decide +kernel
theorem dX1_putOn_28 : decode cX1_putOn 28 = .ok (.iastore, 1) := by decide +kernel
theorem dX1_putOn_29 : decode cX1_putOn 29 = .ok (.aload_n 0, 1) := by decide +kernel
theorem dX1_putOn_30 : decode cX1_putOn 30 = .ok (.getfield 18, 3) := by decide +kernel
theorem dX1_putOn_33 : decode cX1_putOn 33 = .ok (.aload_n 0, 1) := by decide +kernel
theorem dX1_putOn_34 : decode cX1_putOn 34 = .ok (.getfield 40, 3) := by decide +kernel
theorem dX1_putOn_37 : decode cX1_putOn 37 = .ok (.iload_n 3, 1) := by decide +kernel
theorem dX1_putOn_38 : decode cX1_putOn 38 = .ok (.iastore, 1) := by decide +kernel
theorem dX1_putOn_39 : decode cX1_putOn 39 = .ok (.aload_n 0, 1) := by decide +kernel
theorem dX1_putOn_40 : decode cX1_putOn 40 = .ok (.getfield 21, 3) := by decide +kernel
theorem dX1_putOn_43 : decode cX1_putOn 43 = .ok (.aload_n 0, 1) := by decide +kernel
theorem dX1_putOn_44 : decode cX1_putOn 44 = .ok (.getfield 40, 3) := by decide +kernel
theorem dX1_putOn_47 : decode cX1_putOn 47 = .ok (.iload 4, 2) := by decide +kernel
theorem dX1_putOn_49 : decode cX1_putOn 49 = .ok (.iastore, 1) := by decide +kernel
theorem dX1_putOn_50 : decode cX1_putOn 50 = .ok (.aload_n 0, 1) := by decide +kernel
theorem dX1_putOn_51 : decode cX1_putOn 51 = .ok (.dup, 1) := by decide +kernel
theorem dX1_putOn_52 : decode cX1_putOn 52 = .ok (.getfield 40, 3) := by decide +kernel
theorem dX1_putOn_55 : decode cX1_putOn 55 = .ok (.iconst 1, 1) := by decide +kernel
theorem dX1_putOn_56 : decode cX1_putOn 56 = .ok (.iadd, 1) := by decide +kernel
theorem dX1_putOn_57 : decode cX1_putOn 57 = .ok (.putfield 40, 3) := by decide +kernel
theorem dX1_putOn_60 : decode cX1_putOn 60 = .ok (.return_, 1) := by decide +kernel
theorem dX1_takeOff_0 : decode cX1_takeOff 0 = .ok (.iload_n 1, 1) := by decide +kernel
theorem dX1_takeOff_1 : decode cX1_takeOff 1 = .ok (.istore_n 2, 1) := by decide +kernel
theorem dX1_takeOff_2 : decode cX1_takeOff 2 = .ok (.iload_n 2, 1) := by decide +kernel
theorem dX1_takeOff_3 : decode cX1_takeOff 3 = .ok (.aload_n 0, 1) := by decide +kernel
theorem dX1_takeOff_4 : decode cX1_takeOff 4 = .ok (.getfield 40, 3) := by decide +kernel
theorem dX1_takeOff_7 : decode cX1_takeOff 7 = .ok (.iconst 1, 1) := by decide +kernel
theorem dX1_takeOff_8 : decode cX1_takeOff 8 = .ok (.isub, 1) := by decide +kernel
theorem dX1_takeOff_9 : decode cX1_takeOff 9 = .ok (.if_icmp .ge 65, 3) := by decide +kernel
theorem dX1_takeOff_12 : decode cX1_takeOff 12 = .ok (.aload_n 0, 1) := by decide +kernel
theorem dX1_takeOff_13 : decode cX1_takeOff 13 = .ok (.getfield 9, 3) := by decide +kernel
theorem dX1_takeOff_16 : decode cX1_takeOff 16 = .ok (.iload_n 2, 1) := by decide +kernel
theorem dX1_takeOff_17 : decode cX1_takeOff 17 = .ok (.aload_n 0, 1) := by decide +kernel
theorem dX1_takeOff_18 : decode cX1_takeOff 18 = .ok (.getfield 9, 3) := by decide +kernel
theorem dX1_takeOff_21 : decode cX1_takeOff 21 = .ok (.iload_n 2, 1) := by decide +kernel
theorem dX1_takeOff_22 : decode cX1_takeOff 22 = .ok (.iconst 1, 1) := by decide +kernel
theorem dX1_takeOff_23 : decode cX1_takeOff 23 = .ok (.iadd, 1) := by decide +kernel
theorem dX1_takeOff_24 : decode cX1_takeOff 24 = .ok (.iaload, 1) := by decide +kernel
theorem dX1_takeOff_25 : decode cX1_takeOff 25 = .ok (.iastore, 1) := by decide +kernel
theorem dX1_takeOff_26 : decode cX1_takeOff 26 = .ok (.aload_n 0, 1) := by decide +kernel
theorem dX1_takeOff_27 : decode cX1_takeOff 27 = .ok (.getfield 15, 3) := by decide +kernel
theorem dX1_takeOff_30 : decode cX1_takeOff 30 = .ok (.iload_n 2, 1) := by decide +kernel
theorem dX1_takeOff_31 : decode cX1_takeOff 31 = .ok (.aload_n 0, 1) := by decide +kernel
theorem dX1_takeOff_32 : decode cX1_takeOff 32 = .ok (.getfield 15, 3) := by decide +kernel
theorem dX1_takeOff_35 : decode cX1_takeOff 35 = .ok (.iload_n 2, 1) := by decide +kernel
theorem dX1_takeOff_36 : decode cX1_takeOff 36 = .ok (.iconst 1, 1) := by decide +kernel
theorem dX1_takeOff_37 : decode cX1_takeOff 37 = .ok (.iadd, 1) := by decide +kernel
theorem dX1_takeOff_38 : decode cX1_takeOff 38 = .ok (.iaload, 1) := by decide +kernel
theorem dX1_takeOff_39 : decode cX1_takeOff 39 = .ok (.iastore, 1) := by decide +kernel
theorem dX1_takeOff_40 : decode cX1_takeOff 40 = .ok (.aload_n 0, 1) := by decide +kernel
theorem dX1_takeOff_41 : decode cX1_takeOff 41 = .ok (.getfield 18, 3) := by decide +kernel
theorem dX1_takeOff_44 : decode cX1_takeOff 44 = .ok (.iload_n 2, 1) := by decide +kernel
theorem dX1_takeOff_45 : decode cX1_takeOff 45 = .ok (.aload_n 0, 1) := by decide +kernel
theorem dX1_takeOff_46 : decode cX1_takeOff 46 = .ok (.getfield 18, 3) := by decide +kernel
theorem dX1_takeOff_49 : decode cX1_takeOff 49 = .ok (.iload_n 2, 1) := by decide +kernel
theorem dX1_takeOff_50 : decode cX1_takeOff 50 = .ok (.iconst 1, 1) := by decide +kernel
theorem dX1_takeOff_51 : decode cX1_takeOff 51 = .ok (.iadd, 1) := by decide +kernel
theorem dX1_takeOff_52 : decode cX1_takeOff 52 = .ok (.iaload, 1) := by decide +kernel
theorem dX1_takeOff_53 : decode cX1_takeOff 53 = .ok (.iastore, 1) := by decide +kernel
theorem dX1_takeOff_54 : decode cX1_takeOff 54 = .ok (.aload_n 0, 1) := by decide +kernel
theorem dX1_takeOff_55 : decode cX1_takeOff 55 = .ok (.getfield 21, 3) := by decide +kernel
theorem dX1_takeOff_58 : decode cX1_takeOff 58 = .ok (.iload_n 2, 1) := by decide +kernel
theorem dX1_takeOff_59 : decode cX1_takeOff 59 = .ok (.aload_n 0, 1) := by decide +kernel
theorem dX1_takeOff_60 : decode cX1_takeOff 60 = .ok (.getfield 21, 3) := by decide +kernel
theorem dX1_takeOff_63 : decode cX1_takeOff 63 = .ok (.iload_n 2, 1) := by decide +kernel
theorem dX1_takeOff_64 : decode cX1_takeOff 64 = .ok (.iconst 1, 1) := by decide +kernel
theorem dX1_takeOff_65 : decode cX1_takeOff 65 = .ok (.iadd, 1) := by decide +kernel
theorem dX1_takeOff_66 : decode cX1_takeOff 66 = .ok (.iaload, 1) := by decide +kernel
theorem dX1_takeOff_67 : decode cX1_takeOff 67 = .ok (.iastore, 1) := by decide +kernel
theorem dX1_takeOff_68 : decode cX1_takeOff 68 = .ok (.iinc 2 1, 3) := by decide +kernel
theorem dX1_takeOff_71 : decode cX1_takeOff 71 = .ok (.goto (-69), 3) := by decide +kernel
theorem dX1_takeOff_74 : decode cX1_takeOff 74 = .ok (.aload_n 0, 1) := by decide +kernel
theorem dX1_takeOff_75 : decode cX1_takeOff 75 = .ok (.dup, 1) := by decide +kernel
theorem dX1_takeOff_76 : decode cX1_takeOff 76 = .ok (.getfield 40, 3) := by decide +kernel
theorem dX1_takeOff_79 : decode cX1_takeOff 79 = .ok (.iconst 1, 1) := by decide +kernel
theorem dX1_takeOff_80 : decode cX1_takeOff 80 = .ok (.isub, 1) := by decide +kernel
theorem dX1_takeOff_81 : decode cX1_takeOff 81 = .ok (.putfield 40, 3) := by decide +kernel
theorem dX1_takeOff_84 : decode cX1_takeOff 84 = .ok (.return_, 1) := by decide +kernel
theorem dX1_payOff_0 : decode cX1_payOff 0 = .ok (.aload_n 0, 1) := by decide +kernel
theorem dX1_payOff_1 : decode cX1_payOff 1 = .ok (.dup, 1) := by decide +kernel
theorem dX1_payOff_2 : decode cX1_payOff 2 = .ok (.getfield 27, 3) := by decide +kernel
theorem dX1_payOff_5 : decode cX1_payOff 5 = .ok (.aload_n 0, 1) := by decide +kernel
theorem dX1_payOff_6 : decode cX1_payOff 6 = .ok (.getfield 15, 3) := by decide +kernel
theorem dX1_payOff_9 : decode cX1_payOff 9 = .ok (.iload_n 1, 1) := by decide +kernel
theorem dX1_payOff_10 : decode cX1_payOff 10 = .ok (.iaload, 1) := by decide +kernel
theorem dX1_payOff_11 : decode cX1_payOff 11 = .ok (.isub, 1) := by decide +kernel
theorem dX1_payOff_12 : decode cX1_payOff 12 = .ok (.putfield 27, 3) := by decide +kernel
theorem dX1_payOff_15 : decode cX1_payOff 15 = .ok (.aload_n 0, 1) := by decide +kernel
theorem dX1_payOff_16 : decode cX1_payOff 16 = .ok (.iload_n 1, 1) := by decide +kernel
theorem dX1_payOff_17 : decode cX1_payOff 17 = .ok (.invokevirtual 63, 3) := by decide +kernel
theorem dX1_payOff_20 : decode cX1_payOff 20 = .ok (.return_, 1) := by decide +kernel
theorem dX1_swapOutermost_0 : decode cX1_swapOutermost 0 = .ok (.aload_n 0, 1) := by decide +kernel
theorem dX1_swapOutermost_1 : decode cX1_swapOutermost 1 = .ok (.getfield 9, 3) := by decide +kernel
theorem dX1_swapOutermost_4 : decode cX1_swapOutermost 4 = .ok (.aload_n 0, 1) := by decide +kernel
theorem dX1_swapOutermost_5 : decode cX1_swapOutermost 5 = .ok (.getfield 40, 3) := by decide +kernel
theorem dX1_swapOutermost_8 : decode cX1_swapOutermost 8 = .ok (.iconst 1, 1) := by decide +kernel
theorem dX1_swapOutermost_9 : decode cX1_swapOutermost 9 = .ok (.isub, 1) := by decide +kernel
theorem dX1_swapOutermost_10 : decode cX1_swapOutermost 10 = .ok (.aload_n 1, 1) := by decide +kernel
theorem dX1_swapOutermost_11 : decode cX1_swapOutermost 11 = .ok (.getfield 9, 3) := by decide +kernel
theorem dX1_swapOutermost_14 : decode cX1_swapOutermost 14 = .ok (.aload_n 1, 1) := by decide +kernel
theorem dX1_swapOutermost_15 : decode cX1_swapOutermost 15 = .ok (.getfield 40, 3) := by decide +kernel
theorem dX1_swapOutermost_18 : decode cX1_swapOutermost 18 = .ok (.iconst 1, 1) := by decide +kernel
theorem dX1_swapOutermost_19 : decode cX1_swapOutermost 19 = .ok (.isub, 1) := by decide +kernel
theorem dX1_swapOutermost_20 : decode cX1_swapOutermost 20 = .ok (.invokestatic 67, 3) := by decide +kernel
theorem dX1_swapOutermost_23 : decode cX1_swapOutermost 23 = .ok (.aload_n 0, 1) := by decide +kernel
theorem dX1_swapOutermost_24 : decode cX1_swapOutermost 24 = .ok (.getfield 15, 3) := by decide +kernel
theorem dX1_swapOutermost_27 : decode cX1_swapOutermost 27 = .ok (.aload_n 0, 1) := by decide +kernel
theorem dX1_swapOutermost_28 : decode cX1_swapOutermost 28 = .ok (.getfield 40, 3) := by decide +kernel
theorem dX1_swapOutermost_31 : decode cX1_swapOutermost 31 = .ok (.iconst 1, 1) := by decide +kernel
theorem dX1_swapOutermost_32 : decode cX1_swapOutermost 32 = .ok (.isub, 1) := by decide +kernel
theorem dX1_swapOutermost_33 : decode cX1_swapOutermost 33 = .ok (.aload_n 1, 1) := by decide +kernel
theorem dX1_swapOutermost_34 : decode cX1_swapOutermost 34 = .ok (.getfield 15, 3) := by decide +kernel
theorem dX1_swapOutermost_37 : decode cX1_swapOutermost 37 = .ok (.aload_n 1, 1) := by decide +kernel
theorem dX1_swapOutermost_38 : decode cX1_swapOutermost 38 = .ok (.getfield 40, 3) := by decide +kernel
theorem dX1_swapOutermost_41 : decode cX1_swapOutermost 41 = .ok (.iconst 1, 1) := by decide +kernel
theorem dX1_swapOutermost_42 : decode cX1_swapOutermost 42 = .ok (.isub, 1) := by decide +kernel
theorem dX1_swapOutermost_43 : decode cX1_swapOutermost 43 = .ok (.invokestatic 67, 3) := by decide +kernel
theorem dX1_swapOutermost_46 : decode cX1_swapOutermost 46 = .ok (.aload_n 0, 1) := by decide +kernel
theorem dX1_swapOutermost_47 : decode cX1_swapOutermost 47 = .ok (.getfield 18, 3) := by decide +kernel
theorem dX1_swapOutermost_50 : decode cX1_swapOutermost 50 = .ok (.aload_n 0, 1) := by decide +kernel
theorem dX1_swapOutermost_51 : decode cX1_swapOutermost 51 = .ok (.getfield 40, 3) := by decide +kernel
theorem dX1_swapOutermost_54 : decode cX1_swapOutermost 54 = .ok (.iconst 1, 1) := by decide +kernel
theorem dX1_swapOutermost_55 : decode cX1_swapOutermost 55 = .ok (.isub, 1) := by decide +kernel
theorem dX1_swapOutermost_56 : decode cX1_swapOutermost 56 = .ok (.aload_n 1, 1) := by decide +kernel
theorem dX1_swapOutermost_57 : decode cX1_swapOutermost 57 = .ok (.getfield 18, 3) := by decide +kernel
theorem dX1_swapOutermost_60 : decode cX1_swapOutermost 60 = .ok (.aload_n 1, 1) := by decide +kernel
theorem dX1_swapOutermost_61 : decode cX1_swapOutermost 61 = .ok (.getfield 40, 3) := by decide +kernel
theorem dX1_swapOutermost_64 : decode cX1_swapOutermost 64 = .ok (.iconst 1, 1) := by decide +kernel
theorem dX1_swapOutermost_65 : decode cX1_swapOutermost 65 = .ok (.isub, 1) := by decide +kernel
theorem dX1_swapOutermost_66 : decode cX1_swapOutermost 66 = .ok (.invokestatic 67, 3) := by decide +kernel
theorem dX1_swapOutermost_69 : decode cX1_swapOutermost 69 = .ok (.aload_n 0, 1) := by decide +kernel
theorem dX1_swapOutermost_70 : decode cX1_swapOutermost 70 = .ok (.getfield 21, 3) := by decide +kernel
theorem dX1_swapOutermost_73 : decode cX1_swapOutermost 73 = .ok (.aload_n 0, 1) := by decide +kernel
theorem dX1_swapOutermost_74 : decode cX1_swapOutermost 74 = .ok (.getfield 40, 3) := by decide +kernel
theorem dX1_swapOutermost_77 : decode cX1_swapOutermost 77 = .ok (.iconst 1, 1) := by decide +kernel
theorem dX1_swapOutermost_78 : decode cX1_swapOutermost 78 = .ok (.isub, 1) := by decide +kernel
theorem dX1_swapOutermost_79 : decode cX1_swapOutermost 79 = .ok (.aload_n 1, 1) := by decide +kernel
theorem dX1_swapOutermost_80 : decode cX1_swapOutermost 80 = .ok (.getfield 21, 3) := by decide +kernel
theorem dX1_swapOutermost_83 : decode cX1_swapOutermost 83 = .ok (.aload_n 1, 1) := by decide +kernel
theorem dX1_swapOutermost_84 : decode cX1_swapOutermost 84 = .ok (.getfield 40, 3) := by decide +kernel
theorem dX1_swapOutermost_87 : decode cX1_swapOutermost 87 = .ok (.iconst 1, 1) := by decide +kernel
theorem dX1_swapOutermost_88 : decode cX1_swapOutermost 88 = .ok (.isub, 1) := by decide +kernel
theorem dX1_swapOutermost_89 : decode cX1_swapOutermost 89 = .ok (.invokestatic 67, 3) := by decide +kernel
theorem dX1_swapOutermost_92 : decode cX1_swapOutermost 92 = .ok (.return_, 1) := by decide +kernel
theorem dX1_swapItems_0 : decode cX1_swapItems 0 = .ok (.iload_n 1, 1) := by decide +kernel
theorem dX1_swapItems_1 : decode cX1_swapItems 1 = .ok (.ifCond .lt 23, 3) := by decide +kernel
theorem dX1_swapItems_4 : decode cX1_swapItems 4 = .ok (.iload_n 3, 1) := by decide +kernel
theorem dX1_swapItems_5 : decode cX1_swapItems 5 = .ok (.ifCond .lt 19, 3) := by decide +kernel
theorem dX1_swapItems_8 : decode cX1_swapItems 8 = .ok (.aload_n 0, 1) := by decide +kernel
theorem dX1_swapItems_9 : decode cX1_swapItems 9 = .ok (.iload_n 1, 1) := by decide +kernel
theorem dX1_swapItems_10 : decode cX1_swapItems 10 = .ok (.iaload, 1) := by decide +kernel
theorem dX1_swapItems_11 : decode cX1_swapItems 11 = .ok (.istore 4, 2) := by decide +kernel
theorem dX1_swapItems_13 : decode cX1_swapItems 13 = .ok (.aload_n 0, 1) := by decide +kernel
theorem dX1_swapItems_14 : decode cX1_swapItems 14 = .ok (.iload_n 1, 1) := by decide +kernel
theorem dX1_swapItems_15 : decode cX1_swapItems 15 = .ok (.aload_n 2, 1) := by decide +kernel
theorem dX1_swapItems_16 : decode cX1_swapItems 16 = .ok (.iload_n 3, 1) := by decide +kernel
theorem dX1_swapItems_17 : decode cX1_swapItems 17 = .ok (.iaload, 1) := by decide +kernel
theorem dX1_swapItems_18 : decode cX1_swapItems 18 = .ok (.iastore, 1) := by decide +kernel
theorem dX1_swapItems_19 : decode cX1_swapItems 19 = .ok (.aload_n 2, 1) := by decide +kernel
theorem dX1_swapItems_20 : decode cX1_swapItems 20 = .ok (.iload_n 3, 1) := by decide +kernel
theorem dX1_swapItems_21 : decode cX1_swapItems 21 = .ok (.iload 4, 2) := by decide +kernel
theorem dX1_swapItems_23 : decode cX1_swapItems 23 = .ok (.iastore, 1) := by decide +kernel
theorem dX1_swapItems_24 : decode cX1_swapItems 24 = .ok (.return_, 1) := by decide +kernel
theorem dX1_passNight_0 : decode cX1_passNight 0 = .ok (.iconst 0, 1) := by decide +kernel
theorem dX1_passNight_1 : decode cX1_passNight 1 = .ok (.istore_n 1, 1) := by decide +kernel
theorem dX1_passNight_2 : decode cX1_passNight 2 = .ok (.iconst 0, 1) := by decide +kernel
theorem dX1_passNight_3 : decode cX1_passNight 3 = .ok (.istore_n 2, 1) := by decide +kernel
theorem dX1_passNight_4 : decode cX1_passNight 4 = .ok (.iload_n 2, 1) := by decide +kernel
theorem dX1_passNight_5 : decode cX1_passNight 5 = .ok (.aload_n 0, 1) := by decide +kernel
theorem dX1_passNight_6 : decode cX1_passNight 6 = .ok (.getfield 40, 3) := by decide +kernel
theorem dX1_passNight_9 : decode cX1_passNight 9 = .ok (.if_icmp .ge 44, 3) := by decide +kernel
theorem dX1_passNight_12 : decode cX1_passNight 12 = .ok (.aload_n 0, 1) := by decide +kernel
theorem dX1_passNight_13 : decode cX1_passNight 13 = .ok (.getfield 15, 3) := by decide +kernel
theorem dX1_passNight_16 : decode cX1_passNight 16 = .ok (.iload_n 2, 1) := by decide +kernel
theorem dX1_passNight_17 : decode cX1_passNight 17 = .ok (.aload_n 0, 1) := by decide +kernel
theorem dX1_passNight_18 : decode cX1_passNight 18 = .ok (.getfield 15, 3) := by decide +kernel
theorem dX1_passNight_21 : decode cX1_passNight 21 = .ok (.iload_n 2, 1) := by decide +kernel
theorem dX1_passNight_22 : decode cX1_passNight 22 = .ok (.iaload, 1) := by decide +kernel
theorem dX1_passNight_23 : decode cX1_passNight 23 = .ok (.aload_n 0, 1) := by decide +kernel
theorem dX1_passNight_24 : decode cX1_passNight 24 = .ok (.getfield 18, 3) := by decide +kernel
theorem dX1_passNight_27 : decode cX1_passNight 27 = .ok (.iload_n 2, 1) := by decide +kernel
theorem dX1_passNight_28 : decode cX1_passNight 28 = .ok (.iaload, 1) := by decide +kernel
theorem dX1_passNight_29 : decode cX1_passNight 29 = .ok (.invokestatic 71, 3) := by decide +kernel
theorem dX1_passNight_32 : decode cX1_passNight 32 = .ok (.iastore, 1) := by decide +kernel
theorem dX1_passNight_33 : decode cX1_passNight 33 = .ok (.iload_n 1, 1) := by decide +kernel
theorem dX1_passNight_34 : decode cX1_passNight 34 = .ok (.aload_n 0, 1) := by decide +kernel
theorem dX1_passNight_35 : decode cX1_passNight 35 = .ok (.getfield 24, 3) := by decide +kernel
theorem dX1_passNight_38 : decode cX1_passNight 38 = .ok (.aload_n 0, 1) := by decide +kernel
theorem dX1_passNight_39 : decode cX1_passNight 39 = .ok (.getfield 9, 3) := by decide +kernel
theorem dX1_passNight_42 : decode cX1_passNight 42 = .ok (.iload_n 2, 1) := by decide +kernel
theorem dX1_passNight_43 : decode cX1_passNight 43 = .ok (.iaload, 1) := by decide +kernel
theorem dX1_passNight_44 : decode cX1_passNight 44 = .ok (.iaload, 1) := by decide +kernel
theorem dX1_passNight_45 : decode cX1_passNight 45 = .ok (.iadd, 1) := by decide +kernel
theorem dX1_passNight_46 : decode cX1_passNight 46 = .ok (.istore_n 1, 1) := by decide +kernel
theorem dX1_passNight_47 : decode cX1_passNight 47 = .ok (.iinc 2 1, 3) := by decide +kernel
theorem dX1_passNight_50 : decode cX1_passNight 50 = .ok (.goto (-46), 3) := by decide +kernel
theorem dX1_passNight_53 : decode cX1_passNight 53 = .ok (.aload_n 0, 1) := by decide +kernel
theorem dX1_passNight_54 : decode cX1_passNight 54 = .ok (.aload_n 0, 1) := by decide +kernel
theorem dX1_passNight_55 : decode cX1_passNight 55 = .ok (.getfield 27, 3) := by decide +kernel
theorem dX1_passNight_58 : decode cX1_passNight 58 = .ok (.aload_n 0, 1) := by decide +kernel
theorem dX1_passNight_59 : decode cX1_passNight 59 = .ok (.getfield 31, 3) := by decide +kernel
theorem dX1_passNight_62 : decode cX1_passNight 62 = .ok (.iload_n 1, 1) := by decide +kernel
theorem dX1_passNight_63 : decode cX1_passNight 63 = .ok (.invokestatic 75, 3) := by decide +kernel
theorem dX1_passNight_66 : decode cX1_passNight 66 = .ok (.putfield 27, 3) := by decide +kernel
theorem dX1_passNight_69 : decode cX1_passNight 69 = .ok (.return_, 1) := by decide +kernel
theorem dX1_isOverburdened_0 : decode cX1_isOverburdened 0 = .ok (.aload_n 0, 1) := by decide +kernel
theorem dX1_isOverburdened_1 : decode cX1_isOverburdened 1 = .ok (.invokevirtual 79, 3) := by decide +kernel
theorem dX1_isOverburdened_4 : decode cX1_isOverburdened 4 = .ok (.aload_n 0, 1) := by decide +kernel
theorem dX1_isOverburdened_5 : decode cX1_isOverburdened 5 = .ok (.getfield 34, 3) := by decide +kernel
theorem dX1_isOverburdened_8 : decode cX1_isOverburdened 8 = .ok (.iload_n 1, 1) := by decide +kernel
theorem dX1_isOverburdened_9 : decode cX1_isOverburdened 9 = .ok (.isub, 1) := by decide +kernel
theorem dX1_isOverburdened_10 : decode cX1_isOverburdened 10 = .ok (.iconst 0, 1) := by decide +kernel
theorem dX1_isOverburdened_11 : decode cX1_isOverburdened 11 = .ok (.invokestatic 83, 3) := by decide +kernel
theorem dX1_isOverburdened_14 : decode cX1_isOverburdened 14 = .ok (.if_icmp .le 7, 3) := by decide +kernel
theorem dX1_isOverburdened_17 : decode cX1_isOverburdened 17 = .ok (.iconst 1, 1) := by decide +kernel
theorem dX1_isOverburdened_18 : decode cX1_isOverburdened 18 = .ok (.goto 4, 3) := by decide +kernel
theorem dX1_isOverburdened_21 : decode cX1_isOverburdened 21 = .ok (.iconst 0, 1) := by decide +kernel
theorem dX1_isOverburdened_22 : decode cX1_isOverburdened 22 = .ok (.ireturn, 1) := by decide +kernel
theorem dX1_fall_0 : decode cX1_fall 0 = .ok (.aload_n 0, 1) := by decide +kernel
theorem dX1_fall_1 : decode cX1_fall 1 = .ok (.iconst 0, 1) := by decide +kernel
theorem dX1_fall_2 : decode cX1_fall 2 = .ok (.putfield 27, 3) := by decide +kernel
theorem dX1_fall_5 : decode cX1_fall 5 = .ok (.aload_n 0, 1) := by decide +kernel
theorem dX1_fall_6 : decode cX1_fall 6 = .ok (.getfield 37, 3) := by decide +kernel
theorem dX1_fall_9 : decode cX1_fall 9 = .ok (.bipush (-4), 2) := by decide +kernel
theorem dX1_fall_11 : decode cX1_fall 11 = .ok (.if_icmp .ne 8, 3) := by decide +kernel
theorem dX1_fall_14 : decode cX1_fall 14 = .ok (.aload_n 0, 1) := by decide +kernel
theorem dX1_fall_15 : decode cX1_fall 15 = .ok (.iload_n 1, 1) := by decide +kernel
theorem dX1_fall_16 : decode cX1_fall 16 = .ok (.putfield 37, 3) := by decide +kernel
theorem dX1_fall_19 : decode cX1_fall 19 = .ok (.return_, 1) := by decide +kernel
theorem dX2_init_0 : decode cX2_init 0 = .ok (.aload_n 0, 1) := by decide +kernel
theorem dX2_init_1 : decode cX2_init 1 = .ok (.invokespecial 3, 3) := by decide +kernel
theorem dX2_init_4 : decode cX2_init 4 = .ok (.aload_n 0, 1) := by decide +kernel
theorem dX2_init_5 : decode cX2_init 5 = .ok (.bipush 7, 2) := by decide +kernel
theorem dX2_init_7 : decode cX2_init 7 = .ok (.bipush 8, 2) := by decide +kernel
theorem dX2_init_9 : decode cX2_init 9 = .ok (.multianewarray 9 2, 4) := by decide +kernel
theorem dX2_init_13 : decode cX2_init 13 = .ok (.putfield 11, 3) := by decide +kernel
theorem dX2_init_16 : decode cX2_init 16 = .ok (.aload_n 0, 1) := by decide +kernel
theorem dX2_init_17 : decode cX2_init 17 = .ok (.bipush 6, 2) := by decide +kernel
theorem dX2_init_19 : decode cX2_init 19 = .ok (.newarray .int, 2) := by decide +kernel
theorem dX2_init_21 : decode cX2_init 21 = .ok (.putfield 16, 3) := by decide +kernel
theorem dX2_init_24 : decode cX2_init 24 = .ok (.aload_n 0, 1) := by decide +kernel
theorem dX2_init_25 : decode cX2_init 25 = .ok (.bipush 6, 2) := by decide +kernel
theorem dX2_init_27 : decode cX2_init 27 = .ok (.newarray .int, 2) := by decide +kernel
theorem dX2_init_29 : decode cX2_init 29 = .ok (.putfield 20, 3) := by decide +kernel
theorem dX2_init_32 : decode cX2_init 32 = .ok (.return_, 1) := by decide +kernel
theorem dX2_plan_0 : decode cX2_plan 0 = .ok (.aload_n 0, 1) := by decide +kernel
theorem dX2_plan_1 : decode cX2_plan 1 = .ok (.aload_n 1, 1) := by decide +kernel
theorem dX2_plan_2 : decode cX2_plan 2 = .ok (.putfield 23, 3) := by decide +kernel
theorem dX2_plan_5 : decode cX2_plan 5 = .ok (.aload_n 0, 1) := by decide +kernel
theorem dX2_plan_6 : decode cX2_plan 6 = .ok (.iload_n 2, 1) := by decide +kernel
theorem dX2_plan_7 : decode cX2_plan 7 = .ok (.putfield 27, 3) := by decide +kernel
theorem dX2_plan_10 : decode cX2_plan 10 = .ok (.aload_n 0, 1) := by decide +kernel
theorem dX2_plan_11 : decode cX2_plan 11 = .ok (.sipush 361, 3) := by decide +kernel
theorem dX2_plan_14 : decode cX2_plan 14 = .ok (.putfield 31, 3) := by decide +kernel
theorem dX2_plan_17 : decode cX2_plan 17 = .ok (.aload_n 0, 1) := by decide +kernel
theorem dX2_plan_18 : decode cX2_plan 18 = .ok (.iconst 0, 1) := by decide +kernel
theorem dX2_plan_19 : decode cX2_plan 19 = .ok (.putfield 34, 3) := by decide +kernel
theorem dX2_plan_22 : decode cX2_plan 22 = .ok (.aload_n 1, 1) := by decide +kernel
theorem dX2_plan_23 : decode cX2_plan 23 = .ok (.getfield 37, 3) := by decide +kernel
theorem dX2_plan_26 : decode cX2_plan 26 = .ok (.iconst 0, 1) := by decide +kernel
theorem dX2_plan_27 : decode cX2_plan 27 = .ok (.aload_n 0, 1) := by decide +kernel
theorem dX2_plan_28 : decode cX2_plan 28 = .ok (.getfield 11, 3) := by decide +kernel
theorem dX2_plan_31 : decode cX2_plan 31 = .ok (.iconst 0, 1) := by decide +kernel
theorem dX2_plan_32 : decode cX2_plan 32 = .ok (.aaload, 1) := by decide +kernel
theorem dX2_plan_33 : decode cX2_plan 33 = .ok (.iconst 0, 1) := by decide +kernel
theorem dX2_plan_34 : decode cX2_plan 34 = .ok (.bipush 8, 2) := by decide +kernel
theorem dX2_plan_36 : decode cX2_plan 36 = .ok (.invokestatic 42, 3) := by decide +kernel
theorem dX2_plan_39 : decode cX2_plan 39 = .ok (.aload_n 0, 1) := by decide +kernel
theorem dX2_plan_40 : decode cX2_plan 40 = .ok (.iconst 0, 1) := by decide +kernel
theorem dX2_plan_41 : decode cX2_plan 41 = .ok (.aload_n 1, 1) := by decide +kernel
theorem dX2_plan_42 : decode cX2_plan 42 = .ok (.invokevirtual 48, 3) := by decide +kernel
theorem dX2_plan_45 : decode cX2_plan 45 = .ok (.iconst 0, 1) := by decide +kernel
theorem dX2_plan_46 : decode cX2_plan 46 = .ok (.aload_n 1, 1) := by decide +kernel
theorem dX2_plan_47 : decode cX2_plan 47 = .ok (.getfield 52, 3) := by decide +kernel
theorem dX2_plan_50 : decode cX2_plan 50 = .ok (.iconst 0, 1) := by decide +kernel
theorem dX2_plan_51 : decode cX2_plan 51 = .ok (.invokevirtual 55, 3) := by decide +kernel
theorem dX2_plan_54 : decode cX2_plan 54 = .ok (.return_, 1) := by decide +kernel
theorem dX2_tryEach_0 : decode cX2_tryEach 0 = .ok (.iload_n 2, 1) := by decide +kernel
theorem dX2_tryEach_1 : decode cX2_tryEach 1 = .ok (.ifCond .ne 12, 3) := by decide +kernel
theorem dX2_tryEach_4 : decode cX2_tryEach 4 = .ok (.aload_n 0, 1) := by decide +kernel
theorem dX2_tryEach_5 : decode cX2_tryEach 5 = .ok (.iload_n 1, 1) := by decide +kernel
theorem dX2_tryEach_6 : decode cX2_tryEach 6 = .ok (.iload_n 3, 1) := by decide +kernel
theorem dX2_tryEach_7 : decode cX2_tryEach 7 = .ok (.iload 5, 2) := by decide +kernel
theorem dX2_tryEach_9 : decode cX2_tryEach 9 = .ok (.invokevirtual 59, 3) := by decide +kernel
theorem dX2_tryEach_12 : decode cX2_tryEach 12 = .ok (.return_, 1) := by decide +kernel
theorem dX2_tryEach_13 : decode cX2_tryEach 13 = .ok (.iload_n 1, 1) := by decide +kernel
theorem dX2_tryEach_14 : decode cX2_tryEach 14 = .ok (.bipush 6, 2) := by decide +kernel
theorem dX2_tryEach_16 : decode cX2_tryEach 16 = .ok (.if_icmp .ge 10, 3) := by decide +kernel
theorem dX2_tryEach_19 : decode cX2_tryEach 19 = .ok (.aload_n 0, 1) := by decide +kernel
theorem dX2_tryEach_20 : decode cX2_tryEach 20 = .ok (.getfield 23, 3) := by decide +kernel
theorem dX2_tryEach_23 : decode cX2_tryEach 23 = .ok (.ifnonnull 4, 3) := by decide +kernel
theorem dX2_tryEach_26 : decode cX2_tryEach 26 = .ok (.return_, 1) := by decide +kernel
theorem dX2_tryEach_27 : decode cX2_tryEach 27 = .ok (.iconst 0, 1) := by decide +kernel
theorem dX2_tryEach_28 : decode cX2_tryEach 28 = .ok (.istore 6, 2) := by decide +kernel
theorem dX2_tryEach_30 : decode cX2_tryEach 30 = .ok (.iload 6, 2) := by decide +kernel
theorem dX2_tryEach_32 : decode cX2_tryEach 32 = .ok (.aload_n 0, 1) := by decide +kernel
theorem dX2_tryEach_33 : decode cX2_tryEach 33 = .ok (.getfield 23, 3) := by decide +kernel
theorem dX2_tryEach_36 : decode cX2_tryEach 36 = .ok (.getfield 63, 3) := by decide +kernel
theorem dX2_tryEach_39 : decode cX2_tryEach 39 = .ok (.if_icmp .ge 50, 3) := by decide +kernel
theorem dX2_tryEach_42 : decode cX2_tryEach 42 = .ok (.iload_n 2, 1) := by decide +kernel
theorem dX2_tryEach_43 : decode cX2_tryEach 43 = .ok (.iload 6, 2) := by decide +kernel
theorem dX2_tryEach_45 : decode cX2_tryEach 45 = .ok (.invokestatic 66, 3) := by decide +kernel
theorem dX2_tryEach_48 : decode cX2_tryEach 48 = .ok (.ifCond .eq 35, 3) := by decide +kernel
theorem dX2_tryEach_51 : decode cX2_tryEach 51 = .ok (.aload_n 0, 1) := by decide +kernel
theorem dX2_tryEach_52 : decode cX2_tryEach 52 = .ok (.getfield 27, 3) := by decide +kernel
theorem dX2_tryEach_55 : decode cX2_tryEach 55 = .ok (.iload_n 2, 1) := by decide +kernel
theorem dX2_tryEach_56 : decode cX2_tryEach 56 = .ok (.iload 6, 2) := by decide +kernel
theorem dX2_tryEach_58 : decode cX2_tryEach 58 = .ok (.invokestatic 70, 3) := by decide +kernel
theorem dX2_tryEach_61 : decode cX2_tryEach 61 = .ok (.ifCond .eq 22, 3) := by decide +kernel
theorem dX2_tryEach_64 : decode cX2_tryEach 64 = .ok (.aload_n 0, 1) := by decide +kernel
theorem dX2_tryEach_65 : decode cX2_tryEach 65 = .ok (.getfield 16, 3) := by decide +kernel
theorem dX2_tryEach_68 : decode cX2_tryEach 68 = .ok (.iload_n 1, 1) := by decide +kernel
theorem dX2_tryEach_69 : decode cX2_tryEach 69 = .ok (.iload 6, 2) := by decide +kernel
theorem dX2_tryEach_71 : decode cX2_tryEach 71 = .ok (.iastore, 1) := by decide +kernel
theorem dX2_tryEach_72 : decode cX2_tryEach 72 = .ok (.aload_n 0, 1) := by decide +kernel
theorem dX2_tryEach_73 : decode cX2_tryEach 73 = .ok (.iload_n 1, 1) := by decide +kernel
theorem dX2_tryEach_74 : decode cX2_tryEach 74 = .ok (.iload_n 2, 1) := by decide +kernel
theorem dX2_tryEach_75 : decode cX2_tryEach 75 = .ok (.iload_n 3, 1) := by decide +kernel
theorem dX2_tryEach_76 : decode cX2_tryEach 76 = .ok (.iload 4, 2) := by decide +kernel
theorem dX2_tryEach_78 : decode cX2_tryEach 78 = .ok (.iload 5, 2) := by decide +kernel
theorem dX2_tryEach_80 : decode cX2_tryEach 80 = .ok (.invokevirtual 74, 3) := by decide +kernel
theorem dX2_tryEach_83 : decode cX2_tryEach 83 = .ok (.iinc 6 1, 3) := by decide +kernel
theorem dX2_tryEach_86 : decode cX2_tryEach 86 = .ok (.goto (-56), 3) := by decide +kernel
theorem dX2_tryEach_89 : decode cX2_tryEach 89 = .ok (.return_, 1) := by decide +kernel
theorem dX2_payNext_0 : decode cX2_payNext 0 = .ok (.aload_n 0, 1) := by decide +kernel
theorem dX2_payNext_1 : decode cX2_payNext 1 = .ok (.getfield 11, 3) := by decide +kernel
theorem dX2_payNext_4 : decode cX2_payNext 4 = .ok (.iload_n 1, 1) := by decide +kernel
theorem dX2_payNext_5 : decode cX2_payNext 5 = .ok (.iconst 1, 1) := by decide +kernel
theorem dX2_payNext_6 : decode cX2_payNext 6 = .ok (.iadd, 1) := by decide +kernel
theorem dX2_payNext_7 : decode cX2_payNext 7 = .ok (.aaload, 1) := by decide +kernel
theorem dX2_payNext_8 : decode cX2_payNext 8 = .ok (.astore 6, 2) := by decide +kernel
theorem dX2_payNext_10 : decode cX2_payNext 10 = .ok (.aload_n 0, 1) := by decide +kernel
theorem dX2_payNext_11 : decode cX2_payNext 11 = .ok (.getfield 11, 3) := by decide +kernel
theorem dX2_payNext_14 : decode cX2_payNext 14 = .ok (.iload_n 1, 1) := by decide +kernel
theorem dX2_payNext_15 : decode cX2_payNext 15 = .ok (.aaload, 1) := by decide +kernel
theorem dX2_payNext_16 : decode cX2_payNext 16 = .ok (.iconst 0, 1) := by decide +kernel
theorem dX2_payNext_17 : decode cX2_payNext 17 = .ok (.aload 6, 2) := by decide +kernel
theorem dX2_payNext_19 : decode cX2_payNext 19 = .ok (.iconst 0, 1) := by decide +kernel
theorem dX2_payNext_20 : decode cX2_payNext 20 = .ok (.bipush 8, 2) := by decide +kernel
theorem dX2_payNext_22 : decode cX2_payNext 22 = .ok (.invokestatic 42, 3) := by decide +kernel
theorem dX2_payNext_25 : decode cX2_payNext 25 = .ok (.aload_n 0, 1) := by decide +kernel
theorem dX2_payNext_26 : decode cX2_payNext 26 = .ok (.getfield 16, 3) := by decide +kernel
theorem dX2_payNext_29 : decode cX2_payNext 29 = .ok (.iload_n 1, 1) := by decide +kernel
theorem dX2_payNext_30 : decode cX2_payNext 30 = .ok (.iaload, 1) := by decide +kernel
theorem dX2_payNext_31 : decode cX2_payNext 31 = .ok (.istore 7, 2) := by decide +kernel
theorem dX2_payNext_33 : decode cX2_payNext 33 = .ok (.aload_n 0, 1) := by decide +kernel
theorem dX2_payNext_34 : decode cX2_payNext 34 = .ok (.iload_n 2, 1) := by decide +kernel
theorem dX2_payNext_35 : decode cX2_payNext 35 = .ok (.invokevirtual 77, 3) := by decide +kernel
theorem dX2_payNext_38 : decode cX2_payNext 38 = .ok (.istore 8, 2) := by decide +kernel
theorem dX2_payNext_40 : decode cX2_payNext 40 = .ok (.aload_n 0, 1) := by decide +kernel
theorem dX2_payNext_41 : decode cX2_payNext 41 = .ok (.getfield 23, 3) := by decide +kernel
theorem dX2_payNext_44 : decode cX2_payNext 44 = .ok (.getfield 81, 3) := by decide +kernel
theorem dX2_payNext_47 : decode cX2_payNext 47 = .ok (.iload 8, 2) := by decide +kernel
theorem dX2_payNext_49 : decode cX2_payNext 49 = .ok (.isub, 1) := by decide +kernel
theorem dX2_payNext_50 : decode cX2_payNext 50 = .ok (.iconst 0, 1) := by decide +kernel
theorem dX2_payNext_51 : decode cX2_payNext 51 = .ok (.invokestatic 84, 3) := by decide +kernel
theorem dX2_payNext_54 : decode cX2_payNext 54 = .ok (.istore 9, 2) := by decide +kernel
theorem dX2_payNext_56 : decode cX2_payNext 56 = .ok (.aload_n 0, 1) := by decide +kernel
theorem dX2_payNext_57 : decode cX2_payNext 57 = .ok (.getfield 31, 3) := by decide +kernel
theorem dX2_payNext_60 : decode cX2_payNext 60 = .ok (.sipush 360, 3) := by decide +kernel
theorem dX2_payNext_63 : decode cX2_payNext 63 = .ok (.invokestatic 90, 3) := by decide +kernel
theorem dX2_payNext_66 : decode cX2_payNext 66 = .ok (.istore 10, 2) := by decide +kernel
theorem dX2_payNext_68 : decode cX2_payNext 68 = .ok (.iload_n 3, 1) := by decide +kernel
theorem dX2_payNext_69 : decode cX2_payNext 69 = .ok (.istore 11, 2) := by decide +kernel
theorem dX2_payNext_71 : decode cX2_payNext 71 = .ok (.iload 4, 2) := by decide +kernel
theorem dX2_payNext_73 : decode cX2_payNext 73 = .ok (.istore 12, 2) := by decide +kernel
theorem dX2_payNext_75 : decode cX2_payNext 75 = .ok (.iload 12, 2) := by decide +kernel
theorem dX2_payNext_77 : decode cX2_payNext 77 = .ok (.aload 6, 2) := by decide +kernel
theorem dX2_payNext_79 : decode cX2_payNext 79 = .ok (.iload 7, 2) := by decide +kernel
theorem dX2_payNext_81 : decode cX2_payNext 81 = .ok (.iaload, 1) := by decide +kernel
theorem dX2_payNext_82 : decode cX2_payNext 82 = .ok (.if_icmp .ge 59, 3) := by decide +kernel
theorem dX2_payNext_85 : decode cX2_payNext 85 = .ok (.iload 11, 2) := by decide +kernel
theorem dX2_payNext_87 : decode cX2_payNext 87 = .ok (.iload 10, 2) := by decide +kernel
theorem dX2_payNext_89 : decode cX2_payNext 89 = .ok (.if_icmp .ge 52, 3) := by decide +kernel
theorem dX2_payNext_92 : decode cX2_payNext 92 = .ok (.iload 12, 2) := by decide +kernel
theorem dX2_payNext_94 : decode cX2_payNext 94 = .ok (.iload 9, 2) := by decide +kernel
theorem dX2_payNext_96 : decode cX2_payNext 96 = .ok (.iload 10, 2) := by decide +kernel
theorem dX2_payNext_98 : decode cX2_payNext 98 = .ok (.iload 11, 2) := by decide +kernel
theorem dX2_payNext_100 : decode cX2_payNext 100 = .ok (.isub, 1) := by decide +kernel
theorem dX2_payNext_101 : decode cX2_payNext 101 = .ok (.imul, 1) := by decide +kernel
theorem dX2_payNext_102 : decode cX2_payNext 102 = .ok (.iadd, 1) := by decide +kernel
theorem dX2_payNext_103 : decode cX2_payNext 103 = .ok (.aload 6, 2) := by decide +kernel
theorem dX2_payNext_105 : decode cX2_payNext 105 = .ok (.iload 7, 2) := by decide +kernel
theorem dX2_payNext_107 : decode cX2_payNext 107 = .ok (.iaload, 1) := by decide +kernel
theorem dX2_payNext_108 : decode cX2_payNext 108 = .ok (.if_icmp .ge 4, 3) := by decide +kernel
theorem dX2_payNext_111 : decode cX2_payNext 111 = .ok (.return_, 1) := by decide +kernel
theorem dX2_payNext_112 : decode cX2_payNext 112 = .ok (.iload 12, 2) := by decide +kernel
theorem dX2_payNext_114 : decode cX2_payNext 114 = .ok (.aload_n 0, 1) := by decide +kernel
theorem dX2_payNext_115 : decode cX2_payNext 115 = .ok (.getfield 23, 3) := by decide +kernel
theorem dX2_payNext_118 : decode cX2_payNext 118 = .ok (.getfield 81, 3) := by decide +kernel
theorem dX2_payNext_121 : decode cX2_payNext 121 = .ok (.iload 8, 2) := by decide +kernel
theorem dX2_payNext_123 : decode cX2_payNext 123 = .ok (.invokestatic 93, 3) := by decide +kernel
theorem dX2_payNext_126 : decode cX2_payNext 126 = .ok (.istore 12, 2) := by decide +kernel
theorem dX2_payNext_128 : decode cX2_payNext 128 = .ok (.aload_n 0, 1) := by decide +kernel
theorem dX2_payNext_129 : decode cX2_payNext 129 = .ok (.aload 6, 2) := by decide +kernel
theorem dX2_payNext_131 : decode cX2_payNext 131 = .ok (.iload_n 2, 1) := by decide +kernel
theorem dX2_payNext_132 : decode cX2_payNext 132 = .ok (.invokevirtual 97, 3) := by decide +kernel
theorem dX2_payNext_135 : decode cX2_payNext 135 = .ok (.iinc 11 1, 3) := by decide +kernel
theorem dX2_payNext_138 : decode cX2_payNext 138 = .ok (.goto (-63), 3) := by decide +kernel
theorem dX2_payNext_141 : decode cX2_payNext 141 = .ok (.aload 6, 2) := by decide +kernel
theorem dX2_payNext_143 : decode cX2_payNext 143 = .ok (.iload 7, 2) := by decide +kernel
theorem dX2_payNext_145 : decode cX2_payNext 145 = .ok (.iaload, 1) := by decide +kernel
theorem dX2_payNext_146 : decode cX2_payNext 146 = .ok (.istore 13, 2) := by decide +kernel
theorem dX2_payNext_148 : decode cX2_payNext 148 = .ok (.iload 12, 2) := by decide +kernel
theorem dX2_payNext_150 : decode cX2_payNext 150 = .ok (.iload 13, 2) := by decide +kernel
theorem dX2_payNext_152 : decode cX2_payNext 152 = .ok (.if_icmp .lt 30, 3) := by decide +kernel
theorem dX2_payNext_155 : decode cX2_payNext 155 = .ok (.aload_n 0, 1) := by decide +kernel
theorem dX2_payNext_156 : decode cX2_payNext 156 = .ok (.iload_n 1, 1) := by decide +kernel
theorem dX2_payNext_157 : decode cX2_payNext 157 = .ok (.iconst 1, 1) := by decide +kernel
theorem dX2_payNext_158 : decode cX2_payNext 158 = .ok (.iadd, 1) := by decide +kernel
theorem dX2_payNext_159 : decode cX2_payNext 159 = .ok (.iload_n 2, 1) := by decide +kernel
theorem dX2_payNext_160 : decode cX2_payNext 160 = .ok (.iconst 1, 1) := by decide +kernel
theorem dX2_payNext_161 : decode cX2_payNext 161 = .ok (.iload 7, 2) := by decide +kernel
theorem dX2_payNext_163 : decode cX2_payNext 163 = .ok (.ishl, 1) := by decide +kernel
theorem dX2_payNext_164 : decode cX2_payNext 164 = .ok (.iconst (-1), 1) := by decide +kernel
theorem dX2_payNext_165 : decode cX2_payNext 165 = .ok (.ixor, 1) := by decide +kernel
theorem dX2_payNext_166 : decode cX2_payNext 166 = .ok (.iand, 1) := by decide +kernel
theorem dX2_payNext_167 : decode cX2_payNext 167 = .ok (.iload 11, 2) := by decide +kernel
theorem dX2_payNext_169 : decode cX2_payNext 169 = .ok (.iload 12, 2) := by decide +kernel
theorem dX2_payNext_171 : decode cX2_payNext 171 = .ok (.iload 13, 2) := by decide +kernel
theorem dX2_payNext_173 : decode cX2_payNext 173 = .ok (.isub, 1) := by decide +kernel
theorem dX2_payNext_174 : decode cX2_payNext 174 = .ok (.iload 5, 2) := by decide +kernel
theorem dX2_payNext_176 : decode cX2_payNext 176 = .ok (.iload 13, 2) := by decide +kernel
theorem dX2_payNext_178 : decode cX2_payNext 178 = .ok (.iadd, 1) := by decide +kernel
theorem dX2_payNext_179 : decode cX2_payNext 179 = .ok (.invokevirtual 55, 3) := by decide +kernel
theorem dX2_payNext_182 : decode cX2_payNext 182 = .ok (.return_, 1) := by decide +kernel
theorem dX2_taxesOf_0 : decode cX2_taxesOf 0 = .ok (.iconst 0, 1) := by decide +kernel
theorem dX2_taxesOf_1 : decode cX2_taxesOf 1 = .ok (.istore_n 2, 1) := by decide +kernel
theorem dX2_taxesOf_2 : decode cX2_taxesOf 2 = .ok (.iconst 0, 1) := by decide +kernel
theorem dX2_taxesOf_3 : decode cX2_taxesOf 3 = .ok (.istore_n 3, 1) := by decide +kernel
theorem dX2_taxesOf_4 : decode cX2_taxesOf 4 = .ok (.iload_n 3, 1) := by decide +kernel
theorem dX2_taxesOf_5 : decode cX2_taxesOf 5 = .ok (.aload_n 0, 1) := by decide +kernel
theorem dX2_taxesOf_6 : decode cX2_taxesOf 6 = .ok (.getfield 23, 3) := by decide +kernel
theorem dX2_taxesOf_9 : decode cX2_taxesOf 9 = .ok (.getfield 63, 3) := by decide +kernel
theorem dX2_taxesOf_12 : decode cX2_taxesOf 12 = .ok (.if_icmp .ge 37, 3) := by decide +kernel
theorem dX2_taxesOf_15 : decode cX2_taxesOf 15 = .ok (.iload_n 1, 1) := by decide +kernel
theorem dX2_taxesOf_16 : decode cX2_taxesOf 16 = .ok (.iload_n 3, 1) := by decide +kernel
theorem dX2_taxesOf_17 : decode cX2_taxesOf 17 = .ok (.invokestatic 66, 3) := by decide +kernel
theorem dX2_taxesOf_20 : decode cX2_taxesOf 20 = .ok (.ifCond .eq 23, 3) := by decide +kernel
theorem dX2_taxesOf_23 : decode cX2_taxesOf 23 = .ok (.iload_n 2, 1) := by decide +kernel
theorem dX2_taxesOf_24 : decode cX2_taxesOf 24 = .ok (.aload_n 0, 1) := by decide +kernel
theorem dX2_taxesOf_25 : decode cX2_taxesOf 25 = .ok (.getfield 23, 3) := by decide +kernel
theorem dX2_taxesOf_28 : decode cX2_taxesOf 28 = .ok (.getfield 101, 3) := by decide +kernel
theorem dX2_taxesOf_31 : decode cX2_taxesOf 31 = .ok (.aload_n 0, 1) := by decide +kernel
theorem dX2_taxesOf_32 : decode cX2_taxesOf 32 = .ok (.getfield 23, 3) := by decide +kernel
theorem dX2_taxesOf_35 : decode cX2_taxesOf 35 = .ok (.getfield 104, 3) := by decide +kernel
theorem dX2_taxesOf_38 : decode cX2_taxesOf 38 = .ok (.iload_n 3, 1) := by decide +kernel
theorem dX2_taxesOf_39 : decode cX2_taxesOf 39 = .ok (.iaload, 1) := by decide +kernel
theorem dX2_taxesOf_40 : decode cX2_taxesOf 40 = .ok (.iaload, 1) := by decide +kernel
theorem dX2_taxesOf_41 : decode cX2_taxesOf 41 = .ok (.iadd, 1) := by decide +kernel
theorem dX2_taxesOf_42 : decode cX2_taxesOf 42 = .ok (.istore_n 2, 1) := by decide +kernel
theorem dX2_taxesOf_43 : decode cX2_taxesOf 43 = .ok (.iinc 3 1, 3) := by decide +kernel
theorem dX2_taxesOf_46 : decode cX2_taxesOf 46 = .ok (.goto (-42), 3) := by decide +kernel
theorem dX2_taxesOf_49 : decode cX2_taxesOf 49 = .ok (.iload_n 2, 1) := by decide +kernel
theorem dX2_taxesOf_50 : decode cX2_taxesOf 50 = .ok (.ireturn, 1) := by decide +kernel
theorem dX2_growAmounts_0 : decode cX2_growAmounts 0 = .ok (.iconst 0, 1) := by decide +kernel
theorem dX2_growAmounts_1 : decode cX2_growAmounts 1 = .ok (.istore_n 3, 1) := by decide +kernel
theorem dX2_growAmounts_2 : decode cX2_growAmounts 2 = .ok (.iload_n 3, 1) := by decide +kernel
theorem dX2_growAmounts_3 : decode cX2_growAmounts 3 = .ok (.aload_n 0, 1) := by decide +kernel
theorem dX2_growAmounts_4 : decode cX2_growAmounts 4 = .ok (.getfield 23, 3) := by decide +kernel
theorem dX2_growAmounts_7 : decode cX2_growAmounts 7 = .ok (.getfield 63, 3) := by decide +kernel
theorem dX2_growAmounts_10 : decode cX2_growAmounts 10 = .ok (.if_icmp .ge 35, 3) := by decide +kernel
theorem dX2_growAmounts_13 : decode cX2_growAmounts 13 = .ok (.iload_n 2, 1) := by decide +kernel
theorem dX2_growAmounts_14 : decode cX2_growAmounts 14 = .ok (.iload_n 3, 1) := by decide +kernel
theorem dX2_growAmounts_15 : decode cX2_growAmounts 15 = .ok (.invokestatic 66, 3) := by decide +kernel
theorem dX2_growAmounts_18 : decode cX2_growAmounts 18 = .ok (.ifCond .eq 21, 3) := by decide +kernel
theorem dX2_growAmounts_21 : decode cX2_growAmounts 21 = .ok (.aload_n 1, 1) := by decide +kernel
theorem dX2_growAmounts_22 : decode cX2_growAmounts 22 = .ok (.iload_n 3, 1) := by decide +kernel
theorem dX2_growAmounts_23 : decode cX2_growAmounts 23 = .ok (.aload_n 1, 1) := by decide +kernel
theorem dX2_growAmounts_24 : decode cX2_growAmounts 24 = .ok (.iload_n 3, 1) := by decide +kernel
theorem dX2_growAmounts_25 : decode cX2_growAmounts 25 = .ok (.iaload, 1) := by decide +kernel
theorem dX2_growAmounts_26 : decode cX2_growAmounts 26 = .ok (.aload_n 0, 1) := by decide +kernel
theorem dX2_growAmounts_27 : decode cX2_growAmounts 27 = .ok (.getfield 23, 3) := by decide +kernel
theorem dX2_growAmounts_30 : decode cX2_growAmounts 30 = .ok (.getfield 107, 3) := by decide +kernel
theorem dX2_growAmounts_33 : decode cX2_growAmounts 33 = .ok (.iload_n 3, 1) := by decide +kernel
theorem dX2_growAmounts_34 : decode cX2_growAmounts 34 = .ok (.iaload, 1) := by decide +kernel
theorem dX2_growAmounts_35 : decode cX2_growAmounts 35 = .ok (.invokestatic 110, 3) := by decide +kernel
theorem dX2_growAmounts_38 : decode cX2_growAmounts 38 = .ok (.iastore, 1) := by decide +kernel
theorem dX2_growAmounts_39 : decode cX2_growAmounts 39 = .ok (.iinc 3 1, 3) := by decide +kernel
theorem dX2_growAmounts_42 : decode cX2_growAmounts 42 = .ok (.goto (-40), 3) := by decide +kernel
theorem dX2_growAmounts_45 : decode cX2_growAmounts 45 = .ok (.return_, 1) := by decide +kernel
theorem dX2_keepIfBetter_0 : decode cX2_keepIfBetter 0 = .ok (.iload_n 2, 1) := by decide +kernel
theorem dX2_keepIfBetter_1 : decode cX2_keepIfBetter 1 = .ok (.aload_n 0, 1) := by decide +kernel
theorem dX2_keepIfBetter_2 : decode cX2_keepIfBetter 2 = .ok (.getfield 31, 3) := by decide +kernel
theorem dX2_keepIfBetter_5 : decode cX2_keepIfBetter 5 = .ok (.if_icmp .lt 19, 3) := by decide +kernel
theorem dX2_keepIfBetter_8 : decode cX2_keepIfBetter 8 = .ok (.iload_n 2, 1) := by decide +kernel
theorem dX2_keepIfBetter_9 : decode cX2_keepIfBetter 9 = .ok (.aload_n 0, 1) := by decide +kernel
theorem dX2_keepIfBetter_10 : decode cX2_keepIfBetter 10 = .ok (.getfield 31, 3) := by decide +kernel
theorem dX2_keepIfBetter_13 : decode cX2_keepIfBetter 13 = .ok (.if_icmp .ne 35, 3) := by decide +kernel
theorem dX2_keepIfBetter_16 : decode cX2_keepIfBetter 16 = .ok (.iload_n 3, 1) := by decide +kernel
theorem dX2_keepIfBetter_17 : decode cX2_keepIfBetter 17 = .ok (.aload_n 0, 1) := by decide +kernel
theorem dX2_keepIfBetter_18 : decode cX2_keepIfBetter 18 = .ok (.getfield 34, 3) := by decide +kernel
theorem dX2_keepIfBetter_21 : decode cX2_keepIfBetter 21 = .ok (.if_icmp .ge 27, 3) := by decide +kernel
theorem dX2_keepIfBetter_24 : decode cX2_keepIfBetter 24 = .ok (.aload_n 0, 1) := by decide +kernel
theorem dX2_keepIfBetter_25 : decode cX2_keepIfBetter 25 = .ok (.iload_n 2, 1) := by decide +kernel
theorem dX2_keepIfBetter_26 : decode cX2_keepIfBetter 26 = .ok (.putfield 31, 3) := by decide +kernel
theorem dX2_keepIfBetter_29 : decode cX2_keepIfBetter 29 = .ok (.aload_n 0, 1) := by decide +kernel
theorem dX2_keepIfBetter_30 : decode cX2_keepIfBetter 30 = .ok (.iload_n 3, 1) := by decide +kernel
theorem dX2_keepIfBetter_31 : decode cX2_keepIfBetter 31 = .ok (.putfield 34, 3) := by decide +kernel
theorem dX2_keepIfBetter_34 : decode cX2_keepIfBetter 34 = .ok (.aload_n 0, 1) := by decide +kernel
theorem dX2_keepIfBetter_35 : decode cX2_keepIfBetter 35 = .ok (.getfield 16, 3) := by decide +kernel
theorem dX2_keepIfBetter_38 : decode cX2_keepIfBetter 38 = .ok (.iconst 0, 1) := by decide +kernel
theorem dX2_keepIfBetter_39 : decode cX2_keepIfBetter 39 = .ok (.aload_n 0, 1) := by decide +kernel
theorem dX2_keepIfBetter_40 : decode cX2_keepIfBetter 40 = .ok (.getfield 20, 3) := by decide +kernel
theorem dX2_keepIfBetter_43 : decode cX2_keepIfBetter 43 = .ok (.iconst 0, 1) := by decide +kernel
theorem dX2_keepIfBetter_44 : decode cX2_keepIfBetter 44 = .ok (.iload_n 1, 1) := by decide +kernel
theorem dX2_keepIfBetter_45 : decode cX2_keepIfBetter 45 = .ok (.invokestatic 42, 3) := by decide +kernel
theorem dX2_keepIfBetter_48 : decode cX2_keepIfBetter 48 = .ok (.return_, 1) := by decide +kernel
theorem dX3_init_0 : decode cX3_init 0 = .ok (.aload_n 0, 1) := by decide +kernel
theorem dX3_init_1 : decode cX3_init 1 = .ok (.invokespecial 3, 3) := by decide +kernel
theorem dX3_init_4 : decode cX3_init 4 = .ok (.aload_n 0, 1) := by decide +kernel
theorem dX3_init_5 : decode cX3_init 5 = .ok (.bipush 24, 2) := by decide +kernel
theorem dX3_init_7 : decode cX3_init 7 = .ok (.newarray .int, 2) := by decide +kernel
theorem dX3_init_9 : decode cX3_init 9 = .ok (.putfield 9, 3) := by decide +kernel
theorem dX3_init_12 : decode cX3_init 12 = .ok (.return_, 1) := by decide +kernel
theorem dX3_begin_0 : decode cX3_begin 0 = .ok (.aload_n 0, 1) := by decide +kernel
theorem dX3_begin_1 : decode cX3_begin 1 = .ok (.iconst 1, 1) := by decide +kernel
theorem dX3_begin_2 : decode cX3_begin 2 = .ok (.putfield 15, 3) := by decide +kernel
theorem dX3_begin_5 : decode cX3_begin 5 = .ok (.aload_n 0, 1) := by decide +kernel
theorem dX3_begin_6 : decode cX3_begin 6 = .ok (.iload_n 1, 1) := by decide +kernel
theorem dX3_begin_7 : decode cX3_begin 7 = .ok (.putfield 19, 3) := by decide +kernel
theorem dX3_begin_10 : decode cX3_begin 10 = .ok (.aload_n 0, 1) := by decide +kernel
theorem dX3_begin_11 : decode cX3_begin 11 = .ok (.iload_n 2, 1) := by decide +kernel
theorem dX3_begin_12 : decode cX3_begin 12 = .ok (.putfield 23, 3) := by decide +kernel
theorem dX3_begin_15 : decode cX3_begin 15 = .ok (.aload_n 0, 1) := by decide +kernel
theorem dX3_begin_16 : decode cX3_begin 16 = .ok (.getfield 9, 3) := by decide +kernel
theorem dX3_begin_19 : decode cX3_begin 19 = .ok (.iconst 0, 1) := by decide +kernel
theorem dX3_begin_20 : decode cX3_begin 20 = .ok (.invokestatic 26, 3) := by decide +kernel
theorem dX3_begin_23 : decode cX3_begin 23 = .ok (.return_, 1) := by decide +kernel
theorem dX3_narrowed_0 : decode cX3_narrowed 0 = .ok (.iload_n 0, 1) := by decide +kernel
theorem dX3_narrowed_1 : decode cX3_narrowed 1 = .ok (.ifCond .ne 6, 3) := by decide +kernel
theorem dX3_narrowed_4 : decode cX3_narrowed 4 = .ok (.iload_n 1, 1) := by decide +kernel
theorem dX3_narrowed_5 : decode cX3_narrowed 5 = .ok (.i2b, 1) := by decide +kernel
theorem dX3_narrowed_6 : decode cX3_narrowed 6 = .ok (.ireturn, 1) := by decide +kernel
theorem dX3_narrowed_7 : decode cX3_narrowed 7 = .ok (.iload_n 0, 1) := by decide +kernel
theorem dX3_narrowed_8 : decode cX3_narrowed 8 = .ok (.iconst 1, 1) := by decide +kernel
theorem dX3_narrowed_9 : decode cX3_narrowed 9 = .ok (.if_icmp .ne 8, 3) := by decide +kernel
theorem dX3_narrowed_12 : decode cX3_narrowed 12 = .ok (.iload_n 1, 1) := by decide +kernel
theorem dX3_narrowed_13 : decode cX3_narrowed 13 = .ok (.i2s, 1) := by decide +kernel
theorem dX3_narrowed_14 : decode cX3_narrowed 14 = .ok (.goto 4, 3) := by decide +kernel
theorem dX3_narrowed_17 : decode cX3_narrowed 17 = .ok (.iload_n 1, 1) := by decide +kernel
theorem dX3_narrowed_18 : decode cX3_narrowed 18 = .ok (.ireturn, 1) := by decide +kernel
theorem dX3_hasItems_0 : decode cX3_hasItems 0 = .ok (.iload_n 2, 1) := by decide +kernel
theorem dX3_hasItems_1 : decode cX3_hasItems 1 = .ok (.ifCond .lt 29, 3) := by decide +kernel
theorem dX3_hasItems_4 : decode cX3_hasItems 4 = .ok (.iload_n 1, 1) := by decide +kernel
theorem dX3_hasItems_5 : decode cX3_hasItems 5 = .ok (.ifCond .lt 25, 3) := by decide +kernel
theorem dX3_hasItems_8 : decode cX3_hasItems 8 = .ok (.iload_n 1, 1) := by decide +kernel
theorem dX3_hasItems_9 : decode cX3_hasItems 9 = .ok (.aload_n 0, 1) := by decide +kernel
theorem dX3_hasItems_10 : decode cX3_hasItems 10 = .ok (.getfield 23, 3) := by decide +kernel
theorem dX3_hasItems_13 : decode cX3_hasItems 13 = .ok (.if_icmp .gt 17, 3) := by decide +kernel
theorem dX3_hasItems_16 : decode cX3_hasItems 16 = .ok (.iload_n 2, 1) := by decide +kernel
theorem dX3_hasItems_17 : decode cX3_hasItems 17 = .ok (.aload_n 0, 1) := by decide +kernel
theorem dX3_hasItems_18 : decode cX3_hasItems 18 = .ok (.getfield 23, 3) := by decide +kernel
theorem dX3_hasItems_21 : decode cX3_hasItems 21 = .ok (.iload_n 1, 1) := by decide +kernel
theorem dX3_hasItems_22 : decode cX3_hasItems 22 = .ok (.isub, 1) := by decide +kernel
theorem dX3_hasItems_23 : decode cX3_hasItems 23 = .ok (.if_icmp .gt 7, 3) := by decide +kernel
theorem dX3_hasItems_26 : decode cX3_hasItems 26 = .ok (.iconst 1, 1) := by decide +kernel
theorem dX3_hasItems_27 : decode cX3_hasItems 27 = .ok (.goto 4, 3) := by decide +kernel
theorem dX3_hasItems_30 : decode cX3_hasItems 30 = .ok (.iconst 0, 1) := by decide +kernel
theorem dX3_hasItems_31 : decode cX3_hasItems 31 = .ok (.ireturn, 1) := by decide +kernel
theorem dX3_refusal_0 : decode cX3_refusal 0 = .ok (.aload_n 0, 1) := by decide +kernel
theorem dX3_refusal_1 : decode cX3_refusal 1 = .ok (.getfield 15, 3) := by decide +kernel
theorem dX3_refusal_4 : decode cX3_refusal 4 = .ok (.ifCond .ne 6, 3) := by decide +kernel
theorem dX3_refusal_7 : decode cX3_refusal 7 = .ok (.bipush (-11), 2) := by decide +kernel
theorem dX3_refusal_9 : decode cX3_refusal 9 = .ok (.ireturn, 1) := by decide +kernel
theorem dX3_refusal_10 : decode cX3_refusal 10 = .ok (.aload_n 0, 1) := by decide +kernel
theorem dX3_refusal_11 : decode cX3_refusal 11 = .ok (.getfield 19, 3) := by decide +kernel
theorem dX3_refusal_14 : decode cX3_refusal 14 = .ok (.iload_n 1, 1) := by decide +kernel
theorem dX3_refusal_15 : decode cX3_refusal 15 = .ok (.if_icmp .eq 6, 3) := by decide +kernel
theorem dX3_refusal_18 : decode cX3_refusal 18 = .ok (.bipush (-12), 2) := by decide +kernel
theorem dX3_refusal_20 : decode cX3_refusal 20 = .ok (.ireturn, 1) := by decide +kernel
theorem dX3_refusal_21 : decode cX3_refusal 21 = .ok (.aload_n 0, 1) := by decide +kernel
theorem dX3_refusal_22 : decode cX3_refusal 22 = .ok (.iload_n 2, 1) := by decide +kernel
theorem dX3_refusal_23 : decode cX3_refusal 23 = .ok (.iload_n 3, 1) := by decide +kernel
theorem dX3_refusal_24 : decode cX3_refusal 24 = .ok (.invokevirtual 32, 3) := by decide +kernel
theorem dX3_refusal_27 : decode cX3_refusal 27 = .ok (.ifCond .eq 7, 3) := by decide +kernel
theorem dX3_refusal_30 : decode cX3_refusal 30 = .ok (.iconst 0, 1) := by decide +kernel
theorem dX3_refusal_31 : decode cX3_refusal 31 = .ok (.goto 5, 3) := by decide +kernel
theorem dX3_refusal_34 : decode cX3_refusal 34 = .ok (.bipush (-13), 2) := by decide +kernel
theorem dX3_refusal_36 : decode cX3_refusal 36 = .ok (.ireturn, 1) := by decide +kernel
theorem dX4_init_0 : decode cX4_init 0 = .ok (.aload_n 0, 1) := by decide +kernel
theorem dX4_init_1 : decode cX4_init 1 = .ok (.invokespecial 3, 3) := by decide +kernel
theorem dX4_init_4 : decode cX4_init 4 = .ok (.aload_n 0, 1) := by decide +kernel
theorem dX4_init_5 : decode cX4_init 5 = .ok (.bipush 80, 2) := by decide +kernel
theorem dX4_init_7 : decode cX4_init 7 = .ok (.newarray .int, 2) := by decide +kernel
theorem dX4_init_9 : decode cX4_init 9 = .ok (.putfield 9, 3) := by decide +kernel
theorem dX4_init_12 : decode cX4_init 12 = .ok (.return_, 1) := by decide +kernel
theorem dX4_isPrintable_0 : decode cX4_isPrintable 0 = .ok (.iconst 0, 1) := by decide +kernel
theorem dX4_isPrintable_1 : decode cX4_isPrintable 1 = .ok (.istore_n 3, 1) := by decide +kernel
theorem dX4_isPrintable_2 : decode cX4_isPrintable 2 = .ok (.iload_n 3, 1) := by decide +kernel
theorem dX4_isPrintable_3 : decode cX4_isPrintable 3 = .ok (.iload_n 2, 1) := by decide +kernel
theorem dX4_isPrintable_4 : decode cX4_isPrintable 4 = .ok (.if_icmp .ge 32, 3) := by decide +kernel
theorem dX4_isPrintable_7 : decode cX4_isPrintable 7 = .ok (.lload_n 0, 1) := by decide +kernel
theorem dX4_isPrintable_8 : decode cX4_isPrintable 8 = .ok (.bipush 8, 2) := by decide +kernel
theorem dX4_isPrintable_10 : decode cX4_isPrintable 10 = .ok (.iload_n 3, 1) := by decide +kernel
theorem dX4_isPrintable_11 : decode cX4_isPrintable 11 = .ok (.imul, 1) := by decide +kernel
theorem dX4_isPrintable_12 : decode cX4_isPrintable 12 = .ok (.lshr, 1) := by decide +kernel
theorem dX4_isPrintable_13 : decode cX4_isPrintable 13 = .ok (.ldc2_w 15, 3) := by decide +kernel
theorem dX4_isPrintable_16 : decode cX4_isPrintable 16 = .ok (.land, 1) := by decide +kernel
theorem dX4_isPrintable_17 : decode cX4_isPrintable 17 = .ok (.l2i, 1) := by decide +kernel
theorem dX4_isPrintable_18 : decode cX4_isPrintable 18 = .ok (.bipush 32, 2) := by decide +kernel
theorem dX4_isPrintable_20 : decode cX4_isPrintable 20 = .ok (.bipush 126, 2) := by decide +kernel
theorem dX4_isPrintable_22 : decode cX4_isPrintable 22 = .ok (.invokestatic 17, 3) := by decide +kernel
theorem dX4_isPrintable_25 : decode cX4_isPrintable 25 = .ok (.ifCond .ne 5, 3) := by decide +kernel
theorem dX4_isPrintable_28 : decode cX4_isPrintable 28 = .ok (.iconst 0, 1) := by decide +kernel
theorem dX4_isPrintable_29 : decode cX4_isPrintable 29 = .ok (.ireturn, 1) := by decide +kernel
theorem dX4_isPrintable_30 : decode cX4_isPrintable 30 = .ok (.iinc 3 1, 3) := by decide +kernel
theorem dX4_isPrintable_33 : decode cX4_isPrintable 33 = .ok (.goto (-31), 3) := by decide +kernel
theorem dX4_isPrintable_36 : decode cX4_isPrintable 36 = .ok (.iconst 1, 1) := by decide +kernel
theorem dX4_isPrintable_37 : decode cX4_isPrintable 37 = .ok (.ireturn, 1) := by decide +kernel
theorem dX4_append_0 : decode cX4_append 0 = .ok (.iload_n 3, 1) := by decide +kernel
theorem dX4_append_1 : decode cX4_append 1 = .ok (.iconst 1, 1) := by decide +kernel
theorem dX4_append_2 : decode cX4_append 2 = .ok (.isub, 1) := by decide +kernel
theorem dX4_append_3 : decode cX4_append 3 = .ok (.istore 4, 2) := by decide +kernel
theorem dX4_append_5 : decode cX4_append 5 = .ok (.iload 4, 2) := by decide +kernel
theorem dX4_append_7 : decode cX4_append 7 = .ok (.ifCond .lt 49, 3) := by decide +kernel
theorem dX4_append_10 : decode cX4_append 10 = .ok (.aload_n 0, 1) := by decide +kernel
theorem dX4_append_11 : decode cX4_append 11 = .ok (.getfield 21, 3) := by decide +kernel
theorem dX4_append_14 : decode cX4_append 14 = .ok (.bipush 80, 2) := by decide +kernel
theorem dX4_append_16 : decode cX4_append 16 = .ok (.if_icmp .ge 40, 3) := by decide +kernel
theorem dX4_append_19 : decode cX4_append 19 = .ok (.aload_n 0, 1) := by decide +kernel
theorem dX4_append_20 : decode cX4_append 20 = .ok (.getfield 9, 3) := by decide +kernel
theorem dX4_append_23 : decode cX4_append 23 = .ok (.aload_n 0, 1) := by decide +kernel
theorem dX4_append_24 : decode cX4_append 24 = .ok (.getfield 21, 3) := by decide +kernel
theorem dX4_append_27 : decode cX4_append 27 = .ok (.lload_n 1, 1) := by decide +kernel
theorem dX4_append_28 : decode cX4_append 28 = .ok (.bipush 8, 2) := by decide +kernel
theorem dX4_append_30 : decode cX4_append 30 = .ok (.iload 4, 2) := by decide +kernel
theorem dX4_append_32 : decode cX4_append 32 = .ok (.imul, 1) := by decide +kernel
theorem dX4_append_33 : decode cX4_append 33 = .ok (.lshr, 1) := by decide +kernel
theorem dX4_append_34 : decode cX4_append 34 = .ok (.ldc2_w 15, 3) := by decide +kernel
theorem dX4_append_37 : decode cX4_append 37 = .ok (.land, 1) := by decide +kernel
theorem dX4_append_38 : decode cX4_append 38 = .ok (.l2i, 1) := by decide +kernel
theorem dX4_append_39 : decode cX4_append 39 = .ok (.iastore, 1) := by decide +kernel
theorem dX4_append_40 : decode cX4_append 40 = .ok (.aload_n 0, 1) := by decide +kernel
theorem dX4_append_41 : decode cX4_append 41 = .ok (.dup, 1) := by decide +kernel
theorem dX4_append_42 : decode cX4_append 42 = .ok (.getfield 21, 3) := by decide +kernel
theorem dX4_append_45 : decode cX4_append 45 = .ok (.iconst 1, 1) := by decide +kernel
theorem dX4_append_46 : decode cX4_append 46 = .ok (.iadd, 1) := by decide +kernel
theorem dX4_append_47 : decode cX4_append 47 = .ok (.putfield 21, 3) := by decide +kernel
theorem dX4_append_50 : decode cX4_append 50 = .ok (.iinc 4 (-1), 3) := by decide +kernel
theorem dX4_append_53 : decode cX4_append 53 = .ok (.goto (-48), 3) := by decide +kernel
theorem dX4_append_56 : decode cX4_append 56 = .ok (.return_, 1) := by decide +kernel
theorem dX4_readCoats_0 : decode cX4_readCoats 0 = .ok (.aload_n 0, 1) := by decide +kernel
theorem dX4_readCoats_1 : decode cX4_readCoats 1 = .ok (.iconst 0, 1) := by decide +kernel
theorem dX4_readCoats_2 : decode cX4_readCoats 2 = .ok (.putfield 25, 3) := by decide +kernel
theorem dX4_readCoats_5 : decode cX4_readCoats 5 = .ok (.aload_n 1, 1) := by decide +kernel
theorem dX4_readCoats_6 : decode cX4_readCoats 6 = .ok (.iconst 0, 1) := by decide +kernel
theorem dX4_readCoats_7 : decode cX4_readCoats 7 = .ok (.putfield 28, 3) := by decide +kernel
theorem dX4_readCoats_10 : decode cX4_readCoats 10 = .ok (.iconst 1, 1) := by decide +kernel
theorem dX4_readCoats_11 : decode cX4_readCoats 11 = .ok (.istore_n 2, 1) := by decide +kernel
theorem dX4_readCoats_12 : decode cX4_readCoats 12 = .ok (.iload_n 2, 1) := by decide +kernel
theorem dX4_readCoats_13 : decode cX4_readCoats 13 = .ok (.bipush 6, 2) := by decide +kernel
theorem dX4_readCoats_15 : decode cX4_readCoats 15 = .ok (.if_icmp .gt 50, 3) := by decide +kernel
theorem dX4_readCoats_18 : decode cX4_readCoats 18 = .ok (.aload_n 0, 1) := by decide +kernel
theorem dX4_readCoats_19 : decode cX4_readCoats 19 = .ok (.aload_n 1, 1) := by decide +kernel
theorem dX4_readCoats_20 : decode cX4_readCoats 20 = .ok (.invokevirtual 33, 3) := by decide +kernel
theorem dX4_readCoats_23 : decode cX4_readCoats 23 = .ok (.ifCond .ne 6, 3) := by decide +kernel
theorem dX4_readCoats_26 : decode cX4_readCoats 26 = .ok (.goto 39, 3) := by decide +kernel
theorem dX4_readCoats_29 : decode cX4_readCoats 29 = .ok (.aload_n 0, 1) := by decide +kernel
theorem dX4_readCoats_30 : decode cX4_readCoats 30 = .ok (.invokevirtual 37, 3) := by decide +kernel
theorem dX4_readCoats_33 : decode cX4_readCoats 33 = .ok (.ifCond .ge 8, 3) := by decide +kernel
theorem dX4_readCoats_36 : decode cX4_readCoats 36 = .ok (.aload_n 1, 1) := by decide +kernel
theorem dX4_readCoats_37 : decode cX4_readCoats 37 = .ok (.getfield 28, 3) := by decide +kernel
theorem dX4_readCoats_40 : decode cX4_readCoats 40 = .ok (.ireturn, 1) := by decide +kernel
theorem dX4_readCoats_41 : decode cX4_readCoats 41 = .ok (.iload_n 2, 1) := by decide +kernel
theorem dX4_readCoats_42 : decode cX4_readCoats 42 = .ok (.bipush 6, 2) := by decide +kernel
theorem dX4_readCoats_44 : decode cX4_readCoats 44 = .ok (.if_icmp .eq 21, 3) := by decide +kernel
theorem dX4_readCoats_47 : decode cX4_readCoats 47 = .ok (.aload_n 0, 1) := by decide +kernel
theorem dX4_readCoats_48 : decode cX4_readCoats 48 = .ok (.bipush 59, 2) := by decide +kernel
theorem dX4_readCoats_50 : decode cX4_readCoats 50 = .ok (.invokevirtual 41, 3) := by decide +kernel
theorem dX4_readCoats_53 : decode cX4_readCoats 53 = .ok (.ifCond .ne 6, 3) := by decide +kernel
theorem dX4_readCoats_56 : decode cX4_readCoats 56 = .ok (.goto 9, 3) := by decide +kernel
theorem dX4_readCoats_59 : decode cX4_readCoats 59 = .ok (.iinc 2 1, 3) := by decide +kernel
theorem dX4_readCoats_62 : decode cX4_readCoats 62 = .ok (.goto (-50), 3) := by decide +kernel
theorem dX4_readCoats_65 : decode cX4_readCoats 65 = .ok (.bipush (-20), 2) := by decide +kernel
theorem dX4_readCoats_67 : decode cX4_readCoats 67 = .ok (.aload_n 0, 1) := by decide +kernel
theorem dX4_readCoats_68 : decode cX4_readCoats 68 = .ok (.getfield 25, 3) := by decide +kernel
theorem dX4_readCoats_71 : decode cX4_readCoats 71 = .ok (.isub, 1) := by decide +kernel
theorem dX4_readCoats_72 : decode cX4_readCoats 72 = .ok (.ireturn, 1) := by decide +kernel
theorem dX4_readCoat_0 : decode cX4_readCoat 0 = .ok (.aload_n 0, 1) := by decide +kernel
theorem dX4_readCoat_1 : decode cX4_readCoat 1 = .ok (.invokevirtual 37, 3) := by decide +kernel
theorem dX4_readCoat_4 : decode cX4_readCoat 4 = .ok (.bipush 97, 2) := by decide +kernel
theorem dX4_readCoat_6 : decode cX4_readCoat 6 = .ok (.isub, 1) := by decide +kernel
theorem dX4_readCoat_7 : decode cX4_readCoat 7 = .ok (.istore_n 2, 1) := by decide +kernel
theorem dX4_readCoat_8 : decode cX4_readCoat 8 = .ok (.iload_n 2, 1) := by decide +kernel
theorem dX4_readCoat_9 : decode cX4_readCoat 9 = .ok (.invokestatic 45, 3) := by decide +kernel
theorem dX4_readCoat_12 : decode cX4_readCoat 12 = .ok (.ifCond .ne 5, 3) := by decide +kernel
theorem dX4_readCoat_15 : decode cX4_readCoat 15 = .ok (.iconst 0, 1) := by decide +kernel
theorem dX4_readCoat_16 : decode cX4_readCoat 16 = .ok (.ireturn, 1) := by decide +kernel
theorem dX4_readCoat_17 : decode cX4_readCoat 17 = .ok (.aload_n 0, 1) := by decide +kernel
theorem dX4_readCoat_18 : decode cX4_readCoat 18 = .ok (.dup, 1) := by decide +kernel
theorem dX4_readCoat_19 : decode cX4_readCoat 19 = .ok (.getfield 25, 3) := by decide +kernel
theorem dX4_readCoat_22 : decode cX4_readCoat 22 = .ok (.iconst 1, 1) := by decide +kernel
theorem dX4_readCoat_23 : decode cX4_readCoat 23 = .ok (.iadd, 1) := by decide +kernel
theorem dX4_readCoat_24 : decode cX4_readCoat 24 = .ok (.putfield 25, 3) := by decide +kernel
theorem dX4_readCoat_27 : decode cX4_readCoat 27 = .ok (.aload_n 0, 1) := by decide +kernel
theorem dX4_readCoat_28 : decode cX4_readCoat 28 = .ok (.iconst 1, 1) := by decide +kernel
theorem dX4_readCoat_29 : decode cX4_readCoat 29 = .ok (.sipush 9999, 3) := by decide +kernel
theorem dX4_readCoat_32 : decode cX4_readCoat 32 = .ok (.invokevirtual 48, 3) := by decide +kernel
theorem dX4_readCoat_35 : decode cX4_readCoat 35 = .ok (.istore_n 3, 1) := by decide +kernel
theorem dX4_readCoat_36 : decode cX4_readCoat 36 = .ok (.iload_n 3, 1) := by decide +kernel
theorem dX4_readCoat_37 : decode cX4_readCoat 37 = .ok (.ifCond .ge 5, 3) := by decide +kernel
theorem dX4_readCoat_40 : decode cX4_readCoat 40 = .ok (.iconst 0, 1) := by decide +kernel
theorem dX4_readCoat_41 : decode cX4_readCoat 41 = .ok (.ireturn, 1) := by decide +kernel
theorem dX4_readCoat_42 : decode cX4_readCoat 42 = .ok (.aload_n 0, 1) := by decide +kernel
theorem dX4_readCoat_43 : decode cX4_readCoat 43 = .ok (.bipush 114, 2) := by decide +kernel
theorem dX4_readCoat_45 : decode cX4_readCoat 45 = .ok (.invokevirtual 41, 3) := by decide +kernel
theorem dX4_readCoat_48 : decode cX4_readCoat 48 = .ok (.ifCond .eq 13, 3) := by decide +kernel
theorem dX4_readCoat_51 : decode cX4_readCoat 51 = .ok (.aload_n 0, 1) := by decide +kernel
theorem dX4_readCoat_52 : decode cX4_readCoat 52 = .ok (.iconst 0, 1) := by decide +kernel
theorem dX4_readCoat_53 : decode cX4_readCoat 53 = .ok (.bipush 20, 2) := by decide +kernel
theorem dX4_readCoat_55 : decode cX4_readCoat 55 = .ok (.invokevirtual 48, 3) := by decide +kernel
theorem dX4_readCoat_58 : decode cX4_readCoat 58 = .ok (.goto 4, 3) := by decide +kernel
theorem dX4_readCoat_61 : decode cX4_readCoat 61 = .ok (.iconst 0, 1) := by decide +kernel
theorem dX4_readCoat_62 : decode cX4_readCoat 62 = .ok (.istore 4, 2) := by decide +kernel
theorem dX4_readCoat_64 : decode cX4_readCoat 64 = .ok (.iload 4, 2) := by decide +kernel
theorem dX4_readCoat_66 : decode cX4_readCoat 66 = .ok (.ifCond .ge 5, 3) := by decide +kernel
theorem dX4_readCoat_69 : decode cX4_readCoat 69 = .ok (.iconst 0, 1) := by decide +kernel
theorem dX4_readCoat_70 : decode cX4_readCoat 70 = .ok (.ireturn, 1) := by decide +kernel
theorem dX4_readCoat_71 : decode cX4_readCoat 71 = .ok (.aload_n 0, 1) := by decide +kernel
theorem dX4_readCoat_72 : decode cX4_readCoat 72 = .ok (.bipush 116, 2) := by decide +kernel
theorem dX4_readCoat_74 : decode cX4_readCoat 74 = .ok (.invokevirtual 41, 3) := by decide +kernel
theorem dX4_readCoat_77 : decode cX4_readCoat 77 = .ok (.ifCond .eq 10, 3) := by decide +kernel
theorem dX4_readCoat_80 : decode cX4_readCoat 80 = .ok (.aload_n 0, 1) := by decide +kernel
theorem dX4_readCoat_81 : decode cX4_readCoat 81 = .ok (.invokevirtual 52, 3) := by decide +kernel
theorem dX4_readCoat_84 : decode cX4_readCoat 84 = .ok (.goto 4, 3) := by decide +kernel
theorem dX4_readCoat_87 : decode cX4_readCoat 87 = .ok (.iconst 1, 1) := by decide +kernel
theorem dX4_readCoat_88 : decode cX4_readCoat 88 = .ok (.istore 5, 2) := by decide +kernel
theorem dX4_readCoat_90 : decode cX4_readCoat 90 = .ok (.iload 5, 2) := by decide +kernel
theorem dX4_readCoat_92 : decode cX4_readCoat 92 = .ok (.ifCond .ge 5, 3) := by decide +kernel
theorem dX4_readCoat_95 : decode cX4_readCoat 95 = .ok (.iconst 0, 1) := by decide +kernel
theorem dX4_readCoat_96 : decode cX4_readCoat 96 = .ok (.ireturn, 1) := by decide +kernel
theorem dX4_readCoat_97 : decode cX4_readCoat 97 = .ok (.aload_n 1, 1) := by decide +kernel
theorem dX4_readCoat_98 : decode cX4_readCoat 98 = .ok (.iload_n 2, 1) := by decide +kernel
theorem dX4_readCoat_99 : decode cX4_readCoat 99 = .ok (.iload_n 3, 1) := by decide +kernel
theorem dX4_readCoat_100 : decode cX4_readCoat 100 = .ok (.iload 4, 2) := by decide +kernel
theorem dX4_readCoat_102 : decode cX4_readCoat 102 = .ok (.iload 5, 2) := by decide +kernel
theorem dX4_readCoat_104 : decode cX4_readCoat 104 = .ok (.invokevirtual 55, 3) := by decide +kernel
theorem dX4_readCoat_107 : decode cX4_readCoat 107 = .ok (.iconst 1, 1) := by decide +kernel
theorem dX4_readCoat_108 : decode cX4_readCoat 108 = .ok (.ireturn, 1) := by decide +kernel
theorem dX4_nextByte_0 : decode cX4_nextByte 0 = .ok (.aload_n 0, 1) := by decide +kernel
theorem dX4_nextByte_1 : decode cX4_nextByte 1 = .ok (.getfield 25, 3) := by decide +kernel
theorem dX4_nextByte_4 : decode cX4_nextByte 4 = .ok (.aload_n 0, 1) := by decide +kernel
theorem dX4_nextByte_5 : decode cX4_nextByte 5 = .ok (.getfield 21, 3) := by decide +kernel
theorem dX4_nextByte_8 : decode cX4_nextByte 8 = .ok (.if_icmp .ge 30, 3) := by decide +kernel
theorem dX4_nextByte_11 : decode cX4_nextByte 11 = .ok (.aload_n 0, 1) := by decide +kernel
theorem dX4_nextByte_12 : decode cX4_nextByte 12 = .ok (.getfield 9, 3) := by decide +kernel
theorem dX4_nextByte_15 : decode cX4_nextByte 15 = .ok (.aload_n 0, 1) := by decide +kernel
theorem dX4_nextByte_16 : decode cX4_nextByte 16 = .ok (.getfield 25, 3) := by decide +kernel
theorem dX4_nextByte_19 : decode cX4_nextByte 19 = .ok (.iaload, 1) := by decide +kernel
theorem dX4_nextByte_20 : decode cX4_nextByte 20 = .ok (.bipush 32, 2) := by decide +kernel
theorem dX4_nextByte_22 : decode cX4_nextByte 22 = .ok (.if_icmp .ne 16, 3) := by decide +kernel
theorem dX4_nextByte_25 : decode cX4_nextByte 25 = .ok (.aload_n 0, 1) := by decide +kernel
theorem dX4_nextByte_26 : decode cX4_nextByte 26 = .ok (.dup, 1) := by decide +kernel
theorem dX4_nextByte_27 : decode cX4_nextByte 27 = .ok (.getfield 25, 3) := by decide +kernel
theorem dX4_nextByte_30 : decode cX4_nextByte 30 = .ok (.iconst 1, 1) := by decide +kernel
theorem dX4_nextByte_31 : decode cX4_nextByte 31 = .ok (.iadd, 1) := by decide +kernel
theorem dX4_nextByte_32 : decode cX4_nextByte 32 = .ok (.putfield 25, 3) := by decide +kernel
theorem dX4_nextByte_35 : decode cX4_nextByte 35 = .ok (.goto (-35), 3) := by decide +kernel
theorem dX4_nextByte_38 : decode cX4_nextByte 38 = .ok (.aload_n 0, 1) := by decide +kernel
theorem dX4_nextByte_39 : decode cX4_nextByte 39 = .ok (.getfield 25, 3) := by decide +kernel
theorem dX4_nextByte_42 : decode cX4_nextByte 42 = .ok (.aload_n 0, 1) := by decide +kernel
theorem dX4_nextByte_43 : decode cX4_nextByte 43 = .ok (.getfield 21, 3) := by decide +kernel
theorem dX4_nextByte_46 : decode cX4_nextByte 46 = .ok (.if_icmp .ge 15, 3) := by decide +kernel
theorem dX4_nextByte_49 : decode cX4_nextByte 49 = .ok (.aload_n 0, 1) := by decide +kernel
theorem dX4_nextByte_50 : decode cX4_nextByte 50 = .ok (.getfield 9, 3) := by decide +kernel
theorem dX4_nextByte_53 : decode cX4_nextByte 53 = .ok (.aload_n 0, 1) := by decide +kernel
theorem dX4_nextByte_54 : decode cX4_nextByte 54 = .ok (.getfield 25, 3) := by decide +kernel
theorem dX4_nextByte_57 : decode cX4_nextByte 57 = .ok (.iaload, 1) := by decide +kernel
theorem dX4_nextByte_58 : decode cX4_nextByte 58 = .ok (.goto 4, 3) := by decide +kernel
theorem dX4_nextByte_61 : decode cX4_nextByte 61 = .ok (.iconst (-1), 1) := by decide +kernel
theorem dX4_nextByte_62 : decode cX4_nextByte 62 = .ok (.ireturn, 1) := by decide +kernel
theorem dX4_skipIf_0 : decode cX4_skipIf 0 = .ok (.aload_n 0, 1) := by decide +kernel
theorem dX4_skipIf_1 : decode cX4_skipIf 1 = .ok (.invokevirtual 37, 3) := by decide +kernel
theorem dX4_skipIf_4 : decode cX4_skipIf 4 = .ok (.iload_n 1, 1) := by decide +kernel
theorem dX4_skipIf_5 : decode cX4_skipIf 5 = .ok (.if_icmp .eq 5, 3) := by decide +kernel
theorem dX4_skipIf_8 : decode cX4_skipIf 8 = .ok (.iconst 0, 1) := by decide +kernel
theorem dX4_skipIf_9 : decode cX4_skipIf 9 = .ok (.ireturn, 1) := by decide +kernel
theorem dX4_skipIf_10 : decode cX4_skipIf 10 = .ok (.aload_n 0, 1) := by decide +kernel
theorem dX4_skipIf_11 : decode cX4_skipIf 11 = .ok (.dup, 1) := by decide +kernel
theorem dX4_skipIf_12 : decode cX4_skipIf 12 = .ok (.getfield 25, 3) := by decide +kernel
theorem dX4_skipIf_15 : decode cX4_skipIf 15 = .ok (.iconst 1, 1) := by decide +kernel
theorem dX4_skipIf_16 : decode cX4_skipIf 16 = .ok (.iadd, 1) := by decide +kernel
theorem dX4_skipIf_17 : decode cX4_skipIf 17 = .ok (.putfield 25, 3) := by decide +kernel
theorem dX4_skipIf_20 : decode cX4_skipIf 20 = .ok (.iconst 1, 1) := by decide +kernel
theorem dX4_skipIf_21 : decode cX4_skipIf 21 = .ok (.ireturn, 1) := by decide +kernel
theorem dX4_readNumber_0 : decode cX4_readNumber 0 = .ok (.aload_n 0, 1) := by decide +kernel
theorem dX4_readNumber_1 : decode cX4_readNumber 1 = .ok (.invokevirtual 37, 3) := by decide +kernel
theorem dX4_readNumber_4 : decode cX4_readNumber 4 = .ok (.pop, 1) := by decide +kernel
theorem dX4_readNumber_5 : decode cX4_readNumber 5 = .ok (.aload_n 0, 1) := by decide +kernel
theorem dX4_readNumber_6 : decode cX4_readNumber 6 = .ok (.getfield 25, 3) := by decide +kernel
theorem dX4_readNumber_9 : decode cX4_readNumber 9 = .ok (.istore_n 3, 1) := by decide +kernel
theorem dX4_readNumber_10 : decode cX4_readNumber 10 = .ok (.iconst 0, 1) := by decide +kernel
theorem dX4_readNumber_11 : decode cX4_readNumber 11 = .ok (.istore 4, 2) := by decide +kernel
theorem dX4_readNumber_13 : decode cX4_readNumber 13 = .ok (.aload_n 0, 1) := by decide +kernel
theorem dX4_readNumber_14 : decode cX4_readNumber 14 = .ok (.getfield 25, 3) := by decide +kernel
theorem dX4_readNumber_17 : decode cX4_readNumber 17 = .ok (.aload_n 0, 1) := by decide +kernel
theorem dX4_readNumber_18 : decode cX4_readNumber 18 = .ok (.getfield 21, 3) := by decide +kernel
theorem dX4_readNumber_21 : decode cX4_readNumber 21 = .ok (.if_icmp .ge 60, 3) := by decide +kernel
theorem dX4_readNumber_24 : decode cX4_readNumber 24 = .ok (.aload_n 0, 1) := by decide +kernel
theorem dX4_readNumber_25 : decode cX4_readNumber 25 = .ok (.getfield 9, 3) := by decide +kernel
theorem dX4_readNumber_28 : decode cX4_readNumber 28 = .ok (.aload_n 0, 1) := by decide +kernel
theorem dX4_readNumber_29 : decode cX4_readNumber 29 = .ok (.getfield 25, 3) := by decide +kernel
theorem dX4_readNumber_32 : decode cX4_readNumber 32 = .ok (.iaload, 1) := by decide +kernel
theorem dX4_readNumber_33 : decode cX4_readNumber 33 = .ok (.bipush 48, 2) := by decide +kernel
theorem dX4_readNumber_35 : decode cX4_readNumber 35 = .ok (.bipush 57, 2) := by decide +kernel
theorem dX4_readNumber_37 : decode cX4_readNumber 37 = .ok (.invokestatic 17, 3) := by decide +kernel
theorem dX4_readNumber_40 : decode cX4_readNumber 40 = .ok (.ifCond .eq 41, 3) := by decide +kernel
theorem dX4_readNumber_43 : decode cX4_readNumber 43 = .ok (.iload 4, 2) := by decide +kernel
theorem dX4_readNumber_45 : decode cX4_readNumber 45 = .ok (.bipush 10, 2) := by decide +kernel
theorem dX4_readNumber_47 : decode cX4_readNumber 47 = .ok (.imul, 1) := by decide +kernel
theorem dX4_readNumber_48 : decode cX4_readNumber 48 = .ok (.aload_n 0, 1) := by decide +kernel
theorem dX4_readNumber_49 : decode cX4_readNumber 49 = .ok (.getfield 9, 3) := by decide +kernel
theorem dX4_readNumber_52 : decode cX4_readNumber 52 = .ok (.aload_n 0, 1) := by decide +kernel
theorem dX4_readNumber_53 : decode cX4_readNumber 53 = .ok (.getfield 25, 3) := by decide +kernel
theorem dX4_readNumber_56 : decode cX4_readNumber 56 = .ok (.iaload, 1) := by decide +kernel
theorem dX4_readNumber_57 : decode cX4_readNumber 57 = .ok (.iadd, 1) := by decide +kernel
theorem dX4_readNumber_58 : decode cX4_readNumber 58 = .ok (.bipush 48, 2) := by decide +kernel
theorem dX4_readNumber_60 : decode cX4_readNumber 60 = .ok (.isub, 1) := by decide +kernel
theorem dX4_readNumber_61 : decode cX4_readNumber 61 = .ok (.ldc 59, 2) := by decide +kernel
theorem dX4_readNumber_63 : decode cX4_readNumber 63 = .ok (.invokestatic 60, 3) := by decide +kernel
theorem dX4_readNumber_66 : decode cX4_readNumber 66 = .ok (.istore 4, 2) := by decide +kernel
theorem dX4_readNumber_68 : decode cX4_readNumber 68 = .ok (.aload_n 0, 1) := by decide +kernel
theorem dX4_readNumber_69 : decode cX4_readNumber 69 = .ok (.dup, 1) := by decide +kernel
theorem dX4_readNumber_70 : decode cX4_readNumber 70 = .ok (.getfield 25, 3) := by decide +kernel
theorem dX4_readNumber_73 : decode cX4_readNumber 73 = .ok (.iconst 1, 1) := by decide +kernel
theorem dX4_readNumber_74 : decode cX4_readNumber 74 = .ok (.iadd, 1) := by decide +kernel
theorem dX4_readNumber_75 : decode cX4_readNumber 75 = .ok (.putfield 25, 3) := by decide +kernel
theorem dX4_readNumber_78 : decode cX4_readNumber 78 = .ok (.goto (-65), 3) := by decide +kernel
theorem dX4_readNumber_81 : decode cX4_readNumber 81 = .ok (.aload_n 0, 1) := by decide +kernel
theorem dX4_readNumber_82 : decode cX4_readNumber 82 = .ok (.getfield 25, 3) := by decide +kernel
theorem dX4_readNumber_85 : decode cX4_readNumber 85 = .ok (.iload_n 3, 1) := by decide +kernel
theorem dX4_readNumber_86 : decode cX4_readNumber 86 = .ok (.if_icmp .le 16, 3) := by decide +kernel
theorem dX4_readNumber_89 : decode cX4_readNumber 89 = .ok (.iload 4, 2) := by decide +kernel
theorem dX4_readNumber_91 : decode cX4_readNumber 91 = .ok (.iload_n 1, 1) := by decide +kernel
theorem dX4_readNumber_92 : decode cX4_readNumber 92 = .ok (.iload_n 2, 1) := by decide +kernel
theorem dX4_readNumber_93 : decode cX4_readNumber 93 = .ok (.invokestatic 17, 3) := by decide +kernel
theorem dX4_readNumber_96 : decode cX4_readNumber 96 = .ok (.ifCond .eq 6, 3) := by decide +kernel
theorem dX4_readNumber_99 : decode cX4_readNumber 99 = .ok (.iload 4, 2) := by decide +kernel
theorem dX4_readNumber_101 : decode cX4_readNumber 101 = .ok (.ireturn, 1) := by decide +kernel
theorem dX4_readNumber_102 : decode cX4_readNumber 102 = .ok (.aload_n 0, 1) := by decide +kernel
theorem dX4_readNumber_103 : decode cX4_readNumber 103 = .ok (.iload_n 3, 1) := by decide +kernel
theorem dX4_readNumber_104 : decode cX4_readNumber 104 = .ok (.putfield 25, 3) := by decide +kernel
theorem dX4_readNumber_107 : decode cX4_readNumber 107 = .ok (.iconst (-1), 1) := by decide +kernel
theorem dX4_readNumber_108 : decode cX4_readNumber 108 = .ok (.ireturn, 1) := by decide +kernel
theorem dX4_readDigit_0 : decode cX4_readDigit 0 = .ok (.aload_n 0, 1) := by decide +kernel
theorem dX4_readDigit_1 : decode cX4_readDigit 1 = .ok (.invokevirtual 37, 3) := by decide +kernel
theorem dX4_readDigit_4 : decode cX4_readDigit 4 = .ok (.istore_n 1, 1) := by decide +kernel
theorem dX4_readDigit_5 : decode cX4_readDigit 5 = .ok (.iload_n 1, 1) := by decide +kernel
theorem dX4_readDigit_6 : decode cX4_readDigit 6 = .ok (.bipush 49, 2) := by decide +kernel
theorem dX4_readDigit_8 : decode cX4_readDigit 8 = .ok (.bipush 57, 2) := by decide +kernel
theorem dX4_readDigit_10 : decode cX4_readDigit 10 = .ok (.invokestatic 17, 3) := by decide +kernel
theorem dX4_readDigit_13 : decode cX4_readDigit 13 = .ok (.ifCond .ne 5, 3) := by decide +kernel
theorem dX4_readDigit_16 : decode cX4_readDigit 16 = .ok (.iconst (-1), 1) := by decide +kernel
theorem dX4_readDigit_17 : decode cX4_readDigit 17 = .ok (.ireturn, 1) := by decide +kernel
theorem dX4_readDigit_18 : decode cX4_readDigit 18 = .ok (.aload_n 0, 1) := by decide +kernel
theorem dX4_readDigit_19 : decode cX4_readDigit 19 = .ok (.dup, 1) := by decide +kernel
theorem dX4_readDigit_20 : decode cX4_readDigit 20 = .ok (.getfield 25, 3) := by decide +kernel
theorem dX4_readDigit_23 : decode cX4_readDigit 23 = .ok (.iconst 1, 1) := by decide +kernel
theorem dX4_readDigit_24 : decode cX4_readDigit 24 = .ok (.iadd, 1) := by decide +kernel
theorem dX4_readDigit_25 : decode cX4_readDigit 25 = .ok (.putfield 25, 3) := by decide +kernel
theorem dX4_readDigit_28 : decode cX4_readDigit 28 = .ok (.iload_n 1, 1) := by decide +kernel
theorem dX4_readDigit_29 : decode cX4_readDigit 29 = .ok (.bipush 48, 2) := by decide +kernel
theorem dX4_readDigit_31 : decode cX4_readDigit 31 = .ok (.isub, 1) := by decide +kernel
theorem dX4_readDigit_32 : decode cX4_readDigit 32 = .ok (.ireturn, 1) := by decide +kernel
theorem dX5_init_0 : decode cX5_init 0 = .ok (.aload_n 0, 1) := by decide +kernel
theorem dX5_init_1 : decode cX5_init 1 = .ok (.invokespecial 3, 3) := by decide +kernel
theorem dX5_init_4 : decode cX5_init 4 = .ok (.aload_n 0, 1) := by decide +kernel
theorem dX5_init_5 : decode cX5_init 5 = .ok (.iconst 5, 1) := by decide +kernel
theorem dX5_init_6 : decode cX5_init 6 = .ok (.anewarray 9, 3) := by decide +kernel
theorem dX5_init_9 : decode cX5_init 9 = .ok (.putfield 11, 3) := by decide +kernel
theorem dX5_init_12 : decode cX5_init 12 = .ok (.aload_n 0, 1) := by decide +kernel
theorem dX5_init_13 : decode cX5_init 13 = .ok (.bipush 12, 2) := by decide +kernel
theorem dX5_init_15 : decode cX5_init 15 = .ok (.newarray .int, 2) := by decide +kernel
theorem dX5_init_17 : decode cX5_init 17 = .ok (.putfield 17, 3) := by decide +kernel
theorem dX5_init_20 : decode cX5_init 20 = .ok (.aload_n 0, 1) := by decide +kernel
theorem dX5_init_21 : decode cX5_init 21 = .ok (.bipush 8, 2) := by decide +kernel
theorem dX5_init_23 : decode cX5_init 23 = .ok (.newarray .int, 2) := by decide +kernel
theorem dX5_init_25 : decode cX5_init 25 = .ok (.putfield 21, 3) := by decide +kernel
theorem dX5_init_28 : decode cX5_init 28 = .ok (.aload_n 0, 1) := by decide +kernel
theorem dX5_init_29 : decode cX5_init 29 = .ok (.bipush 8, 2) := by decide +kernel
theorem dX5_init_31 : decode cX5_init 31 = .ok (.newarray .int, 2) := by decide +kernel
theorem dX5_init_33 : decode cX5_init 33 = .ok (.putfield 24, 3) := by decide +kernel
theorem dX5_init_36 : decode cX5_init 36 = .ok (.iconst 0, 1) := by decide +kernel
theorem dX5_init_37 : decode cX5_init 37 = .ok (.istore_n 1, 1) := by decide +kernel
theorem dX5_init_38 : decode cX5_init 38 = .ok (.iload_n 1, 1) := by decide +kernel
theorem dX5_init_39 : decode cX5_init 39 = .ok (.iconst 5, 1) := by decide +kernel
theorem dX5_init_40 : decode cX5_init 40 = .ok (.if_icmp .ge 22, 3) := by decide +kernel
theorem dX5_init_43 : decode cX5_init 43 = .ok (.aload_n 0, 1) := by decide +kernel
theorem dX5_init_44 : decode cX5_init 44 = .ok (.getfield 11, 3) := by decide +kernel
theorem dX5_init_47 : decode cX5_init 47 = .ok (.iload_n 1, 1) := by decide +kernel
theorem dX5_init_48 : decode cX5_init 48 = .ok (.new 9, 3) := by decide +kernel
theorem dX5_init_51 : decode cX5_init 51 = .ok (.dup, 1) := by decide +kernel
theorem dX5_init_52 : decode cX5_init 52 = .ok (.invokespecial 27, 3) := by decide +kernel
theorem dX5_init_55 : decode cX5_init 55 = .ok (.aastore, 1) := by decide +kernel
theorem dX5_init_56 : decode cX5_init 56 = .ok (.iinc 1 1, 3) := by decide +kernel
theorem dX5_init_59 : decode cX5_init 59 = .ok (.goto (-21), 3) := by decide +kernel
theorem dX5_init_62 : decode cX5_init 62 = .ok (.return_, 1) := by decide +kernel
theorem dX5_becomeLike_0 : decode cX5_becomeLike 0 = .ok (.iconst 0, 1) := by decide +kernel
theorem dX5_becomeLike_1 : decode cX5_becomeLike 1 = .ok (.istore_n 2, 1) := by decide +kernel
theorem dX5_becomeLike_2 : decode cX5_becomeLike 2 = .ok (.iload_n 2, 1) := by decide +kernel
theorem dX5_becomeLike_3 : decode cX5_becomeLike 3 = .ok (.aload_n 1, 1) := by decide +kernel
theorem dX5_becomeLike_4 : decode cX5_becomeLike 4 = .ok (.getfield 28, 3) := by decide +kernel
theorem dX5_becomeLike_7 : decode cX5_becomeLike 7 = .ok (.if_icmp .ge 24, 3) := by decide +kernel
theorem dX5_becomeLike_10 : decode cX5_becomeLike 10 = .ok (.aload_n 0, 1) := by decide +kernel
theorem dX5_becomeLike_11 : decode cX5_becomeLike 11 = .ok (.getfield 11, 3) := by decide +kernel
theorem dX5_becomeLike_14 : decode cX5_becomeLike 14 = .ok (.iload_n 2, 1) := by decide +kernel
theorem dX5_becomeLike_15 : decode cX5_becomeLike 15 = .ok (.aaload, 1) := by decide +kernel
theorem dX5_becomeLike_16 : decode cX5_becomeLike 16 = .ok (.aload_n 1, 1) := by decide +kernel
theorem dX5_becomeLike_17 : decode cX5_becomeLike 17 = .ok (.getfield 11, 3) := by decide +kernel
theorem dX5_becomeLike_20 : decode cX5_becomeLike 20 = .ok (.iload_n 2, 1) := by decide +kernel
theorem dX5_becomeLike_21 : decode cX5_becomeLike 21 = .ok (.aaload, 1) := by decide +kernel
theorem dX5_becomeLike_22 : decode cX5_becomeLike 22 = .ok (.invokevirtual 32, 3) := by decide +kernel
theorem dX5_becomeLike_25 : decode cX5_becomeLike 25 = .ok (.iinc 2 1, 3) := by decide +kernel
theorem dX5_becomeLike_28 : decode cX5_becomeLike 28 = .ok (.goto (-26), 3) := by decide +kernel
theorem dX5_becomeLike_31 : decode cX5_becomeLike 31 = .ok (.aload_n 1, 1) := by decide +kernel
theorem dX5_becomeLike_32 : decode cX5_becomeLike 32 = .ok (.getfield 17, 3) := by decide +kernel
theorem dX5_becomeLike_35 : decode cX5_becomeLike 35 = .ok (.iconst 0, 1) := by decide +kernel
theorem dX5_becomeLike_36 : decode cX5_becomeLike 36 = .ok (.aload_n 0, 1) := by decide +kernel
theorem dX5_becomeLike_37 : decode cX5_becomeLike 37 = .ok (.getfield 17, 3) := by decide +kernel
theorem dX5_becomeLike_40 : decode cX5_becomeLike 40 = .ok (.iconst 0, 1) := by decide +kernel
theorem dX5_becomeLike_41 : decode cX5_becomeLike 41 = .ok (.bipush 12, 2) := by decide +kernel
theorem dX5_becomeLike_43 : decode cX5_becomeLike 43 = .ok (.invokestatic 36, 3) := by decide +kernel
theorem dX5_becomeLike_46 : decode cX5_becomeLike 46 = .ok (.aload_n 1, 1) := by decide +kernel
theorem dX5_becomeLike_47 : decode cX5_becomeLike 47 = .ok (.getfield 21, 3) := by decide +kernel
theorem dX5_becomeLike_50 : decode cX5_becomeLike 50 = .ok (.iconst 0, 1) := by decide +kernel
theorem dX5_becomeLike_51 : decode cX5_becomeLike 51 = .ok (.aload_n 0, 1) := by decide +kernel
theorem dX5_becomeLike_52 : decode cX5_becomeLike 52 = .ok (.getfield 21, 3) := by decide +kernel
theorem dX5_becomeLike_55 : decode cX5_becomeLike 55 = .ok (.iconst 0, 1) := by decide +kernel
theorem dX5_becomeLike_56 : decode cX5_becomeLike 56 = .ok (.bipush 8, 2) := by decide +kernel
theorem dX5_becomeLike_58 : decode cX5_becomeLike 58 = .ok (.invokestatic 36, 3) := by decide +kernel
theorem dX5_becomeLike_61 : decode cX5_becomeLike 61 = .ok (.aload_n 1, 1) := by decide +kernel
theorem dX5_becomeLike_62 : decode cX5_becomeLike 62 = .ok (.getfield 24, 3) := by decide +kernel
theorem dX5_becomeLike_65 : decode cX5_becomeLike 65 = .ok (.iconst 0, 1) := by decide +kernel
theorem dX5_becomeLike_66 : decode cX5_becomeLike 66 = .ok (.aload_n 0, 1) := by decide +kernel
theorem dX5_becomeLike_67 : decode cX5_becomeLike 67 = .ok (.getfield 24, 3) := by decide +kernel
theorem dX5_becomeLike_70 : decode cX5_becomeLike 70 = .ok (.iconst 0, 1) := by decide +kernel
theorem dX5_becomeLike_71 : decode cX5_becomeLike 71 = .ok (.bipush 8, 2) := by decide +kernel
theorem dX5_becomeLike_73 : decode cX5_becomeLike 73 = .ok (.invokestatic 36, 3) := by decide +kernel
theorem dX5_becomeLike_76 : decode cX5_becomeLike 76 = .ok (.aload_n 0, 1) := by decide +kernel
theorem dX5_becomeLike_77 : decode cX5_becomeLike 77 = .ok (.aload_n 1, 1) := by decide +kernel
theorem dX5_becomeLike_78 : decode cX5_becomeLike 78 = .ok (.getfield 28, 3) := by decide +kernel
theorem dX5_becomeLike_81 : decode cX5_becomeLike 81 = .ok (.putfield 28, 3) := by decide +kernel
theorem dX5_becomeLike_84 : decode cX5_becomeLike 84 = .ok (.aload_n 0, 1) := by decide +kernel
theorem dX5_becomeLike_85 : decode cX5_becomeLike 85 = .ok (.aload_n 1, 1) := by decide +kernel
theorem dX5_becomeLike_86 : decode cX5_becomeLike 86 = .ok (.getfield 42, 3) := by decide +kernel
theorem dX5_becomeLike_89 : decode cX5_becomeLike 89 = .ok (.putfield 42, 3) := by decide +kernel
theorem dX5_becomeLike_92 : decode cX5_becomeLike 92 = .ok (.aload_n 0, 1) := by decide +kernel
theorem dX5_becomeLike_93 : decode cX5_becomeLike 93 = .ok (.aload_n 1, 1) := by decide +kernel
theorem dX5_becomeLike_94 : decode cX5_becomeLike 94 = .ok (.getfield 45, 3) := by decide +kernel
theorem dX5_becomeLike_97 : decode cX5_becomeLike 97 = .ok (.putfield 45, 3) := by decide +kernel
theorem dX5_becomeLike_100 : decode cX5_becomeLike 100 = .ok (.aload_n 0, 1) := by decide +kernel
theorem dX5_becomeLike_101 : decode cX5_becomeLike 101 = .ok (.aload_n 1, 1) := by decide +kernel
theorem dX5_becomeLike_102 : decode cX5_becomeLike 102 = .ok (.getfield 48, 3) := by decide +kernel
theorem dX5_becomeLike_105 : decode cX5_becomeLike 105 = .ok (.putfield 48, 3) := by decide +kernel
theorem dX5_becomeLike_108 : decode cX5_becomeLike 108 = .ok (.aload_n 0, 1) := by decide +kernel
theorem dX5_becomeLike_109 : decode cX5_becomeLike 109 = .ok (.aload_n 1, 1) := by decide +kernel
theorem dX5_becomeLike_110 : decode cX5_becomeLike 110 = .ok (.getfield 51, 3) := by decide +kernel
theorem dX5_becomeLike_113 : decode cX5_becomeLike 113 = .ok (.putfield 51, 3) := by decide +kernel
theorem dX5_becomeLike_116 : decode cX5_becomeLike 116 = .ok (.aload_n 0, 1) := by decide +kernel
theorem dX5_becomeLike_117 : decode cX5_becomeLike 117 = .ok (.aload_n 1, 1) := by decide +kernel
theorem dX5_becomeLike_118 : decode cX5_becomeLike 118 = .ok (.getfield 54, 3) := by decide +kernel
theorem dX5_becomeLike_121 : decode cX5_becomeLike 121 = .ok (.putfield 54, 3) := by decide +kernel
theorem dX5_becomeLike_124 : decode cX5_becomeLike 124 = .ok (.return_, 1) := by decide +kernel
theorem dX5_hasPerson_0 : decode cX5_hasPerson 0 = .ok (.iload_n 1, 1) := by decide +kernel
theorem dX5_hasPerson_1 : decode cX5_hasPerson 1 = .ok (.iconst 0, 1) := by decide +kernel
theorem dX5_hasPerson_2 : decode cX5_hasPerson 2 = .ok (.aload_n 0, 1) := by decide +kernel
theorem dX5_hasPerson_3 : decode cX5_hasPerson 3 = .ok (.getfield 28, 3) := by decide +kernel
theorem dX5_hasPerson_6 : decode cX5_hasPerson 6 = .ok (.iconst 1, 1) := by decide +kernel
theorem dX5_hasPerson_7 : decode cX5_hasPerson 7 = .ok (.isub, 1) := by decide +kernel
theorem dX5_hasPerson_8 : decode cX5_hasPerson 8 = .ok (.invokestatic 57, 3) := by decide +kernel
theorem dX5_hasPerson_11 : decode cX5_hasPerson 11 = .ok (.ireturn, 1) := by decide +kernel
theorem dX5_hasCoat_0 : decode cX5_hasCoat 0 = .ok (.aload_n 0, 1) := by decide +kernel
theorem dX5_hasCoat_1 : decode cX5_hasCoat 1 = .ok (.iload_n 1, 1) := by decide +kernel
theorem dX5_hasCoat_2 : decode cX5_hasCoat 2 = .ok (.invokevirtual 61, 3) := by decide +kernel
theorem dX5_hasCoat_5 : decode cX5_hasCoat 5 = .ok (.ifCond .eq 26, 3) := by decide +kernel
theorem dX5_hasCoat_8 : decode cX5_hasCoat 8 = .ok (.iload_n 2, 1) := by decide +kernel
theorem dX5_hasCoat_9 : decode cX5_hasCoat 9 = .ok (.iconst 0, 1) := by decide +kernel
theorem dX5_hasCoat_10 : decode cX5_hasCoat 10 = .ok (.aload_n 0, 1) := by decide +kernel
theorem dX5_hasCoat_11 : decode cX5_hasCoat 11 = .ok (.getfield 11, 3) := by decide +kernel
theorem dX5_hasCoat_14 : decode cX5_hasCoat 14 = .ok (.iload_n 1, 1) := by decide +kernel
theorem dX5_hasCoat_15 : decode cX5_hasCoat 15 = .ok (.aaload, 1) := by decide +kernel
theorem dX5_hasCoat_16 : decode cX5_hasCoat 16 = .ok (.getfield 65, 3) := by decide +kernel
theorem dX5_hasCoat_19 : decode cX5_hasCoat 19 = .ok (.iconst 1, 1) := by decide +kernel
theorem dX5_hasCoat_20 : decode cX5_hasCoat 20 = .ok (.isub, 1) := by decide +kernel
theorem dX5_hasCoat_21 : decode cX5_hasCoat 21 = .ok (.invokestatic 57, 3) := by decide +kernel
theorem dX5_hasCoat_24 : decode cX5_hasCoat 24 = .ok (.ifCond .eq 7, 3) := by decide +kernel
theorem dX5_hasCoat_27 : decode cX5_hasCoat 27 = .ok (.iconst 1, 1) := by decide +kernel
theorem dX5_hasCoat_28 : decode cX5_hasCoat 28 = .ok (.goto 4, 3) := by decide +kernel
theorem dX5_hasCoat_31 : decode cX5_hasCoat 31 = .ok (.iconst 0, 1) := by decide +kernel
theorem dX5_hasCoat_32 : decode cX5_hasCoat 32 = .ok (.ireturn, 1) := by decide +kernel
theorem dX5_coatsOfAll_0 : decode cX5_coatsOfAll 0 = .ok (.iconst 0, 1) := by decide +kernel
theorem dX5_coatsOfAll_1 : decode cX5_coatsOfAll 1 = .ok (.istore_n 1, 1) := by decide +kernel
theorem dX5_coatsOfAll_2 : decode cX5_coatsOfAll 2 = .ok (.iconst 0, 1) := by decide +kernel
theorem dX5_coatsOfAll_3 : decode cX5_coatsOfAll 3 = .ok (.istore_n 2, 1) := by decide +kernel
theorem dX5_coatsOfAll_4 : decode cX5_coatsOfAll 4 = .ok (.iload_n 2, 1) := by decide +kernel
theorem dX5_coatsOfAll_5 : decode cX5_coatsOfAll 5 = .ok (.aload_n 0, 1) := by decide +kernel
theorem dX5_coatsOfAll_6 : decode cX5_coatsOfAll 6 = .ok (.getfield 28, 3) := by decide +kernel
theorem dX5_coatsOfAll_9 : decode cX5_coatsOfAll 9 = .ok (.if_icmp .ge 21, 3) := by decide +kernel
theorem dX5_coatsOfAll_12 : decode cX5_coatsOfAll 12 = .ok (.iload_n 1, 1) := by decide +kernel
theorem dX5_coatsOfAll_13 : decode cX5_coatsOfAll 13 = .ok (.aload_n 0, 1) := by decide +kernel
theorem dX5_coatsOfAll_14 : decode cX5_coatsOfAll 14 = .ok (.getfield 11, 3) := by decide +kernel
theorem dX5_coatsOfAll_17 : decode cX5_coatsOfAll 17 = .ok (.iload_n 2, 1) := by decide +kernel
theorem dX5_coatsOfAll_18 : decode cX5_coatsOfAll 18 = .ok (.aaload, 1) := by decide +kernel
theorem dX5_coatsOfAll_19 : decode cX5_coatsOfAll 19 = .ok (.getfield 65, 3) := by decide +kernel
theorem dX5_coatsOfAll_22 : decode cX5_coatsOfAll 22 = .ok (.iadd, 1) := by decide +kernel
theorem dX5_coatsOfAll_23 : decode cX5_coatsOfAll 23 = .ok (.istore_n 1, 1) := by decide +kernel
theorem dX5_coatsOfAll_24 : decode cX5_coatsOfAll 24 = .ok (.iinc 2 1, 3) := by decide +kernel
theorem dX5_coatsOfAll_27 : decode cX5_coatsOfAll 27 = .ok (.goto (-23), 3) := by decide +kernel
theorem dX5_coatsOfAll_30 : decode cX5_coatsOfAll 30 = .ok (.iload_n 1, 1) := by decide +kernel
theorem dX5_coatsOfAll_31 : decode cX5_coatsOfAll 31 = .ok (.ireturn, 1) := by decide +kernel
theorem dX5_fallenOnes_0 : decode cX5_fallenOnes 0 = .ok (.iconst 0, 1) := by decide +kernel
theorem dX5_fallenOnes_1 : decode cX5_fallenOnes 1 = .ok (.istore_n 1, 1) := by decide +kernel
theorem dX5_fallenOnes_2 : decode cX5_fallenOnes 2 = .ok (.iconst 0, 1) := by decide +kernel
theorem dX5_fallenOnes_3 : decode cX5_fallenOnes 3 = .ok (.istore_n 2, 1) := by decide +kernel
theorem dX5_fallenOnes_4 : decode cX5_fallenOnes 4 = .ok (.iload_n 2, 1) := by decide +kernel
theorem dX5_fallenOnes_5 : decode cX5_fallenOnes 5 = .ok (.aload_n 0, 1) := by decide +kernel
theorem dX5_fallenOnes_6 : decode cX5_fallenOnes 6 = .ok (.getfield 28, 3) := by decide +kernel
theorem dX5_fallenOnes_9 : decode cX5_fallenOnes 9 = .ok (.if_icmp .ge 29, 3) := by decide +kernel
theorem dX5_fallenOnes_12 : decode cX5_fallenOnes 12 = .ok (.aload_n 0, 1) := by decide +kernel
theorem dX5_fallenOnes_13 : decode cX5_fallenOnes 13 = .ok (.getfield 11, 3) := by decide +kernel
theorem dX5_fallenOnes_16 : decode cX5_fallenOnes 16 = .ok (.iload_n 2, 1) := by decide +kernel
theorem dX5_fallenOnes_17 : decode cX5_fallenOnes 17 = .ok (.aaload, 1) := by decide +kernel
theorem dX5_fallenOnes_18 : decode cX5_fallenOnes 18 = .ok (.getfield 68, 3) := by decide +kernel
theorem dX5_fallenOnes_21 : decode cX5_fallenOnes 21 = .ok (.bipush (-4), 2) := by decide +kernel
theorem dX5_fallenOnes_23 : decode cX5_fallenOnes 23 = .ok (.if_icmp .eq 9, 3) := by decide +kernel
theorem dX5_fallenOnes_26 : decode cX5_fallenOnes 26 = .ok (.iload_n 1, 1) := by decide +kernel
theorem dX5_fallenOnes_27 : decode cX5_fallenOnes 27 = .ok (.iconst 1, 1) := by decide +kernel
theorem dX5_fallenOnes_28 : decode cX5_fallenOnes 28 = .ok (.iload_n 2, 1) := by decide +kernel
theorem dX5_fallenOnes_29 : decode cX5_fallenOnes 29 = .ok (.ishl, 1) := by decide +kernel
theorem dX5_fallenOnes_30 : decode cX5_fallenOnes 30 = .ok (.ior, 1) := by decide +kernel
theorem dX5_fallenOnes_31 : decode cX5_fallenOnes 31 = .ok (.istore_n 1, 1) := by decide +kernel
theorem dX5_fallenOnes_32 : decode cX5_fallenOnes 32 = .ok (.iinc 2 1, 3) := by decide +kernel
theorem dX5_fallenOnes_35 : decode cX5_fallenOnes 35 = .ok (.goto (-31), 3) := by decide +kernel
theorem dX5_fallenOnes_38 : decode cX5_fallenOnes 38 = .ok (.iload_n 1, 1) := by decide +kernel
theorem dX5_fallenOnes_39 : decode cX5_fallenOnes 39 = .ok (.ireturn, 1) := by decide +kernel
theorem dX5_heatOn_0 : decode cX5_heatOn 0 = .ok (.iload_n 1, 1) := by decide +kernel
theorem dX5_heatOn_1 : decode cX5_heatOn 1 = .ok (.bipush 30, 2) := by decide +kernel
theorem dX5_heatOn_3 : decode cX5_heatOn 3 = .ok (.idiv, 1) := by decide +kernel
theorem dX5_heatOn_4 : decode cX5_heatOn 4 = .ok (.istore_n 2, 1) := by decide +kernel
theorem dX5_heatOn_5 : decode cX5_heatOn 5 = .ok (.iload_n 2, 1) := by decide +kernel
theorem dX5_heatOn_6 : decode cX5_heatOn 6 = .ok (.iconst 0, 1) := by decide +kernel
theorem dX5_heatOn_7 : decode cX5_heatOn 7 = .ok (.bipush 11, 2) := by decide +kernel
theorem dX5_heatOn_9 : decode cX5_heatOn 9 = .ok (.invokestatic 57, 3) := by decide +kernel
theorem dX5_heatOn_12 : decode cX5_heatOn 12 = .ok (.ifCond .eq 12, 3) := by decide +kernel
theorem dX5_heatOn_15 : decode cX5_heatOn 15 = .ok (.aload_n 0, 1) := by decide +kernel
theorem dX5_heatOn_16 : decode cX5_heatOn 16 = .ok (.getfield 17, 3) := by decide +kernel
theorem dX5_heatOn_19 : decode cX5_heatOn 19 = .ok (.iload_n 2, 1) := by decide +kernel
theorem dX5_heatOn_20 : decode cX5_heatOn 20 = .ok (.iaload, 1) := by decide +kernel
theorem dX5_heatOn_21 : decode cX5_heatOn 21 = .ok (.goto 4, 3) := by decide +kernel
theorem dX5_heatOn_24 : decode cX5_heatOn 24 = .ok (.iconst 0, 1) := by decide +kernel
theorem dX5_heatOn_25 : decode cX5_heatOn 25 = .ok (.ireturn, 1) := by decide +kernel
theorem dX5_passNightsUntil_0 : decode cX5_passNightsUntil 0 = .ok (.aload_n 0, 1) := by decide +kernel
theorem dX5_passNightsUntil_1 : decode cX5_passNightsUntil 1 = .ok (.getfield 45, 3) := by decide +kernel
theorem dX5_passNightsUntil_4 : decode cX5_passNightsUntil 4 = .ok (.istore_n 2, 1) := by decide +kernel
theorem dX5_passNightsUntil_5 : decode cX5_passNightsUntil 5 = .ok (.iload_n 2, 1) := by decide +kernel
theorem dX5_passNightsUntil_6 : decode cX5_passNightsUntil 6 = .ok (.iload_n 1, 1) := by decide +kernel
theorem dX5_passNightsUntil_7 : decode cX5_passNightsUntil 7 = .ok (.if_icmp .ge 13, 3) := by decide +kernel
theorem dX5_passNightsUntil_10 : decode cX5_passNightsUntil 10 = .ok (.aload_n 0, 1) := by decide +kernel
theorem dX5_passNightsUntil_11 : decode cX5_passNightsUntil 11 = .ok (.invokevirtual 71, 3) := by decide +kernel
theorem dX5_passNightsUntil_14 : decode cX5_passNightsUntil 14 = .ok (.iinc 2 1, 3) := by decide +kernel
theorem dX5_passNightsUntil_17 : decode cX5_passNightsUntil 17 = .ok (.goto (-12), 3) := by decide +kernel
theorem dX5_passNightsUntil_20 : decode cX5_passNightsUntil 20 = .ok (.return_, 1) := by decide +kernel
theorem dX5_passNight_0 : decode cX5_passNight 0 = .ok (.aload_n 0, 1) := by decide +kernel
theorem dX5_passNight_1 : decode cX5_passNight 1 = .ok (.dup, 1) := by decide +kernel
theorem dX5_passNight_2 : decode cX5_passNight 2 = .ok (.getfield 45, 3) := by decide +kernel
theorem dX5_passNight_5 : decode cX5_passNight 5 = .ok (.iconst 1, 1) := by decide +kernel
theorem dX5_passNight_6 : decode cX5_passNight 6 = .ok (.iadd, 1) := by decide +kernel
theorem dX5_passNight_7 : decode cX5_passNight 7 = .ok (.putfield 45, 3) := by decide +kernel
theorem dX5_passNight_10 : decode cX5_passNight 10 = .ok (.iconst 0, 1) := by decide +kernel
theorem dX5_passNight_11 : decode cX5_passNight 11 = .ok (.istore_n 1, 1) := by decide +kernel
theorem dX5_passNight_12 : decode cX5_passNight 12 = .ok (.iload_n 1, 1) := by decide +kernel
theorem dX5_passNight_13 : decode cX5_passNight 13 = .ok (.aload_n 0, 1) := by decide +kernel
theorem dX5_passNight_14 : decode cX5_passNight 14 = .ok (.getfield 28, 3) := by decide +kernel
theorem dX5_passNight_17 : decode cX5_passNight 17 = .ok (.if_icmp .ge 51, 3) := by decide +kernel
theorem dX5_passNight_20 : decode cX5_passNight 20 = .ok (.aload_n 0, 1) := by decide +kernel
theorem dX5_passNight_21 : decode cX5_passNight 21 = .ok (.getfield 11, 3) := by decide +kernel
theorem dX5_passNight_24 : decode cX5_passNight 24 = .ok (.iload_n 1, 1) := by decide +kernel
theorem dX5_passNight_25 : decode cX5_passNight 25 = .ok (.aaload, 1) := by decide +kernel
theorem dX5_passNight_26 : decode cX5_passNight 26 = .ok (.invokevirtual 74, 3) := by decide +kernel
theorem dX5_passNight_29 : decode cX5_passNight 29 = .ok (.aload_n 0, 1) := by decide +kernel
theorem dX5_passNight_30 : decode cX5_passNight 30 = .ok (.getfield 11, 3) := by decide +kernel
theorem dX5_passNight_33 : decode cX5_passNight 33 = .ok (.iload_n 1, 1) := by decide +kernel
theorem dX5_passNight_34 : decode cX5_passNight 34 = .ok (.aaload, 1) := by decide +kernel
theorem dX5_passNight_35 : decode cX5_passNight 35 = .ok (.aload_n 0, 1) := by decide +kernel
theorem dX5_passNight_36 : decode cX5_passNight 36 = .ok (.aload_n 0, 1) := by decide +kernel
theorem dX5_passNight_37 : decode cX5_passNight 37 = .ok (.getfield 45, 3) := by decide +kernel
theorem dX5_passNight_40 : decode cX5_passNight 40 = .ok (.invokevirtual 75, 3) := by decide +kernel
theorem dX5_passNight_43 : decode cX5_passNight 43 = .ok (.invokevirtual 79, 3) := by decide +kernel
theorem dX5_passNight_46 : decode cX5_passNight 46 = .ok (.ifCond .eq 16, 3) := by decide +kernel
theorem dX5_passNight_49 : decode cX5_passNight 49 = .ok (.aload_n 0, 1) := by decide +kernel
theorem dX5_passNight_50 : decode cX5_passNight 50 = .ok (.getfield 11, 3) := by decide +kernel
theorem dX5_passNight_53 : decode cX5_passNight 53 = .ok (.iload_n 1, 1) := by decide +kernel
theorem dX5_passNight_54 : decode cX5_passNight 54 = .ok (.aaload, 1) := by decide +kernel
theorem dX5_passNight_55 : decode cX5_passNight 55 = .ok (.aload_n 0, 1) := by decide +kernel
theorem dX5_passNight_56 : decode cX5_passNight 56 = .ok (.getfield 45, 3) := by decide +kernel
theorem dX5_passNight_59 : decode cX5_passNight 59 = .ok (.invokevirtual 82, 3) := by decide +kernel
theorem dX5_passNight_62 : decode cX5_passNight 62 = .ok (.iinc 1 1, 3) := by decide +kernel
theorem dX5_passNight_65 : decode cX5_passNight 65 = .ok (.goto (-53), 3) := by decide +kernel
theorem dX5_passNight_68 : decode cX5_passNight 68 = .ok (.return_, 1) := by decide +kernel
theorem dX5_canBePaid_0 : decode cX5_canBePaid 0 = .ok (.iload_n 1, 1) := by decide +kernel
theorem dX5_canBePaid_1 : decode cX5_canBePaid 1 = .ok (.aload_n 0, 1) := by decide +kernel
theorem dX5_canBePaid_2 : decode cX5_canBePaid 2 = .ok (.getfield 45, 3) := by decide +kernel
theorem dX5_canBePaid_5 : decode cX5_canBePaid 5 = .ok (.sipush 359, 3) := by decide +kernel
theorem dX5_canBePaid_8 : decode cX5_canBePaid 8 = .ok (.invokestatic 57, 3) := by decide +kernel
theorem dX5_canBePaid_11 : decode cX5_canBePaid 11 = .ok (.ifCond .eq 12, 3) := by decide +kernel
theorem dX5_canBePaid_14 : decode cX5_canBePaid 14 = .ok (.aload_n 0, 1) := by decide +kernel
theorem dX5_canBePaid_15 : decode cX5_canBePaid 15 = .ok (.iload_n 2, 1) := by decide +kernel
theorem dX5_canBePaid_16 : decode cX5_canBePaid 16 = .ok (.iload_n 3, 1) := by decide +kernel
theorem dX5_canBePaid_17 : decode cX5_canBePaid 17 = .ok (.invokevirtual 86, 3) := by decide +kernel
theorem dX5_canBePaid_20 : decode cX5_canBePaid 20 = .ok (.ifCond .ne 5, 3) := by decide +kernel
theorem dX5_canBePaid_23 : decode cX5_canBePaid 23 = .ok (.iconst 0, 1) := by decide +kernel
theorem dX5_canBePaid_24 : decode cX5_canBePaid 24 = .ok (.ireturn, 1) := by decide +kernel
theorem dX5_canBePaid_25 : decode cX5_canBePaid 25 = .ok (.aload_n 0, 1) := by decide +kernel
theorem dX5_canBePaid_26 : decode cX5_canBePaid 26 = .ok (.iload_n 1, 1) := by decide +kernel
theorem dX5_canBePaid_27 : decode cX5_canBePaid 27 = .ok (.invokevirtual 90, 3) := by decide +kernel
theorem dX5_canBePaid_30 : decode cX5_canBePaid 30 = .ok (.aload_n 0, 1) := by decide +kernel
theorem dX5_canBePaid_31 : decode cX5_canBePaid 31 = .ok (.getfield 11, 3) := by decide +kernel
theorem dX5_canBePaid_34 : decode cX5_canBePaid 34 = .ok (.iload_n 2, 1) := by decide +kernel
theorem dX5_canBePaid_35 : decode cX5_canBePaid 35 = .ok (.aaload, 1) := by decide +kernel
theorem dX5_canBePaid_36 : decode cX5_canBePaid 36 = .ok (.astore 4, 2) := by decide +kernel
theorem dX5_canBePaid_38 : decode cX5_canBePaid 38 = .ok (.aload_n 0, 1) := by decide +kernel
theorem dX5_canBePaid_39 : decode cX5_canBePaid 39 = .ok (.getfield 48, 3) := by decide +kernel
theorem dX5_canBePaid_42 : decode cX5_canBePaid 42 = .ok (.aload 4, 2) := by decide +kernel
theorem dX5_canBePaid_44 : decode cX5_canBePaid 44 = .ok (.invokevirtual 93, 3) := by decide +kernel
theorem dX5_canBePaid_47 : decode cX5_canBePaid 47 = .ok (.iload_n 3, 1) := by decide +kernel
theorem dX5_canBePaid_48 : decode cX5_canBePaid 48 = .ok (.invokestatic 97, 3) := by decide +kernel
theorem dX5_canBePaid_51 : decode cX5_canBePaid 51 = .ok (.ifCond .eq 18, 3) := by decide +kernel
theorem dX5_canBePaid_54 : decode cX5_canBePaid 54 = .ok (.aload 4, 2) := by decide +kernel
theorem dX5_canBePaid_56 : decode cX5_canBePaid 56 = .ok (.getfield 100, 3) := by decide +kernel
theorem dX5_canBePaid_59 : decode cX5_canBePaid 59 = .ok (.aload 4, 2) := by decide +kernel
theorem dX5_canBePaid_61 : decode cX5_canBePaid 61 = .ok (.getfield 103, 3) := by decide +kernel
theorem dX5_canBePaid_64 : decode cX5_canBePaid 64 = .ok (.iload_n 3, 1) := by decide +kernel
theorem dX5_canBePaid_65 : decode cX5_canBePaid 65 = .ok (.iaload, 1) := by decide +kernel
theorem dX5_canBePaid_66 : decode cX5_canBePaid 66 = .ok (.if_icmp .ge 5, 3) := by decide +kernel
theorem dX5_canBePaid_69 : decode cX5_canBePaid 69 = .ok (.iconst 0, 1) := by decide +kernel
theorem dX5_canBePaid_70 : decode cX5_canBePaid 70 = .ok (.ireturn, 1) := by decide +kernel
theorem dX5_canBePaid_71 : decode cX5_canBePaid 71 = .ok (.aload 4, 2) := by decide +kernel
theorem dX5_canBePaid_73 : decode cX5_canBePaid 73 = .ok (.iload_n 3, 1) := by decide +kernel
theorem dX5_canBePaid_74 : decode cX5_canBePaid 74 = .ok (.invokevirtual 106, 3) := by decide +kernel
theorem dX5_canBePaid_77 : decode cX5_canBePaid 77 = .ok (.iconst 1, 1) := by decide +kernel
theorem dX5_canBePaid_78 : decode cX5_canBePaid 78 = .ok (.ireturn, 1) := by decide +kernel
theorem dX5_isSetOfWares_0 : decode cX5_isSetOfWares 0 = .ok (.iconst 0, 1) := by decide +kernel
theorem dX5_isSetOfWares_1 : decode cX5_isSetOfWares 1 = .ok (.istore 4, 2) := by decide +kernel
theorem dX5_isSetOfWares_3 : decode cX5_isSetOfWares 3 = .ok (.iconst 0, 1) := by decide +kernel
theorem dX5_isSetOfWares_4 : decode cX5_isSetOfWares 4 = .ok (.istore 5, 2) := by decide +kernel
theorem dX5_isSetOfWares_6 : decode cX5_isSetOfWares 6 = .ok (.iconst 0, 1) := by decide +kernel
theorem dX5_isSetOfWares_7 : decode cX5_isSetOfWares 7 = .ok (.istore 6, 2) := by decide +kernel
theorem dX5_isSetOfWares_9 : decode cX5_isSetOfWares 9 = .ok (.iload 6, 2) := by decide +kernel
theorem dX5_isSetOfWares_11 : decode cX5_isSetOfWares 11 = .ok (.aload_n 0, 1) := by decide +kernel
theorem dX5_isSetOfWares_12 : decode cX5_isSetOfWares 12 = .ok (.getfield 42, 3) := by decide +kernel
theorem dX5_isSetOfWares_15 : decode cX5_isSetOfWares 15 = .ok (.if_icmp .ge 42, 3) := by decide +kernel
theorem dX5_isSetOfWares_18 : decode cX5_isSetOfWares 18 = .ok (.iload_n 1, 1) := by decide +kernel
theorem dX5_isSetOfWares_19 : decode cX5_isSetOfWares 19 = .ok (.iload 6, 2) := by decide +kernel
theorem dX5_isSetOfWares_21 : decode cX5_isSetOfWares 21 = .ok (.invokestatic 109, 3) := by decide +kernel
theorem dX5_isSetOfWares_24 : decode cX5_isSetOfWares 24 = .ok (.ifCond .eq 27, 3) := by decide +kernel
theorem dX5_isSetOfWares_27 : decode cX5_isSetOfWares 27 = .ok (.iload 4, 2) := by decide +kernel
theorem dX5_isSetOfWares_29 : decode cX5_isSetOfWares 29 = .ok (.aload_n 0, 1) := by decide +kernel
theorem dX5_isSetOfWares_30 : decode cX5_isSetOfWares 30 = .ok (.getfield 24, 3) := by decide +kernel
theorem dX5_isSetOfWares_33 : decode cX5_isSetOfWares 33 = .ok (.iload 6, 2) := by decide +kernel
theorem dX5_isSetOfWares_35 : decode cX5_isSetOfWares 35 = .ok (.iaload, 1) := by decide +kernel
theorem dX5_isSetOfWares_36 : decode cX5_isSetOfWares 36 = .ok (.iadd, 1) := by decide +kernel
theorem dX5_isSetOfWares_37 : decode cX5_isSetOfWares 37 = .ok (.istore 4, 2) := by decide +kernel
theorem dX5_isSetOfWares_39 : decode cX5_isSetOfWares 39 = .ok (.iload 5, 2) := by decide +kernel
theorem dX5_isSetOfWares_41 : decode cX5_isSetOfWares 41 = .ok (.aload_n 0, 1) := by decide +kernel
theorem dX5_isSetOfWares_42 : decode cX5_isSetOfWares 42 = .ok (.getfield 21, 3) := by decide +kernel
theorem dX5_isSetOfWares_45 : decode cX5_isSetOfWares 45 = .ok (.iload 6, 2) := by decide +kernel
theorem dX5_isSetOfWares_47 : decode cX5_isSetOfWares 47 = .ok (.iaload, 1) := by decide +kernel
theorem dX5_isSetOfWares_48 : decode cX5_isSetOfWares 48 = .ok (.iadd, 1) := by decide +kernel
theorem dX5_isSetOfWares_49 : decode cX5_isSetOfWares 49 = .ok (.istore 5, 2) := by decide +kernel
theorem dX5_isSetOfWares_51 : decode cX5_isSetOfWares 51 = .ok (.iinc 6 1, 3) := by decide +kernel
theorem dX5_isSetOfWares_54 : decode cX5_isSetOfWares 54 = .ok (.goto (-45), 3) := by decide +kernel
theorem dX5_isSetOfWares_57 : decode cX5_isSetOfWares 57 = .ok (.iload 4, 2) := by decide +kernel
theorem dX5_isSetOfWares_59 : decode cX5_isSetOfWares 59 = .ok (.iload_n 2, 1) := by decide +kernel
theorem dX5_isSetOfWares_60 : decode cX5_isSetOfWares 60 = .ok (.if_icmp .ne 13, 3) := by decide +kernel
theorem dX5_isSetOfWares_63 : decode cX5_isSetOfWares 63 = .ok (.iload 5, 2) := by decide +kernel
theorem dX5_isSetOfWares_65 : decode cX5_isSetOfWares 65 = .ok (.iload_n 3, 1) := by decide +kernel
theorem dX5_isSetOfWares_66 : decode cX5_isSetOfWares 66 = .ok (.if_icmp .ne 7, 3) := by decide +kernel
theorem dX5_isSetOfWares_69 : decode cX5_isSetOfWares 69 = .ok (.iconst 1, 1) := by decide +kernel
theorem dX5_isSetOfWares_70 : decode cX5_isSetOfWares 70 = .ok (.goto 4, 3) := by decide +kernel
theorem dX5_isSetOfWares_73 : decode cX5_isSetOfWares 73 = .ok (.iconst 0, 1) := by decide +kernel
theorem dX5_isSetOfWares_74 : decode cX5_isSetOfWares 74 = .ok (.ireturn, 1) := by decide +kernel
end
section
theorem dX6_init_0 : decode cX6_init 0 = .ok (.aload_n 0, 1) := by decide +kernel
theorem dX6_init_1 : decode cX6_init 1 = .ok (.invokespecial 1, 3) := by decide +kernel
theorem dX6_init_4 : decode cX6_init 4 = .ok (.aload_n 0, 1) := by decide +kernel
theorem dX6_init_5 : decode cX6_init 5 = .ok (.new 7, 3) := by decide +kernel
theorem dX6_init_8 : decode cX6_init 8 = .ok (.dup, 1) := by decide +kernel
theorem dX6_init_9 : decode cX6_init 9 = .ok (.invokespecial 9, 3) := by decide +kernel
theorem dX6_init_12 : decode cX6_init 12 = .ok (.putfield 10, 3) := by decide +kernel
theorem dX6_init_15 : decode cX6_init 15 = .ok (.aload_n 0, 1) := by decide +kernel
theorem dX6_init_16 : decode cX6_init 16 = .ok (.new 7, 3) := by decide +kernel
theorem dX6_init_19 : decode cX6_init 19 = .ok (.dup, 1) := by decide +kernel
theorem dX6_init_20 : decode cX6_init 20 = .ok (.invokespecial 9, 3) := by decide +kernel
theorem dX6_init_23 : decode cX6_init 23 = .ok (.putfield 16, 3) := by decide +kernel
theorem dX6_init_26 : decode cX6_init 26 = .ok (.aload_n 0, 1) := by decide +kernel
theorem dX6_init_27 : decode cX6_init 27 = .ok (.new 7, 3) := by decide +kernel
theorem dX6_init_30 : decode cX6_init 30 = .ok (.dup, 1) := by decide +kernel
theorem dX6_init_31 : decode cX6_init 31 = .ok (.invokespecial 9, 3) := by decide +kernel
theorem dX6_init_34 : decode cX6_init 34 = .ok (.putfield 19, 3) := by decide +kernel
theorem dX6_init_37 : decode cX6_init 37 = .ok (.aload_n 0, 1) := by decide +kernel
theorem dX6_init_38 : decode cX6_init 38 = .ok (.new 22, 3) := by decide +kernel
theorem dX6_init_41 : decode cX6_init 41 = .ok (.dup, 1) := by decide +kernel
theorem dX6_init_42 : decode cX6_init 42 = .ok (.invokespecial 24, 3) := by decide +kernel
theorem dX6_init_45 : decode cX6_init 45 = .ok (.putfield 25, 3) := by decide +kernel
theorem dX6_init_48 : decode cX6_init 48 = .ok (.aload_n 0, 1) := by decide +kernel
theorem dX6_init_49 : decode cX6_init 49 = .ok (.new 29, 3) := by decide +kernel
theorem dX6_init_52 : decode cX6_init 52 = .ok (.dup, 1) := by decide +kernel
theorem dX6_init_53 : decode cX6_init 53 = .ok (.invokespecial 31, 3) := by decide +kernel
theorem dX6_init_56 : decode cX6_init 56 = .ok (.putfield 32, 3) := by decide +kernel
theorem dX6_init_59 : decode cX6_init 59 = .ok (.aload_n 0, 1) := by decide +kernel
theorem dX6_init_60 : decode cX6_init 60 = .ok (.new 36, 3) := by decide +kernel
theorem dX6_init_63 : decode cX6_init 63 = .ok (.dup, 1) := by decide +kernel
theorem dX6_init_64 : decode cX6_init 64 = .ok (.invokespecial 38, 3) := by decide +kernel
theorem dX6_init_67 : decode cX6_init 67 = .ok (.putfield 39, 3) := by decide +kernel
theorem dX6_init_70 : decode cX6_init 70 = .ok (.aload_n 0, 1) := by decide +kernel
theorem dX6_init_71 : decode cX6_init 71 = .ok (.new 43, 3) := by decide +kernel
theorem dX6_init_74 : decode cX6_init 74 = .ok (.dup, 1) := by decide +kernel
theorem dX6_init_75 : decode cX6_init 75 = .ok (.invokespecial 45, 3) := by decide +kernel
theorem dX6_init_78 : decode cX6_init 78 = .ok (.putfield 46, 3) := by decide +kernel
theorem dX6_init_81 : decode cX6_init 81 = .ok (.aload_n 0, 1) := by decide +kernel
theorem dX6_init_82 : decode cX6_init 82 = .ok (.iconst 4, 1) := by decide +kernel
theorem dX6_init_83 : decode cX6_init 83 = .ok (.anewarray 50, 3) := by decide +kernel
theorem dX6_init_86 : decode cX6_init 86 = .ok (.putfield 52, 3) := by decide +kernel
theorem dX6_init_89 : decode cX6_init 89 = .ok (.iconst 0, 1) := by decide +kernel
theorem dX6_init_90 : decode cX6_init 90 = .ok (.istore_n 1, 1) := by decide +kernel
theorem dX6_init_91 : decode cX6_init 91 = .ok (.iload_n 1, 1) := by decide +kernel
theorem dX6_init_92 : decode cX6_init 92 = .ok (.iconst 4, 1) := by decide +kernel
theorem dX6_init_93 : decode cX6_init 93 = .ok (.if_icmp .ge 22, 3) := by decide +kernel
theorem dX6_init_96 : decode cX6_init 96 = .ok (.aload_n 0, 1) := by decide +kernel
theorem dX6_init_97 : decode cX6_init 97 = .ok (.getfield 52, 3) := by decide +kernel
theorem dX6_init_100 : decode cX6_init 100 = .ok (.iload_n 1, 1) := by decide +kernel
theorem dX6_init_101 : decode cX6_init 101 = .ok (.new 50, 3) := by decide +kernel
theorem dX6_init_104 : decode cX6_init 104 = .ok (.dup, 1) := by decide +kernel
theorem dX6_init_105 : decode cX6_init 105 = .ok (.invokespecial 56, 3) := by decide +kernel
theorem dX6_init_108 : decode cX6_init 108 = .ok (.aastore, 1) := by decide +kernel
theorem dX6_init_109 : decode cX6_init 109 = .ok (.iinc 1 1, 3) := by decide +kernel
theorem dX6_init_112 : decode cX6_init 112 = .ok (.goto (-21), 3) := by decide +kernel
theorem dX6_init_115 : decode cX6_init 115 = .ok (.aload_n 0, 1) := by decide +kernel
theorem dX6_init_116 : decode cX6_init 116 = .ok (.iconst 0, 1) := by decide +kernel
theorem dX6_init_117 : decode cX6_init 117 = .ok (.putfield 57, 3) := by decide +kernel
theorem dX6_init_120 : decode cX6_init 120 = .ok (.return_, 1) := by decide +kernel
theorem dX6_person_0 : decode cX6_person 0 = .ok (.iload_n 1, 1) := by decide +kernel
theorem dX6_person_1 : decode cX6_person 1 = .ok (.iconst 0, 1) := by decide +kernel
theorem dX6_person_2 : decode cX6_person 2 = .ok (.sipush 9999, 3) := by decide +kernel
theorem dX6_person_5 : decode cX6_person 5 = .ok (.invokestatic 61, 3) := by decide +kernel
theorem dX6_person_8 : decode cX6_person 8 = .ok (.ifCond .eq 23, 3) := by decide +kernel
theorem dX6_person_11 : decode cX6_person 11 = .ok (.iload_n 2, 1) := by decide +kernel
theorem dX6_person_12 : decode cX6_person 12 = .ok (.iconst 0, 1) := by decide +kernel
theorem dX6_person_13 : decode cX6_person 13 = .ok (.bipush 99, 2) := by decide +kernel
theorem dX6_person_15 : decode cX6_person 15 = .ok (.invokestatic 61, 3) := by decide +kernel
theorem dX6_person_18 : decode cX6_person 18 = .ok (.ifCond .eq 13, 3) := by decide +kernel
theorem dX6_person_21 : decode cX6_person 21 = .ok (.iload_n 3, 1) := by decide +kernel
theorem dX6_person_22 : decode cX6_person 22 = .ok (.iconst 1, 1) := by decide +kernel
theorem dX6_person_23 : decode cX6_person 23 = .ok (.bipush 60, 2) := by decide +kernel
theorem dX6_person_25 : decode cX6_person 25 = .ok (.invokestatic 61, 3) := by decide +kernel
theorem dX6_person_28 : decode cX6_person 28 = .ok (.ifCond .ne 5, 3) := by decide +kernel
theorem dX6_person_31 : decode cX6_person 31 = .ok (.iconst (-1), 1) := by decide +kernel
theorem dX6_person_32 : decode cX6_person 32 = .ok (.ireturn, 1) := by decide +kernel
theorem dX6_person_33 : decode cX6_person 33 = .ok (.aload_n 0, 1) := by decide +kernel
theorem dX6_person_34 : decode cX6_person 34 = .ok (.getfield 10, 3) := by decide +kernel
theorem dX6_person_37 : decode cX6_person 37 = .ok (.getfield 65, 3) := by decide +kernel
theorem dX6_person_40 : decode cX6_person 40 = .ok (.iconst 5, 1) := by decide +kernel
theorem dX6_person_41 : decode cX6_person 41 = .ok (.if_icmp .lt 6, 3) := by decide +kernel
theorem dX6_person_44 : decode cX6_person 44 = .ok (.bipush (-3), 2) := by decide +kernel
theorem dX6_person_46 : decode cX6_person 46 = .ok (.ireturn, 1) := by decide +kernel
theorem dX6_person_47 : decode cX6_person 47 = .ok (.aload_n 0, 1) := by decide +kernel
theorem dX6_person_48 : decode cX6_person 48 = .ok (.getfield 10, 3) := by decide +kernel
theorem dX6_person_51 : decode cX6_person 51 = .ok (.getfield 69, 3) := by decide +kernel
theorem dX6_person_54 : decode cX6_person 54 = .ok (.aload_n 0, 1) := by decide +kernel
theorem dX6_person_55 : decode cX6_person 55 = .ok (.getfield 10, 3) := by decide +kernel
theorem dX6_person_58 : decode cX6_person 58 = .ok (.getfield 65, 3) := by decide +kernel
theorem dX6_person_61 : decode cX6_person 61 = .ok (.aaload, 1) := by decide +kernel
theorem dX6_person_62 : decode cX6_person 62 = .ok (.iload_n 1, 1) := by decide +kernel
theorem dX6_person_63 : decode cX6_person 63 = .ok (.iload_n 2, 1) := by decide +kernel
theorem dX6_person_64 : decode cX6_person 64 = .ok (.iload_n 3, 1) := by decide +kernel
theorem dX6_person_65 : decode cX6_person 65 = .ok (.invokevirtual 73, 3) := by decide +kernel
theorem dX6_person_68 : decode cX6_person 68 = .ok (.aload_n 0, 1) := by decide +kernel
theorem dX6_person_69 : decode cX6_person 69 = .ok (.getfield 10, 3) := by decide +kernel
theorem dX6_person_72 : decode cX6_person 72 = .ok (.dup, 1) := by decide +kernel
theorem dX6_person_73 : decode cX6_person 73 = .ok (.getfield 65, 3) := by decide +kernel
theorem dX6_person_76 : decode cX6_person 76 = .ok (.iconst 1, 1) := by decide +kernel
theorem dX6_person_77 : decode cX6_person 77 = .ok (.iadd, 1) := by decide +kernel
theorem dX6_person_78 : decode cX6_person 78 = .ok (.putfield 65, 3) := by decide +kernel
theorem dX6_person_81 : decode cX6_person 81 = .ok (.aload_n 0, 1) := by decide +kernel
theorem dX6_person_82 : decode cX6_person 82 = .ok (.getfield 10, 3) := by decide +kernel
theorem dX6_person_85 : decode cX6_person 85 = .ok (.getfield 65, 3) := by decide +kernel
theorem dX6_person_88 : decode cX6_person 88 = .ok (.iconst 1, 1) := by decide +kernel
theorem dX6_person_89 : decode cX6_person 89 = .ok (.isub, 1) := by decide +kernel
theorem dX6_person_90 : decode cX6_person 90 = .ok (.ireturn, 1) := by decide +kernel
theorem dX6_of_0 : decode cX6_of 0 = .ok (.aload_n 0, 1) := by decide +kernel
theorem dX6_of_1 : decode cX6_of 1 = .ok (.getfield 10, 3) := by decide +kernel
theorem dX6_of_4 : decode cX6_of 4 = .ok (.iload_n 1, 1) := by decide +kernel
theorem dX6_of_5 : decode cX6_of 5 = .ok (.invokevirtual 77, 3) := by decide +kernel
theorem dX6_of_8 : decode cX6_of 8 = .ok (.ifCond .ne 5, 3) := by decide +kernel
theorem dX6_of_11 : decode cX6_of 11 = .ok (.iconst (-1), 1) := by decide +kernel
theorem dX6_of_12 : decode cX6_of 12 = .ok (.ireturn, 1) := by decide +kernel
theorem dX6_of_13 : decode cX6_of 13 = .ok (.aload_n 0, 1) := by decide +kernel
theorem dX6_of_14 : decode cX6_of 14 = .ok (.getfield 10, 3) := by decide +kernel
theorem dX6_of_17 : decode cX6_of 17 = .ok (.getfield 69, 3) := by decide +kernel
theorem dX6_of_20 : decode cX6_of 20 = .ok (.iload_n 1, 1) := by decide +kernel
theorem dX6_of_21 : decode cX6_of 21 = .ok (.aaload, 1) := by decide +kernel
theorem dX6_of_22 : decode cX6_of 22 = .ok (.astore_n 3, 1) := by decide +kernel
theorem dX6_of_23 : decode cX6_of 23 = .ok (.iload_n 2, 1) := by decide +kernel
theorem dX6_of_24 : decode cX6_of 24 = .ok (.tableswitch 84 0 6 #[44, 49, 54, 59, 64, 69, 79], 44) := by decide +kernel
theorem dX6_of_68 : decode cX6_of 68 = .ok (.aload_n 3, 1) := by decide +kernel
theorem dX6_of_69 : decode cX6_of 69 = .ok (.getfield 81, 3) := by decide +kernel
theorem dX6_of_72 : decode cX6_of 72 = .ok (.ireturn, 1) := by decide +kernel
theorem dX6_of_73 : decode cX6_of 73 = .ok (.aload_n 3, 1) := by decide +kernel
theorem dX6_of_74 : decode cX6_of 74 = .ok (.getfield 84, 3) := by decide +kernel
theorem dX6_of_77 : decode cX6_of 77 = .ok (.ireturn, 1) := by decide +kernel
theorem dX6_of_78 : decode cX6_of 78 = .ok (.aload_n 3, 1) := by decide +kernel
theorem dX6_of_79 : decode cX6_of 79 = .ok (.getfield 87, 3) := by decide +kernel
theorem dX6_of_82 : decode cX6_of 82 = .ok (.ireturn, 1) := by decide +kernel
theorem dX6_of_83 : decode cX6_of 83 = .ok (.aload_n 3, 1) := by decide +kernel
theorem dX6_of_84 : decode cX6_of 84 = .ok (.getfield 90, 3) := by decide +kernel
theorem dX6_of_87 : decode cX6_of 87 = .ok (.ireturn, 1) := by decide +kernel
theorem dX6_of_88 : decode cX6_of 88 = .ok (.aload_n 3, 1) := by decide +kernel
theorem dX6_of_89 : decode cX6_of 89 = .ok (.invokevirtual 93, 3) := by decide +kernel
theorem dX6_of_92 : decode cX6_of 92 = .ok (.ireturn, 1) := by decide +kernel
theorem dX6_of_93 : decode cX6_of 93 = .ok (.aload_n 3, 1) := by decide +kernel
theorem dX6_of_94 : decode cX6_of 94 = .ok (.invokevirtual 97, 3) := by decide +kernel
theorem dX6_of_97 : decode cX6_of 97 = .ok (.ldc 100, 2) := by decide +kernel
theorem dX6_of_99 : decode cX6_of 99 = .ok (.invokestatic 101, 3) := by decide +kernel
theorem dX6_of_102 : decode cX6_of 102 = .ok (.ireturn, 1) := by decide +kernel
theorem dX6_of_103 : decode cX6_of 103 = .ok (.aload_n 3, 1) := by decide +kernel
theorem dX6_of_104 : decode cX6_of 104 = .ok (.getfield 107, 3) := by decide +kernel
theorem dX6_of_107 : decode cX6_of 107 = .ok (.ireturn, 1) := by decide +kernel
theorem dX6_of_108 : decode cX6_of 108 = .ok (.iconst (-1), 1) := by decide +kernel
theorem dX6_of_109 : decode cX6_of 109 = .ok (.ireturn, 1) := by decide +kernel
theorem dX6_coat_0 : decode cX6_coat 0 = .ok (.aload_n 0, 1) := by decide +kernel
theorem dX6_coat_1 : decode cX6_coat 1 = .ok (.getfield 10, 3) := by decide +kernel
theorem dX6_coat_4 : decode cX6_coat 4 = .ok (.iload_n 1, 1) := by decide +kernel
theorem dX6_coat_5 : decode cX6_coat 5 = .ok (.iload_n 2, 1) := by decide +kernel
theorem dX6_coat_6 : decode cX6_coat 6 = .ok (.invokevirtual 110, 3) := by decide +kernel
theorem dX6_coat_9 : decode cX6_coat 9 = .ok (.ifCond .ne 5, 3) := by decide +kernel
theorem dX6_coat_12 : decode cX6_coat 12 = .ok (.iconst (-1), 1) := by decide +kernel
theorem dX6_coat_13 : decode cX6_coat 13 = .ok (.ireturn, 1) := by decide +kernel
theorem dX6_coat_14 : decode cX6_coat 14 = .ok (.aload_n 0, 1) := by decide +kernel
theorem dX6_coat_15 : decode cX6_coat 15 = .ok (.getfield 10, 3) := by decide +kernel
theorem dX6_coat_18 : decode cX6_coat 18 = .ok (.getfield 69, 3) := by decide +kernel
theorem dX6_coat_21 : decode cX6_coat 21 = .ok (.iload_n 1, 1) := by decide +kernel
theorem dX6_coat_22 : decode cX6_coat 22 = .ok (.aaload, 1) := by decide +kernel
theorem dX6_coat_23 : decode cX6_coat 23 = .ok (.astore 4, 2) := by decide +kernel
theorem dX6_coat_25 : decode cX6_coat 25 = .ok (.iload_n 3, 1) := by decide +kernel
theorem dX6_coat_26 : decode cX6_coat 26 = .ok (.tableswitch 62 0 3 #[30, 38, 46, 54], 30) := by decide +kernel
theorem dX6_coat_56 : decode cX6_coat 56 = .ok (.aload 4, 2) := by decide +kernel
theorem dX6_coat_58 : decode cX6_coat 58 = .ok (.getfield 114, 3) := by decide +kernel
theorem dX6_coat_61 : decode cX6_coat 61 = .ok (.iload_n 2, 1) := by decide +kernel
theorem dX6_coat_62 : decode cX6_coat 62 = .ok (.iaload, 1) := by decide +kernel
theorem dX6_coat_63 : decode cX6_coat 63 = .ok (.ireturn, 1) := by decide +kernel
theorem dX6_coat_64 : decode cX6_coat 64 = .ok (.aload 4, 2) := by decide +kernel
theorem dX6_coat_66 : decode cX6_coat 66 = .ok (.getfield 118, 3) := by decide +kernel
theorem dX6_coat_69 : decode cX6_coat 69 = .ok (.iload_n 2, 1) := by decide +kernel
theorem dX6_coat_70 : decode cX6_coat 70 = .ok (.iaload, 1) := by decide +kernel
theorem dX6_coat_71 : decode cX6_coat 71 = .ok (.ireturn, 1) := by decide +kernel
theorem dX6_coat_72 : decode cX6_coat 72 = .ok (.aload 4, 2) := by decide +kernel
theorem dX6_coat_74 : decode cX6_coat 74 = .ok (.getfield 121, 3) := by decide +kernel
theorem dX6_coat_77 : decode cX6_coat 77 = .ok (.iload_n 2, 1) := by decide +kernel
theorem dX6_coat_78 : decode cX6_coat 78 = .ok (.iaload, 1) := by decide +kernel
theorem dX6_coat_79 : decode cX6_coat 79 = .ok (.ireturn, 1) := by decide +kernel
theorem dX6_coat_80 : decode cX6_coat 80 = .ok (.aload 4, 2) := by decide +kernel
theorem dX6_coat_82 : decode cX6_coat 82 = .ok (.getfield 124, 3) := by decide +kernel
theorem dX6_coat_85 : decode cX6_coat 85 = .ok (.iload_n 2, 1) := by decide +kernel
theorem dX6_coat_86 : decode cX6_coat 86 = .ok (.iaload, 1) := by decide +kernel
theorem dX6_coat_87 : decode cX6_coat 87 = .ok (.ireturn, 1) := by decide +kernel
theorem dX6_coat_88 : decode cX6_coat 88 = .ok (.iconst (-1), 1) := by decide +kernel
theorem dX6_coat_89 : decode cX6_coat 89 = .ok (.ireturn, 1) := by decide +kernel
theorem dX6_tax_0 : decode cX6_tax 0 = .ok (.aload_n 0, 1) := by decide +kernel
theorem dX6_tax_1 : decode cX6_tax 1 = .ok (.getfield 10, 3) := by decide +kernel
theorem dX6_tax_4 : decode cX6_tax 4 = .ok (.iload_n 1, 1) := by decide +kernel
theorem dX6_tax_5 : decode cX6_tax 5 = .ok (.invokevirtual 77, 3) := by decide +kernel
theorem dX6_tax_8 : decode cX6_tax 8 = .ok (.ifCond .eq 20, 3) := by decide +kernel
theorem dX6_tax_11 : decode cX6_tax 11 = .ok (.iload_n 2, 1) := by decide +kernel
theorem dX6_tax_12 : decode cX6_tax 12 = .ok (.invokestatic 127, 3) := by decide +kernel
theorem dX6_tax_15 : decode cX6_tax 15 = .ok (.ifCond .eq 13, 3) := by decide +kernel
theorem dX6_tax_18 : decode cX6_tax 18 = .ok (.iload_n 3, 1) := by decide +kernel
theorem dX6_tax_19 : decode cX6_tax 19 = .ok (.iconst 0, 1) := by decide +kernel
theorem dX6_tax_20 : decode cX6_tax 20 = .ok (.bipush 9, 2) := by decide +kernel
theorem dX6_tax_22 : decode cX6_tax 22 = .ok (.invokestatic 61, 3) := by decide +kernel
theorem dX6_tax_25 : decode cX6_tax 25 = .ok (.ifCond .ne 5, 3) := by decide +kernel
theorem dX6_tax_28 : decode cX6_tax 28 = .ok (.iconst (-1), 1) := by decide +kernel
theorem dX6_tax_29 : decode cX6_tax 29 = .ok (.ireturn, 1) := by decide +kernel
theorem dX6_tax_30 : decode cX6_tax 30 = .ok (.aload_n 0, 1) := by decide +kernel
theorem dX6_tax_31 : decode cX6_tax 31 = .ok (.getfield 10, 3) := by decide +kernel
theorem dX6_tax_34 : decode cX6_tax 34 = .ok (.getfield 69, 3) := by decide +kernel
theorem dX6_tax_37 : decode cX6_tax 37 = .ok (.iload_n 1, 1) := by decide +kernel
theorem dX6_tax_38 : decode cX6_tax 38 = .ok (.aaload, 1) := by decide +kernel
theorem dX6_tax_39 : decode cX6_tax 39 = .ok (.getfield 130, 3) := by decide +kernel
theorem dX6_tax_42 : decode cX6_tax 42 = .ok (.astore 4, 2) := by decide +kernel
theorem dX6_tax_44 : decode cX6_tax 44 = .ok (.aload 4, 2) := by decide +kernel
theorem dX6_tax_46 : decode cX6_tax 46 = .ok (.iload_n 2, 1) := by decide +kernel
theorem dX6_tax_47 : decode cX6_tax 47 = .ok (.iaload, 1) := by decide +kernel
theorem dX6_tax_48 : decode cX6_tax 48 = .ok (.istore 5, 2) := by decide +kernel
theorem dX6_tax_50 : decode cX6_tax 50 = .ok (.aload 4, 2) := by decide +kernel
theorem dX6_tax_52 : decode cX6_tax 52 = .ok (.iload_n 2, 1) := by decide +kernel
theorem dX6_tax_53 : decode cX6_tax 53 = .ok (.iload_n 3, 1) := by decide +kernel
theorem dX6_tax_54 : decode cX6_tax 54 = .ok (.iastore, 1) := by decide +kernel
theorem dX6_tax_55 : decode cX6_tax 55 = .ok (.iload 5, 2) := by decide +kernel
theorem dX6_tax_57 : decode cX6_tax 57 = .ok (.ireturn, 1) := by decide +kernel
theorem dX6_heat_0 : decode cX6_heat 0 = .ok (.iload_n 1, 1) := by decide +kernel
theorem dX6_heat_1 : decode cX6_heat 1 = .ok (.iconst 0, 1) := by decide +kernel
theorem dX6_heat_2 : decode cX6_heat 2 = .ok (.bipush 11, 2) := by decide +kernel
theorem dX6_heat_4 : decode cX6_heat 4 = .ok (.invokestatic 61, 3) := by decide +kernel
theorem dX6_heat_7 : decode cX6_heat 7 = .ok (.ifCond .eq 13, 3) := by decide +kernel
theorem dX6_heat_10 : decode cX6_heat 10 = .ok (.iload_n 2, 1) := by decide +kernel
theorem dX6_heat_11 : decode cX6_heat 11 = .ok (.iconst 0, 1) := by decide +kernel
theorem dX6_heat_12 : decode cX6_heat 12 = .ok (.bipush 40, 2) := by decide +kernel
theorem dX6_heat_14 : decode cX6_heat 14 = .ok (.invokestatic 61, 3) := by decide +kernel
theorem dX6_heat_17 : decode cX6_heat 17 = .ok (.ifCond .ne 5, 3) := by decide +kernel
theorem dX6_heat_20 : decode cX6_heat 20 = .ok (.iconst (-1), 1) := by decide +kernel
theorem dX6_heat_21 : decode cX6_heat 21 = .ok (.ireturn, 1) := by decide +kernel
theorem dX6_heat_22 : decode cX6_heat 22 = .ok (.aload_n 0, 1) := by decide +kernel
theorem dX6_heat_23 : decode cX6_heat 23 = .ok (.getfield 10, 3) := by decide +kernel
theorem dX6_heat_26 : decode cX6_heat 26 = .ok (.getfield 133, 3) := by decide +kernel
theorem dX6_heat_29 : decode cX6_heat 29 = .ok (.iload_n 1, 1) := by decide +kernel
theorem dX6_heat_30 : decode cX6_heat 30 = .ok (.iaload, 1) := by decide +kernel
theorem dX6_heat_31 : decode cX6_heat 31 = .ok (.istore_n 3, 1) := by decide +kernel
theorem dX6_heat_32 : decode cX6_heat 32 = .ok (.aload_n 0, 1) := by decide +kernel
theorem dX6_heat_33 : decode cX6_heat 33 = .ok (.getfield 10, 3) := by decide +kernel
theorem dX6_heat_36 : decode cX6_heat 36 = .ok (.getfield 133, 3) := by decide +kernel
theorem dX6_heat_39 : decode cX6_heat 39 = .ok (.iload_n 1, 1) := by decide +kernel
theorem dX6_heat_40 : decode cX6_heat 40 = .ok (.iload_n 2, 1) := by decide +kernel
theorem dX6_heat_41 : decode cX6_heat 41 = .ok (.iastore, 1) := by decide +kernel
theorem dX6_heat_42 : decode cX6_heat 42 = .ok (.iload_n 3, 1) := by decide +kernel
theorem dX6_heat_43 : decode cX6_heat 43 = .ok (.ireturn, 1) := by decide +kernel
theorem dX6_rule_0 : decode cX6_rule 0 = .ok (.iload_n 1, 1) := by decide +kernel
theorem dX6_rule_1 : decode cX6_rule 1 = .ok (.ifCond .ne 30, 3) := by decide +kernel
theorem dX6_rule_4 : decode cX6_rule 4 = .ok (.iload_n 2, 1) := by decide +kernel
theorem dX6_rule_5 : decode cX6_rule 5 = .ok (.iconst 0, 1) := by decide +kernel
theorem dX6_rule_6 : decode cX6_rule 6 = .ok (.iconst 2, 1) := by decide +kernel
theorem dX6_rule_7 : decode cX6_rule 7 = .ok (.invokestatic 61, 3) := by decide +kernel
theorem dX6_rule_10 : decode cX6_rule 10 = .ok (.ifCond .eq 21, 3) := by decide +kernel
theorem dX6_rule_13 : decode cX6_rule 13 = .ok (.aload_n 0, 1) := by decide +kernel
theorem dX6_rule_14 : decode cX6_rule 14 = .ok (.getfield 10, 3) := by decide +kernel
theorem dX6_rule_17 : decode cX6_rule 17 = .ok (.getfield 136, 3) := by decide +kernel
theorem dX6_rule_20 : decode cX6_rule 20 = .ok (.istore_n 3, 1) := by decide +kernel
theorem dX6_rule_21 : decode cX6_rule 21 = .ok (.aload_n 0, 1) := by decide +kernel
theorem dX6_rule_22 : decode cX6_rule 22 = .ok (.getfield 10, 3) := by decide +kernel
theorem dX6_rule_25 : decode cX6_rule 25 = .ok (.iload_n 2, 1) := by decide +kernel
theorem dX6_rule_26 : decode cX6_rule 26 = .ok (.putfield 136, 3) := by decide +kernel
theorem dX6_rule_29 : decode cX6_rule 29 = .ok (.iload_n 3, 1) := by decide +kernel
theorem dX6_rule_30 : decode cX6_rule 30 = .ok (.ireturn, 1) := by decide +kernel
theorem dX6_rule_31 : decode cX6_rule 31 = .ok (.iload_n 1, 1) := by decide +kernel
theorem dX6_rule_32 : decode cX6_rule 32 = .ok (.iconst 1, 1) := by decide +kernel
theorem dX6_rule_33 : decode cX6_rule 33 = .ok (.if_icmp .ne 31, 3) := by decide +kernel
theorem dX6_rule_36 : decode cX6_rule 36 = .ok (.iload_n 2, 1) := by decide +kernel
theorem dX6_rule_37 : decode cX6_rule 37 = .ok (.iconst 0, 1) := by decide +kernel
theorem dX6_rule_38 : decode cX6_rule 38 = .ok (.bipush 9, 2) := by decide +kernel
theorem dX6_rule_40 : decode cX6_rule 40 = .ok (.invokestatic 61, 3) := by decide +kernel
theorem dX6_rule_43 : decode cX6_rule 43 = .ok (.ifCond .eq 21, 3) := by decide +kernel
theorem dX6_rule_46 : decode cX6_rule 46 = .ok (.aload_n 0, 1) := by decide +kernel
theorem dX6_rule_47 : decode cX6_rule 47 = .ok (.getfield 10, 3) := by decide +kernel
theorem dX6_rule_50 : decode cX6_rule 50 = .ok (.getfield 139, 3) := by decide +kernel
theorem dX6_rule_53 : decode cX6_rule 53 = .ok (.istore_n 3, 1) := by decide +kernel
theorem dX6_rule_54 : decode cX6_rule 54 = .ok (.aload_n 0, 1) := by decide +kernel
theorem dX6_rule_55 : decode cX6_rule 55 = .ok (.getfield 10, 3) := by decide +kernel
theorem dX6_rule_58 : decode cX6_rule 58 = .ok (.iload_n 2, 1) := by decide +kernel
theorem dX6_rule_59 : decode cX6_rule 59 = .ok (.putfield 139, 3) := by decide +kernel
theorem dX6_rule_62 : decode cX6_rule 62 = .ok (.iload_n 3, 1) := by decide +kernel
theorem dX6_rule_63 : decode cX6_rule 63 = .ok (.ireturn, 1) := by decide +kernel
theorem dX6_rule_64 : decode cX6_rule 64 = .ok (.iconst (-1), 1) := by decide +kernel
theorem dX6_rule_65 : decode cX6_rule 65 = .ok (.ireturn, 1) := by decide +kernel
theorem dX6_type_0 : decode cX6_type 0 = .ok (.iload_n 3, 1) := by decide +kernel
theorem dX6_type_1 : decode cX6_type 1 = .ok (.iconst 1, 1) := by decide +kernel
theorem dX6_type_2 : decode cX6_type 2 = .ok (.bipush 8, 2) := by decide +kernel
theorem dX6_type_4 : decode cX6_type 4 = .ok (.invokestatic 61, 3) := by decide +kernel
theorem dX6_type_7 : decode cX6_type 7 = .ok (.ifCond .eq 11, 3) := by decide +kernel
theorem dX6_type_10 : decode cX6_type 10 = .ok (.lload_n 1, 1) := by decide +kernel
theorem dX6_type_11 : decode cX6_type 11 = .ok (.iload_n 3, 1) := by decide +kernel
theorem dX6_type_12 : decode cX6_type 12 = .ok (.invokestatic 142, 3) := by decide +kernel
theorem dX6_type_15 : decode cX6_type 15 = .ok (.ifCond .ne 5, 3) := by decide +kernel
theorem dX6_type_18 : decode cX6_type 18 = .ok (.iconst (-1), 1) := by decide +kernel
theorem dX6_type_19 : decode cX6_type 19 = .ok (.ireturn, 1) := by decide +kernel
theorem dX6_type_20 : decode cX6_type 20 = .ok (.aload_n 0, 1) := by decide +kernel
theorem dX6_type_21 : decode cX6_type 21 = .ok (.getfield 46, 3) := by decide +kernel
theorem dX6_type_24 : decode cX6_type 24 = .ok (.getfield 146, 3) := by decide +kernel
theorem dX6_type_27 : decode cX6_type 27 = .ok (.iload_n 3, 1) := by decide +kernel
theorem dX6_type_28 : decode cX6_type 28 = .ok (.iadd, 1) := by decide +kernel
theorem dX6_type_29 : decode cX6_type 29 = .ok (.bipush 80, 2) := by decide +kernel
theorem dX6_type_31 : decode cX6_type 31 = .ok (.if_icmp .le 6, 3) := by decide +kernel
theorem dX6_type_34 : decode cX6_type 34 = .ok (.bipush (-3), 2) := by decide +kernel
theorem dX6_type_36 : decode cX6_type 36 = .ok (.ireturn, 1) := by decide +kernel
theorem dX6_type_37 : decode cX6_type 37 = .ok (.aload_n 0, 1) := by decide +kernel
theorem dX6_type_38 : decode cX6_type 38 = .ok (.getfield 46, 3) := by decide +kernel
theorem dX6_type_41 : decode cX6_type 41 = .ok (.lload_n 1, 1) := by decide +kernel
theorem dX6_type_42 : decode cX6_type 42 = .ok (.iload_n 3, 1) := by decide +kernel
theorem dX6_type_43 : decode cX6_type 43 = .ok (.invokevirtual 149, 3) := by decide +kernel
theorem dX6_type_46 : decode cX6_type 46 = .ok (.aload_n 0, 1) := by decide +kernel
theorem dX6_type_47 : decode cX6_type 47 = .ok (.getfield 46, 3) := by decide +kernel
theorem dX6_type_50 : decode cX6_type 50 = .ok (.getfield 146, 3) := by decide +kernel
theorem dX6_type_53 : decode cX6_type 53 = .ok (.ireturn, 1) := by decide +kernel
theorem dX6_coats_0 : decode cX6_coats 0 = .ok (.aload_n 0, 1) := by decide +kernel
theorem dX6_coats_1 : decode cX6_coats 1 = .ok (.getfield 10, 3) := by decide +kernel
theorem dX6_coats_4 : decode cX6_coats 4 = .ok (.iload_n 1, 1) := by decide +kernel
theorem dX6_coats_5 : decode cX6_coats 5 = .ok (.invokevirtual 77, 3) := by decide +kernel
theorem dX6_coats_8 : decode cX6_coats 8 = .ok (.ifCond .ne 5, 3) := by decide +kernel
theorem dX6_coats_11 : decode cX6_coats 11 = .ok (.iconst (-1), 1) := by decide +kernel
theorem dX6_coats_12 : decode cX6_coats 12 = .ok (.ireturn, 1) := by decide +kernel
theorem dX6_coats_13 : decode cX6_coats 13 = .ok (.aload_n 0, 1) := by decide +kernel
theorem dX6_coats_14 : decode cX6_coats 14 = .ok (.getfield 46, 3) := by decide +kernel
theorem dX6_coats_17 : decode cX6_coats 17 = .ok (.aload_n 0, 1) := by decide +kernel
theorem dX6_coats_18 : decode cX6_coats 18 = .ok (.getfield 25, 3) := by decide +kernel
theorem dX6_coats_21 : decode cX6_coats 21 = .ok (.invokevirtual 153, 3) := by decide +kernel
theorem dX6_coats_24 : decode cX6_coats 24 = .ok (.istore_n 2, 1) := by decide +kernel
theorem dX6_coats_25 : decode cX6_coats 25 = .ok (.aload_n 0, 1) := by decide +kernel
theorem dX6_coats_26 : decode cX6_coats 26 = .ok (.getfield 46, 3) := by decide +kernel
theorem dX6_coats_29 : decode cX6_coats 29 = .ok (.iconst 0, 1) := by decide +kernel
theorem dX6_coats_30 : decode cX6_coats 30 = .ok (.putfield 146, 3) := by decide +kernel
theorem dX6_coats_33 : decode cX6_coats 33 = .ok (.iload_n 2, 1) := by decide +kernel
theorem dX6_coats_34 : decode cX6_coats 34 = .ok (.ifCond .lt 19, 3) := by decide +kernel
theorem dX6_coats_37 : decode cX6_coats 37 = .ok (.aload_n 0, 1) := by decide +kernel
theorem dX6_coats_38 : decode cX6_coats 38 = .ok (.getfield 10, 3) := by decide +kernel
theorem dX6_coats_41 : decode cX6_coats 41 = .ok (.getfield 69, 3) := by decide +kernel
theorem dX6_coats_44 : decode cX6_coats 44 = .ok (.iload_n 1, 1) := by decide +kernel
theorem dX6_coats_45 : decode cX6_coats 45 = .ok (.aaload, 1) := by decide +kernel
theorem dX6_coats_46 : decode cX6_coats 46 = .ok (.aload_n 0, 1) := by decide +kernel
theorem dX6_coats_47 : decode cX6_coats 47 = .ok (.getfield 25, 3) := by decide +kernel
theorem dX6_coats_50 : decode cX6_coats 50 = .ok (.invokevirtual 157, 3) := by decide +kernel
theorem dX6_coats_53 : decode cX6_coats 53 = .ok (.iload_n 2, 1) := by decide +kernel
theorem dX6_coats_54 : decode cX6_coats 54 = .ok (.ireturn, 1) := by decide +kernel
theorem dX6_count_0 : decode cX6_count 0 = .ok (.iload_n 1, 1) := by decide +kernel
theorem dX6_count_1 : decode cX6_count 1 = .ok (.tableswitch 87 0 5 #[39, 47, 55, 63, 71, 79], 39) := by decide +kernel
theorem dX6_count_40 : decode cX6_count 40 = .ok (.aload_n 0, 1) := by decide +kernel
theorem dX6_count_41 : decode cX6_count 41 = .ok (.getfield 10, 3) := by decide +kernel
theorem dX6_count_44 : decode cX6_count 44 = .ok (.getfield 65, 3) := by decide +kernel
theorem dX6_count_47 : decode cX6_count 47 = .ok (.ireturn, 1) := by decide +kernel
theorem dX6_count_48 : decode cX6_count 48 = .ok (.aload_n 0, 1) := by decide +kernel
theorem dX6_count_49 : decode cX6_count 49 = .ok (.getfield 10, 3) := by decide +kernel
theorem dX6_count_52 : decode cX6_count 52 = .ok (.getfield 161, 3) := by decide +kernel
theorem dX6_count_55 : decode cX6_count 55 = .ok (.ireturn, 1) := by decide +kernel
theorem dX6_count_56 : decode cX6_count 56 = .ok (.aload_n 0, 1) := by decide +kernel
theorem dX6_count_57 : decode cX6_count 57 = .ok (.getfield 10, 3) := by decide +kernel
theorem dX6_count_60 : decode cX6_count 60 = .ok (.invokevirtual 164, 3) := by decide +kernel
theorem dX6_count_63 : decode cX6_count 63 = .ok (.ireturn, 1) := by decide +kernel
theorem dX6_count_64 : decode cX6_count 64 = .ok (.aload_n 0, 1) := by decide +kernel
theorem dX6_count_65 : decode cX6_count 65 = .ok (.getfield 10, 3) := by decide +kernel
theorem dX6_count_68 : decode cX6_count 68 = .ok (.invokevirtual 167, 3) := by decide +kernel
theorem dX6_count_71 : decode cX6_count 71 = .ok (.ireturn, 1) := by decide +kernel
theorem dX6_count_72 : decode cX6_count 72 = .ok (.aload_n 0, 1) := by decide +kernel
theorem dX6_count_73 : decode cX6_count 73 = .ok (.getfield 10, 3) := by decide +kernel
theorem dX6_count_76 : decode cX6_count 76 = .ok (.getfield 170, 3) := by decide +kernel
theorem dX6_count_79 : decode cX6_count 79 = .ok (.ireturn, 1) := by decide +kernel
theorem dX6_count_80 : decode cX6_count 80 = .ok (.aload_n 0, 1) := by decide +kernel
theorem dX6_count_81 : decode cX6_count 81 = .ok (.getfield 10, 3) := by decide +kernel
theorem dX6_count_84 : decode cX6_count 84 = .ok (.getfield 173, 3) := by decide +kernel
theorem dX6_count_87 : decode cX6_count 87 = .ok (.ireturn, 1) := by decide +kernel
theorem dX6_count_88 : decode cX6_count 88 = .ok (.iconst (-1), 1) := by decide +kernel
theorem dX6_count_89 : decode cX6_count 89 = .ok (.ireturn, 1) := by decide +kernel
theorem dX6_take_0 : decode cX6_take 0 = .ok (.aload_n 0, 1) := by decide +kernel
theorem dX6_take_1 : decode cX6_take 1 = .ok (.getfield 10, 3) := by decide +kernel
theorem dX6_take_4 : decode cX6_take 4 = .ok (.iload_n 1, 1) := by decide +kernel
theorem dX6_take_5 : decode cX6_take 5 = .ok (.invokevirtual 77, 3) := by decide +kernel
theorem dX6_take_8 : decode cX6_take 8 = .ok (.ifCond .eq 43, 3) := by decide +kernel
theorem dX6_take_11 : decode cX6_take 11 = .ok (.iload_n 2, 1) := by decide +kernel
theorem dX6_take_12 : decode cX6_take 12 = .ok (.invokestatic 127, 3) := by decide +kernel
theorem dX6_take_15 : decode cX6_take 15 = .ok (.ifCond .eq 36, 3) := by decide +kernel
theorem dX6_take_18 : decode cX6_take 18 = .ok (.iload_n 3, 1) := by decide +kernel
theorem dX6_take_19 : decode cX6_take 19 = .ok (.iconst 1, 1) := by decide +kernel
theorem dX6_take_20 : decode cX6_take 20 = .ok (.sipush 9999, 3) := by decide +kernel
theorem dX6_take_23 : decode cX6_take 23 = .ok (.invokestatic 61, 3) := by decide +kernel
theorem dX6_take_26 : decode cX6_take 26 = .ok (.ifCond .eq 25, 3) := by decide +kernel
theorem dX6_take_29 : decode cX6_take 29 = .ok (.iload 4, 2) := by decide +kernel
theorem dX6_take_31 : decode cX6_take 31 = .ok (.iconst 0, 1) := by decide +kernel
theorem dX6_take_32 : decode cX6_take 32 = .ok (.bipush 20, 2) := by decide +kernel
theorem dX6_take_34 : decode cX6_take 34 = .ok (.invokestatic 61, 3) := by decide +kernel
theorem dX6_take_37 : decode cX6_take 37 = .ok (.ifCond .eq 14, 3) := by decide +kernel
theorem dX6_take_40 : decode cX6_take 40 = .ok (.iload 5, 2) := by decide +kernel
theorem dX6_take_42 : decode cX6_take 42 = .ok (.iconst 1, 1) := by decide +kernel
theorem dX6_take_43 : decode cX6_take 43 = .ok (.bipush 9, 2) := by decide +kernel
theorem dX6_take_45 : decode cX6_take 45 = .ok (.invokestatic 61, 3) := by decide +kernel
theorem dX6_take_48 : decode cX6_take 48 = .ok (.ifCond .ne 5, 3) := by decide +kernel
theorem dX6_take_51 : decode cX6_take 51 = .ok (.iconst (-1), 1) := by decide +kernel
theorem dX6_take_52 : decode cX6_take 52 = .ok (.ireturn, 1) := by decide +kernel
theorem dX6_take_53 : decode cX6_take 53 = .ok (.aload_n 0, 1) := by decide +kernel
theorem dX6_take_54 : decode cX6_take 54 = .ok (.getfield 10, 3) := by decide +kernel
theorem dX6_take_57 : decode cX6_take 57 = .ok (.getfield 69, 3) := by decide +kernel
theorem dX6_take_60 : decode cX6_take 60 = .ok (.iload_n 1, 1) := by decide +kernel
theorem dX6_take_61 : decode cX6_take 61 = .ok (.aaload, 1) := by decide +kernel
theorem dX6_take_62 : decode cX6_take 62 = .ok (.astore 6, 2) := by decide +kernel
theorem dX6_take_64 : decode cX6_take 64 = .ok (.aload 6, 2) := by decide +kernel
theorem dX6_take_66 : decode cX6_take 66 = .ok (.getfield 90, 3) := by decide +kernel
theorem dX6_take_69 : decode cX6_take 69 = .ok (.bipush 8, 2) := by decide +kernel
theorem dX6_take_71 : decode cX6_take 71 = .ok (.if_icmp .lt 6, 3) := by decide +kernel
theorem dX6_take_74 : decode cX6_take 74 = .ok (.bipush (-3), 2) := by decide +kernel
theorem dX6_take_76 : decode cX6_take 76 = .ok (.ireturn, 1) := by decide +kernel
theorem dX6_take_77 : decode cX6_take 77 = .ok (.aload 6, 2) := by decide +kernel
theorem dX6_take_79 : decode cX6_take 79 = .ok (.iload_n 2, 1) := by decide +kernel
theorem dX6_take_80 : decode cX6_take 80 = .ok (.iload_n 3, 1) := by decide +kernel
theorem dX6_take_81 : decode cX6_take 81 = .ok (.iload 4, 2) := by decide +kernel
theorem dX6_take_83 : decode cX6_take 83 = .ok (.iload 5, 2) := by decide +kernel
theorem dX6_take_85 : decode cX6_take 85 = .ok (.invokevirtual 176, 3) := by decide +kernel
theorem dX6_take_88 : decode cX6_take 88 = .ok (.aload 6, 2) := by decide +kernel
theorem dX6_take_90 : decode cX6_take 90 = .ok (.aload 6, 2) := by decide +kernel
theorem dX6_take_92 : decode cX6_take 92 = .ok (.getfield 81, 3) := by decide +kernel
theorem dX6_take_95 : decode cX6_take 95 = .ok (.iload_n 3, 1) := by decide +kernel
theorem dX6_take_96 : decode cX6_take 96 = .ok (.iadd, 1) := by decide +kernel
theorem dX6_take_97 : decode cX6_take 97 = .ok (.ldc 180, 2) := by decide +kernel
theorem dX6_take_99 : decode cX6_take 99 = .ok (.invokestatic 101, 3) := by decide +kernel
theorem dX6_take_102 : decode cX6_take 102 = .ok (.putfield 81, 3) := by decide +kernel
theorem dX6_take_105 : decode cX6_take 105 = .ok (.aload 6, 2) := by decide +kernel
theorem dX6_take_107 : decode cX6_take 107 = .ok (.getfield 90, 3) := by decide +kernel
theorem dX6_take_110 : decode cX6_take 110 = .ok (.ireturn, 1) := by decide +kernel
theorem dX6_pay_0 : decode cX6_pay 0 = .ok (.aload_n 0, 1) := by decide +kernel
theorem dX6_pay_1 : decode cX6_pay 1 = .ok (.getfield 10, 3) := by decide +kernel
theorem dX6_pay_4 : decode cX6_pay 4 = .ok (.iload_n 1, 1) := by decide +kernel
theorem dX6_pay_5 : decode cX6_pay 5 = .ok (.iload_n 2, 1) := by decide +kernel
theorem dX6_pay_6 : decode cX6_pay 6 = .ok (.invokevirtual 110, 3) := by decide +kernel
theorem dX6_pay_9 : decode cX6_pay 9 = .ok (.ifCond .ne 5, 3) := by decide +kernel
theorem dX6_pay_12 : decode cX6_pay 12 = .ok (.iconst (-1), 1) := by decide +kernel
theorem dX6_pay_13 : decode cX6_pay 13 = .ok (.ireturn, 1) := by decide +kernel
theorem dX6_pay_14 : decode cX6_pay 14 = .ok (.aload_n 0, 1) := by decide +kernel
theorem dX6_pay_15 : decode cX6_pay 15 = .ok (.getfield 10, 3) := by decide +kernel
theorem dX6_pay_18 : decode cX6_pay 18 = .ok (.getfield 69, 3) := by decide +kernel
theorem dX6_pay_21 : decode cX6_pay 21 = .ok (.iload_n 1, 1) := by decide +kernel
theorem dX6_pay_22 : decode cX6_pay 22 = .ok (.aaload, 1) := by decide +kernel
theorem dX6_pay_23 : decode cX6_pay 23 = .ok (.astore_n 3, 1) := by decide +kernel
theorem dX6_pay_24 : decode cX6_pay 24 = .ok (.aload_n 0, 1) := by decide +kernel
theorem dX6_pay_25 : decode cX6_pay 25 = .ok (.getfield 10, 3) := by decide +kernel
theorem dX6_pay_28 : decode cX6_pay 28 = .ok (.getfield 136, 3) := by decide +kernel
theorem dX6_pay_31 : decode cX6_pay 31 = .ok (.aload_n 3, 1) := by decide +kernel
theorem dX6_pay_32 : decode cX6_pay 32 = .ok (.invokevirtual 181, 3) := by decide +kernel
theorem dX6_pay_35 : decode cX6_pay 35 = .ok (.iload_n 2, 1) := by decide +kernel
theorem dX6_pay_36 : decode cX6_pay 36 = .ok (.invokestatic 184, 3) := by decide +kernel
theorem dX6_pay_39 : decode cX6_pay 39 = .ok (.ifCond .ne 6, 3) := by decide +kernel
theorem dX6_pay_42 : decode cX6_pay 42 = .ok (.bipush (-2), 2) := by decide +kernel
theorem dX6_pay_44 : decode cX6_pay 44 = .ok (.ireturn, 1) := by decide +kernel
theorem dX6_pay_45 : decode cX6_pay 45 = .ok (.aload_n 3, 1) := by decide +kernel
theorem dX6_pay_46 : decode cX6_pay 46 = .ok (.getfield 81, 3) := by decide +kernel
theorem dX6_pay_49 : decode cX6_pay 49 = .ok (.aload_n 3, 1) := by decide +kernel
theorem dX6_pay_50 : decode cX6_pay 50 = .ok (.getfield 118, 3) := by decide +kernel
theorem dX6_pay_53 : decode cX6_pay 53 = .ok (.iload_n 2, 1) := by decide +kernel
theorem dX6_pay_54 : decode cX6_pay 54 = .ok (.iaload, 1) := by decide +kernel
theorem dX6_pay_55 : decode cX6_pay 55 = .ok (.if_icmp .ge 6, 3) := by decide +kernel
theorem dX6_pay_58 : decode cX6_pay 58 = .ok (.bipush (-4), 2) := by decide +kernel
theorem dX6_pay_60 : decode cX6_pay 60 = .ok (.ireturn, 1) := by decide +kernel
theorem dX6_pay_61 : decode cX6_pay 61 = .ok (.aload_n 3, 1) := by decide +kernel
theorem dX6_pay_62 : decode cX6_pay 62 = .ok (.iload_n 2, 1) := by decide +kernel
theorem dX6_pay_63 : decode cX6_pay 63 = .ok (.invokevirtual 187, 3) := by decide +kernel
theorem dX6_pay_66 : decode cX6_pay 66 = .ok (.aload_n 3, 1) := by decide +kernel
theorem dX6_pay_67 : decode cX6_pay 67 = .ok (.getfield 90, 3) := by decide +kernel
theorem dX6_pay_70 : decode cX6_pay 70 = .ok (.ireturn, 1) := by decide +kernel
theorem dX6_nights_0 : decode cX6_nights 0 = .ok (.iload_n 1, 1) := by decide +kernel
theorem dX6_nights_1 : decode cX6_nights 1 = .ok (.iconst 1, 1) := by decide +kernel
theorem dX6_nights_2 : decode cX6_nights 2 = .ok (.bipush 60, 2) := by decide +kernel
theorem dX6_nights_4 : decode cX6_nights 4 = .ok (.invokestatic 61, 3) := by decide +kernel
theorem dX6_nights_7 : decode cX6_nights 7 = .ok (.ifCond .ne 5, 3) := by decide +kernel
theorem dX6_nights_10 : decode cX6_nights 10 = .ok (.iconst (-1), 1) := by decide +kernel
theorem dX6_nights_11 : decode cX6_nights 11 = .ok (.ireturn, 1) := by decide +kernel
theorem dX6_nights_12 : decode cX6_nights 12 = .ok (.aload_n 0, 1) := by decide +kernel
theorem dX6_nights_13 : decode cX6_nights 13 = .ok (.getfield 10, 3) := by decide +kernel
theorem dX6_nights_16 : decode cX6_nights 16 = .ok (.getfield 161, 3) := by decide +kernel
theorem dX6_nights_19 : decode cX6_nights 19 = .ok (.iload_n 1, 1) := by decide +kernel
theorem dX6_nights_20 : decode cX6_nights 20 = .ok (.iadd, 1) := by decide +kernel
theorem dX6_nights_21 : decode cX6_nights 21 = .ok (.sipush 359, 3) := by decide +kernel
theorem dX6_nights_24 : decode cX6_nights 24 = .ok (.if_icmp .le 6, 3) := by decide +kernel
theorem dX6_nights_27 : decode cX6_nights 27 = .ok (.bipush (-3), 2) := by decide +kernel
theorem dX6_nights_29 : decode cX6_nights 29 = .ok (.ireturn, 1) := by decide +kernel
theorem dX6_nights_30 : decode cX6_nights 30 = .ok (.aload_n 0, 1) := by decide +kernel
theorem dX6_nights_31 : decode cX6_nights 31 = .ok (.getfield 10, 3) := by decide +kernel
theorem dX6_nights_34 : decode cX6_nights 34 = .ok (.aload_n 0, 1) := by decide +kernel
theorem dX6_nights_35 : decode cX6_nights 35 = .ok (.getfield 10, 3) := by decide +kernel
theorem dX6_nights_38 : decode cX6_nights 38 = .ok (.getfield 161, 3) := by decide +kernel
theorem dX6_nights_41 : decode cX6_nights 41 = .ok (.iload_n 1, 1) := by decide +kernel
theorem dX6_nights_42 : decode cX6_nights 42 = .ok (.iadd, 1) := by decide +kernel
theorem dX6_nights_43 : decode cX6_nights 43 = .ok (.invokevirtual 191, 3) := by decide +kernel
theorem dX6_nights_46 : decode cX6_nights 46 = .ok (.aload_n 0, 1) := by decide +kernel
theorem dX6_nights_47 : decode cX6_nights 47 = .ok (.getfield 10, 3) := by decide +kernel
theorem dX6_nights_50 : decode cX6_nights 50 = .ok (.getfield 161, 3) := by decide +kernel
theorem dX6_nights_53 : decode cX6_nights 53 = .ok (.ireturn, 1) := by decide +kernel
theorem dX6_cut_0 : decode cX6_cut 0 = .ok (.aload_n 0, 1) := by decide +kernel
theorem dX6_cut_1 : decode cX6_cut 1 = .ok (.getfield 10, 3) := by decide +kernel
theorem dX6_cut_4 : decode cX6_cut 4 = .ok (.iload_n 1, 1) := by decide +kernel
theorem dX6_cut_5 : decode cX6_cut 5 = .ok (.iload_n 2, 1) := by decide +kernel
theorem dX6_cut_6 : decode cX6_cut 6 = .ok (.invokevirtual 110, 3) := by decide +kernel
theorem dX6_cut_9 : decode cX6_cut 9 = .ok (.ifCond .ne 5, 3) := by decide +kernel
theorem dX6_cut_12 : decode cX6_cut 12 = .ok (.iconst (-1), 1) := by decide +kernel
theorem dX6_cut_13 : decode cX6_cut 13 = .ok (.ireturn, 1) := by decide +kernel
theorem dX6_cut_14 : decode cX6_cut 14 = .ok (.aload_n 0, 1) := by decide +kernel
theorem dX6_cut_15 : decode cX6_cut 15 = .ok (.getfield 10, 3) := by decide +kernel
theorem dX6_cut_18 : decode cX6_cut 18 = .ok (.getfield 69, 3) := by decide +kernel
theorem dX6_cut_21 : decode cX6_cut 21 = .ok (.iload_n 1, 1) := by decide +kernel
theorem dX6_cut_22 : decode cX6_cut 22 = .ok (.aaload, 1) := by decide +kernel
theorem dX6_cut_23 : decode cX6_cut 23 = .ok (.astore_n 3, 1) := by decide +kernel
theorem dX6_cut_24 : decode cX6_cut 24 = .ok (.aload_n 3, 1) := by decide +kernel
theorem dX6_cut_25 : decode cX6_cut 25 = .ok (.iload_n 2, 1) := by decide +kernel
theorem dX6_cut_26 : decode cX6_cut 26 = .ok (.invokevirtual 194, 3) := by decide +kernel
theorem dX6_cut_29 : decode cX6_cut 29 = .ok (.ifCond .ne 6, 3) := by decide +kernel
theorem dX6_cut_32 : decode cX6_cut 32 = .ok (.bipush (-2), 2) := by decide +kernel
theorem dX6_cut_34 : decode cX6_cut 34 = .ok (.ireturn, 1) := by decide +kernel
theorem dX6_cut_35 : decode cX6_cut 35 = .ok (.aload_n 0, 1) := by decide +kernel
theorem dX6_cut_36 : decode cX6_cut 36 = .ok (.getfield 10, 3) := by decide +kernel
theorem dX6_cut_39 : decode cX6_cut 39 = .ok (.getfield 170, 3) := by decide +kernel
theorem dX6_cut_42 : decode cX6_cut 42 = .ok (.aload_n 0, 1) := by decide +kernel
theorem dX6_cut_43 : decode cX6_cut 43 = .ok (.getfield 10, 3) := by decide +kernel
theorem dX6_cut_46 : decode cX6_cut 46 = .ok (.getfield 139, 3) := by decide +kernel
theorem dX6_cut_49 : decode cX6_cut 49 = .ok (.if_icmp .lt 6, 3) := by decide +kernel
theorem dX6_cut_52 : decode cX6_cut 52 = .ok (.bipush (-4), 2) := by decide +kernel
theorem dX6_cut_54 : decode cX6_cut 54 = .ok (.ireturn, 1) := by decide +kernel
theorem dX6_cut_55 : decode cX6_cut 55 = .ok (.aload_n 3, 1) := by decide +kernel
theorem dX6_cut_56 : decode cX6_cut 56 = .ok (.iload_n 2, 1) := by decide +kernel
theorem dX6_cut_57 : decode cX6_cut 57 = .ok (.invokevirtual 197, 3) := by decide +kernel
theorem dX6_cut_60 : decode cX6_cut 60 = .ok (.aload_n 0, 1) := by decide +kernel
theorem dX6_cut_61 : decode cX6_cut 61 = .ok (.getfield 10, 3) := by decide +kernel
theorem dX6_cut_64 : decode cX6_cut 64 = .ok (.dup, 1) := by decide +kernel
theorem dX6_cut_65 : decode cX6_cut 65 = .ok (.getfield 170, 3) := by decide +kernel
theorem dX6_cut_68 : decode cX6_cut 68 = .ok (.iconst 1, 1) := by decide +kernel
theorem dX6_cut_69 : decode cX6_cut 69 = .ok (.iadd, 1) := by decide +kernel
theorem dX6_cut_70 : decode cX6_cut 70 = .ok (.putfield 170, 3) := by decide +kernel
theorem dX6_cut_73 : decode cX6_cut 73 = .ok (.aload_n 3, 1) := by decide +kernel
theorem dX6_cut_74 : decode cX6_cut 74 = .ok (.getfield 90, 3) := by decide +kernel
theorem dX6_cut_77 : decode cX6_cut 77 = .ok (.ireturn, 1) := by decide +kernel
theorem dX6_ring_0 : decode cX6_ring 0 = .ok (.aload_n 0, 1) := by decide +kernel
theorem dX6_ring_1 : decode cX6_ring 1 = .ok (.getfield 10, 3) := by decide +kernel
theorem dX6_ring_4 : decode cX6_ring 4 = .ok (.iload_n 1, 1) := by decide +kernel
theorem dX6_ring_5 : decode cX6_ring 5 = .ok (.invokevirtual 77, 3) := by decide +kernel
theorem dX6_ring_8 : decode cX6_ring 8 = .ok (.ifCond .eq 19, 3) := by decide +kernel
theorem dX6_ring_11 : decode cX6_ring 11 = .ok (.aload_n 0, 1) := by decide +kernel
theorem dX6_ring_12 : decode cX6_ring 12 = .ok (.getfield 10, 3) := by decide +kernel
theorem dX6_ring_15 : decode cX6_ring 15 = .ok (.iload_n 2, 1) := by decide +kernel
theorem dX6_ring_16 : decode cX6_ring 16 = .ok (.invokevirtual 77, 3) := by decide +kernel
theorem dX6_ring_19 : decode cX6_ring 19 = .ok (.ifCond .eq 8, 3) := by decide +kernel
theorem dX6_ring_22 : decode cX6_ring 22 = .ok (.iload_n 1, 1) := by decide +kernel
theorem dX6_ring_23 : decode cX6_ring 23 = .ok (.iload_n 2, 1) := by decide +kernel
theorem dX6_ring_24 : decode cX6_ring 24 = .ok (.if_icmp .ne 5, 3) := by decide +kernel
theorem dX6_ring_27 : decode cX6_ring 27 = .ok (.iconst (-1), 1) := by decide +kernel
theorem dX6_ring_28 : decode cX6_ring 28 = .ok (.ireturn, 1) := by decide +kernel
theorem dX6_ring_29 : decode cX6_ring 29 = .ok (.iload_n 3, 1) := by decide +kernel
theorem dX6_ring_30 : decode cX6_ring 30 = .ok (.iconst (-1), 1) := by decide +kernel
theorem dX6_ring_31 : decode cX6_ring 31 = .ok (.if_icmp .eq 7, 3) := by decide +kernel
theorem dX6_ring_34 : decode cX6_ring 34 = .ok (.iconst 1, 1) := by decide +kernel
theorem dX6_ring_35 : decode cX6_ring 35 = .ok (.goto 4, 3) := by decide +kernel
theorem dX6_ring_38 : decode cX6_ring 38 = .ok (.iconst 0, 1) := by decide +kernel
theorem dX6_ring_39 : decode cX6_ring 39 = .ok (.istore 4, 2) := by decide +kernel
theorem dX6_ring_41 : decode cX6_ring 41 = .ok (.iload 4, 2) := by decide +kernel
theorem dX6_ring_43 : decode cX6_ring 43 = .ok (.ifCond .eq 26, 3) := by decide +kernel
theorem dX6_ring_46 : decode cX6_ring 46 = .ok (.aload_n 0, 1) := by decide +kernel
theorem dX6_ring_47 : decode cX6_ring 47 = .ok (.getfield 10, 3) := by decide +kernel
theorem dX6_ring_50 : decode cX6_ring 50 = .ok (.iload_n 3, 1) := by decide +kernel
theorem dX6_ring_51 : decode cX6_ring 51 = .ok (.invokevirtual 77, 3) := by decide +kernel
theorem dX6_ring_54 : decode cX6_ring 54 = .ok (.ifCond .eq 13, 3) := by decide +kernel
theorem dX6_ring_57 : decode cX6_ring 57 = .ok (.iload_n 1, 1) := by decide +kernel
theorem dX6_ring_58 : decode cX6_ring 58 = .ok (.iload_n 3, 1) := by decide +kernel
theorem dX6_ring_59 : decode cX6_ring 59 = .ok (.if_icmp .eq 8, 3) := by decide +kernel
theorem dX6_ring_62 : decode cX6_ring 62 = .ok (.iload_n 2, 1) := by decide +kernel
theorem dX6_ring_63 : decode cX6_ring 63 = .ok (.iload_n 3, 1) := by decide +kernel
theorem dX6_ring_64 : decode cX6_ring 64 = .ok (.if_icmp .ne 5, 3) := by decide +kernel
theorem dX6_ring_67 : decode cX6_ring 67 = .ok (.iconst (-1), 1) := by decide +kernel
theorem dX6_ring_68 : decode cX6_ring 68 = .ok (.ireturn, 1) := by decide +kernel
theorem dX6_ring_69 : decode cX6_ring 69 = .ok (.aload_n 0, 1) := by decide +kernel
theorem dX6_ring_70 : decode cX6_ring 70 = .ok (.getfield 10, 3) := by decide +kernel
theorem dX6_ring_73 : decode cX6_ring 73 = .ok (.getfield 69, 3) := by decide +kernel
theorem dX6_ring_76 : decode cX6_ring 76 = .ok (.iload_n 1, 1) := by decide +kernel
theorem dX6_ring_77 : decode cX6_ring 77 = .ok (.aaload, 1) := by decide +kernel
theorem dX6_ring_78 : decode cX6_ring 78 = .ok (.astore 5, 2) := by decide +kernel
theorem dX6_ring_80 : decode cX6_ring 80 = .ok (.aload_n 0, 1) := by decide +kernel
theorem dX6_ring_81 : decode cX6_ring 81 = .ok (.getfield 10, 3) := by decide +kernel
theorem dX6_ring_84 : decode cX6_ring 84 = .ok (.getfield 69, 3) := by decide +kernel
theorem dX6_ring_87 : decode cX6_ring 87 = .ok (.iload_n 2, 1) := by decide +kernel
theorem dX6_ring_88 : decode cX6_ring 88 = .ok (.aaload, 1) := by decide +kernel
theorem dX6_ring_89 : decode cX6_ring 89 = .ok (.astore 6, 2) := by decide +kernel
theorem dX6_ring_91 : decode cX6_ring 91 = .ok (.iload 4, 2) := by decide +kernel
theorem dX6_ring_93 : decode cX6_ring 93 = .ok (.ifCond .eq 15, 3) := by decide +kernel
theorem dX6_ring_96 : decode cX6_ring 96 = .ok (.aload_n 0, 1) := by decide +kernel
theorem dX6_ring_97 : decode cX6_ring 97 = .ok (.getfield 10, 3) := by decide +kernel
theorem dX6_ring_100 : decode cX6_ring 100 = .ok (.getfield 69, 3) := by decide +kernel
theorem dX6_ring_103 : decode cX6_ring 103 = .ok (.iload_n 3, 1) := by decide +kernel
theorem dX6_ring_104 : decode cX6_ring 104 = .ok (.aaload, 1) := by decide +kernel
theorem dX6_ring_105 : decode cX6_ring 105 = .ok (.goto 4, 3) := by decide +kernel
theorem dX6_ring_108 : decode cX6_ring 108 = .ok (.aconst_null, 1) := by decide +kernel
theorem dX6_ring_109 : decode cX6_ring 109 = .ok (.astore 7, 2) := by decide +kernel
theorem dX6_ring_111 : decode cX6_ring 111 = .ok (.aload 5, 2) := by decide +kernel
theorem dX6_ring_113 : decode cX6_ring 113 = .ok (.getfield 90, 3) := by decide +kernel
theorem dX6_ring_116 : decode cX6_ring 116 = .ok (.ifCond .eq 24, 3) := by decide +kernel
theorem dX6_ring_119 : decode cX6_ring 119 = .ok (.aload 6, 2) := by decide +kernel
theorem dX6_ring_121 : decode cX6_ring 121 = .ok (.getfield 90, 3) := by decide +kernel
theorem dX6_ring_124 : decode cX6_ring 124 = .ok (.ifCond .eq 16, 3) := by decide +kernel
theorem dX6_ring_127 : decode cX6_ring 127 = .ok (.aload 7, 2) := by decide +kernel
theorem dX6_ring_129 : decode cX6_ring 129 = .ok (.ifnull 14, 3) := by decide +kernel
theorem dX6_ring_132 : decode cX6_ring 132 = .ok (.aload 7, 2) := by decide +kernel
theorem dX6_ring_134 : decode cX6_ring 134 = .ok (.getfield 90, 3) := by decide +kernel
theorem dX6_ring_137 : decode cX6_ring 137 = .ok (.ifCond .ne 6, 3) := by decide +kernel
theorem dX6_ring_140 : decode cX6_ring 140 = .ok (.bipush (-2), 2) := by decide +kernel
theorem dX6_ring_142 : decode cX6_ring 142 = .ok (.ireturn, 1) := by decide +kernel
theorem dX6_ring_143 : decode cX6_ring 143 = .ok (.aload 5, 2) := by decide +kernel
theorem dX6_ring_145 : decode cX6_ring 145 = .ok (.aload 6, 2) := by decide +kernel
theorem dX6_ring_147 : decode cX6_ring 147 = .ok (.aload 7, 2) := by decide +kernel
theorem dX6_ring_149 : decode cX6_ring 149 = .ok (.invokestatic 200, 3) := by decide +kernel
theorem dX6_ring_152 : decode cX6_ring 152 = .ok (.istore 8, 2) := by decide +kernel
theorem dX6_ring_154 : decode cX6_ring 154 = .ok (.iload 8, 2) := by decide +kernel
theorem dX6_ring_156 : decode cX6_ring 156 = .ok (.ifCond .ne 6, 3) := by decide +kernel
theorem dX6_ring_159 : decode cX6_ring 159 = .ok (.bipush (-4), 2) := by decide +kernel
theorem dX6_ring_161 : decode cX6_ring 161 = .ok (.ireturn, 1) := by decide +kernel
theorem dX6_ring_162 : decode cX6_ring 162 = .ok (.aload 5, 2) := by decide +kernel
theorem dX6_ring_164 : decode cX6_ring 164 = .ok (.aload 6, 2) := by decide +kernel
theorem dX6_ring_166 : decode cX6_ring 166 = .ok (.invokevirtual 204, 3) := by decide +kernel
theorem dX6_ring_169 : decode cX6_ring 169 = .ok (.aload 7, 2) := by decide +kernel
theorem dX6_ring_171 : decode cX6_ring 171 = .ok (.ifnull 10, 3) := by decide +kernel
theorem dX6_ring_174 : decode cX6_ring 174 = .ok (.aload 5, 2) := by decide +kernel
theorem dX6_ring_176 : decode cX6_ring 176 = .ok (.aload 7, 2) := by decide +kernel
theorem dX6_ring_178 : decode cX6_ring 178 = .ok (.invokevirtual 204, 3) := by decide +kernel
theorem dX6_ring_181 : decode cX6_ring 181 = .ok (.iload 8, 2) := by decide +kernel
theorem dX6_ring_183 : decode cX6_ring 183 = .ok (.ireturn, 1) := by decide +kernel
theorem dX6_rings_0 : decode cX6_rings 0 = .ok (.iload_n 1, 1) := by decide +kernel
theorem dX6_rings_1 : decode cX6_rings 1 = .ok (.iconst (-1), 1) := by decide +kernel
theorem dX6_rings_2 : decode cX6_rings 2 = .ok (.iconst 2, 1) := by decide +kernel
theorem dX6_rings_3 : decode cX6_rings 3 = .ok (.invokestatic 61, 3) := by decide +kernel
theorem dX6_rings_6 : decode cX6_rings 6 = .ok (.ifCond .ne 5, 3) := by decide +kernel
theorem dX6_rings_9 : decode cX6_rings 9 = .ok (.iconst (-1), 1) := by decide +kernel
theorem dX6_rings_10 : decode cX6_rings 10 = .ok (.ireturn, 1) := by decide +kernel
theorem dX6_rings_11 : decode cX6_rings 11 = .ok (.aload_n 0, 1) := by decide +kernel
theorem dX6_rings_12 : decode cX6_rings 12 = .ok (.getfield 39, 3) := by decide +kernel
theorem dX6_rings_15 : decode cX6_rings 15 = .ok (.aload_n 0, 1) := by decide +kernel
theorem dX6_rings_16 : decode cX6_rings 16 = .ok (.getfield 10, 3) := by decide +kernel
theorem dX6_rings_19 : decode cX6_rings 19 = .ok (.invokevirtual 207, 3) := by decide +kernel
theorem dX6_rings_22 : decode cX6_rings 22 = .ok (.iload_n 1, 1) := by decide +kernel
theorem dX6_rings_23 : decode cX6_rings 23 = .ok (.aload_n 0, 1) := by decide +kernel
theorem dX6_rings_24 : decode cX6_rings 24 = .ok (.getfield 39, 3) := by decide +kernel
theorem dX6_rings_27 : decode cX6_rings 27 = .ok (.getfield 211, 3) := by decide +kernel
theorem dX6_rings_30 : decode cX6_rings 30 = .ok (.if_icmp .lt 6, 3) := by decide +kernel
theorem dX6_rings_33 : decode cX6_rings 33 = .ok (.bipush (-4), 2) := by decide +kernel
theorem dX6_rings_35 : decode cX6_rings 35 = .ok (.ireturn, 1) := by decide +kernel
theorem dX6_rings_36 : decode cX6_rings 36 = .ok (.iload_n 1, 1) := by decide +kernel
theorem dX6_rings_37 : decode cX6_rings 37 = .ok (.ifCond .lt 13, 3) := by decide +kernel
theorem dX6_rings_40 : decode cX6_rings 40 = .ok (.aload_n 0, 1) := by decide +kernel
theorem dX6_rings_41 : decode cX6_rings 41 = .ok (.getfield 39, 3) := by decide +kernel
theorem dX6_rings_44 : decode cX6_rings 44 = .ok (.getfield 214, 3) := by decide +kernel
theorem dX6_rings_47 : decode cX6_rings 47 = .ok (.iload_n 1, 1) := by decide +kernel
theorem dX6_rings_48 : decode cX6_rings 48 = .ok (.iaload, 1) := by decide +kernel
theorem dX6_rings_49 : decode cX6_rings 49 = .ok (.ireturn, 1) := by decide +kernel
theorem dX6_rings_50 : decode cX6_rings 50 = .ok (.aload_n 0, 1) := by decide +kernel
theorem dX6_rings_51 : decode cX6_rings 51 = .ok (.getfield 39, 3) := by decide +kernel
theorem dX6_rings_54 : decode cX6_rings 54 = .ok (.getfield 211, 3) := by decide +kernel
theorem dX6_rings_57 : decode cX6_rings 57 = .ok (.ifCond .ne 8, 3) := by decide +kernel
theorem dX6_rings_60 : decode cX6_rings 60 = .ok (.bipush (-4), 2) := by decide +kernel
theorem dX6_rings_62 : decode cX6_rings 62 = .ok (.goto 10, 3) := by decide +kernel
theorem dX6_rings_65 : decode cX6_rings 65 = .ok (.aload_n 0, 1) := by decide +kernel
theorem dX6_rings_66 : decode cX6_rings 66 = .ok (.getfield 39, 3) := by decide +kernel
theorem dX6_rings_69 : decode cX6_rings 69 = .ok (.getfield 217, 3) := by decide +kernel
theorem dX6_rings_72 : decode cX6_rings 72 = .ok (.ireturn, 1) := by decide +kernel
theorem dX6_owed_0 : decode cX6_owed 0 = .ok (.iload_n 1, 1) := by decide +kernel
theorem dX6_owed_1 : decode cX6_owed 1 = .ok (.invokestatic 127, 3) := by decide +kernel
theorem dX6_owed_4 : decode cX6_owed 4 = .ok (.ifCond .ne 5, 3) := by decide +kernel
theorem dX6_owed_7 : decode cX6_owed 7 = .ok (.iconst (-1), 1) := by decide +kernel
theorem dX6_owed_8 : decode cX6_owed 8 = .ok (.ireturn, 1) := by decide +kernel
theorem dX6_owed_9 : decode cX6_owed 9 = .ok (.iconst 0, 1) := by decide +kernel
theorem dX6_owed_10 : decode cX6_owed 10 = .ok (.istore_n 2, 1) := by decide +kernel
theorem dX6_owed_11 : decode cX6_owed 11 = .ok (.iconst 0, 1) := by decide +kernel
theorem dX6_owed_12 : decode cX6_owed 12 = .ok (.istore_n 3, 1) := by decide +kernel
theorem dX6_owed_13 : decode cX6_owed 13 = .ok (.iload_n 3, 1) := by decide +kernel
theorem dX6_owed_14 : decode cX6_owed 14 = .ok (.aload_n 0, 1) := by decide +kernel
theorem dX6_owed_15 : decode cX6_owed 15 = .ok (.getfield 10, 3) := by decide +kernel
theorem dX6_owed_18 : decode cX6_owed 18 = .ok (.getfield 65, 3) := by decide +kernel
theorem dX6_owed_21 : decode cX6_owed 21 = .ok (.if_icmp .ge 25, 3) := by decide +kernel
theorem dX6_owed_24 : decode cX6_owed 24 = .ok (.iload_n 2, 1) := by decide +kernel
theorem dX6_owed_25 : decode cX6_owed 25 = .ok (.aload_n 0, 1) := by decide +kernel
theorem dX6_owed_26 : decode cX6_owed 26 = .ok (.getfield 10, 3) := by decide +kernel
theorem dX6_owed_29 : decode cX6_owed 29 = .ok (.getfield 69, 3) := by decide +kernel
theorem dX6_owed_32 : decode cX6_owed 32 = .ok (.iload_n 3, 1) := by decide +kernel
theorem dX6_owed_33 : decode cX6_owed 33 = .ok (.aaload, 1) := by decide +kernel
theorem dX6_owed_34 : decode cX6_owed 34 = .ok (.iload_n 1, 1) := by decide +kernel
theorem dX6_owed_35 : decode cX6_owed 35 = .ok (.invokevirtual 220, 3) := by decide +kernel
theorem dX6_owed_38 : decode cX6_owed 38 = .ok (.iadd, 1) := by decide +kernel
theorem dX6_owed_39 : decode cX6_owed 39 = .ok (.istore_n 2, 1) := by decide +kernel
theorem dX6_owed_40 : decode cX6_owed 40 = .ok (.iinc 3 1, 3) := by decide +kernel
theorem dX6_owed_43 : decode cX6_owed 43 = .ok (.goto (-30), 3) := by decide +kernel
theorem dX6_owed_46 : decode cX6_owed 46 = .ok (.iload_n 2, 1) := by decide +kernel
theorem dX6_owed_47 : decode cX6_owed 47 = .ok (.ldc 100, 2) := by decide +kernel
theorem dX6_owed_49 : decode cX6_owed 49 = .ok (.invokestatic 101, 3) := by decide +kernel
theorem dX6_owed_52 : decode cX6_owed 52 = .ok (.ireturn, 1) := by decide +kernel
theorem dX6_free_0 : decode cX6_free 0 = .ok (.aload_n 0, 1) := by decide +kernel
theorem dX6_free_1 : decode cX6_free 1 = .ok (.getfield 10, 3) := by decide +kernel
theorem dX6_free_4 : decode cX6_free 4 = .ok (.iload_n 1, 1) := by decide +kernel
theorem dX6_free_5 : decode cX6_free 5 = .ok (.invokevirtual 77, 3) := by decide +kernel
theorem dX6_free_8 : decode cX6_free 8 = .ok (.ifCond .eq 13, 3) := by decide +kernel
theorem dX6_free_11 : decode cX6_free 11 = .ok (.iload_n 2, 1) := by decide +kernel
theorem dX6_free_12 : decode cX6_free 12 = .ok (.iconst 0, 1) := by decide +kernel
theorem dX6_free_13 : decode cX6_free 13 = .ok (.bipush 7, 2) := by decide +kernel
theorem dX6_free_15 : decode cX6_free 15 = .ok (.invokestatic 61, 3) := by decide +kernel
theorem dX6_free_18 : decode cX6_free 18 = .ok (.ifCond .ne 5, 3) := by decide +kernel
theorem dX6_free_21 : decode cX6_free 21 = .ok (.iconst (-1), 1) := by decide +kernel
theorem dX6_free_22 : decode cX6_free 22 = .ok (.ireturn, 1) := by decide +kernel
theorem dX6_free_23 : decode cX6_free 23 = .ok (.aload_n 0, 1) := by decide +kernel
theorem dX6_free_24 : decode cX6_free 24 = .ok (.getfield 10, 3) := by decide +kernel
theorem dX6_free_27 : decode cX6_free 27 = .ok (.getfield 69, 3) := by decide +kernel
theorem dX6_free_30 : decode cX6_free 30 = .ok (.iload_n 1, 1) := by decide +kernel
theorem dX6_free_31 : decode cX6_free 31 = .ok (.aaload, 1) := by decide +kernel
theorem dX6_free_32 : decode cX6_free 32 = .ok (.astore_n 3, 1) := by decide +kernel
theorem dX6_free_33 : decode cX6_free 33 = .ok (.aload_n 3, 1) := by decide +kernel
theorem dX6_free_34 : decode cX6_free 34 = .ok (.getfield 90, 3) := by decide +kernel
theorem dX6_free_37 : decode cX6_free 37 = .ok (.bipush 6, 2) := by decide +kernel
theorem dX6_free_39 : decode cX6_free 39 = .ok (.if_icmp .le 6, 3) := by decide +kernel
theorem dX6_free_42 : decode cX6_free 42 = .ok (.bipush (-3), 2) := by decide +kernel
theorem dX6_free_44 : decode cX6_free 44 = .ok (.ireturn, 1) := by decide +kernel
theorem dX6_free_45 : decode cX6_free 45 = .ok (.aload_n 0, 1) := by decide +kernel
theorem dX6_free_46 : decode cX6_free 46 = .ok (.getfield 32, 3) := by decide +kernel
theorem dX6_free_49 : decode cX6_free 49 = .ok (.aload_n 3, 1) := by decide +kernel
theorem dX6_free_50 : decode cX6_free 50 = .ok (.aload_n 0, 1) := by decide +kernel
theorem dX6_free_51 : decode cX6_free 51 = .ok (.getfield 10, 3) := by decide +kernel
theorem dX6_free_54 : decode cX6_free 54 = .ok (.getfield 136, 3) := by decide +kernel
theorem dX6_free_57 : decode cX6_free 57 = .ok (.invokevirtual 224, 3) := by decide +kernel
theorem dX6_free_60 : decode cX6_free 60 = .ok (.aload_n 0, 1) := by decide +kernel
theorem dX6_free_61 : decode cX6_free 61 = .ok (.getfield 32, 3) := by decide +kernel
theorem dX6_free_64 : decode cX6_free 64 = .ok (.getfield 228, 3) := by decide +kernel
theorem dX6_free_67 : decode cX6_free 67 = .ok (.sipush 360, 3) := by decide +kernel
theorem dX6_free_70 : decode cX6_free 70 = .ok (.if_icmp .le 6, 3) := by decide +kernel
theorem dX6_free_73 : decode cX6_free 73 = .ok (.bipush (-4), 2) := by decide +kernel
theorem dX6_free_75 : decode cX6_free 75 = .ok (.ireturn, 1) := by decide +kernel
theorem dX6_free_76 : decode cX6_free 76 = .ok (.iload_n 2, 1) := by decide +kernel
theorem dX6_free_77 : decode cX6_free 77 = .ok (.ifCond .ne 11, 3) := by decide +kernel
theorem dX6_free_80 : decode cX6_free 80 = .ok (.aload_n 0, 1) := by decide +kernel
theorem dX6_free_81 : decode cX6_free 81 = .ok (.getfield 32, 3) := by decide +kernel
theorem dX6_free_84 : decode cX6_free 84 = .ok (.getfield 228, 3) := by decide +kernel
theorem dX6_free_87 : decode cX6_free 87 = .ok (.ireturn, 1) := by decide +kernel
theorem dX6_free_88 : decode cX6_free 88 = .ok (.iload_n 2, 1) := by decide +kernel
theorem dX6_free_89 : decode cX6_free 89 = .ok (.iconst 1, 1) := by decide +kernel
theorem dX6_free_90 : decode cX6_free 90 = .ok (.if_icmp .ne 11, 3) := by decide +kernel
theorem dX6_free_93 : decode cX6_free 93 = .ok (.aload_n 0, 1) := by decide +kernel
theorem dX6_free_94 : decode cX6_free 94 = .ok (.getfield 32, 3) := by decide +kernel
theorem dX6_free_97 : decode cX6_free 97 = .ok (.getfield 231, 3) := by decide +kernel
theorem dX6_free_100 : decode cX6_free 100 = .ok (.ireturn, 1) := by decide +kernel
theorem dX6_free_101 : decode cX6_free 101 = .ok (.iload_n 2, 1) := by decide +kernel
theorem dX6_free_102 : decode cX6_free 102 = .ok (.iconst 2, 1) := by decide +kernel
theorem dX6_free_103 : decode cX6_free 103 = .ok (.isub, 1) := by decide +kernel
theorem dX6_free_104 : decode cX6_free 104 = .ok (.aload_n 3, 1) := by decide +kernel
theorem dX6_free_105 : decode cX6_free 105 = .ok (.getfield 90, 3) := by decide +kernel
theorem dX6_free_108 : decode cX6_free 108 = .ok (.if_icmp .ge 17, 3) := by decide +kernel
theorem dX6_free_111 : decode cX6_free 111 = .ok (.aload_n 0, 1) := by decide +kernel
theorem dX6_free_112 : decode cX6_free 112 = .ok (.getfield 32, 3) := by decide +kernel
theorem dX6_free_115 : decode cX6_free 115 = .ok (.getfield 234, 3) := by decide +kernel
theorem dX6_free_118 : decode cX6_free 118 = .ok (.iload_n 2, 1) := by decide +kernel
theorem dX6_free_119 : decode cX6_free 119 = .ok (.iconst 2, 1) := by decide +kernel
theorem dX6_free_120 : decode cX6_free 120 = .ok (.isub, 1) := by decide +kernel
theorem dX6_free_121 : decode cX6_free 121 = .ok (.iaload, 1) := by decide +kernel
theorem dX6_free_122 : decode cX6_free 122 = .ok (.goto 5, 3) := by decide +kernel
theorem dX6_free_125 : decode cX6_free 125 = .ok (.bipush (-4), 2) := by decide +kernel
theorem dX6_free_127 : decode cX6_free 127 = .ok (.ireturn, 1) := by decide +kernel
theorem dX6_saves_0 : decode cX6_saves 0 = .ok (.aload_n 0, 1) := by decide +kernel
theorem dX6_saves_1 : decode cX6_saves 1 = .ok (.getfield 10, 3) := by decide +kernel
theorem dX6_saves_4 : decode cX6_saves 4 = .ok (.iload_n 1, 1) := by decide +kernel
theorem dX6_saves_5 : decode cX6_saves 5 = .ok (.iload_n 2, 1) := by decide +kernel
theorem dX6_saves_6 : decode cX6_saves 6 = .ok (.invokevirtual 110, 3) := by decide +kernel
theorem dX6_saves_9 : decode cX6_saves 9 = .ok (.ifCond .ne 5, 3) := by decide +kernel
theorem dX6_saves_12 : decode cX6_saves 12 = .ok (.iconst (-1), 1) := by decide +kernel
theorem dX6_saves_13 : decode cX6_saves 13 = .ok (.ireturn, 1) := by decide +kernel
theorem dX6_saves_14 : decode cX6_saves 14 = .ok (.aload_n 0, 1) := by decide +kernel
theorem dX6_saves_15 : decode cX6_saves 15 = .ok (.getfield 10, 3) := by decide +kernel
theorem dX6_saves_18 : decode cX6_saves 18 = .ok (.getfield 69, 3) := by decide +kernel
theorem dX6_saves_21 : decode cX6_saves 21 = .ok (.iload_n 1, 1) := by decide +kernel
theorem dX6_saves_22 : decode cX6_saves 22 = .ok (.aaload, 1) := by decide +kernel
theorem dX6_saves_23 : decode cX6_saves 23 = .ok (.astore_n 3, 1) := by decide +kernel
theorem dX6_saves_24 : decode cX6_saves 24 = .ok (.aload_n 3, 1) := by decide +kernel
theorem dX6_saves_25 : decode cX6_saves 25 = .ok (.getfield 90, 3) := by decide +kernel
theorem dX6_saves_28 : decode cX6_saves 28 = .ok (.bipush 6, 2) := by decide +kernel
theorem dX6_saves_30 : decode cX6_saves 30 = .ok (.if_icmp .le 6, 3) := by decide +kernel
theorem dX6_saves_33 : decode cX6_saves 33 = .ok (.bipush (-3), 2) := by decide +kernel
theorem dX6_saves_35 : decode cX6_saves 35 = .ok (.ireturn, 1) := by decide +kernel
theorem dX6_saves_36 : decode cX6_saves 36 = .ok (.aload_n 3, 1) := by decide +kernel
theorem dX6_saves_37 : decode cX6_saves 37 = .ok (.iload_n 2, 1) := by decide +kernel
theorem dX6_saves_38 : decode cX6_saves 38 = .ok (.invokevirtual 194, 3) := by decide +kernel
theorem dX6_saves_41 : decode cX6_saves 41 = .ok (.ifCond .ne 6, 3) := by decide +kernel
theorem dX6_saves_44 : decode cX6_saves 44 = .ok (.bipush (-2), 2) := by decide +kernel
theorem dX6_saves_46 : decode cX6_saves 46 = .ok (.ireturn, 1) := by decide +kernel
theorem dX6_saves_47 : decode cX6_saves 47 = .ok (.aload_n 0, 1) := by decide +kernel
theorem dX6_saves_48 : decode cX6_saves 48 = .ok (.getfield 32, 3) := by decide +kernel
theorem dX6_saves_51 : decode cX6_saves 51 = .ok (.aload_n 3, 1) := by decide +kernel
theorem dX6_saves_52 : decode cX6_saves 52 = .ok (.aload_n 0, 1) := by decide +kernel
theorem dX6_saves_53 : decode cX6_saves 53 = .ok (.getfield 10, 3) := by decide +kernel
theorem dX6_saves_56 : decode cX6_saves 56 = .ok (.getfield 136, 3) := by decide +kernel
theorem dX6_saves_59 : decode cX6_saves 59 = .ok (.invokevirtual 224, 3) := by decide +kernel
theorem dX6_saves_62 : decode cX6_saves 62 = .ok (.aload_n 0, 1) := by decide +kernel
theorem dX6_saves_63 : decode cX6_saves 63 = .ok (.getfield 32, 3) := by decide +kernel
theorem dX6_saves_66 : decode cX6_saves 66 = .ok (.getfield 228, 3) := by decide +kernel
theorem dX6_saves_69 : decode cX6_saves 69 = .ok (.istore 4, 2) := by decide +kernel
theorem dX6_saves_71 : decode cX6_saves 71 = .ok (.aload_n 0, 1) := by decide +kernel
theorem dX6_saves_72 : decode cX6_saves 72 = .ok (.getfield 25, 3) := by decide +kernel
theorem dX6_saves_75 : decode cX6_saves 75 = .ok (.aload_n 3, 1) := by decide +kernel
theorem dX6_saves_76 : decode cX6_saves 76 = .ok (.invokevirtual 237, 3) := by decide +kernel
theorem dX6_saves_79 : decode cX6_saves 79 = .ok (.aload_n 0, 1) := by decide +kernel
theorem dX6_saves_80 : decode cX6_saves 80 = .ok (.getfield 25, 3) := by decide +kernel
theorem dX6_saves_83 : decode cX6_saves 83 = .ok (.iload_n 2, 1) := by decide +kernel
theorem dX6_saves_84 : decode cX6_saves 84 = .ok (.invokevirtual 197, 3) := by decide +kernel
theorem dX6_saves_87 : decode cX6_saves 87 = .ok (.aload_n 0, 1) := by decide +kernel
theorem dX6_saves_88 : decode cX6_saves 88 = .ok (.getfield 32, 3) := by decide +kernel
theorem dX6_saves_91 : decode cX6_saves 91 = .ok (.aload_n 0, 1) := by decide +kernel
theorem dX6_saves_92 : decode cX6_saves 92 = .ok (.getfield 25, 3) := by decide +kernel
theorem dX6_saves_95 : decode cX6_saves 95 = .ok (.aload_n 0, 1) := by decide +kernel
theorem dX6_saves_96 : decode cX6_saves 96 = .ok (.getfield 10, 3) := by decide +kernel
theorem dX6_saves_99 : decode cX6_saves 99 = .ok (.getfield 136, 3) := by decide +kernel
theorem dX6_saves_102 : decode cX6_saves 102 = .ok (.invokevirtual 224, 3) := by decide +kernel
theorem dX6_saves_105 : decode cX6_saves 105 = .ok (.iload 4, 2) := by decide +kernel
theorem dX6_saves_107 : decode cX6_saves 107 = .ok (.aload_n 0, 1) := by decide +kernel
theorem dX6_saves_108 : decode cX6_saves 108 = .ok (.getfield 32, 3) := by decide +kernel
theorem dX6_saves_111 : decode cX6_saves 111 = .ok (.getfield 228, 3) := by decide +kernel
theorem dX6_saves_114 : decode cX6_saves 114 = .ok (.isub, 1) := by decide +kernel
theorem dX6_saves_115 : decode cX6_saves 115 = .ok (.ireturn, 1) := by decide +kernel
theorem dX6_bears_0 : decode cX6_bears 0 = .ok (.aload_n 0, 1) := by decide +kernel
theorem dX6_bears_1 : decode cX6_bears 1 = .ok (.getfield 10, 3) := by decide +kernel
theorem dX6_bears_4 : decode cX6_bears 4 = .ok (.iload_n 1, 1) := by decide +kernel
theorem dX6_bears_5 : decode cX6_bears 5 = .ok (.invokevirtual 77, 3) := by decide +kernel
theorem dX6_bears_8 : decode cX6_bears 8 = .ok (.ifCond .ne 5, 3) := by decide +kernel
theorem dX6_bears_11 : decode cX6_bears 11 = .ok (.iconst (-1), 1) := by decide +kernel
theorem dX6_bears_12 : decode cX6_bears 12 = .ok (.ireturn, 1) := by decide +kernel
theorem dX6_bears_13 : decode cX6_bears 13 = .ok (.aload_n 0, 1) := by decide +kernel
theorem dX6_bears_14 : decode cX6_bears 14 = .ok (.getfield 10, 3) := by decide +kernel
theorem dX6_bears_17 : decode cX6_bears 17 = .ok (.getfield 69, 3) := by decide +kernel
theorem dX6_bears_20 : decode cX6_bears 20 = .ok (.iload_n 1, 1) := by decide +kernel
theorem dX6_bears_21 : decode cX6_bears 21 = .ok (.aaload, 1) := by decide +kernel
theorem dX6_bears_22 : decode cX6_bears 22 = .ok (.astore_n 2, 1) := by decide +kernel
theorem dX6_bears_23 : decode cX6_bears 23 = .ok (.aload_n 0, 1) := by decide +kernel
theorem dX6_bears_24 : decode cX6_bears 24 = .ok (.getfield 10, 3) := by decide +kernel
theorem dX6_bears_27 : decode cX6_bears 27 = .ok (.getfield 161, 3) := by decide +kernel
theorem dX6_bears_30 : decode cX6_bears 30 = .ok (.iconst 1, 1) := by decide +kernel
theorem dX6_bears_31 : decode cX6_bears 31 = .ok (.iadd, 1) := by decide +kernel
theorem dX6_bears_32 : decode cX6_bears 32 = .ok (.istore_n 3, 1) := by decide +kernel
theorem dX6_bears_33 : decode cX6_bears 33 = .ok (.iload_n 3, 1) := by decide +kernel
theorem dX6_bears_34 : decode cX6_bears 34 = .ok (.sipush 359, 3) := by decide +kernel
theorem dX6_bears_37 : decode cX6_bears 37 = .ok (.if_icmp .gt 34, 3) := by decide +kernel
theorem dX6_bears_40 : decode cX6_bears 40 = .ok (.aload_n 2, 1) := by decide +kernel
theorem dX6_bears_41 : decode cX6_bears 41 = .ok (.aload_n 0, 1) := by decide +kernel
theorem dX6_bears_42 : decode cX6_bears 42 = .ok (.getfield 10, 3) := by decide +kernel
theorem dX6_bears_45 : decode cX6_bears 45 = .ok (.iload_n 3, 1) := by decide +kernel
theorem dX6_bears_46 : decode cX6_bears 46 = .ok (.invokevirtual 240, 3) := by decide +kernel
theorem dX6_bears_49 : decode cX6_bears 49 = .ok (.invokevirtual 243, 3) := by decide +kernel
theorem dX6_bears_52 : decode cX6_bears 52 = .ok (.ifCond .eq 13, 3) := by decide +kernel
theorem dX6_bears_55 : decode cX6_bears 55 = .ok (.iload_n 3, 1) := by decide +kernel
theorem dX6_bears_56 : decode cX6_bears 56 = .ok (.aload_n 0, 1) := by decide +kernel
theorem dX6_bears_57 : decode cX6_bears 57 = .ok (.getfield 10, 3) := by decide +kernel
theorem dX6_bears_60 : decode cX6_bears 60 = .ok (.getfield 161, 3) := by decide +kernel
theorem dX6_bears_63 : decode cX6_bears 63 = .ok (.isub, 1) := by decide +kernel
theorem dX6_bears_64 : decode cX6_bears 64 = .ok (.ireturn, 1) := by decide +kernel
theorem dX6_bears_65 : decode cX6_bears 65 = .ok (.iinc 3 1, 3) := by decide +kernel
theorem dX6_bears_68 : decode cX6_bears 68 = .ok (.goto (-35), 3) := by decide +kernel
theorem dX6_bears_71 : decode cX6_bears 71 = .ok (.bipush (-4), 2) := by decide +kernel
theorem dX6_bears_73 : decode cX6_bears 73 = .ok (.ireturn, 1) := by decide +kernel
theorem dX6_ware_0 : decode cX6_ware 0 = .ok (.iload_n 1, 1) := by decide +kernel
theorem dX6_ware_1 : decode cX6_ware 1 = .ok (.iconst 1, 1) := by decide +kernel
theorem dX6_ware_2 : decode cX6_ware 2 = .ok (.sipush 9999, 3) := by decide +kernel
theorem dX6_ware_5 : decode cX6_ware 5 = .ok (.invokestatic 61, 3) := by decide +kernel
theorem dX6_ware_8 : decode cX6_ware 8 = .ok (.ifCond .eq 13, 3) := by decide +kernel
theorem dX6_ware_11 : decode cX6_ware 11 = .ok (.iload_n 2, 1) := by decide +kernel
theorem dX6_ware_12 : decode cX6_ware 12 = .ok (.iconst 1, 1) := by decide +kernel
theorem dX6_ware_13 : decode cX6_ware 13 = .ok (.bipush 9, 2) := by decide +kernel
theorem dX6_ware_15 : decode cX6_ware 15 = .ok (.invokestatic 61, 3) := by decide +kernel
theorem dX6_ware_18 : decode cX6_ware 18 = .ok (.ifCond .ne 5, 3) := by decide +kernel
theorem dX6_ware_21 : decode cX6_ware 21 = .ok (.iconst (-1), 1) := by decide +kernel
theorem dX6_ware_22 : decode cX6_ware 22 = .ok (.ireturn, 1) := by decide +kernel
theorem dX6_ware_23 : decode cX6_ware 23 = .ok (.aload_n 0, 1) := by decide +kernel
theorem dX6_ware_24 : decode cX6_ware 24 = .ok (.getfield 10, 3) := by decide +kernel
theorem dX6_ware_27 : decode cX6_ware 27 = .ok (.getfield 173, 3) := by decide +kernel
theorem dX6_ware_30 : decode cX6_ware 30 = .ok (.bipush 8, 2) := by decide +kernel
theorem dX6_ware_32 : decode cX6_ware 32 = .ok (.if_icmp .lt 6, 3) := by decide +kernel
theorem dX6_ware_35 : decode cX6_ware 35 = .ok (.bipush (-3), 2) := by decide +kernel
theorem dX6_ware_37 : decode cX6_ware 37 = .ok (.ireturn, 1) := by decide +kernel
theorem dX6_ware_38 : decode cX6_ware 38 = .ok (.aload_n 0, 1) := by decide +kernel
theorem dX6_ware_39 : decode cX6_ware 39 = .ok (.getfield 10, 3) := by decide +kernel
theorem dX6_ware_42 : decode cX6_ware 42 = .ok (.getfield 246, 3) := by decide +kernel
theorem dX6_ware_45 : decode cX6_ware 45 = .ok (.aload_n 0, 1) := by decide +kernel
theorem dX6_ware_46 : decode cX6_ware 46 = .ok (.getfield 10, 3) := by decide +kernel
theorem dX6_ware_49 : decode cX6_ware 49 = .ok (.getfield 173, 3) := by decide +kernel
theorem dX6_ware_52 : decode cX6_ware 52 = .ok (.iload_n 1, 1) := by decide +kernel
theorem dX6_ware_53 : decode cX6_ware 53 = .ok (.iastore, 1) := by decide +kernel
theorem dX6_ware_54 : decode cX6_ware 54 = .ok (.aload_n 0, 1) := by decide +kernel
theorem dX6_ware_55 : decode cX6_ware 55 = .ok (.getfield 10, 3) := by decide +kernel
theorem dX6_ware_58 : decode cX6_ware 58 = .ok (.getfield 249, 3) := by decide +kernel
theorem dX6_ware_61 : decode cX6_ware 61 = .ok (.aload_n 0, 1) := by decide +kernel
theorem dX6_ware_62 : decode cX6_ware 62 = .ok (.getfield 10, 3) := by decide +kernel
theorem dX6_ware_65 : decode cX6_ware 65 = .ok (.getfield 173, 3) := by decide +kernel
theorem dX6_ware_68 : decode cX6_ware 68 = .ok (.iload_n 2, 1) := by decide +kernel
theorem dX6_ware_69 : decode cX6_ware 69 = .ok (.iastore, 1) := by decide +kernel
theorem dX6_ware_70 : decode cX6_ware 70 = .ok (.aload_n 0, 1) := by decide +kernel
theorem dX6_ware_71 : decode cX6_ware 71 = .ok (.getfield 10, 3) := by decide +kernel
theorem dX6_ware_74 : decode cX6_ware 74 = .ok (.dup, 1) := by decide +kernel
theorem dX6_ware_75 : decode cX6_ware 75 = .ok (.getfield 173, 3) := by decide +kernel
theorem dX6_ware_78 : decode cX6_ware 78 = .ok (.iconst 1, 1) := by decide +kernel
theorem dX6_ware_79 : decode cX6_ware 79 = .ok (.iadd, 1) := by decide +kernel
theorem dX6_ware_80 : decode cX6_ware 80 = .ok (.putfield 173, 3) := by decide +kernel
theorem dX6_ware_83 : decode cX6_ware 83 = .ok (.aload_n 0, 1) := by decide +kernel
theorem dX6_ware_84 : decode cX6_ware 84 = .ok (.getfield 10, 3) := by decide +kernel
theorem dX6_ware_87 : decode cX6_ware 87 = .ok (.getfield 173, 3) := by decide +kernel
theorem dX6_ware_90 : decode cX6_ware 90 = .ok (.iconst 1, 1) := by decide +kernel
theorem dX6_ware_91 : decode cX6_ware 91 = .ok (.isub, 1) := by decide +kernel
theorem dX6_ware_92 : decode cX6_ware 92 = .ok (.ireturn, 1) := by decide +kernel
theorem dX6_under_0 : decode cX6_under 0 = .ok (.iload_n 1, 1) := by decide +kernel
theorem dX6_under_1 : decode cX6_under 1 = .ok (.iconst 0, 1) := by decide +kernel
theorem dX6_under_2 : decode cX6_under 2 = .ok (.aload_n 0, 1) := by decide +kernel
theorem dX6_under_3 : decode cX6_under 3 = .ok (.getfield 10, 3) := by decide +kernel
theorem dX6_under_6 : decode cX6_under 6 = .ok (.getfield 173, 3) := by decide +kernel
theorem dX6_under_9 : decode cX6_under 9 = .ok (.iconst 1, 1) := by decide +kernel
theorem dX6_under_10 : decode cX6_under 10 = .ok (.isub, 1) := by decide +kernel
theorem dX6_under_11 : decode cX6_under 11 = .ok (.invokestatic 61, 3) := by decide +kernel
theorem dX6_under_14 : decode cX6_under 14 = .ok (.ifCond .eq 33, 3) := by decide +kernel
theorem dX6_under_17 : decode cX6_under 17 = .ok (.iload_n 2, 1) := by decide +kernel
theorem dX6_under_18 : decode cX6_under 18 = .ok (.iconst 1, 1) := by decide +kernel
theorem dX6_under_19 : decode cX6_under 19 = .ok (.bipush 99, 2) := by decide +kernel
theorem dX6_under_21 : decode cX6_under 21 = .ok (.invokestatic 61, 3) := by decide +kernel
theorem dX6_under_24 : decode cX6_under 24 = .ok (.ifCond .eq 23, 3) := by decide +kernel
theorem dX6_under_27 : decode cX6_under 27 = .ok (.iload_n 3, 1) := by decide +kernel
theorem dX6_under_28 : decode cX6_under 28 = .ok (.iconst 1, 1) := by decide +kernel
theorem dX6_under_29 : decode cX6_under 29 = .ok (.ldc 252, 2) := by decide +kernel
theorem dX6_under_31 : decode cX6_under 31 = .ok (.invokestatic 61, 3) := by decide +kernel
theorem dX6_under_34 : decode cX6_under 34 = .ok (.ifCond .eq 13, 3) := by decide +kernel
theorem dX6_under_37 : decode cX6_under 37 = .ok (.iload 4, 2) := by decide +kernel
theorem dX6_under_39 : decode cX6_under 39 = .ok (.iconst 0, 1) := by decide +kernel
theorem dX6_under_40 : decode cX6_under 40 = .ok (.iconst 1, 1) := by decide +kernel
theorem dX6_under_41 : decode cX6_under 41 = .ok (.invokestatic 61, 3) := by decide +kernel
theorem dX6_under_44 : decode cX6_under 44 = .ok (.ifCond .ne 5, 3) := by decide +kernel
theorem dX6_under_47 : decode cX6_under 47 = .ok (.iconst (-1), 1) := by decide +kernel
theorem dX6_under_48 : decode cX6_under 48 = .ok (.ireturn, 1) := by decide +kernel
theorem dX6_under_49 : decode cX6_under 49 = .ok (.iconst 0, 1) := by decide +kernel
theorem dX6_under_50 : decode cX6_under 50 = .ok (.istore 5, 2) := by decide +kernel
theorem dX6_under_52 : decode cX6_under 52 = .ok (.bipush (-4), 2) := by decide +kernel
theorem dX6_under_54 : decode cX6_under 54 = .ok (.istore 6, 2) := by decide +kernel
theorem dX6_under_56 : decode cX6_under 56 = .ok (.iconst 1, 1) := by decide +kernel
theorem dX6_under_57 : decode cX6_under 57 = .ok (.aload_n 0, 1) := by decide +kernel
theorem dX6_under_58 : decode cX6_under 58 = .ok (.getfield 10, 3) := by decide +kernel
theorem dX6_under_61 : decode cX6_under 61 = .ok (.getfield 173, 3) := by decide +kernel
theorem dX6_under_64 : decode cX6_under 64 = .ok (.ishl, 1) := by decide +kernel
theorem dX6_under_65 : decode cX6_under 65 = .ok (.iconst 1, 1) := by decide +kernel
theorem dX6_under_66 : decode cX6_under 66 = .ok (.isub, 1) := by decide +kernel
theorem dX6_under_67 : decode cX6_under 67 = .ok (.istore 7, 2) := by decide +kernel
theorem dX6_under_69 : decode cX6_under 69 = .ok (.iload 7, 2) := by decide +kernel
theorem dX6_under_71 : decode cX6_under 71 = .ok (.ifCond .le 39, 3) := by decide +kernel
theorem dX6_under_74 : decode cX6_under 74 = .ok (.iload 7, 2) := by decide +kernel
theorem dX6_under_76 : decode cX6_under 76 = .ok (.iload_n 1, 1) := by decide +kernel
theorem dX6_under_77 : decode cX6_under 77 = .ok (.invokestatic 253, 3) := by decide +kernel
theorem dX6_under_80 : decode cX6_under 80 = .ok (.ifCond .eq 24, 3) := by decide +kernel
theorem dX6_under_83 : decode cX6_under 83 = .ok (.aload_n 0, 1) := by decide +kernel
theorem dX6_under_84 : decode cX6_under 84 = .ok (.getfield 10, 3) := by decide +kernel
theorem dX6_under_87 : decode cX6_under 87 = .ok (.iload 7, 2) := by decide +kernel
theorem dX6_under_89 : decode cX6_under 89 = .ok (.iload_n 2, 1) := by decide +kernel
theorem dX6_under_90 : decode cX6_under 90 = .ok (.iload_n 3, 1) := by decide +kernel
theorem dX6_under_91 : decode cX6_under 91 = .ok (.invokevirtual 256, 3) := by decide +kernel
theorem dX6_under_94 : decode cX6_under 94 = .ok (.ifCond .eq 10, 3) := by decide +kernel
theorem dX6_under_97 : decode cX6_under 97 = .ok (.iinc 5 1, 3) := by decide +kernel
theorem dX6_under_100 : decode cX6_under 100 = .ok (.iload 7, 2) := by decide +kernel
theorem dX6_under_102 : decode cX6_under 102 = .ok (.istore 6, 2) := by decide +kernel
theorem dX6_under_104 : decode cX6_under 104 = .ok (.iinc 7 (-1), 3) := by decide +kernel
theorem dX6_under_107 : decode cX6_under 107 = .ok (.goto (-38), 3) := by decide +kernel
theorem dX6_under_110 : decode cX6_under 110 = .ok (.iload 4, 2) := by decide +kernel
theorem dX6_under_112 : decode cX6_under 112 = .ok (.ifCond .ne 8, 3) := by decide +kernel
theorem dX6_under_115 : decode cX6_under 115 = .ok (.iload 5, 2) := by decide +kernel
theorem dX6_under_117 : decode cX6_under 117 = .ok (.goto 5, 3) := by decide +kernel
theorem dX6_under_120 : decode cX6_under 120 = .ok (.iload 6, 2) := by decide +kernel
theorem dX6_under_122 : decode cX6_under 122 = .ok (.ireturn, 1) := by decide +kernel
theorem dX6_image_0 : decode cX6_image 0 = .ok (.aload_n 0, 1) := by decide +kernel
theorem dX6_image_1 : decode cX6_image 1 = .ok (.getfield 16, 3) := by decide +kernel
theorem dX6_image_4 : decode cX6_image 4 = .ok (.aload_n 0, 1) := by decide +kernel
theorem dX6_image_5 : decode cX6_image 5 = .ok (.getfield 10, 3) := by decide +kernel
theorem dX6_image_8 : decode cX6_image 8 = .ok (.invokevirtual 259, 3) := by decide +kernel
theorem dX6_image_11 : decode cX6_image 11 = .ok (.aload_n 0, 1) := by decide +kernel
theorem dX6_image_12 : decode cX6_image 12 = .ok (.iconst 1, 1) := by decide +kernel
theorem dX6_image_13 : decode cX6_image 13 = .ok (.putfield 57, 3) := by decide +kernel
theorem dX6_image_16 : decode cX6_image 16 = .ok (.iconst 1, 1) := by decide +kernel
theorem dX6_image_17 : decode cX6_image 17 = .ok (.ireturn, 1) := by decide +kernel
theorem dX6_restore_0 : decode cX6_restore 0 = .ok (.aload_n 0, 1) := by decide +kernel
theorem dX6_restore_1 : decode cX6_restore 1 = .ok (.getfield 57, 3) := by decide +kernel
theorem dX6_restore_4 : decode cX6_restore 4 = .ok (.ifCond .ne 6, 3) := by decide +kernel
theorem dX6_restore_7 : decode cX6_restore 7 = .ok (.bipush (-4), 2) := by decide +kernel
theorem dX6_restore_9 : decode cX6_restore 9 = .ok (.ireturn, 1) := by decide +kernel
theorem dX6_restore_10 : decode cX6_restore 10 = .ok (.aload_n 0, 1) := by decide +kernel
theorem dX6_restore_11 : decode cX6_restore 11 = .ok (.getfield 10, 3) := by decide +kernel
theorem dX6_restore_14 : decode cX6_restore 14 = .ok (.aload_n 0, 1) := by decide +kernel
theorem dX6_restore_15 : decode cX6_restore 15 = .ok (.getfield 16, 3) := by decide +kernel
theorem dX6_restore_18 : decode cX6_restore 18 = .ok (.invokevirtual 259, 3) := by decide +kernel
theorem dX6_restore_21 : decode cX6_restore 21 = .ok (.iconst 1, 1) := by decide +kernel
theorem dX6_restore_22 : decode cX6_restore 22 = .ok (.ireturn, 1) := by decide +kernel
theorem dX6_judged_0 : decode cX6_judged 0 = .ok (.iload_n 1, 1) := by decide +kernel
theorem dX6_judged_1 : decode cX6_judged 1 = .ok (.invokestatic 261, 3) := by decide +kernel
theorem dX6_judged_4 : decode cX6_judged 4 = .ok (.ifCond .eq 21, 3) := by decide +kernel
theorem dX6_judged_7 : decode cX6_judged 7 = .ok (.iload_n 2, 1) := by decide +kernel
theorem dX6_judged_8 : decode cX6_judged 8 = .ok (.invokestatic 264, 3) := by decide +kernel
theorem dX6_judged_11 : decode cX6_judged 11 = .ok (.ifCond .eq 14, 3) := by decide +kernel
theorem dX6_judged_14 : decode cX6_judged 14 = .ok (.iload 4, 2) := by decide +kernel
theorem dX6_judged_16 : decode cX6_judged 16 = .ok (.iconst 1, 1) := by decide +kernel
theorem dX6_judged_17 : decode cX6_judged 17 = .ok (.bipush 8, 2) := by decide +kernel
theorem dX6_judged_19 : decode cX6_judged 19 = .ok (.invokestatic 61, 3) := by decide +kernel
theorem dX6_judged_22 : decode cX6_judged 22 = .ok (.ifCond .ne 5, 3) := by decide +kernel
theorem dX6_judged_25 : decode cX6_judged 25 = .ok (.iconst (-1), 1) := by decide +kernel
theorem dX6_judged_26 : decode cX6_judged 26 = .ok (.ireturn, 1) := by decide +kernel
theorem dX6_judged_27 : decode cX6_judged 27 = .ok (.aload_n 0, 1) := by decide +kernel
theorem dX6_judged_28 : decode cX6_judged 28 = .ok (.getfield 52, 3) := by decide +kernel
theorem dX6_judged_31 : decode cX6_judged 31 = .ok (.iload_n 1, 1) := by decide +kernel
theorem dX6_judged_32 : decode cX6_judged 32 = .ok (.aaload, 1) := by decide +kernel
theorem dX6_judged_33 : decode cX6_judged 33 = .ok (.astore 5, 2) := by decide +kernel
theorem dX6_judged_35 : decode cX6_judged 35 = .ok (.aload 5, 2) := by decide +kernel
theorem dX6_judged_37 : decode cX6_judged 37 = .ok (.iload_n 2, 1) := by decide +kernel
theorem dX6_judged_38 : decode cX6_judged 38 = .ok (.iload_n 3, 1) := by decide +kernel
theorem dX6_judged_39 : decode cX6_judged 39 = .ok (.iconst 3, 1) := by decide +kernel
theorem dX6_judged_40 : decode cX6_judged 40 = .ok (.iload 4, 2) := by decide +kernel
theorem dX6_judged_42 : decode cX6_judged 42 = .ok (.imul, 1) := by decide +kernel
theorem dX6_judged_43 : decode cX6_judged 43 = .ok (.invokevirtual 267, 3) := by decide +kernel
theorem dX6_judged_46 : decode cX6_judged 46 = .ok (.istore 6, 2) := by decide +kernel
theorem dX6_judged_48 : decode cX6_judged 48 = .ok (.iload 6, 2) := by decide +kernel
theorem dX6_judged_50 : decode cX6_judged 50 = .ok (.ifCond .eq 6, 3) := by decide +kernel
theorem dX6_judged_53 : decode cX6_judged 53 = .ok (.iload 6, 2) := by decide +kernel
theorem dX6_judged_55 : decode cX6_judged 55 = .ok (.ireturn, 1) := by decide +kernel
theorem dX6_judged_56 : decode cX6_judged 56 = .ok (.aload_n 0, 1) := by decide +kernel
theorem dX6_judged_57 : decode cX6_judged 57 = .ok (.getfield 19, 3) := by decide +kernel
theorem dX6_judged_60 : decode cX6_judged 60 = .ok (.aload_n 0, 1) := by decide +kernel
theorem dX6_judged_61 : decode cX6_judged 61 = .ok (.getfield 10, 3) := by decide +kernel
theorem dX6_judged_64 : decode cX6_judged 64 = .ok (.invokevirtual 259, 3) := by decide +kernel
theorem dX6_judged_67 : decode cX6_judged 67 = .ok (.iconst 0, 1) := by decide +kernel
theorem dX6_judged_68 : decode cX6_judged 68 = .ok (.istore 7, 2) := by decide +kernel
theorem dX6_judged_70 : decode cX6_judged 70 = .ok (.iload 7, 2) := by decide +kernel
theorem dX6_judged_72 : decode cX6_judged 72 = .ok (.iload 4, 2) := by decide +kernel
theorem dX6_judged_74 : decode cX6_judged 74 = .ok (.if_icmp .ge 58, 3) := by decide +kernel
theorem dX6_judged_77 : decode cX6_judged 77 = .ok (.iload_n 3, 1) := by decide +kernel
theorem dX6_judged_78 : decode cX6_judged 78 = .ok (.iconst 3, 1) := by decide +kernel
theorem dX6_judged_79 : decode cX6_judged 79 = .ok (.iload 7, 2) := by decide +kernel
theorem dX6_judged_81 : decode cX6_judged 81 = .ok (.imul, 1) := by decide +kernel
theorem dX6_judged_82 : decode cX6_judged 82 = .ok (.iadd, 1) := by decide +kernel
theorem dX6_judged_83 : decode cX6_judged 83 = .ok (.istore 8, 2) := by decide +kernel
theorem dX6_judged_85 : decode cX6_judged 85 = .ok (.aload_n 0, 1) := by decide +kernel
theorem dX6_judged_86 : decode cX6_judged 86 = .ok (.getfield 19, 3) := by decide +kernel
theorem dX6_judged_89 : decode cX6_judged 89 = .ok (.aload 5, 2) := by decide +kernel
theorem dX6_judged_91 : decode cX6_judged 91 = .ok (.getfield 271, 3) := by decide +kernel
theorem dX6_judged_94 : decode cX6_judged 94 = .ok (.iload 8, 2) := by decide +kernel
theorem dX6_judged_96 : decode cX6_judged 96 = .ok (.iaload, 1) := by decide +kernel
theorem dX6_judged_97 : decode cX6_judged 97 = .ok (.aload 5, 2) := by decide +kernel
theorem dX6_judged_99 : decode cX6_judged 99 = .ok (.getfield 271, 3) := by decide +kernel
theorem dX6_judged_102 : decode cX6_judged 102 = .ok (.iload 8, 2) := by decide +kernel
theorem dX6_judged_104 : decode cX6_judged 104 = .ok (.iconst 1, 1) := by decide +kernel
theorem dX6_judged_105 : decode cX6_judged 105 = .ok (.iadd, 1) := by decide +kernel
theorem dX6_judged_106 : decode cX6_judged 106 = .ok (.iaload, 1) := by decide +kernel
theorem dX6_judged_107 : decode cX6_judged 107 = .ok (.aload 5, 2) := by decide +kernel
theorem dX6_judged_109 : decode cX6_judged 109 = .ok (.getfield 271, 3) := by decide +kernel
theorem dX6_judged_112 : decode cX6_judged 112 = .ok (.iload 8, 2) := by decide +kernel
theorem dX6_judged_114 : decode cX6_judged 114 = .ok (.iconst 2, 1) := by decide +kernel
theorem dX6_judged_115 : decode cX6_judged 115 = .ok (.iadd, 1) := by decide +kernel
theorem dX6_judged_116 : decode cX6_judged 116 = .ok (.iaload, 1) := by decide +kernel
theorem dX6_judged_117 : decode cX6_judged 117 = .ok (.invokevirtual 274, 3) := by decide +kernel
theorem dX6_judged_120 : decode cX6_judged 120 = .ok (.ifCond .ne 6, 3) := by decide +kernel
theorem dX6_judged_123 : decode cX6_judged 123 = .ok (.iload 7, 2) := by decide +kernel
theorem dX6_judged_125 : decode cX6_judged 125 = .ok (.ireturn, 1) := by decide +kernel
theorem dX6_judged_126 : decode cX6_judged 126 = .ok (.iinc 7 1, 3) := by decide +kernel
theorem dX6_judged_129 : decode cX6_judged 129 = .ok (.goto (-59), 3) := by decide +kernel
theorem dX6_judged_132 : decode cX6_judged 132 = .ok (.bipush (-4), 2) := by decide +kernel
theorem dX6_judged_134 : decode cX6_judged 134 = .ok (.ireturn, 1) := by decide +kernel
theorem dX6_sheet_0 : decode cX6_sheet 0 = .ok (.iload_n 1, 1) := by decide +kernel
theorem dX6_sheet_1 : decode cX6_sheet 1 = .ok (.invokestatic 261, 3) := by decide +kernel
theorem dX6_sheet_4 : decode cX6_sheet 4 = .ok (.ifCond .eq 16, 3) := by decide +kernel
theorem dX6_sheet_7 : decode cX6_sheet 7 = .ok (.iload_n 2, 1) := by decide +kernel
theorem dX6_sheet_8 : decode cX6_sheet 8 = .ok (.invokestatic 264, 3) := by decide +kernel
theorem dX6_sheet_11 : decode cX6_sheet 11 = .ok (.ifCond .eq 9, 3) := by decide +kernel
theorem dX6_sheet_14 : decode cX6_sheet 14 = .ok (.iload_n 3, 1) := by decide +kernel
theorem dX6_sheet_15 : decode cX6_sheet 15 = .ok (.bipush 24, 2) := by decide +kernel
theorem dX6_sheet_17 : decode cX6_sheet 17 = .ok (.if_icmp .le 5, 3) := by decide +kernel
theorem dX6_sheet_20 : decode cX6_sheet 20 = .ok (.iconst (-1), 1) := by decide +kernel
theorem dX6_sheet_21 : decode cX6_sheet 21 = .ok (.ireturn, 1) := by decide +kernel
theorem dX6_sheet_22 : decode cX6_sheet 22 = .ok (.iload_n 3, 1) := by decide +kernel
theorem dX6_sheet_23 : decode cX6_sheet 23 = .ok (.ifCond .ge 6, 3) := by decide +kernel
theorem dX6_sheet_26 : decode cX6_sheet 26 = .ok (.bipush (-14), 2) := by decide +kernel
theorem dX6_sheet_28 : decode cX6_sheet 28 = .ok (.ireturn, 1) := by decide +kernel
theorem dX6_sheet_29 : decode cX6_sheet 29 = .ok (.aload_n 0, 1) := by decide +kernel
theorem dX6_sheet_30 : decode cX6_sheet 30 = .ok (.getfield 52, 3) := by decide +kernel
theorem dX6_sheet_33 : decode cX6_sheet 33 = .ok (.iload_n 1, 1) := by decide +kernel
theorem dX6_sheet_34 : decode cX6_sheet 34 = .ok (.aaload, 1) := by decide +kernel
theorem dX6_sheet_35 : decode cX6_sheet 35 = .ok (.iload_n 2, 1) := by decide +kernel
theorem dX6_sheet_36 : decode cX6_sheet 36 = .ok (.iload_n 3, 1) := by decide +kernel
theorem dX6_sheet_37 : decode cX6_sheet 37 = .ok (.invokevirtual 277, 3) := by decide +kernel
theorem dX6_sheet_40 : decode cX6_sheet 40 = .ok (.iload_n 3, 1) := by decide +kernel
theorem dX6_sheet_41 : decode cX6_sheet 41 = .ok (.ireturn, 1) := by decide +kernel
theorem dX6_drop_0 : decode cX6_drop 0 = .ok (.iload_n 1, 1) := by decide +kernel
theorem dX6_drop_1 : decode cX6_drop 1 = .ok (.invokestatic 261, 3) := by decide +kernel
theorem dX6_drop_4 : decode cX6_drop 4 = .ok (.ifCond .ne 5, 3) := by decide +kernel
theorem dX6_drop_7 : decode cX6_drop 7 = .ok (.iconst (-1), 1) := by decide +kernel
theorem dX6_drop_8 : decode cX6_drop 8 = .ok (.ireturn, 1) := by decide +kernel
theorem dX6_drop_9 : decode cX6_drop 9 = .ok (.aload_n 0, 1) := by decide +kernel
theorem dX6_drop_10 : decode cX6_drop 10 = .ok (.getfield 52, 3) := by decide +kernel
theorem dX6_drop_13 : decode cX6_drop 13 = .ok (.iload_n 1, 1) := by decide +kernel
theorem dX6_drop_14 : decode cX6_drop 14 = .ok (.aaload, 1) := by decide +kernel
theorem dX6_drop_15 : decode cX6_drop 15 = .ok (.astore_n 2, 1) := by decide +kernel
theorem dX6_drop_16 : decode cX6_drop 16 = .ok (.aload_n 2, 1) := by decide +kernel
theorem dX6_drop_17 : decode cX6_drop 17 = .ok (.getfield 280, 3) := by decide +kernel
theorem dX6_drop_20 : decode cX6_drop 20 = .ok (.ifCond .ne 6, 3) := by decide +kernel
theorem dX6_drop_23 : decode cX6_drop 23 = .ok (.bipush (-11), 2) := by decide +kernel
theorem dX6_drop_25 : decode cX6_drop 25 = .ok (.ireturn, 1) := by decide +kernel
theorem dX6_drop_26 : decode cX6_drop 26 = .ok (.aload_n 2, 1) := by decide +kernel
theorem dX6_drop_27 : decode cX6_drop 27 = .ok (.iconst 0, 1) := by decide +kernel
theorem dX6_drop_28 : decode cX6_drop 28 = .ok (.putfield 280, 3) := by decide +kernel
theorem dX6_drop_31 : decode cX6_drop 31 = .ok (.aload_n 2, 1) := by decide +kernel
theorem dX6_drop_32 : decode cX6_drop 32 = .ok (.getfield 283, 3) := by decide +kernel
theorem dX6_drop_35 : decode cX6_drop 35 = .ok (.ireturn, 1) := by decide +kernel
theorem dX6_item_0 : decode cX6_item 0 = .ok (.iload_n 1, 1) := by decide +kernel
theorem dX6_item_1 : decode cX6_item 1 = .ok (.invokestatic 261, 3) := by decide +kernel
theorem dX6_item_4 : decode cX6_item 4 = .ok (.ifCond .eq 10, 3) := by decide +kernel
theorem dX6_item_7 : decode cX6_item 7 = .ok (.iload_n 2, 1) := by decide +kernel
theorem dX6_item_8 : decode cX6_item 8 = .ok (.invokestatic 264, 3) := by decide +kernel
theorem dX6_item_11 : decode cX6_item 11 = .ok (.ifCond .ne 5, 3) := by decide +kernel
theorem dX6_item_14 : decode cX6_item 14 = .ok (.iconst (-1), 1) := by decide +kernel
theorem dX6_item_15 : decode cX6_item 15 = .ok (.ireturn, 1) := by decide +kernel
theorem dX6_item_16 : decode cX6_item 16 = .ok (.aload_n 0, 1) := by decide +kernel
theorem dX6_item_17 : decode cX6_item 17 = .ok (.getfield 52, 3) := by decide +kernel
theorem dX6_item_20 : decode cX6_item 20 = .ok (.iload_n 1, 1) := by decide +kernel
theorem dX6_item_21 : decode cX6_item 21 = .ok (.aaload, 1) := by decide +kernel
theorem dX6_item_22 : decode cX6_item 22 = .ok (.astore 5, 2) := by decide +kernel
theorem dX6_item_24 : decode cX6_item 24 = .ok (.aload 5, 2) := by decide +kernel
theorem dX6_item_26 : decode cX6_item 26 = .ok (.iload_n 2, 1) := by decide +kernel
theorem dX6_item_27 : decode cX6_item 27 = .ok (.iload_n 3, 1) := by decide +kernel
theorem dX6_item_28 : decode cX6_item 28 = .ok (.iconst 1, 1) := by decide +kernel
theorem dX6_item_29 : decode cX6_item 29 = .ok (.invokevirtual 267, 3) := by decide +kernel
theorem dX6_item_32 : decode cX6_item 32 = .ok (.istore 6, 2) := by decide +kernel
theorem dX6_item_34 : decode cX6_item 34 = .ok (.iload 6, 2) := by decide +kernel
theorem dX6_item_36 : decode cX6_item 36 = .ok (.ifCond .eq 6, 3) := by decide +kernel
theorem dX6_item_39 : decode cX6_item 39 = .ok (.iload 6, 2) := by decide +kernel
theorem dX6_item_41 : decode cX6_item 41 = .ok (.ireturn, 1) := by decide +kernel
theorem dX6_item_42 : decode cX6_item 42 = .ok (.aload 5, 2) := by decide +kernel
theorem dX6_item_44 : decode cX6_item 44 = .ok (.getfield 271, 3) := by decide +kernel
theorem dX6_item_47 : decode cX6_item 47 = .ok (.iload_n 3, 1) := by decide +kernel
theorem dX6_item_48 : decode cX6_item 48 = .ok (.iload_n 2, 1) := by decide +kernel
theorem dX6_item_49 : decode cX6_item 49 = .ok (.iload 4, 2) := by decide +kernel
theorem dX6_item_51 : decode cX6_item 51 = .ok (.invokestatic 284, 3) := by decide +kernel
theorem dX6_item_54 : decode cX6_item 54 = .ok (.iastore, 1) := by decide +kernel
theorem dX6_item_55 : decode cX6_item 55 = .ok (.iconst 1, 1) := by decide +kernel
theorem dX6_item_56 : decode cX6_item 56 = .ok (.ireturn, 1) := by decide +kernel
theorem dX6_copy_0 : decode cX6_copy 0 = .ok (.iload_n 1, 1) := by decide +kernel
theorem dX6_copy_1 : decode cX6_copy 1 = .ok (.invokestatic 261, 3) := by decide +kernel
theorem dX6_copy_4 : decode cX6_copy 4 = .ok (.ifCond .eq 10, 3) := by decide +kernel
theorem dX6_copy_7 : decode cX6_copy 7 = .ok (.iload_n 3, 1) := by decide +kernel
theorem dX6_copy_8 : decode cX6_copy 8 = .ok (.invokestatic 261, 3) := by decide +kernel
theorem dX6_copy_11 : decode cX6_copy 11 = .ok (.ifCond .ne 5, 3) := by decide +kernel
theorem dX6_copy_14 : decode cX6_copy 14 = .ok (.iconst (-1), 1) := by decide +kernel
theorem dX6_copy_15 : decode cX6_copy 15 = .ok (.ireturn, 1) := by decide +kernel
theorem dX6_copy_16 : decode cX6_copy 16 = .ok (.aload_n 0, 1) := by decide +kernel
theorem dX6_copy_17 : decode cX6_copy 17 = .ok (.getfield 52, 3) := by decide +kernel
theorem dX6_copy_20 : decode cX6_copy 20 = .ok (.iload_n 1, 1) := by decide +kernel
theorem dX6_copy_21 : decode cX6_copy 21 = .ok (.aaload, 1) := by decide +kernel
theorem dX6_copy_22 : decode cX6_copy 22 = .ok (.astore 6, 2) := by decide +kernel
theorem dX6_copy_24 : decode cX6_copy 24 = .ok (.aload_n 0, 1) := by decide +kernel
theorem dX6_copy_25 : decode cX6_copy 25 = .ok (.getfield 52, 3) := by decide +kernel
theorem dX6_copy_28 : decode cX6_copy 28 = .ok (.iload_n 3, 1) := by decide +kernel
theorem dX6_copy_29 : decode cX6_copy 29 = .ok (.aaload, 1) := by decide +kernel
theorem dX6_copy_30 : decode cX6_copy 30 = .ok (.astore 7, 2) := by decide +kernel
theorem dX6_copy_32 : decode cX6_copy 32 = .ok (.aload 6, 2) := by decide +kernel
theorem dX6_copy_34 : decode cX6_copy 34 = .ok (.getfield 280, 3) := by decide +kernel
theorem dX6_copy_37 : decode cX6_copy 37 = .ok (.ifCond .eq 11, 3) := by decide +kernel
theorem dX6_copy_40 : decode cX6_copy 40 = .ok (.aload 7, 2) := by decide +kernel
theorem dX6_copy_42 : decode cX6_copy 42 = .ok (.getfield 280, 3) := by decide +kernel
theorem dX6_copy_45 : decode cX6_copy 45 = .ok (.ifCond .ne 6, 3) := by decide +kernel
theorem dX6_copy_48 : decode cX6_copy 48 = .ok (.bipush (-11), 2) := by decide +kernel
theorem dX6_copy_50 : decode cX6_copy 50 = .ok (.ireturn, 1) := by decide +kernel
theorem dX6_copy_51 : decode cX6_copy 51 = .ok (.aload 6, 2) := by decide +kernel
theorem dX6_copy_53 : decode cX6_copy 53 = .ok (.getfield 287, 3) := by decide +kernel
theorem dX6_copy_56 : decode cX6_copy 56 = .ok (.aload 7, 2) := by decide +kernel
theorem dX6_copy_58 : decode cX6_copy 58 = .ok (.getfield 287, 3) := by decide +kernel
theorem dX6_copy_61 : decode cX6_copy 61 = .ok (.if_icmp .eq 6, 3) := by decide +kernel
theorem dX6_copy_64 : decode cX6_copy 64 = .ok (.bipush (-12), 2) := by decide +kernel
theorem dX6_copy_66 : decode cX6_copy 66 = .ok (.ireturn, 1) := by decide +kernel
theorem dX6_copy_67 : decode cX6_copy 67 = .ok (.aload 6, 2) := by decide +kernel
theorem dX6_copy_69 : decode cX6_copy 69 = .ok (.iload_n 2, 1) := by decide +kernel
theorem dX6_copy_70 : decode cX6_copy 70 = .ok (.iload 5, 2) := by decide +kernel
theorem dX6_copy_72 : decode cX6_copy 72 = .ok (.invokevirtual 290, 3) := by decide +kernel
theorem dX6_copy_75 : decode cX6_copy 75 = .ok (.ifCond .eq 15, 3) := by decide +kernel
theorem dX6_copy_78 : decode cX6_copy 78 = .ok (.aload 7, 2) := by decide +kernel
theorem dX6_copy_80 : decode cX6_copy 80 = .ok (.iload 4, 2) := by decide +kernel
theorem dX6_copy_82 : decode cX6_copy 82 = .ok (.iload 5, 2) := by decide +kernel
theorem dX6_copy_84 : decode cX6_copy 84 = .ok (.invokevirtual 290, 3) := by decide +kernel
theorem dX6_copy_87 : decode cX6_copy 87 = .ok (.ifCond .ne 6, 3) := by decide +kernel
theorem dX6_copy_90 : decode cX6_copy 90 = .ok (.bipush (-13), 2) := by decide +kernel
theorem dX6_copy_92 : decode cX6_copy 92 = .ok (.ireturn, 1) := by decide +kernel
theorem dX6_copy_93 : decode cX6_copy 93 = .ok (.aload 6, 2) := by decide +kernel
theorem dX6_copy_95 : decode cX6_copy 95 = .ok (.getfield 271, 3) := by decide +kernel
theorem dX6_copy_98 : decode cX6_copy 98 = .ok (.iload_n 2, 1) := by decide +kernel
theorem dX6_copy_99 : decode cX6_copy 99 = .ok (.aload 7, 2) := by decide +kernel
theorem dX6_copy_101 : decode cX6_copy 101 = .ok (.getfield 271, 3) := by decide +kernel
theorem dX6_copy_104 : decode cX6_copy 104 = .ok (.iload 4, 2) := by decide +kernel
theorem dX6_copy_106 : decode cX6_copy 106 = .ok (.iload 5, 2) := by decide +kernel
theorem dX6_copy_108 : decode cX6_copy 108 = .ok (.invokestatic 293, 3) := by decide +kernel
theorem dX6_copy_111 : decode cX6_copy 111 = .ok (.iload 5, 2) := by decide +kernel
theorem dX6_copy_113 : decode cX6_copy 113 = .ok (.ireturn, 1) := by decide +kernel
theorem dX6_isWithin_0 : decode cX6_isWithin 0 = .ok (.iload_n 0, 1) := by decide +kernel
theorem dX6_isWithin_1 : decode cX6_isWithin 1 = .ok (.iload_n 1, 1) := by decide +kernel
theorem dX6_isWithin_2 : decode cX6_isWithin 2 = .ok (.if_icmp .lt 12, 3) := by decide +kernel
theorem dX6_isWithin_5 : decode cX6_isWithin 5 = .ok (.iload_n 0, 1) := by decide +kernel
theorem dX6_isWithin_6 : decode cX6_isWithin 6 = .ok (.iload_n 2, 1) := by decide +kernel
theorem dX6_isWithin_7 : decode cX6_isWithin 7 = .ok (.if_icmp .gt 7, 3) := by decide +kernel
theorem dX6_isWithin_10 : decode cX6_isWithin 10 = .ok (.iconst 1, 1) := by decide +kernel
theorem dX6_isWithin_11 : decode cX6_isWithin 11 = .ok (.goto 4, 3) := by decide +kernel
theorem dX6_isWithin_14 : decode cX6_isWithin 14 = .ok (.iconst 0, 1) := by decide +kernel
theorem dX6_isWithin_15 : decode cX6_isWithin 15 = .ok (.ireturn, 1) := by decide +kernel
theorem dX6_isLender_0 : decode cX6_isLender 0 = .ok (.iload_n 0, 1) := by decide +kernel
theorem dX6_isLender_1 : decode cX6_isLender 1 = .ok (.iconst 0, 1) := by decide +kernel
theorem dX6_isLender_2 : decode cX6_isLender 2 = .ok (.iconst 4, 1) := by decide +kernel
theorem dX6_isLender_3 : decode cX6_isLender 3 = .ok (.invokestatic 61, 3) := by decide +kernel
theorem dX6_isLender_6 : decode cX6_isLender 6 = .ok (.ireturn, 1) := by decide +kernel
theorem dX6_isSheet_0 : decode cX6_isSheet 0 = .ok (.iload_n 0, 1) := by decide +kernel
theorem dX6_isSheet_1 : decode cX6_isSheet 1 = .ok (.iconst 0, 1) := by decide +kernel
theorem dX6_isSheet_2 : decode cX6_isSheet 2 = .ok (.iconst 3, 1) := by decide +kernel
theorem dX6_isSheet_3 : decode cX6_isSheet 3 = .ok (.invokestatic 61, 3) := by decide +kernel
theorem dX6_isSheet_6 : decode cX6_isSheet 6 = .ok (.ireturn, 1) := by decide +kernel
theorem dX6_isLane_0 : decode cX6_isLane 0 = .ok (.iload_n 0, 1) := by decide +kernel
theorem dX6_isLane_1 : decode cX6_isLane 1 = .ok (.iconst 0, 1) := by decide +kernel
theorem dX6_isLane_2 : decode cX6_isLane 2 = .ok (.iconst 2, 1) := by decide +kernel
theorem dX6_isLane_3 : decode cX6_isLane 3 = .ok (.invokestatic 61, 3) := by decide +kernel
theorem dX6_isLane_6 : decode cX6_isLane 6 = .ok (.ireturn, 1) := by decide +kernel
theorem dX6_isIn_0 : decode cX6_isIn 0 = .ok (.iload_n 0, 1) := by decide +kernel
theorem dX6_isIn_1 : decode cX6_isIn 1 = .ok (.iload_n 1, 1) := by decide +kernel
theorem dX6_isIn_2 : decode cX6_isIn 2 = .ok (.ishr, 1) := by decide +kernel
theorem dX6_isIn_3 : decode cX6_isIn 3 = .ok (.iconst 1, 1) := by decide +kernel
theorem dX6_isIn_4 : decode cX6_isIn 4 = .ok (.iand, 1) := by decide +kernel
theorem dX6_isIn_5 : decode cX6_isIn 5 = .ok (.ifCond .eq 7, 3) := by decide +kernel
theorem dX6_isIn_8 : decode cX6_isIn 8 = .ok (.iconst 1, 1) := by decide +kernel
theorem dX6_isIn_9 : decode cX6_isIn 9 = .ok (.goto 4, 3) := by decide +kernel
theorem dX6_isIn_12 : decode cX6_isIn 12 = .ok (.iconst 0, 1) := by decide +kernel
theorem dX6_isIn_13 : decode cX6_isIn 13 = .ok (.ireturn, 1) := by decide +kernel
theorem dX6_mayComeOff_0 : decode cX6_mayComeOff 0 = .ok (.iload_n 1, 1) := by decide +kernel
theorem dX6_mayComeOff_1 : decode cX6_mayComeOff 1 = .ok (.iconst 1, 1) := by decide +kernel
theorem dX6_mayComeOff_2 : decode cX6_mayComeOff 2 = .ok (.iload_n 2, 1) := by decide +kernel
theorem dX6_mayComeOff_3 : decode cX6_mayComeOff 3 = .ok (.ishl, 1) := by decide +kernel
theorem dX6_mayComeOff_4 : decode cX6_mayComeOff 4 = .ok (.iconst 1, 1) := by decide +kernel
theorem dX6_mayComeOff_5 : decode cX6_mayComeOff 5 = .ok (.isub, 1) := by decide +kernel
theorem dX6_mayComeOff_6 : decode cX6_mayComeOff 6 = .ok (.iand, 1) := by decide +kernel
theorem dX6_mayComeOff_7 : decode cX6_mayComeOff 7 = .ok (.ifCond .ne 7, 3) := by decide +kernel
theorem dX6_mayComeOff_10 : decode cX6_mayComeOff 10 = .ok (.iconst 1, 1) := by decide +kernel
theorem dX6_mayComeOff_11 : decode cX6_mayComeOff 11 = .ok (.goto 4, 3) := by decide +kernel
theorem dX6_mayComeOff_14 : decode cX6_mayComeOff 14 = .ok (.iconst 0, 1) := by decide +kernel
theorem dX6_mayComeOff_15 : decode cX6_mayComeOff 15 = .ok (.istore_n 3, 1) := by decide +kernel
theorem dX6_mayComeOff_16 : decode cX6_mayComeOff 16 = .ok (.iload_n 1, 1) := by decide +kernel
theorem dX6_mayComeOff_17 : decode cX6_mayComeOff 17 = .ok (.iload_n 2, 1) := by decide +kernel
theorem dX6_mayComeOff_18 : decode cX6_mayComeOff 18 = .ok (.iconst 1, 1) := by decide +kernel
theorem dX6_mayComeOff_19 : decode cX6_mayComeOff 19 = .ok (.iadd, 1) := by decide +kernel
theorem dX6_mayComeOff_20 : decode cX6_mayComeOff 20 = .ok (.ishr, 1) := by decide +kernel
theorem dX6_mayComeOff_21 : decode cX6_mayComeOff 21 = .ok (.ifCond .ne 7, 3) := by decide +kernel
theorem dX6_mayComeOff_24 : decode cX6_mayComeOff 24 = .ok (.iconst 1, 1) := by decide +kernel
theorem dX6_mayComeOff_25 : decode cX6_mayComeOff 25 = .ok (.goto 4, 3) := by decide +kernel
theorem dX6_mayComeOff_28 : decode cX6_mayComeOff 28 = .ok (.iconst 0, 1) := by decide +kernel
theorem dX6_mayComeOff_29 : decode cX6_mayComeOff 29 = .ok (.istore 4, 2) := by decide +kernel
theorem dX6_mayComeOff_31 : decode cX6_mayComeOff 31 = .ok (.iload_n 0, 1) := by decide +kernel
theorem dX6_mayComeOff_32 : decode cX6_mayComeOff 32 = .ok (.ifCond .ne 6, 3) := by decide +kernel
theorem dX6_mayComeOff_35 : decode cX6_mayComeOff 35 = .ok (.iload 4, 2) := by decide +kernel
theorem dX6_mayComeOff_37 : decode cX6_mayComeOff 37 = .ok (.ireturn, 1) := by decide +kernel
theorem dX6_mayComeOff_38 : decode cX6_mayComeOff 38 = .ok (.iload_n 0, 1) := by decide +kernel
theorem dX6_mayComeOff_39 : decode cX6_mayComeOff 39 = .ok (.iconst 1, 1) := by decide +kernel
theorem dX6_mayComeOff_40 : decode cX6_mayComeOff 40 = .ok (.if_icmp .ne 5, 3) := by decide +kernel
theorem dX6_mayComeOff_43 : decode cX6_mayComeOff 43 = .ok (.iload_n 3, 1) := by decide +kernel
theorem dX6_mayComeOff_44 : decode cX6_mayComeOff 44 = .ok (.ireturn, 1) := by decide +kernel
theorem dX6_mayComeOff_45 : decode cX6_mayComeOff 45 = .ok (.iload_n 3, 1) := by decide +kernel
theorem dX6_mayComeOff_46 : decode cX6_mayComeOff 46 = .ok (.ifCond .eq 8, 3) := by decide +kernel
theorem dX6_mayComeOff_49 : decode cX6_mayComeOff 49 = .ok (.iload 4, 2) := by decide +kernel
theorem dX6_mayComeOff_51 : decode cX6_mayComeOff 51 = .ok (.ifCond .eq 7, 3) := by decide +kernel
theorem dX6_mayComeOff_54 : decode cX6_mayComeOff 54 = .ok (.iconst 1, 1) := by decide +kernel
theorem dX6_mayComeOff_55 : decode cX6_mayComeOff 55 = .ok (.goto 4, 3) := by decide +kernel
theorem dX6_mayComeOff_58 : decode cX6_mayComeOff 58 = .ok (.iconst 0, 1) := by decide +kernel
theorem dX6_mayComeOff_59 : decode cX6_mayComeOff 59 = .ok (.ireturn, 1) := by decide +kernel
theorem dX6_amountNextDay_0 : decode cX6_amountNextDay 0 = .ok (.iload_n 0, 1) := by decide +kernel
theorem dX6_amountNextDay_1 : decode cX6_amountNextDay 1 = .ok (.iload_n 0, 1) := by decide +kernel
theorem dX6_amountNextDay_2 : decode cX6_amountNextDay 2 = .ok (.iload_n 1, 1) := by decide +kernel
theorem dX6_amountNextDay_3 : decode cX6_amountNextDay 3 = .ok (.imul, 1) := by decide +kernel
theorem dX6_amountNextDay_4 : decode cX6_amountNextDay 4 = .ok (.bipush 100, 2) := by decide +kernel
theorem dX6_amountNextDay_6 : decode cX6_amountNextDay 6 = .ok (.idiv, 1) := by decide +kernel
theorem dX6_amountNextDay_7 : decode cX6_amountNextDay 7 = .ok (.iadd, 1) := by decide +kernel
theorem dX6_amountNextDay_8 : decode cX6_amountNextDay 8 = .ok (.ldc 180, 2) := by decide +kernel
theorem dX6_amountNextDay_10 : decode cX6_amountNextDay 10 = .ok (.invokestatic 101, 3) := by decide +kernel
theorem dX6_amountNextDay_13 : decode cX6_amountNextDay 13 = .ok (.ireturn, 1) := by decide +kernel
theorem dX6_purseNextDay_0 : decode cX6_purseNextDay 0 = .ok (.iload_n 0, 1) := by decide +kernel
theorem dX6_purseNextDay_1 : decode cX6_purseNextDay 1 = .ok (.iload_n 1, 1) := by decide +kernel
theorem dX6_purseNextDay_2 : decode cX6_purseNextDay 2 = .ok (.iadd, 1) := by decide +kernel
theorem dX6_purseNextDay_3 : decode cX6_purseNextDay 3 = .ok (.ldc 180, 2) := by decide +kernel
theorem dX6_purseNextDay_5 : decode cX6_purseNextDay 5 = .ok (.invokestatic 101, 3) := by decide +kernel
theorem dX6_purseNextDay_8 : decode cX6_purseNextDay 8 = .ok (.iload_n 2, 1) := by decide +kernel
theorem dX6_purseNextDay_9 : decode cX6_purseNextDay 9 = .ok (.isub, 1) := by decide +kernel
theorem dX6_purseNextDay_10 : decode cX6_purseNextDay 10 = .ok (.iconst 0, 1) := by decide +kernel
theorem dX6_purseNextDay_11 : decode cX6_purseNextDay 11 = .ok (.invokestatic 299, 3) := by decide +kernel
theorem dX6_purseNextDay_14 : decode cX6_purseNextDay 14 = .ok (.ireturn, 1) := by decide +kernel
end
section
theorem dX7_in_0 : decode cX7_in 0 = .ok (.lload_n 0, 1) := by decide +kernel
theorem dX7_in_1 : decode cX7_in 1 = .ok (.lload_n 2, 1) := by decide +kernel
theorem dX7_in_2 : decode cX7_in 2 = .ok (.lcmp, 1) := by decide +kernel
theorem dX7_in_3 : decode cX7_in 3 = .ok (.ifCond .lt 14, 3) := by decide +kernel
theorem dX7_in_6 : decode cX7_in 6 = .ok (.lload_n 0, 1) := by decide +kernel
theorem dX7_in_7 : decode cX7_in 7 = .ok (.lload 4, 2) := by decide +kernel
theorem dX7_in_9 : decode cX7_in 9 = .ok (.lcmp, 1) := by decide +kernel
theorem dX7_in_10 : decode cX7_in 10 = .ok (.ifCond .gt 7, 3) := by decide +kernel
theorem dX7_in_13 : decode cX7_in 13 = .ok (.iconst 1, 1) := by decide +kernel
theorem dX7_in_14 : decode cX7_in 14 = .ok (.goto 4, 3) := by decide +kernel
theorem dX7_in_17 : decode cX7_in 17 = .ok (.iconst 0, 1) := by decide +kernel
theorem dX7_in_18 : decode cX7_in 18 = .ok (.ireturn, 1) := by decide +kernel
theorem dX7_init_0 : decode cX7_init 0 = .ok (.aload_n 0, 1) := by decide +kernel
theorem dX7_init_1 : decode cX7_init 1 = .ok (.invokespecial 1, 3) := by decide +kernel
theorem dX7_init_4 : decode cX7_init 4 = .ok (.aload_n 0, 1) := by decide +kernel
theorem dX7_init_5 : decode cX7_init 5 = .ok (.sipush 200, 3) := by decide +kernel
theorem dX7_init_8 : decode cX7_init 8 = .ok (.newarray .int, 2) := by decide +kernel
theorem dX7_init_10 : decode cX7_init 10 = .ok (.putfield 7, 3) := by decide +kernel
theorem dX7_init_13 : decode cX7_init 13 = .ok (.aload_n 0, 1) := by decide +kernel
theorem dX7_init_14 : decode cX7_init 14 = .ok (.sipush 200, 3) := by decide +kernel
theorem dX7_init_17 : decode cX7_init 17 = .ok (.newarray .int, 2) := by decide +kernel
theorem dX7_init_19 : decode cX7_init 19 = .ok (.putfield 13, 3) := by decide +kernel
theorem dX7_init_22 : decode cX7_init 22 = .ok (.aload_n 0, 1) := by decide +kernel
theorem dX7_init_23 : decode cX7_init 23 = .ok (.aload_n 0, 1) := by decide +kernel
theorem dX7_init_24 : decode cX7_init 24 = .ok (.getfield 7, 3) := by decide +kernel
theorem dX7_init_27 : decode cX7_init 27 = .ok (.putfield 16, 3) := by decide +kernel
theorem dX7_init_30 : decode cX7_init 30 = .ok (.aload_n 0, 1) := by decide +kernel
theorem dX7_init_31 : decode cX7_init 31 = .ok (.bipush 25, 2) := by decide +kernel
theorem dX7_init_33 : decode cX7_init 33 = .ok (.newarray .int, 2) := by decide +kernel
theorem dX7_init_35 : decode cX7_init 35 = .ok (.putfield 19, 3) := by decide +kernel
theorem dX7_init_38 : decode cX7_init 38 = .ok (.aload_n 0, 1) := by decide +kernel
theorem dX7_init_39 : decode cX7_init 39 = .ok (.bipush 12, 2) := by decide +kernel
theorem dX7_init_41 : decode cX7_init 41 = .ok (.newarray .int, 2) := by decide +kernel
theorem dX7_init_43 : decode cX7_init 43 = .ok (.putfield 22, 3) := by decide +kernel
theorem dX7_init_46 : decode cX7_init 46 = .ok (.aload_n 0, 1) := by decide +kernel
theorem dX7_init_47 : decode cX7_init 47 = .ok (.iconst 2, 1) := by decide +kernel
theorem dX7_init_48 : decode cX7_init 48 = .ok (.newarray .int, 2) := by decide +kernel
theorem dX7_init_50 : decode cX7_init 50 = .ok (.putfield 25, 3) := by decide +kernel
theorem dX7_init_53 : decode cX7_init 53 = .ok (.aload_n 0, 1) := by decide +kernel
theorem dX7_init_54 : decode cX7_init 54 = .ok (.bipush 8, 2) := by decide +kernel
theorem dX7_init_56 : decode cX7_init 56 = .ok (.newarray .int, 2) := by decide +kernel
theorem dX7_init_58 : decode cX7_init 58 = .ok (.putfield 28, 3) := by decide +kernel
theorem dX7_init_61 : decode cX7_init 61 = .ok (.aload_n 0, 1) := by decide +kernel
theorem dX7_init_62 : decode cX7_init 62 = .ok (.bipush 8, 2) := by decide +kernel
theorem dX7_init_64 : decode cX7_init 64 = .ok (.newarray .int, 2) := by decide +kernel
theorem dX7_init_66 : decode cX7_init 66 = .ok (.putfield 31, 3) := by decide +kernel
theorem dX7_init_69 : decode cX7_init 69 = .ok (.aload_n 0, 1) := by decide +kernel
theorem dX7_init_70 : decode cX7_init 70 = .ok (.bipush 80, 2) := by decide +kernel
theorem dX7_init_72 : decode cX7_init 72 = .ok (.newarray .int, 2) := by decide +kernel
theorem dX7_init_74 : decode cX7_init 74 = .ok (.putfield 34, 3) := by decide +kernel
theorem dX7_init_77 : decode cX7_init 77 = .ok (.aload_n 0, 1) := by decide +kernel
theorem dX7_init_78 : decode cX7_init 78 = .ok (.bipush 24, 2) := by decide +kernel
theorem dX7_init_80 : decode cX7_init 80 = .ok (.newarray .int, 2) := by decide +kernel
theorem dX7_init_82 : decode cX7_init 82 = .ok (.putfield 37, 3) := by decide +kernel
theorem dX7_init_85 : decode cX7_init 85 = .ok (.aload_n 0, 1) := by decide +kernel
theorem dX7_init_86 : decode cX7_init 86 = .ok (.bipush 6, 2) := by decide +kernel
theorem dX7_init_88 : decode cX7_init 88 = .ok (.newarray .int, 2) := by decide +kernel
theorem dX7_init_90 : decode cX7_init 90 = .ok (.putfield 40, 3) := by decide +kernel
theorem dX7_init_93 : decode cX7_init 93 = .ok (.aload_n 0, 1) := by decide +kernel
theorem dX7_init_94 : decode cX7_init 94 = .ok (.bipush 6, 2) := by decide +kernel
theorem dX7_init_96 : decode cX7_init 96 = .ok (.newarray .int, 2) := by decide +kernel
theorem dX7_init_98 : decode cX7_init 98 = .ok (.putfield 43, 3) := by decide +kernel
theorem dX7_init_101 : decode cX7_init 101 = .ok (.aload_n 0, 1) := by decide +kernel
theorem dX7_init_102 : decode cX7_init 102 = .ok (.bipush 40, 2) := by decide +kernel
theorem dX7_init_104 : decode cX7_init 104 = .ok (.newarray .int, 2) := by decide +kernel
theorem dX7_init_106 : decode cX7_init 106 = .ok (.putfield 46, 3) := by decide +kernel
theorem dX7_init_109 : decode cX7_init 109 = .ok (.aload_n 0, 1) := by decide +kernel
theorem dX7_init_110 : decode cX7_init 110 = .ok (.sipush 270, 3) := by decide +kernel
theorem dX7_init_113 : decode cX7_init 113 = .ok (.newarray .int, 2) := by decide +kernel
theorem dX7_init_115 : decode cX7_init 115 = .ok (.putfield 49, 3) := by decide +kernel
theorem dX7_init_118 : decode cX7_init 118 = .ok (.aload_n 0, 1) := by decide +kernel
theorem dX7_init_119 : decode cX7_init 119 = .ok (.iconst 4, 1) := by decide +kernel
theorem dX7_init_120 : decode cX7_init 120 = .ok (.newarray .int, 2) := by decide +kernel
theorem dX7_init_122 : decode cX7_init 122 = .ok (.putfield 52, 3) := by decide +kernel
theorem dX7_init_125 : decode cX7_init 125 = .ok (.aload_n 0, 1) := by decide +kernel
theorem dX7_init_126 : decode cX7_init 126 = .ok (.iconst 4, 1) := by decide +kernel
theorem dX7_init_127 : decode cX7_init 127 = .ok (.newarray .int, 2) := by decide +kernel
theorem dX7_init_129 : decode cX7_init 129 = .ok (.putfield 55, 3) := by decide +kernel
theorem dX7_init_132 : decode cX7_init 132 = .ok (.aload_n 0, 1) := by decide +kernel
theorem dX7_init_133 : decode cX7_init 133 = .ok (.bipush 96, 2) := by decide +kernel
theorem dX7_init_135 : decode cX7_init 135 = .ok (.newarray .int, 2) := by decide +kernel
theorem dX7_init_137 : decode cX7_init 137 = .ok (.putfield 58, 3) := by decide +kernel
theorem dX7_init_140 : decode cX7_init 140 = .ok (.aload_n 0, 1) := by decide +kernel
theorem dX7_init_141 : decode cX7_init 141 = .ok (.bipush 24, 2) := by decide +kernel
theorem dX7_init_143 : decode cX7_init 143 = .ok (.newarray .int, 2) := by decide +kernel
theorem dX7_init_145 : decode cX7_init 145 = .ok (.putfield 61, 3) := by decide +kernel
theorem dX7_init_148 : decode cX7_init 148 = .ok (.iconst 0, 1) := by decide +kernel
theorem dX7_init_149 : decode cX7_init 149 = .ok (.istore_n 1, 1) := by decide +kernel
theorem dX7_init_150 : decode cX7_init 150 = .ok (.iload_n 1, 1) := by decide +kernel
theorem dX7_init_151 : decode cX7_init 151 = .ok (.iconst 4, 1) := by decide +kernel
theorem dX7_init_152 : decode cX7_init 152 = .ok (.if_icmp .ge 16, 3) := by decide +kernel
theorem dX7_init_155 : decode cX7_init 155 = .ok (.aload_n 0, 1) := by decide +kernel
theorem dX7_init_156 : decode cX7_init 156 = .ok (.getfield 52, 3) := by decide +kernel
theorem dX7_init_159 : decode cX7_init 159 = .ok (.iload_n 1, 1) := by decide +kernel
theorem dX7_init_160 : decode cX7_init 160 = .ok (.iconst (-1), 1) := by decide +kernel
theorem dX7_init_161 : decode cX7_init 161 = .ok (.iastore, 1) := by decide +kernel
theorem dX7_init_162 : decode cX7_init 162 = .ok (.iinc 1 1, 3) := by decide +kernel
theorem dX7_init_165 : decode cX7_init 165 = .ok (.goto (-15), 3) := by decide +kernel
theorem dX7_init_168 : decode cX7_init 168 = .ok (.return_, 1) := by decide +kernel
theorem dX7_isOne_0 : decode cX7_isOne 0 = .ok (.iload_n 1, 1) := by decide +kernel
theorem dX7_isOne_1 : decode cX7_isOne 1 = .ok (.i2l, 1) := by decide +kernel
theorem dX7_isOne_2 : decode cX7_isOne 2 = .ok (.lconst 0, 1) := by decide +kernel
theorem dX7_isOne_3 : decode cX7_isOne 3 = .ok (.aload_n 0, 1) := by decide +kernel
theorem dX7_isOne_4 : decode cX7_isOne 4 = .ok (.getfield 64, 3) := by decide +kernel
theorem dX7_isOne_7 : decode cX7_isOne 7 = .ok (.iconst 1, 1) := by decide +kernel
theorem dX7_isOne_8 : decode cX7_isOne 8 = .ok (.isub, 1) := by decide +kernel
theorem dX7_isOne_9 : decode cX7_isOne 9 = .ok (.i2l, 1) := by decide +kernel
theorem dX7_isOne_10 : decode cX7_isOne 10 = .ok (.invokestatic 68, 3) := by decide +kernel
theorem dX7_isOne_13 : decode cX7_isOne 13 = .ok (.ireturn, 1) := by decide +kernel
theorem dX7_isLender_0 : decode cX7_isLender 0 = .ok (.iload_n 0, 1) := by decide +kernel
theorem dX7_isLender_1 : decode cX7_isLender 1 = .ok (.i2l, 1) := by decide +kernel
theorem dX7_isLender_2 : decode cX7_isLender 2 = .ok (.lconst 0, 1) := by decide +kernel
theorem dX7_isLender_3 : decode cX7_isLender 3 = .ok (.ldc2_w 72, 3) := by decide +kernel
theorem dX7_isLender_6 : decode cX7_isLender 6 = .ok (.invokestatic 68, 3) := by decide +kernel
theorem dX7_isLender_9 : decode cX7_isLender 9 = .ok (.ireturn, 1) := by decide +kernel
theorem dX7_person_0 : decode cX7_person 0 = .ok (.iload_n 1, 1) := by decide +kernel
theorem dX7_person_1 : decode cX7_person 1 = .ok (.i2l, 1) := by decide +kernel
theorem dX7_person_2 : decode cX7_person 2 = .ok (.lconst 0, 1) := by decide +kernel
theorem dX7_person_3 : decode cX7_person 3 = .ok (.ldc2_w 74, 3) := by decide +kernel
theorem dX7_person_6 : decode cX7_person 6 = .ok (.invokestatic 68, 3) := by decide +kernel
theorem dX7_person_9 : decode cX7_person 9 = .ok (.ifCond .eq 27, 3) := by decide +kernel
theorem dX7_person_12 : decode cX7_person 12 = .ok (.iload_n 2, 1) := by decide +kernel
theorem dX7_person_13 : decode cX7_person 13 = .ok (.i2l, 1) := by decide +kernel
theorem dX7_person_14 : decode cX7_person 14 = .ok (.lconst 0, 1) := by decide +kernel
theorem dX7_person_15 : decode cX7_person 15 = .ok (.ldc2_w 76, 3) := by decide +kernel
theorem dX7_person_18 : decode cX7_person 18 = .ok (.invokestatic 68, 3) := by decide +kernel
theorem dX7_person_21 : decode cX7_person 21 = .ok (.ifCond .eq 15, 3) := by decide +kernel
theorem dX7_person_24 : decode cX7_person 24 = .ok (.iload_n 3, 1) := by decide +kernel
theorem dX7_person_25 : decode cX7_person 25 = .ok (.i2l, 1) := by decide +kernel
theorem dX7_person_26 : decode cX7_person 26 = .ok (.lconst 1, 1) := by decide +kernel
theorem dX7_person_27 : decode cX7_person 27 = .ok (.ldc2_w 78, 3) := by decide +kernel
theorem dX7_person_30 : decode cX7_person 30 = .ok (.invokestatic 68, 3) := by decide +kernel
theorem dX7_person_33 : decode cX7_person 33 = .ok (.ifCond .ne 5, 3) := by decide +kernel
theorem dX7_person_36 : decode cX7_person 36 = .ok (.iconst (-1), 1) := by decide +kernel
theorem dX7_person_37 : decode cX7_person 37 = .ok (.ireturn, 1) := by decide +kernel
theorem dX7_person_38 : decode cX7_person 38 = .ok (.aload_n 0, 1) := by decide +kernel
theorem dX7_person_39 : decode cX7_person 39 = .ok (.getfield 64, 3) := by decide +kernel
theorem dX7_person_42 : decode cX7_person 42 = .ok (.iconst 5, 1) := by decide +kernel
theorem dX7_person_43 : decode cX7_person 43 = .ok (.if_icmp .ne 6, 3) := by decide +kernel
theorem dX7_person_46 : decode cX7_person 46 = .ok (.bipush (-3), 2) := by decide +kernel
theorem dX7_person_48 : decode cX7_person 48 = .ok (.ireturn, 1) := by decide +kernel
theorem dX7_person_49 : decode cX7_person 49 = .ok (.iconst 0, 1) := by decide +kernel
theorem dX7_person_50 : decode cX7_person 50 = .ok (.istore 4, 2) := by decide +kernel
theorem dX7_person_52 : decode cX7_person 52 = .ok (.iload 4, 2) := by decide +kernel
theorem dX7_person_54 : decode cX7_person 54 = .ok (.bipush 40, 2) := by decide +kernel
theorem dX7_person_56 : decode cX7_person 56 = .ok (.if_icmp .ge 25, 3) := by decide +kernel
theorem dX7_person_59 : decode cX7_person 59 = .ok (.aload_n 0, 1) := by decide +kernel
theorem dX7_person_60 : decode cX7_person 60 = .ok (.getfield 7, 3) := by decide +kernel
theorem dX7_person_63 : decode cX7_person 63 = .ok (.bipush 40, 2) := by decide +kernel
theorem dX7_person_65 : decode cX7_person 65 = .ok (.aload_n 0, 1) := by decide +kernel
theorem dX7_person_66 : decode cX7_person 66 = .ok (.getfield 64, 3) := by decide +kernel
theorem dX7_person_69 : decode cX7_person 69 = .ok (.imul, 1) := by decide +kernel
theorem dX7_person_70 : decode cX7_person 70 = .ok (.iload 4, 2) := by decide +kernel
theorem dX7_person_72 : decode cX7_person 72 = .ok (.iadd, 1) := by decide +kernel
theorem dX7_person_73 : decode cX7_person 73 = .ok (.iconst 0, 1) := by decide +kernel
theorem dX7_person_74 : decode cX7_person 74 = .ok (.iastore, 1) := by decide +kernel
theorem dX7_person_75 : decode cX7_person 75 = .ok (.iinc 4 1, 3) := by decide +kernel
theorem dX7_person_78 : decode cX7_person 78 = .ok (.goto (-26), 3) := by decide +kernel
theorem dX7_person_81 : decode cX7_person 81 = .ok (.aload_n 0, 1) := by decide +kernel
theorem dX7_person_82 : decode cX7_person 82 = .ok (.getfield 7, 3) := by decide +kernel
theorem dX7_person_85 : decode cX7_person 85 = .ok (.bipush 40, 2) := by decide +kernel
theorem dX7_person_87 : decode cX7_person 87 = .ok (.aload_n 0, 1) := by decide +kernel
theorem dX7_person_88 : decode cX7_person 88 = .ok (.getfield 64, 3) := by decide +kernel
theorem dX7_person_91 : decode cX7_person 91 = .ok (.imul, 1) := by decide +kernel
theorem dX7_person_92 : decode cX7_person 92 = .ok (.iload_n 1, 1) := by decide +kernel
theorem dX7_person_93 : decode cX7_person 93 = .ok (.iastore, 1) := by decide +kernel
theorem dX7_person_94 : decode cX7_person 94 = .ok (.aload_n 0, 1) := by decide +kernel
theorem dX7_person_95 : decode cX7_person 95 = .ok (.getfield 7, 3) := by decide +kernel
theorem dX7_person_98 : decode cX7_person 98 = .ok (.bipush 40, 2) := by decide +kernel
theorem dX7_person_100 : decode cX7_person 100 = .ok (.aload_n 0, 1) := by decide +kernel
theorem dX7_person_101 : decode cX7_person 101 = .ok (.getfield 64, 3) := by decide +kernel
theorem dX7_person_104 : decode cX7_person 104 = .ok (.imul, 1) := by decide +kernel
theorem dX7_person_105 : decode cX7_person 105 = .ok (.iconst 1, 1) := by decide +kernel
theorem dX7_person_106 : decode cX7_person 106 = .ok (.iadd, 1) := by decide +kernel
theorem dX7_person_107 : decode cX7_person 107 = .ok (.iload_n 2, 1) := by decide +kernel
theorem dX7_person_108 : decode cX7_person 108 = .ok (.iastore, 1) := by decide +kernel
theorem dX7_person_109 : decode cX7_person 109 = .ok (.aload_n 0, 1) := by decide +kernel
theorem dX7_person_110 : decode cX7_person 110 = .ok (.getfield 7, 3) := by decide +kernel
theorem dX7_person_113 : decode cX7_person 113 = .ok (.bipush 40, 2) := by decide +kernel
theorem dX7_person_115 : decode cX7_person 115 = .ok (.aload_n 0, 1) := by decide +kernel
theorem dX7_person_116 : decode cX7_person 116 = .ok (.getfield 64, 3) := by decide +kernel
theorem dX7_person_119 : decode cX7_person 119 = .ok (.imul, 1) := by decide +kernel
theorem dX7_person_120 : decode cX7_person 120 = .ok (.iconst 2, 1) := by decide +kernel
theorem dX7_person_121 : decode cX7_person 121 = .ok (.iadd, 1) := by decide +kernel
theorem dX7_person_122 : decode cX7_person 122 = .ok (.iload_n 3, 1) := by decide +kernel
theorem dX7_person_123 : decode cX7_person 123 = .ok (.iastore, 1) := by decide +kernel
theorem dX7_person_124 : decode cX7_person 124 = .ok (.aload_n 0, 1) := by decide +kernel
theorem dX7_person_125 : decode cX7_person 125 = .ok (.getfield 7, 3) := by decide +kernel
theorem dX7_person_128 : decode cX7_person 128 = .ok (.bipush 40, 2) := by decide +kernel
theorem dX7_person_130 : decode cX7_person 130 = .ok (.aload_n 0, 1) := by decide +kernel
theorem dX7_person_131 : decode cX7_person 131 = .ok (.getfield 64, 3) := by decide +kernel
theorem dX7_person_134 : decode cX7_person 134 = .ok (.imul, 1) := by decide +kernel
theorem dX7_person_135 : decode cX7_person 135 = .ok (.iconst 4, 1) := by decide +kernel
theorem dX7_person_136 : decode cX7_person 136 = .ok (.iadd, 1) := by decide +kernel
theorem dX7_person_137 : decode cX7_person 137 = .ok (.bipush (-4), 2) := by decide +kernel
theorem dX7_person_139 : decode cX7_person 139 = .ok (.iastore, 1) := by decide +kernel
theorem dX7_person_140 : decode cX7_person 140 = .ok (.iconst 0, 1) := by decide +kernel
theorem dX7_person_141 : decode cX7_person 141 = .ok (.istore 4, 2) := by decide +kernel
theorem dX7_person_143 : decode cX7_person 143 = .ok (.iload 4, 2) := by decide +kernel
theorem dX7_person_145 : decode cX7_person 145 = .ok (.iconst 5, 1) := by decide +kernel
theorem dX7_person_146 : decode cX7_person 146 = .ok (.if_icmp .ge 24, 3) := by decide +kernel
theorem dX7_person_149 : decode cX7_person 149 = .ok (.aload_n 0, 1) := by decide +kernel
theorem dX7_person_150 : decode cX7_person 150 = .ok (.getfield 19, 3) := by decide +kernel
theorem dX7_person_153 : decode cX7_person 153 = .ok (.iconst 5, 1) := by decide +kernel
theorem dX7_person_154 : decode cX7_person 154 = .ok (.aload_n 0, 1) := by decide +kernel
theorem dX7_person_155 : decode cX7_person 155 = .ok (.getfield 64, 3) := by decide +kernel
theorem dX7_person_158 : decode cX7_person 158 = .ok (.imul, 1) := by decide +kernel
theorem dX7_person_159 : decode cX7_person 159 = .ok (.iload 4, 2) := by decide +kernel
theorem dX7_person_161 : decode cX7_person 161 = .ok (.iadd, 1) := by decide +kernel
theorem dX7_person_162 : decode cX7_person 162 = .ok (.iconst 0, 1) := by decide +kernel
theorem dX7_person_163 : decode cX7_person 163 = .ok (.iastore, 1) := by decide +kernel
theorem dX7_person_164 : decode cX7_person 164 = .ok (.iinc 4 1, 3) := by decide +kernel
theorem dX7_person_167 : decode cX7_person 167 = .ok (.goto (-24), 3) := by decide +kernel
theorem dX7_person_170 : decode cX7_person 170 = .ok (.aload_n 0, 1) := by decide +kernel
theorem dX7_person_171 : decode cX7_person 171 = .ok (.dup, 1) := by decide +kernel
theorem dX7_person_172 : decode cX7_person 172 = .ok (.getfield 64, 3) := by decide +kernel
theorem dX7_person_175 : decode cX7_person 175 = .ok (.iconst 1, 1) := by decide +kernel
theorem dX7_person_176 : decode cX7_person 176 = .ok (.iadd, 1) := by decide +kernel
theorem dX7_person_177 : decode cX7_person 177 = .ok (.putfield 64, 3) := by decide +kernel
theorem dX7_person_180 : decode cX7_person 180 = .ok (.aload_n 0, 1) := by decide +kernel
theorem dX7_person_181 : decode cX7_person 181 = .ok (.getfield 64, 3) := by decide +kernel
theorem dX7_person_184 : decode cX7_person 184 = .ok (.iconst 1, 1) := by decide +kernel
theorem dX7_person_185 : decode cX7_person 185 = .ok (.isub, 1) := by decide +kernel
theorem dX7_person_186 : decode cX7_person 186 = .ok (.ireturn, 1) := by decide +kernel
theorem dX7_thickOf_0 : decode cX7_thickOf 0 = .ok (.iconst 0, 1) := by decide +kernel
theorem dX7_thickOf_1 : decode cX7_thickOf 1 = .ok (.istore_n 2, 1) := by decide +kernel
theorem dX7_thickOf_2 : decode cX7_thickOf 2 = .ok (.iconst 0, 1) := by decide +kernel
theorem dX7_thickOf_3 : decode cX7_thickOf 3 = .ok (.istore_n 3, 1) := by decide +kernel
theorem dX7_thickOf_4 : decode cX7_thickOf 4 = .ok (.iload_n 3, 1) := by decide +kernel
theorem dX7_thickOf_5 : decode cX7_thickOf 5 = .ok (.aload_n 0, 1) := by decide +kernel
theorem dX7_thickOf_6 : decode cX7_thickOf 6 = .ok (.getfield 16, 3) := by decide +kernel
theorem dX7_thickOf_9 : decode cX7_thickOf 9 = .ok (.bipush 40, 2) := by decide +kernel
theorem dX7_thickOf_11 : decode cX7_thickOf 11 = .ok (.iload_n 1, 1) := by decide +kernel
theorem dX7_thickOf_12 : decode cX7_thickOf 12 = .ok (.imul, 1) := by decide +kernel
theorem dX7_thickOf_13 : decode cX7_thickOf 13 = .ok (.iconst 3, 1) := by decide +kernel
theorem dX7_thickOf_14 : decode cX7_thickOf 14 = .ok (.iadd, 1) := by decide +kernel
theorem dX7_thickOf_15 : decode cX7_thickOf 15 = .ok (.iaload, 1) := by decide +kernel
theorem dX7_thickOf_16 : decode cX7_thickOf 16 = .ok (.if_icmp .ge 30, 3) := by decide +kernel
theorem dX7_thickOf_19 : decode cX7_thickOf 19 = .ok (.iload_n 2, 1) := by decide +kernel
theorem dX7_thickOf_20 : decode cX7_thickOf 20 = .ok (.aload_n 0, 1) := by decide +kernel
theorem dX7_thickOf_21 : decode cX7_thickOf 21 = .ok (.getfield 16, 3) := by decide +kernel
theorem dX7_thickOf_24 : decode cX7_thickOf 24 = .ok (.bipush 40, 2) := by decide +kernel
theorem dX7_thickOf_26 : decode cX7_thickOf 26 = .ok (.iload_n 1, 1) := by decide +kernel
theorem dX7_thickOf_27 : decode cX7_thickOf 27 = .ok (.imul, 1) := by decide +kernel
theorem dX7_thickOf_28 : decode cX7_thickOf 28 = .ok (.bipush 8, 2) := by decide +kernel
theorem dX7_thickOf_30 : decode cX7_thickOf 30 = .ok (.iadd, 1) := by decide +kernel
theorem dX7_thickOf_31 : decode cX7_thickOf 31 = .ok (.iconst 4, 1) := by decide +kernel
theorem dX7_thickOf_32 : decode cX7_thickOf 32 = .ok (.iload_n 3, 1) := by decide +kernel
theorem dX7_thickOf_33 : decode cX7_thickOf 33 = .ok (.imul, 1) := by decide +kernel
theorem dX7_thickOf_34 : decode cX7_thickOf 34 = .ok (.iadd, 1) := by decide +kernel
theorem dX7_thickOf_35 : decode cX7_thickOf 35 = .ok (.iconst 3, 1) := by decide +kernel
theorem dX7_thickOf_36 : decode cX7_thickOf 36 = .ok (.iadd, 1) := by decide +kernel
theorem dX7_thickOf_37 : decode cX7_thickOf 37 = .ok (.iaload, 1) := by decide +kernel
theorem dX7_thickOf_38 : decode cX7_thickOf 38 = .ok (.iadd, 1) := by decide +kernel
theorem dX7_thickOf_39 : decode cX7_thickOf 39 = .ok (.istore_n 2, 1) := by decide +kernel
theorem dX7_thickOf_40 : decode cX7_thickOf 40 = .ok (.iinc 3 1, 3) := by decide +kernel
theorem dX7_thickOf_43 : decode cX7_thickOf 43 = .ok (.goto (-39), 3) := by decide +kernel
theorem dX7_thickOf_46 : decode cX7_thickOf 46 = .ok (.iload_n 2, 1) := by decide +kernel
theorem dX7_thickOf_47 : decode cX7_thickOf 47 = .ok (.ireturn, 1) := by decide +kernel
theorem dX7_of_0 : decode cX7_of 0 = .ok (.aload_n 0, 1) := by decide +kernel
theorem dX7_of_1 : decode cX7_of 1 = .ok (.aload_n 0, 1) := by decide +kernel
theorem dX7_of_2 : decode cX7_of 2 = .ok (.getfield 7, 3) := by decide +kernel
theorem dX7_of_5 : decode cX7_of 5 = .ok (.putfield 16, 3) := by decide +kernel
theorem dX7_of_8 : decode cX7_of 8 = .ok (.aload_n 0, 1) := by decide +kernel
theorem dX7_of_9 : decode cX7_of 9 = .ok (.iload_n 1, 1) := by decide +kernel
theorem dX7_of_10 : decode cX7_of 10 = .ok (.invokevirtual 80, 3) := by decide +kernel
theorem dX7_of_13 : decode cX7_of 13 = .ok (.ifCond .eq 15, 3) := by decide +kernel
theorem dX7_of_16 : decode cX7_of 16 = .ok (.iload_n 2, 1) := by decide +kernel
theorem dX7_of_17 : decode cX7_of 17 = .ok (.i2l, 1) := by decide +kernel
theorem dX7_of_18 : decode cX7_of 18 = .ok (.lconst 0, 1) := by decide +kernel
theorem dX7_of_19 : decode cX7_of 19 = .ok (.ldc2_w 84, 3) := by decide +kernel
theorem dX7_of_22 : decode cX7_of 22 = .ok (.invokestatic 68, 3) := by decide +kernel
theorem dX7_of_25 : decode cX7_of 25 = .ok (.ifCond .ne 5, 3) := by decide +kernel
theorem dX7_of_28 : decode cX7_of 28 = .ok (.iconst (-1), 1) := by decide +kernel
theorem dX7_of_29 : decode cX7_of 29 = .ok (.ireturn, 1) := by decide +kernel
theorem dX7_of_30 : decode cX7_of 30 = .ok (.iconst 0, 1) := by decide +kernel
theorem dX7_of_31 : decode cX7_of 31 = .ok (.istore_n 3, 1) := by decide +kernel
theorem dX7_of_32 : decode cX7_of 32 = .ok (.iconst 0, 1) := by decide +kernel
theorem dX7_of_33 : decode cX7_of 33 = .ok (.istore 4, 2) := by decide +kernel
theorem dX7_of_35 : decode cX7_of 35 = .ok (.iload 4, 2) := by decide +kernel
theorem dX7_of_37 : decode cX7_of 37 = .ok (.aload_n 0, 1) := by decide +kernel
theorem dX7_of_38 : decode cX7_of 38 = .ok (.getfield 7, 3) := by decide +kernel
theorem dX7_of_41 : decode cX7_of 41 = .ok (.bipush 40, 2) := by decide +kernel
theorem dX7_of_43 : decode cX7_of 43 = .ok (.iload_n 1, 1) := by decide +kernel
theorem dX7_of_44 : decode cX7_of 44 = .ok (.imul, 1) := by decide +kernel
theorem dX7_of_45 : decode cX7_of 45 = .ok (.iconst 3, 1) := by decide +kernel
theorem dX7_of_46 : decode cX7_of 46 = .ok (.iadd, 1) := by decide +kernel
theorem dX7_of_47 : decode cX7_of 47 = .ok (.iaload, 1) := by decide +kernel
theorem dX7_of_48 : decode cX7_of 48 = .ok (.if_icmp .ge 31, 3) := by decide +kernel
theorem dX7_of_51 : decode cX7_of 51 = .ok (.iload_n 3, 1) := by decide +kernel
theorem dX7_of_52 : decode cX7_of 52 = .ok (.aload_n 0, 1) := by decide +kernel
theorem dX7_of_53 : decode cX7_of 53 = .ok (.getfield 7, 3) := by decide +kernel
theorem dX7_of_56 : decode cX7_of 56 = .ok (.bipush 40, 2) := by decide +kernel
theorem dX7_of_58 : decode cX7_of 58 = .ok (.iload_n 1, 1) := by decide +kernel
theorem dX7_of_59 : decode cX7_of 59 = .ok (.imul, 1) := by decide +kernel
theorem dX7_of_60 : decode cX7_of 60 = .ok (.bipush 8, 2) := by decide +kernel
theorem dX7_of_62 : decode cX7_of 62 = .ok (.iadd, 1) := by decide +kernel
theorem dX7_of_63 : decode cX7_of 63 = .ok (.iconst 4, 1) := by decide +kernel
theorem dX7_of_64 : decode cX7_of 64 = .ok (.iload 4, 2) := by decide +kernel
theorem dX7_of_66 : decode cX7_of 66 = .ok (.imul, 1) := by decide +kernel
theorem dX7_of_67 : decode cX7_of 67 = .ok (.iadd, 1) := by decide +kernel
theorem dX7_of_68 : decode cX7_of 68 = .ok (.iconst 1, 1) := by decide +kernel
theorem dX7_of_69 : decode cX7_of 69 = .ok (.iadd, 1) := by decide +kernel
theorem dX7_of_70 : decode cX7_of 70 = .ok (.iaload, 1) := by decide +kernel
theorem dX7_of_71 : decode cX7_of 71 = .ok (.iadd, 1) := by decide +kernel
theorem dX7_of_72 : decode cX7_of 72 = .ok (.istore_n 3, 1) := by decide +kernel
theorem dX7_of_73 : decode cX7_of 73 = .ok (.iinc 4 1, 3) := by decide +kernel
theorem dX7_of_76 : decode cX7_of 76 = .ok (.goto (-41), 3) := by decide +kernel
theorem dX7_of_79 : decode cX7_of 79 = .ok (.iload_n 2, 1) := by decide +kernel
theorem dX7_of_80 : decode cX7_of 80 = .ok (.iconst 4, 1) := by decide +kernel
theorem dX7_of_81 : decode cX7_of 81 = .ok (.if_icmp .ge 17, 3) := by decide +kernel
theorem dX7_of_84 : decode cX7_of 84 = .ok (.aload_n 0, 1) := by decide +kernel
theorem dX7_of_85 : decode cX7_of 85 = .ok (.getfield 7, 3) := by decide +kernel
theorem dX7_of_88 : decode cX7_of 88 = .ok (.bipush 40, 2) := by decide +kernel
theorem dX7_of_90 : decode cX7_of 90 = .ok (.iload_n 1, 1) := by decide +kernel
theorem dX7_of_91 : decode cX7_of 91 = .ok (.imul, 1) := by decide +kernel
theorem dX7_of_92 : decode cX7_of 92 = .ok (.iload_n 2, 1) := by decide +kernel
theorem dX7_of_93 : decode cX7_of 93 = .ok (.iadd, 1) := by decide +kernel
theorem dX7_of_94 : decode cX7_of 94 = .ok (.iaload, 1) := by decide +kernel
theorem dX7_of_95 : decode cX7_of 95 = .ok (.goto 47, 3) := by decide +kernel
theorem dX7_of_98 : decode cX7_of 98 = .ok (.iload_n 2, 1) := by decide +kernel
theorem dX7_of_99 : decode cX7_of 99 = .ok (.iconst 4, 1) := by decide +kernel
theorem dX7_of_100 : decode cX7_of 100 = .ok (.if_icmp .ne 11, 3) := by decide +kernel
theorem dX7_of_103 : decode cX7_of 103 = .ok (.aload_n 0, 1) := by decide +kernel
theorem dX7_of_104 : decode cX7_of 104 = .ok (.iload_n 1, 1) := by decide +kernel
theorem dX7_of_105 : decode cX7_of 105 = .ok (.invokevirtual 86, 3) := by decide +kernel
theorem dX7_of_108 : decode cX7_of 108 = .ok (.goto 34, 3) := by decide +kernel
theorem dX7_of_111 : decode cX7_of 111 = .ok (.iload_n 2, 1) := by decide +kernel
theorem dX7_of_112 : decode cX7_of 112 = .ok (.iconst 5, 1) := by decide +kernel
theorem dX7_of_113 : decode cX7_of 113 = .ok (.if_icmp .ne 18, 3) := by decide +kernel
theorem dX7_of_116 : decode cX7_of 116 = .ok (.iload_n 3, 1) := by decide +kernel
theorem dX7_of_117 : decode cX7_of 117 = .ok (.ldc 90, 2) := by decide +kernel
theorem dX7_of_119 : decode cX7_of 119 = .ok (.if_icmp .le 8, 3) := by decide +kernel
theorem dX7_of_122 : decode cX7_of 122 = .ok (.ldc 90, 2) := by decide +kernel
theorem dX7_of_124 : decode cX7_of 124 = .ok (.goto 18, 3) := by decide +kernel
theorem dX7_of_127 : decode cX7_of 127 = .ok (.iload_n 3, 1) := by decide +kernel
theorem dX7_of_128 : decode cX7_of 128 = .ok (.goto 14, 3) := by decide +kernel
theorem dX7_of_131 : decode cX7_of 131 = .ok (.aload_n 0, 1) := by decide +kernel
theorem dX7_of_132 : decode cX7_of 132 = .ok (.getfield 7, 3) := by decide +kernel
theorem dX7_of_135 : decode cX7_of 135 = .ok (.bipush 40, 2) := by decide +kernel
theorem dX7_of_137 : decode cX7_of 137 = .ok (.iload_n 1, 1) := by decide +kernel
theorem dX7_of_138 : decode cX7_of 138 = .ok (.imul, 1) := by decide +kernel
theorem dX7_of_139 : decode cX7_of 139 = .ok (.iconst 4, 1) := by decide +kernel
theorem dX7_of_140 : decode cX7_of 140 = .ok (.iadd, 1) := by decide +kernel
theorem dX7_of_141 : decode cX7_of 141 = .ok (.iaload, 1) := by decide +kernel
theorem dX7_of_142 : decode cX7_of 142 = .ok (.ireturn, 1) := by decide +kernel
theorem dX7_isCoat_0 : decode cX7_isCoat 0 = .ok (.aload_n 0, 1) := by decide +kernel
theorem dX7_isCoat_1 : decode cX7_isCoat 1 = .ok (.iload_n 1, 1) := by decide +kernel
theorem dX7_isCoat_2 : decode cX7_isCoat 2 = .ok (.invokevirtual 80, 3) := by decide +kernel
theorem dX7_isCoat_5 : decode cX7_isCoat 5 = .ok (.ifCond .eq 30, 3) := by decide +kernel
theorem dX7_isCoat_8 : decode cX7_isCoat 8 = .ok (.iload_n 2, 1) := by decide +kernel
theorem dX7_isCoat_9 : decode cX7_isCoat 9 = .ok (.i2l, 1) := by decide +kernel
theorem dX7_isCoat_10 : decode cX7_isCoat 10 = .ok (.lconst 0, 1) := by decide +kernel
theorem dX7_isCoat_11 : decode cX7_isCoat 11 = .ok (.aload_n 0, 1) := by decide +kernel
theorem dX7_isCoat_12 : decode cX7_isCoat 12 = .ok (.getfield 7, 3) := by decide +kernel
theorem dX7_isCoat_15 : decode cX7_isCoat 15 = .ok (.bipush 40, 2) := by decide +kernel
theorem dX7_isCoat_17 : decode cX7_isCoat 17 = .ok (.iload_n 1, 1) := by decide +kernel
theorem dX7_isCoat_18 : decode cX7_isCoat 18 = .ok (.imul, 1) := by decide +kernel
theorem dX7_isCoat_19 : decode cX7_isCoat 19 = .ok (.iconst 3, 1) := by decide +kernel
theorem dX7_isCoat_20 : decode cX7_isCoat 20 = .ok (.iadd, 1) := by decide +kernel
theorem dX7_isCoat_21 : decode cX7_isCoat 21 = .ok (.iaload, 1) := by decide +kernel
theorem dX7_isCoat_22 : decode cX7_isCoat 22 = .ok (.iconst 1, 1) := by decide +kernel
theorem dX7_isCoat_23 : decode cX7_isCoat 23 = .ok (.isub, 1) := by decide +kernel
theorem dX7_isCoat_24 : decode cX7_isCoat 24 = .ok (.i2l, 1) := by decide +kernel
theorem dX7_isCoat_25 : decode cX7_isCoat 25 = .ok (.invokestatic 68, 3) := by decide +kernel
theorem dX7_isCoat_28 : decode cX7_isCoat 28 = .ok (.ifCond .eq 7, 3) := by decide +kernel
theorem dX7_isCoat_31 : decode cX7_isCoat 31 = .ok (.iconst 1, 1) := by decide +kernel
theorem dX7_isCoat_32 : decode cX7_isCoat 32 = .ok (.goto 4, 3) := by decide +kernel
theorem dX7_isCoat_35 : decode cX7_isCoat 35 = .ok (.iconst 0, 1) := by decide +kernel
theorem dX7_isCoat_36 : decode cX7_isCoat 36 = .ok (.ireturn, 1) := by decide +kernel
theorem dX7_coat_0 : decode cX7_coat 0 = .ok (.aload_n 0, 1) := by decide +kernel
theorem dX7_coat_1 : decode cX7_coat 1 = .ok (.iload_n 1, 1) := by decide +kernel
theorem dX7_coat_2 : decode cX7_coat 2 = .ok (.iload_n 2, 1) := by decide +kernel
theorem dX7_coat_3 : decode cX7_coat 3 = .ok (.invokevirtual 91, 3) := by decide +kernel
theorem dX7_coat_6 : decode cX7_coat 6 = .ok (.ifCond .eq 36, 3) := by decide +kernel
theorem dX7_coat_9 : decode cX7_coat 9 = .ok (.iload_n 3, 1) := by decide +kernel
theorem dX7_coat_10 : decode cX7_coat 10 = .ok (.i2l, 1) := by decide +kernel
theorem dX7_coat_11 : decode cX7_coat 11 = .ok (.lconst 0, 1) := by decide +kernel
theorem dX7_coat_12 : decode cX7_coat 12 = .ok (.ldc2_w 95, 3) := by decide +kernel
theorem dX7_coat_15 : decode cX7_coat 15 = .ok (.invokestatic 68, 3) := by decide +kernel
theorem dX7_coat_18 : decode cX7_coat 18 = .ok (.ifCond .eq 24, 3) := by decide +kernel
theorem dX7_coat_21 : decode cX7_coat 21 = .ok (.aload_n 0, 1) := by decide +kernel
theorem dX7_coat_22 : decode cX7_coat 22 = .ok (.getfield 7, 3) := by decide +kernel
theorem dX7_coat_25 : decode cX7_coat 25 = .ok (.bipush 40, 2) := by decide +kernel
theorem dX7_coat_27 : decode cX7_coat 27 = .ok (.iload_n 1, 1) := by decide +kernel
theorem dX7_coat_28 : decode cX7_coat 28 = .ok (.imul, 1) := by decide +kernel
theorem dX7_coat_29 : decode cX7_coat 29 = .ok (.bipush 8, 2) := by decide +kernel
theorem dX7_coat_31 : decode cX7_coat 31 = .ok (.iadd, 1) := by decide +kernel
theorem dX7_coat_32 : decode cX7_coat 32 = .ok (.iconst 4, 1) := by decide +kernel
theorem dX7_coat_33 : decode cX7_coat 33 = .ok (.iload_n 2, 1) := by decide +kernel
theorem dX7_coat_34 : decode cX7_coat 34 = .ok (.imul, 1) := by decide +kernel
theorem dX7_coat_35 : decode cX7_coat 35 = .ok (.iadd, 1) := by decide +kernel
theorem dX7_coat_36 : decode cX7_coat 36 = .ok (.iload_n 3, 1) := by decide +kernel
theorem dX7_coat_37 : decode cX7_coat 37 = .ok (.iadd, 1) := by decide +kernel
theorem dX7_coat_38 : decode cX7_coat 38 = .ok (.iaload, 1) := by decide +kernel
theorem dX7_coat_39 : decode cX7_coat 39 = .ok (.goto 4, 3) := by decide +kernel
theorem dX7_coat_42 : decode cX7_coat 42 = .ok (.iconst (-1), 1) := by decide +kernel
theorem dX7_coat_43 : decode cX7_coat 43 = .ok (.ireturn, 1) := by decide +kernel
theorem dX7_tax_0 : decode cX7_tax 0 = .ok (.aload_n 0, 1) := by decide +kernel
theorem dX7_tax_1 : decode cX7_tax 1 = .ok (.iload_n 1, 1) := by decide +kernel
theorem dX7_tax_2 : decode cX7_tax 2 = .ok (.invokevirtual 80, 3) := by decide +kernel
theorem dX7_tax_5 : decode cX7_tax 5 = .ok (.ifCond .eq 22, 3) := by decide +kernel
theorem dX7_tax_8 : decode cX7_tax 8 = .ok (.iload_n 2, 1) := by decide +kernel
theorem dX7_tax_9 : decode cX7_tax 9 = .ok (.invokestatic 97, 3) := by decide +kernel
theorem dX7_tax_12 : decode cX7_tax 12 = .ok (.ifCond .eq 15, 3) := by decide +kernel
theorem dX7_tax_15 : decode cX7_tax 15 = .ok (.iload_n 3, 1) := by decide +kernel
theorem dX7_tax_16 : decode cX7_tax 16 = .ok (.i2l, 1) := by decide +kernel
theorem dX7_tax_17 : decode cX7_tax 17 = .ok (.lconst 0, 1) := by decide +kernel
theorem dX7_tax_18 : decode cX7_tax 18 = .ok (.ldc2_w 100, 3) := by decide +kernel
theorem dX7_tax_21 : decode cX7_tax 21 = .ok (.invokestatic 68, 3) := by decide +kernel
theorem dX7_tax_24 : decode cX7_tax 24 = .ok (.ifCond .ne 5, 3) := by decide +kernel
theorem dX7_tax_27 : decode cX7_tax 27 = .ok (.iconst (-1), 1) := by decide +kernel
theorem dX7_tax_28 : decode cX7_tax 28 = .ok (.ireturn, 1) := by decide +kernel
theorem dX7_tax_29 : decode cX7_tax 29 = .ok (.aload_n 0, 1) := by decide +kernel
theorem dX7_tax_30 : decode cX7_tax 30 = .ok (.getfield 19, 3) := by decide +kernel
theorem dX7_tax_33 : decode cX7_tax 33 = .ok (.iconst 5, 1) := by decide +kernel
theorem dX7_tax_34 : decode cX7_tax 34 = .ok (.iload_n 1, 1) := by decide +kernel
theorem dX7_tax_35 : decode cX7_tax 35 = .ok (.imul, 1) := by decide +kernel
theorem dX7_tax_36 : decode cX7_tax 36 = .ok (.iload_n 2, 1) := by decide +kernel
theorem dX7_tax_37 : decode cX7_tax 37 = .ok (.iadd, 1) := by decide +kernel
theorem dX7_tax_38 : decode cX7_tax 38 = .ok (.iaload, 1) := by decide +kernel
theorem dX7_tax_39 : decode cX7_tax 39 = .ok (.istore 4, 2) := by decide +kernel
theorem dX7_tax_41 : decode cX7_tax 41 = .ok (.aload_n 0, 1) := by decide +kernel
theorem dX7_tax_42 : decode cX7_tax 42 = .ok (.getfield 19, 3) := by decide +kernel
theorem dX7_tax_45 : decode cX7_tax 45 = .ok (.iconst 5, 1) := by decide +kernel
theorem dX7_tax_46 : decode cX7_tax 46 = .ok (.iload_n 1, 1) := by decide +kernel
theorem dX7_tax_47 : decode cX7_tax 47 = .ok (.imul, 1) := by decide +kernel
theorem dX7_tax_48 : decode cX7_tax 48 = .ok (.iload_n 2, 1) := by decide +kernel
theorem dX7_tax_49 : decode cX7_tax 49 = .ok (.iadd, 1) := by decide +kernel
theorem dX7_tax_50 : decode cX7_tax 50 = .ok (.iload_n 3, 1) := by decide +kernel
theorem dX7_tax_51 : decode cX7_tax 51 = .ok (.iastore, 1) := by decide +kernel
theorem dX7_tax_52 : decode cX7_tax 52 = .ok (.iload 4, 2) := by decide +kernel
theorem dX7_tax_54 : decode cX7_tax 54 = .ok (.ireturn, 1) := by decide +kernel
theorem dX7_heat_0 : decode cX7_heat 0 = .ok (.iload_n 1, 1) := by decide +kernel
theorem dX7_heat_1 : decode cX7_heat 1 = .ok (.i2l, 1) := by decide +kernel
theorem dX7_heat_2 : decode cX7_heat 2 = .ok (.lconst 0, 1) := by decide +kernel
theorem dX7_heat_3 : decode cX7_heat 3 = .ok (.ldc2_w 102, 3) := by decide +kernel
theorem dX7_heat_6 : decode cX7_heat 6 = .ok (.invokestatic 68, 3) := by decide +kernel
theorem dX7_heat_9 : decode cX7_heat 9 = .ok (.ifCond .eq 15, 3) := by decide +kernel
theorem dX7_heat_12 : decode cX7_heat 12 = .ok (.iload_n 2, 1) := by decide +kernel
theorem dX7_heat_13 : decode cX7_heat 13 = .ok (.i2l, 1) := by decide +kernel
theorem dX7_heat_14 : decode cX7_heat 14 = .ok (.lconst 0, 1) := by decide +kernel
theorem dX7_heat_15 : decode cX7_heat 15 = .ok (.ldc2_w 104, 3) := by decide +kernel
theorem dX7_heat_18 : decode cX7_heat 18 = .ok (.invokestatic 68, 3) := by decide +kernel
theorem dX7_heat_21 : decode cX7_heat 21 = .ok (.ifCond .ne 5, 3) := by decide +kernel
theorem dX7_heat_24 : decode cX7_heat 24 = .ok (.iconst (-1), 1) := by decide +kernel
theorem dX7_heat_25 : decode cX7_heat 25 = .ok (.ireturn, 1) := by decide +kernel
theorem dX7_heat_26 : decode cX7_heat 26 = .ok (.aload_n 0, 1) := by decide +kernel
theorem dX7_heat_27 : decode cX7_heat 27 = .ok (.getfield 22, 3) := by decide +kernel
theorem dX7_heat_30 : decode cX7_heat 30 = .ok (.iload_n 1, 1) := by decide +kernel
theorem dX7_heat_31 : decode cX7_heat 31 = .ok (.iaload, 1) := by decide +kernel
theorem dX7_heat_32 : decode cX7_heat 32 = .ok (.istore_n 3, 1) := by decide +kernel
theorem dX7_heat_33 : decode cX7_heat 33 = .ok (.aload_n 0, 1) := by decide +kernel
theorem dX7_heat_34 : decode cX7_heat 34 = .ok (.getfield 22, 3) := by decide +kernel
theorem dX7_heat_37 : decode cX7_heat 37 = .ok (.iload_n 1, 1) := by decide +kernel
theorem dX7_heat_38 : decode cX7_heat 38 = .ok (.iload_n 2, 1) := by decide +kernel
theorem dX7_heat_39 : decode cX7_heat 39 = .ok (.iastore, 1) := by decide +kernel
theorem dX7_heat_40 : decode cX7_heat 40 = .ok (.iload_n 3, 1) := by decide +kernel
theorem dX7_heat_41 : decode cX7_heat 41 = .ok (.ireturn, 1) := by decide +kernel
theorem dX7_rule_0 : decode cX7_rule 0 = .ok (.iload_n 1, 1) := by decide +kernel
theorem dX7_rule_1 : decode cX7_rule 1 = .ok (.i2l, 1) := by decide +kernel
theorem dX7_rule_2 : decode cX7_rule 2 = .ok (.lconst 0, 1) := by decide +kernel
theorem dX7_rule_3 : decode cX7_rule 3 = .ok (.lconst 1, 1) := by decide +kernel
theorem dX7_rule_4 : decode cX7_rule 4 = .ok (.invokestatic 68, 3) := by decide +kernel
theorem dX7_rule_7 : decode cX7_rule 7 = .ok (.ifCond .eq 25, 3) := by decide +kernel
theorem dX7_rule_10 : decode cX7_rule 10 = .ok (.iload_n 2, 1) := by decide +kernel
theorem dX7_rule_11 : decode cX7_rule 11 = .ok (.i2l, 1) := by decide +kernel
theorem dX7_rule_12 : decode cX7_rule 12 = .ok (.lconst 0, 1) := by decide +kernel
theorem dX7_rule_13 : decode cX7_rule 13 = .ok (.iload_n 1, 1) := by decide +kernel
theorem dX7_rule_14 : decode cX7_rule 14 = .ok (.ifCond .ne 9, 3) := by decide +kernel
theorem dX7_rule_17 : decode cX7_rule 17 = .ok (.ldc2_w 106, 3) := by decide +kernel
theorem dX7_rule_20 : decode cX7_rule 20 = .ok (.goto 6, 3) := by decide +kernel
theorem dX7_rule_23 : decode cX7_rule 23 = .ok (.ldc2_w 100, 3) := by decide +kernel
theorem dX7_rule_26 : decode cX7_rule 26 = .ok (.invokestatic 68, 3) := by decide +kernel
theorem dX7_rule_29 : decode cX7_rule 29 = .ok (.ifCond .ne 5, 3) := by decide +kernel
theorem dX7_rule_32 : decode cX7_rule 32 = .ok (.iconst (-1), 1) := by decide +kernel
theorem dX7_rule_33 : decode cX7_rule 33 = .ok (.ireturn, 1) := by decide +kernel
theorem dX7_rule_34 : decode cX7_rule 34 = .ok (.aload_n 0, 1) := by decide +kernel
theorem dX7_rule_35 : decode cX7_rule 35 = .ok (.getfield 25, 3) := by decide +kernel
theorem dX7_rule_38 : decode cX7_rule 38 = .ok (.iload_n 1, 1) := by decide +kernel
theorem dX7_rule_39 : decode cX7_rule 39 = .ok (.iaload, 1) := by decide +kernel
theorem dX7_rule_40 : decode cX7_rule 40 = .ok (.istore_n 3, 1) := by decide +kernel
theorem dX7_rule_41 : decode cX7_rule 41 = .ok (.aload_n 0, 1) := by decide +kernel
theorem dX7_rule_42 : decode cX7_rule 42 = .ok (.getfield 25, 3) := by decide +kernel
theorem dX7_rule_45 : decode cX7_rule 45 = .ok (.iload_n 1, 1) := by decide +kernel
theorem dX7_rule_46 : decode cX7_rule 46 = .ok (.iload_n 2, 1) := by decide +kernel
theorem dX7_rule_47 : decode cX7_rule 47 = .ok (.iastore, 1) := by decide +kernel
theorem dX7_rule_48 : decode cX7_rule 48 = .ok (.iload_n 3, 1) := by decide +kernel
theorem dX7_rule_49 : decode cX7_rule 49 = .ok (.ireturn, 1) := by decide +kernel
theorem dX7_type_0 : decode cX7_type 0 = .ok (.iload_n 3, 1) := by decide +kernel
theorem dX7_type_1 : decode cX7_type 1 = .ok (.i2l, 1) := by decide +kernel
theorem dX7_type_2 : decode cX7_type 2 = .ok (.lconst 1, 1) := by decide +kernel
theorem dX7_type_3 : decode cX7_type 3 = .ok (.ldc2_w 108, 3) := by decide +kernel
theorem dX7_type_6 : decode cX7_type 6 = .ok (.invokestatic 68, 3) := by decide +kernel
theorem dX7_type_9 : decode cX7_type 9 = .ok (.ifCond .ne 5, 3) := by decide +kernel
theorem dX7_type_12 : decode cX7_type 12 = .ok (.iconst (-1), 1) := by decide +kernel
theorem dX7_type_13 : decode cX7_type 13 = .ok (.ireturn, 1) := by decide +kernel
theorem dX7_type_14 : decode cX7_type 14 = .ok (.iconst 0, 1) := by decide +kernel
theorem dX7_type_15 : decode cX7_type 15 = .ok (.istore 4, 2) := by decide +kernel
theorem dX7_type_17 : decode cX7_type 17 = .ok (.iload 4, 2) := by decide +kernel
theorem dX7_type_19 : decode cX7_type 19 = .ok (.iload_n 3, 1) := by decide +kernel
theorem dX7_type_20 : decode cX7_type 20 = .ok (.if_icmp .ge 34, 3) := by decide +kernel
theorem dX7_type_23 : decode cX7_type 23 = .ok (.lload_n 1, 1) := by decide +kernel
theorem dX7_type_24 : decode cX7_type 24 = .ok (.bipush 8, 2) := by decide +kernel
theorem dX7_type_26 : decode cX7_type 26 = .ok (.iload 4, 2) := by decide +kernel
theorem dX7_type_28 : decode cX7_type 28 = .ok (.imul, 1) := by decide +kernel
theorem dX7_type_29 : decode cX7_type 29 = .ok (.lshr, 1) := by decide +kernel
theorem dX7_type_30 : decode cX7_type 30 = .ok (.ldc2_w 110, 3) := by decide +kernel
theorem dX7_type_33 : decode cX7_type 33 = .ok (.land, 1) := by decide +kernel
theorem dX7_type_34 : decode cX7_type 34 = .ok (.ldc2_w 112, 3) := by decide +kernel
theorem dX7_type_37 : decode cX7_type 37 = .ok (.ldc2_w 114, 3) := by decide +kernel
theorem dX7_type_40 : decode cX7_type 40 = .ok (.invokestatic 68, 3) := by decide +kernel
theorem dX7_type_43 : decode cX7_type 43 = .ok (.ifCond .ne 5, 3) := by decide +kernel
theorem dX7_type_46 : decode cX7_type 46 = .ok (.iconst (-1), 1) := by decide +kernel
theorem dX7_type_47 : decode cX7_type 47 = .ok (.ireturn, 1) := by decide +kernel
theorem dX7_type_48 : decode cX7_type 48 = .ok (.iinc 4 1, 3) := by decide +kernel
theorem dX7_type_51 : decode cX7_type 51 = .ok (.goto (-34), 3) := by decide +kernel
theorem dX7_type_54 : decode cX7_type 54 = .ok (.aload_n 0, 1) := by decide +kernel
theorem dX7_type_55 : decode cX7_type 55 = .ok (.getfield 116, 3) := by decide +kernel
theorem dX7_type_58 : decode cX7_type 58 = .ok (.iload_n 3, 1) := by decide +kernel
theorem dX7_type_59 : decode cX7_type 59 = .ok (.iadd, 1) := by decide +kernel
theorem dX7_type_60 : decode cX7_type 60 = .ok (.bipush 80, 2) := by decide +kernel
theorem dX7_type_62 : decode cX7_type 62 = .ok (.if_icmp .le 6, 3) := by decide +kernel
theorem dX7_type_65 : decode cX7_type 65 = .ok (.bipush (-3), 2) := by decide +kernel
theorem dX7_type_67 : decode cX7_type 67 = .ok (.ireturn, 1) := by decide +kernel
theorem dX7_type_68 : decode cX7_type 68 = .ok (.iload_n 3, 1) := by decide +kernel
theorem dX7_type_69 : decode cX7_type 69 = .ok (.iconst 1, 1) := by decide +kernel
theorem dX7_type_70 : decode cX7_type 70 = .ok (.isub, 1) := by decide +kernel
theorem dX7_type_71 : decode cX7_type 71 = .ok (.istore 4, 2) := by decide +kernel
theorem dX7_type_73 : decode cX7_type 73 = .ok (.iload 4, 2) := by decide +kernel
theorem dX7_type_75 : decode cX7_type 75 = .ok (.ifCond .lt 40, 3) := by decide +kernel
theorem dX7_type_78 : decode cX7_type 78 = .ok (.aload_n 0, 1) := by decide +kernel
theorem dX7_type_79 : decode cX7_type 79 = .ok (.getfield 34, 3) := by decide +kernel
theorem dX7_type_82 : decode cX7_type 82 = .ok (.aload_n 0, 1) := by decide +kernel
theorem dX7_type_83 : decode cX7_type 83 = .ok (.getfield 116, 3) := by decide +kernel
theorem dX7_type_86 : decode cX7_type 86 = .ok (.lload_n 1, 1) := by decide +kernel
theorem dX7_type_87 : decode cX7_type 87 = .ok (.bipush 8, 2) := by decide +kernel
theorem dX7_type_89 : decode cX7_type 89 = .ok (.iload 4, 2) := by decide +kernel
theorem dX7_type_91 : decode cX7_type 91 = .ok (.imul, 1) := by decide +kernel
theorem dX7_type_92 : decode cX7_type 92 = .ok (.lshr, 1) := by decide +kernel
theorem dX7_type_93 : decode cX7_type 93 = .ok (.ldc2_w 110, 3) := by decide +kernel
theorem dX7_type_96 : decode cX7_type 96 = .ok (.land, 1) := by decide +kernel
theorem dX7_type_97 : decode cX7_type 97 = .ok (.l2i, 1) := by decide +kernel
theorem dX7_type_98 : decode cX7_type 98 = .ok (.iastore, 1) := by decide +kernel
theorem dX7_type_99 : decode cX7_type 99 = .ok (.aload_n 0, 1) := by decide +kernel
theorem dX7_type_100 : decode cX7_type 100 = .ok (.dup, 1) := by decide +kernel
theorem dX7_type_101 : decode cX7_type 101 = .ok (.getfield 116, 3) := by decide +kernel
theorem dX7_type_104 : decode cX7_type 104 = .ok (.iconst 1, 1) := by decide +kernel
theorem dX7_type_105 : decode cX7_type 105 = .ok (.iadd, 1) := by decide +kernel
theorem dX7_type_106 : decode cX7_type 106 = .ok (.putfield 116, 3) := by decide +kernel
theorem dX7_type_109 : decode cX7_type 109 = .ok (.iinc 4 (-1), 3) := by decide +kernel
theorem dX7_type_112 : decode cX7_type 112 = .ok (.goto (-39), 3) := by decide +kernel
theorem dX7_type_115 : decode cX7_type 115 = .ok (.aload_n 0, 1) := by decide +kernel
theorem dX7_type_116 : decode cX7_type 116 = .ok (.getfield 116, 3) := by decide +kernel
theorem dX7_type_119 : decode cX7_type 119 = .ok (.ireturn, 1) := by decide +kernel
theorem dX7_here_0 : decode cX7_here 0 = .ok (.aload_n 0, 1) := by decide +kernel
theorem dX7_here_1 : decode cX7_here 1 = .ok (.getfield 119, 3) := by decide +kernel
theorem dX7_here_4 : decode cX7_here 4 = .ok (.aload_n 0, 1) := by decide +kernel
theorem dX7_here_5 : decode cX7_here 5 = .ok (.getfield 116, 3) := by decide +kernel
theorem dX7_here_8 : decode cX7_here 8 = .ok (.if_icmp .ge 30, 3) := by decide +kernel
theorem dX7_here_11 : decode cX7_here 11 = .ok (.aload_n 0, 1) := by decide +kernel
theorem dX7_here_12 : decode cX7_here 12 = .ok (.getfield 34, 3) := by decide +kernel
theorem dX7_here_15 : decode cX7_here 15 = .ok (.aload_n 0, 1) := by decide +kernel
theorem dX7_here_16 : decode cX7_here 16 = .ok (.getfield 119, 3) := by decide +kernel
theorem dX7_here_19 : decode cX7_here 19 = .ok (.iaload, 1) := by decide +kernel
theorem dX7_here_20 : decode cX7_here 20 = .ok (.bipush 32, 2) := by decide +kernel
theorem dX7_here_22 : decode cX7_here 22 = .ok (.if_icmp .ne 16, 3) := by decide +kernel
theorem dX7_here_25 : decode cX7_here 25 = .ok (.aload_n 0, 1) := by decide +kernel
theorem dX7_here_26 : decode cX7_here 26 = .ok (.dup, 1) := by decide +kernel
theorem dX7_here_27 : decode cX7_here 27 = .ok (.getfield 119, 3) := by decide +kernel
theorem dX7_here_30 : decode cX7_here 30 = .ok (.iconst 1, 1) := by decide +kernel
theorem dX7_here_31 : decode cX7_here 31 = .ok (.iadd, 1) := by decide +kernel
theorem dX7_here_32 : decode cX7_here 32 = .ok (.putfield 119, 3) := by decide +kernel
theorem dX7_here_35 : decode cX7_here 35 = .ok (.goto (-35), 3) := by decide +kernel
theorem dX7_here_38 : decode cX7_here 38 = .ok (.aload_n 0, 1) := by decide +kernel
theorem dX7_here_39 : decode cX7_here 39 = .ok (.getfield 119, 3) := by decide +kernel
theorem dX7_here_42 : decode cX7_here 42 = .ok (.aload_n 0, 1) := by decide +kernel
theorem dX7_here_43 : decode cX7_here 43 = .ok (.getfield 116, 3) := by decide +kernel
theorem dX7_here_46 : decode cX7_here 46 = .ok (.if_icmp .ge 15, 3) := by decide +kernel
theorem dX7_here_49 : decode cX7_here 49 = .ok (.aload_n 0, 1) := by decide +kernel
theorem dX7_here_50 : decode cX7_here 50 = .ok (.getfield 34, 3) := by decide +kernel
theorem dX7_here_53 : decode cX7_here 53 = .ok (.aload_n 0, 1) := by decide +kernel
theorem dX7_here_54 : decode cX7_here 54 = .ok (.getfield 119, 3) := by decide +kernel
theorem dX7_here_57 : decode cX7_here 57 = .ok (.iaload, 1) := by decide +kernel
theorem dX7_here_58 : decode cX7_here 58 = .ok (.goto 4, 3) := by decide +kernel
theorem dX7_here_61 : decode cX7_here 61 = .ok (.iconst 0, 1) := by decide +kernel
theorem dX7_here_62 : decode cX7_here 62 = .ok (.ireturn, 1) := by decide +kernel
theorem dX7_has_0 : decode cX7_has 0 = .ok (.aload_n 0, 1) := by decide +kernel
theorem dX7_has_1 : decode cX7_has 1 = .ok (.getfield 122, 3) := by decide +kernel
theorem dX7_has_4 : decode cX7_has 4 = .ok (.ifCond .ne 15, 3) := by decide +kernel
theorem dX7_has_7 : decode cX7_has 7 = .ok (.aload_n 0, 1) := by decide +kernel
theorem dX7_has_8 : decode cX7_has 8 = .ok (.invokevirtual 126, 3) := by decide +kernel
theorem dX7_has_11 : decode cX7_has 11 = .ok (.iload_n 1, 1) := by decide +kernel
theorem dX7_has_12 : decode cX7_has 12 = .ok (.if_icmp .ne 7, 3) := by decide +kernel
theorem dX7_has_15 : decode cX7_has 15 = .ok (.iconst 1, 1) := by decide +kernel
theorem dX7_has_16 : decode cX7_has 16 = .ok (.goto 4, 3) := by decide +kernel
theorem dX7_has_19 : decode cX7_has 19 = .ok (.iconst 0, 1) := by decide +kernel
theorem dX7_has_20 : decode cX7_has 20 = .ok (.istore_n 2, 1) := by decide +kernel
theorem dX7_has_21 : decode cX7_has 21 = .ok (.aload_n 0, 1) := by decide +kernel
theorem dX7_has_22 : decode cX7_has 22 = .ok (.dup, 1) := by decide +kernel
theorem dX7_has_23 : decode cX7_has 23 = .ok (.getfield 119, 3) := by decide +kernel
theorem dX7_has_26 : decode cX7_has 26 = .ok (.iload_n 2, 1) := by decide +kernel
theorem dX7_has_27 : decode cX7_has 27 = .ok (.ifCond .eq 7, 3) := by decide +kernel
theorem dX7_has_30 : decode cX7_has 30 = .ok (.iconst 1, 1) := by decide +kernel
theorem dX7_has_31 : decode cX7_has 31 = .ok (.goto 4, 3) := by decide +kernel
theorem dX7_has_34 : decode cX7_has 34 = .ok (.iconst 0, 1) := by decide +kernel
theorem dX7_has_35 : decode cX7_has 35 = .ok (.iadd, 1) := by decide +kernel
theorem dX7_has_36 : decode cX7_has 36 = .ok (.putfield 119, 3) := by decide +kernel
theorem dX7_has_39 : decode cX7_has 39 = .ok (.iload_n 2, 1) := by decide +kernel
theorem dX7_has_40 : decode cX7_has 40 = .ok (.ireturn, 1) := by decide +kernel
theorem dX7_byteOf_0 : decode cX7_byteOf 0 = .ok (.aload_n 0, 1) := by decide +kernel
theorem dX7_byteOf_1 : decode cX7_byteOf 1 = .ok (.getfield 122, 3) := by decide +kernel
theorem dX7_byteOf_4 : decode cX7_byteOf 4 = .ok (.ifCond .eq 7, 3) := by decide +kernel
theorem dX7_byteOf_7 : decode cX7_byteOf 7 = .ok (.iconst 0, 1) := by decide +kernel
theorem dX7_byteOf_8 : decode cX7_byteOf 8 = .ok (.goto 7, 3) := by decide +kernel
theorem dX7_byteOf_11 : decode cX7_byteOf 11 = .ok (.aload_n 0, 1) := by decide +kernel
theorem dX7_byteOf_12 : decode cX7_byteOf 12 = .ok (.invokevirtual 126, 3) := by decide +kernel
theorem dX7_byteOf_15 : decode cX7_byteOf 15 = .ok (.istore_n 3, 1) := by decide +kernel
theorem dX7_byteOf_16 : decode cX7_byteOf 16 = .ok (.aload_n 0, 1) := by decide +kernel
theorem dX7_byteOf_17 : decode cX7_byteOf 17 = .ok (.aload_n 0, 1) := by decide +kernel
theorem dX7_byteOf_18 : decode cX7_byteOf 18 = .ok (.getfield 122, 3) := by decide +kernel
theorem dX7_byteOf_21 : decode cX7_byteOf 21 = .ok (.ifCond .ne 15, 3) := by decide +kernel
theorem dX7_byteOf_24 : decode cX7_byteOf 24 = .ok (.iload_n 3, 1) := by decide +kernel
theorem dX7_byteOf_25 : decode cX7_byteOf 25 = .ok (.i2l, 1) := by decide +kernel
theorem dX7_byteOf_26 : decode cX7_byteOf 26 = .ok (.iload_n 1, 1) := by decide +kernel
theorem dX7_byteOf_27 : decode cX7_byteOf 27 = .ok (.i2l, 1) := by decide +kernel
theorem dX7_byteOf_28 : decode cX7_byteOf 28 = .ok (.iload_n 2, 1) := by decide +kernel
theorem dX7_byteOf_29 : decode cX7_byteOf 29 = .ok (.i2l, 1) := by decide +kernel
theorem dX7_byteOf_30 : decode cX7_byteOf 30 = .ok (.invokestatic 68, 3) := by decide +kernel
theorem dX7_byteOf_33 : decode cX7_byteOf 33 = .ok (.ifCond .ne 7, 3) := by decide +kernel
theorem dX7_byteOf_36 : decode cX7_byteOf 36 = .ok (.iconst 1, 1) := by decide +kernel
theorem dX7_byteOf_37 : decode cX7_byteOf 37 = .ok (.goto 4, 3) := by decide +kernel
theorem dX7_byteOf_40 : decode cX7_byteOf 40 = .ok (.iconst 0, 1) := by decide +kernel
theorem dX7_byteOf_41 : decode cX7_byteOf 41 = .ok (.putfield 122, 3) := by decide +kernel
theorem dX7_byteOf_44 : decode cX7_byteOf 44 = .ok (.aload_n 0, 1) := by decide +kernel
theorem dX7_byteOf_45 : decode cX7_byteOf 45 = .ok (.dup, 1) := by decide +kernel
theorem dX7_byteOf_46 : decode cX7_byteOf 46 = .ok (.getfield 119, 3) := by decide +kernel
theorem dX7_byteOf_49 : decode cX7_byteOf 49 = .ok (.aload_n 0, 1) := by decide +kernel
theorem dX7_byteOf_50 : decode cX7_byteOf 50 = .ok (.getfield 122, 3) := by decide +kernel
theorem dX7_byteOf_53 : decode cX7_byteOf 53 = .ok (.ifCond .eq 7, 3) := by decide +kernel
theorem dX7_byteOf_56 : decode cX7_byteOf 56 = .ok (.iconst 0, 1) := by decide +kernel
theorem dX7_byteOf_57 : decode cX7_byteOf 57 = .ok (.goto 4, 3) := by decide +kernel
theorem dX7_byteOf_60 : decode cX7_byteOf 60 = .ok (.iconst 1, 1) := by decide +kernel
theorem dX7_byteOf_61 : decode cX7_byteOf 61 = .ok (.iadd, 1) := by decide +kernel
theorem dX7_byteOf_62 : decode cX7_byteOf 62 = .ok (.putfield 119, 3) := by decide +kernel
theorem dX7_byteOf_65 : decode cX7_byteOf 65 = .ok (.iload_n 3, 1) := by decide +kernel
theorem dX7_byteOf_66 : decode cX7_byteOf 66 = .ok (.iload_n 1, 1) := by decide +kernel
theorem dX7_byteOf_67 : decode cX7_byteOf 67 = .ok (.isub, 1) := by decide +kernel
theorem dX7_byteOf_68 : decode cX7_byteOf 68 = .ok (.ireturn, 1) := by decide +kernel
theorem dX7_number_0 : decode cX7_number 0 = .ok (.aload_n 0, 1) := by decide +kernel
theorem dX7_number_1 : decode cX7_number 1 = .ok (.getfield 122, 3) := by decide +kernel
theorem dX7_number_4 : decode cX7_number 4 = .ok (.ifCond .ne 20, 3) := by decide +kernel
theorem dX7_number_7 : decode cX7_number 7 = .ok (.aload_n 0, 1) := by decide +kernel
theorem dX7_number_8 : decode cX7_number 8 = .ok (.invokevirtual 126, 3) := by decide +kernel
theorem dX7_number_11 : decode cX7_number 11 = .ok (.i2l, 1) := by decide +kernel
theorem dX7_number_12 : decode cX7_number 12 = .ok (.ldc2_w 130, 3) := by decide +kernel
theorem dX7_number_15 : decode cX7_number 15 = .ok (.ldc2_w 132, 3) := by decide +kernel
theorem dX7_number_18 : decode cX7_number 18 = .ok (.invokestatic 68, 3) := by decide +kernel
theorem dX7_number_21 : decode cX7_number 21 = .ok (.ifCond .ne 10, 3) := by decide +kernel
theorem dX7_number_24 : decode cX7_number 24 = .ok (.aload_n 0, 1) := by decide +kernel
theorem dX7_number_25 : decode cX7_number 25 = .ok (.iconst 1, 1) := by decide +kernel
theorem dX7_number_26 : decode cX7_number 26 = .ok (.putfield 122, 3) := by decide +kernel
theorem dX7_number_29 : decode cX7_number 29 = .ok (.iconst 0, 1) := by decide +kernel
theorem dX7_number_30 : decode cX7_number 30 = .ok (.ireturn, 1) := by decide +kernel
theorem dX7_number_31 : decode cX7_number 31 = .ok (.aload_n 0, 1) := by decide +kernel
theorem dX7_number_32 : decode cX7_number 32 = .ok (.getfield 119, 3) := by decide +kernel
theorem dX7_number_35 : decode cX7_number 35 = .ok (.istore_n 3, 1) := by decide +kernel
theorem dX7_number_36 : decode cX7_number 36 = .ok (.iconst 0, 1) := by decide +kernel
theorem dX7_number_37 : decode cX7_number 37 = .ok (.istore 4, 2) := by decide +kernel
theorem dX7_number_39 : decode cX7_number 39 = .ok (.aload_n 0, 1) := by decide +kernel
theorem dX7_number_40 : decode cX7_number 40 = .ok (.getfield 119, 3) := by decide +kernel
theorem dX7_number_43 : decode cX7_number 43 = .ok (.aload_n 0, 1) := by decide +kernel
theorem dX7_number_44 : decode cX7_number 44 = .ok (.getfield 116, 3) := by decide +kernel
theorem dX7_number_47 : decode cX7_number 47 = .ok (.if_icmp .ge 70, 3) := by decide +kernel
theorem dX7_number_50 : decode cX7_number 50 = .ok (.aload_n 0, 1) := by decide +kernel
theorem dX7_number_51 : decode cX7_number 51 = .ok (.getfield 34, 3) := by decide +kernel
theorem dX7_number_54 : decode cX7_number 54 = .ok (.aload_n 0, 1) := by decide +kernel
theorem dX7_number_55 : decode cX7_number 55 = .ok (.getfield 119, 3) := by decide +kernel
theorem dX7_number_58 : decode cX7_number 58 = .ok (.iaload, 1) := by decide +kernel
theorem dX7_number_59 : decode cX7_number 59 = .ok (.i2l, 1) := by decide +kernel
theorem dX7_number_60 : decode cX7_number 60 = .ok (.ldc2_w 130, 3) := by decide +kernel
theorem dX7_number_63 : decode cX7_number 63 = .ok (.ldc2_w 132, 3) := by decide +kernel
theorem dX7_number_66 : decode cX7_number 66 = .ok (.invokestatic 68, 3) := by decide +kernel
theorem dX7_number_69 : decode cX7_number 69 = .ok (.ifCond .eq 48, 3) := by decide +kernel
theorem dX7_number_72 : decode cX7_number 72 = .ok (.iload 4, 2) := by decide +kernel
theorem dX7_number_74 : decode cX7_number 74 = .ok (.ldc 134, 2) := by decide +kernel
theorem dX7_number_76 : decode cX7_number 76 = .ok (.if_icmp .le 8, 3) := by decide +kernel
theorem dX7_number_79 : decode cX7_number 79 = .ok (.iload 4, 2) := by decide +kernel
theorem dX7_number_81 : decode cX7_number 81 = .ok (.goto 21, 3) := by decide +kernel
theorem dX7_number_84 : decode cX7_number 84 = .ok (.bipush 10, 2) := by decide +kernel
theorem dX7_number_86 : decode cX7_number 86 = .ok (.iload 4, 2) := by decide +kernel
theorem dX7_number_88 : decode cX7_number 88 = .ok (.imul, 1) := by decide +kernel
theorem dX7_number_89 : decode cX7_number 89 = .ok (.aload_n 0, 1) := by decide +kernel
theorem dX7_number_90 : decode cX7_number 90 = .ok (.getfield 34, 3) := by decide +kernel
theorem dX7_number_93 : decode cX7_number 93 = .ok (.aload_n 0, 1) := by decide +kernel
theorem dX7_number_94 : decode cX7_number 94 = .ok (.getfield 119, 3) := by decide +kernel
theorem dX7_number_97 : decode cX7_number 97 = .ok (.iaload, 1) := by decide +kernel
theorem dX7_number_98 : decode cX7_number 98 = .ok (.iadd, 1) := by decide +kernel
theorem dX7_number_99 : decode cX7_number 99 = .ok (.bipush 48, 2) := by decide +kernel
theorem dX7_number_101 : decode cX7_number 101 = .ok (.isub, 1) := by decide +kernel
theorem dX7_number_102 : decode cX7_number 102 = .ok (.istore 4, 2) := by decide +kernel
theorem dX7_number_104 : decode cX7_number 104 = .ok (.aload_n 0, 1) := by decide +kernel
theorem dX7_number_105 : decode cX7_number 105 = .ok (.dup, 1) := by decide +kernel
theorem dX7_number_106 : decode cX7_number 106 = .ok (.getfield 119, 3) := by decide +kernel
theorem dX7_number_109 : decode cX7_number 109 = .ok (.iconst 1, 1) := by decide +kernel
theorem dX7_number_110 : decode cX7_number 110 = .ok (.iadd, 1) := by decide +kernel
theorem dX7_number_111 : decode cX7_number 111 = .ok (.putfield 119, 3) := by decide +kernel
theorem dX7_number_114 : decode cX7_number 114 = .ok (.goto (-75), 3) := by decide +kernel
theorem dX7_number_117 : decode cX7_number 117 = .ok (.aload_n 0, 1) := by decide +kernel
theorem dX7_number_118 : decode cX7_number 118 = .ok (.iload 4, 2) := by decide +kernel
theorem dX7_number_120 : decode cX7_number 120 = .ok (.i2l, 1) := by decide +kernel
theorem dX7_number_121 : decode cX7_number 121 = .ok (.iload_n 1, 1) := by decide +kernel
theorem dX7_number_122 : decode cX7_number 122 = .ok (.i2l, 1) := by decide +kernel
theorem dX7_number_123 : decode cX7_number 123 = .ok (.iload_n 2, 1) := by decide +kernel
theorem dX7_number_124 : decode cX7_number 124 = .ok (.i2l, 1) := by decide +kernel
theorem dX7_number_125 : decode cX7_number 125 = .ok (.invokestatic 68, 3) := by decide +kernel
theorem dX7_number_128 : decode cX7_number 128 = .ok (.ifCond .ne 7, 3) := by decide +kernel
theorem dX7_number_131 : decode cX7_number 131 = .ok (.iconst 1, 1) := by decide +kernel
theorem dX7_number_132 : decode cX7_number 132 = .ok (.goto 4, 3) := by decide +kernel
theorem dX7_number_135 : decode cX7_number 135 = .ok (.iconst 0, 1) := by decide +kernel
theorem dX7_number_136 : decode cX7_number 136 = .ok (.putfield 122, 3) := by decide +kernel
theorem dX7_number_139 : decode cX7_number 139 = .ok (.aload_n 0, 1) := by decide +kernel
theorem dX7_number_140 : decode cX7_number 140 = .ok (.aload_n 0, 1) := by decide +kernel
theorem dX7_number_141 : decode cX7_number 141 = .ok (.getfield 122, 3) := by decide +kernel
theorem dX7_number_144 : decode cX7_number 144 = .ok (.ifCond .eq 7, 3) := by decide +kernel
theorem dX7_number_147 : decode cX7_number 147 = .ok (.iload_n 3, 1) := by decide +kernel
theorem dX7_number_148 : decode cX7_number 148 = .ok (.goto 7, 3) := by decide +kernel
theorem dX7_number_151 : decode cX7_number 151 = .ok (.aload_n 0, 1) := by decide +kernel
theorem dX7_number_152 : decode cX7_number 152 = .ok (.getfield 119, 3) := by decide +kernel
theorem dX7_number_155 : decode cX7_number 155 = .ok (.putfield 119, 3) := by decide +kernel
theorem dX7_number_158 : decode cX7_number 158 = .ok (.iload 4, 2) := by decide +kernel
theorem dX7_number_160 : decode cX7_number 160 = .ok (.ireturn, 1) := by decide +kernel
theorem dX7_coats_0 : decode cX7_coats 0 = .ok (.aload_n 0, 1) := by decide +kernel
theorem dX7_coats_1 : decode cX7_coats 1 = .ok (.iload_n 1, 1) := by decide +kernel
theorem dX7_coats_2 : decode cX7_coats 2 = .ok (.invokevirtual 80, 3) := by decide +kernel
theorem dX7_coats_5 : decode cX7_coats 5 = .ok (.ifCond .ne 5, 3) := by decide +kernel
theorem dX7_coats_8 : decode cX7_coats 8 = .ok (.iconst (-1), 1) := by decide +kernel
theorem dX7_coats_9 : decode cX7_coats 9 = .ok (.ireturn, 1) := by decide +kernel
theorem dX7_coats_10 : decode cX7_coats 10 = .ok (.aload_n 0, 1) := by decide +kernel
theorem dX7_coats_11 : decode cX7_coats 11 = .ok (.iconst 0, 1) := by decide +kernel
theorem dX7_coats_12 : decode cX7_coats 12 = .ok (.putfield 119, 3) := by decide +kernel
theorem dX7_coats_15 : decode cX7_coats 15 = .ok (.aload_n 0, 1) := by decide +kernel
theorem dX7_coats_16 : decode cX7_coats 16 = .ok (.iconst 0, 1) := by decide +kernel
theorem dX7_coats_17 : decode cX7_coats 17 = .ok (.putfield 122, 3) := by decide +kernel
theorem dX7_coats_20 : decode cX7_coats 20 = .ok (.iconst 0, 1) := by decide +kernel
theorem dX7_coats_21 : decode cX7_coats 21 = .ok (.istore_n 2, 1) := by decide +kernel
theorem dX7_coats_22 : decode cX7_coats 22 = .ok (.iconst 1, 1) := by decide +kernel
theorem dX7_coats_23 : decode cX7_coats 23 = .ok (.istore_n 3, 1) := by decide +kernel
theorem dX7_coats_24 : decode cX7_coats 24 = .ok (.iload_n 3, 1) := by decide +kernel
theorem dX7_coats_25 : decode cX7_coats 25 = .ok (.ifCond .eq 127, 3) := by decide +kernel
theorem dX7_coats_28 : decode cX7_coats 28 = .ok (.aload_n 0, 1) := by decide +kernel
theorem dX7_coats_29 : decode cX7_coats 29 = .ok (.getfield 37, 3) := by decide +kernel
theorem dX7_coats_32 : decode cX7_coats 32 = .ok (.iconst 4, 1) := by decide +kernel
theorem dX7_coats_33 : decode cX7_coats 33 = .ok (.iload_n 2, 1) := by decide +kernel
theorem dX7_coats_34 : decode cX7_coats 34 = .ok (.imul, 1) := by decide +kernel
theorem dX7_coats_35 : decode cX7_coats 35 = .ok (.aload_n 0, 1) := by decide +kernel
theorem dX7_coats_36 : decode cX7_coats 36 = .ok (.bipush 97, 2) := by decide +kernel
theorem dX7_coats_38 : decode cX7_coats 38 = .ok (.bipush 101, 2) := by decide +kernel
theorem dX7_coats_40 : decode cX7_coats 40 = .ok (.invokevirtual 135, 3) := by decide +kernel
theorem dX7_coats_43 : decode cX7_coats 43 = .ok (.iastore, 1) := by decide +kernel
theorem dX7_coats_44 : decode cX7_coats 44 = .ok (.aload_n 0, 1) := by decide +kernel
theorem dX7_coats_45 : decode cX7_coats 45 = .ok (.getfield 37, 3) := by decide +kernel
theorem dX7_coats_48 : decode cX7_coats 48 = .ok (.iconst 4, 1) := by decide +kernel
theorem dX7_coats_49 : decode cX7_coats 49 = .ok (.iload_n 2, 1) := by decide +kernel
theorem dX7_coats_50 : decode cX7_coats 50 = .ok (.imul, 1) := by decide +kernel
theorem dX7_coats_51 : decode cX7_coats 51 = .ok (.iconst 1, 1) := by decide +kernel
theorem dX7_coats_52 : decode cX7_coats 52 = .ok (.iadd, 1) := by decide +kernel
theorem dX7_coats_53 : decode cX7_coats 53 = .ok (.aload_n 0, 1) := by decide +kernel
theorem dX7_coats_54 : decode cX7_coats 54 = .ok (.iconst 1, 1) := by decide +kernel
theorem dX7_coats_55 : decode cX7_coats 55 = .ok (.sipush 9999, 3) := by decide +kernel
theorem dX7_coats_58 : decode cX7_coats 58 = .ok (.invokevirtual 139, 3) := by decide +kernel
theorem dX7_coats_61 : decode cX7_coats 61 = .ok (.iastore, 1) := by decide +kernel
theorem dX7_coats_62 : decode cX7_coats 62 = .ok (.aload_n 0, 1) := by decide +kernel
theorem dX7_coats_63 : decode cX7_coats 63 = .ok (.getfield 37, 3) := by decide +kernel
theorem dX7_coats_66 : decode cX7_coats 66 = .ok (.iconst 4, 1) := by decide +kernel
theorem dX7_coats_67 : decode cX7_coats 67 = .ok (.iload_n 2, 1) := by decide +kernel
theorem dX7_coats_68 : decode cX7_coats 68 = .ok (.imul, 1) := by decide +kernel
theorem dX7_coats_69 : decode cX7_coats 69 = .ok (.iconst 2, 1) := by decide +kernel
theorem dX7_coats_70 : decode cX7_coats 70 = .ok (.iadd, 1) := by decide +kernel
theorem dX7_coats_71 : decode cX7_coats 71 = .ok (.aload_n 0, 1) := by decide +kernel
theorem dX7_coats_72 : decode cX7_coats 72 = .ok (.bipush 114, 2) := by decide +kernel
theorem dX7_coats_74 : decode cX7_coats 74 = .ok (.invokevirtual 142, 3) := by decide +kernel
theorem dX7_coats_77 : decode cX7_coats 77 = .ok (.ifCond .eq 13, 3) := by decide +kernel
theorem dX7_coats_80 : decode cX7_coats 80 = .ok (.aload_n 0, 1) := by decide +kernel
theorem dX7_coats_81 : decode cX7_coats 81 = .ok (.iconst 0, 1) := by decide +kernel
theorem dX7_coats_82 : decode cX7_coats 82 = .ok (.bipush 20, 2) := by decide +kernel
theorem dX7_coats_84 : decode cX7_coats 84 = .ok (.invokevirtual 139, 3) := by decide +kernel
theorem dX7_coats_87 : decode cX7_coats 87 = .ok (.goto 4, 3) := by decide +kernel
theorem dX7_coats_90 : decode cX7_coats 90 = .ok (.iconst 0, 1) := by decide +kernel
theorem dX7_coats_91 : decode cX7_coats 91 = .ok (.iastore, 1) := by decide +kernel
theorem dX7_coats_92 : decode cX7_coats 92 = .ok (.aload_n 0, 1) := by decide +kernel
theorem dX7_coats_93 : decode cX7_coats 93 = .ok (.getfield 37, 3) := by decide +kernel
theorem dX7_coats_96 : decode cX7_coats 96 = .ok (.iconst 4, 1) := by decide +kernel
theorem dX7_coats_97 : decode cX7_coats 97 = .ok (.iload_n 2, 1) := by decide +kernel
theorem dX7_coats_98 : decode cX7_coats 98 = .ok (.imul, 1) := by decide +kernel
theorem dX7_coats_99 : decode cX7_coats 99 = .ok (.iconst 3, 1) := by decide +kernel
theorem dX7_coats_100 : decode cX7_coats 100 = .ok (.iadd, 1) := by decide +kernel
theorem dX7_coats_101 : decode cX7_coats 101 = .ok (.aload_n 0, 1) := by decide +kernel
theorem dX7_coats_102 : decode cX7_coats 102 = .ok (.bipush 116, 2) := by decide +kernel
theorem dX7_coats_104 : decode cX7_coats 104 = .ok (.invokevirtual 142, 3) := by decide +kernel
theorem dX7_coats_107 : decode cX7_coats 107 = .ok (.ifCond .eq 16, 3) := by decide +kernel
theorem dX7_coats_110 : decode cX7_coats 110 = .ok (.iconst 1, 1) := by decide +kernel
theorem dX7_coats_111 : decode cX7_coats 111 = .ok (.aload_n 0, 1) := by decide +kernel
theorem dX7_coats_112 : decode cX7_coats 112 = .ok (.bipush 49, 2) := by decide +kernel
theorem dX7_coats_114 : decode cX7_coats 114 = .ok (.bipush 57, 2) := by decide +kernel
theorem dX7_coats_116 : decode cX7_coats 116 = .ok (.invokevirtual 135, 3) := by decide +kernel
theorem dX7_coats_119 : decode cX7_coats 119 = .ok (.iadd, 1) := by decide +kernel
theorem dX7_coats_120 : decode cX7_coats 120 = .ok (.goto 4, 3) := by decide +kernel
theorem dX7_coats_123 : decode cX7_coats 123 = .ok (.iconst 1, 1) := by decide +kernel
theorem dX7_coats_124 : decode cX7_coats 124 = .ok (.iastore, 1) := by decide +kernel
theorem dX7_coats_125 : decode cX7_coats 125 = .ok (.iinc 2 1, 3) := by decide +kernel
theorem dX7_coats_128 : decode cX7_coats 128 = .ok (.iload_n 2, 1) := by decide +kernel
theorem dX7_coats_129 : decode cX7_coats 129 = .ok (.bipush 6, 2) := by decide +kernel
theorem dX7_coats_131 : decode cX7_coats 131 = .ok (.if_icmp .ge 16, 3) := by decide +kernel
theorem dX7_coats_134 : decode cX7_coats 134 = .ok (.aload_n 0, 1) := by decide +kernel
theorem dX7_coats_135 : decode cX7_coats 135 = .ok (.bipush 59, 2) := by decide +kernel
theorem dX7_coats_137 : decode cX7_coats 137 = .ok (.invokevirtual 142, 3) := by decide +kernel
theorem dX7_coats_140 : decode cX7_coats 140 = .ok (.ifCond .eq 7, 3) := by decide +kernel
theorem dX7_coats_143 : decode cX7_coats 143 = .ok (.iconst 1, 1) := by decide +kernel
theorem dX7_coats_144 : decode cX7_coats 144 = .ok (.goto 4, 3) := by decide +kernel
theorem dX7_coats_147 : decode cX7_coats 147 = .ok (.iconst 0, 1) := by decide +kernel
theorem dX7_coats_148 : decode cX7_coats 148 = .ok (.istore_n 3, 1) := by decide +kernel
theorem dX7_coats_149 : decode cX7_coats 149 = .ok (.goto (-125), 3) := by decide +kernel
theorem dX7_coats_152 : decode cX7_coats 152 = .ok (.aload_n 0, 1) := by decide +kernel
theorem dX7_coats_153 : decode cX7_coats 153 = .ok (.aload_n 0, 1) := by decide +kernel
theorem dX7_coats_154 : decode cX7_coats 154 = .ok (.getfield 122, 3) := by decide +kernel
theorem dX7_coats_157 : decode cX7_coats 157 = .ok (.ifCond .ne 10, 3) := by decide +kernel
theorem dX7_coats_160 : decode cX7_coats 160 = .ok (.aload_n 0, 1) := by decide +kernel
theorem dX7_coats_161 : decode cX7_coats 161 = .ok (.invokevirtual 126, 3) := by decide +kernel
theorem dX7_coats_164 : decode cX7_coats 164 = .ok (.ifCond .eq 7, 3) := by decide +kernel
theorem dX7_coats_167 : decode cX7_coats 167 = .ok (.iconst 1, 1) := by decide +kernel
theorem dX7_coats_168 : decode cX7_coats 168 = .ok (.goto 4, 3) := by decide +kernel
theorem dX7_coats_171 : decode cX7_coats 171 = .ok (.iconst 0, 1) := by decide +kernel
theorem dX7_coats_172 : decode cX7_coats 172 = .ok (.putfield 122, 3) := by decide +kernel
theorem dX7_coats_175 : decode cX7_coats 175 = .ok (.aload_n 0, 1) := by decide +kernel
theorem dX7_coats_176 : decode cX7_coats 176 = .ok (.iconst 0, 1) := by decide +kernel
theorem dX7_coats_177 : decode cX7_coats 177 = .ok (.putfield 116, 3) := by decide +kernel
theorem dX7_coats_180 : decode cX7_coats 180 = .ok (.aload_n 0, 1) := by decide +kernel
theorem dX7_coats_181 : decode cX7_coats 181 = .ok (.getfield 122, 3) := by decide +kernel
theorem dX7_coats_184 : decode cX7_coats 184 = .ok (.ifCond .eq 11, 3) := by decide +kernel
theorem dX7_coats_187 : decode cX7_coats 187 = .ok (.bipush (-20), 2) := by decide +kernel
theorem dX7_coats_189 : decode cX7_coats 189 = .ok (.aload_n 0, 1) := by decide +kernel
theorem dX7_coats_190 : decode cX7_coats 190 = .ok (.getfield 119, 3) := by decide +kernel
theorem dX7_coats_193 : decode cX7_coats 193 = .ok (.isub, 1) := by decide +kernel
theorem dX7_coats_194 : decode cX7_coats 194 = .ok (.ireturn, 1) := by decide +kernel
theorem dX7_coats_195 : decode cX7_coats 195 = .ok (.aload_n 0, 1) := by decide +kernel
theorem dX7_coats_196 : decode cX7_coats 196 = .ok (.getfield 7, 3) := by decide +kernel
theorem dX7_coats_199 : decode cX7_coats 199 = .ok (.bipush 40, 2) := by decide +kernel
theorem dX7_coats_201 : decode cX7_coats 201 = .ok (.iload_n 1, 1) := by decide +kernel
theorem dX7_coats_202 : decode cX7_coats 202 = .ok (.imul, 1) := by decide +kernel
theorem dX7_coats_203 : decode cX7_coats 203 = .ok (.iconst 3, 1) := by decide +kernel
theorem dX7_coats_204 : decode cX7_coats 204 = .ok (.iadd, 1) := by decide +kernel
theorem dX7_coats_205 : decode cX7_coats 205 = .ok (.iload_n 2, 1) := by decide +kernel
theorem dX7_coats_206 : decode cX7_coats 206 = .ok (.iastore, 1) := by decide +kernel
theorem dX7_coats_207 : decode cX7_coats 207 = .ok (.iconst 0, 1) := by decide +kernel
theorem dX7_coats_208 : decode cX7_coats 208 = .ok (.istore 4, 2) := by decide +kernel
theorem dX7_coats_210 : decode cX7_coats 210 = .ok (.iload 4, 2) := by decide +kernel
theorem dX7_coats_212 : decode cX7_coats 212 = .ok (.iconst 4, 1) := by decide +kernel
theorem dX7_coats_213 : decode cX7_coats 213 = .ok (.iload_n 2, 1) := by decide +kernel
theorem dX7_coats_214 : decode cX7_coats 214 = .ok (.imul, 1) := by decide +kernel
theorem dX7_coats_215 : decode cX7_coats 215 = .ok (.if_icmp .ge 31, 3) := by decide +kernel
theorem dX7_coats_218 : decode cX7_coats 218 = .ok (.aload_n 0, 1) := by decide +kernel
theorem dX7_coats_219 : decode cX7_coats 219 = .ok (.getfield 7, 3) := by decide +kernel
theorem dX7_coats_222 : decode cX7_coats 222 = .ok (.bipush 40, 2) := by decide +kernel
theorem dX7_coats_224 : decode cX7_coats 224 = .ok (.iload_n 1, 1) := by decide +kernel
theorem dX7_coats_225 : decode cX7_coats 225 = .ok (.imul, 1) := by decide +kernel
theorem dX7_coats_226 : decode cX7_coats 226 = .ok (.bipush 8, 2) := by decide +kernel
theorem dX7_coats_228 : decode cX7_coats 228 = .ok (.iadd, 1) := by decide +kernel
theorem dX7_coats_229 : decode cX7_coats 229 = .ok (.iload 4, 2) := by decide +kernel
theorem dX7_coats_231 : decode cX7_coats 231 = .ok (.iadd, 1) := by decide +kernel
theorem dX7_coats_232 : decode cX7_coats 232 = .ok (.aload_n 0, 1) := by decide +kernel
theorem dX7_coats_233 : decode cX7_coats 233 = .ok (.getfield 37, 3) := by decide +kernel
theorem dX7_coats_236 : decode cX7_coats 236 = .ok (.iload 4, 2) := by decide +kernel
theorem dX7_coats_238 : decode cX7_coats 238 = .ok (.iaload, 1) := by decide +kernel
theorem dX7_coats_239 : decode cX7_coats 239 = .ok (.iastore, 1) := by decide +kernel
theorem dX7_coats_240 : decode cX7_coats 240 = .ok (.iinc 4 1, 3) := by decide +kernel
theorem dX7_coats_243 : decode cX7_coats 243 = .ok (.goto (-33), 3) := by decide +kernel
theorem dX7_coats_246 : decode cX7_coats 246 = .ok (.iload_n 2, 1) := by decide +kernel
theorem dX7_coats_247 : decode cX7_coats 247 = .ok (.ireturn, 1) := by decide +kernel
theorem dX7_count_0 : decode cX7_count 0 = .ok (.iconst 0, 1) := by decide +kernel
theorem dX7_count_1 : decode cX7_count 1 = .ok (.istore_n 2, 1) := by decide +kernel
theorem dX7_count_2 : decode cX7_count 2 = .ok (.iconst 0, 1) := by decide +kernel
theorem dX7_count_3 : decode cX7_count 3 = .ok (.istore_n 3, 1) := by decide +kernel
theorem dX7_count_4 : decode cX7_count 4 = .ok (.iconst 0, 1) := by decide +kernel
theorem dX7_count_5 : decode cX7_count 5 = .ok (.istore 4, 2) := by decide +kernel
theorem dX7_count_7 : decode cX7_count 7 = .ok (.iload 4, 2) := by decide +kernel
theorem dX7_count_9 : decode cX7_count 9 = .ok (.aload_n 0, 1) := by decide +kernel
theorem dX7_count_10 : decode cX7_count 10 = .ok (.getfield 64, 3) := by decide +kernel
theorem dX7_count_13 : decode cX7_count 13 = .ok (.if_icmp .ge 42, 3) := by decide +kernel
theorem dX7_count_16 : decode cX7_count 16 = .ok (.iload_n 2, 1) := by decide +kernel
theorem dX7_count_17 : decode cX7_count 17 = .ok (.aload_n 0, 1) := by decide +kernel
theorem dX7_count_18 : decode cX7_count 18 = .ok (.getfield 7, 3) := by decide +kernel
theorem dX7_count_21 : decode cX7_count 21 = .ok (.bipush 40, 2) := by decide +kernel
theorem dX7_count_23 : decode cX7_count 23 = .ok (.iload 4, 2) := by decide +kernel
theorem dX7_count_25 : decode cX7_count 25 = .ok (.imul, 1) := by decide +kernel
theorem dX7_count_26 : decode cX7_count 26 = .ok (.iconst 3, 1) := by decide +kernel
theorem dX7_count_27 : decode cX7_count 27 = .ok (.iadd, 1) := by decide +kernel
theorem dX7_count_28 : decode cX7_count 28 = .ok (.iaload, 1) := by decide +kernel
theorem dX7_count_29 : decode cX7_count 29 = .ok (.iadd, 1) := by decide +kernel
theorem dX7_count_30 : decode cX7_count 30 = .ok (.istore_n 2, 1) := by decide +kernel
theorem dX7_count_31 : decode cX7_count 31 = .ok (.iload_n 3, 1) := by decide +kernel
theorem dX7_count_32 : decode cX7_count 32 = .ok (.aload_n 0, 1) := by decide +kernel
theorem dX7_count_33 : decode cX7_count 33 = .ok (.getfield 7, 3) := by decide +kernel
theorem dX7_count_36 : decode cX7_count 36 = .ok (.bipush 40, 2) := by decide +kernel
theorem dX7_count_38 : decode cX7_count 38 = .ok (.iload 4, 2) := by decide +kernel
theorem dX7_count_40 : decode cX7_count 40 = .ok (.imul, 1) := by decide +kernel
theorem dX7_count_41 : decode cX7_count 41 = .ok (.iconst 5, 1) := by decide +kernel
theorem dX7_count_42 : decode cX7_count 42 = .ok (.iadd, 1) := by decide +kernel
theorem dX7_count_43 : decode cX7_count 43 = .ok (.iaload, 1) := by decide +kernel
theorem dX7_count_44 : decode cX7_count 44 = .ok (.iload 4, 2) := by decide +kernel
theorem dX7_count_46 : decode cX7_count 46 = .ok (.ishl, 1) := by decide +kernel
theorem dX7_count_47 : decode cX7_count 47 = .ok (.ior, 1) := by decide +kernel
theorem dX7_count_48 : decode cX7_count 48 = .ok (.istore_n 3, 1) := by decide +kernel
theorem dX7_count_49 : decode cX7_count 49 = .ok (.iinc 4 1, 3) := by decide +kernel
theorem dX7_count_52 : decode cX7_count 52 = .ok (.goto (-45), 3) := by decide +kernel
theorem dX7_count_55 : decode cX7_count 55 = .ok (.iload_n 1, 1) := by decide +kernel
theorem dX7_count_56 : decode cX7_count 56 = .ok (.tableswitch 64 0 5 #[40, 45, 50, 52, 54, 59], 40) := by decide +kernel
theorem dX7_count_96 : decode cX7_count 96 = .ok (.aload_n 0, 1) := by decide +kernel
theorem dX7_count_97 : decode cX7_count 97 = .ok (.getfield 64, 3) := by decide +kernel
theorem dX7_count_100 : decode cX7_count 100 = .ok (.ireturn, 1) := by decide +kernel
theorem dX7_count_101 : decode cX7_count 101 = .ok (.aload_n 0, 1) := by decide +kernel
theorem dX7_count_102 : decode cX7_count 102 = .ok (.getfield 145, 3) := by decide +kernel
theorem dX7_count_105 : decode cX7_count 105 = .ok (.ireturn, 1) := by decide +kernel
theorem dX7_count_106 : decode cX7_count 106 = .ok (.iload_n 2, 1) := by decide +kernel
theorem dX7_count_107 : decode cX7_count 107 = .ok (.ireturn, 1) := by decide +kernel
theorem dX7_count_108 : decode cX7_count 108 = .ok (.iload_n 3, 1) := by decide +kernel
theorem dX7_count_109 : decode cX7_count 109 = .ok (.ireturn, 1) := by decide +kernel
theorem dX7_count_110 : decode cX7_count 110 = .ok (.aload_n 0, 1) := by decide +kernel
theorem dX7_count_111 : decode cX7_count 111 = .ok (.getfield 148, 3) := by decide +kernel
theorem dX7_count_114 : decode cX7_count 114 = .ok (.ireturn, 1) := by decide +kernel
theorem dX7_count_115 : decode cX7_count 115 = .ok (.aload_n 0, 1) := by decide +kernel
theorem dX7_count_116 : decode cX7_count 116 = .ok (.getfield 151, 3) := by decide +kernel
theorem dX7_count_119 : decode cX7_count 119 = .ok (.ireturn, 1) := by decide +kernel
theorem dX7_count_120 : decode cX7_count 120 = .ok (.iconst (-1), 1) := by decide +kernel
theorem dX7_count_121 : decode cX7_count 121 = .ok (.ireturn, 1) := by decide +kernel
theorem dX7_most_0 : decode cX7_most 0 = .ok (.iload_n 0, 1) := by decide +kernel
theorem dX7_most_1 : decode cX7_most 1 = .ok (.ldc 154, 2) := by decide +kernel
theorem dX7_most_3 : decode cX7_most 3 = .ok (.if_icmp .le 8, 3) := by decide +kernel
theorem dX7_most_6 : decode cX7_most 6 = .ok (.ldc 154, 2) := by decide +kernel
theorem dX7_most_8 : decode cX7_most 8 = .ok (.goto 4, 3) := by decide +kernel
theorem dX7_most_11 : decode cX7_most 11 = .ok (.iload_n 0, 1) := by decide +kernel
theorem dX7_most_12 : decode cX7_most 12 = .ok (.ireturn, 1) := by decide +kernel
theorem dX7_rests_0 : decode cX7_rests 0 = .ok (.bipush 40, 2) := by decide +kernel
theorem dX7_rests_2 : decode cX7_rests 2 = .ok (.iload_n 1, 1) := by decide +kernel
theorem dX7_rests_3 : decode cX7_rests 3 = .ok (.imul, 1) := by decide +kernel
theorem dX7_rests_4 : decode cX7_rests 4 = .ok (.istore_n 2, 1) := by decide +kernel
theorem dX7_rests_5 : decode cX7_rests 5 = .ok (.iconst 0, 1) := by decide +kernel
theorem dX7_rests_6 : decode cX7_rests 6 = .ok (.istore_n 3, 1) := by decide +kernel
theorem dX7_rests_7 : decode cX7_rests 7 = .ok (.iconst 0, 1) := by decide +kernel
theorem dX7_rests_8 : decode cX7_rests 8 = .ok (.istore 4, 2) := by decide +kernel
theorem dX7_rests_10 : decode cX7_rests 10 = .ok (.iload 4, 2) := by decide +kernel
theorem dX7_rests_12 : decode cX7_rests 12 = .ok (.aload_n 0, 1) := by decide +kernel
theorem dX7_rests_13 : decode cX7_rests 13 = .ok (.getfield 16, 3) := by decide +kernel
theorem dX7_rests_16 : decode cX7_rests 16 = .ok (.iload_n 2, 1) := by decide +kernel
theorem dX7_rests_17 : decode cX7_rests 17 = .ok (.iconst 3, 1) := by decide +kernel
theorem dX7_rests_18 : decode cX7_rests 18 = .ok (.iadd, 1) := by decide +kernel
theorem dX7_rests_19 : decode cX7_rests 19 = .ok (.iaload, 1) := by decide +kernel
theorem dX7_rests_20 : decode cX7_rests 20 = .ok (.if_icmp .ge 83, 3) := by decide +kernel
theorem dX7_rests_23 : decode cX7_rests 23 = .ok (.iload_n 2, 1) := by decide +kernel
theorem dX7_rests_24 : decode cX7_rests 24 = .ok (.bipush 8, 2) := by decide +kernel
theorem dX7_rests_26 : decode cX7_rests 26 = .ok (.iadd, 1) := by decide +kernel
theorem dX7_rests_27 : decode cX7_rests 27 = .ok (.iconst 4, 1) := by decide +kernel
theorem dX7_rests_28 : decode cX7_rests 28 = .ok (.iload 4, 2) := by decide +kernel
theorem dX7_rests_30 : decode cX7_rests 30 = .ok (.imul, 1) := by decide +kernel
theorem dX7_rests_31 : decode cX7_rests 31 = .ok (.iadd, 1) := by decide +kernel
theorem dX7_rests_32 : decode cX7_rests 32 = .ok (.istore 5, 2) := by decide +kernel
theorem dX7_rests_34 : decode cX7_rests 34 = .ok (.aload_n 0, 1) := by decide +kernel
theorem dX7_rests_35 : decode cX7_rests 35 = .ok (.getfield 16, 3) := by decide +kernel
theorem dX7_rests_38 : decode cX7_rests 38 = .ok (.iload 5, 2) := by decide +kernel
theorem dX7_rests_40 : decode cX7_rests 40 = .ok (.iconst 1, 1) := by decide +kernel
theorem dX7_rests_41 : decode cX7_rests 41 = .ok (.iadd, 1) := by decide +kernel
theorem dX7_rests_42 : decode cX7_rests 42 = .ok (.aload_n 0, 1) := by decide +kernel
theorem dX7_rests_43 : decode cX7_rests 43 = .ok (.getfield 16, 3) := by decide +kernel
theorem dX7_rests_46 : decode cX7_rests 46 = .ok (.iload 5, 2) := by decide +kernel
theorem dX7_rests_48 : decode cX7_rests 48 = .ok (.iconst 1, 1) := by decide +kernel
theorem dX7_rests_49 : decode cX7_rests 49 = .ok (.iadd, 1) := by decide +kernel
theorem dX7_rests_50 : decode cX7_rests 50 = .ok (.iaload, 1) := by decide +kernel
theorem dX7_rests_51 : decode cX7_rests 51 = .ok (.aload_n 0, 1) := by decide +kernel
theorem dX7_rests_52 : decode cX7_rests 52 = .ok (.getfield 16, 3) := by decide +kernel
theorem dX7_rests_55 : decode cX7_rests 55 = .ok (.iload 5, 2) := by decide +kernel
theorem dX7_rests_57 : decode cX7_rests 57 = .ok (.iconst 1, 1) := by decide +kernel
theorem dX7_rests_58 : decode cX7_rests 58 = .ok (.iadd, 1) := by decide +kernel
theorem dX7_rests_59 : decode cX7_rests 59 = .ok (.iaload, 1) := by decide +kernel
theorem dX7_rests_60 : decode cX7_rests 60 = .ok (.aload_n 0, 1) := by decide +kernel
theorem dX7_rests_61 : decode cX7_rests 61 = .ok (.getfield 16, 3) := by decide +kernel
theorem dX7_rests_64 : decode cX7_rests 64 = .ok (.iload 5, 2) := by decide +kernel
theorem dX7_rests_66 : decode cX7_rests 66 = .ok (.iconst 2, 1) := by decide +kernel
theorem dX7_rests_67 : decode cX7_rests 67 = .ok (.iadd, 1) := by decide +kernel
theorem dX7_rests_68 : decode cX7_rests 68 = .ok (.iaload, 1) := by decide +kernel
theorem dX7_rests_69 : decode cX7_rests 69 = .ok (.imul, 1) := by decide +kernel
theorem dX7_rests_70 : decode cX7_rests 70 = .ok (.bipush 100, 2) := by decide +kernel
theorem dX7_rests_72 : decode cX7_rests 72 = .ok (.idiv, 1) := by decide +kernel
theorem dX7_rests_73 : decode cX7_rests 73 = .ok (.iadd, 1) := by decide +kernel
theorem dX7_rests_74 : decode cX7_rests 74 = .ok (.invokestatic 155, 3) := by decide +kernel
theorem dX7_rests_77 : decode cX7_rests 77 = .ok (.iastore, 1) := by decide +kernel
theorem dX7_rests_78 : decode cX7_rests 78 = .ok (.iload_n 3, 1) := by decide +kernel
theorem dX7_rests_79 : decode cX7_rests 79 = .ok (.aload_n 0, 1) := by decide +kernel
theorem dX7_rests_80 : decode cX7_rests 80 = .ok (.getfield 19, 3) := by decide +kernel
theorem dX7_rests_83 : decode cX7_rests 83 = .ok (.iconst 5, 1) := by decide +kernel
theorem dX7_rests_84 : decode cX7_rests 84 = .ok (.iload_n 1, 1) := by decide +kernel
theorem dX7_rests_85 : decode cX7_rests 85 = .ok (.imul, 1) := by decide +kernel
theorem dX7_rests_86 : decode cX7_rests 86 = .ok (.aload_n 0, 1) := by decide +kernel
theorem dX7_rests_87 : decode cX7_rests 87 = .ok (.getfield 16, 3) := by decide +kernel
theorem dX7_rests_90 : decode cX7_rests 90 = .ok (.iload 5, 2) := by decide +kernel
theorem dX7_rests_92 : decode cX7_rests 92 = .ok (.iaload, 1) := by decide +kernel
theorem dX7_rests_93 : decode cX7_rests 93 = .ok (.iadd, 1) := by decide +kernel
theorem dX7_rests_94 : decode cX7_rests 94 = .ok (.iaload, 1) := by decide +kernel
theorem dX7_rests_95 : decode cX7_rests 95 = .ok (.iadd, 1) := by decide +kernel
theorem dX7_rests_96 : decode cX7_rests 96 = .ok (.istore_n 3, 1) := by decide +kernel
theorem dX7_rests_97 : decode cX7_rests 97 = .ok (.iinc 4 1, 3) := by decide +kernel
theorem dX7_rests_100 : decode cX7_rests 100 = .ok (.goto (-90), 3) := by decide +kernel
theorem dX7_rests_103 : decode cX7_rests 103 = .ok (.aload_n 0, 1) := by decide +kernel
theorem dX7_rests_104 : decode cX7_rests 104 = .ok (.getfield 16, 3) := by decide +kernel
theorem dX7_rests_107 : decode cX7_rests 107 = .ok (.iload_n 2, 1) := by decide +kernel
theorem dX7_rests_108 : decode cX7_rests 108 = .ok (.iaload, 1) := by decide +kernel
theorem dX7_rests_109 : decode cX7_rests 109 = .ok (.aload_n 0, 1) := by decide +kernel
theorem dX7_rests_110 : decode cX7_rests 110 = .ok (.getfield 16, 3) := by decide +kernel
theorem dX7_rests_113 : decode cX7_rests 113 = .ok (.iload_n 2, 1) := by decide +kernel
theorem dX7_rests_114 : decode cX7_rests 114 = .ok (.iconst 1, 1) := by decide +kernel
theorem dX7_rests_115 : decode cX7_rests 115 = .ok (.iadd, 1) := by decide +kernel
theorem dX7_rests_116 : decode cX7_rests 116 = .ok (.iaload, 1) := by decide +kernel
theorem dX7_rests_117 : decode cX7_rests 117 = .ok (.iadd, 1) := by decide +kernel
theorem dX7_rests_118 : decode cX7_rests 118 = .ok (.iload_n 3, 1) := by decide +kernel
theorem dX7_rests_119 : decode cX7_rests 119 = .ok (.isub, 1) := by decide +kernel
theorem dX7_rests_120 : decode cX7_rests 120 = .ok (.istore 4, 2) := by decide +kernel
theorem dX7_rests_122 : decode cX7_rests 122 = .ok (.aload_n 0, 1) := by decide +kernel
theorem dX7_rests_123 : decode cX7_rests 123 = .ok (.getfield 16, 3) := by decide +kernel
theorem dX7_rests_126 : decode cX7_rests 126 = .ok (.iload_n 2, 1) := by decide +kernel
theorem dX7_rests_127 : decode cX7_rests 127 = .ok (.iload 4, 2) := by decide +kernel
theorem dX7_rests_129 : decode cX7_rests 129 = .ok (.ifCond .ge 7, 3) := by decide +kernel
theorem dX7_rests_132 : decode cX7_rests 132 = .ok (.iconst 0, 1) := by decide +kernel
theorem dX7_rests_133 : decode cX7_rests 133 = .ok (.goto 8, 3) := by decide +kernel
theorem dX7_rests_136 : decode cX7_rests 136 = .ok (.iload 4, 2) := by decide +kernel
theorem dX7_rests_138 : decode cX7_rests 138 = .ok (.invokestatic 155, 3) := by decide +kernel
theorem dX7_rests_141 : decode cX7_rests 141 = .ok (.iastore, 1) := by decide +kernel
theorem dX7_rests_142 : decode cX7_rests 142 = .ok (.return_, 1) := by decide +kernel
theorem dX7_isTooHot_0 : decode cX7_isTooHot 0 = .ok (.aload_n 0, 1) := by decide +kernel
theorem dX7_isTooHot_1 : decode cX7_isTooHot 1 = .ok (.getfield 16, 3) := by decide +kernel
theorem dX7_isTooHot_4 : decode cX7_isTooHot 4 = .ok (.bipush 40, 2) := by decide +kernel
theorem dX7_isTooHot_6 : decode cX7_isTooHot 6 = .ok (.iload_n 1, 1) := by decide +kernel
theorem dX7_isTooHot_7 : decode cX7_isTooHot 7 = .ok (.imul, 1) := by decide +kernel
theorem dX7_isTooHot_8 : decode cX7_isTooHot 8 = .ok (.iconst 2, 1) := by decide +kernel
theorem dX7_isTooHot_9 : decode cX7_isTooHot 9 = .ok (.iadd, 1) := by decide +kernel
theorem dX7_isTooHot_10 : decode cX7_isTooHot 10 = .ok (.iaload, 1) := by decide +kernel
theorem dX7_isTooHot_11 : decode cX7_isTooHot 11 = .ok (.aload_n 0, 1) := by decide +kernel
theorem dX7_isTooHot_12 : decode cX7_isTooHot 12 = .ok (.getfield 22, 3) := by decide +kernel
theorem dX7_isTooHot_15 : decode cX7_isTooHot 15 = .ok (.iload_n 2, 1) := by decide +kernel
theorem dX7_isTooHot_16 : decode cX7_isTooHot 16 = .ok (.bipush 30, 2) := by decide +kernel
theorem dX7_isTooHot_18 : decode cX7_isTooHot 18 = .ok (.idiv, 1) := by decide +kernel
theorem dX7_isTooHot_19 : decode cX7_isTooHot 19 = .ok (.iaload, 1) := by decide +kernel
theorem dX7_isTooHot_20 : decode cX7_isTooHot 20 = .ok (.isub, 1) := by decide +kernel
theorem dX7_isTooHot_21 : decode cX7_isTooHot 21 = .ok (.istore_n 3, 1) := by decide +kernel
theorem dX7_isTooHot_22 : decode cX7_isTooHot 22 = .ok (.aload_n 0, 1) := by decide +kernel
theorem dX7_isTooHot_23 : decode cX7_isTooHot 23 = .ok (.iload_n 1, 1) := by decide +kernel
theorem dX7_isTooHot_24 : decode cX7_isTooHot 24 = .ok (.invokevirtual 86, 3) := by decide +kernel
theorem dX7_isTooHot_27 : decode cX7_isTooHot 27 = .ok (.iload_n 3, 1) := by decide +kernel
theorem dX7_isTooHot_28 : decode cX7_isTooHot 28 = .ok (.ifCond .ge 7, 3) := by decide +kernel
theorem dX7_isTooHot_31 : decode cX7_isTooHot 31 = .ok (.iconst 0, 1) := by decide +kernel
theorem dX7_isTooHot_32 : decode cX7_isTooHot 32 = .ok (.goto 4, 3) := by decide +kernel
theorem dX7_isTooHot_35 : decode cX7_isTooHot 35 = .ok (.iload_n 3, 1) := by decide +kernel
theorem dX7_isTooHot_36 : decode cX7_isTooHot 36 = .ok (.if_icmp .le 7, 3) := by decide +kernel
theorem dX7_isTooHot_39 : decode cX7_isTooHot 39 = .ok (.iconst 1, 1) := by decide +kernel
theorem dX7_isTooHot_40 : decode cX7_isTooHot 40 = .ok (.goto 4, 3) := by decide +kernel
theorem dX7_isTooHot_43 : decode cX7_isTooHot 43 = .ok (.iconst 0, 1) := by decide +kernel
theorem dX7_isTooHot_44 : decode cX7_isTooHot 44 = .ok (.ireturn, 1) := by decide +kernel
theorem dX7_sleeps_0 : decode cX7_sleeps 0 = .ok (.iconst 0, 1) := by decide +kernel
theorem dX7_sleeps_1 : decode cX7_sleeps 1 = .ok (.istore_n 2, 1) := by decide +kernel
theorem dX7_sleeps_2 : decode cX7_sleeps 2 = .ok (.iload_n 2, 1) := by decide +kernel
theorem dX7_sleeps_3 : decode cX7_sleeps 3 = .ok (.aload_n 0, 1) := by decide +kernel
theorem dX7_sleeps_4 : decode cX7_sleeps 4 = .ok (.getfield 64, 3) := by decide +kernel
theorem dX7_sleeps_7 : decode cX7_sleeps 7 = .ok (.if_icmp .ge 14, 3) := by decide +kernel
theorem dX7_sleeps_10 : decode cX7_sleeps 10 = .ok (.aload_n 0, 1) := by decide +kernel
theorem dX7_sleeps_11 : decode cX7_sleeps 11 = .ok (.iload_n 2, 1) := by decide +kernel
theorem dX7_sleeps_12 : decode cX7_sleeps 12 = .ok (.invokevirtual 158, 3) := by decide +kernel
theorem dX7_sleeps_15 : decode cX7_sleeps 15 = .ok (.iinc 2 1, 3) := by decide +kernel
theorem dX7_sleeps_18 : decode cX7_sleeps 18 = .ok (.goto (-16), 3) := by decide +kernel
theorem dX7_sleeps_21 : decode cX7_sleeps 21 = .ok (.iconst 0, 1) := by decide +kernel
theorem dX7_sleeps_22 : decode cX7_sleeps 22 = .ok (.istore_n 2, 1) := by decide +kernel
theorem dX7_sleeps_23 : decode cX7_sleeps 23 = .ok (.iload_n 2, 1) := by decide +kernel
theorem dX7_sleeps_24 : decode cX7_sleeps 24 = .ok (.aload_n 0, 1) := by decide +kernel
theorem dX7_sleeps_25 : decode cX7_sleeps 25 = .ok (.getfield 64, 3) := by decide +kernel
theorem dX7_sleeps_28 : decode cX7_sleeps 28 = .ok (.if_icmp .ge 80, 3) := by decide +kernel
theorem dX7_sleeps_31 : decode cX7_sleeps 31 = .ok (.aload_n 0, 1) := by decide +kernel
theorem dX7_sleeps_32 : decode cX7_sleeps 32 = .ok (.iload_n 2, 1) := by decide +kernel
theorem dX7_sleeps_33 : decode cX7_sleeps 33 = .ok (.iload_n 1, 1) := by decide +kernel
theorem dX7_sleeps_34 : decode cX7_sleeps 34 = .ok (.invokevirtual 162, 3) := by decide +kernel
theorem dX7_sleeps_37 : decode cX7_sleeps 37 = .ok (.ifCond .eq 65, 3) := by decide +kernel
theorem dX7_sleeps_40 : decode cX7_sleeps 40 = .ok (.aload_n 0, 1) := by decide +kernel
theorem dX7_sleeps_41 : decode cX7_sleeps 41 = .ok (.getfield 16, 3) := by decide +kernel
theorem dX7_sleeps_44 : decode cX7_sleeps 44 = .ok (.bipush 40, 2) := by decide +kernel
theorem dX7_sleeps_46 : decode cX7_sleeps 46 = .ok (.iload_n 2, 1) := by decide +kernel
theorem dX7_sleeps_47 : decode cX7_sleeps 47 = .ok (.imul, 1) := by decide +kernel
theorem dX7_sleeps_48 : decode cX7_sleeps 48 = .ok (.iconst 0, 1) := by decide +kernel
theorem dX7_sleeps_49 : decode cX7_sleeps 49 = .ok (.iastore, 1) := by decide +kernel
theorem dX7_sleeps_50 : decode cX7_sleeps 50 = .ok (.aload_n 0, 1) := by decide +kernel
theorem dX7_sleeps_51 : decode cX7_sleeps 51 = .ok (.getfield 16, 3) := by decide +kernel
theorem dX7_sleeps_54 : decode cX7_sleeps 54 = .ok (.bipush 40, 2) := by decide +kernel
theorem dX7_sleeps_56 : decode cX7_sleeps 56 = .ok (.iload_n 2, 1) := by decide +kernel
theorem dX7_sleeps_57 : decode cX7_sleeps 57 = .ok (.imul, 1) := by decide +kernel
theorem dX7_sleeps_58 : decode cX7_sleeps 58 = .ok (.iconst 5, 1) := by decide +kernel
theorem dX7_sleeps_59 : decode cX7_sleeps 59 = .ok (.iadd, 1) := by decide +kernel
theorem dX7_sleeps_60 : decode cX7_sleeps 60 = .ok (.iconst 1, 1) := by decide +kernel
theorem dX7_sleeps_61 : decode cX7_sleeps 61 = .ok (.iastore, 1) := by decide +kernel
theorem dX7_sleeps_62 : decode cX7_sleeps 62 = .ok (.aload_n 0, 1) := by decide +kernel
theorem dX7_sleeps_63 : decode cX7_sleeps 63 = .ok (.getfield 16, 3) := by decide +kernel
theorem dX7_sleeps_66 : decode cX7_sleeps 66 = .ok (.bipush 40, 2) := by decide +kernel
theorem dX7_sleeps_68 : decode cX7_sleeps 68 = .ok (.iload_n 2, 1) := by decide +kernel
theorem dX7_sleeps_69 : decode cX7_sleeps 69 = .ok (.imul, 1) := by decide +kernel
theorem dX7_sleeps_70 : decode cX7_sleeps 70 = .ok (.iconst 4, 1) := by decide +kernel
theorem dX7_sleeps_71 : decode cX7_sleeps 71 = .ok (.iadd, 1) := by decide +kernel
theorem dX7_sleeps_72 : decode cX7_sleeps 72 = .ok (.aload_n 0, 1) := by decide +kernel
theorem dX7_sleeps_73 : decode cX7_sleeps 73 = .ok (.getfield 16, 3) := by decide +kernel
theorem dX7_sleeps_76 : decode cX7_sleeps 76 = .ok (.bipush 40, 2) := by decide +kernel
theorem dX7_sleeps_78 : decode cX7_sleeps 78 = .ok (.iload_n 2, 1) := by decide +kernel
theorem dX7_sleeps_79 : decode cX7_sleeps 79 = .ok (.imul, 1) := by decide +kernel
theorem dX7_sleeps_80 : decode cX7_sleeps 80 = .ok (.iconst 4, 1) := by decide +kernel
theorem dX7_sleeps_81 : decode cX7_sleeps 81 = .ok (.iadd, 1) := by decide +kernel
theorem dX7_sleeps_82 : decode cX7_sleeps 82 = .ok (.iaload, 1) := by decide +kernel
theorem dX7_sleeps_83 : decode cX7_sleeps 83 = .ok (.ifCond .ge 7, 3) := by decide +kernel
theorem dX7_sleeps_86 : decode cX7_sleeps 86 = .ok (.iload_n 1, 1) := by decide +kernel
theorem dX7_sleeps_87 : decode cX7_sleeps 87 = .ok (.goto 14, 3) := by decide +kernel
theorem dX7_sleeps_90 : decode cX7_sleeps 90 = .ok (.aload_n 0, 1) := by decide +kernel
theorem dX7_sleeps_91 : decode cX7_sleeps 91 = .ok (.getfield 16, 3) := by decide +kernel
theorem dX7_sleeps_94 : decode cX7_sleeps 94 = .ok (.bipush 40, 2) := by decide +kernel
theorem dX7_sleeps_96 : decode cX7_sleeps 96 = .ok (.iload_n 2, 1) := by decide +kernel
theorem dX7_sleeps_97 : decode cX7_sleeps 97 = .ok (.imul, 1) := by decide +kernel
theorem dX7_sleeps_98 : decode cX7_sleeps 98 = .ok (.iconst 4, 1) := by decide +kernel
theorem dX7_sleeps_99 : decode cX7_sleeps 99 = .ok (.iadd, 1) := by decide +kernel
theorem dX7_sleeps_100 : decode cX7_sleeps 100 = .ok (.iaload, 1) := by decide +kernel
theorem dX7_sleeps_101 : decode cX7_sleeps 101 = .ok (.iastore, 1) := by decide +kernel
theorem dX7_sleeps_102 : decode cX7_sleeps 102 = .ok (.iinc 2 1, 3) := by decide +kernel
theorem dX7_sleeps_105 : decode cX7_sleeps 105 = .ok (.goto (-82), 3) := by decide +kernel
theorem dX7_sleeps_108 : decode cX7_sleeps 108 = .ok (.return_, 1) := by decide +kernel
theorem dX7_nights_0 : decode cX7_nights 0 = .ok (.iload_n 1, 1) := by decide +kernel
theorem dX7_nights_1 : decode cX7_nights 1 = .ok (.i2l, 1) := by decide +kernel
theorem dX7_nights_2 : decode cX7_nights 2 = .ok (.lconst 1, 1) := by decide +kernel
theorem dX7_nights_3 : decode cX7_nights 3 = .ok (.ldc2_w 78, 3) := by decide +kernel
theorem dX7_nights_6 : decode cX7_nights 6 = .ok (.invokestatic 68, 3) := by decide +kernel
theorem dX7_nights_9 : decode cX7_nights 9 = .ok (.ifCond .ne 5, 3) := by decide +kernel
theorem dX7_nights_12 : decode cX7_nights 12 = .ok (.iconst (-1), 1) := by decide +kernel
theorem dX7_nights_13 : decode cX7_nights 13 = .ok (.ireturn, 1) := by decide +kernel
theorem dX7_nights_14 : decode cX7_nights 14 = .ok (.aload_n 0, 1) := by decide +kernel
theorem dX7_nights_15 : decode cX7_nights 15 = .ok (.getfield 145, 3) := by decide +kernel
theorem dX7_nights_18 : decode cX7_nights 18 = .ok (.iload_n 1, 1) := by decide +kernel
theorem dX7_nights_19 : decode cX7_nights 19 = .ok (.iadd, 1) := by decide +kernel
theorem dX7_nights_20 : decode cX7_nights 20 = .ok (.sipush 359, 3) := by decide +kernel
theorem dX7_nights_23 : decode cX7_nights 23 = .ok (.if_icmp .le 6, 3) := by decide +kernel
theorem dX7_nights_26 : decode cX7_nights 26 = .ok (.bipush (-3), 2) := by decide +kernel
theorem dX7_nights_28 : decode cX7_nights 28 = .ok (.ireturn, 1) := by decide +kernel
theorem dX7_nights_29 : decode cX7_nights 29 = .ok (.aload_n 0, 1) := by decide +kernel
theorem dX7_nights_30 : decode cX7_nights 30 = .ok (.aload_n 0, 1) := by decide +kernel
theorem dX7_nights_31 : decode cX7_nights 31 = .ok (.getfield 7, 3) := by decide +kernel
theorem dX7_nights_34 : decode cX7_nights 34 = .ok (.putfield 16, 3) := by decide +kernel
theorem dX7_nights_37 : decode cX7_nights 37 = .ok (.iconst 0, 1) := by decide +kernel
theorem dX7_nights_38 : decode cX7_nights 38 = .ok (.istore_n 2, 1) := by decide +kernel
theorem dX7_nights_39 : decode cX7_nights 39 = .ok (.iload_n 2, 1) := by decide +kernel
theorem dX7_nights_40 : decode cX7_nights 40 = .ok (.iload_n 1, 1) := by decide +kernel
theorem dX7_nights_41 : decode cX7_nights 41 = .ok (.if_icmp .ge 27, 3) := by decide +kernel
theorem dX7_nights_44 : decode cX7_nights 44 = .ok (.aload_n 0, 1) := by decide +kernel
theorem dX7_nights_45 : decode cX7_nights 45 = .ok (.dup, 1) := by decide +kernel
theorem dX7_nights_46 : decode cX7_nights 46 = .ok (.getfield 145, 3) := by decide +kernel
theorem dX7_nights_49 : decode cX7_nights 49 = .ok (.iconst 1, 1) := by decide +kernel
theorem dX7_nights_50 : decode cX7_nights 50 = .ok (.iadd, 1) := by decide +kernel
theorem dX7_nights_51 : decode cX7_nights 51 = .ok (.putfield 145, 3) := by decide +kernel
theorem dX7_nights_54 : decode cX7_nights 54 = .ok (.aload_n 0, 1) := by decide +kernel
theorem dX7_nights_55 : decode cX7_nights 55 = .ok (.aload_n 0, 1) := by decide +kernel
theorem dX7_nights_56 : decode cX7_nights 56 = .ok (.getfield 145, 3) := by decide +kernel
theorem dX7_nights_59 : decode cX7_nights 59 = .ok (.invokevirtual 165, 3) := by decide +kernel
theorem dX7_nights_62 : decode cX7_nights 62 = .ok (.iinc 2 1, 3) := by decide +kernel
theorem dX7_nights_65 : decode cX7_nights 65 = .ok (.goto (-26), 3) := by decide +kernel
theorem dX7_nights_68 : decode cX7_nights 68 = .ok (.aload_n 0, 1) := by decide +kernel
theorem dX7_nights_69 : decode cX7_nights 69 = .ok (.getfield 145, 3) := by decide +kernel
theorem dX7_nights_72 : decode cX7_nights 72 = .ok (.ireturn, 1) := by decide +kernel
theorem dX7_take_0 : decode cX7_take 0 = .ok (.aload_n 0, 1) := by decide +kernel
theorem dX7_take_1 : decode cX7_take 1 = .ok (.iload_n 1, 1) := by decide +kernel
theorem dX7_take_2 : decode cX7_take 2 = .ok (.invokevirtual 80, 3) := by decide +kernel
theorem dX7_take_5 : decode cX7_take 5 = .ok (.ifCond .eq 48, 3) := by decide +kernel
theorem dX7_take_8 : decode cX7_take 8 = .ok (.iload_n 2, 1) := by decide +kernel
theorem dX7_take_9 : decode cX7_take 9 = .ok (.invokestatic 97, 3) := by decide +kernel
theorem dX7_take_12 : decode cX7_take 12 = .ok (.ifCond .eq 41, 3) := by decide +kernel
theorem dX7_take_15 : decode cX7_take 15 = .ok (.iload_n 3, 1) := by decide +kernel
theorem dX7_take_16 : decode cX7_take 16 = .ok (.i2l, 1) := by decide +kernel
theorem dX7_take_17 : decode cX7_take 17 = .ok (.lconst 1, 1) := by decide +kernel
theorem dX7_take_18 : decode cX7_take 18 = .ok (.ldc2_w 74, 3) := by decide +kernel
theorem dX7_take_21 : decode cX7_take 21 = .ok (.invokestatic 68, 3) := by decide +kernel
theorem dX7_take_24 : decode cX7_take 24 = .ok (.ifCond .eq 29, 3) := by decide +kernel
theorem dX7_take_27 : decode cX7_take 27 = .ok (.iload 4, 2) := by decide +kernel
theorem dX7_take_29 : decode cX7_take 29 = .ok (.i2l, 1) := by decide +kernel
theorem dX7_take_30 : decode cX7_take 30 = .ok (.lconst 0, 1) := by decide +kernel
theorem dX7_take_31 : decode cX7_take 31 = .ok (.ldc2_w 168, 3) := by decide +kernel
theorem dX7_take_34 : decode cX7_take 34 = .ok (.invokestatic 68, 3) := by decide +kernel
theorem dX7_take_37 : decode cX7_take 37 = .ok (.ifCond .eq 16, 3) := by decide +kernel
theorem dX7_take_40 : decode cX7_take 40 = .ok (.iload 5, 2) := by decide +kernel
theorem dX7_take_42 : decode cX7_take 42 = .ok (.i2l, 1) := by decide +kernel
theorem dX7_take_43 : decode cX7_take 43 = .ok (.lconst 1, 1) := by decide +kernel
theorem dX7_take_44 : decode cX7_take 44 = .ok (.ldc2_w 100, 3) := by decide +kernel
theorem dX7_take_47 : decode cX7_take 47 = .ok (.invokestatic 68, 3) := by decide +kernel
theorem dX7_take_50 : decode cX7_take 50 = .ok (.ifCond .ne 5, 3) := by decide +kernel
theorem dX7_take_53 : decode cX7_take 53 = .ok (.iconst (-1), 1) := by decide +kernel
theorem dX7_take_54 : decode cX7_take 54 = .ok (.ireturn, 1) := by decide +kernel
theorem dX7_take_55 : decode cX7_take 55 = .ok (.bipush 40, 2) := by decide +kernel
theorem dX7_take_57 : decode cX7_take 57 = .ok (.iload_n 1, 1) := by decide +kernel
theorem dX7_take_58 : decode cX7_take 58 = .ok (.imul, 1) := by decide +kernel
theorem dX7_take_59 : decode cX7_take 59 = .ok (.istore 6, 2) := by decide +kernel
theorem dX7_take_61 : decode cX7_take 61 = .ok (.aload_n 0, 1) := by decide +kernel
theorem dX7_take_62 : decode cX7_take 62 = .ok (.getfield 7, 3) := by decide +kernel
theorem dX7_take_65 : decode cX7_take 65 = .ok (.iload 6, 2) := by decide +kernel
theorem dX7_take_67 : decode cX7_take 67 = .ok (.iconst 3, 1) := by decide +kernel
theorem dX7_take_68 : decode cX7_take 68 = .ok (.iadd, 1) := by decide +kernel
theorem dX7_take_69 : decode cX7_take 69 = .ok (.iaload, 1) := by decide +kernel
theorem dX7_take_70 : decode cX7_take 70 = .ok (.istore 7, 2) := by decide +kernel
theorem dX7_take_72 : decode cX7_take 72 = .ok (.iload 7, 2) := by decide +kernel
theorem dX7_take_74 : decode cX7_take 74 = .ok (.bipush 8, 2) := by decide +kernel
theorem dX7_take_76 : decode cX7_take 76 = .ok (.if_icmp .ne 6, 3) := by decide +kernel
theorem dX7_take_79 : decode cX7_take 79 = .ok (.bipush (-3), 2) := by decide +kernel
theorem dX7_take_81 : decode cX7_take 81 = .ok (.ireturn, 1) := by decide +kernel
theorem dX7_take_82 : decode cX7_take 82 = .ok (.aload_n 0, 1) := by decide +kernel
theorem dX7_take_83 : decode cX7_take 83 = .ok (.getfield 7, 3) := by decide +kernel
theorem dX7_take_86 : decode cX7_take 86 = .ok (.iload 6, 2) := by decide +kernel
theorem dX7_take_88 : decode cX7_take 88 = .ok (.bipush 8, 2) := by decide +kernel
theorem dX7_take_90 : decode cX7_take 90 = .ok (.iadd, 1) := by decide +kernel
theorem dX7_take_91 : decode cX7_take 91 = .ok (.iconst 4, 1) := by decide +kernel
theorem dX7_take_92 : decode cX7_take 92 = .ok (.iload 7, 2) := by decide +kernel
theorem dX7_take_94 : decode cX7_take 94 = .ok (.imul, 1) := by decide +kernel
theorem dX7_take_95 : decode cX7_take 95 = .ok (.iadd, 1) := by decide +kernel
theorem dX7_take_96 : decode cX7_take 96 = .ok (.iload_n 2, 1) := by decide +kernel
theorem dX7_take_97 : decode cX7_take 97 = .ok (.iastore, 1) := by decide +kernel
theorem dX7_take_98 : decode cX7_take 98 = .ok (.aload_n 0, 1) := by decide +kernel
theorem dX7_take_99 : decode cX7_take 99 = .ok (.getfield 7, 3) := by decide +kernel
theorem dX7_take_102 : decode cX7_take 102 = .ok (.iload 6, 2) := by decide +kernel
theorem dX7_take_104 : decode cX7_take 104 = .ok (.bipush 8, 2) := by decide +kernel
theorem dX7_take_106 : decode cX7_take 106 = .ok (.iadd, 1) := by decide +kernel
theorem dX7_take_107 : decode cX7_take 107 = .ok (.iconst 4, 1) := by decide +kernel
theorem dX7_take_108 : decode cX7_take 108 = .ok (.iload 7, 2) := by decide +kernel
theorem dX7_take_110 : decode cX7_take 110 = .ok (.imul, 1) := by decide +kernel
theorem dX7_take_111 : decode cX7_take 111 = .ok (.iadd, 1) := by decide +kernel
theorem dX7_take_112 : decode cX7_take 112 = .ok (.iconst 1, 1) := by decide +kernel
theorem dX7_take_113 : decode cX7_take 113 = .ok (.iadd, 1) := by decide +kernel
theorem dX7_take_114 : decode cX7_take 114 = .ok (.iload_n 3, 1) := by decide +kernel
theorem dX7_take_115 : decode cX7_take 115 = .ok (.iastore, 1) := by decide +kernel
theorem dX7_take_116 : decode cX7_take 116 = .ok (.aload_n 0, 1) := by decide +kernel
theorem dX7_take_117 : decode cX7_take 117 = .ok (.getfield 7, 3) := by decide +kernel
theorem dX7_take_120 : decode cX7_take 120 = .ok (.iload 6, 2) := by decide +kernel
theorem dX7_take_122 : decode cX7_take 122 = .ok (.bipush 8, 2) := by decide +kernel
theorem dX7_take_124 : decode cX7_take 124 = .ok (.iadd, 1) := by decide +kernel
theorem dX7_take_125 : decode cX7_take 125 = .ok (.iconst 4, 1) := by decide +kernel
theorem dX7_take_126 : decode cX7_take 126 = .ok (.iload 7, 2) := by decide +kernel
theorem dX7_take_128 : decode cX7_take 128 = .ok (.imul, 1) := by decide +kernel
theorem dX7_take_129 : decode cX7_take 129 = .ok (.iadd, 1) := by decide +kernel
theorem dX7_take_130 : decode cX7_take 130 = .ok (.iconst 2, 1) := by decide +kernel
theorem dX7_take_131 : decode cX7_take 131 = .ok (.iadd, 1) := by decide +kernel
theorem dX7_take_132 : decode cX7_take 132 = .ok (.iload 4, 2) := by decide +kernel
theorem dX7_take_134 : decode cX7_take 134 = .ok (.iastore, 1) := by decide +kernel
theorem dX7_take_135 : decode cX7_take 135 = .ok (.aload_n 0, 1) := by decide +kernel
theorem dX7_take_136 : decode cX7_take 136 = .ok (.getfield 7, 3) := by decide +kernel
theorem dX7_take_139 : decode cX7_take 139 = .ok (.iload 6, 2) := by decide +kernel
theorem dX7_take_141 : decode cX7_take 141 = .ok (.bipush 8, 2) := by decide +kernel
theorem dX7_take_143 : decode cX7_take 143 = .ok (.iadd, 1) := by decide +kernel
theorem dX7_take_144 : decode cX7_take 144 = .ok (.iconst 4, 1) := by decide +kernel
theorem dX7_take_145 : decode cX7_take 145 = .ok (.iload 7, 2) := by decide +kernel
theorem dX7_take_147 : decode cX7_take 147 = .ok (.imul, 1) := by decide +kernel
theorem dX7_take_148 : decode cX7_take 148 = .ok (.iadd, 1) := by decide +kernel
theorem dX7_take_149 : decode cX7_take 149 = .ok (.iconst 3, 1) := by decide +kernel
theorem dX7_take_150 : decode cX7_take 150 = .ok (.iadd, 1) := by decide +kernel
theorem dX7_take_151 : decode cX7_take 151 = .ok (.iload 5, 2) := by decide +kernel
theorem dX7_take_153 : decode cX7_take 153 = .ok (.iastore, 1) := by decide +kernel
theorem dX7_take_154 : decode cX7_take 154 = .ok (.aload_n 0, 1) := by decide +kernel
theorem dX7_take_155 : decode cX7_take 155 = .ok (.getfield 7, 3) := by decide +kernel
theorem dX7_take_158 : decode cX7_take 158 = .ok (.iload 6, 2) := by decide +kernel
theorem dX7_take_160 : decode cX7_take 160 = .ok (.aload_n 0, 1) := by decide +kernel
theorem dX7_take_161 : decode cX7_take 161 = .ok (.getfield 7, 3) := by decide +kernel
theorem dX7_take_164 : decode cX7_take 164 = .ok (.iload 6, 2) := by decide +kernel
theorem dX7_take_166 : decode cX7_take 166 = .ok (.iaload, 1) := by decide +kernel
theorem dX7_take_167 : decode cX7_take 167 = .ok (.iload_n 3, 1) := by decide +kernel
theorem dX7_take_168 : decode cX7_take 168 = .ok (.iadd, 1) := by decide +kernel
theorem dX7_take_169 : decode cX7_take 169 = .ok (.invokestatic 155, 3) := by decide +kernel
theorem dX7_take_172 : decode cX7_take 172 = .ok (.iastore, 1) := by decide +kernel
theorem dX7_take_173 : decode cX7_take 173 = .ok (.aload_n 0, 1) := by decide +kernel
theorem dX7_take_174 : decode cX7_take 174 = .ok (.getfield 7, 3) := by decide +kernel
theorem dX7_take_177 : decode cX7_take 177 = .ok (.iload 6, 2) := by decide +kernel
theorem dX7_take_179 : decode cX7_take 179 = .ok (.iconst 3, 1) := by decide +kernel
theorem dX7_take_180 : decode cX7_take 180 = .ok (.iadd, 1) := by decide +kernel
theorem dX7_take_181 : decode cX7_take 181 = .ok (.dup2, 1) := by decide +kernel
theorem dX7_take_182 : decode cX7_take 182 = .ok (.iaload, 1) := by decide +kernel
theorem dX7_take_183 : decode cX7_take 183 = .ok (.iconst 1, 1) := by decide +kernel
theorem dX7_take_184 : decode cX7_take 184 = .ok (.iadd, 1) := by decide +kernel
theorem dX7_take_185 : decode cX7_take 185 = .ok (.iastore, 1) := by decide +kernel
theorem dX7_take_186 : decode cX7_take 186 = .ok (.iload 7, 2) := by decide +kernel
theorem dX7_take_188 : decode cX7_take 188 = .ok (.iconst 1, 1) := by decide +kernel
theorem dX7_take_189 : decode cX7_take 189 = .ok (.iadd, 1) := by decide +kernel
theorem dX7_take_190 : decode cX7_take 190 = .ok (.ireturn, 1) := by decide +kernel
theorem dX7_mayOff_0 : decode cX7_mayOff 0 = .ok (.aload_n 0, 1) := by decide +kernel
theorem dX7_mayOff_1 : decode cX7_mayOff 1 = .ok (.getfield 25, 3) := by decide +kernel
theorem dX7_mayOff_4 : decode cX7_mayOff 4 = .ok (.iconst 0, 1) := by decide +kernel
theorem dX7_mayOff_5 : decode cX7_mayOff 5 = .ok (.iaload, 1) := by decide +kernel
theorem dX7_mayOff_6 : decode cX7_mayOff 6 = .ok (.ifCond .ne 18, 3) := by decide +kernel
theorem dX7_mayOff_9 : decode cX7_mayOff 9 = .ok (.iload_n 1, 1) := by decide +kernel
theorem dX7_mayOff_10 : decode cX7_mayOff 10 = .ok (.iload_n 2, 1) := by decide +kernel
theorem dX7_mayOff_11 : decode cX7_mayOff 11 = .ok (.iconst 1, 1) := by decide +kernel
theorem dX7_mayOff_12 : decode cX7_mayOff 12 = .ok (.isub, 1) := by decide +kernel
theorem dX7_mayOff_13 : decode cX7_mayOff 13 = .ok (.if_icmp .ne 7, 3) := by decide +kernel
theorem dX7_mayOff_16 : decode cX7_mayOff 16 = .ok (.iconst 1, 1) := by decide +kernel
theorem dX7_mayOff_17 : decode cX7_mayOff 17 = .ok (.goto 43, 3) := by decide +kernel
theorem dX7_mayOff_20 : decode cX7_mayOff 20 = .ok (.iconst 0, 1) := by decide +kernel
theorem dX7_mayOff_21 : decode cX7_mayOff 21 = .ok (.goto 39, 3) := by decide +kernel
theorem dX7_mayOff_24 : decode cX7_mayOff 24 = .ok (.aload_n 0, 1) := by decide +kernel
theorem dX7_mayOff_25 : decode cX7_mayOff 25 = .ok (.getfield 25, 3) := by decide +kernel
theorem dX7_mayOff_28 : decode cX7_mayOff 28 = .ok (.iconst 0, 1) := by decide +kernel
theorem dX7_mayOff_29 : decode cX7_mayOff 29 = .ok (.iaload, 1) := by decide +kernel
theorem dX7_mayOff_30 : decode cX7_mayOff 30 = .ok (.iconst 1, 1) := by decide +kernel
theorem dX7_mayOff_31 : decode cX7_mayOff 31 = .ok (.if_icmp .ne 15, 3) := by decide +kernel
theorem dX7_mayOff_34 : decode cX7_mayOff 34 = .ok (.iload_n 1, 1) := by decide +kernel
theorem dX7_mayOff_35 : decode cX7_mayOff 35 = .ok (.ifCond .ne 7, 3) := by decide +kernel
theorem dX7_mayOff_38 : decode cX7_mayOff 38 = .ok (.iconst 1, 1) := by decide +kernel
theorem dX7_mayOff_39 : decode cX7_mayOff 39 = .ok (.goto 21, 3) := by decide +kernel
theorem dX7_mayOff_42 : decode cX7_mayOff 42 = .ok (.iconst 0, 1) := by decide +kernel
theorem dX7_mayOff_43 : decode cX7_mayOff 43 = .ok (.goto 17, 3) := by decide +kernel
theorem dX7_mayOff_46 : decode cX7_mayOff 46 = .ok (.iload_n 1, 1) := by decide +kernel
theorem dX7_mayOff_47 : decode cX7_mayOff 47 = .ok (.ifCond .gt 8, 3) := by decide +kernel
theorem dX7_mayOff_50 : decode cX7_mayOff 50 = .ok (.iload_n 2, 1) := by decide +kernel
theorem dX7_mayOff_51 : decode cX7_mayOff 51 = .ok (.iconst 1, 1) := by decide +kernel
theorem dX7_mayOff_52 : decode cX7_mayOff 52 = .ok (.if_icmp .ne 7, 3) := by decide +kernel
theorem dX7_mayOff_55 : decode cX7_mayOff 55 = .ok (.iconst 1, 1) := by decide +kernel
theorem dX7_mayOff_56 : decode cX7_mayOff 56 = .ok (.goto 4, 3) := by decide +kernel
theorem dX7_mayOff_59 : decode cX7_mayOff 59 = .ok (.iconst 0, 1) := by decide +kernel
theorem dX7_mayOff_60 : decode cX7_mayOff 60 = .ok (.ireturn, 1) := by decide +kernel
theorem dX7_off_0 : decode cX7_off 0 = .ok (.bipush 40, 2) := by decide +kernel
theorem dX7_off_2 : decode cX7_off 2 = .ok (.iload_n 1, 1) := by decide +kernel
theorem dX7_off_3 : decode cX7_off 3 = .ok (.imul, 1) := by decide +kernel
theorem dX7_off_4 : decode cX7_off 4 = .ok (.istore_n 3, 1) := by decide +kernel
theorem dX7_off_5 : decode cX7_off 5 = .ok (.aload_n 0, 1) := by decide +kernel
theorem dX7_off_6 : decode cX7_off 6 = .ok (.getfield 16, 3) := by decide +kernel
theorem dX7_off_9 : decode cX7_off 9 = .ok (.iload_n 3, 1) := by decide +kernel
theorem dX7_off_10 : decode cX7_off 10 = .ok (.iconst 3, 1) := by decide +kernel
theorem dX7_off_11 : decode cX7_off 11 = .ok (.iadd, 1) := by decide +kernel
theorem dX7_off_12 : decode cX7_off 12 = .ok (.dup2, 1) := by decide +kernel
theorem dX7_off_13 : decode cX7_off 13 = .ok (.iaload, 1) := by decide +kernel
theorem dX7_off_14 : decode cX7_off 14 = .ok (.iconst 1, 1) := by decide +kernel
theorem dX7_off_15 : decode cX7_off 15 = .ok (.isub, 1) := by decide +kernel
theorem dX7_off_16 : decode cX7_off 16 = .ok (.iastore, 1) := by decide +kernel
theorem dX7_off_17 : decode cX7_off 17 = .ok (.iconst 4, 1) := by decide +kernel
theorem dX7_off_18 : decode cX7_off 18 = .ok (.iload_n 2, 1) := by decide +kernel
theorem dX7_off_19 : decode cX7_off 19 = .ok (.imul, 1) := by decide +kernel
theorem dX7_off_20 : decode cX7_off 20 = .ok (.istore 4, 2) := by decide +kernel
theorem dX7_off_22 : decode cX7_off 22 = .ok (.iload 4, 2) := by decide +kernel
theorem dX7_off_24 : decode cX7_off 24 = .ok (.iconst 4, 1) := by decide +kernel
theorem dX7_off_25 : decode cX7_off 25 = .ok (.aload_n 0, 1) := by decide +kernel
theorem dX7_off_26 : decode cX7_off 26 = .ok (.getfield 16, 3) := by decide +kernel
theorem dX7_off_29 : decode cX7_off 29 = .ok (.iload_n 3, 1) := by decide +kernel
theorem dX7_off_30 : decode cX7_off 30 = .ok (.iconst 3, 1) := by decide +kernel
theorem dX7_off_31 : decode cX7_off 31 = .ok (.iadd, 1) := by decide +kernel
theorem dX7_off_32 : decode cX7_off 32 = .ok (.iaload, 1) := by decide +kernel
theorem dX7_off_33 : decode cX7_off 33 = .ok (.imul, 1) := by decide +kernel
theorem dX7_off_34 : decode cX7_off 34 = .ok (.if_icmp .ge 33, 3) := by decide +kernel
theorem dX7_off_37 : decode cX7_off 37 = .ok (.aload_n 0, 1) := by decide +kernel
theorem dX7_off_38 : decode cX7_off 38 = .ok (.getfield 16, 3) := by decide +kernel
theorem dX7_off_41 : decode cX7_off 41 = .ok (.iload_n 3, 1) := by decide +kernel
theorem dX7_off_42 : decode cX7_off 42 = .ok (.bipush 8, 2) := by decide +kernel
theorem dX7_off_44 : decode cX7_off 44 = .ok (.iadd, 1) := by decide +kernel
theorem dX7_off_45 : decode cX7_off 45 = .ok (.iload 4, 2) := by decide +kernel
theorem dX7_off_47 : decode cX7_off 47 = .ok (.iadd, 1) := by decide +kernel
theorem dX7_off_48 : decode cX7_off 48 = .ok (.aload_n 0, 1) := by decide +kernel
theorem dX7_off_49 : decode cX7_off 49 = .ok (.getfield 16, 3) := by decide +kernel
theorem dX7_off_52 : decode cX7_off 52 = .ok (.iload_n 3, 1) := by decide +kernel
theorem dX7_off_53 : decode cX7_off 53 = .ok (.bipush 12, 2) := by decide +kernel
theorem dX7_off_55 : decode cX7_off 55 = .ok (.iadd, 1) := by decide +kernel
theorem dX7_off_56 : decode cX7_off 56 = .ok (.iload 4, 2) := by decide +kernel
theorem dX7_off_58 : decode cX7_off 58 = .ok (.iadd, 1) := by decide +kernel
theorem dX7_off_59 : decode cX7_off 59 = .ok (.iaload, 1) := by decide +kernel
theorem dX7_off_60 : decode cX7_off 60 = .ok (.iastore, 1) := by decide +kernel
theorem dX7_off_61 : decode cX7_off 61 = .ok (.iinc 4 1, 3) := by decide +kernel
theorem dX7_off_64 : decode cX7_off 64 = .ok (.goto (-42), 3) := by decide +kernel
theorem dX7_off_67 : decode cX7_off 67 = .ok (.return_, 1) := by decide +kernel
theorem dX7_pay_0 : decode cX7_pay 0 = .ok (.aload_n 0, 1) := by decide +kernel
theorem dX7_pay_1 : decode cX7_pay 1 = .ok (.iload_n 1, 1) := by decide +kernel
theorem dX7_pay_2 : decode cX7_pay 2 = .ok (.iload_n 2, 1) := by decide +kernel
theorem dX7_pay_3 : decode cX7_pay 3 = .ok (.invokevirtual 91, 3) := by decide +kernel
theorem dX7_pay_6 : decode cX7_pay 6 = .ok (.ifCond .ne 5, 3) := by decide +kernel
theorem dX7_pay_9 : decode cX7_pay 9 = .ok (.iconst (-1), 1) := by decide +kernel
theorem dX7_pay_10 : decode cX7_pay 10 = .ok (.ireturn, 1) := by decide +kernel
theorem dX7_pay_11 : decode cX7_pay 11 = .ok (.bipush 40, 2) := by decide +kernel
theorem dX7_pay_13 : decode cX7_pay 13 = .ok (.iload_n 1, 1) := by decide +kernel
theorem dX7_pay_14 : decode cX7_pay 14 = .ok (.imul, 1) := by decide +kernel
theorem dX7_pay_15 : decode cX7_pay 15 = .ok (.istore_n 3, 1) := by decide +kernel
theorem dX7_pay_16 : decode cX7_pay 16 = .ok (.aload_n 0, 1) := by decide +kernel
theorem dX7_pay_17 : decode cX7_pay 17 = .ok (.iload_n 2, 1) := by decide +kernel
theorem dX7_pay_18 : decode cX7_pay 18 = .ok (.aload_n 0, 1) := by decide +kernel
theorem dX7_pay_19 : decode cX7_pay 19 = .ok (.getfield 7, 3) := by decide +kernel
theorem dX7_pay_22 : decode cX7_pay 22 = .ok (.iload_n 3, 1) := by decide +kernel
theorem dX7_pay_23 : decode cX7_pay 23 = .ok (.iconst 3, 1) := by decide +kernel
theorem dX7_pay_24 : decode cX7_pay 24 = .ok (.iadd, 1) := by decide +kernel
theorem dX7_pay_25 : decode cX7_pay 25 = .ok (.iaload, 1) := by decide +kernel
theorem dX7_pay_26 : decode cX7_pay 26 = .ok (.invokevirtual 170, 3) := by decide +kernel
theorem dX7_pay_29 : decode cX7_pay 29 = .ok (.ifCond .ne 6, 3) := by decide +kernel
theorem dX7_pay_32 : decode cX7_pay 32 = .ok (.bipush (-2), 2) := by decide +kernel
theorem dX7_pay_34 : decode cX7_pay 34 = .ok (.ireturn, 1) := by decide +kernel
theorem dX7_pay_35 : decode cX7_pay 35 = .ok (.aload_n 0, 1) := by decide +kernel
theorem dX7_pay_36 : decode cX7_pay 36 = .ok (.getfield 7, 3) := by decide +kernel
theorem dX7_pay_39 : decode cX7_pay 39 = .ok (.iload_n 3, 1) := by decide +kernel
theorem dX7_pay_40 : decode cX7_pay 40 = .ok (.bipush 8, 2) := by decide +kernel
theorem dX7_pay_42 : decode cX7_pay 42 = .ok (.iadd, 1) := by decide +kernel
theorem dX7_pay_43 : decode cX7_pay 43 = .ok (.iconst 4, 1) := by decide +kernel
theorem dX7_pay_44 : decode cX7_pay 44 = .ok (.iload_n 2, 1) := by decide +kernel
theorem dX7_pay_45 : decode cX7_pay 45 = .ok (.imul, 1) := by decide +kernel
theorem dX7_pay_46 : decode cX7_pay 46 = .ok (.iadd, 1) := by decide +kernel
theorem dX7_pay_47 : decode cX7_pay 47 = .ok (.iconst 1, 1) := by decide +kernel
theorem dX7_pay_48 : decode cX7_pay 48 = .ok (.iadd, 1) := by decide +kernel
theorem dX7_pay_49 : decode cX7_pay 49 = .ok (.iaload, 1) := by decide +kernel
theorem dX7_pay_50 : decode cX7_pay 50 = .ok (.istore 4, 2) := by decide +kernel
theorem dX7_pay_52 : decode cX7_pay 52 = .ok (.aload_n 0, 1) := by decide +kernel
theorem dX7_pay_53 : decode cX7_pay 53 = .ok (.getfield 7, 3) := by decide +kernel
theorem dX7_pay_56 : decode cX7_pay 56 = .ok (.iload_n 3, 1) := by decide +kernel
theorem dX7_pay_57 : decode cX7_pay 57 = .ok (.iaload, 1) := by decide +kernel
theorem dX7_pay_58 : decode cX7_pay 58 = .ok (.iload 4, 2) := by decide +kernel
theorem dX7_pay_60 : decode cX7_pay 60 = .ok (.if_icmp .ge 6, 3) := by decide +kernel
theorem dX7_pay_63 : decode cX7_pay 63 = .ok (.bipush (-4), 2) := by decide +kernel
theorem dX7_pay_65 : decode cX7_pay 65 = .ok (.ireturn, 1) := by decide +kernel
theorem dX7_pay_66 : decode cX7_pay 66 = .ok (.aload_n 0, 1) := by decide +kernel
theorem dX7_pay_67 : decode cX7_pay 67 = .ok (.aload_n 0, 1) := by decide +kernel
theorem dX7_pay_68 : decode cX7_pay 68 = .ok (.getfield 7, 3) := by decide +kernel
theorem dX7_pay_71 : decode cX7_pay 71 = .ok (.putfield 16, 3) := by decide +kernel
theorem dX7_pay_74 : decode cX7_pay 74 = .ok (.aload_n 0, 1) := by decide +kernel
theorem dX7_pay_75 : decode cX7_pay 75 = .ok (.getfield 7, 3) := by decide +kernel
theorem dX7_pay_78 : decode cX7_pay 78 = .ok (.iload_n 3, 1) := by decide +kernel
theorem dX7_pay_79 : decode cX7_pay 79 = .ok (.dup2, 1) := by decide +kernel
theorem dX7_pay_80 : decode cX7_pay 80 = .ok (.iaload, 1) := by decide +kernel
theorem dX7_pay_81 : decode cX7_pay 81 = .ok (.iload 4, 2) := by decide +kernel
theorem dX7_pay_83 : decode cX7_pay 83 = .ok (.isub, 1) := by decide +kernel
theorem dX7_pay_84 : decode cX7_pay 84 = .ok (.iastore, 1) := by decide +kernel
theorem dX7_pay_85 : decode cX7_pay 85 = .ok (.aload_n 0, 1) := by decide +kernel
theorem dX7_pay_86 : decode cX7_pay 86 = .ok (.iload_n 1, 1) := by decide +kernel
theorem dX7_pay_87 : decode cX7_pay 87 = .ok (.iload_n 2, 1) := by decide +kernel
theorem dX7_pay_88 : decode cX7_pay 88 = .ok (.invokevirtual 173, 3) := by decide +kernel
theorem dX7_pay_91 : decode cX7_pay 91 = .ok (.aload_n 0, 1) := by decide +kernel
theorem dX7_pay_92 : decode cX7_pay 92 = .ok (.getfield 7, 3) := by decide +kernel
theorem dX7_pay_95 : decode cX7_pay 95 = .ok (.iload_n 3, 1) := by decide +kernel
theorem dX7_pay_96 : decode cX7_pay 96 = .ok (.iconst 3, 1) := by decide +kernel
theorem dX7_pay_97 : decode cX7_pay 97 = .ok (.iadd, 1) := by decide +kernel
theorem dX7_pay_98 : decode cX7_pay 98 = .ok (.iaload, 1) := by decide +kernel
theorem dX7_pay_99 : decode cX7_pay 99 = .ok (.ireturn, 1) := by decide +kernel
theorem dX7_isBetween_0 : decode cX7_isBetween 0 = .ok (.iload_n 2, 1) := by decide +kernel
theorem dX7_isBetween_1 : decode cX7_isBetween 1 = .ok (.ifCond .le 24, 3) := by decide +kernel
theorem dX7_isBetween_4 : decode cX7_isBetween 4 = .ok (.iload_n 2, 1) := by decide +kernel
theorem dX7_isBetween_5 : decode cX7_isBetween 5 = .ok (.aload_n 0, 1) := by decide +kernel
theorem dX7_isBetween_6 : decode cX7_isBetween 6 = .ok (.getfield 7, 3) := by decide +kernel
theorem dX7_isBetween_9 : decode cX7_isBetween 9 = .ok (.bipush 40, 2) := by decide +kernel
theorem dX7_isBetween_11 : decode cX7_isBetween 11 = .ok (.iload_n 1, 1) := by decide +kernel
theorem dX7_isBetween_12 : decode cX7_isBetween 12 = .ok (.imul, 1) := by decide +kernel
theorem dX7_isBetween_13 : decode cX7_isBetween 13 = .ok (.iconst 3, 1) := by decide +kernel
theorem dX7_isBetween_14 : decode cX7_isBetween 14 = .ok (.iadd, 1) := by decide +kernel
theorem dX7_isBetween_15 : decode cX7_isBetween 15 = .ok (.iaload, 1) := by decide +kernel
theorem dX7_isBetween_16 : decode cX7_isBetween 16 = .ok (.iconst 1, 1) := by decide +kernel
theorem dX7_isBetween_17 : decode cX7_isBetween 17 = .ok (.isub, 1) := by decide +kernel
theorem dX7_isBetween_18 : decode cX7_isBetween 18 = .ok (.if_icmp .ge 7, 3) := by decide +kernel
theorem dX7_isBetween_21 : decode cX7_isBetween 21 = .ok (.iconst 1, 1) := by decide +kernel
theorem dX7_isBetween_22 : decode cX7_isBetween 22 = .ok (.goto 4, 3) := by decide +kernel
theorem dX7_isBetween_25 : decode cX7_isBetween 25 = .ok (.iconst 0, 1) := by decide +kernel
theorem dX7_isBetween_26 : decode cX7_isBetween 26 = .ok (.ireturn, 1) := by decide +kernel
theorem dX7_cut_0 : decode cX7_cut 0 = .ok (.aload_n 0, 1) := by decide +kernel
theorem dX7_cut_1 : decode cX7_cut 1 = .ok (.iload_n 1, 1) := by decide +kernel
theorem dX7_cut_2 : decode cX7_cut 2 = .ok (.iload_n 2, 1) := by decide +kernel
theorem dX7_cut_3 : decode cX7_cut 3 = .ok (.invokevirtual 91, 3) := by decide +kernel
theorem dX7_cut_6 : decode cX7_cut 6 = .ok (.ifCond .ne 5, 3) := by decide +kernel
theorem dX7_cut_9 : decode cX7_cut 9 = .ok (.iconst (-1), 1) := by decide +kernel
theorem dX7_cut_10 : decode cX7_cut 10 = .ok (.ireturn, 1) := by decide +kernel
theorem dX7_cut_11 : decode cX7_cut 11 = .ok (.aload_n 0, 1) := by decide +kernel
theorem dX7_cut_12 : decode cX7_cut 12 = .ok (.iload_n 1, 1) := by decide +kernel
theorem dX7_cut_13 : decode cX7_cut 13 = .ok (.iload_n 2, 1) := by decide +kernel
theorem dX7_cut_14 : decode cX7_cut 14 = .ok (.invokevirtual 177, 3) := by decide +kernel
theorem dX7_cut_17 : decode cX7_cut 17 = .ok (.ifCond .ne 6, 3) := by decide +kernel
theorem dX7_cut_20 : decode cX7_cut 20 = .ok (.bipush (-2), 2) := by decide +kernel
theorem dX7_cut_22 : decode cX7_cut 22 = .ok (.ireturn, 1) := by decide +kernel
theorem dX7_cut_23 : decode cX7_cut 23 = .ok (.aload_n 0, 1) := by decide +kernel
theorem dX7_cut_24 : decode cX7_cut 24 = .ok (.getfield 148, 3) := by decide +kernel
theorem dX7_cut_27 : decode cX7_cut 27 = .ok (.aload_n 0, 1) := by decide +kernel
theorem dX7_cut_28 : decode cX7_cut 28 = .ok (.getfield 25, 3) := by decide +kernel
theorem dX7_cut_31 : decode cX7_cut 31 = .ok (.iconst 1, 1) := by decide +kernel
theorem dX7_cut_32 : decode cX7_cut 32 = .ok (.iaload, 1) := by decide +kernel
theorem dX7_cut_33 : decode cX7_cut 33 = .ok (.if_icmp .lt 6, 3) := by decide +kernel
theorem dX7_cut_36 : decode cX7_cut 36 = .ok (.bipush (-4), 2) := by decide +kernel
theorem dX7_cut_38 : decode cX7_cut 38 = .ok (.ireturn, 1) := by decide +kernel
theorem dX7_cut_39 : decode cX7_cut 39 = .ok (.aload_n 0, 1) := by decide +kernel
theorem dX7_cut_40 : decode cX7_cut 40 = .ok (.aload_n 0, 1) := by decide +kernel
theorem dX7_cut_41 : decode cX7_cut 41 = .ok (.getfield 7, 3) := by decide +kernel
theorem dX7_cut_44 : decode cX7_cut 44 = .ok (.putfield 16, 3) := by decide +kernel
theorem dX7_cut_47 : decode cX7_cut 47 = .ok (.aload_n 0, 1) := by decide +kernel
theorem dX7_cut_48 : decode cX7_cut 48 = .ok (.iload_n 1, 1) := by decide +kernel
theorem dX7_cut_49 : decode cX7_cut 49 = .ok (.iload_n 2, 1) := by decide +kernel
theorem dX7_cut_50 : decode cX7_cut 50 = .ok (.invokevirtual 173, 3) := by decide +kernel
theorem dX7_cut_53 : decode cX7_cut 53 = .ok (.aload_n 0, 1) := by decide +kernel
theorem dX7_cut_54 : decode cX7_cut 54 = .ok (.dup, 1) := by decide +kernel
theorem dX7_cut_55 : decode cX7_cut 55 = .ok (.getfield 148, 3) := by decide +kernel
theorem dX7_cut_58 : decode cX7_cut 58 = .ok (.iconst 1, 1) := by decide +kernel
theorem dX7_cut_59 : decode cX7_cut 59 = .ok (.iadd, 1) := by decide +kernel
theorem dX7_cut_60 : decode cX7_cut 60 = .ok (.putfield 148, 3) := by decide +kernel
theorem dX7_cut_63 : decode cX7_cut 63 = .ok (.aload_n 0, 1) := by decide +kernel
theorem dX7_cut_64 : decode cX7_cut 64 = .ok (.getfield 7, 3) := by decide +kernel
theorem dX7_cut_67 : decode cX7_cut 67 = .ok (.bipush 40, 2) := by decide +kernel
theorem dX7_cut_69 : decode cX7_cut 69 = .ok (.iload_n 1, 1) := by decide +kernel
theorem dX7_cut_70 : decode cX7_cut 70 = .ok (.imul, 1) := by decide +kernel
theorem dX7_cut_71 : decode cX7_cut 71 = .ok (.iconst 3, 1) := by decide +kernel
theorem dX7_cut_72 : decode cX7_cut 72 = .ok (.iadd, 1) := by decide +kernel
theorem dX7_cut_73 : decode cX7_cut 73 = .ok (.iaload, 1) := by decide +kernel
theorem dX7_cut_74 : decode cX7_cut 74 = .ok (.ireturn, 1) := by decide +kernel
theorem dX7_outer_0 : decode cX7_outer 0 = .ok (.bipush 40, 2) := by decide +kernel
theorem dX7_outer_2 : decode cX7_outer 2 = .ok (.iload_n 1, 1) := by decide +kernel
theorem dX7_outer_3 : decode cX7_outer 3 = .ok (.imul, 1) := by decide +kernel
theorem dX7_outer_4 : decode cX7_outer 4 = .ok (.bipush 8, 2) := by decide +kernel
theorem dX7_outer_6 : decode cX7_outer 6 = .ok (.iadd, 1) := by decide +kernel
theorem dX7_outer_7 : decode cX7_outer 7 = .ok (.iconst 4, 1) := by decide +kernel
theorem dX7_outer_8 : decode cX7_outer 8 = .ok (.aload_n 0, 1) := by decide +kernel
theorem dX7_outer_9 : decode cX7_outer 9 = .ok (.getfield 7, 3) := by decide +kernel
theorem dX7_outer_12 : decode cX7_outer 12 = .ok (.bipush 40, 2) := by decide +kernel
theorem dX7_outer_14 : decode cX7_outer 14 = .ok (.iload_n 1, 1) := by decide +kernel
theorem dX7_outer_15 : decode cX7_outer 15 = .ok (.imul, 1) := by decide +kernel
theorem dX7_outer_16 : decode cX7_outer 16 = .ok (.iconst 3, 1) := by decide +kernel
theorem dX7_outer_17 : decode cX7_outer 17 = .ok (.iadd, 1) := by decide +kernel
theorem dX7_outer_18 : decode cX7_outer 18 = .ok (.iaload, 1) := by decide +kernel
theorem dX7_outer_19 : decode cX7_outer 19 = .ok (.iconst 1, 1) := by decide +kernel
theorem dX7_outer_20 : decode cX7_outer 20 = .ok (.isub, 1) := by decide +kernel
theorem dX7_outer_21 : decode cX7_outer 21 = .ok (.imul, 1) := by decide +kernel
theorem dX7_outer_22 : decode cX7_outer 22 = .ok (.iadd, 1) := by decide +kernel
theorem dX7_outer_23 : decode cX7_outer 23 = .ok (.ireturn, 1) := by decide +kernel
theorem dX7_gains_0 : decode cX7_gains 0 = .ok (.aload_n 0, 1) := by decide +kernel
theorem dX7_gains_1 : decode cX7_gains 1 = .ok (.getfield 19, 3) := by decide +kernel
theorem dX7_gains_4 : decode cX7_gains 4 = .ok (.iconst 5, 1) := by decide +kernel
theorem dX7_gains_5 : decode cX7_gains 5 = .ok (.iload_n 1, 1) := by decide +kernel
theorem dX7_gains_6 : decode cX7_gains 6 = .ok (.imul, 1) := by decide +kernel
theorem dX7_gains_7 : decode cX7_gains 7 = .ok (.aload_n 0, 1) := by decide +kernel
theorem dX7_gains_8 : decode cX7_gains 8 = .ok (.getfield 7, 3) := by decide +kernel
theorem dX7_gains_11 : decode cX7_gains 11 = .ok (.aload_n 0, 1) := by decide +kernel
theorem dX7_gains_12 : decode cX7_gains 12 = .ok (.iload_n 1, 1) := by decide +kernel
theorem dX7_gains_13 : decode cX7_gains 13 = .ok (.invokevirtual 180, 3) := by decide +kernel
theorem dX7_gains_16 : decode cX7_gains 16 = .ok (.iaload, 1) := by decide +kernel
theorem dX7_gains_17 : decode cX7_gains 17 = .ok (.iadd, 1) := by decide +kernel
theorem dX7_gains_18 : decode cX7_gains 18 = .ok (.iaload, 1) := by decide +kernel
theorem dX7_gains_19 : decode cX7_gains 19 = .ok (.aload_n 0, 1) := by decide +kernel
theorem dX7_gains_20 : decode cX7_gains 20 = .ok (.getfield 19, 3) := by decide +kernel
theorem dX7_gains_23 : decode cX7_gains 23 = .ok (.iconst 5, 1) := by decide +kernel
theorem dX7_gains_24 : decode cX7_gains 24 = .ok (.iload_n 1, 1) := by decide +kernel
theorem dX7_gains_25 : decode cX7_gains 25 = .ok (.imul, 1) := by decide +kernel
theorem dX7_gains_26 : decode cX7_gains 26 = .ok (.aload_n 0, 1) := by decide +kernel
theorem dX7_gains_27 : decode cX7_gains 27 = .ok (.getfield 7, 3) := by decide +kernel
theorem dX7_gains_30 : decode cX7_gains 30 = .ok (.aload_n 0, 1) := by decide +kernel
theorem dX7_gains_31 : decode cX7_gains 31 = .ok (.iload_n 2, 1) := by decide +kernel
theorem dX7_gains_32 : decode cX7_gains 32 = .ok (.invokevirtual 180, 3) := by decide +kernel
theorem dX7_gains_35 : decode cX7_gains 35 = .ok (.iaload, 1) := by decide +kernel
theorem dX7_gains_36 : decode cX7_gains 36 = .ok (.iadd, 1) := by decide +kernel
theorem dX7_gains_37 : decode cX7_gains 37 = .ok (.iaload, 1) := by decide +kernel
theorem dX7_gains_38 : decode cX7_gains 38 = .ok (.isub, 1) := by decide +kernel
theorem dX7_gains_39 : decode cX7_gains 39 = .ok (.ireturn, 1) := by decide +kernel
theorem dX7_saved_0 : decode cX7_saved 0 = .ok (.iload_n 3, 1) := by decide +kernel
theorem dX7_saved_1 : decode cX7_saved 1 = .ok (.ifCond .ge 7, 3) := by decide +kernel
theorem dX7_saved_4 : decode cX7_saved 4 = .ok (.iload_n 2, 1) := by decide +kernel
theorem dX7_saved_5 : decode cX7_saved 5 = .ok (.goto 4, 3) := by decide +kernel
theorem dX7_saved_8 : decode cX7_saved 8 = .ok (.iload_n 3, 1) := by decide +kernel
theorem dX7_saved_9 : decode cX7_saved 9 = .ok (.istore 4, 2) := by decide +kernel
theorem dX7_saved_11 : decode cX7_saved 11 = .ok (.aload_n 0, 1) := by decide +kernel
theorem dX7_saved_12 : decode cX7_saved 12 = .ok (.iload_n 2, 1) := by decide +kernel
theorem dX7_saved_13 : decode cX7_saved 13 = .ok (.iload_n 1, 1) := by decide +kernel
theorem dX7_saved_14 : decode cX7_saved 14 = .ok (.invokevirtual 183, 3) := by decide +kernel
theorem dX7_saved_17 : decode cX7_saved 17 = .ok (.istore 5, 2) := by decide +kernel
theorem dX7_saved_19 : decode cX7_saved 19 = .ok (.iload_n 3, 1) := by decide +kernel
theorem dX7_saved_20 : decode cX7_saved 20 = .ok (.ifCond .ge 7, 3) := by decide +kernel
theorem dX7_saved_23 : decode cX7_saved 23 = .ok (.iconst 1, 1) := by decide +kernel
theorem dX7_saved_24 : decode cX7_saved 24 = .ok (.goto 9, 3) := by decide +kernel
theorem dX7_saved_27 : decode cX7_saved 27 = .ok (.aload_n 0, 1) := by decide +kernel
theorem dX7_saved_28 : decode cX7_saved 28 = .ok (.iload_n 3, 1) := by decide +kernel
theorem dX7_saved_29 : decode cX7_saved 29 = .ok (.iload_n 2, 1) := by decide +kernel
theorem dX7_saved_30 : decode cX7_saved 30 = .ok (.invokevirtual 183, 3) := by decide +kernel
theorem dX7_saved_33 : decode cX7_saved 33 = .ok (.istore 6, 2) := by decide +kernel
theorem dX7_saved_35 : decode cX7_saved 35 = .ok (.aload_n 0, 1) := by decide +kernel
theorem dX7_saved_36 : decode cX7_saved 36 = .ok (.iload_n 1, 1) := by decide +kernel
theorem dX7_saved_37 : decode cX7_saved 37 = .ok (.iload 4, 2) := by decide +kernel
theorem dX7_saved_39 : decode cX7_saved 39 = .ok (.invokevirtual 183, 3) := by decide +kernel
theorem dX7_saved_42 : decode cX7_saved 42 = .ok (.istore 7, 2) := by decide +kernel
theorem dX7_saved_44 : decode cX7_saved 44 = .ok (.iload 5, 2) := by decide +kernel
theorem dX7_saved_46 : decode cX7_saved 46 = .ok (.iconst 1, 1) := by decide +kernel
theorem dX7_saved_47 : decode cX7_saved 47 = .ok (.if_icmp .lt 15, 3) := by decide +kernel
theorem dX7_saved_50 : decode cX7_saved 50 = .ok (.iload 6, 2) := by decide +kernel
theorem dX7_saved_52 : decode cX7_saved 52 = .ok (.iconst 1, 1) := by decide +kernel
theorem dX7_saved_53 : decode cX7_saved 53 = .ok (.if_icmp .lt 9, 3) := by decide +kernel
theorem dX7_saved_56 : decode cX7_saved 56 = .ok (.iload 7, 2) := by decide +kernel
theorem dX7_saved_58 : decode cX7_saved 58 = .ok (.iconst 1, 1) := by decide +kernel
theorem dX7_saved_59 : decode cX7_saved 59 = .ok (.if_icmp .ge 7, 3) := by decide +kernel
theorem dX7_saved_62 : decode cX7_saved 62 = .ok (.iconst 0, 1) := by decide +kernel
theorem dX7_saved_63 : decode cX7_saved 63 = .ok (.goto 19, 3) := by decide +kernel
theorem dX7_saved_66 : decode cX7_saved 66 = .ok (.iload 5, 2) := by decide +kernel
theorem dX7_saved_68 : decode cX7_saved 68 = .ok (.iload 7, 2) := by decide +kernel
theorem dX7_saved_70 : decode cX7_saved 70 = .ok (.iadd, 1) := by decide +kernel
theorem dX7_saved_71 : decode cX7_saved 71 = .ok (.iload_n 3, 1) := by decide +kernel
theorem dX7_saved_72 : decode cX7_saved 72 = .ok (.ifCond .ge 7, 3) := by decide +kernel
theorem dX7_saved_75 : decode cX7_saved 75 = .ok (.iconst 0, 1) := by decide +kernel
theorem dX7_saved_76 : decode cX7_saved 76 = .ok (.goto 5, 3) := by decide +kernel
theorem dX7_saved_79 : decode cX7_saved 79 = .ok (.iload 6, 2) := by decide +kernel
theorem dX7_saved_81 : decode cX7_saved 81 = .ok (.iadd, 1) := by decide +kernel
theorem dX7_saved_82 : decode cX7_saved 82 = .ok (.ireturn, 1) := by decide +kernel
theorem dX7_ring_0 : decode cX7_ring 0 = .ok (.iload_n 1, 1) := by decide +kernel
theorem dX7_ring_1 : decode cX7_ring 1 = .ok (.iload_n 2, 1) := by decide +kernel
theorem dX7_ring_2 : decode cX7_ring 2 = .ok (.if_icmp .eq 13, 3) := by decide +kernel
theorem dX7_ring_5 : decode cX7_ring 5 = .ok (.iload_n 1, 1) := by decide +kernel
theorem dX7_ring_6 : decode cX7_ring 6 = .ok (.iload_n 3, 1) := by decide +kernel
theorem dX7_ring_7 : decode cX7_ring 7 = .ok (.if_icmp .eq 8, 3) := by decide +kernel
theorem dX7_ring_10 : decode cX7_ring 10 = .ok (.iload_n 2, 1) := by decide +kernel
theorem dX7_ring_11 : decode cX7_ring 11 = .ok (.iload_n 3, 1) := by decide +kernel
theorem dX7_ring_12 : decode cX7_ring 12 = .ok (.if_icmp .ne 7, 3) := by decide +kernel
theorem dX7_ring_15 : decode cX7_ring 15 = .ok (.iconst 1, 1) := by decide +kernel
theorem dX7_ring_16 : decode cX7_ring 16 = .ok (.goto 4, 3) := by decide +kernel
theorem dX7_ring_19 : decode cX7_ring 19 = .ok (.iconst 0, 1) := by decide +kernel
theorem dX7_ring_20 : decode cX7_ring 20 = .ok (.istore 4, 2) := by decide +kernel
theorem dX7_ring_22 : decode cX7_ring 22 = .ok (.aload_n 0, 1) := by decide +kernel
theorem dX7_ring_23 : decode cX7_ring 23 = .ok (.iload_n 1, 1) := by decide +kernel
theorem dX7_ring_24 : decode cX7_ring 24 = .ok (.invokevirtual 80, 3) := by decide +kernel
theorem dX7_ring_27 : decode cX7_ring 27 = .ok (.ifCond .eq 29, 3) := by decide +kernel
theorem dX7_ring_30 : decode cX7_ring 30 = .ok (.aload_n 0, 1) := by decide +kernel
theorem dX7_ring_31 : decode cX7_ring 31 = .ok (.iload_n 2, 1) := by decide +kernel
theorem dX7_ring_32 : decode cX7_ring 32 = .ok (.invokevirtual 80, 3) := by decide +kernel
theorem dX7_ring_35 : decode cX7_ring 35 = .ok (.ifCond .eq 21, 3) := by decide +kernel
theorem dX7_ring_38 : decode cX7_ring 38 = .ok (.iload_n 3, 1) := by decide +kernel
theorem dX7_ring_39 : decode cX7_ring 39 = .ok (.iconst (-1), 1) := by decide +kernel
theorem dX7_ring_40 : decode cX7_ring 40 = .ok (.if_icmp .eq 11, 3) := by decide +kernel
theorem dX7_ring_43 : decode cX7_ring 43 = .ok (.aload_n 0, 1) := by decide +kernel
theorem dX7_ring_44 : decode cX7_ring 44 = .ok (.iload_n 3, 1) := by decide +kernel
theorem dX7_ring_45 : decode cX7_ring 45 = .ok (.invokevirtual 80, 3) := by decide +kernel
theorem dX7_ring_48 : decode cX7_ring 48 = .ok (.ifCond .eq 8, 3) := by decide +kernel
theorem dX7_ring_51 : decode cX7_ring 51 = .ok (.iload 4, 2) := by decide +kernel
theorem dX7_ring_53 : decode cX7_ring 53 = .ok (.ifCond .eq 5, 3) := by decide +kernel
theorem dX7_ring_56 : decode cX7_ring 56 = .ok (.iconst (-1), 1) := by decide +kernel
theorem dX7_ring_57 : decode cX7_ring 57 = .ok (.ireturn, 1) := by decide +kernel
theorem dX7_ring_58 : decode cX7_ring 58 = .ok (.aload_n 0, 1) := by decide +kernel
theorem dX7_ring_59 : decode cX7_ring 59 = .ok (.getfield 7, 3) := by decide +kernel
theorem dX7_ring_62 : decode cX7_ring 62 = .ok (.bipush 40, 2) := by decide +kernel
theorem dX7_ring_64 : decode cX7_ring 64 = .ok (.iload_n 1, 1) := by decide +kernel
theorem dX7_ring_65 : decode cX7_ring 65 = .ok (.imul, 1) := by decide +kernel
theorem dX7_ring_66 : decode cX7_ring 66 = .ok (.iconst 3, 1) := by decide +kernel
theorem dX7_ring_67 : decode cX7_ring 67 = .ok (.iadd, 1) := by decide +kernel
theorem dX7_ring_68 : decode cX7_ring 68 = .ok (.iaload, 1) := by decide +kernel
theorem dX7_ring_69 : decode cX7_ring 69 = .ok (.ifCond .eq 35, 3) := by decide +kernel
theorem dX7_ring_72 : decode cX7_ring 72 = .ok (.aload_n 0, 1) := by decide +kernel
theorem dX7_ring_73 : decode cX7_ring 73 = .ok (.getfield 7, 3) := by decide +kernel
theorem dX7_ring_76 : decode cX7_ring 76 = .ok (.bipush 40, 2) := by decide +kernel
theorem dX7_ring_78 : decode cX7_ring 78 = .ok (.iload_n 2, 1) := by decide +kernel
theorem dX7_ring_79 : decode cX7_ring 79 = .ok (.imul, 1) := by decide +kernel
theorem dX7_ring_80 : decode cX7_ring 80 = .ok (.iconst 3, 1) := by decide +kernel
theorem dX7_ring_81 : decode cX7_ring 81 = .ok (.iadd, 1) := by decide +kernel
theorem dX7_ring_82 : decode cX7_ring 82 = .ok (.iaload, 1) := by decide +kernel
theorem dX7_ring_83 : decode cX7_ring 83 = .ok (.ifCond .eq 21, 3) := by decide +kernel
theorem dX7_ring_86 : decode cX7_ring 86 = .ok (.iload_n 3, 1) := by decide +kernel
theorem dX7_ring_87 : decode cX7_ring 87 = .ok (.ifCond .lt 20, 3) := by decide +kernel
theorem dX7_ring_90 : decode cX7_ring 90 = .ok (.aload_n 0, 1) := by decide +kernel
theorem dX7_ring_91 : decode cX7_ring 91 = .ok (.getfield 7, 3) := by decide +kernel
theorem dX7_ring_94 : decode cX7_ring 94 = .ok (.bipush 40, 2) := by decide +kernel
theorem dX7_ring_96 : decode cX7_ring 96 = .ok (.iload_n 3, 1) := by decide +kernel
theorem dX7_ring_97 : decode cX7_ring 97 = .ok (.imul, 1) := by decide +kernel
theorem dX7_ring_98 : decode cX7_ring 98 = .ok (.iconst 3, 1) := by decide +kernel
theorem dX7_ring_99 : decode cX7_ring 99 = .ok (.iadd, 1) := by decide +kernel
theorem dX7_ring_100 : decode cX7_ring 100 = .ok (.iaload, 1) := by decide +kernel
theorem dX7_ring_101 : decode cX7_ring 101 = .ok (.ifCond .ne 6, 3) := by decide +kernel
theorem dX7_ring_104 : decode cX7_ring 104 = .ok (.bipush (-2), 2) := by decide +kernel
theorem dX7_ring_106 : decode cX7_ring 106 = .ok (.ireturn, 1) := by decide +kernel
theorem dX7_ring_107 : decode cX7_ring 107 = .ok (.aload_n 0, 1) := by decide +kernel
theorem dX7_ring_108 : decode cX7_ring 108 = .ok (.iload_n 1, 1) := by decide +kernel
theorem dX7_ring_109 : decode cX7_ring 109 = .ok (.iload_n 2, 1) := by decide +kernel
theorem dX7_ring_110 : decode cX7_ring 110 = .ok (.iload_n 3, 1) := by decide +kernel
theorem dX7_ring_111 : decode cX7_ring 111 = .ok (.invokevirtual 186, 3) := by decide +kernel
theorem dX7_ring_114 : decode cX7_ring 114 = .ok (.istore 5, 2) := by decide +kernel
theorem dX7_ring_116 : decode cX7_ring 116 = .ok (.iload 5, 2) := by decide +kernel
theorem dX7_ring_118 : decode cX7_ring 118 = .ok (.ifCond .ne 6, 3) := by decide +kernel
theorem dX7_ring_121 : decode cX7_ring 121 = .ok (.bipush (-4), 2) := by decide +kernel
theorem dX7_ring_123 : decode cX7_ring 123 = .ok (.ireturn, 1) := by decide +kernel
theorem dX7_ring_124 : decode cX7_ring 124 = .ok (.iload_n 3, 1) := by decide +kernel
theorem dX7_ring_125 : decode cX7_ring 125 = .ok (.ifCond .ge 7, 3) := by decide +kernel
theorem dX7_ring_128 : decode cX7_ring 128 = .ok (.iload_n 2, 1) := by decide +kernel
theorem dX7_ring_129 : decode cX7_ring 129 = .ok (.goto 4, 3) := by decide +kernel
theorem dX7_ring_132 : decode cX7_ring 132 = .ok (.iload_n 3, 1) := by decide +kernel
theorem dX7_ring_133 : decode cX7_ring 133 = .ok (.istore 6, 2) := by decide +kernel
theorem dX7_ring_135 : decode cX7_ring 135 = .ok (.iconst 0, 1) := by decide +kernel
theorem dX7_ring_136 : decode cX7_ring 136 = .ok (.istore 7, 2) := by decide +kernel
theorem dX7_ring_138 : decode cX7_ring 138 = .ok (.iload 7, 2) := by decide +kernel
theorem dX7_ring_140 : decode cX7_ring 140 = .ok (.iconst 4, 1) := by decide +kernel
theorem dX7_ring_141 : decode cX7_ring 141 = .ok (.if_icmp .ge 117, 3) := by decide +kernel
theorem dX7_ring_144 : decode cX7_ring 144 = .ok (.aload_n 0, 1) := by decide +kernel
theorem dX7_ring_145 : decode cX7_ring 145 = .ok (.getfield 7, 3) := by decide +kernel
theorem dX7_ring_148 : decode cX7_ring 148 = .ok (.aload_n 0, 1) := by decide +kernel
theorem dX7_ring_149 : decode cX7_ring 149 = .ok (.iload 6, 2) := by decide +kernel
theorem dX7_ring_151 : decode cX7_ring 151 = .ok (.invokevirtual 180, 3) := by decide +kernel
theorem dX7_ring_154 : decode cX7_ring 154 = .ok (.iload 7, 2) := by decide +kernel
theorem dX7_ring_156 : decode cX7_ring 156 = .ok (.iadd, 1) := by decide +kernel
theorem dX7_ring_157 : decode cX7_ring 157 = .ok (.iaload, 1) := by decide +kernel
theorem dX7_ring_158 : decode cX7_ring 158 = .ok (.istore 8, 2) := by decide +kernel
theorem dX7_ring_160 : decode cX7_ring 160 = .ok (.aload_n 0, 1) := by decide +kernel
theorem dX7_ring_161 : decode cX7_ring 161 = .ok (.getfield 7, 3) := by decide +kernel
theorem dX7_ring_164 : decode cX7_ring 164 = .ok (.aload_n 0, 1) := by decide +kernel
theorem dX7_ring_165 : decode cX7_ring 165 = .ok (.iload 6, 2) := by decide +kernel
theorem dX7_ring_167 : decode cX7_ring 167 = .ok (.invokevirtual 180, 3) := by decide +kernel
theorem dX7_ring_170 : decode cX7_ring 170 = .ok (.iload 7, 2) := by decide +kernel
theorem dX7_ring_172 : decode cX7_ring 172 = .ok (.iadd, 1) := by decide +kernel
theorem dX7_ring_173 : decode cX7_ring 173 = .ok (.iload_n 3, 1) := by decide +kernel
theorem dX7_ring_174 : decode cX7_ring 174 = .ok (.ifCond .ge 19, 3) := by decide +kernel
theorem dX7_ring_177 : decode cX7_ring 177 = .ok (.aload_n 0, 1) := by decide +kernel
theorem dX7_ring_178 : decode cX7_ring 178 = .ok (.getfield 7, 3) := by decide +kernel
theorem dX7_ring_181 : decode cX7_ring 181 = .ok (.aload_n 0, 1) := by decide +kernel
theorem dX7_ring_182 : decode cX7_ring 182 = .ok (.iload_n 1, 1) := by decide +kernel
theorem dX7_ring_183 : decode cX7_ring 183 = .ok (.invokevirtual 180, 3) := by decide +kernel
theorem dX7_ring_186 : decode cX7_ring 186 = .ok (.iload 7, 2) := by decide +kernel
theorem dX7_ring_188 : decode cX7_ring 188 = .ok (.iadd, 1) := by decide +kernel
theorem dX7_ring_189 : decode cX7_ring 189 = .ok (.iaload, 1) := by decide +kernel
theorem dX7_ring_190 : decode cX7_ring 190 = .ok (.goto 16, 3) := by decide +kernel
theorem dX7_ring_193 : decode cX7_ring 193 = .ok (.aload_n 0, 1) := by decide +kernel
theorem dX7_ring_194 : decode cX7_ring 194 = .ok (.getfield 7, 3) := by decide +kernel
theorem dX7_ring_197 : decode cX7_ring 197 = .ok (.aload_n 0, 1) := by decide +kernel
theorem dX7_ring_198 : decode cX7_ring 198 = .ok (.iload_n 2, 1) := by decide +kernel
theorem dX7_ring_199 : decode cX7_ring 199 = .ok (.invokevirtual 180, 3) := by decide +kernel
theorem dX7_ring_202 : decode cX7_ring 202 = .ok (.iload 7, 2) := by decide +kernel
theorem dX7_ring_204 : decode cX7_ring 204 = .ok (.iadd, 1) := by decide +kernel
theorem dX7_ring_205 : decode cX7_ring 205 = .ok (.iaload, 1) := by decide +kernel
theorem dX7_ring_206 : decode cX7_ring 206 = .ok (.iastore, 1) := by decide +kernel
theorem dX7_ring_207 : decode cX7_ring 207 = .ok (.iload_n 3, 1) := by decide +kernel
theorem dX7_ring_208 : decode cX7_ring 208 = .ok (.ifCond .lt 29, 3) := by decide +kernel
theorem dX7_ring_211 : decode cX7_ring 211 = .ok (.aload_n 0, 1) := by decide +kernel
theorem dX7_ring_212 : decode cX7_ring 212 = .ok (.getfield 7, 3) := by decide +kernel
theorem dX7_ring_215 : decode cX7_ring 215 = .ok (.aload_n 0, 1) := by decide +kernel
theorem dX7_ring_216 : decode cX7_ring 216 = .ok (.iload_n 2, 1) := by decide +kernel
theorem dX7_ring_217 : decode cX7_ring 217 = .ok (.invokevirtual 180, 3) := by decide +kernel
theorem dX7_ring_220 : decode cX7_ring 220 = .ok (.iload 7, 2) := by decide +kernel
theorem dX7_ring_222 : decode cX7_ring 222 = .ok (.iadd, 1) := by decide +kernel
theorem dX7_ring_223 : decode cX7_ring 223 = .ok (.aload_n 0, 1) := by decide +kernel
theorem dX7_ring_224 : decode cX7_ring 224 = .ok (.getfield 7, 3) := by decide +kernel
theorem dX7_ring_227 : decode cX7_ring 227 = .ok (.aload_n 0, 1) := by decide +kernel
theorem dX7_ring_228 : decode cX7_ring 228 = .ok (.iload_n 1, 1) := by decide +kernel
theorem dX7_ring_229 : decode cX7_ring 229 = .ok (.invokevirtual 180, 3) := by decide +kernel
theorem dX7_ring_232 : decode cX7_ring 232 = .ok (.iload 7, 2) := by decide +kernel
theorem dX7_ring_234 : decode cX7_ring 234 = .ok (.iadd, 1) := by decide +kernel
theorem dX7_ring_235 : decode cX7_ring 235 = .ok (.iaload, 1) := by decide +kernel
theorem dX7_ring_236 : decode cX7_ring 236 = .ok (.iastore, 1) := by decide +kernel
theorem dX7_ring_237 : decode cX7_ring 237 = .ok (.aload_n 0, 1) := by decide +kernel
theorem dX7_ring_238 : decode cX7_ring 238 = .ok (.getfield 7, 3) := by decide +kernel
theorem dX7_ring_241 : decode cX7_ring 241 = .ok (.aload_n 0, 1) := by decide +kernel
theorem dX7_ring_242 : decode cX7_ring 242 = .ok (.iload_n 1, 1) := by decide +kernel
theorem dX7_ring_243 : decode cX7_ring 243 = .ok (.invokevirtual 180, 3) := by decide +kernel
theorem dX7_ring_246 : decode cX7_ring 246 = .ok (.iload 7, 2) := by decide +kernel
theorem dX7_ring_248 : decode cX7_ring 248 = .ok (.iadd, 1) := by decide +kernel
theorem dX7_ring_249 : decode cX7_ring 249 = .ok (.iload 8, 2) := by decide +kernel
theorem dX7_ring_251 : decode cX7_ring 251 = .ok (.iastore, 1) := by decide +kernel
theorem dX7_ring_252 : decode cX7_ring 252 = .ok (.iinc 7 1, 3) := by decide +kernel
theorem dX7_ring_255 : decode cX7_ring 255 = .ok (.goto (-117), 3) := by decide +kernel
theorem dX7_ring_258 : decode cX7_ring 258 = .ok (.iload 5, 2) := by decide +kernel
theorem dX7_ring_260 : decode cX7_ring 260 = .ok (.ireturn, 1) := by decide +kernel
theorem dX7_rings_0 : decode cX7_rings 0 = .ok (.iload_n 1, 1) := by decide +kernel
theorem dX7_rings_1 : decode cX7_rings 1 = .ok (.i2l, 1) := by decide +kernel
theorem dX7_rings_2 : decode cX7_rings 2 = .ok (.ldc2_w 190, 3) := by decide +kernel
theorem dX7_rings_5 : decode cX7_rings 5 = .ok (.ldc2_w 106, 3) := by decide +kernel
theorem dX7_rings_8 : decode cX7_rings 8 = .ok (.invokestatic 68, 3) := by decide +kernel
theorem dX7_rings_11 : decode cX7_rings 11 = .ok (.ifCond .ne 5, 3) := by decide +kernel
theorem dX7_rings_14 : decode cX7_rings 14 = .ok (.iconst (-1), 1) := by decide +kernel
theorem dX7_rings_15 : decode cX7_rings 15 = .ok (.ireturn, 1) := by decide +kernel
theorem dX7_rings_16 : decode cX7_rings 16 = .ok (.iconst 0, 1) := by decide +kernel
theorem dX7_rings_17 : decode cX7_rings 17 = .ok (.istore_n 2, 1) := by decide +kernel
theorem dX7_rings_18 : decode cX7_rings 18 = .ok (.bipush (-4), 2) := by decide +kernel
theorem dX7_rings_20 : decode cX7_rings 20 = .ok (.istore_n 3, 1) := by decide +kernel
theorem dX7_rings_21 : decode cX7_rings 21 = .ok (.iconst 0, 1) := by decide +kernel
theorem dX7_rings_22 : decode cX7_rings 22 = .ok (.istore 4, 2) := by decide +kernel
theorem dX7_rings_24 : decode cX7_rings 24 = .ok (.iload 4, 2) := by decide +kernel
theorem dX7_rings_26 : decode cX7_rings 26 = .ok (.sipush 150, 3) := by decide +kernel
theorem dX7_rings_29 : decode cX7_rings 29 = .ok (.if_icmp .ge 247, 3) := by decide +kernel
theorem dX7_rings_32 : decode cX7_rings 32 = .ok (.iload 4, 2) := by decide +kernel
theorem dX7_rings_34 : decode cX7_rings 34 = .ok (.bipush 25, 2) := by decide +kernel
theorem dX7_rings_36 : decode cX7_rings 36 = .ok (.if_icmp .ge 10, 3) := by decide +kernel
theorem dX7_rings_39 : decode cX7_rings 39 = .ok (.iload 4, 2) := by decide +kernel
theorem dX7_rings_41 : decode cX7_rings 41 = .ok (.iconst 5, 1) := by decide +kernel
theorem dX7_rings_42 : decode cX7_rings 42 = .ok (.idiv, 1) := by decide +kernel
theorem dX7_rings_43 : decode cX7_rings 43 = .ok (.goto 11, 3) := by decide +kernel
theorem dX7_rings_46 : decode cX7_rings 46 = .ok (.iload 4, 2) := by decide +kernel
theorem dX7_rings_48 : decode cX7_rings 48 = .ok (.bipush 25, 2) := by decide +kernel
theorem dX7_rings_50 : decode cX7_rings 50 = .ok (.isub, 1) := by decide +kernel
theorem dX7_rings_51 : decode cX7_rings 51 = .ok (.bipush 25, 2) := by decide +kernel
theorem dX7_rings_53 : decode cX7_rings 53 = .ok (.idiv, 1) := by decide +kernel
theorem dX7_rings_54 : decode cX7_rings 54 = .ok (.istore 5, 2) := by decide +kernel
theorem dX7_rings_56 : decode cX7_rings 56 = .ok (.iload 4, 2) := by decide +kernel
theorem dX7_rings_58 : decode cX7_rings 58 = .ok (.bipush 25, 2) := by decide +kernel
theorem dX7_rings_60 : decode cX7_rings 60 = .ok (.if_icmp .ge 10, 3) := by decide +kernel
theorem dX7_rings_63 : decode cX7_rings 63 = .ok (.iload 4, 2) := by decide +kernel
theorem dX7_rings_65 : decode cX7_rings 65 = .ok (.iconst 5, 1) := by decide +kernel
theorem dX7_rings_66 : decode cX7_rings 66 = .ok (.irem, 1) := by decide +kernel
theorem dX7_rings_67 : decode cX7_rings 67 = .ok (.goto 12, 3) := by decide +kernel
theorem dX7_rings_70 : decode cX7_rings 70 = .ok (.iload 4, 2) := by decide +kernel
theorem dX7_rings_72 : decode cX7_rings 72 = .ok (.bipush 25, 2) := by decide +kernel
theorem dX7_rings_74 : decode cX7_rings 74 = .ok (.isub, 1) := by decide +kernel
theorem dX7_rings_75 : decode cX7_rings 75 = .ok (.iconst 5, 1) := by decide +kernel
theorem dX7_rings_76 : decode cX7_rings 76 = .ok (.idiv, 1) := by decide +kernel
theorem dX7_rings_77 : decode cX7_rings 77 = .ok (.iconst 5, 1) := by decide +kernel
theorem dX7_rings_78 : decode cX7_rings 78 = .ok (.irem, 1) := by decide +kernel
theorem dX7_rings_79 : decode cX7_rings 79 = .ok (.istore 6, 2) := by decide +kernel
theorem dX7_rings_81 : decode cX7_rings 81 = .ok (.iload 4, 2) := by decide +kernel
theorem dX7_rings_83 : decode cX7_rings 83 = .ok (.bipush 25, 2) := by decide +kernel
theorem dX7_rings_85 : decode cX7_rings 85 = .ok (.if_icmp .ge 7, 3) := by decide +kernel
theorem dX7_rings_88 : decode cX7_rings 88 = .ok (.iconst (-1), 1) := by decide +kernel
theorem dX7_rings_89 : decode cX7_rings 89 = .ok (.goto 10, 3) := by decide +kernel
theorem dX7_rings_92 : decode cX7_rings 92 = .ok (.iload 4, 2) := by decide +kernel
theorem dX7_rings_94 : decode cX7_rings 94 = .ok (.bipush 25, 2) := by decide +kernel
theorem dX7_rings_96 : decode cX7_rings 96 = .ok (.isub, 1) := by decide +kernel
theorem dX7_rings_97 : decode cX7_rings 97 = .ok (.iconst 5, 1) := by decide +kernel
theorem dX7_rings_98 : decode cX7_rings 98 = .ok (.irem, 1) := by decide +kernel
theorem dX7_rings_99 : decode cX7_rings 99 = .ok (.istore 7, 2) := by decide +kernel
theorem dX7_rings_101 : decode cX7_rings 101 = .ok (.iload 5, 2) := by decide +kernel
theorem dX7_rings_103 : decode cX7_rings 103 = .ok (.aload_n 0, 1) := by decide +kernel
theorem dX7_rings_104 : decode cX7_rings 104 = .ok (.getfield 64, 3) := by decide +kernel
theorem dX7_rings_107 : decode cX7_rings 107 = .ok (.if_icmp .ge 51, 3) := by decide +kernel
theorem dX7_rings_110 : decode cX7_rings 110 = .ok (.iload 6, 2) := by decide +kernel
theorem dX7_rings_112 : decode cX7_rings 112 = .ok (.aload_n 0, 1) := by decide +kernel
theorem dX7_rings_113 : decode cX7_rings 113 = .ok (.getfield 64, 3) := by decide +kernel
theorem dX7_rings_116 : decode cX7_rings 116 = .ok (.if_icmp .ge 42, 3) := by decide +kernel
theorem dX7_rings_119 : decode cX7_rings 119 = .ok (.iload 7, 2) := by decide +kernel
theorem dX7_rings_121 : decode cX7_rings 121 = .ok (.aload_n 0, 1) := by decide +kernel
theorem dX7_rings_122 : decode cX7_rings 122 = .ok (.getfield 64, 3) := by decide +kernel
theorem dX7_rings_125 : decode cX7_rings 125 = .ok (.if_icmp .ge 33, 3) := by decide +kernel
theorem dX7_rings_128 : decode cX7_rings 128 = .ok (.iload 5, 2) := by decide +kernel
theorem dX7_rings_130 : decode cX7_rings 130 = .ok (.iload 6, 2) := by decide +kernel
theorem dX7_rings_132 : decode cX7_rings 132 = .ok (.if_icmp .ge 26, 3) := by decide +kernel
theorem dX7_rings_135 : decode cX7_rings 135 = .ok (.iload 6, 2) := by decide +kernel
theorem dX7_rings_137 : decode cX7_rings 137 = .ok (.iload 7, 2) := by decide +kernel
theorem dX7_rings_139 : decode cX7_rings 139 = .ok (.if_icmp .eq 19, 3) := by decide +kernel
theorem dX7_rings_142 : decode cX7_rings 142 = .ok (.iload 7, 2) := by decide +kernel
theorem dX7_rings_144 : decode cX7_rings 144 = .ok (.ifCond .lt 10, 3) := by decide +kernel
theorem dX7_rings_147 : decode cX7_rings 147 = .ok (.iload 5, 2) := by decide +kernel
theorem dX7_rings_149 : decode cX7_rings 149 = .ok (.iload 7, 2) := by decide +kernel
theorem dX7_rings_151 : decode cX7_rings 151 = .ok (.if_icmp .ge 7, 3) := by decide +kernel
theorem dX7_rings_154 : decode cX7_rings 154 = .ok (.iconst 1, 1) := by decide +kernel
theorem dX7_rings_155 : decode cX7_rings 155 = .ok (.goto 4, 3) := by decide +kernel
theorem dX7_rings_158 : decode cX7_rings 158 = .ok (.iconst 0, 1) := by decide +kernel
theorem dX7_rings_159 : decode cX7_rings 159 = .ok (.istore 8, 2) := by decide +kernel
theorem dX7_rings_161 : decode cX7_rings 161 = .ok (.iload 8, 2) := by decide +kernel
theorem dX7_rings_163 : decode cX7_rings 163 = .ok (.ifCond .eq 57, 3) := by decide +kernel
theorem dX7_rings_166 : decode cX7_rings 166 = .ok (.aload_n 0, 1) := by decide +kernel
theorem dX7_rings_167 : decode cX7_rings 167 = .ok (.getfield 7, 3) := by decide +kernel
theorem dX7_rings_170 : decode cX7_rings 170 = .ok (.bipush 40, 2) := by decide +kernel
theorem dX7_rings_172 : decode cX7_rings 172 = .ok (.iload 5, 2) := by decide +kernel
theorem dX7_rings_174 : decode cX7_rings 174 = .ok (.imul, 1) := by decide +kernel
theorem dX7_rings_175 : decode cX7_rings 175 = .ok (.iconst 3, 1) := by decide +kernel
theorem dX7_rings_176 : decode cX7_rings 176 = .ok (.iadd, 1) := by decide +kernel
theorem dX7_rings_177 : decode cX7_rings 177 = .ok (.iaload, 1) := by decide +kernel
theorem dX7_rings_178 : decode cX7_rings 178 = .ok (.ifCond .le 42, 3) := by decide +kernel
theorem dX7_rings_181 : decode cX7_rings 181 = .ok (.aload_n 0, 1) := by decide +kernel
theorem dX7_rings_182 : decode cX7_rings 182 = .ok (.getfield 7, 3) := by decide +kernel
theorem dX7_rings_185 : decode cX7_rings 185 = .ok (.bipush 40, 2) := by decide +kernel
theorem dX7_rings_187 : decode cX7_rings 187 = .ok (.iload 6, 2) := by decide +kernel
theorem dX7_rings_189 : decode cX7_rings 189 = .ok (.imul, 1) := by decide +kernel
theorem dX7_rings_190 : decode cX7_rings 190 = .ok (.iconst 3, 1) := by decide +kernel
theorem dX7_rings_191 : decode cX7_rings 191 = .ok (.iadd, 1) := by decide +kernel
theorem dX7_rings_192 : decode cX7_rings 192 = .ok (.iaload, 1) := by decide +kernel
theorem dX7_rings_193 : decode cX7_rings 193 = .ok (.ifCond .le 27, 3) := by decide +kernel
theorem dX7_rings_196 : decode cX7_rings 196 = .ok (.iload 7, 2) := by decide +kernel
theorem dX7_rings_198 : decode cX7_rings 198 = .ok (.ifCond .lt 18, 3) := by decide +kernel
theorem dX7_rings_201 : decode cX7_rings 201 = .ok (.aload_n 0, 1) := by decide +kernel
theorem dX7_rings_202 : decode cX7_rings 202 = .ok (.getfield 7, 3) := by decide +kernel
theorem dX7_rings_205 : decode cX7_rings 205 = .ok (.bipush 40, 2) := by decide +kernel
theorem dX7_rings_207 : decode cX7_rings 207 = .ok (.iload 7, 2) := by decide +kernel
theorem dX7_rings_209 : decode cX7_rings 209 = .ok (.imul, 1) := by decide +kernel
theorem dX7_rings_210 : decode cX7_rings 210 = .ok (.iconst 3, 1) := by decide +kernel
theorem dX7_rings_211 : decode cX7_rings 211 = .ok (.iadd, 1) := by decide +kernel
theorem dX7_rings_212 : decode cX7_rings 212 = .ok (.iaload, 1) := by decide +kernel
theorem dX7_rings_213 : decode cX7_rings 213 = .ok (.ifCond .le 7, 3) := by decide +kernel
theorem dX7_rings_216 : decode cX7_rings 216 = .ok (.iconst 1, 1) := by decide +kernel
theorem dX7_rings_217 : decode cX7_rings 217 = .ok (.goto 4, 3) := by decide +kernel
theorem dX7_rings_220 : decode cX7_rings 220 = .ok (.iconst 0, 1) := by decide +kernel
theorem dX7_rings_221 : decode cX7_rings 221 = .ok (.istore 8, 2) := by decide +kernel
theorem dX7_rings_223 : decode cX7_rings 223 = .ok (.iload 8, 2) := by decide +kernel
theorem dX7_rings_225 : decode cX7_rings 225 = .ok (.ifCond .eq 16, 3) := by decide +kernel
theorem dX7_rings_228 : decode cX7_rings 228 = .ok (.aload_n 0, 1) := by decide +kernel
theorem dX7_rings_229 : decode cX7_rings 229 = .ok (.iload 5, 2) := by decide +kernel
theorem dX7_rings_231 : decode cX7_rings 231 = .ok (.iload 6, 2) := by decide +kernel
theorem dX7_rings_233 : decode cX7_rings 233 = .ok (.iload 7, 2) := by decide +kernel
theorem dX7_rings_235 : decode cX7_rings 235 = .ok (.invokevirtual 186, 3) := by decide +kernel
theorem dX7_rings_238 : decode cX7_rings 238 = .ok (.goto 4, 3) := by decide +kernel
theorem dX7_rings_241 : decode cX7_rings 241 = .ok (.iconst 0, 1) := by decide +kernel
theorem dX7_rings_242 : decode cX7_rings 242 = .ok (.istore 9, 2) := by decide +kernel
theorem dX7_rings_244 : decode cX7_rings 244 = .ok (.iload 9, 2) := by decide +kernel
theorem dX7_rings_246 : decode cX7_rings 246 = .ok (.iload_n 2, 1) := by decide +kernel
theorem dX7_rings_247 : decode cX7_rings 247 = .ok (.if_icmp .le 8, 3) := by decide +kernel
theorem dX7_rings_250 : decode cX7_rings 250 = .ok (.iload 4, 2) := by decide +kernel
theorem dX7_rings_252 : decode cX7_rings 252 = .ok (.goto 4, 3) := by decide +kernel
theorem dX7_rings_255 : decode cX7_rings 255 = .ok (.iload_n 3, 1) := by decide +kernel
theorem dX7_rings_256 : decode cX7_rings 256 = .ok (.istore_n 3, 1) := by decide +kernel
theorem dX7_rings_257 : decode cX7_rings 257 = .ok (.iload 9, 2) := by decide +kernel
theorem dX7_rings_259 : decode cX7_rings 259 = .ok (.iload_n 2, 1) := by decide +kernel
theorem dX7_rings_260 : decode cX7_rings 260 = .ok (.if_icmp .le 8, 3) := by decide +kernel
theorem dX7_rings_263 : decode cX7_rings 263 = .ok (.iload 9, 2) := by decide +kernel
theorem dX7_rings_265 : decode cX7_rings 265 = .ok (.goto 4, 3) := by decide +kernel
theorem dX7_rings_268 : decode cX7_rings 268 = .ok (.iload_n 2, 1) := by decide +kernel
theorem dX7_rings_269 : decode cX7_rings 269 = .ok (.istore_n 2, 1) := by decide +kernel
theorem dX7_rings_270 : decode cX7_rings 270 = .ok (.iinc 4 1, 3) := by decide +kernel
theorem dX7_rings_273 : decode cX7_rings 273 = .ok (.goto (-249), 3) := by decide +kernel
theorem dX7_rings_276 : decode cX7_rings 276 = .ok (.iload_n 3, 1) := by decide +kernel
theorem dX7_rings_277 : decode cX7_rings 277 = .ok (.ifCond .ge 6, 3) := by decide +kernel
theorem dX7_rings_280 : decode cX7_rings 280 = .ok (.bipush (-4), 2) := by decide +kernel
theorem dX7_rings_282 : decode cX7_rings 282 = .ok (.ireturn, 1) := by decide +kernel
theorem dX7_rings_283 : decode cX7_rings 283 = .ok (.iload_n 1, 1) := by decide +kernel
theorem dX7_rings_284 : decode cX7_rings 284 = .ok (.iconst (-1), 1) := by decide +kernel
theorem dX7_rings_285 : decode cX7_rings 285 = .ok (.if_icmp .ne 5, 3) := by decide +kernel
theorem dX7_rings_288 : decode cX7_rings 288 = .ok (.iload_n 2, 1) := by decide +kernel
theorem dX7_rings_289 : decode cX7_rings 289 = .ok (.ireturn, 1) := by decide +kernel
theorem dX7_rings_290 : decode cX7_rings 290 = .ok (.iload_n 3, 1) := by decide +kernel
theorem dX7_rings_291 : decode cX7_rings 291 = .ok (.bipush 25, 2) := by decide +kernel
theorem dX7_rings_293 : decode cX7_rings 293 = .ok (.if_icmp .ge 7, 3) := by decide +kernel
theorem dX7_rings_296 : decode cX7_rings 296 = .ok (.iload_n 3, 1) := by decide +kernel
theorem dX7_rings_297 : decode cX7_rings 297 = .ok (.goto 7, 3) := by decide +kernel
theorem dX7_rings_300 : decode cX7_rings 300 = .ok (.iload_n 3, 1) := by decide +kernel
theorem dX7_rings_301 : decode cX7_rings 301 = .ok (.bipush 25, 2) := by decide +kernel
theorem dX7_rings_303 : decode cX7_rings 303 = .ok (.isub, 1) := by decide +kernel
theorem dX7_rings_304 : decode cX7_rings 304 = .ok (.istore 4, 2) := by decide +kernel
theorem dX7_rings_306 : decode cX7_rings 306 = .ok (.iload_n 3, 1) := by decide +kernel
theorem dX7_rings_307 : decode cX7_rings 307 = .ok (.bipush 25, 2) := by decide +kernel
theorem dX7_rings_309 : decode cX7_rings 309 = .ok (.if_icmp .ge 31, 3) := by decide +kernel
theorem dX7_rings_312 : decode cX7_rings 312 = .ok (.iload_n 1, 1) := by decide +kernel
theorem dX7_rings_313 : decode cX7_rings 313 = .ok (.ifCond .ne 10, 3) := by decide +kernel
theorem dX7_rings_316 : decode cX7_rings 316 = .ok (.iload 4, 2) := by decide +kernel
theorem dX7_rings_318 : decode cX7_rings 318 = .ok (.iconst 5, 1) := by decide +kernel
theorem dX7_rings_319 : decode cX7_rings 319 = .ok (.idiv, 1) := by decide +kernel
theorem dX7_rings_320 : decode cX7_rings 320 = .ok (.goto 50, 3) := by decide +kernel
theorem dX7_rings_323 : decode cX7_rings 323 = .ok (.iload_n 1, 1) := by decide +kernel
theorem dX7_rings_324 : decode cX7_rings 324 = .ok (.iconst 1, 1) := by decide +kernel
theorem dX7_rings_325 : decode cX7_rings 325 = .ok (.if_icmp .ne 10, 3) := by decide +kernel
theorem dX7_rings_328 : decode cX7_rings 328 = .ok (.iload 4, 2) := by decide +kernel
theorem dX7_rings_330 : decode cX7_rings 330 = .ok (.iconst 5, 1) := by decide +kernel
theorem dX7_rings_331 : decode cX7_rings 331 = .ok (.irem, 1) := by decide +kernel
theorem dX7_rings_332 : decode cX7_rings 332 = .ok (.goto 38, 3) := by decide +kernel
theorem dX7_rings_335 : decode cX7_rings 335 = .ok (.bipush (-4), 2) := by decide +kernel
theorem dX7_rings_337 : decode cX7_rings 337 = .ok (.goto 33, 3) := by decide +kernel
theorem dX7_rings_340 : decode cX7_rings 340 = .ok (.iload_n 1, 1) := by decide +kernel
theorem dX7_rings_341 : decode cX7_rings 341 = .ok (.ifCond .ne 11, 3) := by decide +kernel
theorem dX7_rings_344 : decode cX7_rings 344 = .ok (.iload 4, 2) := by decide +kernel
theorem dX7_rings_346 : decode cX7_rings 346 = .ok (.bipush 25, 2) := by decide +kernel
theorem dX7_rings_348 : decode cX7_rings 348 = .ok (.idiv, 1) := by decide +kernel
theorem dX7_rings_349 : decode cX7_rings 349 = .ok (.goto 21, 3) := by decide +kernel
theorem dX7_rings_352 : decode cX7_rings 352 = .ok (.iload_n 1, 1) := by decide +kernel
theorem dX7_rings_353 : decode cX7_rings 353 = .ok (.iconst 1, 1) := by decide +kernel
theorem dX7_rings_354 : decode cX7_rings 354 = .ok (.if_icmp .ne 12, 3) := by decide +kernel
theorem dX7_rings_357 : decode cX7_rings 357 = .ok (.iload 4, 2) := by decide +kernel
theorem dX7_rings_359 : decode cX7_rings 359 = .ok (.iconst 5, 1) := by decide +kernel
theorem dX7_rings_360 : decode cX7_rings 360 = .ok (.idiv, 1) := by decide +kernel
theorem dX7_rings_361 : decode cX7_rings 361 = .ok (.iconst 5, 1) := by decide +kernel
theorem dX7_rings_362 : decode cX7_rings 362 = .ok (.irem, 1) := by decide +kernel
theorem dX7_rings_363 : decode cX7_rings 363 = .ok (.goto 7, 3) := by decide +kernel
theorem dX7_rings_366 : decode cX7_rings 366 = .ok (.iload 4, 2) := by decide +kernel
theorem dX7_rings_368 : decode cX7_rings 368 = .ok (.iconst 5, 1) := by decide +kernel
theorem dX7_rings_369 : decode cX7_rings 369 = .ok (.irem, 1) := by decide +kernel
theorem dX7_rings_370 : decode cX7_rings 370 = .ok (.ireturn, 1) := by decide +kernel
theorem dX7_owed_0 : decode cX7_owed 0 = .ok (.iload_n 1, 1) := by decide +kernel
theorem dX7_owed_1 : decode cX7_owed 1 = .ok (.invokestatic 97, 3) := by decide +kernel
theorem dX7_owed_4 : decode cX7_owed 4 = .ok (.ifCond .ne 5, 3) := by decide +kernel
theorem dX7_owed_7 : decode cX7_owed 7 = .ok (.iconst (-1), 1) := by decide +kernel
theorem dX7_owed_8 : decode cX7_owed 8 = .ok (.ireturn, 1) := by decide +kernel
theorem dX7_owed_9 : decode cX7_owed 9 = .ok (.iconst 0, 1) := by decide +kernel
theorem dX7_owed_10 : decode cX7_owed 10 = .ok (.istore_n 2, 1) := by decide +kernel
theorem dX7_owed_11 : decode cX7_owed 11 = .ok (.iconst 0, 1) := by decide +kernel
theorem dX7_owed_12 : decode cX7_owed 12 = .ok (.istore_n 3, 1) := by decide +kernel
theorem dX7_owed_13 : decode cX7_owed 13 = .ok (.iload_n 3, 1) := by decide +kernel
theorem dX7_owed_14 : decode cX7_owed 14 = .ok (.aload_n 0, 1) := by decide +kernel
theorem dX7_owed_15 : decode cX7_owed 15 = .ok (.getfield 64, 3) := by decide +kernel
theorem dX7_owed_18 : decode cX7_owed 18 = .ok (.if_icmp .ge 75, 3) := by decide +kernel
theorem dX7_owed_21 : decode cX7_owed 21 = .ok (.iconst 0, 1) := by decide +kernel
theorem dX7_owed_22 : decode cX7_owed 22 = .ok (.istore 4, 2) := by decide +kernel
theorem dX7_owed_24 : decode cX7_owed 24 = .ok (.iload 4, 2) := by decide +kernel
theorem dX7_owed_26 : decode cX7_owed 26 = .ok (.aload_n 0, 1) := by decide +kernel
theorem dX7_owed_27 : decode cX7_owed 27 = .ok (.getfield 7, 3) := by decide +kernel
theorem dX7_owed_30 : decode cX7_owed 30 = .ok (.bipush 40, 2) := by decide +kernel
theorem dX7_owed_32 : decode cX7_owed 32 = .ok (.iload_n 3, 1) := by decide +kernel
theorem dX7_owed_33 : decode cX7_owed 33 = .ok (.imul, 1) := by decide +kernel
theorem dX7_owed_34 : decode cX7_owed 34 = .ok (.iconst 3, 1) := by decide +kernel
theorem dX7_owed_35 : decode cX7_owed 35 = .ok (.iadd, 1) := by decide +kernel
theorem dX7_owed_36 : decode cX7_owed 36 = .ok (.iaload, 1) := by decide +kernel
theorem dX7_owed_37 : decode cX7_owed 37 = .ok (.if_icmp .ge 50, 3) := by decide +kernel
theorem dX7_owed_40 : decode cX7_owed 40 = .ok (.bipush 40, 2) := by decide +kernel
theorem dX7_owed_42 : decode cX7_owed 42 = .ok (.iload_n 3, 1) := by decide +kernel
theorem dX7_owed_43 : decode cX7_owed 43 = .ok (.imul, 1) := by decide +kernel
theorem dX7_owed_44 : decode cX7_owed 44 = .ok (.bipush 8, 2) := by decide +kernel
theorem dX7_owed_46 : decode cX7_owed 46 = .ok (.iadd, 1) := by decide +kernel
theorem dX7_owed_47 : decode cX7_owed 47 = .ok (.iconst 4, 1) := by decide +kernel
theorem dX7_owed_48 : decode cX7_owed 48 = .ok (.iload 4, 2) := by decide +kernel
theorem dX7_owed_50 : decode cX7_owed 50 = .ok (.imul, 1) := by decide +kernel
theorem dX7_owed_51 : decode cX7_owed 51 = .ok (.iadd, 1) := by decide +kernel
theorem dX7_owed_52 : decode cX7_owed 52 = .ok (.istore 5, 2) := by decide +kernel
theorem dX7_owed_54 : decode cX7_owed 54 = .ok (.iload_n 2, 1) := by decide +kernel
theorem dX7_owed_55 : decode cX7_owed 55 = .ok (.aload_n 0, 1) := by decide +kernel
theorem dX7_owed_56 : decode cX7_owed 56 = .ok (.getfield 7, 3) := by decide +kernel
theorem dX7_owed_59 : decode cX7_owed 59 = .ok (.iload 5, 2) := by decide +kernel
theorem dX7_owed_61 : decode cX7_owed 61 = .ok (.iaload, 1) := by decide +kernel
theorem dX7_owed_62 : decode cX7_owed 62 = .ok (.iload_n 1, 1) := by decide +kernel
theorem dX7_owed_63 : decode cX7_owed 63 = .ok (.if_icmp .ne 15, 3) := by decide +kernel
theorem dX7_owed_66 : decode cX7_owed 66 = .ok (.aload_n 0, 1) := by decide +kernel
theorem dX7_owed_67 : decode cX7_owed 67 = .ok (.getfield 7, 3) := by decide +kernel
theorem dX7_owed_70 : decode cX7_owed 70 = .ok (.iload 5, 2) := by decide +kernel
theorem dX7_owed_72 : decode cX7_owed 72 = .ok (.iconst 1, 1) := by decide +kernel
theorem dX7_owed_73 : decode cX7_owed 73 = .ok (.iadd, 1) := by decide +kernel
theorem dX7_owed_74 : decode cX7_owed 74 = .ok (.iaload, 1) := by decide +kernel
theorem dX7_owed_75 : decode cX7_owed 75 = .ok (.goto 4, 3) := by decide +kernel
theorem dX7_owed_78 : decode cX7_owed 78 = .ok (.iconst 0, 1) := by decide +kernel
theorem dX7_owed_79 : decode cX7_owed 79 = .ok (.iadd, 1) := by decide +kernel
theorem dX7_owed_80 : decode cX7_owed 80 = .ok (.istore_n 2, 1) := by decide +kernel
theorem dX7_owed_81 : decode cX7_owed 81 = .ok (.iinc 4 1, 3) := by decide +kernel
theorem dX7_owed_84 : decode cX7_owed 84 = .ok (.goto (-60), 3) := by decide +kernel
theorem dX7_owed_87 : decode cX7_owed 87 = .ok (.iinc 3 1, 3) := by decide +kernel
theorem dX7_owed_90 : decode cX7_owed 90 = .ok (.goto (-77), 3) := by decide +kernel
theorem dX7_owed_93 : decode cX7_owed 93 = .ok (.iload_n 2, 1) := by decide +kernel
theorem dX7_owed_94 : decode cX7_owed 94 = .ok (.ldc 90, 2) := by decide +kernel
theorem dX7_owed_96 : decode cX7_owed 96 = .ok (.if_icmp .le 8, 3) := by decide +kernel
theorem dX7_owed_99 : decode cX7_owed 99 = .ok (.ldc 90, 2) := by decide +kernel
theorem dX7_owed_101 : decode cX7_owed 101 = .ok (.goto 4, 3) := by decide +kernel
theorem dX7_owed_104 : decode cX7_owed 104 = .ok (.iload_n 2, 1) := by decide +kernel
theorem dX7_owed_105 : decode cX7_owed 105 = .ok (.ireturn, 1) := by decide +kernel
theorem dX7_turns_0 : decode cX7_turns 0 = .ok (.iload_n 1, 1) := by decide +kernel
theorem dX7_turns_1 : decode cX7_turns 1 = .ok (.iconst 2, 1) := by decide +kernel
theorem dX7_turns_2 : decode cX7_turns 2 = .ok (.isub, 1) := by decide +kernel
theorem dX7_turns_3 : decode cX7_turns 3 = .ok (.istore_n 2, 1) := by decide +kernel
theorem dX7_turns_4 : decode cX7_turns 4 = .ok (.iload_n 2, 1) := by decide +kernel
theorem dX7_turns_5 : decode cX7_turns 5 = .ok (.ifCond .lt 26, 3) := by decide +kernel
theorem dX7_turns_8 : decode cX7_turns 8 = .ok (.aload_n 0, 1) := by decide +kernel
theorem dX7_turns_9 : decode cX7_turns 9 = .ok (.getfield 40, 3) := by decide +kernel
theorem dX7_turns_12 : decode cX7_turns 12 = .ok (.iload_n 2, 1) := by decide +kernel
theorem dX7_turns_13 : decode cX7_turns 13 = .ok (.iaload, 1) := by decide +kernel
theorem dX7_turns_14 : decode cX7_turns 14 = .ok (.aload_n 0, 1) := by decide +kernel
theorem dX7_turns_15 : decode cX7_turns 15 = .ok (.getfield 40, 3) := by decide +kernel
theorem dX7_turns_18 : decode cX7_turns 18 = .ok (.iload_n 2, 1) := by decide +kernel
theorem dX7_turns_19 : decode cX7_turns 19 = .ok (.iconst 1, 1) := by decide +kernel
theorem dX7_turns_20 : decode cX7_turns 20 = .ok (.iadd, 1) := by decide +kernel
theorem dX7_turns_21 : decode cX7_turns 21 = .ok (.iaload, 1) := by decide +kernel
theorem dX7_turns_22 : decode cX7_turns 22 = .ok (.if_icmp .le 9, 3) := by decide +kernel
theorem dX7_turns_25 : decode cX7_turns 25 = .ok (.iinc 2 (-1), 3) := by decide +kernel
theorem dX7_turns_28 : decode cX7_turns 28 = .ok (.goto (-24), 3) := by decide +kernel
theorem dX7_turns_31 : decode cX7_turns 31 = .ok (.iload_n 2, 1) := by decide +kernel
theorem dX7_turns_32 : decode cX7_turns 32 = .ok (.ifCond .ge 5, 3) := by decide +kernel
theorem dX7_turns_35 : decode cX7_turns 35 = .ok (.iconst 0, 1) := by decide +kernel
theorem dX7_turns_36 : decode cX7_turns 36 = .ok (.ireturn, 1) := by decide +kernel
theorem dX7_turns_37 : decode cX7_turns 37 = .ok (.iload_n 1, 1) := by decide +kernel
theorem dX7_turns_38 : decode cX7_turns 38 = .ok (.iconst 1, 1) := by decide +kernel
theorem dX7_turns_39 : decode cX7_turns 39 = .ok (.isub, 1) := by decide +kernel
theorem dX7_turns_40 : decode cX7_turns 40 = .ok (.istore_n 3, 1) := by decide +kernel
theorem dX7_turns_41 : decode cX7_turns 41 = .ok (.aload_n 0, 1) := by decide +kernel
theorem dX7_turns_42 : decode cX7_turns 42 = .ok (.getfield 40, 3) := by decide +kernel
theorem dX7_turns_45 : decode cX7_turns 45 = .ok (.iload_n 3, 1) := by decide +kernel
theorem dX7_turns_46 : decode cX7_turns 46 = .ok (.iaload, 1) := by decide +kernel
theorem dX7_turns_47 : decode cX7_turns 47 = .ok (.aload_n 0, 1) := by decide +kernel
theorem dX7_turns_48 : decode cX7_turns 48 = .ok (.getfield 40, 3) := by decide +kernel
theorem dX7_turns_51 : decode cX7_turns 51 = .ok (.iload_n 2, 1) := by decide +kernel
theorem dX7_turns_52 : decode cX7_turns 52 = .ok (.iaload, 1) := by decide +kernel
theorem dX7_turns_53 : decode cX7_turns 53 = .ok (.if_icmp .ge 9, 3) := by decide +kernel
theorem dX7_turns_56 : decode cX7_turns 56 = .ok (.iinc 3 (-1), 3) := by decide +kernel
theorem dX7_turns_59 : decode cX7_turns 59 = .ok (.goto (-18), 3) := by decide +kernel
theorem dX7_turns_62 : decode cX7_turns 62 = .ok (.aload_n 0, 1) := by decide +kernel
theorem dX7_turns_63 : decode cX7_turns 63 = .ok (.getfield 40, 3) := by decide +kernel
theorem dX7_turns_66 : decode cX7_turns 66 = .ok (.iload_n 2, 1) := by decide +kernel
theorem dX7_turns_67 : decode cX7_turns 67 = .ok (.iaload, 1) := by decide +kernel
theorem dX7_turns_68 : decode cX7_turns 68 = .ok (.istore 4, 2) := by decide +kernel
theorem dX7_turns_70 : decode cX7_turns 70 = .ok (.aload_n 0, 1) := by decide +kernel
theorem dX7_turns_71 : decode cX7_turns 71 = .ok (.getfield 40, 3) := by decide +kernel
theorem dX7_turns_74 : decode cX7_turns 74 = .ok (.iload_n 2, 1) := by decide +kernel
theorem dX7_turns_75 : decode cX7_turns 75 = .ok (.aload_n 0, 1) := by decide +kernel
theorem dX7_turns_76 : decode cX7_turns 76 = .ok (.getfield 40, 3) := by decide +kernel
theorem dX7_turns_79 : decode cX7_turns 79 = .ok (.iload_n 3, 1) := by decide +kernel
theorem dX7_turns_80 : decode cX7_turns 80 = .ok (.iaload, 1) := by decide +kernel
theorem dX7_turns_81 : decode cX7_turns 81 = .ok (.iastore, 1) := by decide +kernel
theorem dX7_turns_82 : decode cX7_turns 82 = .ok (.aload_n 0, 1) := by decide +kernel
theorem dX7_turns_83 : decode cX7_turns 83 = .ok (.getfield 40, 3) := by decide +kernel
theorem dX7_turns_86 : decode cX7_turns 86 = .ok (.iload_n 3, 1) := by decide +kernel
theorem dX7_turns_87 : decode cX7_turns 87 = .ok (.iload 4, 2) := by decide +kernel
theorem dX7_turns_89 : decode cX7_turns 89 = .ok (.iastore, 1) := by decide +kernel
theorem dX7_turns_90 : decode cX7_turns 90 = .ok (.iload_n 2, 1) := by decide +kernel
theorem dX7_turns_91 : decode cX7_turns 91 = .ok (.iconst 1, 1) := by decide +kernel
theorem dX7_turns_92 : decode cX7_turns 92 = .ok (.iadd, 1) := by decide +kernel
theorem dX7_turns_93 : decode cX7_turns 93 = .ok (.istore 5, 2) := by decide +kernel
theorem dX7_turns_95 : decode cX7_turns 95 = .ok (.iload_n 1, 1) := by decide +kernel
theorem dX7_turns_96 : decode cX7_turns 96 = .ok (.iconst 1, 1) := by decide +kernel
theorem dX7_turns_97 : decode cX7_turns 97 = .ok (.isub, 1) := by decide +kernel
theorem dX7_turns_98 : decode cX7_turns 98 = .ok (.istore 6, 2) := by decide +kernel
theorem dX7_turns_100 : decode cX7_turns 100 = .ok (.iload 5, 2) := by decide +kernel
theorem dX7_turns_102 : decode cX7_turns 102 = .ok (.iload 6, 2) := by decide +kernel
theorem dX7_turns_104 : decode cX7_turns 104 = .ok (.if_icmp .ge 44, 3) := by decide +kernel
theorem dX7_turns_107 : decode cX7_turns 107 = .ok (.aload_n 0, 1) := by decide +kernel
theorem dX7_turns_108 : decode cX7_turns 108 = .ok (.getfield 40, 3) := by decide +kernel
theorem dX7_turns_111 : decode cX7_turns 111 = .ok (.iload 5, 2) := by decide +kernel
theorem dX7_turns_113 : decode cX7_turns 113 = .ok (.iaload, 1) := by decide +kernel
theorem dX7_turns_114 : decode cX7_turns 114 = .ok (.istore 4, 2) := by decide +kernel
theorem dX7_turns_116 : decode cX7_turns 116 = .ok (.aload_n 0, 1) := by decide +kernel
theorem dX7_turns_117 : decode cX7_turns 117 = .ok (.getfield 40, 3) := by decide +kernel
theorem dX7_turns_120 : decode cX7_turns 120 = .ok (.iload 5, 2) := by decide +kernel
theorem dX7_turns_122 : decode cX7_turns 122 = .ok (.aload_n 0, 1) := by decide +kernel
theorem dX7_turns_123 : decode cX7_turns 123 = .ok (.getfield 40, 3) := by decide +kernel
theorem dX7_turns_126 : decode cX7_turns 126 = .ok (.iload 6, 2) := by decide +kernel
theorem dX7_turns_128 : decode cX7_turns 128 = .ok (.iaload, 1) := by decide +kernel
theorem dX7_turns_129 : decode cX7_turns 129 = .ok (.iastore, 1) := by decide +kernel
theorem dX7_turns_130 : decode cX7_turns 130 = .ok (.aload_n 0, 1) := by decide +kernel
theorem dX7_turns_131 : decode cX7_turns 131 = .ok (.getfield 40, 3) := by decide +kernel
theorem dX7_turns_134 : decode cX7_turns 134 = .ok (.iload 6, 2) := by decide +kernel
theorem dX7_turns_136 : decode cX7_turns 136 = .ok (.iload 4, 2) := by decide +kernel
theorem dX7_turns_138 : decode cX7_turns 138 = .ok (.iastore, 1) := by decide +kernel
theorem dX7_turns_139 : decode cX7_turns 139 = .ok (.iinc 5 1, 3) := by decide +kernel
theorem dX7_turns_142 : decode cX7_turns 142 = .ok (.iinc 6 (-1), 3) := by decide +kernel
theorem dX7_turns_145 : decode cX7_turns 145 = .ok (.goto (-45), 3) := by decide +kernel
theorem dX7_turns_148 : decode cX7_turns 148 = .ok (.iconst 1, 1) := by decide +kernel
theorem dX7_turns_149 : decode cX7_turns 149 = .ok (.ireturn, 1) := by decide +kernel
theorem dX7_freeBy_0 : decode cX7_freeBy 0 = .ok (.bipush 40, 2) := by decide +kernel
theorem dX7_freeBy_2 : decode cX7_freeBy 2 = .ok (.iload_n 1, 1) := by decide +kernel
theorem dX7_freeBy_3 : decode cX7_freeBy 3 = .ok (.imul, 1) := by decide +kernel
theorem dX7_freeBy_4 : decode cX7_freeBy 4 = .ok (.istore_n 3, 1) := by decide +kernel
theorem dX7_freeBy_5 : decode cX7_freeBy 5 = .ok (.iconst 0, 1) := by decide +kernel
theorem dX7_freeBy_6 : decode cX7_freeBy 6 = .ok (.istore 4, 2) := by decide +kernel
theorem dX7_freeBy_8 : decode cX7_freeBy 8 = .ok (.iload 4, 2) := by decide +kernel
theorem dX7_freeBy_10 : decode cX7_freeBy 10 = .ok (.bipush 40, 2) := by decide +kernel
theorem dX7_freeBy_12 : decode cX7_freeBy 12 = .ok (.if_icmp .ge 25, 3) := by decide +kernel
theorem dX7_freeBy_15 : decode cX7_freeBy 15 = .ok (.aload_n 0, 1) := by decide +kernel
theorem dX7_freeBy_16 : decode cX7_freeBy 16 = .ok (.getfield 13, 3) := by decide +kernel
theorem dX7_freeBy_19 : decode cX7_freeBy 19 = .ok (.iload_n 3, 1) := by decide +kernel
theorem dX7_freeBy_20 : decode cX7_freeBy 20 = .ok (.iload 4, 2) := by decide +kernel
theorem dX7_freeBy_22 : decode cX7_freeBy 22 = .ok (.iadd, 1) := by decide +kernel
theorem dX7_freeBy_23 : decode cX7_freeBy 23 = .ok (.aload_n 0, 1) := by decide +kernel
theorem dX7_freeBy_24 : decode cX7_freeBy 24 = .ok (.getfield 46, 3) := by decide +kernel
theorem dX7_freeBy_27 : decode cX7_freeBy 27 = .ok (.iload 4, 2) := by decide +kernel
theorem dX7_freeBy_29 : decode cX7_freeBy 29 = .ok (.iaload, 1) := by decide +kernel
theorem dX7_freeBy_30 : decode cX7_freeBy 30 = .ok (.iastore, 1) := by decide +kernel
theorem dX7_freeBy_31 : decode cX7_freeBy 31 = .ok (.iinc 4 1, 3) := by decide +kernel
theorem dX7_freeBy_34 : decode cX7_freeBy 34 = .ok (.goto (-26), 3) := by decide +kernel
theorem dX7_freeBy_37 : decode cX7_freeBy 37 = .ok (.aload_n 0, 1) := by decide +kernel
theorem dX7_freeBy_38 : decode cX7_freeBy 38 = .ok (.aload_n 0, 1) := by decide +kernel
theorem dX7_freeBy_39 : decode cX7_freeBy 39 = .ok (.getfield 13, 3) := by decide +kernel
theorem dX7_freeBy_42 : decode cX7_freeBy 42 = .ok (.putfield 16, 3) := by decide +kernel
theorem dX7_freeBy_45 : decode cX7_freeBy 45 = .ok (.aload_n 0, 1) := by decide +kernel
theorem dX7_freeBy_46 : decode cX7_freeBy 46 = .ok (.iconst 0, 1) := by decide +kernel
theorem dX7_freeBy_47 : decode cX7_freeBy 47 = .ok (.putfield 192, 3) := by decide +kernel
theorem dX7_freeBy_50 : decode cX7_freeBy 50 = .ok (.iconst 0, 1) := by decide +kernel
theorem dX7_freeBy_51 : decode cX7_freeBy 51 = .ok (.istore 4, 2) := by decide +kernel
theorem dX7_freeBy_53 : decode cX7_freeBy 53 = .ok (.iconst 0, 1) := by decide +kernel
theorem dX7_freeBy_54 : decode cX7_freeBy 54 = .ok (.istore 5, 2) := by decide +kernel
theorem dX7_freeBy_56 : decode cX7_freeBy 56 = .ok (.iload 5, 2) := by decide +kernel
theorem dX7_freeBy_58 : decode cX7_freeBy 58 = .ok (.sipush 360, 3) := by decide +kernel
theorem dX7_freeBy_61 : decode cX7_freeBy 61 = .ok (.if_icmp .gt 182, 3) := by decide +kernel
theorem dX7_freeBy_64 : decode cX7_freeBy 64 = .ok (.iload 4, 2) := by decide +kernel
theorem dX7_freeBy_66 : decode cX7_freeBy 66 = .ok (.iload_n 2, 1) := by decide +kernel
theorem dX7_freeBy_67 : decode cX7_freeBy 67 = .ok (.if_icmp .ge 7, 3) := by decide +kernel
theorem dX7_freeBy_70 : decode cX7_freeBy 70 = .ok (.iconst 1, 1) := by decide +kernel
theorem dX7_freeBy_71 : decode cX7_freeBy 71 = .ok (.goto 4, 3) := by decide +kernel
theorem dX7_freeBy_74 : decode cX7_freeBy 74 = .ok (.iconst 0, 1) := by decide +kernel
theorem dX7_freeBy_75 : decode cX7_freeBy 75 = .ok (.istore 6, 2) := by decide +kernel
theorem dX7_freeBy_77 : decode cX7_freeBy 77 = .ok (.iload 6, 2) := by decide +kernel
theorem dX7_freeBy_79 : decode cX7_freeBy 79 = .ok (.ifCond .eq 144, 3) := by decide +kernel
theorem dX7_freeBy_82 : decode cX7_freeBy 82 = .ok (.aload_n 0, 1) := by decide +kernel
theorem dX7_freeBy_83 : decode cX7_freeBy 83 = .ok (.getfield 40, 3) := by decide +kernel
theorem dX7_freeBy_86 : decode cX7_freeBy 86 = .ok (.iload 4, 2) := by decide +kernel
theorem dX7_freeBy_88 : decode cX7_freeBy 88 = .ok (.iaload, 1) := by decide +kernel
theorem dX7_freeBy_89 : decode cX7_freeBy 89 = .ok (.istore 7, 2) := by decide +kernel
theorem dX7_freeBy_91 : decode cX7_freeBy 91 = .ok (.iconst 0, 1) := by decide +kernel
theorem dX7_freeBy_92 : decode cX7_freeBy 92 = .ok (.istore 8, 2) := by decide +kernel
theorem dX7_freeBy_94 : decode cX7_freeBy 94 = .ok (.iload 8, 2) := by decide +kernel
theorem dX7_freeBy_96 : decode cX7_freeBy 96 = .ok (.iload 4, 2) := by decide +kernel
theorem dX7_freeBy_98 : decode cX7_freeBy 98 = .ok (.if_icmp .ge 36, 3) := by decide +kernel
theorem dX7_freeBy_101 : decode cX7_freeBy 101 = .ok (.iload 7, 2) := by decide +kernel
theorem dX7_freeBy_103 : decode cX7_freeBy 103 = .ok (.aload_n 0, 1) := by decide +kernel
theorem dX7_freeBy_104 : decode cX7_freeBy 104 = .ok (.getfield 40, 3) := by decide +kernel
theorem dX7_freeBy_107 : decode cX7_freeBy 107 = .ok (.iload 8, 2) := by decide +kernel
theorem dX7_freeBy_109 : decode cX7_freeBy 109 = .ok (.iaload, 1) := by decide +kernel
theorem dX7_freeBy_110 : decode cX7_freeBy 110 = .ok (.aload_n 0, 1) := by decide +kernel
theorem dX7_freeBy_111 : decode cX7_freeBy 111 = .ok (.getfield 40, 3) := by decide +kernel
theorem dX7_freeBy_114 : decode cX7_freeBy 114 = .ok (.iload 4, 2) := by decide +kernel
theorem dX7_freeBy_116 : decode cX7_freeBy 116 = .ok (.iaload, 1) := by decide +kernel
theorem dX7_freeBy_117 : decode cX7_freeBy 117 = .ok (.if_icmp .ge 7, 3) := by decide +kernel
theorem dX7_freeBy_120 : decode cX7_freeBy 120 = .ok (.iconst 1, 1) := by decide +kernel
theorem dX7_freeBy_121 : decode cX7_freeBy 121 = .ok (.goto 4, 3) := by decide +kernel
theorem dX7_freeBy_124 : decode cX7_freeBy 124 = .ok (.iconst 0, 1) := by decide +kernel
theorem dX7_freeBy_125 : decode cX7_freeBy 125 = .ok (.isub, 1) := by decide +kernel
theorem dX7_freeBy_126 : decode cX7_freeBy 126 = .ok (.istore 7, 2) := by decide +kernel
theorem dX7_freeBy_128 : decode cX7_freeBy 128 = .ok (.iinc 8 1, 3) := by decide +kernel
theorem dX7_freeBy_131 : decode cX7_freeBy 131 = .ok (.goto (-37), 3) := by decide +kernel
theorem dX7_freeBy_134 : decode cX7_freeBy 134 = .ok (.aload_n 0, 1) := by decide +kernel
theorem dX7_freeBy_135 : decode cX7_freeBy 135 = .ok (.getfield 13, 3) := by decide +kernel
theorem dX7_freeBy_138 : decode cX7_freeBy 138 = .ok (.iload_n 3, 1) := by decide +kernel
theorem dX7_freeBy_139 : decode cX7_freeBy 139 = .ok (.bipush 8, 2) := by decide +kernel
theorem dX7_freeBy_141 : decode cX7_freeBy 141 = .ok (.iadd, 1) := by decide +kernel
theorem dX7_freeBy_142 : decode cX7_freeBy 142 = .ok (.iconst 4, 1) := by decide +kernel
theorem dX7_freeBy_143 : decode cX7_freeBy 143 = .ok (.iload 7, 2) := by decide +kernel
theorem dX7_freeBy_145 : decode cX7_freeBy 145 = .ok (.imul, 1) := by decide +kernel
theorem dX7_freeBy_146 : decode cX7_freeBy 146 = .ok (.iadd, 1) := by decide +kernel
theorem dX7_freeBy_147 : decode cX7_freeBy 147 = .ok (.iconst 1, 1) := by decide +kernel
theorem dX7_freeBy_148 : decode cX7_freeBy 148 = .ok (.iadd, 1) := by decide +kernel
theorem dX7_freeBy_149 : decode cX7_freeBy 149 = .ok (.iaload, 1) := by decide +kernel
theorem dX7_freeBy_150 : decode cX7_freeBy 150 = .ok (.istore 8, 2) := by decide +kernel
theorem dX7_freeBy_152 : decode cX7_freeBy 152 = .ok (.aload_n 0, 1) := by decide +kernel
theorem dX7_freeBy_153 : decode cX7_freeBy 153 = .ok (.getfield 13, 3) := by decide +kernel
theorem dX7_freeBy_156 : decode cX7_freeBy 156 = .ok (.iload_n 3, 1) := by decide +kernel
theorem dX7_freeBy_157 : decode cX7_freeBy 157 = .ok (.iaload, 1) := by decide +kernel
theorem dX7_freeBy_158 : decode cX7_freeBy 158 = .ok (.iload 8, 2) := by decide +kernel
theorem dX7_freeBy_160 : decode cX7_freeBy 160 = .ok (.if_icmp .lt 7, 3) := by decide +kernel
theorem dX7_freeBy_163 : decode cX7_freeBy 163 = .ok (.iconst 1, 1) := by decide +kernel
theorem dX7_freeBy_164 : decode cX7_freeBy 164 = .ok (.goto 4, 3) := by decide +kernel
theorem dX7_freeBy_167 : decode cX7_freeBy 167 = .ok (.iconst 0, 1) := by decide +kernel
theorem dX7_freeBy_168 : decode cX7_freeBy 168 = .ok (.istore 6, 2) := by decide +kernel
theorem dX7_freeBy_170 : decode cX7_freeBy 170 = .ok (.iload 6, 2) := by decide +kernel
theorem dX7_freeBy_172 : decode cX7_freeBy 172 = .ok (.ifCond .eq 48, 3) := by decide +kernel
theorem dX7_freeBy_175 : decode cX7_freeBy 175 = .ok (.aload_n 0, 1) := by decide +kernel
theorem dX7_freeBy_176 : decode cX7_freeBy 176 = .ok (.getfield 13, 3) := by decide +kernel
theorem dX7_freeBy_179 : decode cX7_freeBy 179 = .ok (.iload_n 3, 1) := by decide +kernel
theorem dX7_freeBy_180 : decode cX7_freeBy 180 = .ok (.dup2, 1) := by decide +kernel
theorem dX7_freeBy_181 : decode cX7_freeBy 181 = .ok (.iaload, 1) := by decide +kernel
theorem dX7_freeBy_182 : decode cX7_freeBy 182 = .ok (.iload 8, 2) := by decide +kernel
theorem dX7_freeBy_184 : decode cX7_freeBy 184 = .ok (.isub, 1) := by decide +kernel
theorem dX7_freeBy_185 : decode cX7_freeBy 185 = .ok (.iastore, 1) := by decide +kernel
theorem dX7_freeBy_186 : decode cX7_freeBy 186 = .ok (.aload_n 0, 1) := by decide +kernel
theorem dX7_freeBy_187 : decode cX7_freeBy 187 = .ok (.dup, 1) := by decide +kernel
theorem dX7_freeBy_188 : decode cX7_freeBy 188 = .ok (.getfield 192, 3) := by decide +kernel
theorem dX7_freeBy_191 : decode cX7_freeBy 191 = .ok (.iload 8, 2) := by decide +kernel
theorem dX7_freeBy_193 : decode cX7_freeBy 193 = .ok (.iadd, 1) := by decide +kernel
theorem dX7_freeBy_194 : decode cX7_freeBy 194 = .ok (.putfield 192, 3) := by decide +kernel
theorem dX7_freeBy_197 : decode cX7_freeBy 197 = .ok (.aload_n 0, 1) := by decide +kernel
theorem dX7_freeBy_198 : decode cX7_freeBy 198 = .ok (.iload_n 1, 1) := by decide +kernel
theorem dX7_freeBy_199 : decode cX7_freeBy 199 = .ok (.iload 7, 2) := by decide +kernel
theorem dX7_freeBy_201 : decode cX7_freeBy 201 = .ok (.invokevirtual 173, 3) := by decide +kernel
theorem dX7_freeBy_204 : decode cX7_freeBy 204 = .ok (.iinc 4 1, 3) := by decide +kernel
theorem dX7_freeBy_207 : decode cX7_freeBy 207 = .ok (.iload 4, 2) := by decide +kernel
theorem dX7_freeBy_209 : decode cX7_freeBy 209 = .ok (.iload_n 2, 1) := by decide +kernel
theorem dX7_freeBy_210 : decode cX7_freeBy 210 = .ok (.if_icmp .ge 7, 3) := by decide +kernel
theorem dX7_freeBy_213 : decode cX7_freeBy 213 = .ok (.iconst 1, 1) := by decide +kernel
theorem dX7_freeBy_214 : decode cX7_freeBy 214 = .ok (.goto 4, 3) := by decide +kernel
theorem dX7_freeBy_217 : decode cX7_freeBy 217 = .ok (.iconst 0, 1) := by decide +kernel
theorem dX7_freeBy_218 : decode cX7_freeBy 218 = .ok (.istore 6, 2) := by decide +kernel
theorem dX7_freeBy_220 : decode cX7_freeBy 220 = .ok (.goto (-143), 3) := by decide +kernel
theorem dX7_freeBy_223 : decode cX7_freeBy 223 = .ok (.iload 4, 2) := by decide +kernel
theorem dX7_freeBy_225 : decode cX7_freeBy 225 = .ok (.iload_n 2, 1) := by decide +kernel
theorem dX7_freeBy_226 : decode cX7_freeBy 226 = .ok (.if_icmp .ne 6, 3) := by decide +kernel
theorem dX7_freeBy_229 : decode cX7_freeBy 229 = .ok (.iload 5, 2) := by decide +kernel
theorem dX7_freeBy_231 : decode cX7_freeBy 231 = .ok (.ireturn, 1) := by decide +kernel
theorem dX7_freeBy_232 : decode cX7_freeBy 232 = .ok (.aload_n 0, 1) := by decide +kernel
theorem dX7_freeBy_233 : decode cX7_freeBy 233 = .ok (.iload_n 1, 1) := by decide +kernel
theorem dX7_freeBy_234 : decode cX7_freeBy 234 = .ok (.invokevirtual 158, 3) := by decide +kernel
theorem dX7_freeBy_237 : decode cX7_freeBy 237 = .ok (.iinc 5 1, 3) := by decide +kernel
theorem dX7_freeBy_240 : decode cX7_freeBy 240 = .ok (.goto (-184), 3) := by decide +kernel
theorem dX7_freeBy_243 : decode cX7_freeBy 243 = .ok (.sipush 361, 3) := by decide +kernel
theorem dX7_freeBy_246 : decode cX7_freeBy 246 = .ok (.ireturn, 1) := by decide +kernel
theorem dX7_starts_0 : decode cX7_starts 0 = .ok (.iconst 0, 1) := by decide +kernel
theorem dX7_starts_1 : decode cX7_starts 1 = .ok (.istore_n 2, 1) := by decide +kernel
theorem dX7_starts_2 : decode cX7_starts 2 = .ok (.iload_n 2, 1) := by decide +kernel
theorem dX7_starts_3 : decode cX7_starts 3 = .ok (.bipush 40, 2) := by decide +kernel
theorem dX7_starts_5 : decode cX7_starts 5 = .ok (.if_icmp .ge 26, 3) := by decide +kernel
theorem dX7_starts_8 : decode cX7_starts 8 = .ok (.aload_n 0, 1) := by decide +kernel
theorem dX7_starts_9 : decode cX7_starts 9 = .ok (.getfield 46, 3) := by decide +kernel
theorem dX7_starts_12 : decode cX7_starts 12 = .ok (.iload_n 2, 1) := by decide +kernel
theorem dX7_starts_13 : decode cX7_starts 13 = .ok (.aload_n 0, 1) := by decide +kernel
theorem dX7_starts_14 : decode cX7_starts 14 = .ok (.getfield 7, 3) := by decide +kernel
theorem dX7_starts_17 : decode cX7_starts 17 = .ok (.bipush 40, 2) := by decide +kernel
theorem dX7_starts_19 : decode cX7_starts 19 = .ok (.iload_n 1, 1) := by decide +kernel
theorem dX7_starts_20 : decode cX7_starts 20 = .ok (.imul, 1) := by decide +kernel
theorem dX7_starts_21 : decode cX7_starts 21 = .ok (.iload_n 2, 1) := by decide +kernel
theorem dX7_starts_22 : decode cX7_starts 22 = .ok (.iadd, 1) := by decide +kernel
theorem dX7_starts_23 : decode cX7_starts 23 = .ok (.iaload, 1) := by decide +kernel
theorem dX7_starts_24 : decode cX7_starts 24 = .ok (.iastore, 1) := by decide +kernel
theorem dX7_starts_25 : decode cX7_starts 25 = .ok (.iinc 2 1, 3) := by decide +kernel
theorem dX7_starts_28 : decode cX7_starts 28 = .ok (.goto (-26), 3) := by decide +kernel
theorem dX7_starts_31 : decode cX7_starts 31 = .ok (.return_, 1) := by decide +kernel
theorem dX7_isLawful_0 : decode cX7_isLawful 0 = .ok (.iconst 1, 1) := by decide +kernel
theorem dX7_isLawful_1 : decode cX7_isLawful 1 = .ok (.istore_n 2, 1) := by decide +kernel
theorem dX7_isLawful_2 : decode cX7_isLawful 2 = .ok (.iconst 0, 1) := by decide +kernel
theorem dX7_isLawful_3 : decode cX7_isLawful 3 = .ok (.istore_n 3, 1) := by decide +kernel
theorem dX7_isLawful_4 : decode cX7_isLawful 4 = .ok (.iload_n 3, 1) := by decide +kernel
theorem dX7_isLawful_5 : decode cX7_isLawful 5 = .ok (.iload_n 1, 1) := by decide +kernel
theorem dX7_isLawful_6 : decode cX7_isLawful 6 = .ok (.if_icmp .ge 84, 3) := by decide +kernel
theorem dX7_isLawful_9 : decode cX7_isLawful 9 = .ok (.iload_n 2, 1) := by decide +kernel
theorem dX7_isLawful_10 : decode cX7_isLawful 10 = .ok (.ifCond .eq 72, 3) := by decide +kernel
theorem dX7_isLawful_13 : decode cX7_isLawful 13 = .ok (.aload_n 0, 1) := by decide +kernel
theorem dX7_isLawful_14 : decode cX7_isLawful 14 = .ok (.getfield 25, 3) := by decide +kernel
theorem dX7_isLawful_17 : decode cX7_isLawful 17 = .ok (.iconst 0, 1) := by decide +kernel
theorem dX7_isLawful_18 : decode cX7_isLawful 18 = .ok (.iaload, 1) := by decide +kernel
theorem dX7_isLawful_19 : decode cX7_isLawful 19 = .ok (.ifCond .ne 20, 3) := by decide +kernel
theorem dX7_isLawful_22 : decode cX7_isLawful 22 = .ok (.aload_n 0, 1) := by decide +kernel
theorem dX7_isLawful_23 : decode cX7_isLawful 23 = .ok (.getfield 40, 3) := by decide +kernel
theorem dX7_isLawful_26 : decode cX7_isLawful 26 = .ok (.iload_n 3, 1) := by decide +kernel
theorem dX7_isLawful_27 : decode cX7_isLawful 27 = .ok (.iaload, 1) := by decide +kernel
theorem dX7_isLawful_28 : decode cX7_isLawful 28 = .ok (.iload_n 1, 1) := by decide +kernel
theorem dX7_isLawful_29 : decode cX7_isLawful 29 = .ok (.iconst 1, 1) := by decide +kernel
theorem dX7_isLawful_30 : decode cX7_isLawful 30 = .ok (.isub, 1) := by decide +kernel
theorem dX7_isLawful_31 : decode cX7_isLawful 31 = .ok (.iload_n 3, 1) := by decide +kernel
theorem dX7_isLawful_32 : decode cX7_isLawful 32 = .ok (.isub, 1) := by decide +kernel
theorem dX7_isLawful_33 : decode cX7_isLawful 33 = .ok (.if_icmp .ne 49, 3) := by decide +kernel
theorem dX7_isLawful_36 : decode cX7_isLawful 36 = .ok (.goto 42, 3) := by decide +kernel
theorem dX7_isLawful_39 : decode cX7_isLawful 39 = .ok (.aload_n 0, 1) := by decide +kernel
theorem dX7_isLawful_40 : decode cX7_isLawful 40 = .ok (.getfield 25, 3) := by decide +kernel
theorem dX7_isLawful_43 : decode cX7_isLawful 43 = .ok (.iconst 0, 1) := by decide +kernel
theorem dX7_isLawful_44 : decode cX7_isLawful 44 = .ok (.iaload, 1) := by decide +kernel
theorem dX7_isLawful_45 : decode cX7_isLawful 45 = .ok (.iconst 1, 1) := by decide +kernel
theorem dX7_isLawful_46 : decode cX7_isLawful 46 = .ok (.if_icmp .ne 16, 3) := by decide +kernel
theorem dX7_isLawful_49 : decode cX7_isLawful 49 = .ok (.aload_n 0, 1) := by decide +kernel
theorem dX7_isLawful_50 : decode cX7_isLawful 50 = .ok (.getfield 40, 3) := by decide +kernel
theorem dX7_isLawful_53 : decode cX7_isLawful 53 = .ok (.iload_n 3, 1) := by decide +kernel
theorem dX7_isLawful_54 : decode cX7_isLawful 54 = .ok (.iaload, 1) := by decide +kernel
theorem dX7_isLawful_55 : decode cX7_isLawful 55 = .ok (.iload_n 3, 1) := by decide +kernel
theorem dX7_isLawful_56 : decode cX7_isLawful 56 = .ok (.if_icmp .ne 26, 3) := by decide +kernel
theorem dX7_isLawful_59 : decode cX7_isLawful 59 = .ok (.goto 19, 3) := by decide +kernel
theorem dX7_isLawful_62 : decode cX7_isLawful 62 = .ok (.aload_n 0, 1) := by decide +kernel
theorem dX7_isLawful_63 : decode cX7_isLawful 63 = .ok (.getfield 40, 3) := by decide +kernel
theorem dX7_isLawful_66 : decode cX7_isLawful 66 = .ok (.iload_n 3, 1) := by decide +kernel
theorem dX7_isLawful_67 : decode cX7_isLawful 67 = .ok (.iaload, 1) := by decide +kernel
theorem dX7_isLawful_68 : decode cX7_isLawful 68 = .ok (.ifCond .gt 10, 3) := by decide +kernel
theorem dX7_isLawful_71 : decode cX7_isLawful 71 = .ok (.iload_n 3, 1) := by decide +kernel
theorem dX7_isLawful_72 : decode cX7_isLawful 72 = .ok (.iload_n 1, 1) := by decide +kernel
theorem dX7_isLawful_73 : decode cX7_isLawful 73 = .ok (.iconst 1, 1) := by decide +kernel
theorem dX7_isLawful_74 : decode cX7_isLawful 74 = .ok (.isub, 1) := by decide +kernel
theorem dX7_isLawful_75 : decode cX7_isLawful 75 = .ok (.if_icmp .ne 7, 3) := by decide +kernel
theorem dX7_isLawful_78 : decode cX7_isLawful 78 = .ok (.iconst 1, 1) := by decide +kernel
theorem dX7_isLawful_79 : decode cX7_isLawful 79 = .ok (.goto 4, 3) := by decide +kernel
theorem dX7_isLawful_82 : decode cX7_isLawful 82 = .ok (.iconst 0, 1) := by decide +kernel
theorem dX7_isLawful_83 : decode cX7_isLawful 83 = .ok (.istore_n 2, 1) := by decide +kernel
theorem dX7_isLawful_84 : decode cX7_isLawful 84 = .ok (.iinc 3 1, 3) := by decide +kernel
theorem dX7_isLawful_87 : decode cX7_isLawful 87 = .ok (.goto (-83), 3) := by decide +kernel
theorem dX7_isLawful_90 : decode cX7_isLawful 90 = .ok (.iload_n 2, 1) := by decide +kernel
theorem dX7_isLawful_91 : decode cX7_isLawful 91 = .ok (.ireturn, 1) := by decide +kernel
theorem dX7_bestFree_0 : decode cX7_bestFree 0 = .ok (.aload_n 0, 1) := by decide +kernel
theorem dX7_bestFree_1 : decode cX7_bestFree 1 = .ok (.getfield 46, 3) := by decide +kernel
theorem dX7_bestFree_4 : decode cX7_bestFree 4 = .ok (.iconst 3, 1) := by decide +kernel
theorem dX7_bestFree_5 : decode cX7_bestFree 5 = .ok (.iaload, 1) := by decide +kernel
theorem dX7_bestFree_6 : decode cX7_bestFree 6 = .ok (.istore_n 2, 1) := by decide +kernel
theorem dX7_bestFree_7 : decode cX7_bestFree 7 = .ok (.sipush 361, 3) := by decide +kernel
theorem dX7_bestFree_10 : decode cX7_bestFree 10 = .ok (.istore_n 3, 1) := by decide +kernel
theorem dX7_bestFree_11 : decode cX7_bestFree 11 = .ok (.iconst 0, 1) := by decide +kernel
theorem dX7_bestFree_12 : decode cX7_bestFree 12 = .ok (.istore 4, 2) := by decide +kernel
theorem dX7_bestFree_14 : decode cX7_bestFree 14 = .ok (.iload 4, 2) := by decide +kernel
theorem dX7_bestFree_16 : decode cX7_bestFree 16 = .ok (.iload_n 2, 1) := by decide +kernel
theorem dX7_bestFree_17 : decode cX7_bestFree 17 = .ok (.if_icmp .ge 18, 3) := by decide +kernel
theorem dX7_bestFree_20 : decode cX7_bestFree 20 = .ok (.aload_n 0, 1) := by decide +kernel
theorem dX7_bestFree_21 : decode cX7_bestFree 21 = .ok (.getfield 40, 3) := by decide +kernel
theorem dX7_bestFree_24 : decode cX7_bestFree 24 = .ok (.iload 4, 2) := by decide +kernel
theorem dX7_bestFree_26 : decode cX7_bestFree 26 = .ok (.iload 4, 2) := by decide +kernel
theorem dX7_bestFree_28 : decode cX7_bestFree 28 = .ok (.iastore, 1) := by decide +kernel
theorem dX7_bestFree_29 : decode cX7_bestFree 29 = .ok (.iinc 4 1, 3) := by decide +kernel
theorem dX7_bestFree_32 : decode cX7_bestFree 32 = .ok (.goto (-18), 3) := by decide +kernel
theorem dX7_bestFree_35 : decode cX7_bestFree 35 = .ok (.iconst 1, 1) := by decide +kernel
theorem dX7_bestFree_36 : decode cX7_bestFree 36 = .ok (.istore 4, 2) := by decide +kernel
theorem dX7_bestFree_38 : decode cX7_bestFree 38 = .ok (.iload 4, 2) := by decide +kernel
theorem dX7_bestFree_40 : decode cX7_bestFree 40 = .ok (.ifCond .eq 118, 3) := by decide +kernel
theorem dX7_bestFree_43 : decode cX7_bestFree 43 = .ok (.aload_n 0, 1) := by decide +kernel
theorem dX7_bestFree_44 : decode cX7_bestFree 44 = .ok (.iload_n 2, 1) := by decide +kernel
theorem dX7_bestFree_45 : decode cX7_bestFree 45 = .ok (.invokevirtual 195, 3) := by decide +kernel
theorem dX7_bestFree_48 : decode cX7_bestFree 48 = .ok (.ifCond .eq 12, 3) := by decide +kernel
theorem dX7_bestFree_51 : decode cX7_bestFree 51 = .ok (.aload_n 0, 1) := by decide +kernel
theorem dX7_bestFree_52 : decode cX7_bestFree 52 = .ok (.iload_n 1, 1) := by decide +kernel
theorem dX7_bestFree_53 : decode cX7_bestFree 53 = .ok (.iload_n 2, 1) := by decide +kernel
theorem dX7_bestFree_54 : decode cX7_bestFree 54 = .ok (.invokevirtual 198, 3) := by decide +kernel
theorem dX7_bestFree_57 : decode cX7_bestFree 57 = .ok (.goto 6, 3) := by decide +kernel
theorem dX7_bestFree_60 : decode cX7_bestFree 60 = .ok (.sipush 361, 3) := by decide +kernel
theorem dX7_bestFree_63 : decode cX7_bestFree 63 = .ok (.istore 5, 2) := by decide +kernel
theorem dX7_bestFree_65 : decode cX7_bestFree 65 = .ok (.iload 5, 2) := by decide +kernel
theorem dX7_bestFree_67 : decode cX7_bestFree 67 = .ok (.iload_n 3, 1) := by decide +kernel
theorem dX7_bestFree_68 : decode cX7_bestFree 68 = .ok (.if_icmp .lt 28, 3) := by decide +kernel
theorem dX7_bestFree_71 : decode cX7_bestFree 71 = .ok (.iload 5, 2) := by decide +kernel
theorem dX7_bestFree_73 : decode cX7_bestFree 73 = .ok (.sipush 361, 3) := by decide +kernel
theorem dX7_bestFree_76 : decode cX7_bestFree 76 = .ok (.if_icmp .ge 24, 3) := by decide +kernel
theorem dX7_bestFree_79 : decode cX7_bestFree 79 = .ok (.iload 5, 2) := by decide +kernel
theorem dX7_bestFree_81 : decode cX7_bestFree 81 = .ok (.iload_n 3, 1) := by decide +kernel
theorem dX7_bestFree_82 : decode cX7_bestFree 82 = .ok (.if_icmp .ne 18, 3) := by decide +kernel
theorem dX7_bestFree_85 : decode cX7_bestFree 85 = .ok (.aload_n 0, 1) := by decide +kernel
theorem dX7_bestFree_86 : decode cX7_bestFree 86 = .ok (.getfield 192, 3) := by decide +kernel
theorem dX7_bestFree_89 : decode cX7_bestFree 89 = .ok (.aload_n 0, 1) := by decide +kernel
theorem dX7_bestFree_90 : decode cX7_bestFree 90 = .ok (.getfield 201, 3) := by decide +kernel
theorem dX7_bestFree_93 : decode cX7_bestFree 93 = .ok (.if_icmp .ge 7, 3) := by decide +kernel
theorem dX7_bestFree_96 : decode cX7_bestFree 96 = .ok (.iconst 1, 1) := by decide +kernel
theorem dX7_bestFree_97 : decode cX7_bestFree 97 = .ok (.goto 4, 3) := by decide +kernel
theorem dX7_bestFree_100 : decode cX7_bestFree 100 = .ok (.iconst 0, 1) := by decide +kernel
theorem dX7_bestFree_101 : decode cX7_bestFree 101 = .ok (.istore 6, 2) := by decide +kernel
theorem dX7_bestFree_103 : decode cX7_bestFree 103 = .ok (.iload 6, 2) := by decide +kernel
theorem dX7_bestFree_105 : decode cX7_bestFree 105 = .ok (.ifCond .eq 43, 3) := by decide +kernel
theorem dX7_bestFree_108 : decode cX7_bestFree 108 = .ok (.iload 5, 2) := by decide +kernel
theorem dX7_bestFree_110 : decode cX7_bestFree 110 = .ok (.istore_n 3, 1) := by decide +kernel
theorem dX7_bestFree_111 : decode cX7_bestFree 111 = .ok (.aload_n 0, 1) := by decide +kernel
theorem dX7_bestFree_112 : decode cX7_bestFree 112 = .ok (.aload_n 0, 1) := by decide +kernel
theorem dX7_bestFree_113 : decode cX7_bestFree 113 = .ok (.getfield 192, 3) := by decide +kernel
theorem dX7_bestFree_116 : decode cX7_bestFree 116 = .ok (.putfield 201, 3) := by decide +kernel
theorem dX7_bestFree_119 : decode cX7_bestFree 119 = .ok (.iconst 0, 1) := by decide +kernel
theorem dX7_bestFree_120 : decode cX7_bestFree 120 = .ok (.istore 7, 2) := by decide +kernel
theorem dX7_bestFree_122 : decode cX7_bestFree 122 = .ok (.iload 7, 2) := by decide +kernel
theorem dX7_bestFree_124 : decode cX7_bestFree 124 = .ok (.iload_n 2, 1) := by decide +kernel
theorem dX7_bestFree_125 : decode cX7_bestFree 125 = .ok (.if_icmp .ge 23, 3) := by decide +kernel
theorem dX7_bestFree_128 : decode cX7_bestFree 128 = .ok (.aload_n 0, 1) := by decide +kernel
theorem dX7_bestFree_129 : decode cX7_bestFree 129 = .ok (.getfield 43, 3) := by decide +kernel
theorem dX7_bestFree_132 : decode cX7_bestFree 132 = .ok (.iload 7, 2) := by decide +kernel
theorem dX7_bestFree_134 : decode cX7_bestFree 134 = .ok (.aload_n 0, 1) := by decide +kernel
theorem dX7_bestFree_135 : decode cX7_bestFree 135 = .ok (.getfield 40, 3) := by decide +kernel
theorem dX7_bestFree_138 : decode cX7_bestFree 138 = .ok (.iload 7, 2) := by decide +kernel
theorem dX7_bestFree_140 : decode cX7_bestFree 140 = .ok (.iaload, 1) := by decide +kernel
theorem dX7_bestFree_141 : decode cX7_bestFree 141 = .ok (.iastore, 1) := by decide +kernel
theorem dX7_bestFree_142 : decode cX7_bestFree 142 = .ok (.iinc 7 1, 3) := by decide +kernel
theorem dX7_bestFree_145 : decode cX7_bestFree 145 = .ok (.goto (-23), 3) := by decide +kernel
theorem dX7_bestFree_148 : decode cX7_bestFree 148 = .ok (.aload_n 0, 1) := by decide +kernel
theorem dX7_bestFree_149 : decode cX7_bestFree 149 = .ok (.iload_n 2, 1) := by decide +kernel
theorem dX7_bestFree_150 : decode cX7_bestFree 150 = .ok (.invokevirtual 204, 3) := by decide +kernel
theorem dX7_bestFree_153 : decode cX7_bestFree 153 = .ok (.istore 4, 2) := by decide +kernel
theorem dX7_bestFree_155 : decode cX7_bestFree 155 = .ok (.goto (-117), 3) := by decide +kernel
theorem dX7_bestFree_158 : decode cX7_bestFree 158 = .ok (.iload_n 3, 1) := by decide +kernel
theorem dX7_bestFree_159 : decode cX7_bestFree 159 = .ok (.ireturn, 1) := by decide +kernel
theorem dX7_free_0 : decode cX7_free 0 = .ok (.aload_n 0, 1) := by decide +kernel
theorem dX7_free_1 : decode cX7_free 1 = .ok (.iload_n 1, 1) := by decide +kernel
theorem dX7_free_2 : decode cX7_free 2 = .ok (.invokevirtual 80, 3) := by decide +kernel
theorem dX7_free_5 : decode cX7_free 5 = .ok (.ifCond .eq 15, 3) := by decide +kernel
theorem dX7_free_8 : decode cX7_free 8 = .ok (.iload_n 2, 1) := by decide +kernel
theorem dX7_free_9 : decode cX7_free 9 = .ok (.i2l, 1) := by decide +kernel
theorem dX7_free_10 : decode cX7_free 10 = .ok (.lconst 0, 1) := by decide +kernel
theorem dX7_free_11 : decode cX7_free 11 = .ok (.ldc2_w 207, 3) := by decide +kernel
theorem dX7_free_14 : decode cX7_free 14 = .ok (.invokestatic 68, 3) := by decide +kernel
theorem dX7_free_17 : decode cX7_free 17 = .ok (.ifCond .ne 5, 3) := by decide +kernel
theorem dX7_free_20 : decode cX7_free 20 = .ok (.iconst (-1), 1) := by decide +kernel
theorem dX7_free_21 : decode cX7_free 21 = .ok (.ireturn, 1) := by decide +kernel
theorem dX7_free_22 : decode cX7_free 22 = .ok (.aload_n 0, 1) := by decide +kernel
theorem dX7_free_23 : decode cX7_free 23 = .ok (.getfield 7, 3) := by decide +kernel
theorem dX7_free_26 : decode cX7_free 26 = .ok (.bipush 40, 2) := by decide +kernel
theorem dX7_free_28 : decode cX7_free 28 = .ok (.iload_n 1, 1) := by decide +kernel
theorem dX7_free_29 : decode cX7_free 29 = .ok (.imul, 1) := by decide +kernel
theorem dX7_free_30 : decode cX7_free 30 = .ok (.iconst 3, 1) := by decide +kernel
theorem dX7_free_31 : decode cX7_free 31 = .ok (.iadd, 1) := by decide +kernel
theorem dX7_free_32 : decode cX7_free 32 = .ok (.iaload, 1) := by decide +kernel
theorem dX7_free_33 : decode cX7_free 33 = .ok (.istore_n 3, 1) := by decide +kernel
theorem dX7_free_34 : decode cX7_free 34 = .ok (.iload_n 3, 1) := by decide +kernel
theorem dX7_free_35 : decode cX7_free 35 = .ok (.bipush 6, 2) := by decide +kernel
theorem dX7_free_37 : decode cX7_free 37 = .ok (.if_icmp .le 6, 3) := by decide +kernel
theorem dX7_free_40 : decode cX7_free 40 = .ok (.bipush (-3), 2) := by decide +kernel
theorem dX7_free_42 : decode cX7_free 42 = .ok (.ireturn, 1) := by decide +kernel
theorem dX7_free_43 : decode cX7_free 43 = .ok (.aload_n 0, 1) := by decide +kernel
theorem dX7_free_44 : decode cX7_free 44 = .ok (.iload_n 1, 1) := by decide +kernel
theorem dX7_free_45 : decode cX7_free 45 = .ok (.invokevirtual 209, 3) := by decide +kernel
theorem dX7_free_48 : decode cX7_free 48 = .ok (.aload_n 0, 1) := by decide +kernel
theorem dX7_free_49 : decode cX7_free 49 = .ok (.iload_n 1, 1) := by decide +kernel
theorem dX7_free_50 : decode cX7_free 50 = .ok (.invokevirtual 212, 3) := by decide +kernel
theorem dX7_free_53 : decode cX7_free 53 = .ok (.istore 4, 2) := by decide +kernel
theorem dX7_free_55 : decode cX7_free 55 = .ok (.iload 4, 2) := by decide +kernel
theorem dX7_free_57 : decode cX7_free 57 = .ok (.sipush 360, 3) := by decide +kernel
theorem dX7_free_60 : decode cX7_free 60 = .ok (.if_icmp .gt 15, 3) := by decide +kernel
theorem dX7_free_63 : decode cX7_free 63 = .ok (.iload_n 2, 1) := by decide +kernel
theorem dX7_free_64 : decode cX7_free 64 = .ok (.iconst 1, 1) := by decide +kernel
theorem dX7_free_65 : decode cX7_free 65 = .ok (.if_icmp .le 13, 3) := by decide +kernel
theorem dX7_free_68 : decode cX7_free 68 = .ok (.iload_n 2, 1) := by decide +kernel
theorem dX7_free_69 : decode cX7_free 69 = .ok (.iconst 2, 1) := by decide +kernel
theorem dX7_free_70 : decode cX7_free 70 = .ok (.isub, 1) := by decide +kernel
theorem dX7_free_71 : decode cX7_free 71 = .ok (.iload_n 3, 1) := by decide +kernel
theorem dX7_free_72 : decode cX7_free 72 = .ok (.if_icmp .lt 6, 3) := by decide +kernel
theorem dX7_free_75 : decode cX7_free 75 = .ok (.bipush (-4), 2) := by decide +kernel
theorem dX7_free_77 : decode cX7_free 77 = .ok (.ireturn, 1) := by decide +kernel
theorem dX7_free_78 : decode cX7_free 78 = .ok (.iload_n 2, 1) := by decide +kernel
theorem dX7_free_79 : decode cX7_free 79 = .ok (.ifCond .ne 8, 3) := by decide +kernel
theorem dX7_free_82 : decode cX7_free 82 = .ok (.iload 4, 2) := by decide +kernel
theorem dX7_free_84 : decode cX7_free 84 = .ok (.goto 23, 3) := by decide +kernel
theorem dX7_free_87 : decode cX7_free 87 = .ok (.iload_n 2, 1) := by decide +kernel
theorem dX7_free_88 : decode cX7_free 88 = .ok (.iconst 1, 1) := by decide +kernel
theorem dX7_free_89 : decode cX7_free 89 = .ok (.if_icmp .ne 10, 3) := by decide +kernel
theorem dX7_free_92 : decode cX7_free 92 = .ok (.aload_n 0, 1) := by decide +kernel
theorem dX7_free_93 : decode cX7_free 93 = .ok (.getfield 201, 3) := by decide +kernel
theorem dX7_free_96 : decode cX7_free 96 = .ok (.goto 11, 3) := by decide +kernel
theorem dX7_free_99 : decode cX7_free 99 = .ok (.aload_n 0, 1) := by decide +kernel
theorem dX7_free_100 : decode cX7_free 100 = .ok (.getfield 43, 3) := by decide +kernel
theorem dX7_free_103 : decode cX7_free 103 = .ok (.iload_n 2, 1) := by decide +kernel
theorem dX7_free_104 : decode cX7_free 104 = .ok (.iconst 2, 1) := by decide +kernel
theorem dX7_free_105 : decode cX7_free 105 = .ok (.isub, 1) := by decide +kernel
theorem dX7_free_106 : decode cX7_free 106 = .ok (.iaload, 1) := by decide +kernel
theorem dX7_free_107 : decode cX7_free 107 = .ok (.ireturn, 1) := by decide +kernel
theorem dX7_saves_0 : decode cX7_saves 0 = .ok (.aload_n 0, 1) := by decide +kernel
theorem dX7_saves_1 : decode cX7_saves 1 = .ok (.iload_n 1, 1) := by decide +kernel
theorem dX7_saves_2 : decode cX7_saves 2 = .ok (.iload_n 2, 1) := by decide +kernel
theorem dX7_saves_3 : decode cX7_saves 3 = .ok (.invokevirtual 91, 3) := by decide +kernel
theorem dX7_saves_6 : decode cX7_saves 6 = .ok (.ifCond .ne 5, 3) := by decide +kernel
theorem dX7_saves_9 : decode cX7_saves 9 = .ok (.iconst (-1), 1) := by decide +kernel
theorem dX7_saves_10 : decode cX7_saves 10 = .ok (.ireturn, 1) := by decide +kernel
theorem dX7_saves_11 : decode cX7_saves 11 = .ok (.aload_n 0, 1) := by decide +kernel
theorem dX7_saves_12 : decode cX7_saves 12 = .ok (.getfield 7, 3) := by decide +kernel
theorem dX7_saves_15 : decode cX7_saves 15 = .ok (.bipush 40, 2) := by decide +kernel
theorem dX7_saves_17 : decode cX7_saves 17 = .ok (.iload_n 1, 1) := by decide +kernel
theorem dX7_saves_18 : decode cX7_saves 18 = .ok (.imul, 1) := by decide +kernel
theorem dX7_saves_19 : decode cX7_saves 19 = .ok (.iconst 3, 1) := by decide +kernel
theorem dX7_saves_20 : decode cX7_saves 20 = .ok (.iadd, 1) := by decide +kernel
theorem dX7_saves_21 : decode cX7_saves 21 = .ok (.iaload, 1) := by decide +kernel
theorem dX7_saves_22 : decode cX7_saves 22 = .ok (.bipush 6, 2) := by decide +kernel
theorem dX7_saves_24 : decode cX7_saves 24 = .ok (.if_icmp .le 6, 3) := by decide +kernel
theorem dX7_saves_27 : decode cX7_saves 27 = .ok (.bipush (-3), 2) := by decide +kernel
theorem dX7_saves_29 : decode cX7_saves 29 = .ok (.ireturn, 1) := by decide +kernel
theorem dX7_saves_30 : decode cX7_saves 30 = .ok (.aload_n 0, 1) := by decide +kernel
theorem dX7_saves_31 : decode cX7_saves 31 = .ok (.iload_n 1, 1) := by decide +kernel
theorem dX7_saves_32 : decode cX7_saves 32 = .ok (.iload_n 2, 1) := by decide +kernel
theorem dX7_saves_33 : decode cX7_saves 33 = .ok (.invokevirtual 177, 3) := by decide +kernel
theorem dX7_saves_36 : decode cX7_saves 36 = .ok (.ifCond .ne 6, 3) := by decide +kernel
theorem dX7_saves_39 : decode cX7_saves 39 = .ok (.bipush (-2), 2) := by decide +kernel
theorem dX7_saves_41 : decode cX7_saves 41 = .ok (.ireturn, 1) := by decide +kernel
theorem dX7_saves_42 : decode cX7_saves 42 = .ok (.aload_n 0, 1) := by decide +kernel
theorem dX7_saves_43 : decode cX7_saves 43 = .ok (.iload_n 1, 1) := by decide +kernel
theorem dX7_saves_44 : decode cX7_saves 44 = .ok (.invokevirtual 209, 3) := by decide +kernel
theorem dX7_saves_47 : decode cX7_saves 47 = .ok (.aload_n 0, 1) := by decide +kernel
theorem dX7_saves_48 : decode cX7_saves 48 = .ok (.iload_n 1, 1) := by decide +kernel
theorem dX7_saves_49 : decode cX7_saves 49 = .ok (.invokevirtual 212, 3) := by decide +kernel
theorem dX7_saves_52 : decode cX7_saves 52 = .ok (.istore_n 3, 1) := by decide +kernel
theorem dX7_saves_53 : decode cX7_saves 53 = .ok (.aload_n 0, 1) := by decide +kernel
theorem dX7_saves_54 : decode cX7_saves 54 = .ok (.getfield 46, 3) := by decide +kernel
theorem dX7_saves_57 : decode cX7_saves 57 = .ok (.iconst 3, 1) := by decide +kernel
theorem dX7_saves_58 : decode cX7_saves 58 = .ok (.dup2, 1) := by decide +kernel
theorem dX7_saves_59 : decode cX7_saves 59 = .ok (.iaload, 1) := by decide +kernel
theorem dX7_saves_60 : decode cX7_saves 60 = .ok (.iconst 1, 1) := by decide +kernel
theorem dX7_saves_61 : decode cX7_saves 61 = .ok (.isub, 1) := by decide +kernel
theorem dX7_saves_62 : decode cX7_saves 62 = .ok (.iastore, 1) := by decide +kernel
theorem dX7_saves_63 : decode cX7_saves 63 = .ok (.iconst 4, 1) := by decide +kernel
theorem dX7_saves_64 : decode cX7_saves 64 = .ok (.iload_n 2, 1) := by decide +kernel
theorem dX7_saves_65 : decode cX7_saves 65 = .ok (.imul, 1) := by decide +kernel
theorem dX7_saves_66 : decode cX7_saves 66 = .ok (.istore 4, 2) := by decide +kernel
theorem dX7_saves_68 : decode cX7_saves 68 = .ok (.iload 4, 2) := by decide +kernel
theorem dX7_saves_70 : decode cX7_saves 70 = .ok (.iconst 4, 1) := by decide +kernel
theorem dX7_saves_71 : decode cX7_saves 71 = .ok (.aload_n 0, 1) := by decide +kernel
theorem dX7_saves_72 : decode cX7_saves 72 = .ok (.getfield 46, 3) := by decide +kernel
theorem dX7_saves_75 : decode cX7_saves 75 = .ok (.iconst 3, 1) := by decide +kernel
theorem dX7_saves_76 : decode cX7_saves 76 = .ok (.iaload, 1) := by decide +kernel
theorem dX7_saves_77 : decode cX7_saves 77 = .ok (.imul, 1) := by decide +kernel
theorem dX7_saves_78 : decode cX7_saves 78 = .ok (.if_icmp .ge 29, 3) := by decide +kernel
theorem dX7_saves_81 : decode cX7_saves 81 = .ok (.aload_n 0, 1) := by decide +kernel
theorem dX7_saves_82 : decode cX7_saves 82 = .ok (.getfield 46, 3) := by decide +kernel
theorem dX7_saves_85 : decode cX7_saves 85 = .ok (.bipush 8, 2) := by decide +kernel
theorem dX7_saves_87 : decode cX7_saves 87 = .ok (.iload 4, 2) := by decide +kernel
theorem dX7_saves_89 : decode cX7_saves 89 = .ok (.iadd, 1) := by decide +kernel
theorem dX7_saves_90 : decode cX7_saves 90 = .ok (.aload_n 0, 1) := by decide +kernel
theorem dX7_saves_91 : decode cX7_saves 91 = .ok (.getfield 46, 3) := by decide +kernel
theorem dX7_saves_94 : decode cX7_saves 94 = .ok (.bipush 12, 2) := by decide +kernel
theorem dX7_saves_96 : decode cX7_saves 96 = .ok (.iload 4, 2) := by decide +kernel
theorem dX7_saves_98 : decode cX7_saves 98 = .ok (.iadd, 1) := by decide +kernel
theorem dX7_saves_99 : decode cX7_saves 99 = .ok (.iaload, 1) := by decide +kernel
theorem dX7_saves_100 : decode cX7_saves 100 = .ok (.iastore, 1) := by decide +kernel
theorem dX7_saves_101 : decode cX7_saves 101 = .ok (.iinc 4 1, 3) := by decide +kernel
theorem dX7_saves_104 : decode cX7_saves 104 = .ok (.goto (-36), 3) := by decide +kernel
theorem dX7_saves_107 : decode cX7_saves 107 = .ok (.iload_n 3, 1) := by decide +kernel
theorem dX7_saves_108 : decode cX7_saves 108 = .ok (.aload_n 0, 1) := by decide +kernel
theorem dX7_saves_109 : decode cX7_saves 109 = .ok (.iload_n 1, 1) := by decide +kernel
theorem dX7_saves_110 : decode cX7_saves 110 = .ok (.invokevirtual 212, 3) := by decide +kernel
theorem dX7_saves_113 : decode cX7_saves 113 = .ok (.isub, 1) := by decide +kernel
theorem dX7_saves_114 : decode cX7_saves 114 = .ok (.ireturn, 1) := by decide +kernel
theorem dX7_bears_0 : decode cX7_bears 0 = .ok (.aload_n 0, 1) := by decide +kernel
theorem dX7_bears_1 : decode cX7_bears 1 = .ok (.iload_n 1, 1) := by decide +kernel
theorem dX7_bears_2 : decode cX7_bears 2 = .ok (.invokevirtual 80, 3) := by decide +kernel
theorem dX7_bears_5 : decode cX7_bears 5 = .ok (.ifCond .ne 5, 3) := by decide +kernel
theorem dX7_bears_8 : decode cX7_bears 8 = .ok (.iconst (-1), 1) := by decide +kernel
theorem dX7_bears_9 : decode cX7_bears 9 = .ok (.ireturn, 1) := by decide +kernel
theorem dX7_bears_10 : decode cX7_bears 10 = .ok (.aload_n 0, 1) := by decide +kernel
theorem dX7_bears_11 : decode cX7_bears 11 = .ok (.aload_n 0, 1) := by decide +kernel
theorem dX7_bears_12 : decode cX7_bears 12 = .ok (.getfield 7, 3) := by decide +kernel
theorem dX7_bears_15 : decode cX7_bears 15 = .ok (.putfield 16, 3) := by decide +kernel
theorem dX7_bears_18 : decode cX7_bears 18 = .ok (.aload_n 0, 1) := by decide +kernel
theorem dX7_bears_19 : decode cX7_bears 19 = .ok (.getfield 145, 3) := by decide +kernel
theorem dX7_bears_22 : decode cX7_bears 22 = .ok (.iconst 1, 1) := by decide +kernel
theorem dX7_bears_23 : decode cX7_bears 23 = .ok (.iadd, 1) := by decide +kernel
theorem dX7_bears_24 : decode cX7_bears 24 = .ok (.istore_n 2, 1) := by decide +kernel
theorem dX7_bears_25 : decode cX7_bears 25 = .ok (.iload_n 2, 1) := by decide +kernel
theorem dX7_bears_26 : decode cX7_bears 26 = .ok (.sipush 360, 3) := by decide +kernel
theorem dX7_bears_29 : decode cX7_bears 29 = .ok (.if_icmp .ge 25, 3) := by decide +kernel
theorem dX7_bears_32 : decode cX7_bears 32 = .ok (.aload_n 0, 1) := by decide +kernel
theorem dX7_bears_33 : decode cX7_bears 33 = .ok (.iload_n 1, 1) := by decide +kernel
theorem dX7_bears_34 : decode cX7_bears 34 = .ok (.iload_n 2, 1) := by decide +kernel
theorem dX7_bears_35 : decode cX7_bears 35 = .ok (.invokevirtual 162, 3) := by decide +kernel
theorem dX7_bears_38 : decode cX7_bears 38 = .ok (.ifCond .eq 10, 3) := by decide +kernel
theorem dX7_bears_41 : decode cX7_bears 41 = .ok (.iload_n 2, 1) := by decide +kernel
theorem dX7_bears_42 : decode cX7_bears 42 = .ok (.aload_n 0, 1) := by decide +kernel
theorem dX7_bears_43 : decode cX7_bears 43 = .ok (.getfield 145, 3) := by decide +kernel
theorem dX7_bears_46 : decode cX7_bears 46 = .ok (.isub, 1) := by decide +kernel
theorem dX7_bears_47 : decode cX7_bears 47 = .ok (.ireturn, 1) := by decide +kernel
theorem dX7_bears_48 : decode cX7_bears 48 = .ok (.iinc 2 1, 3) := by decide +kernel
theorem dX7_bears_51 : decode cX7_bears 51 = .ok (.goto (-26), 3) := by decide +kernel
theorem dX7_bears_54 : decode cX7_bears 54 = .ok (.bipush (-4), 2) := by decide +kernel
theorem dX7_bears_56 : decode cX7_bears 56 = .ok (.ireturn, 1) := by decide +kernel
theorem dX7_ware_0 : decode cX7_ware 0 = .ok (.iload_n 1, 1) := by decide +kernel
theorem dX7_ware_1 : decode cX7_ware 1 = .ok (.i2l, 1) := by decide +kernel
theorem dX7_ware_2 : decode cX7_ware 2 = .ok (.lconst 1, 1) := by decide +kernel
theorem dX7_ware_3 : decode cX7_ware 3 = .ok (.ldc2_w 74, 3) := by decide +kernel
theorem dX7_ware_6 : decode cX7_ware 6 = .ok (.invokestatic 68, 3) := by decide +kernel
theorem dX7_ware_9 : decode cX7_ware 9 = .ok (.ifCond .eq 15, 3) := by decide +kernel
theorem dX7_ware_12 : decode cX7_ware 12 = .ok (.iload_n 2, 1) := by decide +kernel
theorem dX7_ware_13 : decode cX7_ware 13 = .ok (.i2l, 1) := by decide +kernel
theorem dX7_ware_14 : decode cX7_ware 14 = .ok (.lconst 1, 1) := by decide +kernel
theorem dX7_ware_15 : decode cX7_ware 15 = .ok (.ldc2_w 100, 3) := by decide +kernel
theorem dX7_ware_18 : decode cX7_ware 18 = .ok (.invokestatic 68, 3) := by decide +kernel
theorem dX7_ware_21 : decode cX7_ware 21 = .ok (.ifCond .ne 5, 3) := by decide +kernel
theorem dX7_ware_24 : decode cX7_ware 24 = .ok (.iconst (-1), 1) := by decide +kernel
theorem dX7_ware_25 : decode cX7_ware 25 = .ok (.ireturn, 1) := by decide +kernel
theorem dX7_ware_26 : decode cX7_ware 26 = .ok (.aload_n 0, 1) := by decide +kernel
theorem dX7_ware_27 : decode cX7_ware 27 = .ok (.getfield 151, 3) := by decide +kernel
theorem dX7_ware_30 : decode cX7_ware 30 = .ok (.bipush 8, 2) := by decide +kernel
theorem dX7_ware_32 : decode cX7_ware 32 = .ok (.if_icmp .ne 6, 3) := by decide +kernel
theorem dX7_ware_35 : decode cX7_ware 35 = .ok (.bipush (-3), 2) := by decide +kernel
theorem dX7_ware_37 : decode cX7_ware 37 = .ok (.ireturn, 1) := by decide +kernel
theorem dX7_ware_38 : decode cX7_ware 38 = .ok (.aload_n 0, 1) := by decide +kernel
theorem dX7_ware_39 : decode cX7_ware 39 = .ok (.getfield 28, 3) := by decide +kernel
theorem dX7_ware_42 : decode cX7_ware 42 = .ok (.aload_n 0, 1) := by decide +kernel
theorem dX7_ware_43 : decode cX7_ware 43 = .ok (.getfield 151, 3) := by decide +kernel
theorem dX7_ware_46 : decode cX7_ware 46 = .ok (.iload_n 1, 1) := by decide +kernel
theorem dX7_ware_47 : decode cX7_ware 47 = .ok (.iastore, 1) := by decide +kernel
theorem dX7_ware_48 : decode cX7_ware 48 = .ok (.aload_n 0, 1) := by decide +kernel
theorem dX7_ware_49 : decode cX7_ware 49 = .ok (.getfield 31, 3) := by decide +kernel
theorem dX7_ware_52 : decode cX7_ware 52 = .ok (.aload_n 0, 1) := by decide +kernel
theorem dX7_ware_53 : decode cX7_ware 53 = .ok (.getfield 151, 3) := by decide +kernel
theorem dX7_ware_56 : decode cX7_ware 56 = .ok (.iload_n 2, 1) := by decide +kernel
theorem dX7_ware_57 : decode cX7_ware 57 = .ok (.iastore, 1) := by decide +kernel
theorem dX7_ware_58 : decode cX7_ware 58 = .ok (.aload_n 0, 1) := by decide +kernel
theorem dX7_ware_59 : decode cX7_ware 59 = .ok (.dup, 1) := by decide +kernel
theorem dX7_ware_60 : decode cX7_ware 60 = .ok (.getfield 151, 3) := by decide +kernel
theorem dX7_ware_63 : decode cX7_ware 63 = .ok (.iconst 1, 1) := by decide +kernel
theorem dX7_ware_64 : decode cX7_ware 64 = .ok (.iadd, 1) := by decide +kernel
theorem dX7_ware_65 : decode cX7_ware 65 = .ok (.putfield 151, 3) := by decide +kernel
theorem dX7_ware_68 : decode cX7_ware 68 = .ok (.aload_n 0, 1) := by decide +kernel
theorem dX7_ware_69 : decode cX7_ware 69 = .ok (.getfield 151, 3) := by decide +kernel
theorem dX7_ware_72 : decode cX7_ware 72 = .ok (.iconst 1, 1) := by decide +kernel
theorem dX7_ware_73 : decode cX7_ware 73 = .ok (.isub, 1) := by decide +kernel
theorem dX7_ware_74 : decode cX7_ware 74 = .ok (.ireturn, 1) := by decide +kernel
theorem dX7_under_0 : decode cX7_under 0 = .ok (.iload_n 1, 1) := by decide +kernel
theorem dX7_under_1 : decode cX7_under 1 = .ok (.i2l, 1) := by decide +kernel
theorem dX7_under_2 : decode cX7_under 2 = .ok (.lconst 0, 1) := by decide +kernel
theorem dX7_under_3 : decode cX7_under 3 = .ok (.aload_n 0, 1) := by decide +kernel
theorem dX7_under_4 : decode cX7_under 4 = .ok (.getfield 151, 3) := by decide +kernel
theorem dX7_under_7 : decode cX7_under 7 = .ok (.iconst 1, 1) := by decide +kernel
theorem dX7_under_8 : decode cX7_under 8 = .ok (.isub, 1) := by decide +kernel
theorem dX7_under_9 : decode cX7_under 9 = .ok (.i2l, 1) := by decide +kernel
theorem dX7_under_10 : decode cX7_under 10 = .ok (.invokestatic 68, 3) := by decide +kernel
theorem dX7_under_13 : decode cX7_under 13 = .ok (.ifCond .eq 38, 3) := by decide +kernel
theorem dX7_under_16 : decode cX7_under 16 = .ok (.iload_n 2, 1) := by decide +kernel
theorem dX7_under_17 : decode cX7_under 17 = .ok (.i2l, 1) := by decide +kernel
theorem dX7_under_18 : decode cX7_under 18 = .ok (.lconst 1, 1) := by decide +kernel
theorem dX7_under_19 : decode cX7_under 19 = .ok (.ldc2_w 76, 3) := by decide +kernel
theorem dX7_under_22 : decode cX7_under 22 = .ok (.invokestatic 68, 3) := by decide +kernel
theorem dX7_under_25 : decode cX7_under 25 = .ok (.ifCond .eq 26, 3) := by decide +kernel
theorem dX7_under_28 : decode cX7_under 28 = .ok (.iload_n 3, 1) := by decide +kernel
theorem dX7_under_29 : decode cX7_under 29 = .ok (.i2l, 1) := by decide +kernel
theorem dX7_under_30 : decode cX7_under 30 = .ok (.lconst 1, 1) := by decide +kernel
theorem dX7_under_31 : decode cX7_under 31 = .ok (.ldc2_w 215, 3) := by decide +kernel
theorem dX7_under_34 : decode cX7_under 34 = .ok (.invokestatic 68, 3) := by decide +kernel
theorem dX7_under_37 : decode cX7_under 37 = .ok (.ifCond .eq 14, 3) := by decide +kernel
theorem dX7_under_40 : decode cX7_under 40 = .ok (.iload 4, 2) := by decide +kernel
theorem dX7_under_42 : decode cX7_under 42 = .ok (.i2l, 1) := by decide +kernel
theorem dX7_under_43 : decode cX7_under 43 = .ok (.lconst 0, 1) := by decide +kernel
theorem dX7_under_44 : decode cX7_under 44 = .ok (.lconst 1, 1) := by decide +kernel
theorem dX7_under_45 : decode cX7_under 45 = .ok (.invokestatic 68, 3) := by decide +kernel
theorem dX7_under_48 : decode cX7_under 48 = .ok (.ifCond .ne 5, 3) := by decide +kernel
theorem dX7_under_51 : decode cX7_under 51 = .ok (.iconst (-1), 1) := by decide +kernel
theorem dX7_under_52 : decode cX7_under 52 = .ok (.ireturn, 1) := by decide +kernel
theorem dX7_under_53 : decode cX7_under 53 = .ok (.iconst 0, 1) := by decide +kernel
theorem dX7_under_54 : decode cX7_under 54 = .ok (.istore 5, 2) := by decide +kernel
theorem dX7_under_56 : decode cX7_under 56 = .ok (.bipush (-4), 2) := by decide +kernel
theorem dX7_under_58 : decode cX7_under 58 = .ok (.istore 6, 2) := by decide +kernel
theorem dX7_under_60 : decode cX7_under 60 = .ok (.iconst 1, 1) := by decide +kernel
theorem dX7_under_61 : decode cX7_under 61 = .ok (.aload_n 0, 1) := by decide +kernel
theorem dX7_under_62 : decode cX7_under 62 = .ok (.getfield 151, 3) := by decide +kernel
theorem dX7_under_65 : decode cX7_under 65 = .ok (.ishl, 1) := by decide +kernel
theorem dX7_under_66 : decode cX7_under 66 = .ok (.iconst 1, 1) := by decide +kernel
theorem dX7_under_67 : decode cX7_under 67 = .ok (.isub, 1) := by decide +kernel
theorem dX7_under_68 : decode cX7_under 68 = .ok (.istore 7, 2) := by decide +kernel
theorem dX7_under_70 : decode cX7_under 70 = .ok (.iload 7, 2) := by decide +kernel
theorem dX7_under_72 : decode cX7_under 72 = .ok (.ifCond .le 131, 3) := by decide +kernel
theorem dX7_under_75 : decode cX7_under 75 = .ok (.iconst 0, 1) := by decide +kernel
theorem dX7_under_76 : decode cX7_under 76 = .ok (.istore 8, 2) := by decide +kernel
theorem dX7_under_78 : decode cX7_under 78 = .ok (.iconst 0, 1) := by decide +kernel
theorem dX7_under_79 : decode cX7_under 79 = .ok (.istore 9, 2) := by decide +kernel
theorem dX7_under_81 : decode cX7_under 81 = .ok (.iconst 0, 1) := by decide +kernel
theorem dX7_under_82 : decode cX7_under 82 = .ok (.istore 10, 2) := by decide +kernel
theorem dX7_under_84 : decode cX7_under 84 = .ok (.iload 10, 2) := by decide +kernel
theorem dX7_under_86 : decode cX7_under 86 = .ok (.aload_n 0, 1) := by decide +kernel
theorem dX7_under_87 : decode cX7_under 87 = .ok (.getfield 151, 3) := by decide +kernel
theorem dX7_under_90 : decode cX7_under 90 = .ok (.if_icmp .ge 49, 3) := by decide +kernel
theorem dX7_under_93 : decode cX7_under 93 = .ok (.iload 8, 2) := by decide +kernel
theorem dX7_under_95 : decode cX7_under 95 = .ok (.iload 7, 2) := by decide +kernel
theorem dX7_under_97 : decode cX7_under 97 = .ok (.iload 10, 2) := by decide +kernel
theorem dX7_under_99 : decode cX7_under 99 = .ok (.ishr, 1) := by decide +kernel
theorem dX7_under_100 : decode cX7_under 100 = .ok (.iconst 1, 1) := by decide +kernel
theorem dX7_under_101 : decode cX7_under 101 = .ok (.iand, 1) := by decide +kernel
theorem dX7_under_102 : decode cX7_under 102 = .ok (.aload_n 0, 1) := by decide +kernel
theorem dX7_under_103 : decode cX7_under 103 = .ok (.getfield 28, 3) := by decide +kernel
theorem dX7_under_106 : decode cX7_under 106 = .ok (.iload 10, 2) := by decide +kernel
theorem dX7_under_108 : decode cX7_under 108 = .ok (.iaload, 1) := by decide +kernel
theorem dX7_under_109 : decode cX7_under 109 = .ok (.imul, 1) := by decide +kernel
theorem dX7_under_110 : decode cX7_under 110 = .ok (.iadd, 1) := by decide +kernel
theorem dX7_under_111 : decode cX7_under 111 = .ok (.istore 8, 2) := by decide +kernel
theorem dX7_under_113 : decode cX7_under 113 = .ok (.iload 9, 2) := by decide +kernel
theorem dX7_under_115 : decode cX7_under 115 = .ok (.iload 7, 2) := by decide +kernel
theorem dX7_under_117 : decode cX7_under 117 = .ok (.iload 10, 2) := by decide +kernel
theorem dX7_under_119 : decode cX7_under 119 = .ok (.ishr, 1) := by decide +kernel
theorem dX7_under_120 : decode cX7_under 120 = .ok (.iconst 1, 1) := by decide +kernel
theorem dX7_under_121 : decode cX7_under 121 = .ok (.iand, 1) := by decide +kernel
theorem dX7_under_122 : decode cX7_under 122 = .ok (.aload_n 0, 1) := by decide +kernel
theorem dX7_under_123 : decode cX7_under 123 = .ok (.getfield 31, 3) := by decide +kernel
theorem dX7_under_126 : decode cX7_under 126 = .ok (.iload 10, 2) := by decide +kernel
theorem dX7_under_128 : decode cX7_under 128 = .ok (.iaload, 1) := by decide +kernel
theorem dX7_under_129 : decode cX7_under 129 = .ok (.imul, 1) := by decide +kernel
theorem dX7_under_130 : decode cX7_under 130 = .ok (.iadd, 1) := by decide +kernel
theorem dX7_under_131 : decode cX7_under 131 = .ok (.istore 9, 2) := by decide +kernel
theorem dX7_under_133 : decode cX7_under 133 = .ok (.iinc 10 1, 3) := by decide +kernel
theorem dX7_under_136 : decode cX7_under 136 = .ok (.goto (-52), 3) := by decide +kernel
theorem dX7_under_139 : decode cX7_under 139 = .ok (.iload 7, 2) := by decide +kernel
theorem dX7_under_141 : decode cX7_under 141 = .ok (.iload_n 1, 1) := by decide +kernel
theorem dX7_under_142 : decode cX7_under 142 = .ok (.ishr, 1) := by decide +kernel
theorem dX7_under_143 : decode cX7_under 143 = .ok (.iconst 1, 1) := by decide +kernel
theorem dX7_under_144 : decode cX7_under 144 = .ok (.iand, 1) := by decide +kernel
theorem dX7_under_145 : decode cX7_under 145 = .ok (.iconst 1, 1) := by decide +kernel
theorem dX7_under_146 : decode cX7_under 146 = .ok (.if_icmp .ne 19, 3) := by decide +kernel
theorem dX7_under_149 : decode cX7_under 149 = .ok (.iload 8, 2) := by decide +kernel
theorem dX7_under_151 : decode cX7_under 151 = .ok (.iload_n 3, 1) := by decide +kernel
theorem dX7_under_152 : decode cX7_under 152 = .ok (.if_icmp .ne 13, 3) := by decide +kernel
theorem dX7_under_155 : decode cX7_under 155 = .ok (.iload 9, 2) := by decide +kernel
theorem dX7_under_157 : decode cX7_under 157 = .ok (.iload_n 2, 1) := by decide +kernel
theorem dX7_under_158 : decode cX7_under 158 = .ok (.if_icmp .ne 7, 3) := by decide +kernel
theorem dX7_under_161 : decode cX7_under 161 = .ok (.iconst 1, 1) := by decide +kernel
theorem dX7_under_162 : decode cX7_under 162 = .ok (.goto 4, 3) := by decide +kernel
theorem dX7_under_165 : decode cX7_under 165 = .ok (.iconst 0, 1) := by decide +kernel
theorem dX7_under_166 : decode cX7_under 166 = .ok (.istore 10, 2) := by decide +kernel
theorem dX7_under_168 : decode cX7_under 168 = .ok (.iload 5, 2) := by decide +kernel
theorem dX7_under_170 : decode cX7_under 170 = .ok (.iload 10, 2) := by decide +kernel
theorem dX7_under_172 : decode cX7_under 172 = .ok (.ifCond .eq 7, 3) := by decide +kernel
theorem dX7_under_175 : decode cX7_under 175 = .ok (.iconst 1, 1) := by decide +kernel
theorem dX7_under_176 : decode cX7_under 176 = .ok (.goto 4, 3) := by decide +kernel
theorem dX7_under_179 : decode cX7_under 179 = .ok (.iconst 0, 1) := by decide +kernel
theorem dX7_under_180 : decode cX7_under 180 = .ok (.iadd, 1) := by decide +kernel
theorem dX7_under_181 : decode cX7_under 181 = .ok (.istore 5, 2) := by decide +kernel
theorem dX7_under_183 : decode cX7_under 183 = .ok (.iload 10, 2) := by decide +kernel
theorem dX7_under_185 : decode cX7_under 185 = .ok (.ifCond .eq 8, 3) := by decide +kernel
theorem dX7_under_188 : decode cX7_under 188 = .ok (.iload 7, 2) := by decide +kernel
theorem dX7_under_190 : decode cX7_under 190 = .ok (.goto 5, 3) := by decide +kernel
theorem dX7_under_193 : decode cX7_under 193 = .ok (.iload 6, 2) := by decide +kernel
theorem dX7_under_195 : decode cX7_under 195 = .ok (.istore 6, 2) := by decide +kernel
theorem dX7_under_197 : decode cX7_under 197 = .ok (.iinc 7 (-1), 3) := by decide +kernel
theorem dX7_under_200 : decode cX7_under 200 = .ok (.goto (-130), 3) := by decide +kernel
theorem dX7_under_203 : decode cX7_under 203 = .ok (.iload 4, 2) := by decide +kernel
theorem dX7_under_205 : decode cX7_under 205 = .ok (.ifCond .ne 8, 3) := by decide +kernel
theorem dX7_under_208 : decode cX7_under 208 = .ok (.iload 5, 2) := by decide +kernel
theorem dX7_under_210 : decode cX7_under 210 = .ok (.goto 5, 3) := by decide +kernel
theorem dX7_under_213 : decode cX7_under 213 = .ok (.iload 6, 2) := by decide +kernel
theorem dX7_under_215 : decode cX7_under 215 = .ok (.ireturn, 1) := by decide +kernel
theorem dX7_lay_0 : decode cX7_lay 0 = .ok (.iconst 0, 1) := by decide +kernel
theorem dX7_lay_1 : decode cX7_lay 1 = .ok (.istore_n 3, 1) := by decide +kernel
theorem dX7_lay_2 : decode cX7_lay 2 = .ok (.iload_n 3, 1) := by decide +kernel
theorem dX7_lay_3 : decode cX7_lay 3 = .ok (.aload_n 1, 1) := by decide +kernel
theorem dX7_lay_4 : decode cX7_lay 4 = .ok (.arraylength, 1) := by decide +kernel
theorem dX7_lay_5 : decode cX7_lay 5 = .ok (.if_icmp .ge 20, 3) := by decide +kernel
theorem dX7_lay_8 : decode cX7_lay 8 = .ok (.aload_n 0, 1) := by decide +kernel
theorem dX7_lay_9 : decode cX7_lay 9 = .ok (.getfield 49, 3) := by decide +kernel
theorem dX7_lay_12 : decode cX7_lay 12 = .ok (.iload_n 2, 1) := by decide +kernel
theorem dX7_lay_13 : decode cX7_lay 13 = .ok (.iload_n 3, 1) := by decide +kernel
theorem dX7_lay_14 : decode cX7_lay 14 = .ok (.iadd, 1) := by decide +kernel
theorem dX7_lay_15 : decode cX7_lay 15 = .ok (.aload_n 1, 1) := by decide +kernel
theorem dX7_lay_16 : decode cX7_lay 16 = .ok (.iload_n 3, 1) := by decide +kernel
theorem dX7_lay_17 : decode cX7_lay 17 = .ok (.iaload, 1) := by decide +kernel
theorem dX7_lay_18 : decode cX7_lay 18 = .ok (.iastore, 1) := by decide +kernel
theorem dX7_lay_19 : decode cX7_lay 19 = .ok (.iinc 3 1, 3) := by decide +kernel
theorem dX7_lay_22 : decode cX7_lay 22 = .ok (.goto (-20), 3) := by decide +kernel
theorem dX7_lay_25 : decode cX7_lay 25 = .ok (.iload_n 2, 1) := by decide +kernel
theorem dX7_lay_26 : decode cX7_lay 26 = .ok (.aload_n 1, 1) := by decide +kernel
theorem dX7_lay_27 : decode cX7_lay 27 = .ok (.arraylength, 1) := by decide +kernel
theorem dX7_lay_28 : decode cX7_lay 28 = .ok (.iadd, 1) := by decide +kernel
theorem dX7_lay_29 : decode cX7_lay 29 = .ok (.ireturn, 1) := by decide +kernel
theorem dX7_gives_0 : decode cX7_gives 0 = .ok (.iconst 0, 1) := by decide +kernel
theorem dX7_gives_1 : decode cX7_gives 1 = .ok (.istore_n 3, 1) := by decide +kernel
theorem dX7_gives_2 : decode cX7_gives 2 = .ok (.iload_n 3, 1) := by decide +kernel
theorem dX7_gives_3 : decode cX7_gives 3 = .ok (.aload_n 2, 1) := by decide +kernel
theorem dX7_gives_4 : decode cX7_gives 4 = .ok (.arraylength, 1) := by decide +kernel
theorem dX7_gives_5 : decode cX7_gives 5 = .ok (.if_icmp .ge 20, 3) := by decide +kernel
theorem dX7_gives_8 : decode cX7_gives 8 = .ok (.aload_n 2, 1) := by decide +kernel
theorem dX7_gives_9 : decode cX7_gives 9 = .ok (.iload_n 3, 1) := by decide +kernel
theorem dX7_gives_10 : decode cX7_gives 10 = .ok (.aload_n 0, 1) := by decide +kernel
theorem dX7_gives_11 : decode cX7_gives 11 = .ok (.getfield 49, 3) := by decide +kernel
theorem dX7_gives_14 : decode cX7_gives 14 = .ok (.iload_n 1, 1) := by decide +kernel
theorem dX7_gives_15 : decode cX7_gives 15 = .ok (.iload_n 3, 1) := by decide +kernel
theorem dX7_gives_16 : decode cX7_gives 16 = .ok (.iadd, 1) := by decide +kernel
theorem dX7_gives_17 : decode cX7_gives 17 = .ok (.iaload, 1) := by decide +kernel
theorem dX7_gives_18 : decode cX7_gives 18 = .ok (.iastore, 1) := by decide +kernel
theorem dX7_gives_19 : decode cX7_gives 19 = .ok (.iinc 3 1, 3) := by decide +kernel
theorem dX7_gives_22 : decode cX7_gives 22 = .ok (.goto (-20), 3) := by decide +kernel
theorem dX7_gives_25 : decode cX7_gives 25 = .ok (.iload_n 1, 1) := by decide +kernel
theorem dX7_gives_26 : decode cX7_gives 26 = .ok (.aload_n 2, 1) := by decide +kernel
theorem dX7_gives_27 : decode cX7_gives 27 = .ok (.arraylength, 1) := by decide +kernel
theorem dX7_gives_28 : decode cX7_gives 28 = .ok (.iadd, 1) := by decide +kernel
theorem dX7_gives_29 : decode cX7_gives 29 = .ok (.ireturn, 1) := by decide +kernel
theorem dX7_image_0 : decode cX7_image 0 = .ok (.aload_n 0, 1) := by decide +kernel
theorem dX7_image_1 : decode cX7_image 1 = .ok (.aload_n 0, 1) := by decide +kernel
theorem dX7_image_2 : decode cX7_image 2 = .ok (.getfield 7, 3) := by decide +kernel
theorem dX7_image_5 : decode cX7_image 5 = .ok (.iconst 0, 1) := by decide +kernel
theorem dX7_image_6 : decode cX7_image 6 = .ok (.invokevirtual 217, 3) := by decide +kernel
theorem dX7_image_9 : decode cX7_image 9 = .ok (.istore_n 1, 1) := by decide +kernel
theorem dX7_image_10 : decode cX7_image 10 = .ok (.aload_n 0, 1) := by decide +kernel
theorem dX7_image_11 : decode cX7_image 11 = .ok (.aload_n 0, 1) := by decide +kernel
theorem dX7_image_12 : decode cX7_image 12 = .ok (.getfield 19, 3) := by decide +kernel
theorem dX7_image_15 : decode cX7_image 15 = .ok (.iload_n 1, 1) := by decide +kernel
theorem dX7_image_16 : decode cX7_image 16 = .ok (.invokevirtual 217, 3) := by decide +kernel
theorem dX7_image_19 : decode cX7_image 19 = .ok (.istore_n 1, 1) := by decide +kernel
theorem dX7_image_20 : decode cX7_image 20 = .ok (.aload_n 0, 1) := by decide +kernel
theorem dX7_image_21 : decode cX7_image 21 = .ok (.aload_n 0, 1) := by decide +kernel
theorem dX7_image_22 : decode cX7_image 22 = .ok (.getfield 22, 3) := by decide +kernel
theorem dX7_image_25 : decode cX7_image 25 = .ok (.iload_n 1, 1) := by decide +kernel
theorem dX7_image_26 : decode cX7_image 26 = .ok (.invokevirtual 217, 3) := by decide +kernel
theorem dX7_image_29 : decode cX7_image 29 = .ok (.istore_n 1, 1) := by decide +kernel
theorem dX7_image_30 : decode cX7_image 30 = .ok (.aload_n 0, 1) := by decide +kernel
theorem dX7_image_31 : decode cX7_image 31 = .ok (.aload_n 0, 1) := by decide +kernel
theorem dX7_image_32 : decode cX7_image 32 = .ok (.getfield 25, 3) := by decide +kernel
theorem dX7_image_35 : decode cX7_image 35 = .ok (.iload_n 1, 1) := by decide +kernel
theorem dX7_image_36 : decode cX7_image 36 = .ok (.invokevirtual 217, 3) := by decide +kernel
theorem dX7_image_39 : decode cX7_image 39 = .ok (.istore_n 1, 1) := by decide +kernel
theorem dX7_image_40 : decode cX7_image 40 = .ok (.aload_n 0, 1) := by decide +kernel
theorem dX7_image_41 : decode cX7_image 41 = .ok (.aload_n 0, 1) := by decide +kernel
theorem dX7_image_42 : decode cX7_image 42 = .ok (.getfield 28, 3) := by decide +kernel
theorem dX7_image_45 : decode cX7_image 45 = .ok (.iload_n 1, 1) := by decide +kernel
theorem dX7_image_46 : decode cX7_image 46 = .ok (.invokevirtual 217, 3) := by decide +kernel
theorem dX7_image_49 : decode cX7_image 49 = .ok (.istore_n 1, 1) := by decide +kernel
theorem dX7_image_50 : decode cX7_image 50 = .ok (.aload_n 0, 1) := by decide +kernel
theorem dX7_image_51 : decode cX7_image 51 = .ok (.aload_n 0, 1) := by decide +kernel
theorem dX7_image_52 : decode cX7_image 52 = .ok (.getfield 31, 3) := by decide +kernel
theorem dX7_image_55 : decode cX7_image 55 = .ok (.iload_n 1, 1) := by decide +kernel
theorem dX7_image_56 : decode cX7_image 56 = .ok (.invokevirtual 217, 3) := by decide +kernel
theorem dX7_image_59 : decode cX7_image 59 = .ok (.istore_n 1, 1) := by decide +kernel
theorem dX7_image_60 : decode cX7_image 60 = .ok (.aload_n 0, 1) := by decide +kernel
theorem dX7_image_61 : decode cX7_image 61 = .ok (.getfield 49, 3) := by decide +kernel
theorem dX7_image_64 : decode cX7_image 64 = .ok (.iload_n 1, 1) := by decide +kernel
theorem dX7_image_65 : decode cX7_image 65 = .ok (.aload_n 0, 1) := by decide +kernel
theorem dX7_image_66 : decode cX7_image 66 = .ok (.getfield 64, 3) := by decide +kernel
theorem dX7_image_69 : decode cX7_image 69 = .ok (.iastore, 1) := by decide +kernel
theorem dX7_image_70 : decode cX7_image 70 = .ok (.aload_n 0, 1) := by decide +kernel
theorem dX7_image_71 : decode cX7_image 71 = .ok (.getfield 49, 3) := by decide +kernel
theorem dX7_image_74 : decode cX7_image 74 = .ok (.iload_n 1, 1) := by decide +kernel
theorem dX7_image_75 : decode cX7_image 75 = .ok (.iconst 1, 1) := by decide +kernel
theorem dX7_image_76 : decode cX7_image 76 = .ok (.iadd, 1) := by decide +kernel
theorem dX7_image_77 : decode cX7_image 77 = .ok (.aload_n 0, 1) := by decide +kernel
theorem dX7_image_78 : decode cX7_image 78 = .ok (.getfield 145, 3) := by decide +kernel
theorem dX7_image_81 : decode cX7_image 81 = .ok (.iastore, 1) := by decide +kernel
theorem dX7_image_82 : decode cX7_image 82 = .ok (.aload_n 0, 1) := by decide +kernel
theorem dX7_image_83 : decode cX7_image 83 = .ok (.getfield 49, 3) := by decide +kernel
theorem dX7_image_86 : decode cX7_image 86 = .ok (.iload_n 1, 1) := by decide +kernel
theorem dX7_image_87 : decode cX7_image 87 = .ok (.iconst 2, 1) := by decide +kernel
theorem dX7_image_88 : decode cX7_image 88 = .ok (.iadd, 1) := by decide +kernel
theorem dX7_image_89 : decode cX7_image 89 = .ok (.aload_n 0, 1) := by decide +kernel
theorem dX7_image_90 : decode cX7_image 90 = .ok (.getfield 148, 3) := by decide +kernel
theorem dX7_image_93 : decode cX7_image 93 = .ok (.iastore, 1) := by decide +kernel
theorem dX7_image_94 : decode cX7_image 94 = .ok (.aload_n 0, 1) := by decide +kernel
theorem dX7_image_95 : decode cX7_image 95 = .ok (.getfield 49, 3) := by decide +kernel
theorem dX7_image_98 : decode cX7_image 98 = .ok (.iload_n 1, 1) := by decide +kernel
theorem dX7_image_99 : decode cX7_image 99 = .ok (.iconst 3, 1) := by decide +kernel
theorem dX7_image_100 : decode cX7_image 100 = .ok (.iadd, 1) := by decide +kernel
theorem dX7_image_101 : decode cX7_image 101 = .ok (.aload_n 0, 1) := by decide +kernel
theorem dX7_image_102 : decode cX7_image 102 = .ok (.getfield 151, 3) := by decide +kernel
theorem dX7_image_105 : decode cX7_image 105 = .ok (.iastore, 1) := by decide +kernel
theorem dX7_image_106 : decode cX7_image 106 = .ok (.aload_n 0, 1) := by decide +kernel
theorem dX7_image_107 : decode cX7_image 107 = .ok (.iconst 1, 1) := by decide +kernel
theorem dX7_image_108 : decode cX7_image 108 = .ok (.putfield 221, 3) := by decide +kernel
theorem dX7_image_111 : decode cX7_image 111 = .ok (.iconst 1, 1) := by decide +kernel
theorem dX7_image_112 : decode cX7_image 112 = .ok (.ireturn, 1) := by decide +kernel
theorem dX7_restore_0 : decode cX7_restore 0 = .ok (.aload_n 0, 1) := by decide +kernel
theorem dX7_restore_1 : decode cX7_restore 1 = .ok (.getfield 221, 3) := by decide +kernel
theorem dX7_restore_4 : decode cX7_restore 4 = .ok (.ifCond .ne 6, 3) := by decide +kernel
theorem dX7_restore_7 : decode cX7_restore 7 = .ok (.bipush (-4), 2) := by decide +kernel
theorem dX7_restore_9 : decode cX7_restore 9 = .ok (.ireturn, 1) := by decide +kernel
theorem dX7_restore_10 : decode cX7_restore 10 = .ok (.aload_n 0, 1) := by decide +kernel
theorem dX7_restore_11 : decode cX7_restore 11 = .ok (.iconst 0, 1) := by decide +kernel
theorem dX7_restore_12 : decode cX7_restore 12 = .ok (.aload_n 0, 1) := by decide +kernel
theorem dX7_restore_13 : decode cX7_restore 13 = .ok (.getfield 7, 3) := by decide +kernel
theorem dX7_restore_16 : decode cX7_restore 16 = .ok (.invokevirtual 224, 3) := by decide +kernel
theorem dX7_restore_19 : decode cX7_restore 19 = .ok (.istore_n 1, 1) := by decide +kernel
theorem dX7_restore_20 : decode cX7_restore 20 = .ok (.aload_n 0, 1) := by decide +kernel
theorem dX7_restore_21 : decode cX7_restore 21 = .ok (.iload_n 1, 1) := by decide +kernel
theorem dX7_restore_22 : decode cX7_restore 22 = .ok (.aload_n 0, 1) := by decide +kernel
theorem dX7_restore_23 : decode cX7_restore 23 = .ok (.getfield 19, 3) := by decide +kernel
theorem dX7_restore_26 : decode cX7_restore 26 = .ok (.invokevirtual 224, 3) := by decide +kernel
theorem dX7_restore_29 : decode cX7_restore 29 = .ok (.istore_n 1, 1) := by decide +kernel
theorem dX7_restore_30 : decode cX7_restore 30 = .ok (.aload_n 0, 1) := by decide +kernel
theorem dX7_restore_31 : decode cX7_restore 31 = .ok (.iload_n 1, 1) := by decide +kernel
theorem dX7_restore_32 : decode cX7_restore 32 = .ok (.aload_n 0, 1) := by decide +kernel
theorem dX7_restore_33 : decode cX7_restore 33 = .ok (.getfield 22, 3) := by decide +kernel
theorem dX7_restore_36 : decode cX7_restore 36 = .ok (.invokevirtual 224, 3) := by decide +kernel
theorem dX7_restore_39 : decode cX7_restore 39 = .ok (.istore_n 1, 1) := by decide +kernel
theorem dX7_restore_40 : decode cX7_restore 40 = .ok (.aload_n 0, 1) := by decide +kernel
theorem dX7_restore_41 : decode cX7_restore 41 = .ok (.iload_n 1, 1) := by decide +kernel
theorem dX7_restore_42 : decode cX7_restore 42 = .ok (.aload_n 0, 1) := by decide +kernel
theorem dX7_restore_43 : decode cX7_restore 43 = .ok (.getfield 25, 3) := by decide +kernel
theorem dX7_restore_46 : decode cX7_restore 46 = .ok (.invokevirtual 224, 3) := by decide +kernel
theorem dX7_restore_49 : decode cX7_restore 49 = .ok (.istore_n 1, 1) := by decide +kernel
theorem dX7_restore_50 : decode cX7_restore 50 = .ok (.aload_n 0, 1) := by decide +kernel
theorem dX7_restore_51 : decode cX7_restore 51 = .ok (.iload_n 1, 1) := by decide +kernel
theorem dX7_restore_52 : decode cX7_restore 52 = .ok (.aload_n 0, 1) := by decide +kernel
theorem dX7_restore_53 : decode cX7_restore 53 = .ok (.getfield 28, 3) := by decide +kernel
theorem dX7_restore_56 : decode cX7_restore 56 = .ok (.invokevirtual 224, 3) := by decide +kernel
theorem dX7_restore_59 : decode cX7_restore 59 = .ok (.istore_n 1, 1) := by decide +kernel
theorem dX7_restore_60 : decode cX7_restore 60 = .ok (.aload_n 0, 1) := by decide +kernel
theorem dX7_restore_61 : decode cX7_restore 61 = .ok (.iload_n 1, 1) := by decide +kernel
theorem dX7_restore_62 : decode cX7_restore 62 = .ok (.aload_n 0, 1) := by decide +kernel
theorem dX7_restore_63 : decode cX7_restore 63 = .ok (.getfield 31, 3) := by decide +kernel
theorem dX7_restore_66 : decode cX7_restore 66 = .ok (.invokevirtual 224, 3) := by decide +kernel
theorem dX7_restore_69 : decode cX7_restore 69 = .ok (.istore_n 1, 1) := by decide +kernel
theorem dX7_restore_70 : decode cX7_restore 70 = .ok (.aload_n 0, 1) := by decide +kernel
theorem dX7_restore_71 : decode cX7_restore 71 = .ok (.aload_n 0, 1) := by decide +kernel
theorem dX7_restore_72 : decode cX7_restore 72 = .ok (.getfield 49, 3) := by decide +kernel
theorem dX7_restore_75 : decode cX7_restore 75 = .ok (.iload_n 1, 1) := by decide +kernel
theorem dX7_restore_76 : decode cX7_restore 76 = .ok (.iaload, 1) := by decide +kernel
theorem dX7_restore_77 : decode cX7_restore 77 = .ok (.putfield 64, 3) := by decide +kernel
theorem dX7_restore_80 : decode cX7_restore 80 = .ok (.aload_n 0, 1) := by decide +kernel
theorem dX7_restore_81 : decode cX7_restore 81 = .ok (.aload_n 0, 1) := by decide +kernel
theorem dX7_restore_82 : decode cX7_restore 82 = .ok (.getfield 49, 3) := by decide +kernel
theorem dX7_restore_85 : decode cX7_restore 85 = .ok (.iload_n 1, 1) := by decide +kernel
theorem dX7_restore_86 : decode cX7_restore 86 = .ok (.iconst 1, 1) := by decide +kernel
theorem dX7_restore_87 : decode cX7_restore 87 = .ok (.iadd, 1) := by decide +kernel
theorem dX7_restore_88 : decode cX7_restore 88 = .ok (.iaload, 1) := by decide +kernel
theorem dX7_restore_89 : decode cX7_restore 89 = .ok (.putfield 145, 3) := by decide +kernel
theorem dX7_restore_92 : decode cX7_restore 92 = .ok (.aload_n 0, 1) := by decide +kernel
theorem dX7_restore_93 : decode cX7_restore 93 = .ok (.aload_n 0, 1) := by decide +kernel
theorem dX7_restore_94 : decode cX7_restore 94 = .ok (.getfield 49, 3) := by decide +kernel
theorem dX7_restore_97 : decode cX7_restore 97 = .ok (.iload_n 1, 1) := by decide +kernel
theorem dX7_restore_98 : decode cX7_restore 98 = .ok (.iconst 2, 1) := by decide +kernel
theorem dX7_restore_99 : decode cX7_restore 99 = .ok (.iadd, 1) := by decide +kernel
theorem dX7_restore_100 : decode cX7_restore 100 = .ok (.iaload, 1) := by decide +kernel
theorem dX7_restore_101 : decode cX7_restore 101 = .ok (.putfield 148, 3) := by decide +kernel
theorem dX7_restore_104 : decode cX7_restore 104 = .ok (.aload_n 0, 1) := by decide +kernel
theorem dX7_restore_105 : decode cX7_restore 105 = .ok (.aload_n 0, 1) := by decide +kernel
theorem dX7_restore_106 : decode cX7_restore 106 = .ok (.getfield 49, 3) := by decide +kernel
theorem dX7_restore_109 : decode cX7_restore 109 = .ok (.iload_n 1, 1) := by decide +kernel
theorem dX7_restore_110 : decode cX7_restore 110 = .ok (.iconst 3, 1) := by decide +kernel
theorem dX7_restore_111 : decode cX7_restore 111 = .ok (.iadd, 1) := by decide +kernel
theorem dX7_restore_112 : decode cX7_restore 112 = .ok (.iaload, 1) := by decide +kernel
theorem dX7_restore_113 : decode cX7_restore 113 = .ok (.putfield 151, 3) := by decide +kernel
theorem dX7_restore_116 : decode cX7_restore 116 = .ok (.iconst 1, 1) := by decide +kernel
theorem dX7_restore_117 : decode cX7_restore 117 = .ok (.ireturn, 1) := by decide +kernel
theorem dX7_isSheet_0 : decode cX7_isSheet 0 = .ok (.iload_n 0, 1) := by decide +kernel
theorem dX7_isSheet_1 : decode cX7_isSheet 1 = .ok (.i2l, 1) := by decide +kernel
theorem dX7_isSheet_2 : decode cX7_isSheet 2 = .ok (.lconst 0, 1) := by decide +kernel
theorem dX7_isSheet_3 : decode cX7_isSheet 3 = .ok (.ldc2_w 95, 3) := by decide +kernel
theorem dX7_isSheet_6 : decode cX7_isSheet 6 = .ok (.invokestatic 68, 3) := by decide +kernel
theorem dX7_isSheet_9 : decode cX7_isSheet 9 = .ok (.ireturn, 1) := by decide +kernel
theorem dX7_isLane_0 : decode cX7_isLane 0 = .ok (.iload_n 0, 1) := by decide +kernel
theorem dX7_isLane_1 : decode cX7_isLane 1 = .ok (.i2l, 1) := by decide +kernel
theorem dX7_isLane_2 : decode cX7_isLane 2 = .ok (.lconst 0, 1) := by decide +kernel
theorem dX7_isLane_3 : decode cX7_isLane 3 = .ok (.ldc2_w 106, 3) := by decide +kernel
theorem dX7_isLane_6 : decode cX7_isLane 6 = .ok (.invokestatic 68, 3) := by decide +kernel
theorem dX7_isLane_9 : decode cX7_isLane 9 = .ok (.ireturn, 1) := by decide +kernel
theorem dX7_finds_0 : decode cX7_finds 0 = .ok (.aload_n 0, 1) := by decide +kernel
theorem dX7_finds_1 : decode cX7_finds 1 = .ok (.getfield 52, 3) := by decide +kernel
theorem dX7_finds_4 : decode cX7_finds 4 = .ok (.iload_n 1, 1) := by decide +kernel
theorem dX7_finds_5 : decode cX7_finds 5 = .ok (.iaload, 1) := by decide +kernel
theorem dX7_finds_6 : decode cX7_finds 6 = .ok (.ifCond .ge 6, 3) := by decide +kernel
theorem dX7_finds_9 : decode cX7_finds 9 = .ok (.bipush (-11), 2) := by decide +kernel
theorem dX7_finds_11 : decode cX7_finds 11 = .ok (.ireturn, 1) := by decide +kernel
theorem dX7_finds_12 : decode cX7_finds 12 = .ok (.aload_n 0, 1) := by decide +kernel
theorem dX7_finds_13 : decode cX7_finds 13 = .ok (.getfield 52, 3) := by decide +kernel
theorem dX7_finds_16 : decode cX7_finds 16 = .ok (.iload_n 1, 1) := by decide +kernel
theorem dX7_finds_17 : decode cX7_finds 17 = .ok (.iaload, 1) := by decide +kernel
theorem dX7_finds_18 : decode cX7_finds 18 = .ok (.iload_n 2, 1) := by decide +kernel
theorem dX7_finds_19 : decode cX7_finds 19 = .ok (.if_icmp .eq 6, 3) := by decide +kernel
theorem dX7_finds_22 : decode cX7_finds 22 = .ok (.bipush (-12), 2) := by decide +kernel
theorem dX7_finds_24 : decode cX7_finds 24 = .ok (.ireturn, 1) := by decide +kernel
theorem dX7_finds_25 : decode cX7_finds 25 = .ok (.iload_n 3, 1) := by decide +kernel
theorem dX7_finds_26 : decode cX7_finds 26 = .ok (.ifCond .lt 20, 3) := by decide +kernel
theorem dX7_finds_29 : decode cX7_finds 29 = .ok (.iload_n 3, 1) := by decide +kernel
theorem dX7_finds_30 : decode cX7_finds 30 = .ok (.i2l, 1) := by decide +kernel
theorem dX7_finds_31 : decode cX7_finds 31 = .ok (.iload 4, 2) := by decide +kernel
theorem dX7_finds_33 : decode cX7_finds 33 = .ok (.i2l, 1) := by decide +kernel
theorem dX7_finds_34 : decode cX7_finds 34 = .ok (.ladd, 1) := by decide +kernel
theorem dX7_finds_35 : decode cX7_finds 35 = .ok (.aload_n 0, 1) := by decide +kernel
theorem dX7_finds_36 : decode cX7_finds 36 = .ok (.getfield 55, 3) := by decide +kernel
theorem dX7_finds_39 : decode cX7_finds 39 = .ok (.iload_n 1, 1) := by decide +kernel
theorem dX7_finds_40 : decode cX7_finds 40 = .ok (.iaload, 1) := by decide +kernel
theorem dX7_finds_41 : decode cX7_finds 41 = .ok (.i2l, 1) := by decide +kernel
theorem dX7_finds_42 : decode cX7_finds 42 = .ok (.lcmp, 1) := by decide +kernel
theorem dX7_finds_43 : decode cX7_finds 43 = .ok (.ifCond .le 8, 3) := by decide +kernel
theorem dX7_finds_46 : decode cX7_finds 46 = .ok (.bipush (-13), 2) := by decide +kernel
theorem dX7_finds_48 : decode cX7_finds 48 = .ok (.goto 4, 3) := by decide +kernel
theorem dX7_finds_51 : decode cX7_finds 51 = .ok (.iconst 0, 1) := by decide +kernel
theorem dX7_finds_52 : decode cX7_finds 52 = .ok (.ireturn, 1) := by decide +kernel
theorem dX7_judged_0 : decode cX7_judged 0 = .ok (.iload_n 1, 1) := by decide +kernel
theorem dX7_judged_1 : decode cX7_judged 1 = .ok (.invokestatic 228, 3) := by decide +kernel
theorem dX7_judged_4 : decode cX7_judged 4 = .ok (.ifCond .eq 23, 3) := by decide +kernel
theorem dX7_judged_7 : decode cX7_judged 7 = .ok (.iload_n 2, 1) := by decide +kernel
theorem dX7_judged_8 : decode cX7_judged 8 = .ok (.invokestatic 231, 3) := by decide +kernel
theorem dX7_judged_11 : decode cX7_judged 11 = .ok (.ifCond .eq 16, 3) := by decide +kernel
theorem dX7_judged_14 : decode cX7_judged 14 = .ok (.iload 4, 2) := by decide +kernel
theorem dX7_judged_16 : decode cX7_judged 16 = .ok (.i2l, 1) := by decide +kernel
theorem dX7_judged_17 : decode cX7_judged 17 = .ok (.lconst 1, 1) := by decide +kernel
theorem dX7_judged_18 : decode cX7_judged 18 = .ok (.ldc2_w 108, 3) := by decide +kernel
theorem dX7_judged_21 : decode cX7_judged 21 = .ok (.invokestatic 68, 3) := by decide +kernel
theorem dX7_judged_24 : decode cX7_judged 24 = .ok (.ifCond .ne 5, 3) := by decide +kernel
theorem dX7_judged_27 : decode cX7_judged 27 = .ok (.iconst (-1), 1) := by decide +kernel
theorem dX7_judged_28 : decode cX7_judged 28 = .ok (.ireturn, 1) := by decide +kernel
theorem dX7_judged_29 : decode cX7_judged 29 = .ok (.aload_n 0, 1) := by decide +kernel
theorem dX7_judged_30 : decode cX7_judged 30 = .ok (.iload_n 1, 1) := by decide +kernel
theorem dX7_judged_31 : decode cX7_judged 31 = .ok (.iload_n 2, 1) := by decide +kernel
theorem dX7_judged_32 : decode cX7_judged 32 = .ok (.iload_n 3, 1) := by decide +kernel
theorem dX7_judged_33 : decode cX7_judged 33 = .ok (.iconst 3, 1) := by decide +kernel
theorem dX7_judged_34 : decode cX7_judged 34 = .ok (.iload 4, 2) := by decide +kernel
theorem dX7_judged_36 : decode cX7_judged 36 = .ok (.imul, 1) := by decide +kernel
theorem dX7_judged_37 : decode cX7_judged 37 = .ok (.invokevirtual 234, 3) := by decide +kernel
theorem dX7_judged_40 : decode cX7_judged 40 = .ok (.istore 5, 2) := by decide +kernel
theorem dX7_judged_42 : decode cX7_judged 42 = .ok (.iload 5, 2) := by decide +kernel
theorem dX7_judged_44 : decode cX7_judged 44 = .ok (.ifCond .ge 6, 3) := by decide +kernel
theorem dX7_judged_47 : decode cX7_judged 47 = .ok (.iload 5, 2) := by decide +kernel
theorem dX7_judged_49 : decode cX7_judged 49 = .ok (.ireturn, 1) := by decide +kernel
theorem dX7_judged_50 : decode cX7_judged 50 = .ok (.iconst 0, 1) := by decide +kernel
theorem dX7_judged_51 : decode cX7_judged 51 = .ok (.istore 6, 2) := by decide +kernel
theorem dX7_judged_53 : decode cX7_judged 53 = .ok (.iload 6, 2) := by decide +kernel
theorem dX7_judged_55 : decode cX7_judged 55 = .ok (.sipush 200, 3) := by decide +kernel
theorem dX7_judged_58 : decode cX7_judged 58 = .ok (.if_icmp .ge 23, 3) := by decide +kernel
theorem dX7_judged_61 : decode cX7_judged 61 = .ok (.aload_n 0, 1) := by decide +kernel
theorem dX7_judged_62 : decode cX7_judged 62 = .ok (.getfield 13, 3) := by decide +kernel
theorem dX7_judged_65 : decode cX7_judged 65 = .ok (.iload 6, 2) := by decide +kernel
theorem dX7_judged_67 : decode cX7_judged 67 = .ok (.aload_n 0, 1) := by decide +kernel
theorem dX7_judged_68 : decode cX7_judged 68 = .ok (.getfield 7, 3) := by decide +kernel
theorem dX7_judged_71 : decode cX7_judged 71 = .ok (.iload 6, 2) := by decide +kernel
theorem dX7_judged_73 : decode cX7_judged 73 = .ok (.iaload, 1) := by decide +kernel
theorem dX7_judged_74 : decode cX7_judged 74 = .ok (.iastore, 1) := by decide +kernel
theorem dX7_judged_75 : decode cX7_judged 75 = .ok (.iinc 6 1, 3) := by decide +kernel
theorem dX7_judged_78 : decode cX7_judged 78 = .ok (.goto (-25), 3) := by decide +kernel
theorem dX7_judged_81 : decode cX7_judged 81 = .ok (.aload_n 0, 1) := by decide +kernel
theorem dX7_judged_82 : decode cX7_judged 82 = .ok (.aload_n 0, 1) := by decide +kernel
theorem dX7_judged_83 : decode cX7_judged 83 = .ok (.getfield 13, 3) := by decide +kernel
theorem dX7_judged_86 : decode cX7_judged 86 = .ok (.putfield 16, 3) := by decide +kernel
theorem dX7_judged_89 : decode cX7_judged 89 = .ok (.aload_n 0, 1) := by decide +kernel
theorem dX7_judged_90 : decode cX7_judged 90 = .ok (.getfield 145, 3) := by decide +kernel
theorem dX7_judged_93 : decode cX7_judged 93 = .ok (.istore 6, 2) := by decide +kernel
theorem dX7_judged_95 : decode cX7_judged 95 = .ok (.iconst 0, 1) := by decide +kernel
theorem dX7_judged_96 : decode cX7_judged 96 = .ok (.istore 7, 2) := by decide +kernel
theorem dX7_judged_98 : decode cX7_judged 98 = .ok (.iload 7, 2) := by decide +kernel
theorem dX7_judged_100 : decode cX7_judged 100 = .ok (.iload 4, 2) := by decide +kernel
theorem dX7_judged_102 : decode cX7_judged 102 = .ok (.if_icmp .ge 223, 3) := by decide +kernel
theorem dX7_judged_105 : decode cX7_judged 105 = .ok (.bipush 24, 2) := by decide +kernel
theorem dX7_judged_107 : decode cX7_judged 107 = .ok (.iload_n 1, 1) := by decide +kernel
theorem dX7_judged_108 : decode cX7_judged 108 = .ok (.imul, 1) := by decide +kernel
theorem dX7_judged_109 : decode cX7_judged 109 = .ok (.iload_n 3, 1) := by decide +kernel
theorem dX7_judged_110 : decode cX7_judged 110 = .ok (.iadd, 1) := by decide +kernel
theorem dX7_judged_111 : decode cX7_judged 111 = .ok (.iconst 3, 1) := by decide +kernel
theorem dX7_judged_112 : decode cX7_judged 112 = .ok (.iload 7, 2) := by decide +kernel
theorem dX7_judged_114 : decode cX7_judged 114 = .ok (.imul, 1) := by decide +kernel
theorem dX7_judged_115 : decode cX7_judged 115 = .ok (.iadd, 1) := by decide +kernel
theorem dX7_judged_116 : decode cX7_judged 116 = .ok (.istore 8, 2) := by decide +kernel
theorem dX7_judged_118 : decode cX7_judged 118 = .ok (.aload_n 0, 1) := by decide +kernel
theorem dX7_judged_119 : decode cX7_judged 119 = .ok (.getfield 58, 3) := by decide +kernel
theorem dX7_judged_122 : decode cX7_judged 122 = .ok (.iload 8, 2) := by decide +kernel
theorem dX7_judged_124 : decode cX7_judged 124 = .ok (.iconst 1, 1) := by decide +kernel
theorem dX7_judged_125 : decode cX7_judged 125 = .ok (.iadd, 1) := by decide +kernel
theorem dX7_judged_126 : decode cX7_judged 126 = .ok (.iaload, 1) := by decide +kernel
theorem dX7_judged_127 : decode cX7_judged 127 = .ok (.istore 9, 2) := by decide +kernel
theorem dX7_judged_129 : decode cX7_judged 129 = .ok (.aload_n 0, 1) := by decide +kernel
theorem dX7_judged_130 : decode cX7_judged 130 = .ok (.getfield 58, 3) := by decide +kernel
theorem dX7_judged_133 : decode cX7_judged 133 = .ok (.iload 8, 2) := by decide +kernel
theorem dX7_judged_135 : decode cX7_judged 135 = .ok (.iconst 2, 1) := by decide +kernel
theorem dX7_judged_136 : decode cX7_judged 136 = .ok (.iadd, 1) := by decide +kernel
theorem dX7_judged_137 : decode cX7_judged 137 = .ok (.iaload, 1) := by decide +kernel
theorem dX7_judged_138 : decode cX7_judged 138 = .ok (.istore 10, 2) := by decide +kernel
theorem dX7_judged_140 : decode cX7_judged 140 = .ok (.aload_n 0, 1) := by decide +kernel
theorem dX7_judged_141 : decode cX7_judged 141 = .ok (.getfield 58, 3) := by decide +kernel
theorem dX7_judged_144 : decode cX7_judged 144 = .ok (.iload 8, 2) := by decide +kernel
theorem dX7_judged_146 : decode cX7_judged 146 = .ok (.iaload, 1) := by decide +kernel
theorem dX7_judged_147 : decode cX7_judged 147 = .ok (.i2l, 1) := by decide +kernel
theorem dX7_judged_148 : decode cX7_judged 148 = .ok (.iload 6, 2) := by decide +kernel
theorem dX7_judged_150 : decode cX7_judged 150 = .ok (.i2l, 1) := by decide +kernel
theorem dX7_judged_151 : decode cX7_judged 151 = .ok (.ldc2_w 238, 3) := by decide +kernel
theorem dX7_judged_154 : decode cX7_judged 154 = .ok (.invokestatic 68, 3) := by decide +kernel
theorem dX7_judged_157 : decode cX7_judged 157 = .ok (.ifCond .ne 6, 3) := by decide +kernel
theorem dX7_judged_160 : decode cX7_judged 160 = .ok (.iload 7, 2) := by decide +kernel
theorem dX7_judged_162 : decode cX7_judged 162 = .ok (.ireturn, 1) := by decide +kernel
theorem dX7_judged_163 : decode cX7_judged 163 = .ok (.iload 6, 2) := by decide +kernel
theorem dX7_judged_165 : decode cX7_judged 165 = .ok (.aload_n 0, 1) := by decide +kernel
theorem dX7_judged_166 : decode cX7_judged 166 = .ok (.getfield 58, 3) := by decide +kernel
theorem dX7_judged_169 : decode cX7_judged 169 = .ok (.iload 8, 2) := by decide +kernel
theorem dX7_judged_171 : decode cX7_judged 171 = .ok (.iaload, 1) := by decide +kernel
theorem dX7_judged_172 : decode cX7_judged 172 = .ok (.if_icmp .ge 15, 3) := by decide +kernel
theorem dX7_judged_175 : decode cX7_judged 175 = .ok (.iinc 6 1, 3) := by decide +kernel
theorem dX7_judged_178 : decode cX7_judged 178 = .ok (.aload_n 0, 1) := by decide +kernel
theorem dX7_judged_179 : decode cX7_judged 179 = .ok (.iload 6, 2) := by decide +kernel
theorem dX7_judged_181 : decode cX7_judged 181 = .ok (.invokevirtual 165, 3) := by decide +kernel
theorem dX7_judged_184 : decode cX7_judged 184 = .ok (.goto (-21), 3) := by decide +kernel
theorem dX7_judged_187 : decode cX7_judged 187 = .ok (.aload_n 0, 1) := by decide +kernel
theorem dX7_judged_188 : decode cX7_judged 188 = .ok (.iload 9, 2) := by decide +kernel
theorem dX7_judged_190 : decode cX7_judged 190 = .ok (.invokevirtual 80, 3) := by decide +kernel
theorem dX7_judged_193 : decode cX7_judged 193 = .ok (.ifCond .eq 82, 3) := by decide +kernel
theorem dX7_judged_196 : decode cX7_judged 196 = .ok (.iload 10, 2) := by decide +kernel
theorem dX7_judged_198 : decode cX7_judged 198 = .ok (.i2l, 1) := by decide +kernel
theorem dX7_judged_199 : decode cX7_judged 199 = .ok (.lconst 0, 1) := by decide +kernel
theorem dX7_judged_200 : decode cX7_judged 200 = .ok (.aload_n 0, 1) := by decide +kernel
theorem dX7_judged_201 : decode cX7_judged 201 = .ok (.getfield 13, 3) := by decide +kernel
theorem dX7_judged_204 : decode cX7_judged 204 = .ok (.bipush 40, 2) := by decide +kernel
theorem dX7_judged_206 : decode cX7_judged 206 = .ok (.iload 9, 2) := by decide +kernel
theorem dX7_judged_208 : decode cX7_judged 208 = .ok (.imul, 1) := by decide +kernel
theorem dX7_judged_209 : decode cX7_judged 209 = .ok (.iconst 3, 1) := by decide +kernel
theorem dX7_judged_210 : decode cX7_judged 210 = .ok (.iadd, 1) := by decide +kernel
theorem dX7_judged_211 : decode cX7_judged 211 = .ok (.iaload, 1) := by decide +kernel
theorem dX7_judged_212 : decode cX7_judged 212 = .ok (.iconst 1, 1) := by decide +kernel
theorem dX7_judged_213 : decode cX7_judged 213 = .ok (.isub, 1) := by decide +kernel
theorem dX7_judged_214 : decode cX7_judged 214 = .ok (.i2l, 1) := by decide +kernel
theorem dX7_judged_215 : decode cX7_judged 215 = .ok (.invokestatic 68, 3) := by decide +kernel
theorem dX7_judged_218 : decode cX7_judged 218 = .ok (.ifCond .eq 57, 3) := by decide +kernel
theorem dX7_judged_221 : decode cX7_judged 221 = .ok (.aload_n 0, 1) := by decide +kernel
theorem dX7_judged_222 : decode cX7_judged 222 = .ok (.iload 10, 2) := by decide +kernel
theorem dX7_judged_224 : decode cX7_judged 224 = .ok (.aload_n 0, 1) := by decide +kernel
theorem dX7_judged_225 : decode cX7_judged 225 = .ok (.getfield 13, 3) := by decide +kernel
theorem dX7_judged_228 : decode cX7_judged 228 = .ok (.bipush 40, 2) := by decide +kernel
theorem dX7_judged_230 : decode cX7_judged 230 = .ok (.iload 9, 2) := by decide +kernel
theorem dX7_judged_232 : decode cX7_judged 232 = .ok (.imul, 1) := by decide +kernel
theorem dX7_judged_233 : decode cX7_judged 233 = .ok (.iconst 3, 1) := by decide +kernel
theorem dX7_judged_234 : decode cX7_judged 234 = .ok (.iadd, 1) := by decide +kernel
theorem dX7_judged_235 : decode cX7_judged 235 = .ok (.iaload, 1) := by decide +kernel
theorem dX7_judged_236 : decode cX7_judged 236 = .ok (.invokevirtual 170, 3) := by decide +kernel
theorem dX7_judged_239 : decode cX7_judged 239 = .ok (.ifCond .eq 36, 3) := by decide +kernel
theorem dX7_judged_242 : decode cX7_judged 242 = .ok (.aload_n 0, 1) := by decide +kernel
theorem dX7_judged_243 : decode cX7_judged 243 = .ok (.getfield 13, 3) := by decide +kernel
theorem dX7_judged_246 : decode cX7_judged 246 = .ok (.bipush 40, 2) := by decide +kernel
theorem dX7_judged_248 : decode cX7_judged 248 = .ok (.iload 9, 2) := by decide +kernel
theorem dX7_judged_250 : decode cX7_judged 250 = .ok (.imul, 1) := by decide +kernel
theorem dX7_judged_251 : decode cX7_judged 251 = .ok (.iaload, 1) := by decide +kernel
theorem dX7_judged_252 : decode cX7_judged 252 = .ok (.aload_n 0, 1) := by decide +kernel
theorem dX7_judged_253 : decode cX7_judged 253 = .ok (.getfield 13, 3) := by decide +kernel
theorem dX7_judged_256 : decode cX7_judged 256 = .ok (.bipush 40, 2) := by decide +kernel
theorem dX7_judged_258 : decode cX7_judged 258 = .ok (.iload 9, 2) := by decide +kernel
theorem dX7_judged_260 : decode cX7_judged 260 = .ok (.imul, 1) := by decide +kernel
theorem dX7_judged_261 : decode cX7_judged 261 = .ok (.bipush 8, 2) := by decide +kernel
theorem dX7_judged_263 : decode cX7_judged 263 = .ok (.iadd, 1) := by decide +kernel
theorem dX7_judged_264 : decode cX7_judged 264 = .ok (.iconst 4, 1) := by decide +kernel
theorem dX7_judged_265 : decode cX7_judged 265 = .ok (.iload 10, 2) := by decide +kernel
theorem dX7_judged_267 : decode cX7_judged 267 = .ok (.imul, 1) := by decide +kernel
theorem dX7_judged_268 : decode cX7_judged 268 = .ok (.iadd, 1) := by decide +kernel
theorem dX7_judged_269 : decode cX7_judged 269 = .ok (.iconst 1, 1) := by decide +kernel
theorem dX7_judged_270 : decode cX7_judged 270 = .ok (.iadd, 1) := by decide +kernel
theorem dX7_judged_271 : decode cX7_judged 271 = .ok (.iaload, 1) := by decide +kernel
theorem dX7_judged_272 : decode cX7_judged 272 = .ok (.if_icmp .ge 6, 3) := by decide +kernel
theorem dX7_judged_275 : decode cX7_judged 275 = .ok (.iload 7, 2) := by decide +kernel
theorem dX7_judged_277 : decode cX7_judged 277 = .ok (.ireturn, 1) := by decide +kernel
theorem dX7_judged_278 : decode cX7_judged 278 = .ok (.aload_n 0, 1) := by decide +kernel
theorem dX7_judged_279 : decode cX7_judged 279 = .ok (.getfield 13, 3) := by decide +kernel
theorem dX7_judged_282 : decode cX7_judged 282 = .ok (.bipush 40, 2) := by decide +kernel
theorem dX7_judged_284 : decode cX7_judged 284 = .ok (.iload 9, 2) := by decide +kernel
theorem dX7_judged_286 : decode cX7_judged 286 = .ok (.imul, 1) := by decide +kernel
theorem dX7_judged_287 : decode cX7_judged 287 = .ok (.dup2, 1) := by decide +kernel
theorem dX7_judged_288 : decode cX7_judged 288 = .ok (.iaload, 1) := by decide +kernel
theorem dX7_judged_289 : decode cX7_judged 289 = .ok (.aload_n 0, 1) := by decide +kernel
theorem dX7_judged_290 : decode cX7_judged 290 = .ok (.getfield 13, 3) := by decide +kernel
theorem dX7_judged_293 : decode cX7_judged 293 = .ok (.bipush 40, 2) := by decide +kernel
theorem dX7_judged_295 : decode cX7_judged 295 = .ok (.iload 9, 2) := by decide +kernel
theorem dX7_judged_297 : decode cX7_judged 297 = .ok (.imul, 1) := by decide +kernel
theorem dX7_judged_298 : decode cX7_judged 298 = .ok (.bipush 8, 2) := by decide +kernel
theorem dX7_judged_300 : decode cX7_judged 300 = .ok (.iadd, 1) := by decide +kernel
theorem dX7_judged_301 : decode cX7_judged 301 = .ok (.iconst 4, 1) := by decide +kernel
theorem dX7_judged_302 : decode cX7_judged 302 = .ok (.iload 10, 2) := by decide +kernel
theorem dX7_judged_304 : decode cX7_judged 304 = .ok (.imul, 1) := by decide +kernel
theorem dX7_judged_305 : decode cX7_judged 305 = .ok (.iadd, 1) := by decide +kernel
theorem dX7_judged_306 : decode cX7_judged 306 = .ok (.iconst 1, 1) := by decide +kernel
theorem dX7_judged_307 : decode cX7_judged 307 = .ok (.iadd, 1) := by decide +kernel
theorem dX7_judged_308 : decode cX7_judged 308 = .ok (.iaload, 1) := by decide +kernel
theorem dX7_judged_309 : decode cX7_judged 309 = .ok (.isub, 1) := by decide +kernel
theorem dX7_judged_310 : decode cX7_judged 310 = .ok (.iastore, 1) := by decide +kernel
theorem dX7_judged_311 : decode cX7_judged 311 = .ok (.aload_n 0, 1) := by decide +kernel
theorem dX7_judged_312 : decode cX7_judged 312 = .ok (.iload 9, 2) := by decide +kernel
theorem dX7_judged_314 : decode cX7_judged 314 = .ok (.iload 10, 2) := by decide +kernel
theorem dX7_judged_316 : decode cX7_judged 316 = .ok (.invokevirtual 173, 3) := by decide +kernel
theorem dX7_judged_319 : decode cX7_judged 319 = .ok (.iinc 7 1, 3) := by decide +kernel
theorem dX7_judged_322 : decode cX7_judged 322 = .ok (.goto (-224), 3) := by decide +kernel
theorem dX7_judged_325 : decode cX7_judged 325 = .ok (.bipush (-4), 2) := by decide +kernel
theorem dX7_judged_327 : decode cX7_judged 327 = .ok (.ireturn, 1) := by decide +kernel
theorem dX7_sheet_0 : decode cX7_sheet 0 = .ok (.iload_n 1, 1) := by decide +kernel
theorem dX7_sheet_1 : decode cX7_sheet 1 = .ok (.invokestatic 228, 3) := by decide +kernel
theorem dX7_sheet_4 : decode cX7_sheet 4 = .ok (.ifCond .eq 16, 3) := by decide +kernel
theorem dX7_sheet_7 : decode cX7_sheet 7 = .ok (.iload_n 2, 1) := by decide +kernel
theorem dX7_sheet_8 : decode cX7_sheet 8 = .ok (.invokestatic 231, 3) := by decide +kernel
theorem dX7_sheet_11 : decode cX7_sheet 11 = .ok (.ifCond .eq 9, 3) := by decide +kernel
theorem dX7_sheet_14 : decode cX7_sheet 14 = .ok (.iload_n 3, 1) := by decide +kernel
theorem dX7_sheet_15 : decode cX7_sheet 15 = .ok (.bipush 24, 2) := by decide +kernel
theorem dX7_sheet_17 : decode cX7_sheet 17 = .ok (.if_icmp .le 5, 3) := by decide +kernel
theorem dX7_sheet_20 : decode cX7_sheet 20 = .ok (.iconst (-1), 1) := by decide +kernel
theorem dX7_sheet_21 : decode cX7_sheet 21 = .ok (.ireturn, 1) := by decide +kernel
theorem dX7_sheet_22 : decode cX7_sheet 22 = .ok (.iload_n 3, 1) := by decide +kernel
theorem dX7_sheet_23 : decode cX7_sheet 23 = .ok (.ifCond .ge 6, 3) := by decide +kernel
theorem dX7_sheet_26 : decode cX7_sheet 26 = .ok (.bipush (-14), 2) := by decide +kernel
theorem dX7_sheet_28 : decode cX7_sheet 28 = .ok (.ireturn, 1) := by decide +kernel
theorem dX7_sheet_29 : decode cX7_sheet 29 = .ok (.aload_n 0, 1) := by decide +kernel
theorem dX7_sheet_30 : decode cX7_sheet 30 = .ok (.getfield 52, 3) := by decide +kernel
theorem dX7_sheet_33 : decode cX7_sheet 33 = .ok (.iload_n 1, 1) := by decide +kernel
theorem dX7_sheet_34 : decode cX7_sheet 34 = .ok (.iload_n 2, 1) := by decide +kernel
theorem dX7_sheet_35 : decode cX7_sheet 35 = .ok (.iastore, 1) := by decide +kernel
theorem dX7_sheet_36 : decode cX7_sheet 36 = .ok (.aload_n 0, 1) := by decide +kernel
theorem dX7_sheet_37 : decode cX7_sheet 37 = .ok (.getfield 55, 3) := by decide +kernel
theorem dX7_sheet_40 : decode cX7_sheet 40 = .ok (.iload_n 1, 1) := by decide +kernel
theorem dX7_sheet_41 : decode cX7_sheet 41 = .ok (.iload_n 3, 1) := by decide +kernel
theorem dX7_sheet_42 : decode cX7_sheet 42 = .ok (.iastore, 1) := by decide +kernel
theorem dX7_sheet_43 : decode cX7_sheet 43 = .ok (.iconst 0, 1) := by decide +kernel
theorem dX7_sheet_44 : decode cX7_sheet 44 = .ok (.istore 4, 2) := by decide +kernel
theorem dX7_sheet_46 : decode cX7_sheet 46 = .ok (.iload 4, 2) := by decide +kernel
theorem dX7_sheet_48 : decode cX7_sheet 48 = .ok (.bipush 24, 2) := by decide +kernel
theorem dX7_sheet_50 : decode cX7_sheet 50 = .ok (.if_icmp .ge 22, 3) := by decide +kernel
theorem dX7_sheet_53 : decode cX7_sheet 53 = .ok (.aload_n 0, 1) := by decide +kernel
theorem dX7_sheet_54 : decode cX7_sheet 54 = .ok (.getfield 58, 3) := by decide +kernel
theorem dX7_sheet_57 : decode cX7_sheet 57 = .ok (.bipush 24, 2) := by decide +kernel
theorem dX7_sheet_59 : decode cX7_sheet 59 = .ok (.iload_n 1, 1) := by decide +kernel
theorem dX7_sheet_60 : decode cX7_sheet 60 = .ok (.imul, 1) := by decide +kernel
theorem dX7_sheet_61 : decode cX7_sheet 61 = .ok (.iload 4, 2) := by decide +kernel
theorem dX7_sheet_63 : decode cX7_sheet 63 = .ok (.iadd, 1) := by decide +kernel
theorem dX7_sheet_64 : decode cX7_sheet 64 = .ok (.iconst 0, 1) := by decide +kernel
theorem dX7_sheet_65 : decode cX7_sheet 65 = .ok (.iastore, 1) := by decide +kernel
theorem dX7_sheet_66 : decode cX7_sheet 66 = .ok (.iinc 4 1, 3) := by decide +kernel
theorem dX7_sheet_69 : decode cX7_sheet 69 = .ok (.goto (-23), 3) := by decide +kernel
theorem dX7_sheet_72 : decode cX7_sheet 72 = .ok (.iload_n 3, 1) := by decide +kernel
theorem dX7_sheet_73 : decode cX7_sheet 73 = .ok (.ireturn, 1) := by decide +kernel
theorem dX7_drop_0 : decode cX7_drop 0 = .ok (.iload_n 1, 1) := by decide +kernel
theorem dX7_drop_1 : decode cX7_drop 1 = .ok (.invokestatic 228, 3) := by decide +kernel
theorem dX7_drop_4 : decode cX7_drop 4 = .ok (.ifCond .ne 5, 3) := by decide +kernel
theorem dX7_drop_7 : decode cX7_drop 7 = .ok (.iconst (-1), 1) := by decide +kernel
theorem dX7_drop_8 : decode cX7_drop 8 = .ok (.ireturn, 1) := by decide +kernel
theorem dX7_drop_9 : decode cX7_drop 9 = .ok (.aload_n 0, 1) := by decide +kernel
theorem dX7_drop_10 : decode cX7_drop 10 = .ok (.getfield 52, 3) := by decide +kernel
theorem dX7_drop_13 : decode cX7_drop 13 = .ok (.iload_n 1, 1) := by decide +kernel
theorem dX7_drop_14 : decode cX7_drop 14 = .ok (.iaload, 1) := by decide +kernel
theorem dX7_drop_15 : decode cX7_drop 15 = .ok (.ifCond .ge 6, 3) := by decide +kernel
theorem dX7_drop_18 : decode cX7_drop 18 = .ok (.bipush (-11), 2) := by decide +kernel
theorem dX7_drop_20 : decode cX7_drop 20 = .ok (.ireturn, 1) := by decide +kernel
theorem dX7_drop_21 : decode cX7_drop 21 = .ok (.aload_n 0, 1) := by decide +kernel
theorem dX7_drop_22 : decode cX7_drop 22 = .ok (.getfield 52, 3) := by decide +kernel
theorem dX7_drop_25 : decode cX7_drop 25 = .ok (.iload_n 1, 1) := by decide +kernel
theorem dX7_drop_26 : decode cX7_drop 26 = .ok (.iconst (-1), 1) := by decide +kernel
theorem dX7_drop_27 : decode cX7_drop 27 = .ok (.iastore, 1) := by decide +kernel
theorem dX7_drop_28 : decode cX7_drop 28 = .ok (.aload_n 0, 1) := by decide +kernel
theorem dX7_drop_29 : decode cX7_drop 29 = .ok (.getfield 55, 3) := by decide +kernel
theorem dX7_drop_32 : decode cX7_drop 32 = .ok (.iload_n 1, 1) := by decide +kernel
theorem dX7_drop_33 : decode cX7_drop 33 = .ok (.iaload, 1) := by decide +kernel
theorem dX7_drop_34 : decode cX7_drop 34 = .ok (.ireturn, 1) := by decide +kernel
theorem dX7_item_0 : decode cX7_item 0 = .ok (.iload_n 1, 1) := by decide +kernel
theorem dX7_item_1 : decode cX7_item 1 = .ok (.invokestatic 228, 3) := by decide +kernel
theorem dX7_item_4 : decode cX7_item 4 = .ok (.ifCond .eq 10, 3) := by decide +kernel
theorem dX7_item_7 : decode cX7_item 7 = .ok (.iload_n 2, 1) := by decide +kernel
theorem dX7_item_8 : decode cX7_item 8 = .ok (.invokestatic 231, 3) := by decide +kernel
theorem dX7_item_11 : decode cX7_item 11 = .ok (.ifCond .ne 5, 3) := by decide +kernel
theorem dX7_item_14 : decode cX7_item 14 = .ok (.iconst (-1), 1) := by decide +kernel
theorem dX7_item_15 : decode cX7_item 15 = .ok (.ireturn, 1) := by decide +kernel
theorem dX7_item_16 : decode cX7_item 16 = .ok (.aload_n 0, 1) := by decide +kernel
theorem dX7_item_17 : decode cX7_item 17 = .ok (.iload_n 1, 1) := by decide +kernel
theorem dX7_item_18 : decode cX7_item 18 = .ok (.iload_n 2, 1) := by decide +kernel
theorem dX7_item_19 : decode cX7_item 19 = .ok (.iload_n 3, 1) := by decide +kernel
theorem dX7_item_20 : decode cX7_item 20 = .ok (.iconst 1, 1) := by decide +kernel
theorem dX7_item_21 : decode cX7_item 21 = .ok (.invokevirtual 234, 3) := by decide +kernel
theorem dX7_item_24 : decode cX7_item 24 = .ok (.istore 5, 2) := by decide +kernel
theorem dX7_item_26 : decode cX7_item 26 = .ok (.iload 5, 2) := by decide +kernel
theorem dX7_item_28 : decode cX7_item 28 = .ok (.ifCond .ge 6, 3) := by decide +kernel
theorem dX7_item_31 : decode cX7_item 31 = .ok (.iload 5, 2) := by decide +kernel
theorem dX7_item_33 : decode cX7_item 33 = .ok (.ireturn, 1) := by decide +kernel
theorem dX7_item_34 : decode cX7_item 34 = .ok (.aload_n 0, 1) := by decide +kernel
theorem dX7_item_35 : decode cX7_item 35 = .ok (.getfield 58, 3) := by decide +kernel
theorem dX7_item_38 : decode cX7_item 38 = .ok (.bipush 24, 2) := by decide +kernel
theorem dX7_item_40 : decode cX7_item 40 = .ok (.iload_n 1, 1) := by decide +kernel
theorem dX7_item_41 : decode cX7_item 41 = .ok (.imul, 1) := by decide +kernel
theorem dX7_item_42 : decode cX7_item 42 = .ok (.iload_n 3, 1) := by decide +kernel
theorem dX7_item_43 : decode cX7_item 43 = .ok (.iadd, 1) := by decide +kernel
theorem dX7_item_44 : decode cX7_item 44 = .ok (.iload_n 2, 1) := by decide +kernel
theorem dX7_item_45 : decode cX7_item 45 = .ok (.ifCond .ne 9, 3) := by decide +kernel
theorem dX7_item_48 : decode cX7_item 48 = .ok (.iload 4, 2) := by decide +kernel
theorem dX7_item_50 : decode cX7_item 50 = .ok (.i2b, 1) := by decide +kernel
theorem dX7_item_51 : decode cX7_item 51 = .ok (.goto 16, 3) := by decide +kernel
theorem dX7_item_54 : decode cX7_item 54 = .ok (.iload_n 2, 1) := by decide +kernel
theorem dX7_item_55 : decode cX7_item 55 = .ok (.iconst 1, 1) := by decide +kernel
theorem dX7_item_56 : decode cX7_item 56 = .ok (.if_icmp .ne 9, 3) := by decide +kernel
theorem dX7_item_59 : decode cX7_item 59 = .ok (.iload 4, 2) := by decide +kernel
theorem dX7_item_61 : decode cX7_item 61 = .ok (.i2s, 1) := by decide +kernel
theorem dX7_item_62 : decode cX7_item 62 = .ok (.goto 5, 3) := by decide +kernel
theorem dX7_item_65 : decode cX7_item 65 = .ok (.iload 4, 2) := by decide +kernel
theorem dX7_item_67 : decode cX7_item 67 = .ok (.iastore, 1) := by decide +kernel
theorem dX7_item_68 : decode cX7_item 68 = .ok (.iconst 1, 1) := by decide +kernel
theorem dX7_item_69 : decode cX7_item 69 = .ok (.ireturn, 1) := by decide +kernel
theorem dX7_copy_0 : decode cX7_copy 0 = .ok (.iload_n 1, 1) := by decide +kernel
theorem dX7_copy_1 : decode cX7_copy 1 = .ok (.invokestatic 228, 3) := by decide +kernel
theorem dX7_copy_4 : decode cX7_copy 4 = .ok (.ifCond .eq 10, 3) := by decide +kernel
theorem dX7_copy_7 : decode cX7_copy 7 = .ok (.iload_n 3, 1) := by decide +kernel
theorem dX7_copy_8 : decode cX7_copy 8 = .ok (.invokestatic 228, 3) := by decide +kernel
theorem dX7_copy_11 : decode cX7_copy 11 = .ok (.ifCond .ne 5, 3) := by decide +kernel
theorem dX7_copy_14 : decode cX7_copy 14 = .ok (.iconst (-1), 1) := by decide +kernel
theorem dX7_copy_15 : decode cX7_copy 15 = .ok (.ireturn, 1) := by decide +kernel
theorem dX7_copy_16 : decode cX7_copy 16 = .ok (.aload_n 0, 1) := by decide +kernel
theorem dX7_copy_17 : decode cX7_copy 17 = .ok (.getfield 52, 3) := by decide +kernel
theorem dX7_copy_20 : decode cX7_copy 20 = .ok (.iload_n 1, 1) := by decide +kernel
theorem dX7_copy_21 : decode cX7_copy 21 = .ok (.iaload, 1) := by decide +kernel
theorem dX7_copy_22 : decode cX7_copy 22 = .ok (.ifCond .lt 12, 3) := by decide +kernel
theorem dX7_copy_25 : decode cX7_copy 25 = .ok (.aload_n 0, 1) := by decide +kernel
theorem dX7_copy_26 : decode cX7_copy 26 = .ok (.getfield 52, 3) := by decide +kernel
theorem dX7_copy_29 : decode cX7_copy 29 = .ok (.iload_n 3, 1) := by decide +kernel
theorem dX7_copy_30 : decode cX7_copy 30 = .ok (.iaload, 1) := by decide +kernel
theorem dX7_copy_31 : decode cX7_copy 31 = .ok (.ifCond .ge 6, 3) := by decide +kernel
theorem dX7_copy_34 : decode cX7_copy 34 = .ok (.bipush (-11), 2) := by decide +kernel
theorem dX7_copy_36 : decode cX7_copy 36 = .ok (.ireturn, 1) := by decide +kernel
theorem dX7_copy_37 : decode cX7_copy 37 = .ok (.aload_n 0, 1) := by decide +kernel
theorem dX7_copy_38 : decode cX7_copy 38 = .ok (.getfield 52, 3) := by decide +kernel
theorem dX7_copy_41 : decode cX7_copy 41 = .ok (.iload_n 1, 1) := by decide +kernel
theorem dX7_copy_42 : decode cX7_copy 42 = .ok (.iaload, 1) := by decide +kernel
theorem dX7_copy_43 : decode cX7_copy 43 = .ok (.aload_n 0, 1) := by decide +kernel
theorem dX7_copy_44 : decode cX7_copy 44 = .ok (.getfield 52, 3) := by decide +kernel
theorem dX7_copy_47 : decode cX7_copy 47 = .ok (.iload_n 3, 1) := by decide +kernel
theorem dX7_copy_48 : decode cX7_copy 48 = .ok (.iaload, 1) := by decide +kernel
theorem dX7_copy_49 : decode cX7_copy 49 = .ok (.if_icmp .eq 6, 3) := by decide +kernel
theorem dX7_copy_52 : decode cX7_copy 52 = .ok (.bipush (-12), 2) := by decide +kernel
theorem dX7_copy_54 : decode cX7_copy 54 = .ok (.ireturn, 1) := by decide +kernel
theorem dX7_copy_55 : decode cX7_copy 55 = .ok (.iload 5, 2) := by decide +kernel
theorem dX7_copy_57 : decode cX7_copy 57 = .ok (.ifCond .lt 38, 3) := by decide +kernel
theorem dX7_copy_60 : decode cX7_copy 60 = .ok (.aload_n 0, 1) := by decide +kernel
theorem dX7_copy_61 : decode cX7_copy 61 = .ok (.iload_n 1, 1) := by decide +kernel
theorem dX7_copy_62 : decode cX7_copy 62 = .ok (.aload_n 0, 1) := by decide +kernel
theorem dX7_copy_63 : decode cX7_copy 63 = .ok (.getfield 52, 3) := by decide +kernel
theorem dX7_copy_66 : decode cX7_copy 66 = .ok (.iload_n 1, 1) := by decide +kernel
theorem dX7_copy_67 : decode cX7_copy 67 = .ok (.iaload, 1) := by decide +kernel
theorem dX7_copy_68 : decode cX7_copy 68 = .ok (.iload_n 2, 1) := by decide +kernel
theorem dX7_copy_69 : decode cX7_copy 69 = .ok (.iload 5, 2) := by decide +kernel
theorem dX7_copy_71 : decode cX7_copy 71 = .ok (.invokevirtual 234, 3) := by decide +kernel
theorem dX7_copy_74 : decode cX7_copy 74 = .ok (.ifCond .lt 21, 3) := by decide +kernel
theorem dX7_copy_77 : decode cX7_copy 77 = .ok (.aload_n 0, 1) := by decide +kernel
theorem dX7_copy_78 : decode cX7_copy 78 = .ok (.iload_n 3, 1) := by decide +kernel
theorem dX7_copy_79 : decode cX7_copy 79 = .ok (.aload_n 0, 1) := by decide +kernel
theorem dX7_copy_80 : decode cX7_copy 80 = .ok (.getfield 52, 3) := by decide +kernel
theorem dX7_copy_83 : decode cX7_copy 83 = .ok (.iload_n 3, 1) := by decide +kernel
theorem dX7_copy_84 : decode cX7_copy 84 = .ok (.iaload, 1) := by decide +kernel
theorem dX7_copy_85 : decode cX7_copy 85 = .ok (.iload 4, 2) := by decide +kernel
theorem dX7_copy_87 : decode cX7_copy 87 = .ok (.iload 5, 2) := by decide +kernel
theorem dX7_copy_89 : decode cX7_copy 89 = .ok (.invokevirtual 234, 3) := by decide +kernel
theorem dX7_copy_92 : decode cX7_copy 92 = .ok (.ifCond .ge 6, 3) := by decide +kernel
theorem dX7_copy_95 : decode cX7_copy 95 = .ok (.bipush (-13), 2) := by decide +kernel
theorem dX7_copy_97 : decode cX7_copy 97 = .ok (.ireturn, 1) := by decide +kernel
theorem dX7_copy_98 : decode cX7_copy 98 = .ok (.iconst 0, 1) := by decide +kernel
theorem dX7_copy_99 : decode cX7_copy 99 = .ok (.istore 6, 2) := by decide +kernel
theorem dX7_copy_101 : decode cX7_copy 101 = .ok (.iload 6, 2) := by decide +kernel
theorem dX7_copy_103 : decode cX7_copy 103 = .ok (.iload 5, 2) := by decide +kernel
theorem dX7_copy_105 : decode cX7_copy 105 = .ok (.if_icmp .ge 30, 3) := by decide +kernel
theorem dX7_copy_108 : decode cX7_copy 108 = .ok (.aload_n 0, 1) := by decide +kernel
theorem dX7_copy_109 : decode cX7_copy 109 = .ok (.getfield 61, 3) := by decide +kernel
theorem dX7_copy_112 : decode cX7_copy 112 = .ok (.iload 6, 2) := by decide +kernel
theorem dX7_copy_114 : decode cX7_copy 114 = .ok (.aload_n 0, 1) := by decide +kernel
theorem dX7_copy_115 : decode cX7_copy 115 = .ok (.getfield 58, 3) := by decide +kernel
theorem dX7_copy_118 : decode cX7_copy 118 = .ok (.bipush 24, 2) := by decide +kernel
theorem dX7_copy_120 : decode cX7_copy 120 = .ok (.iload_n 1, 1) := by decide +kernel
theorem dX7_copy_121 : decode cX7_copy 121 = .ok (.imul, 1) := by decide +kernel
theorem dX7_copy_122 : decode cX7_copy 122 = .ok (.iload_n 2, 1) := by decide +kernel
theorem dX7_copy_123 : decode cX7_copy 123 = .ok (.iadd, 1) := by decide +kernel
theorem dX7_copy_124 : decode cX7_copy 124 = .ok (.iload 6, 2) := by decide +kernel
theorem dX7_copy_126 : decode cX7_copy 126 = .ok (.iadd, 1) := by decide +kernel
theorem dX7_copy_127 : decode cX7_copy 127 = .ok (.iaload, 1) := by decide +kernel
theorem dX7_copy_128 : decode cX7_copy 128 = .ok (.iastore, 1) := by decide +kernel
theorem dX7_copy_129 : decode cX7_copy 129 = .ok (.iinc 6 1, 3) := by decide +kernel
theorem dX7_copy_132 : decode cX7_copy 132 = .ok (.goto (-31), 3) := by decide +kernel
theorem dX7_copy_135 : decode cX7_copy 135 = .ok (.iconst 0, 1) := by decide +kernel
theorem dX7_copy_136 : decode cX7_copy 136 = .ok (.istore 6, 2) := by decide +kernel
theorem dX7_copy_138 : decode cX7_copy 138 = .ok (.iload 6, 2) := by decide +kernel
theorem dX7_copy_140 : decode cX7_copy 140 = .ok (.iload 5, 2) := by decide +kernel
theorem dX7_copy_142 : decode cX7_copy 142 = .ok (.if_icmp .ge 31, 3) := by decide +kernel
theorem dX7_copy_145 : decode cX7_copy 145 = .ok (.aload_n 0, 1) := by decide +kernel
theorem dX7_copy_146 : decode cX7_copy 146 = .ok (.getfield 58, 3) := by decide +kernel
theorem dX7_copy_149 : decode cX7_copy 149 = .ok (.bipush 24, 2) := by decide +kernel
theorem dX7_copy_151 : decode cX7_copy 151 = .ok (.iload_n 3, 1) := by decide +kernel
theorem dX7_copy_152 : decode cX7_copy 152 = .ok (.imul, 1) := by decide +kernel
theorem dX7_copy_153 : decode cX7_copy 153 = .ok (.iload 4, 2) := by decide +kernel
theorem dX7_copy_155 : decode cX7_copy 155 = .ok (.iadd, 1) := by decide +kernel
theorem dX7_copy_156 : decode cX7_copy 156 = .ok (.iload 6, 2) := by decide +kernel
theorem dX7_copy_158 : decode cX7_copy 158 = .ok (.iadd, 1) := by decide +kernel
theorem dX7_copy_159 : decode cX7_copy 159 = .ok (.aload_n 0, 1) := by decide +kernel
theorem dX7_copy_160 : decode cX7_copy 160 = .ok (.getfield 61, 3) := by decide +kernel
theorem dX7_copy_163 : decode cX7_copy 163 = .ok (.iload 6, 2) := by decide +kernel
theorem dX7_copy_165 : decode cX7_copy 165 = .ok (.iaload, 1) := by decide +kernel
theorem dX7_copy_166 : decode cX7_copy 166 = .ok (.iastore, 1) := by decide +kernel
theorem dX7_copy_167 : decode cX7_copy 167 = .ok (.iinc 6 1, 3) := by decide +kernel
theorem dX7_copy_170 : decode cX7_copy 170 = .ok (.goto (-32), 3) := by decide +kernel
theorem dX7_copy_173 : decode cX7_copy 173 = .ok (.iload 5, 2) := by decide +kernel
theorem dX7_copy_175 : decode cX7_copy 175 = .ok (.ireturn, 1) := by decide +kernel
end
section
theorem dL_law_0 : decode cL_law 0 = .ok (.new 7, 3) := by decide +kernel
theorem dL_law_3 : decode cL_law 3 = .ok (.dup, 1) := by decide +kernel
theorem dL_law_4 : decode cL_law 4 = .ok (.invokespecial 9, 3) := by decide +kernel
theorem dL_law_7 : decode cL_law 7 = .ok (.astore_n 1, 1) := by decide +kernel
theorem dL_law_8 : decode cL_law 8 = .ok (.new 10, 3) := by decide +kernel
theorem dL_law_11 : decode cL_law 11 = .ok (.dup, 1) := by decide +kernel
theorem dL_law_12 : decode cL_law 12 = .ok (.invokespecial 12, 3) := by decide +kernel
theorem dL_law_15 : decode cL_law 15 = .ok (.astore_n 2, 1) := by decide +kernel
theorem dL_law_16 : decode cL_law 16 = .ok (.iconst 0, 1) := by decide +kernel
theorem dL_law_17 : decode cL_law 17 = .ok (.istore_n 3, 1) := by decide +kernel
theorem dL_law_18 : decode cL_law 18 = .ok (.iload_n 3, 1) := by decide +kernel
theorem dL_law_19 : decode cL_law 19 = .ok (.aload_n 0, 1) := by decide +kernel
theorem dL_law_20 : decode cL_law 20 = .ok (.arraylength, 1) := by decide +kernel
theorem dL_law_21 : decode cL_law 21 = .ok (.bipush 6, 2) := by decide +kernel
theorem dL_law_23 : decode cL_law 23 = .ok (.isub, 1) := by decide +kernel
theorem dL_law_24 : decode cL_law 24 = .ok (.if_icmp .gt 1156, 3) := by decide +kernel
theorem dL_law_27 : decode cL_law 27 = .ok (.aload_n 0, 1) := by decide +kernel
theorem dL_law_28 : decode cL_law 28 = .ok (.iload_n 3, 1) := by decide +kernel
theorem dL_law_29 : decode cL_law 29 = .ok (.iaload, 1) := by decide +kernel
theorem dL_law_30 : decode cL_law 30 = .ok (.bipush 31, 2) := by decide +kernel
theorem dL_law_32 : decode cL_law 32 = .ok (.iand, 1) := by decide +kernel
theorem dL_law_33 : decode cL_law 33 = .ok (.tableswitch 1141 0 27 #[127, 170, 203, 246, 289, 322, 355, 418, 441, 464, 527, 560, 583, 616, 659, 682, 705, 738, 771, 794, 827, 880, 893, 906, 959, 1002, 1025, 1078], 127) := by decide +kernel
theorem dL_law_160 : decode cL_law 160 = .ok (.aload_n 1, 1) := by decide +kernel
theorem dL_law_161 : decode cL_law 161 = .ok (.aload_n 0, 1) := by decide +kernel
theorem dL_law_162 : decode cL_law 162 = .ok (.iload_n 3, 1) := by decide +kernel
theorem dL_law_163 : decode cL_law 163 = .ok (.iconst 1, 1) := by decide +kernel
theorem dL_law_164 : decode cL_law 164 = .ok (.iadd, 1) := by decide +kernel
theorem dL_law_165 : decode cL_law 165 = .ok (.iaload, 1) := by decide +kernel
theorem dL_law_166 : decode cL_law 166 = .ok (.aload_n 0, 1) := by decide +kernel
theorem dL_law_167 : decode cL_law 167 = .ok (.iload_n 3, 1) := by decide +kernel
theorem dL_law_168 : decode cL_law 168 = .ok (.iconst 2, 1) := by decide +kernel
theorem dL_law_169 : decode cL_law 169 = .ok (.iadd, 1) := by decide +kernel
theorem dL_law_170 : decode cL_law 170 = .ok (.iaload, 1) := by decide +kernel
theorem dL_law_171 : decode cL_law 171 = .ok (.aload_n 0, 1) := by decide +kernel
theorem dL_law_172 : decode cL_law 172 = .ok (.iload_n 3, 1) := by decide +kernel
theorem dL_law_173 : decode cL_law 173 = .ok (.iconst 3, 1) := by decide +kernel
theorem dL_law_174 : decode cL_law 174 = .ok (.iadd, 1) := by decide +kernel
theorem dL_law_175 : decode cL_law 175 = .ok (.iaload, 1) := by decide +kernel
theorem dL_law_176 : decode cL_law 176 = .ok (.invokevirtual 13, 3) := by decide +kernel
theorem dL_law_179 : decode cL_law 179 = .ok (.aload_n 2, 1) := by decide +kernel
theorem dL_law_180 : decode cL_law 180 = .ok (.aload_n 0, 1) := by decide +kernel
theorem dL_law_181 : decode cL_law 181 = .ok (.iload_n 3, 1) := by decide +kernel
theorem dL_law_182 : decode cL_law 182 = .ok (.iconst 1, 1) := by decide +kernel
theorem dL_law_183 : decode cL_law 183 = .ok (.iadd, 1) := by decide +kernel
theorem dL_law_184 : decode cL_law 184 = .ok (.iaload, 1) := by decide +kernel
theorem dL_law_185 : decode cL_law 185 = .ok (.aload_n 0, 1) := by decide +kernel
theorem dL_law_186 : decode cL_law 186 = .ok (.iload_n 3, 1) := by decide +kernel
theorem dL_law_187 : decode cL_law 187 = .ok (.iconst 2, 1) := by decide +kernel
theorem dL_law_188 : decode cL_law 188 = .ok (.iadd, 1) := by decide +kernel
theorem dL_law_189 : decode cL_law 189 = .ok (.iaload, 1) := by decide +kernel
theorem dL_law_190 : decode cL_law 190 = .ok (.aload_n 0, 1) := by decide +kernel
theorem dL_law_191 : decode cL_law 191 = .ok (.iload_n 3, 1) := by decide +kernel
theorem dL_law_192 : decode cL_law 192 = .ok (.iconst 3, 1) := by decide +kernel
theorem dL_law_193 : decode cL_law 193 = .ok (.iadd, 1) := by decide +kernel
theorem dL_law_194 : decode cL_law 194 = .ok (.iaload, 1) := by decide +kernel
theorem dL_law_195 : decode cL_law 195 = .ok (.invokevirtual 17, 3) := by decide +kernel
theorem dL_law_198 : decode cL_law 198 = .ok (.if_icmp .eq 976, 3) := by decide +kernel
theorem dL_law_201 : decode cL_law 201 = .ok (.iconst 0, 1) := by decide +kernel
theorem dL_law_202 : decode cL_law 202 = .ok (.ireturn, 1) := by decide +kernel
theorem dL_law_203 : decode cL_law 203 = .ok (.aload_n 1, 1) := by decide +kernel
theorem dL_law_204 : decode cL_law 204 = .ok (.aload_n 0, 1) := by decide +kernel
theorem dL_law_205 : decode cL_law 205 = .ok (.iload_n 3, 1) := by decide +kernel
theorem dL_law_206 : decode cL_law 206 = .ok (.iconst 1, 1) := by decide +kernel
theorem dL_law_207 : decode cL_law 207 = .ok (.iadd, 1) := by decide +kernel
theorem dL_law_208 : decode cL_law 208 = .ok (.iaload, 1) := by decide +kernel
theorem dL_law_209 : decode cL_law 209 = .ok (.aload_n 0, 1) := by decide +kernel
theorem dL_law_210 : decode cL_law 210 = .ok (.iload_n 3, 1) := by decide +kernel
theorem dL_law_211 : decode cL_law 211 = .ok (.iconst 2, 1) := by decide +kernel
theorem dL_law_212 : decode cL_law 212 = .ok (.iadd, 1) := by decide +kernel
theorem dL_law_213 : decode cL_law 213 = .ok (.iaload, 1) := by decide +kernel
theorem dL_law_214 : decode cL_law 214 = .ok (.invokevirtual 18, 3) := by decide +kernel
theorem dL_law_217 : decode cL_law 217 = .ok (.aload_n 2, 1) := by decide +kernel
theorem dL_law_218 : decode cL_law 218 = .ok (.aload_n 0, 1) := by decide +kernel
theorem dL_law_219 : decode cL_law 219 = .ok (.iload_n 3, 1) := by decide +kernel
theorem dL_law_220 : decode cL_law 220 = .ok (.iconst 1, 1) := by decide +kernel
theorem dL_law_221 : decode cL_law 221 = .ok (.iadd, 1) := by decide +kernel
theorem dL_law_222 : decode cL_law 222 = .ok (.iaload, 1) := by decide +kernel
theorem dL_law_223 : decode cL_law 223 = .ok (.aload_n 0, 1) := by decide +kernel
theorem dL_law_224 : decode cL_law 224 = .ok (.iload_n 3, 1) := by decide +kernel
theorem dL_law_225 : decode cL_law 225 = .ok (.iconst 2, 1) := by decide +kernel
theorem dL_law_226 : decode cL_law 226 = .ok (.iadd, 1) := by decide +kernel
theorem dL_law_227 : decode cL_law 227 = .ok (.iaload, 1) := by decide +kernel
theorem dL_law_228 : decode cL_law 228 = .ok (.invokevirtual 22, 3) := by decide +kernel
theorem dL_law_231 : decode cL_law 231 = .ok (.if_icmp .eq 943, 3) := by decide +kernel
theorem dL_law_234 : decode cL_law 234 = .ok (.iconst 0, 1) := by decide +kernel
theorem dL_law_235 : decode cL_law 235 = .ok (.ireturn, 1) := by decide +kernel
theorem dL_law_236 : decode cL_law 236 = .ok (.aload_n 1, 1) := by decide +kernel
theorem dL_law_237 : decode cL_law 237 = .ok (.aload_n 0, 1) := by decide +kernel
theorem dL_law_238 : decode cL_law 238 = .ok (.iload_n 3, 1) := by decide +kernel
theorem dL_law_239 : decode cL_law 239 = .ok (.iconst 1, 1) := by decide +kernel
theorem dL_law_240 : decode cL_law 240 = .ok (.iadd, 1) := by decide +kernel
theorem dL_law_241 : decode cL_law 241 = .ok (.iaload, 1) := by decide +kernel
theorem dL_law_242 : decode cL_law 242 = .ok (.aload_n 0, 1) := by decide +kernel
theorem dL_law_243 : decode cL_law 243 = .ok (.iload_n 3, 1) := by decide +kernel
theorem dL_law_244 : decode cL_law 244 = .ok (.iconst 2, 1) := by decide +kernel
theorem dL_law_245 : decode cL_law 245 = .ok (.iadd, 1) := by decide +kernel
theorem dL_law_246 : decode cL_law 246 = .ok (.iaload, 1) := by decide +kernel
theorem dL_law_247 : decode cL_law 247 = .ok (.aload_n 0, 1) := by decide +kernel
theorem dL_law_248 : decode cL_law 248 = .ok (.iload_n 3, 1) := by decide +kernel
theorem dL_law_249 : decode cL_law 249 = .ok (.iconst 3, 1) := by decide +kernel
theorem dL_law_250 : decode cL_law 250 = .ok (.iadd, 1) := by decide +kernel
theorem dL_law_251 : decode cL_law 251 = .ok (.iaload, 1) := by decide +kernel
theorem dL_law_252 : decode cL_law 252 = .ok (.invokevirtual 23, 3) := by decide +kernel
theorem dL_law_255 : decode cL_law 255 = .ok (.aload_n 2, 1) := by decide +kernel
theorem dL_law_256 : decode cL_law 256 = .ok (.aload_n 0, 1) := by decide +kernel
theorem dL_law_257 : decode cL_law 257 = .ok (.iload_n 3, 1) := by decide +kernel
theorem dL_law_258 : decode cL_law 258 = .ok (.iconst 1, 1) := by decide +kernel
theorem dL_law_259 : decode cL_law 259 = .ok (.iadd, 1) := by decide +kernel
theorem dL_law_260 : decode cL_law 260 = .ok (.iaload, 1) := by decide +kernel
theorem dL_law_261 : decode cL_law 261 = .ok (.aload_n 0, 1) := by decide +kernel
theorem dL_law_262 : decode cL_law 262 = .ok (.iload_n 3, 1) := by decide +kernel
theorem dL_law_263 : decode cL_law 263 = .ok (.iconst 2, 1) := by decide +kernel
theorem dL_law_264 : decode cL_law 264 = .ok (.iadd, 1) := by decide +kernel
theorem dL_law_265 : decode cL_law 265 = .ok (.iaload, 1) := by decide +kernel
theorem dL_law_266 : decode cL_law 266 = .ok (.aload_n 0, 1) := by decide +kernel
theorem dL_law_267 : decode cL_law 267 = .ok (.iload_n 3, 1) := by decide +kernel
theorem dL_law_268 : decode cL_law 268 = .ok (.iconst 3, 1) := by decide +kernel
theorem dL_law_269 : decode cL_law 269 = .ok (.iadd, 1) := by decide +kernel
theorem dL_law_270 : decode cL_law 270 = .ok (.iaload, 1) := by decide +kernel
theorem dL_law_271 : decode cL_law 271 = .ok (.invokevirtual 26, 3) := by decide +kernel
theorem dL_law_274 : decode cL_law 274 = .ok (.if_icmp .eq 900, 3) := by decide +kernel
theorem dL_law_277 : decode cL_law 277 = .ok (.iconst 0, 1) := by decide +kernel
theorem dL_law_278 : decode cL_law 278 = .ok (.ireturn, 1) := by decide +kernel
theorem dL_law_279 : decode cL_law 279 = .ok (.aload_n 1, 1) := by decide +kernel
theorem dL_law_280 : decode cL_law 280 = .ok (.aload_n 0, 1) := by decide +kernel
theorem dL_law_281 : decode cL_law 281 = .ok (.iload_n 3, 1) := by decide +kernel
theorem dL_law_282 : decode cL_law 282 = .ok (.iconst 1, 1) := by decide +kernel
theorem dL_law_283 : decode cL_law 283 = .ok (.iadd, 1) := by decide +kernel
theorem dL_law_284 : decode cL_law 284 = .ok (.iaload, 1) := by decide +kernel
theorem dL_law_285 : decode cL_law 285 = .ok (.aload_n 0, 1) := by decide +kernel
theorem dL_law_286 : decode cL_law 286 = .ok (.iload_n 3, 1) := by decide +kernel
theorem dL_law_287 : decode cL_law 287 = .ok (.iconst 2, 1) := by decide +kernel
theorem dL_law_288 : decode cL_law 288 = .ok (.iadd, 1) := by decide +kernel
theorem dL_law_289 : decode cL_law 289 = .ok (.iaload, 1) := by decide +kernel
theorem dL_law_290 : decode cL_law 290 = .ok (.aload_n 0, 1) := by decide +kernel
theorem dL_law_291 : decode cL_law 291 = .ok (.iload_n 3, 1) := by decide +kernel
theorem dL_law_292 : decode cL_law 292 = .ok (.iconst 3, 1) := by decide +kernel
theorem dL_law_293 : decode cL_law 293 = .ok (.iadd, 1) := by decide +kernel
theorem dL_law_294 : decode cL_law 294 = .ok (.iaload, 1) := by decide +kernel
theorem dL_law_295 : decode cL_law 295 = .ok (.invokevirtual 27, 3) := by decide +kernel
theorem dL_law_298 : decode cL_law 298 = .ok (.aload_n 2, 1) := by decide +kernel
theorem dL_law_299 : decode cL_law 299 = .ok (.aload_n 0, 1) := by decide +kernel
theorem dL_law_300 : decode cL_law 300 = .ok (.iload_n 3, 1) := by decide +kernel
theorem dL_law_301 : decode cL_law 301 = .ok (.iconst 1, 1) := by decide +kernel
theorem dL_law_302 : decode cL_law 302 = .ok (.iadd, 1) := by decide +kernel
theorem dL_law_303 : decode cL_law 303 = .ok (.iaload, 1) := by decide +kernel
theorem dL_law_304 : decode cL_law 304 = .ok (.aload_n 0, 1) := by decide +kernel
theorem dL_law_305 : decode cL_law 305 = .ok (.iload_n 3, 1) := by decide +kernel
theorem dL_law_306 : decode cL_law 306 = .ok (.iconst 2, 1) := by decide +kernel
theorem dL_law_307 : decode cL_law 307 = .ok (.iadd, 1) := by decide +kernel
theorem dL_law_308 : decode cL_law 308 = .ok (.iaload, 1) := by decide +kernel
theorem dL_law_309 : decode cL_law 309 = .ok (.aload_n 0, 1) := by decide +kernel
theorem dL_law_310 : decode cL_law 310 = .ok (.iload_n 3, 1) := by decide +kernel
theorem dL_law_311 : decode cL_law 311 = .ok (.iconst 3, 1) := by decide +kernel
theorem dL_law_312 : decode cL_law 312 = .ok (.iadd, 1) := by decide +kernel
theorem dL_law_313 : decode cL_law 313 = .ok (.iaload, 1) := by decide +kernel
theorem dL_law_314 : decode cL_law 314 = .ok (.invokevirtual 30, 3) := by decide +kernel
theorem dL_law_317 : decode cL_law 317 = .ok (.if_icmp .eq 857, 3) := by decide +kernel
theorem dL_law_320 : decode cL_law 320 = .ok (.iconst 0, 1) := by decide +kernel
theorem dL_law_321 : decode cL_law 321 = .ok (.ireturn, 1) := by decide +kernel
theorem dL_law_322 : decode cL_law 322 = .ok (.aload_n 1, 1) := by decide +kernel
theorem dL_law_323 : decode cL_law 323 = .ok (.aload_n 0, 1) := by decide +kernel
theorem dL_law_324 : decode cL_law 324 = .ok (.iload_n 3, 1) := by decide +kernel
theorem dL_law_325 : decode cL_law 325 = .ok (.iconst 1, 1) := by decide +kernel
theorem dL_law_326 : decode cL_law 326 = .ok (.iadd, 1) := by decide +kernel
theorem dL_law_327 : decode cL_law 327 = .ok (.iaload, 1) := by decide +kernel
theorem dL_law_328 : decode cL_law 328 = .ok (.aload_n 0, 1) := by decide +kernel
theorem dL_law_329 : decode cL_law 329 = .ok (.iload_n 3, 1) := by decide +kernel
theorem dL_law_330 : decode cL_law 330 = .ok (.iconst 2, 1) := by decide +kernel
theorem dL_law_331 : decode cL_law 331 = .ok (.iadd, 1) := by decide +kernel
theorem dL_law_332 : decode cL_law 332 = .ok (.iaload, 1) := by decide +kernel
theorem dL_law_333 : decode cL_law 333 = .ok (.invokevirtual 31, 3) := by decide +kernel
theorem dL_law_336 : decode cL_law 336 = .ok (.aload_n 2, 1) := by decide +kernel
theorem dL_law_337 : decode cL_law 337 = .ok (.aload_n 0, 1) := by decide +kernel
theorem dL_law_338 : decode cL_law 338 = .ok (.iload_n 3, 1) := by decide +kernel
theorem dL_law_339 : decode cL_law 339 = .ok (.iconst 1, 1) := by decide +kernel
theorem dL_law_340 : decode cL_law 340 = .ok (.iadd, 1) := by decide +kernel
theorem dL_law_341 : decode cL_law 341 = .ok (.iaload, 1) := by decide +kernel
theorem dL_law_342 : decode cL_law 342 = .ok (.aload_n 0, 1) := by decide +kernel
theorem dL_law_343 : decode cL_law 343 = .ok (.iload_n 3, 1) := by decide +kernel
theorem dL_law_344 : decode cL_law 344 = .ok (.iconst 2, 1) := by decide +kernel
theorem dL_law_345 : decode cL_law 345 = .ok (.iadd, 1) := by decide +kernel
theorem dL_law_346 : decode cL_law 346 = .ok (.iaload, 1) := by decide +kernel
theorem dL_law_347 : decode cL_law 347 = .ok (.invokevirtual 34, 3) := by decide +kernel
theorem dL_law_350 : decode cL_law 350 = .ok (.if_icmp .eq 824, 3) := by decide +kernel
theorem dL_law_353 : decode cL_law 353 = .ok (.iconst 0, 1) := by decide +kernel
theorem dL_law_354 : decode cL_law 354 = .ok (.ireturn, 1) := by decide +kernel
theorem dL_law_355 : decode cL_law 355 = .ok (.aload_n 1, 1) := by decide +kernel
theorem dL_law_356 : decode cL_law 356 = .ok (.aload_n 0, 1) := by decide +kernel
theorem dL_law_357 : decode cL_law 357 = .ok (.iload_n 3, 1) := by decide +kernel
theorem dL_law_358 : decode cL_law 358 = .ok (.iconst 1, 1) := by decide +kernel
theorem dL_law_359 : decode cL_law 359 = .ok (.iadd, 1) := by decide +kernel
theorem dL_law_360 : decode cL_law 360 = .ok (.iaload, 1) := by decide +kernel
theorem dL_law_361 : decode cL_law 361 = .ok (.aload_n 0, 1) := by decide +kernel
theorem dL_law_362 : decode cL_law 362 = .ok (.iload_n 3, 1) := by decide +kernel
theorem dL_law_363 : decode cL_law 363 = .ok (.iconst 2, 1) := by decide +kernel
theorem dL_law_364 : decode cL_law 364 = .ok (.iadd, 1) := by decide +kernel
theorem dL_law_365 : decode cL_law 365 = .ok (.iaload, 1) := by decide +kernel
theorem dL_law_366 : decode cL_law 366 = .ok (.invokevirtual 35, 3) := by decide +kernel
theorem dL_law_369 : decode cL_law 369 = .ok (.aload_n 2, 1) := by decide +kernel
theorem dL_law_370 : decode cL_law 370 = .ok (.aload_n 0, 1) := by decide +kernel
theorem dL_law_371 : decode cL_law 371 = .ok (.iload_n 3, 1) := by decide +kernel
theorem dL_law_372 : decode cL_law 372 = .ok (.iconst 1, 1) := by decide +kernel
theorem dL_law_373 : decode cL_law 373 = .ok (.iadd, 1) := by decide +kernel
theorem dL_law_374 : decode cL_law 374 = .ok (.iaload, 1) := by decide +kernel
theorem dL_law_375 : decode cL_law 375 = .ok (.aload_n 0, 1) := by decide +kernel
theorem dL_law_376 : decode cL_law 376 = .ok (.iload_n 3, 1) := by decide +kernel
theorem dL_law_377 : decode cL_law 377 = .ok (.iconst 2, 1) := by decide +kernel
theorem dL_law_378 : decode cL_law 378 = .ok (.iadd, 1) := by decide +kernel
theorem dL_law_379 : decode cL_law 379 = .ok (.iaload, 1) := by decide +kernel
theorem dL_law_380 : decode cL_law 380 = .ok (.invokevirtual 38, 3) := by decide +kernel
theorem dL_law_383 : decode cL_law 383 = .ok (.if_icmp .eq 791, 3) := by decide +kernel
theorem dL_law_386 : decode cL_law 386 = .ok (.iconst 0, 1) := by decide +kernel
theorem dL_law_387 : decode cL_law 387 = .ok (.ireturn, 1) := by decide +kernel
theorem dL_law_388 : decode cL_law 388 = .ok (.aload_n 1, 1) := by decide +kernel
theorem dL_law_389 : decode cL_law 389 = .ok (.aload_n 0, 1) := by decide +kernel
theorem dL_law_390 : decode cL_law 390 = .ok (.iload_n 3, 1) := by decide +kernel
theorem dL_law_391 : decode cL_law 391 = .ok (.iconst 1, 1) := by decide +kernel
theorem dL_law_392 : decode cL_law 392 = .ok (.iadd, 1) := by decide +kernel
theorem dL_law_393 : decode cL_law 393 = .ok (.iaload, 1) := by decide +kernel
theorem dL_law_394 : decode cL_law 394 = .ok (.i2l, 1) := by decide +kernel
theorem dL_law_395 : decode cL_law 395 = .ok (.bipush 32, 2) := by decide +kernel
theorem dL_law_397 : decode cL_law 397 = .ok (.lshl, 1) := by decide +kernel
theorem dL_law_398 : decode cL_law 398 = .ok (.aload_n 0, 1) := by decide +kernel
theorem dL_law_399 : decode cL_law 399 = .ok (.iload_n 3, 1) := by decide +kernel
theorem dL_law_400 : decode cL_law 400 = .ok (.iconst 2, 1) := by decide +kernel
theorem dL_law_401 : decode cL_law 401 = .ok (.iadd, 1) := by decide +kernel
theorem dL_law_402 : decode cL_law 402 = .ok (.iaload, 1) := by decide +kernel
theorem dL_law_403 : decode cL_law 403 = .ok (.i2l, 1) := by decide +kernel
theorem dL_law_404 : decode cL_law 404 = .ok (.ldc2_w 39, 3) := by decide +kernel
theorem dL_law_407 : decode cL_law 407 = .ok (.land, 1) := by decide +kernel
theorem dL_law_408 : decode cL_law 408 = .ok (.lor, 1) := by decide +kernel
theorem dL_law_409 : decode cL_law 409 = .ok (.aload_n 0, 1) := by decide +kernel
theorem dL_law_410 : decode cL_law 410 = .ok (.iload_n 3, 1) := by decide +kernel
theorem dL_law_411 : decode cL_law 411 = .ok (.iconst 3, 1) := by decide +kernel
theorem dL_law_412 : decode cL_law 412 = .ok (.iadd, 1) := by decide +kernel
theorem dL_law_413 : decode cL_law 413 = .ok (.iaload, 1) := by decide +kernel
theorem dL_law_414 : decode cL_law 414 = .ok (.invokevirtual 41, 3) := by decide +kernel
theorem dL_law_417 : decode cL_law 417 = .ok (.aload_n 2, 1) := by decide +kernel
theorem dL_law_418 : decode cL_law 418 = .ok (.aload_n 0, 1) := by decide +kernel
theorem dL_law_419 : decode cL_law 419 = .ok (.iload_n 3, 1) := by decide +kernel
theorem dL_law_420 : decode cL_law 420 = .ok (.iconst 1, 1) := by decide +kernel
theorem dL_law_421 : decode cL_law 421 = .ok (.iadd, 1) := by decide +kernel
theorem dL_law_422 : decode cL_law 422 = .ok (.iaload, 1) := by decide +kernel
theorem dL_law_423 : decode cL_law 423 = .ok (.i2l, 1) := by decide +kernel
theorem dL_law_424 : decode cL_law 424 = .ok (.bipush 32, 2) := by decide +kernel
theorem dL_law_426 : decode cL_law 426 = .ok (.lshl, 1) := by decide +kernel
theorem dL_law_427 : decode cL_law 427 = .ok (.aload_n 0, 1) := by decide +kernel
theorem dL_law_428 : decode cL_law 428 = .ok (.iload_n 3, 1) := by decide +kernel
theorem dL_law_429 : decode cL_law 429 = .ok (.iconst 2, 1) := by decide +kernel
theorem dL_law_430 : decode cL_law 430 = .ok (.iadd, 1) := by decide +kernel
theorem dL_law_431 : decode cL_law 431 = .ok (.iaload, 1) := by decide +kernel
theorem dL_law_432 : decode cL_law 432 = .ok (.i2l, 1) := by decide +kernel
theorem dL_law_433 : decode cL_law 433 = .ok (.ldc2_w 39, 3) := by decide +kernel
theorem dL_law_436 : decode cL_law 436 = .ok (.land, 1) := by decide +kernel
theorem dL_law_437 : decode cL_law 437 = .ok (.lor, 1) := by decide +kernel
theorem dL_law_438 : decode cL_law 438 = .ok (.aload_n 0, 1) := by decide +kernel
theorem dL_law_439 : decode cL_law 439 = .ok (.iload_n 3, 1) := by decide +kernel
theorem dL_law_440 : decode cL_law 440 = .ok (.iconst 3, 1) := by decide +kernel
theorem dL_law_441 : decode cL_law 441 = .ok (.iadd, 1) := by decide +kernel
theorem dL_law_442 : decode cL_law 442 = .ok (.iaload, 1) := by decide +kernel
theorem dL_law_443 : decode cL_law 443 = .ok (.invokevirtual 45, 3) := by decide +kernel
theorem dL_law_446 : decode cL_law 446 = .ok (.if_icmp .eq 728, 3) := by decide +kernel
theorem dL_law_449 : decode cL_law 449 = .ok (.iconst 0, 1) := by decide +kernel
theorem dL_law_450 : decode cL_law 450 = .ok (.ireturn, 1) := by decide +kernel
theorem dL_law_451 : decode cL_law 451 = .ok (.aload_n 1, 1) := by decide +kernel
theorem dL_law_452 : decode cL_law 452 = .ok (.aload_n 0, 1) := by decide +kernel
theorem dL_law_453 : decode cL_law 453 = .ok (.iload_n 3, 1) := by decide +kernel
theorem dL_law_454 : decode cL_law 454 = .ok (.iconst 1, 1) := by decide +kernel
theorem dL_law_455 : decode cL_law 455 = .ok (.iadd, 1) := by decide +kernel
theorem dL_law_456 : decode cL_law 456 = .ok (.iaload, 1) := by decide +kernel
theorem dL_law_457 : decode cL_law 457 = .ok (.invokevirtual 46, 3) := by decide +kernel
theorem dL_law_460 : decode cL_law 460 = .ok (.aload_n 2, 1) := by decide +kernel
theorem dL_law_461 : decode cL_law 461 = .ok (.aload_n 0, 1) := by decide +kernel
theorem dL_law_462 : decode cL_law 462 = .ok (.iload_n 3, 1) := by decide +kernel
theorem dL_law_463 : decode cL_law 463 = .ok (.iconst 1, 1) := by decide +kernel
theorem dL_law_464 : decode cL_law 464 = .ok (.iadd, 1) := by decide +kernel
theorem dL_law_465 : decode cL_law 465 = .ok (.iaload, 1) := by decide +kernel
theorem dL_law_466 : decode cL_law 466 = .ok (.invokevirtual 50, 3) := by decide +kernel
theorem dL_law_469 : decode cL_law 469 = .ok (.if_icmp .eq 705, 3) := by decide +kernel
theorem dL_law_472 : decode cL_law 472 = .ok (.iconst 0, 1) := by decide +kernel
theorem dL_law_473 : decode cL_law 473 = .ok (.ireturn, 1) := by decide +kernel
theorem dL_law_474 : decode cL_law 474 = .ok (.aload_n 1, 1) := by decide +kernel
theorem dL_law_475 : decode cL_law 475 = .ok (.aload_n 0, 1) := by decide +kernel
theorem dL_law_476 : decode cL_law 476 = .ok (.iload_n 3, 1) := by decide +kernel
theorem dL_law_477 : decode cL_law 477 = .ok (.iconst 1, 1) := by decide +kernel
theorem dL_law_478 : decode cL_law 478 = .ok (.iadd, 1) := by decide +kernel
theorem dL_law_479 : decode cL_law 479 = .ok (.iaload, 1) := by decide +kernel
theorem dL_law_480 : decode cL_law 480 = .ok (.invokevirtual 51, 3) := by decide +kernel
theorem dL_law_483 : decode cL_law 483 = .ok (.aload_n 2, 1) := by decide +kernel
theorem dL_law_484 : decode cL_law 484 = .ok (.aload_n 0, 1) := by decide +kernel
theorem dL_law_485 : decode cL_law 485 = .ok (.iload_n 3, 1) := by decide +kernel
theorem dL_law_486 : decode cL_law 486 = .ok (.iconst 1, 1) := by decide +kernel
theorem dL_law_487 : decode cL_law 487 = .ok (.iadd, 1) := by decide +kernel
theorem dL_law_488 : decode cL_law 488 = .ok (.iaload, 1) := by decide +kernel
theorem dL_law_489 : decode cL_law 489 = .ok (.invokevirtual 54, 3) := by decide +kernel
theorem dL_law_492 : decode cL_law 492 = .ok (.if_icmp .eq 682, 3) := by decide +kernel
theorem dL_law_495 : decode cL_law 495 = .ok (.iconst 0, 1) := by decide +kernel
theorem dL_law_496 : decode cL_law 496 = .ok (.ireturn, 1) := by decide +kernel
theorem dL_law_497 : decode cL_law 497 = .ok (.aload_n 1, 1) := by decide +kernel
theorem dL_law_498 : decode cL_law 498 = .ok (.aload_n 0, 1) := by decide +kernel
theorem dL_law_499 : decode cL_law 499 = .ok (.iload_n 3, 1) := by decide +kernel
theorem dL_law_500 : decode cL_law 500 = .ok (.iconst 1, 1) := by decide +kernel
theorem dL_law_501 : decode cL_law 501 = .ok (.iadd, 1) := by decide +kernel
theorem dL_law_502 : decode cL_law 502 = .ok (.iaload, 1) := by decide +kernel
theorem dL_law_503 : decode cL_law 503 = .ok (.aload_n 0, 1) := by decide +kernel
theorem dL_law_504 : decode cL_law 504 = .ok (.iload_n 3, 1) := by decide +kernel
theorem dL_law_505 : decode cL_law 505 = .ok (.iconst 2, 1) := by decide +kernel
theorem dL_law_506 : decode cL_law 506 = .ok (.iadd, 1) := by decide +kernel
theorem dL_law_507 : decode cL_law 507 = .ok (.iaload, 1) := by decide +kernel
theorem dL_law_508 : decode cL_law 508 = .ok (.aload_n 0, 1) := by decide +kernel
theorem dL_law_509 : decode cL_law 509 = .ok (.iload_n 3, 1) := by decide +kernel
theorem dL_law_510 : decode cL_law 510 = .ok (.iconst 3, 1) := by decide +kernel
theorem dL_law_511 : decode cL_law 511 = .ok (.iadd, 1) := by decide +kernel
theorem dL_law_512 : decode cL_law 512 = .ok (.iaload, 1) := by decide +kernel
theorem dL_law_513 : decode cL_law 513 = .ok (.aload_n 0, 1) := by decide +kernel
theorem dL_law_514 : decode cL_law 514 = .ok (.iload_n 3, 1) := by decide +kernel
theorem dL_law_515 : decode cL_law 515 = .ok (.iconst 4, 1) := by decide +kernel
theorem dL_law_516 : decode cL_law 516 = .ok (.iadd, 1) := by decide +kernel
theorem dL_law_517 : decode cL_law 517 = .ok (.iaload, 1) := by decide +kernel
theorem dL_law_518 : decode cL_law 518 = .ok (.aload_n 0, 1) := by decide +kernel
theorem dL_law_519 : decode cL_law 519 = .ok (.iload_n 3, 1) := by decide +kernel
theorem dL_law_520 : decode cL_law 520 = .ok (.iconst 5, 1) := by decide +kernel
theorem dL_law_521 : decode cL_law 521 = .ok (.iadd, 1) := by decide +kernel
theorem dL_law_522 : decode cL_law 522 = .ok (.iaload, 1) := by decide +kernel
theorem dL_law_523 : decode cL_law 523 = .ok (.invokevirtual 55, 3) := by decide +kernel
theorem dL_law_526 : decode cL_law 526 = .ok (.aload_n 2, 1) := by decide +kernel
theorem dL_law_527 : decode cL_law 527 = .ok (.aload_n 0, 1) := by decide +kernel
theorem dL_law_528 : decode cL_law 528 = .ok (.iload_n 3, 1) := by decide +kernel
theorem dL_law_529 : decode cL_law 529 = .ok (.iconst 1, 1) := by decide +kernel
theorem dL_law_530 : decode cL_law 530 = .ok (.iadd, 1) := by decide +kernel
theorem dL_law_531 : decode cL_law 531 = .ok (.iaload, 1) := by decide +kernel
theorem dL_law_532 : decode cL_law 532 = .ok (.aload_n 0, 1) := by decide +kernel
theorem dL_law_533 : decode cL_law 533 = .ok (.iload_n 3, 1) := by decide +kernel
theorem dL_law_534 : decode cL_law 534 = .ok (.iconst 2, 1) := by decide +kernel
theorem dL_law_535 : decode cL_law 535 = .ok (.iadd, 1) := by decide +kernel
theorem dL_law_536 : decode cL_law 536 = .ok (.iaload, 1) := by decide +kernel
theorem dL_law_537 : decode cL_law 537 = .ok (.aload_n 0, 1) := by decide +kernel
theorem dL_law_538 : decode cL_law 538 = .ok (.iload_n 3, 1) := by decide +kernel
theorem dL_law_539 : decode cL_law 539 = .ok (.iconst 3, 1) := by decide +kernel
theorem dL_law_540 : decode cL_law 540 = .ok (.iadd, 1) := by decide +kernel
theorem dL_law_541 : decode cL_law 541 = .ok (.iaload, 1) := by decide +kernel
theorem dL_law_542 : decode cL_law 542 = .ok (.aload_n 0, 1) := by decide +kernel
theorem dL_law_543 : decode cL_law 543 = .ok (.iload_n 3, 1) := by decide +kernel
theorem dL_law_544 : decode cL_law 544 = .ok (.iconst 4, 1) := by decide +kernel
theorem dL_law_545 : decode cL_law 545 = .ok (.iadd, 1) := by decide +kernel
theorem dL_law_546 : decode cL_law 546 = .ok (.iaload, 1) := by decide +kernel
theorem dL_law_547 : decode cL_law 547 = .ok (.aload_n 0, 1) := by decide +kernel
theorem dL_law_548 : decode cL_law 548 = .ok (.iload_n 3, 1) := by decide +kernel
theorem dL_law_549 : decode cL_law 549 = .ok (.iconst 5, 1) := by decide +kernel
theorem dL_law_550 : decode cL_law 550 = .ok (.iadd, 1) := by decide +kernel
theorem dL_law_551 : decode cL_law 551 = .ok (.iaload, 1) := by decide +kernel
theorem dL_law_552 : decode cL_law 552 = .ok (.invokevirtual 59, 3) := by decide +kernel
theorem dL_law_555 : decode cL_law 555 = .ok (.if_icmp .eq 619, 3) := by decide +kernel
theorem dL_law_558 : decode cL_law 558 = .ok (.iconst 0, 1) := by decide +kernel
theorem dL_law_559 : decode cL_law 559 = .ok (.ireturn, 1) := by decide +kernel
theorem dL_law_560 : decode cL_law 560 = .ok (.aload_n 1, 1) := by decide +kernel
theorem dL_law_561 : decode cL_law 561 = .ok (.aload_n 0, 1) := by decide +kernel
theorem dL_law_562 : decode cL_law 562 = .ok (.iload_n 3, 1) := by decide +kernel
theorem dL_law_563 : decode cL_law 563 = .ok (.iconst 1, 1) := by decide +kernel
theorem dL_law_564 : decode cL_law 564 = .ok (.iadd, 1) := by decide +kernel
theorem dL_law_565 : decode cL_law 565 = .ok (.iaload, 1) := by decide +kernel
theorem dL_law_566 : decode cL_law 566 = .ok (.aload_n 0, 1) := by decide +kernel
theorem dL_law_567 : decode cL_law 567 = .ok (.iload_n 3, 1) := by decide +kernel
theorem dL_law_568 : decode cL_law 568 = .ok (.iconst 2, 1) := by decide +kernel
theorem dL_law_569 : decode cL_law 569 = .ok (.iadd, 1) := by decide +kernel
theorem dL_law_570 : decode cL_law 570 = .ok (.iaload, 1) := by decide +kernel
theorem dL_law_571 : decode cL_law 571 = .ok (.invokevirtual 60, 3) := by decide +kernel
theorem dL_law_574 : decode cL_law 574 = .ok (.aload_n 2, 1) := by decide +kernel
theorem dL_law_575 : decode cL_law 575 = .ok (.aload_n 0, 1) := by decide +kernel
theorem dL_law_576 : decode cL_law 576 = .ok (.iload_n 3, 1) := by decide +kernel
theorem dL_law_577 : decode cL_law 577 = .ok (.iconst 1, 1) := by decide +kernel
theorem dL_law_578 : decode cL_law 578 = .ok (.iadd, 1) := by decide +kernel
theorem dL_law_579 : decode cL_law 579 = .ok (.iaload, 1) := by decide +kernel
theorem dL_law_580 : decode cL_law 580 = .ok (.aload_n 0, 1) := by decide +kernel
theorem dL_law_581 : decode cL_law 581 = .ok (.iload_n 3, 1) := by decide +kernel
theorem dL_law_582 : decode cL_law 582 = .ok (.iconst 2, 1) := by decide +kernel
theorem dL_law_583 : decode cL_law 583 = .ok (.iadd, 1) := by decide +kernel
theorem dL_law_584 : decode cL_law 584 = .ok (.iaload, 1) := by decide +kernel
theorem dL_law_585 : decode cL_law 585 = .ok (.invokevirtual 63, 3) := by decide +kernel
theorem dL_law_588 : decode cL_law 588 = .ok (.if_icmp .eq 586, 3) := by decide +kernel
theorem dL_law_591 : decode cL_law 591 = .ok (.iconst 0, 1) := by decide +kernel
theorem dL_law_592 : decode cL_law 592 = .ok (.ireturn, 1) := by decide +kernel
theorem dL_law_593 : decode cL_law 593 = .ok (.aload_n 1, 1) := by decide +kernel
theorem dL_law_594 : decode cL_law 594 = .ok (.aload_n 0, 1) := by decide +kernel
theorem dL_law_595 : decode cL_law 595 = .ok (.iload_n 3, 1) := by decide +kernel
theorem dL_law_596 : decode cL_law 596 = .ok (.iconst 1, 1) := by decide +kernel
theorem dL_law_597 : decode cL_law 597 = .ok (.iadd, 1) := by decide +kernel
theorem dL_law_598 : decode cL_law 598 = .ok (.iaload, 1) := by decide +kernel
theorem dL_law_599 : decode cL_law 599 = .ok (.invokevirtual 64, 3) := by decide +kernel
theorem dL_law_602 : decode cL_law 602 = .ok (.aload_n 2, 1) := by decide +kernel
theorem dL_law_603 : decode cL_law 603 = .ok (.aload_n 0, 1) := by decide +kernel
theorem dL_law_604 : decode cL_law 604 = .ok (.iload_n 3, 1) := by decide +kernel
theorem dL_law_605 : decode cL_law 605 = .ok (.iconst 1, 1) := by decide +kernel
theorem dL_law_606 : decode cL_law 606 = .ok (.iadd, 1) := by decide +kernel
theorem dL_law_607 : decode cL_law 607 = .ok (.iaload, 1) := by decide +kernel
theorem dL_law_608 : decode cL_law 608 = .ok (.invokevirtual 67, 3) := by decide +kernel
theorem dL_law_611 : decode cL_law 611 = .ok (.if_icmp .eq 563, 3) := by decide +kernel
theorem dL_law_614 : decode cL_law 614 = .ok (.iconst 0, 1) := by decide +kernel
theorem dL_law_615 : decode cL_law 615 = .ok (.ireturn, 1) := by decide +kernel
theorem dL_law_616 : decode cL_law 616 = .ok (.aload_n 1, 1) := by decide +kernel
theorem dL_law_617 : decode cL_law 617 = .ok (.aload_n 0, 1) := by decide +kernel
theorem dL_law_618 : decode cL_law 618 = .ok (.iload_n 3, 1) := by decide +kernel
theorem dL_law_619 : decode cL_law 619 = .ok (.iconst 1, 1) := by decide +kernel
theorem dL_law_620 : decode cL_law 620 = .ok (.iadd, 1) := by decide +kernel
theorem dL_law_621 : decode cL_law 621 = .ok (.iaload, 1) := by decide +kernel
theorem dL_law_622 : decode cL_law 622 = .ok (.aload_n 0, 1) := by decide +kernel
theorem dL_law_623 : decode cL_law 623 = .ok (.iload_n 3, 1) := by decide +kernel
theorem dL_law_624 : decode cL_law 624 = .ok (.iconst 2, 1) := by decide +kernel
theorem dL_law_625 : decode cL_law 625 = .ok (.iadd, 1) := by decide +kernel
theorem dL_law_626 : decode cL_law 626 = .ok (.iaload, 1) := by decide +kernel
theorem dL_law_627 : decode cL_law 627 = .ok (.invokevirtual 68, 3) := by decide +kernel
theorem dL_law_630 : decode cL_law 630 = .ok (.aload_n 2, 1) := by decide +kernel
theorem dL_law_631 : decode cL_law 631 = .ok (.aload_n 0, 1) := by decide +kernel
theorem dL_law_632 : decode cL_law 632 = .ok (.iload_n 3, 1) := by decide +kernel
theorem dL_law_633 : decode cL_law 633 = .ok (.iconst 1, 1) := by decide +kernel
theorem dL_law_634 : decode cL_law 634 = .ok (.iadd, 1) := by decide +kernel
theorem dL_law_635 : decode cL_law 635 = .ok (.iaload, 1) := by decide +kernel
theorem dL_law_636 : decode cL_law 636 = .ok (.aload_n 0, 1) := by decide +kernel
theorem dL_law_637 : decode cL_law 637 = .ok (.iload_n 3, 1) := by decide +kernel
theorem dL_law_638 : decode cL_law 638 = .ok (.iconst 2, 1) := by decide +kernel
theorem dL_law_639 : decode cL_law 639 = .ok (.iadd, 1) := by decide +kernel
theorem dL_law_640 : decode cL_law 640 = .ok (.iaload, 1) := by decide +kernel
theorem dL_law_641 : decode cL_law 641 = .ok (.invokevirtual 71, 3) := by decide +kernel
theorem dL_law_644 : decode cL_law 644 = .ok (.if_icmp .eq 530, 3) := by decide +kernel
theorem dL_law_647 : decode cL_law 647 = .ok (.iconst 0, 1) := by decide +kernel
theorem dL_law_648 : decode cL_law 648 = .ok (.ireturn, 1) := by decide +kernel
theorem dL_law_649 : decode cL_law 649 = .ok (.aload_n 1, 1) := by decide +kernel
theorem dL_law_650 : decode cL_law 650 = .ok (.aload_n 0, 1) := by decide +kernel
theorem dL_law_651 : decode cL_law 651 = .ok (.iload_n 3, 1) := by decide +kernel
theorem dL_law_652 : decode cL_law 652 = .ok (.iconst 1, 1) := by decide +kernel
theorem dL_law_653 : decode cL_law 653 = .ok (.iadd, 1) := by decide +kernel
theorem dL_law_654 : decode cL_law 654 = .ok (.iaload, 1) := by decide +kernel
theorem dL_law_655 : decode cL_law 655 = .ok (.aload_n 0, 1) := by decide +kernel
theorem dL_law_656 : decode cL_law 656 = .ok (.iload_n 3, 1) := by decide +kernel
theorem dL_law_657 : decode cL_law 657 = .ok (.iconst 2, 1) := by decide +kernel
theorem dL_law_658 : decode cL_law 658 = .ok (.iadd, 1) := by decide +kernel
theorem dL_law_659 : decode cL_law 659 = .ok (.iaload, 1) := by decide +kernel
theorem dL_law_660 : decode cL_law 660 = .ok (.aload_n 0, 1) := by decide +kernel
theorem dL_law_661 : decode cL_law 661 = .ok (.iload_n 3, 1) := by decide +kernel
theorem dL_law_662 : decode cL_law 662 = .ok (.iconst 3, 1) := by decide +kernel
theorem dL_law_663 : decode cL_law 663 = .ok (.iadd, 1) := by decide +kernel
theorem dL_law_664 : decode cL_law 664 = .ok (.iaload, 1) := by decide +kernel
theorem dL_law_665 : decode cL_law 665 = .ok (.invokevirtual 72, 3) := by decide +kernel
theorem dL_law_668 : decode cL_law 668 = .ok (.aload_n 2, 1) := by decide +kernel
theorem dL_law_669 : decode cL_law 669 = .ok (.aload_n 0, 1) := by decide +kernel
theorem dL_law_670 : decode cL_law 670 = .ok (.iload_n 3, 1) := by decide +kernel
theorem dL_law_671 : decode cL_law 671 = .ok (.iconst 1, 1) := by decide +kernel
theorem dL_law_672 : decode cL_law 672 = .ok (.iadd, 1) := by decide +kernel
theorem dL_law_673 : decode cL_law 673 = .ok (.iaload, 1) := by decide +kernel
theorem dL_law_674 : decode cL_law 674 = .ok (.aload_n 0, 1) := by decide +kernel
theorem dL_law_675 : decode cL_law 675 = .ok (.iload_n 3, 1) := by decide +kernel
theorem dL_law_676 : decode cL_law 676 = .ok (.iconst 2, 1) := by decide +kernel
theorem dL_law_677 : decode cL_law 677 = .ok (.iadd, 1) := by decide +kernel
theorem dL_law_678 : decode cL_law 678 = .ok (.iaload, 1) := by decide +kernel
theorem dL_law_679 : decode cL_law 679 = .ok (.aload_n 0, 1) := by decide +kernel
theorem dL_law_680 : decode cL_law 680 = .ok (.iload_n 3, 1) := by decide +kernel
theorem dL_law_681 : decode cL_law 681 = .ok (.iconst 3, 1) := by decide +kernel
theorem dL_law_682 : decode cL_law 682 = .ok (.iadd, 1) := by decide +kernel
theorem dL_law_683 : decode cL_law 683 = .ok (.iaload, 1) := by decide +kernel
theorem dL_law_684 : decode cL_law 684 = .ok (.invokevirtual 75, 3) := by decide +kernel
theorem dL_law_687 : decode cL_law 687 = .ok (.if_icmp .eq 487, 3) := by decide +kernel
theorem dL_law_690 : decode cL_law 690 = .ok (.iconst 0, 1) := by decide +kernel
theorem dL_law_691 : decode cL_law 691 = .ok (.ireturn, 1) := by decide +kernel
theorem dL_law_692 : decode cL_law 692 = .ok (.aload_n 1, 1) := by decide +kernel
theorem dL_law_693 : decode cL_law 693 = .ok (.aload_n 0, 1) := by decide +kernel
theorem dL_law_694 : decode cL_law 694 = .ok (.iload_n 3, 1) := by decide +kernel
theorem dL_law_695 : decode cL_law 695 = .ok (.iconst 1, 1) := by decide +kernel
theorem dL_law_696 : decode cL_law 696 = .ok (.iadd, 1) := by decide +kernel
theorem dL_law_697 : decode cL_law 697 = .ok (.iaload, 1) := by decide +kernel
theorem dL_law_698 : decode cL_law 698 = .ok (.invokevirtual 76, 3) := by decide +kernel
theorem dL_law_701 : decode cL_law 701 = .ok (.aload_n 2, 1) := by decide +kernel
theorem dL_law_702 : decode cL_law 702 = .ok (.aload_n 0, 1) := by decide +kernel
theorem dL_law_703 : decode cL_law 703 = .ok (.iload_n 3, 1) := by decide +kernel
theorem dL_law_704 : decode cL_law 704 = .ok (.iconst 1, 1) := by decide +kernel
theorem dL_law_705 : decode cL_law 705 = .ok (.iadd, 1) := by decide +kernel
theorem dL_law_706 : decode cL_law 706 = .ok (.iaload, 1) := by decide +kernel
theorem dL_law_707 : decode cL_law 707 = .ok (.invokevirtual 79, 3) := by decide +kernel
theorem dL_law_710 : decode cL_law 710 = .ok (.if_icmp .eq 464, 3) := by decide +kernel
theorem dL_law_713 : decode cL_law 713 = .ok (.iconst 0, 1) := by decide +kernel
theorem dL_law_714 : decode cL_law 714 = .ok (.ireturn, 1) := by decide +kernel
theorem dL_law_715 : decode cL_law 715 = .ok (.aload_n 1, 1) := by decide +kernel
theorem dL_law_716 : decode cL_law 716 = .ok (.aload_n 0, 1) := by decide +kernel
theorem dL_law_717 : decode cL_law 717 = .ok (.iload_n 3, 1) := by decide +kernel
theorem dL_law_718 : decode cL_law 718 = .ok (.iconst 1, 1) := by decide +kernel
theorem dL_law_719 : decode cL_law 719 = .ok (.iadd, 1) := by decide +kernel
theorem dL_law_720 : decode cL_law 720 = .ok (.iaload, 1) := by decide +kernel
theorem dL_law_721 : decode cL_law 721 = .ok (.invokevirtual 80, 3) := by decide +kernel
theorem dL_law_724 : decode cL_law 724 = .ok (.aload_n 2, 1) := by decide +kernel
theorem dL_law_725 : decode cL_law 725 = .ok (.aload_n 0, 1) := by decide +kernel
theorem dL_law_726 : decode cL_law 726 = .ok (.iload_n 3, 1) := by decide +kernel
theorem dL_law_727 : decode cL_law 727 = .ok (.iconst 1, 1) := by decide +kernel
theorem dL_law_728 : decode cL_law 728 = .ok (.iadd, 1) := by decide +kernel
theorem dL_law_729 : decode cL_law 729 = .ok (.iaload, 1) := by decide +kernel
theorem dL_law_730 : decode cL_law 730 = .ok (.invokevirtual 83, 3) := by decide +kernel
theorem dL_law_733 : decode cL_law 733 = .ok (.if_icmp .eq 441, 3) := by decide +kernel
theorem dL_law_736 : decode cL_law 736 = .ok (.iconst 0, 1) := by decide +kernel
theorem dL_law_737 : decode cL_law 737 = .ok (.ireturn, 1) := by decide +kernel
theorem dL_law_738 : decode cL_law 738 = .ok (.aload_n 1, 1) := by decide +kernel
theorem dL_law_739 : decode cL_law 739 = .ok (.aload_n 0, 1) := by decide +kernel
theorem dL_law_740 : decode cL_law 740 = .ok (.iload_n 3, 1) := by decide +kernel
theorem dL_law_741 : decode cL_law 741 = .ok (.iconst 1, 1) := by decide +kernel
theorem dL_law_742 : decode cL_law 742 = .ok (.iadd, 1) := by decide +kernel
theorem dL_law_743 : decode cL_law 743 = .ok (.iaload, 1) := by decide +kernel
theorem dL_law_744 : decode cL_law 744 = .ok (.aload_n 0, 1) := by decide +kernel
theorem dL_law_745 : decode cL_law 745 = .ok (.iload_n 3, 1) := by decide +kernel
theorem dL_law_746 : decode cL_law 746 = .ok (.iconst 2, 1) := by decide +kernel
theorem dL_law_747 : decode cL_law 747 = .ok (.iadd, 1) := by decide +kernel
theorem dL_law_748 : decode cL_law 748 = .ok (.iaload, 1) := by decide +kernel
theorem dL_law_749 : decode cL_law 749 = .ok (.invokevirtual 84, 3) := by decide +kernel
theorem dL_law_752 : decode cL_law 752 = .ok (.aload_n 2, 1) := by decide +kernel
theorem dL_law_753 : decode cL_law 753 = .ok (.aload_n 0, 1) := by decide +kernel
theorem dL_law_754 : decode cL_law 754 = .ok (.iload_n 3, 1) := by decide +kernel
theorem dL_law_755 : decode cL_law 755 = .ok (.iconst 1, 1) := by decide +kernel
theorem dL_law_756 : decode cL_law 756 = .ok (.iadd, 1) := by decide +kernel
theorem dL_law_757 : decode cL_law 757 = .ok (.iaload, 1) := by decide +kernel
theorem dL_law_758 : decode cL_law 758 = .ok (.aload_n 0, 1) := by decide +kernel
theorem dL_law_759 : decode cL_law 759 = .ok (.iload_n 3, 1) := by decide +kernel
theorem dL_law_760 : decode cL_law 760 = .ok (.iconst 2, 1) := by decide +kernel
theorem dL_law_761 : decode cL_law 761 = .ok (.iadd, 1) := by decide +kernel
theorem dL_law_762 : decode cL_law 762 = .ok (.iaload, 1) := by decide +kernel
theorem dL_law_763 : decode cL_law 763 = .ok (.invokevirtual 87, 3) := by decide +kernel
theorem dL_law_766 : decode cL_law 766 = .ok (.if_icmp .eq 408, 3) := by decide +kernel
theorem dL_law_769 : decode cL_law 769 = .ok (.iconst 0, 1) := by decide +kernel
theorem dL_law_770 : decode cL_law 770 = .ok (.ireturn, 1) := by decide +kernel
theorem dL_law_771 : decode cL_law 771 = .ok (.aload_n 1, 1) := by decide +kernel
theorem dL_law_772 : decode cL_law 772 = .ok (.aload_n 0, 1) := by decide +kernel
theorem dL_law_773 : decode cL_law 773 = .ok (.iload_n 3, 1) := by decide +kernel
theorem dL_law_774 : decode cL_law 774 = .ok (.iconst 1, 1) := by decide +kernel
theorem dL_law_775 : decode cL_law 775 = .ok (.iadd, 1) := by decide +kernel
theorem dL_law_776 : decode cL_law 776 = .ok (.iaload, 1) := by decide +kernel
theorem dL_law_777 : decode cL_law 777 = .ok (.aload_n 0, 1) := by decide +kernel
theorem dL_law_778 : decode cL_law 778 = .ok (.iload_n 3, 1) := by decide +kernel
theorem dL_law_779 : decode cL_law 779 = .ok (.iconst 2, 1) := by decide +kernel
theorem dL_law_780 : decode cL_law 780 = .ok (.iadd, 1) := by decide +kernel
theorem dL_law_781 : decode cL_law 781 = .ok (.iaload, 1) := by decide +kernel
theorem dL_law_782 : decode cL_law 782 = .ok (.invokevirtual 88, 3) := by decide +kernel
theorem dL_law_785 : decode cL_law 785 = .ok (.aload_n 2, 1) := by decide +kernel
theorem dL_law_786 : decode cL_law 786 = .ok (.aload_n 0, 1) := by decide +kernel
theorem dL_law_787 : decode cL_law 787 = .ok (.iload_n 3, 1) := by decide +kernel
theorem dL_law_788 : decode cL_law 788 = .ok (.iconst 1, 1) := by decide +kernel
theorem dL_law_789 : decode cL_law 789 = .ok (.iadd, 1) := by decide +kernel
theorem dL_law_790 : decode cL_law 790 = .ok (.iaload, 1) := by decide +kernel
theorem dL_law_791 : decode cL_law 791 = .ok (.aload_n 0, 1) := by decide +kernel
theorem dL_law_792 : decode cL_law 792 = .ok (.iload_n 3, 1) := by decide +kernel
theorem dL_law_793 : decode cL_law 793 = .ok (.iconst 2, 1) := by decide +kernel
theorem dL_law_794 : decode cL_law 794 = .ok (.iadd, 1) := by decide +kernel
theorem dL_law_795 : decode cL_law 795 = .ok (.iaload, 1) := by decide +kernel
theorem dL_law_796 : decode cL_law 796 = .ok (.invokevirtual 91, 3) := by decide +kernel
theorem dL_law_799 : decode cL_law 799 = .ok (.if_icmp .eq 375, 3) := by decide +kernel
theorem dL_law_802 : decode cL_law 802 = .ok (.iconst 0, 1) := by decide +kernel
theorem dL_law_803 : decode cL_law 803 = .ok (.ireturn, 1) := by decide +kernel
theorem dL_law_804 : decode cL_law 804 = .ok (.aload_n 1, 1) := by decide +kernel
theorem dL_law_805 : decode cL_law 805 = .ok (.aload_n 0, 1) := by decide +kernel
theorem dL_law_806 : decode cL_law 806 = .ok (.iload_n 3, 1) := by decide +kernel
theorem dL_law_807 : decode cL_law 807 = .ok (.iconst 1, 1) := by decide +kernel
theorem dL_law_808 : decode cL_law 808 = .ok (.iadd, 1) := by decide +kernel
theorem dL_law_809 : decode cL_law 809 = .ok (.iaload, 1) := by decide +kernel
theorem dL_law_810 : decode cL_law 810 = .ok (.invokevirtual 92, 3) := by decide +kernel
theorem dL_law_813 : decode cL_law 813 = .ok (.aload_n 2, 1) := by decide +kernel
theorem dL_law_814 : decode cL_law 814 = .ok (.aload_n 0, 1) := by decide +kernel
theorem dL_law_815 : decode cL_law 815 = .ok (.iload_n 3, 1) := by decide +kernel
theorem dL_law_816 : decode cL_law 816 = .ok (.iconst 1, 1) := by decide +kernel
theorem dL_law_817 : decode cL_law 817 = .ok (.iadd, 1) := by decide +kernel
theorem dL_law_818 : decode cL_law 818 = .ok (.iaload, 1) := by decide +kernel
theorem dL_law_819 : decode cL_law 819 = .ok (.invokevirtual 95, 3) := by decide +kernel
theorem dL_law_822 : decode cL_law 822 = .ok (.if_icmp .eq 352, 3) := by decide +kernel
theorem dL_law_825 : decode cL_law 825 = .ok (.iconst 0, 1) := by decide +kernel
theorem dL_law_826 : decode cL_law 826 = .ok (.ireturn, 1) := by decide +kernel
theorem dL_law_827 : decode cL_law 827 = .ok (.aload_n 1, 1) := by decide +kernel
theorem dL_law_828 : decode cL_law 828 = .ok (.aload_n 0, 1) := by decide +kernel
theorem dL_law_829 : decode cL_law 829 = .ok (.iload_n 3, 1) := by decide +kernel
theorem dL_law_830 : decode cL_law 830 = .ok (.iconst 1, 1) := by decide +kernel
theorem dL_law_831 : decode cL_law 831 = .ok (.iadd, 1) := by decide +kernel
theorem dL_law_832 : decode cL_law 832 = .ok (.iaload, 1) := by decide +kernel
theorem dL_law_833 : decode cL_law 833 = .ok (.aload_n 0, 1) := by decide +kernel
theorem dL_law_834 : decode cL_law 834 = .ok (.iload_n 3, 1) := by decide +kernel
theorem dL_law_835 : decode cL_law 835 = .ok (.iconst 2, 1) := by decide +kernel
theorem dL_law_836 : decode cL_law 836 = .ok (.iadd, 1) := by decide +kernel
theorem dL_law_837 : decode cL_law 837 = .ok (.iaload, 1) := by decide +kernel
theorem dL_law_838 : decode cL_law 838 = .ok (.invokevirtual 96, 3) := by decide +kernel
theorem dL_law_841 : decode cL_law 841 = .ok (.aload_n 2, 1) := by decide +kernel
theorem dL_law_842 : decode cL_law 842 = .ok (.aload_n 0, 1) := by decide +kernel
theorem dL_law_843 : decode cL_law 843 = .ok (.iload_n 3, 1) := by decide +kernel
theorem dL_law_844 : decode cL_law 844 = .ok (.iconst 1, 1) := by decide +kernel
theorem dL_law_845 : decode cL_law 845 = .ok (.iadd, 1) := by decide +kernel
theorem dL_law_846 : decode cL_law 846 = .ok (.iaload, 1) := by decide +kernel
theorem dL_law_847 : decode cL_law 847 = .ok (.aload_n 0, 1) := by decide +kernel
theorem dL_law_848 : decode cL_law 848 = .ok (.iload_n 3, 1) := by decide +kernel
theorem dL_law_849 : decode cL_law 849 = .ok (.iconst 2, 1) := by decide +kernel
theorem dL_law_850 : decode cL_law 850 = .ok (.iadd, 1) := by decide +kernel
theorem dL_law_851 : decode cL_law 851 = .ok (.iaload, 1) := by decide +kernel
theorem dL_law_852 : decode cL_law 852 = .ok (.invokevirtual 99, 3) := by decide +kernel
theorem dL_law_855 : decode cL_law 855 = .ok (.if_icmp .eq 319, 3) := by decide +kernel
theorem dL_law_858 : decode cL_law 858 = .ok (.iconst 0, 1) := by decide +kernel
theorem dL_law_859 : decode cL_law 859 = .ok (.ireturn, 1) := by decide +kernel
theorem dL_law_860 : decode cL_law 860 = .ok (.aload_n 1, 1) := by decide +kernel
theorem dL_law_861 : decode cL_law 861 = .ok (.aload_n 0, 1) := by decide +kernel
theorem dL_law_862 : decode cL_law 862 = .ok (.iload_n 3, 1) := by decide +kernel
theorem dL_law_863 : decode cL_law 863 = .ok (.iconst 1, 1) := by decide +kernel
theorem dL_law_864 : decode cL_law 864 = .ok (.iadd, 1) := by decide +kernel
theorem dL_law_865 : decode cL_law 865 = .ok (.iaload, 1) := by decide +kernel
theorem dL_law_866 : decode cL_law 866 = .ok (.aload_n 0, 1) := by decide +kernel
theorem dL_law_867 : decode cL_law 867 = .ok (.iload_n 3, 1) := by decide +kernel
theorem dL_law_868 : decode cL_law 868 = .ok (.iconst 2, 1) := by decide +kernel
theorem dL_law_869 : decode cL_law 869 = .ok (.iadd, 1) := by decide +kernel
theorem dL_law_870 : decode cL_law 870 = .ok (.iaload, 1) := by decide +kernel
theorem dL_law_871 : decode cL_law 871 = .ok (.aload_n 0, 1) := by decide +kernel
theorem dL_law_872 : decode cL_law 872 = .ok (.iload_n 3, 1) := by decide +kernel
theorem dL_law_873 : decode cL_law 873 = .ok (.iconst 3, 1) := by decide +kernel
theorem dL_law_874 : decode cL_law 874 = .ok (.iadd, 1) := by decide +kernel
theorem dL_law_875 : decode cL_law 875 = .ok (.iaload, 1) := by decide +kernel
theorem dL_law_876 : decode cL_law 876 = .ok (.aload_n 0, 1) := by decide +kernel
theorem dL_law_877 : decode cL_law 877 = .ok (.iload_n 3, 1) := by decide +kernel
theorem dL_law_878 : decode cL_law 878 = .ok (.iconst 4, 1) := by decide +kernel
theorem dL_law_879 : decode cL_law 879 = .ok (.iadd, 1) := by decide +kernel
theorem dL_law_880 : decode cL_law 880 = .ok (.iaload, 1) := by decide +kernel
theorem dL_law_881 : decode cL_law 881 = .ok (.invokevirtual 100, 3) := by decide +kernel
theorem dL_law_884 : decode cL_law 884 = .ok (.aload_n 2, 1) := by decide +kernel
theorem dL_law_885 : decode cL_law 885 = .ok (.aload_n 0, 1) := by decide +kernel
theorem dL_law_886 : decode cL_law 886 = .ok (.iload_n 3, 1) := by decide +kernel
theorem dL_law_887 : decode cL_law 887 = .ok (.iconst 1, 1) := by decide +kernel
theorem dL_law_888 : decode cL_law 888 = .ok (.iadd, 1) := by decide +kernel
theorem dL_law_889 : decode cL_law 889 = .ok (.iaload, 1) := by decide +kernel
theorem dL_law_890 : decode cL_law 890 = .ok (.aload_n 0, 1) := by decide +kernel
theorem dL_law_891 : decode cL_law 891 = .ok (.iload_n 3, 1) := by decide +kernel
theorem dL_law_892 : decode cL_law 892 = .ok (.iconst 2, 1) := by decide +kernel
theorem dL_law_893 : decode cL_law 893 = .ok (.iadd, 1) := by decide +kernel
theorem dL_law_894 : decode cL_law 894 = .ok (.iaload, 1) := by decide +kernel
theorem dL_law_895 : decode cL_law 895 = .ok (.aload_n 0, 1) := by decide +kernel
theorem dL_law_896 : decode cL_law 896 = .ok (.iload_n 3, 1) := by decide +kernel
theorem dL_law_897 : decode cL_law 897 = .ok (.iconst 3, 1) := by decide +kernel
theorem dL_law_898 : decode cL_law 898 = .ok (.iadd, 1) := by decide +kernel
theorem dL_law_899 : decode cL_law 899 = .ok (.iaload, 1) := by decide +kernel
theorem dL_law_900 : decode cL_law 900 = .ok (.aload_n 0, 1) := by decide +kernel
theorem dL_law_901 : decode cL_law 901 = .ok (.iload_n 3, 1) := by decide +kernel
theorem dL_law_902 : decode cL_law 902 = .ok (.iconst 4, 1) := by decide +kernel
theorem dL_law_903 : decode cL_law 903 = .ok (.iadd, 1) := by decide +kernel
theorem dL_law_904 : decode cL_law 904 = .ok (.iaload, 1) := by decide +kernel
theorem dL_law_905 : decode cL_law 905 = .ok (.invokevirtual 104, 3) := by decide +kernel
theorem dL_law_908 : decode cL_law 908 = .ok (.if_icmp .eq 266, 3) := by decide +kernel
theorem dL_law_911 : decode cL_law 911 = .ok (.iconst 0, 1) := by decide +kernel
theorem dL_law_912 : decode cL_law 912 = .ok (.ireturn, 1) := by decide +kernel
theorem dL_law_913 : decode cL_law 913 = .ok (.aload_n 1, 1) := by decide +kernel
theorem dL_law_914 : decode cL_law 914 = .ok (.invokevirtual 105, 3) := by decide +kernel
theorem dL_law_917 : decode cL_law 917 = .ok (.aload_n 2, 1) := by decide +kernel
theorem dL_law_918 : decode cL_law 918 = .ok (.invokevirtual 109, 3) := by decide +kernel
theorem dL_law_921 : decode cL_law 921 = .ok (.if_icmp .eq 253, 3) := by decide +kernel
theorem dL_law_924 : decode cL_law 924 = .ok (.iconst 0, 1) := by decide +kernel
theorem dL_law_925 : decode cL_law 925 = .ok (.ireturn, 1) := by decide +kernel
theorem dL_law_926 : decode cL_law 926 = .ok (.aload_n 1, 1) := by decide +kernel
theorem dL_law_927 : decode cL_law 927 = .ok (.invokevirtual 110, 3) := by decide +kernel
theorem dL_law_930 : decode cL_law 930 = .ok (.aload_n 2, 1) := by decide +kernel
theorem dL_law_931 : decode cL_law 931 = .ok (.invokevirtual 113, 3) := by decide +kernel
theorem dL_law_934 : decode cL_law 934 = .ok (.if_icmp .eq 240, 3) := by decide +kernel
theorem dL_law_937 : decode cL_law 937 = .ok (.iconst 0, 1) := by decide +kernel
theorem dL_law_938 : decode cL_law 938 = .ok (.ireturn, 1) := by decide +kernel
theorem dL_law_939 : decode cL_law 939 = .ok (.aload_n 1, 1) := by decide +kernel
theorem dL_law_940 : decode cL_law 940 = .ok (.aload_n 0, 1) := by decide +kernel
theorem dL_law_941 : decode cL_law 941 = .ok (.iload_n 3, 1) := by decide +kernel
theorem dL_law_942 : decode cL_law 942 = .ok (.iconst 1, 1) := by decide +kernel
theorem dL_law_943 : decode cL_law 943 = .ok (.iadd, 1) := by decide +kernel
theorem dL_law_944 : decode cL_law 944 = .ok (.iaload, 1) := by decide +kernel
theorem dL_law_945 : decode cL_law 945 = .ok (.aload_n 0, 1) := by decide +kernel
theorem dL_law_946 : decode cL_law 946 = .ok (.iload_n 3, 1) := by decide +kernel
theorem dL_law_947 : decode cL_law 947 = .ok (.iconst 2, 1) := by decide +kernel
theorem dL_law_948 : decode cL_law 948 = .ok (.iadd, 1) := by decide +kernel
theorem dL_law_949 : decode cL_law 949 = .ok (.iaload, 1) := by decide +kernel
theorem dL_law_950 : decode cL_law 950 = .ok (.aload_n 0, 1) := by decide +kernel
theorem dL_law_951 : decode cL_law 951 = .ok (.iload_n 3, 1) := by decide +kernel
theorem dL_law_952 : decode cL_law 952 = .ok (.iconst 3, 1) := by decide +kernel
theorem dL_law_953 : decode cL_law 953 = .ok (.iadd, 1) := by decide +kernel
theorem dL_law_954 : decode cL_law 954 = .ok (.iaload, 1) := by decide +kernel
theorem dL_law_955 : decode cL_law 955 = .ok (.aload_n 0, 1) := by decide +kernel
theorem dL_law_956 : decode cL_law 956 = .ok (.iload_n 3, 1) := by decide +kernel
theorem dL_law_957 : decode cL_law 957 = .ok (.iconst 4, 1) := by decide +kernel
theorem dL_law_958 : decode cL_law 958 = .ok (.iadd, 1) := by decide +kernel
theorem dL_law_959 : decode cL_law 959 = .ok (.iaload, 1) := by decide +kernel
theorem dL_law_960 : decode cL_law 960 = .ok (.invokevirtual 114, 3) := by decide +kernel
theorem dL_law_963 : decode cL_law 963 = .ok (.aload_n 2, 1) := by decide +kernel
theorem dL_law_964 : decode cL_law 964 = .ok (.aload_n 0, 1) := by decide +kernel
theorem dL_law_965 : decode cL_law 965 = .ok (.iload_n 3, 1) := by decide +kernel
theorem dL_law_966 : decode cL_law 966 = .ok (.iconst 1, 1) := by decide +kernel
theorem dL_law_967 : decode cL_law 967 = .ok (.iadd, 1) := by decide +kernel
theorem dL_law_968 : decode cL_law 968 = .ok (.iaload, 1) := by decide +kernel
theorem dL_law_969 : decode cL_law 969 = .ok (.aload_n 0, 1) := by decide +kernel
theorem dL_law_970 : decode cL_law 970 = .ok (.iload_n 3, 1) := by decide +kernel
theorem dL_law_971 : decode cL_law 971 = .ok (.iconst 2, 1) := by decide +kernel
theorem dL_law_972 : decode cL_law 972 = .ok (.iadd, 1) := by decide +kernel
theorem dL_law_973 : decode cL_law 973 = .ok (.iaload, 1) := by decide +kernel
theorem dL_law_974 : decode cL_law 974 = .ok (.aload_n 0, 1) := by decide +kernel
theorem dL_law_975 : decode cL_law 975 = .ok (.iload_n 3, 1) := by decide +kernel
theorem dL_law_976 : decode cL_law 976 = .ok (.iconst 3, 1) := by decide +kernel
theorem dL_law_977 : decode cL_law 977 = .ok (.iadd, 1) := by decide +kernel
theorem dL_law_978 : decode cL_law 978 = .ok (.iaload, 1) := by decide +kernel
theorem dL_law_979 : decode cL_law 979 = .ok (.aload_n 0, 1) := by decide +kernel
theorem dL_law_980 : decode cL_law 980 = .ok (.iload_n 3, 1) := by decide +kernel
theorem dL_law_981 : decode cL_law 981 = .ok (.iconst 4, 1) := by decide +kernel
theorem dL_law_982 : decode cL_law 982 = .ok (.iadd, 1) := by decide +kernel
theorem dL_law_983 : decode cL_law 983 = .ok (.iaload, 1) := by decide +kernel
theorem dL_law_984 : decode cL_law 984 = .ok (.invokevirtual 117, 3) := by decide +kernel
theorem dL_law_987 : decode cL_law 987 = .ok (.if_icmp .eq 187, 3) := by decide +kernel
theorem dL_law_990 : decode cL_law 990 = .ok (.iconst 0, 1) := by decide +kernel
theorem dL_law_991 : decode cL_law 991 = .ok (.ireturn, 1) := by decide +kernel
theorem dL_law_992 : decode cL_law 992 = .ok (.aload_n 1, 1) := by decide +kernel
theorem dL_law_993 : decode cL_law 993 = .ok (.aload_n 0, 1) := by decide +kernel
theorem dL_law_994 : decode cL_law 994 = .ok (.iload_n 3, 1) := by decide +kernel
theorem dL_law_995 : decode cL_law 995 = .ok (.iconst 1, 1) := by decide +kernel
theorem dL_law_996 : decode cL_law 996 = .ok (.iadd, 1) := by decide +kernel
theorem dL_law_997 : decode cL_law 997 = .ok (.iaload, 1) := by decide +kernel
theorem dL_law_998 : decode cL_law 998 = .ok (.aload_n 0, 1) := by decide +kernel
theorem dL_law_999 : decode cL_law 999 = .ok (.iload_n 3, 1) := by decide +kernel
theorem dL_law_1000 : decode cL_law 1000 = .ok (.iconst 2, 1) := by decide +kernel
theorem dL_law_1001 : decode cL_law 1001 = .ok (.iadd, 1) := by decide +kernel
theorem dL_law_1002 : decode cL_law 1002 = .ok (.iaload, 1) := by decide +kernel
theorem dL_law_1003 : decode cL_law 1003 = .ok (.aload_n 0, 1) := by decide +kernel
theorem dL_law_1004 : decode cL_law 1004 = .ok (.iload_n 3, 1) := by decide +kernel
theorem dL_law_1005 : decode cL_law 1005 = .ok (.iconst 3, 1) := by decide +kernel
theorem dL_law_1006 : decode cL_law 1006 = .ok (.iadd, 1) := by decide +kernel
theorem dL_law_1007 : decode cL_law 1007 = .ok (.iaload, 1) := by decide +kernel
theorem dL_law_1008 : decode cL_law 1008 = .ok (.invokevirtual 118, 3) := by decide +kernel
theorem dL_law_1011 : decode cL_law 1011 = .ok (.aload_n 2, 1) := by decide +kernel
theorem dL_law_1012 : decode cL_law 1012 = .ok (.aload_n 0, 1) := by decide +kernel
theorem dL_law_1013 : decode cL_law 1013 = .ok (.iload_n 3, 1) := by decide +kernel
theorem dL_law_1014 : decode cL_law 1014 = .ok (.iconst 1, 1) := by decide +kernel
theorem dL_law_1015 : decode cL_law 1015 = .ok (.iadd, 1) := by decide +kernel
theorem dL_law_1016 : decode cL_law 1016 = .ok (.iaload, 1) := by decide +kernel
theorem dL_law_1017 : decode cL_law 1017 = .ok (.aload_n 0, 1) := by decide +kernel
theorem dL_law_1018 : decode cL_law 1018 = .ok (.iload_n 3, 1) := by decide +kernel
theorem dL_law_1019 : decode cL_law 1019 = .ok (.iconst 2, 1) := by decide +kernel
theorem dL_law_1020 : decode cL_law 1020 = .ok (.iadd, 1) := by decide +kernel
theorem dL_law_1021 : decode cL_law 1021 = .ok (.iaload, 1) := by decide +kernel
theorem dL_law_1022 : decode cL_law 1022 = .ok (.aload_n 0, 1) := by decide +kernel
theorem dL_law_1023 : decode cL_law 1023 = .ok (.iload_n 3, 1) := by decide +kernel
theorem dL_law_1024 : decode cL_law 1024 = .ok (.iconst 3, 1) := by decide +kernel
theorem dL_law_1025 : decode cL_law 1025 = .ok (.iadd, 1) := by decide +kernel
theorem dL_law_1026 : decode cL_law 1026 = .ok (.iaload, 1) := by decide +kernel
theorem dL_law_1027 : decode cL_law 1027 = .ok (.invokevirtual 121, 3) := by decide +kernel
theorem dL_law_1030 : decode cL_law 1030 = .ok (.if_icmp .eq 144, 3) := by decide +kernel
theorem dL_law_1033 : decode cL_law 1033 = .ok (.iconst 0, 1) := by decide +kernel
theorem dL_law_1034 : decode cL_law 1034 = .ok (.ireturn, 1) := by decide +kernel
theorem dL_law_1035 : decode cL_law 1035 = .ok (.aload_n 1, 1) := by decide +kernel
theorem dL_law_1036 : decode cL_law 1036 = .ok (.aload_n 0, 1) := by decide +kernel
theorem dL_law_1037 : decode cL_law 1037 = .ok (.iload_n 3, 1) := by decide +kernel
theorem dL_law_1038 : decode cL_law 1038 = .ok (.iconst 1, 1) := by decide +kernel
theorem dL_law_1039 : decode cL_law 1039 = .ok (.iadd, 1) := by decide +kernel
theorem dL_law_1040 : decode cL_law 1040 = .ok (.iaload, 1) := by decide +kernel
theorem dL_law_1041 : decode cL_law 1041 = .ok (.invokevirtual 122, 3) := by decide +kernel
theorem dL_law_1044 : decode cL_law 1044 = .ok (.aload_n 2, 1) := by decide +kernel
theorem dL_law_1045 : decode cL_law 1045 = .ok (.aload_n 0, 1) := by decide +kernel
theorem dL_law_1046 : decode cL_law 1046 = .ok (.iload_n 3, 1) := by decide +kernel
theorem dL_law_1047 : decode cL_law 1047 = .ok (.iconst 1, 1) := by decide +kernel
theorem dL_law_1048 : decode cL_law 1048 = .ok (.iadd, 1) := by decide +kernel
theorem dL_law_1049 : decode cL_law 1049 = .ok (.iaload, 1) := by decide +kernel
theorem dL_law_1050 : decode cL_law 1050 = .ok (.invokevirtual 125, 3) := by decide +kernel
theorem dL_law_1053 : decode cL_law 1053 = .ok (.if_icmp .eq 121, 3) := by decide +kernel
theorem dL_law_1056 : decode cL_law 1056 = .ok (.iconst 0, 1) := by decide +kernel
theorem dL_law_1057 : decode cL_law 1057 = .ok (.ireturn, 1) := by decide +kernel
theorem dL_law_1058 : decode cL_law 1058 = .ok (.aload_n 1, 1) := by decide +kernel
theorem dL_law_1059 : decode cL_law 1059 = .ok (.aload_n 0, 1) := by decide +kernel
theorem dL_law_1060 : decode cL_law 1060 = .ok (.iload_n 3, 1) := by decide +kernel
theorem dL_law_1061 : decode cL_law 1061 = .ok (.iconst 1, 1) := by decide +kernel
theorem dL_law_1062 : decode cL_law 1062 = .ok (.iadd, 1) := by decide +kernel
theorem dL_law_1063 : decode cL_law 1063 = .ok (.iaload, 1) := by decide +kernel
theorem dL_law_1064 : decode cL_law 1064 = .ok (.aload_n 0, 1) := by decide +kernel
theorem dL_law_1065 : decode cL_law 1065 = .ok (.iload_n 3, 1) := by decide +kernel
theorem dL_law_1066 : decode cL_law 1066 = .ok (.iconst 2, 1) := by decide +kernel
theorem dL_law_1067 : decode cL_law 1067 = .ok (.iadd, 1) := by decide +kernel
theorem dL_law_1068 : decode cL_law 1068 = .ok (.iaload, 1) := by decide +kernel
theorem dL_law_1069 : decode cL_law 1069 = .ok (.aload_n 0, 1) := by decide +kernel
theorem dL_law_1070 : decode cL_law 1070 = .ok (.iload_n 3, 1) := by decide +kernel
theorem dL_law_1071 : decode cL_law 1071 = .ok (.iconst 3, 1) := by decide +kernel
theorem dL_law_1072 : decode cL_law 1072 = .ok (.iadd, 1) := by decide +kernel
theorem dL_law_1073 : decode cL_law 1073 = .ok (.iaload, 1) := by decide +kernel
theorem dL_law_1074 : decode cL_law 1074 = .ok (.aload_n 0, 1) := by decide +kernel
theorem dL_law_1075 : decode cL_law 1075 = .ok (.iload_n 3, 1) := by decide +kernel
theorem dL_law_1076 : decode cL_law 1076 = .ok (.iconst 4, 1) := by decide +kernel
theorem dL_law_1077 : decode cL_law 1077 = .ok (.iadd, 1) := by decide +kernel
theorem dL_law_1078 : decode cL_law 1078 = .ok (.iaload, 1) := by decide +kernel
theorem dL_law_1079 : decode cL_law 1079 = .ok (.invokevirtual 126, 3) := by decide +kernel
theorem dL_law_1082 : decode cL_law 1082 = .ok (.aload_n 2, 1) := by decide +kernel
theorem dL_law_1083 : decode cL_law 1083 = .ok (.aload_n 0, 1) := by decide +kernel
theorem dL_law_1084 : decode cL_law 1084 = .ok (.iload_n 3, 1) := by decide +kernel
theorem dL_law_1085 : decode cL_law 1085 = .ok (.iconst 1, 1) := by decide +kernel
theorem dL_law_1086 : decode cL_law 1086 = .ok (.iadd, 1) := by decide +kernel
theorem dL_law_1087 : decode cL_law 1087 = .ok (.iaload, 1) := by decide +kernel
theorem dL_law_1088 : decode cL_law 1088 = .ok (.aload_n 0, 1) := by decide +kernel
theorem dL_law_1089 : decode cL_law 1089 = .ok (.iload_n 3, 1) := by decide +kernel
theorem dL_law_1090 : decode cL_law 1090 = .ok (.iconst 2, 1) := by decide +kernel
theorem dL_law_1091 : decode cL_law 1091 = .ok (.iadd, 1) := by decide +kernel
theorem dL_law_1092 : decode cL_law 1092 = .ok (.iaload, 1) := by decide +kernel
theorem dL_law_1093 : decode cL_law 1093 = .ok (.aload_n 0, 1) := by decide +kernel
theorem dL_law_1094 : decode cL_law 1094 = .ok (.iload_n 3, 1) := by decide +kernel
theorem dL_law_1095 : decode cL_law 1095 = .ok (.iconst 3, 1) := by decide +kernel
theorem dL_law_1096 : decode cL_law 1096 = .ok (.iadd, 1) := by decide +kernel
theorem dL_law_1097 : decode cL_law 1097 = .ok (.iaload, 1) := by decide +kernel
theorem dL_law_1098 : decode cL_law 1098 = .ok (.aload_n 0, 1) := by decide +kernel
theorem dL_law_1099 : decode cL_law 1099 = .ok (.iload_n 3, 1) := by decide +kernel
theorem dL_law_1100 : decode cL_law 1100 = .ok (.iconst 4, 1) := by decide +kernel
theorem dL_law_1101 : decode cL_law 1101 = .ok (.iadd, 1) := by decide +kernel
theorem dL_law_1102 : decode cL_law 1102 = .ok (.iaload, 1) := by decide +kernel
theorem dL_law_1103 : decode cL_law 1103 = .ok (.invokevirtual 129, 3) := by decide +kernel
theorem dL_law_1106 : decode cL_law 1106 = .ok (.if_icmp .eq 68, 3) := by decide +kernel
theorem dL_law_1109 : decode cL_law 1109 = .ok (.iconst 0, 1) := by decide +kernel
theorem dL_law_1110 : decode cL_law 1110 = .ok (.ireturn, 1) := by decide +kernel
theorem dL_law_1111 : decode cL_law 1111 = .ok (.aload_n 1, 1) := by decide +kernel
theorem dL_law_1112 : decode cL_law 1112 = .ok (.aload_n 0, 1) := by decide +kernel
theorem dL_law_1113 : decode cL_law 1113 = .ok (.iload_n 3, 1) := by decide +kernel
theorem dL_law_1114 : decode cL_law 1114 = .ok (.iconst 1, 1) := by decide +kernel
theorem dL_law_1115 : decode cL_law 1115 = .ok (.iadd, 1) := by decide +kernel
theorem dL_law_1116 : decode cL_law 1116 = .ok (.iaload, 1) := by decide +kernel
theorem dL_law_1117 : decode cL_law 1117 = .ok (.aload_n 0, 1) := by decide +kernel
theorem dL_law_1118 : decode cL_law 1118 = .ok (.iload_n 3, 1) := by decide +kernel
theorem dL_law_1119 : decode cL_law 1119 = .ok (.iconst 2, 1) := by decide +kernel
theorem dL_law_1120 : decode cL_law 1120 = .ok (.iadd, 1) := by decide +kernel
theorem dL_law_1121 : decode cL_law 1121 = .ok (.iaload, 1) := by decide +kernel
theorem dL_law_1122 : decode cL_law 1122 = .ok (.aload_n 0, 1) := by decide +kernel
theorem dL_law_1123 : decode cL_law 1123 = .ok (.iload_n 3, 1) := by decide +kernel
theorem dL_law_1124 : decode cL_law 1124 = .ok (.iconst 3, 1) := by decide +kernel
theorem dL_law_1125 : decode cL_law 1125 = .ok (.iadd, 1) := by decide +kernel
theorem dL_law_1126 : decode cL_law 1126 = .ok (.iaload, 1) := by decide +kernel
theorem dL_law_1127 : decode cL_law 1127 = .ok (.aload_n 0, 1) := by decide +kernel
theorem dL_law_1128 : decode cL_law 1128 = .ok (.iload_n 3, 1) := by decide +kernel
theorem dL_law_1129 : decode cL_law 1129 = .ok (.iconst 4, 1) := by decide +kernel
theorem dL_law_1130 : decode cL_law 1130 = .ok (.iadd, 1) := by decide +kernel
theorem dL_law_1131 : decode cL_law 1131 = .ok (.iaload, 1) := by decide +kernel
theorem dL_law_1132 : decode cL_law 1132 = .ok (.aload_n 0, 1) := by decide +kernel
theorem dL_law_1133 : decode cL_law 1133 = .ok (.iload_n 3, 1) := by decide +kernel
theorem dL_law_1134 : decode cL_law 1134 = .ok (.iconst 5, 1) := by decide +kernel
theorem dL_law_1135 : decode cL_law 1135 = .ok (.iadd, 1) := by decide +kernel
theorem dL_law_1136 : decode cL_law 1136 = .ok (.iaload, 1) := by decide +kernel
theorem dL_law_1137 : decode cL_law 1137 = .ok (.invokevirtual 130, 3) := by decide +kernel
theorem dL_law_1140 : decode cL_law 1140 = .ok (.aload_n 2, 1) := by decide +kernel
theorem dL_law_1141 : decode cL_law 1141 = .ok (.aload_n 0, 1) := by decide +kernel
theorem dL_law_1142 : decode cL_law 1142 = .ok (.iload_n 3, 1) := by decide +kernel
theorem dL_law_1143 : decode cL_law 1143 = .ok (.iconst 1, 1) := by decide +kernel
theorem dL_law_1144 : decode cL_law 1144 = .ok (.iadd, 1) := by decide +kernel
theorem dL_law_1145 : decode cL_law 1145 = .ok (.iaload, 1) := by decide +kernel
theorem dL_law_1146 : decode cL_law 1146 = .ok (.aload_n 0, 1) := by decide +kernel
theorem dL_law_1147 : decode cL_law 1147 = .ok (.iload_n 3, 1) := by decide +kernel
theorem dL_law_1148 : decode cL_law 1148 = .ok (.iconst 2, 1) := by decide +kernel
theorem dL_law_1149 : decode cL_law 1149 = .ok (.iadd, 1) := by decide +kernel
theorem dL_law_1150 : decode cL_law 1150 = .ok (.iaload, 1) := by decide +kernel
theorem dL_law_1151 : decode cL_law 1151 = .ok (.aload_n 0, 1) := by decide +kernel
theorem dL_law_1152 : decode cL_law 1152 = .ok (.iload_n 3, 1) := by decide +kernel
theorem dL_law_1153 : decode cL_law 1153 = .ok (.iconst 3, 1) := by decide +kernel
theorem dL_law_1154 : decode cL_law 1154 = .ok (.iadd, 1) := by decide +kernel
theorem dL_law_1155 : decode cL_law 1155 = .ok (.iaload, 1) := by decide +kernel
theorem dL_law_1156 : decode cL_law 1156 = .ok (.aload_n 0, 1) := by decide +kernel
theorem dL_law_1157 : decode cL_law 1157 = .ok (.iload_n 3, 1) := by decide +kernel
theorem dL_law_1158 : decode cL_law 1158 = .ok (.iconst 4, 1) := by decide +kernel
theorem dL_law_1159 : decode cL_law 1159 = .ok (.iadd, 1) := by decide +kernel
theorem dL_law_1160 : decode cL_law 1160 = .ok (.iaload, 1) := by decide +kernel
theorem dL_law_1161 : decode cL_law 1161 = .ok (.aload_n 0, 1) := by decide +kernel
theorem dL_law_1162 : decode cL_law 1162 = .ok (.iload_n 3, 1) := by decide +kernel
theorem dL_law_1163 : decode cL_law 1163 = .ok (.iconst 5, 1) := by decide +kernel
theorem dL_law_1164 : decode cL_law 1164 = .ok (.iadd, 1) := by decide +kernel
theorem dL_law_1165 : decode cL_law 1165 = .ok (.iaload, 1) := by decide +kernel
theorem dL_law_1166 : decode cL_law 1166 = .ok (.invokevirtual 133, 3) := by decide +kernel
theorem dL_law_1169 : decode cL_law 1169 = .ok (.if_icmp .eq 5, 3) := by decide +kernel
theorem dL_law_1172 : decode cL_law 1172 = .ok (.iconst 0, 1) := by decide +kernel
theorem dL_law_1173 : decode cL_law 1173 = .ok (.ireturn, 1) := by decide +kernel
theorem dL_law_1174 : decode cL_law 1174 = .ok (.iinc 3 6, 3) := by decide +kernel
theorem dL_law_1177 : decode cL_law 1177 = .ok (.goto (-1159), 3) := by decide +kernel
theorem dL_law_1180 : decode cL_law 1180 = .ok (.iconst 1, 1) := by decide +kernel
theorem dL_law_1181 : decode cL_law 1181 = .ok (.ireturn, 1) := by decide +kernel
theorem dJ9_max_7cf53_0 : decode cJ9_max_7cf53 0 = .ok (.iload_n 0, 1) := by decide +kernel
theorem dJ9_max_7cf53_1 : decode cJ9_max_7cf53 1 = .ok (.iload_n 1, 1) := by decide +kernel
theorem dJ9_max_7cf53_2 : decode cJ9_max_7cf53 2 = .ok (.if_icmp .lt 7, 3) := by decide +kernel
theorem dJ9_max_7cf53_5 : decode cJ9_max_7cf53 5 = .ok (.iload_n 0, 1) := by decide +kernel
theorem dJ9_max_7cf53_6 : decode cJ9_max_7cf53 6 = .ok (.goto 4, 3) := by decide +kernel
theorem dJ9_max_7cf53_9 : decode cJ9_max_7cf53 9 = .ok (.iload_n 1, 1) := by decide +kernel
theorem dJ9_max_7cf53_10 : decode cJ9_max_7cf53 10 = .ok (.ireturn, 1) := by decide +kernel
theorem dJ9_min_7cf53_0 : decode cJ9_min_7cf53 0 = .ok (.iload_n 0, 1) := by decide +kernel
theorem dJ9_min_7cf53_1 : decode cJ9_min_7cf53 1 = .ok (.iload_n 1, 1) := by decide +kernel
theorem dJ9_min_7cf53_2 : decode cJ9_min_7cf53 2 = .ok (.if_icmp .gt 7, 3) := by decide +kernel
theorem dJ9_min_7cf53_5 : decode cJ9_min_7cf53 5 = .ok (.iload_n 0, 1) := by decide +kernel
theorem dJ9_min_7cf53_6 : decode cJ9_min_7cf53 6 = .ok (.goto 4, 3) := by decide +kernel
theorem dJ9_min_7cf53_9 : decode cJ9_min_7cf53 9 = .ok (.iload_n 1, 1) := by decide +kernel
theorem dJ9_min_7cf53_10 : decode cJ9_min_7cf53 10 = .ok (.ireturn, 1) := by decide +kernel
theorem dJ7_fill_53178_0 : decode cJ7_fill_53178 0 = .ok (.iconst 0, 1) := by decide +kernel
theorem dJ7_fill_53178_1 : decode cJ7_fill_53178 1 = .ok (.istore_n 2, 1) := by decide +kernel
theorem dJ7_fill_53178_2 : decode cJ7_fill_53178 2 = .ok (.aload_n 0, 1) := by decide +kernel
theorem dJ7_fill_53178_3 : decode cJ7_fill_53178 3 = .ok (.arraylength, 1) := by decide +kernel
theorem dJ7_fill_53178_4 : decode cJ7_fill_53178 4 = .ok (.istore_n 3, 1) := by decide +kernel
theorem dJ7_fill_53178_5 : decode cJ7_fill_53178 5 = .ok (.iload_n 2, 1) := by decide +kernel
theorem dJ7_fill_53178_6 : decode cJ7_fill_53178 6 = .ok (.iload_n 3, 1) := by decide +kernel
theorem dJ7_fill_53178_7 : decode cJ7_fill_53178 7 = .ok (.if_icmp .ge 13, 3) := by decide +kernel
theorem dJ7_fill_53178_10 : decode cJ7_fill_53178 10 = .ok (.aload_n 0, 1) := by decide +kernel
theorem dJ7_fill_53178_11 : decode cJ7_fill_53178 11 = .ok (.iload_n 2, 1) := by decide +kernel
theorem dJ7_fill_53178_12 : decode cJ7_fill_53178 12 = .ok (.iload_n 1, 1) := by decide +kernel
theorem dJ7_fill_53178_13 : decode cJ7_fill_53178 13 = .ok (.iastore, 1) := by decide +kernel
theorem dJ7_fill_53178_14 : decode cJ7_fill_53178 14 = .ok (.iinc 2 1, 3) := by decide +kernel
theorem dJ7_fill_53178_17 : decode cJ7_fill_53178 17 = .ok (.goto (-12), 3) := by decide +kernel
theorem dJ7_fill_53178_20 : decode cJ7_fill_53178 20 = .ok (.return_, 1) := by decide +kernel
end
section
/-! ===== the abstract memory: numbered cells; ints by (cell, place), references by (cell, place) ===== -/
abbrev Shp : Type := Nat ⊕ (Nat × Nat)
abbrev Mem : Type := (Nat → Nat → Int32) × (Nat → Nat → Option Nat)
def gI (me : Mem) (k i : Nat) : Int32 := me.1 k i
def gR (me : Mem) (k i : Nat) : Option Nat := me.2 k i
def uA (me : Mem) (k : Nat) (f : Nat → Int32) : Mem := (fun a => if a = k then f else me.1 a, me.2)
def uI (me : Mem) (k i : Nat) (x : Int32) : Mem := uA me k (upd (gI me k) i x)
def uR (me : Mem) (k i : Nat) (r : Option Nat) : Mem := (me.1, fun a => if a = k then va_up (gR me k) i r else me.2 a)
def nwM (me : Mem) (k : Nat) : Mem := (fun a => if a = k then fun _ => 0 else me.1 a, fun a => if a = k then fun _ => none else me.2 a)
theorem gI_uA (me : Mem) (k : Nat) (f : Nat → Int32) (a b : Nat) : gI (uA me k f) a b = if a = k then f b else gI me a b := by
  unfold gI uA; dsimp only; split <;> rfl
theorem gI_uI (me : Mem) (k i : Nat) (x : Int32) (a b : Nat) : gI (uI me k i x) a b = if a = k ∧ b = i then x else gI me a b := by
  unfold uI; rw [gI_uA]
  by_cases h : a = k
  · subst h
    by_cases h2 : b = i <;> simp [upd, h2]
  · simp [h]
theorem gR_uA (me : Mem) (k : Nat) (f : Nat → Int32) (a b : Nat) : gR (uA me k f) a b = gR me a b := rfl
theorem gR_uI (me : Mem) (k i : Nat) (x : Int32) (a b : Nat) : gR (uI me k i x) a b = gR me a b := rfl
theorem gI_uR (me : Mem) (k i : Nat) (r : Option Nat) (a b : Nat) : gI (uR me k i r) a b = gI me a b := rfl
theorem gR_uR (me : Mem) (k i : Nat) (r : Option Nat) (a b : Nat) : gR (uR me k i r) a b = if a = k ∧ b = i then r else gR me a b := by
  unfold gR uR; dsimp only
  by_cases h : a = k
  · subst h
    by_cases h2 : b = i <;> simp [va_up, h2, gR]
  · simp [h]
/-! the tables: how many fields, which are references (1), truths (2) -/
def fkT : List (List Nat) := [[1, 0, 0], [1, 1, 1, 1, 1, 0, 0, 0, 0, 0], [1, 1, 1, 1, 0, 0, 0], [1, 2, 0, 0], [1, 0, 0], [1, 1, 1, 1, 0, 0, 0, 0, 0, 0], [1, 1, 1, 1, 1, 1, 1, 1, 2], [0, 1, 1, 1, 1, 1, 1, 0, 0, 0, 1, 1, 1, 0, 0, 2, 1, 1, 1, 0, 0, 1, 1, 2, 1, 1, 1, 1]]
def fn (ci : Nat) : Nat := (fkT.getD ci []).length
def fk (ci j : Nat) : Nat := (fkT.getD ci []).getD j 0
def cv (adr : Nat → Nat) (v : Value) : Value := match v with
  | .ref a => .ref (adr a)
  | .retAddr _ => .ref (adr 999999)
  | v => v
def fval (adr : Nat → Nat) (me : Mem) (k ci j : Nat) : Value := if fk ci j = 1 then va_rf ((gR me k j).map adr) else .int (gI me k j)
def cel (cA : Nat → ClassId) (adr : Nat → Nat) (me : Mem) (k : Nat) (s : Shp) : va_E := match s with
  | .inl ci => .inr (ci, (List.range (fn ci)).map (fval adr me k ci))
  | .inr (0, n) => .inl (cA 0, n, .inl (gI me k))
  | .inr (t + 1, n) => .inl (cA (t + 1), n, .inr (.inr (.inr (.inr (fun i => (gR me k i).map adr)))))
def wl (sh : List Shp) (cA : Nat → ClassId) (adr : Nat → Nat) (me : Mem) : va_W := sh.mapIdx (fun k s => (adr k, cel cA adr me k s))
def tysC (cA : Nat → ClassId) : List (ClassId × FieldType) := [(cA 0, .int), (cA 1, .object "DebtCoats$Person"), (cA 2, .object "DebtCoats$Sheet"), (cA 3, .array .int)]
theorem wl_get {sh : List Shp} {cA : Nat → ClassId} {adr : Nat → Nat} {me : Mem} {k : Nat} {s : Shp} (h : sh[k]? = some s) : (wl sh cA adr me)[k]? = some (adr k, cel cA adr me k s) := by
  simp [wl, h]
theorem wl_iff {sh : List Shp} {cA : Nat → ClassId} {adr : Nat → Nat} {me : Mem} {k : Nat} {q : Nat × va_E} (h : (wl sh cA adr me)[k]? = some q) : ∃ s, sh[k]? = some s ∧ q = (adr k, cel cA adr me k s) := by
  simp only [wl, List.getElem?_mapIdx] at h
  cases hs : sh[k]? with
  | none => rw [hs] at h; cases h
  | some s => rw [hs] at h; exact ⟨s, rfl, (Option.some.inj h).symm⟩
theorem wl_set {sh : List Shp} {cA : Nat → ClassId} {adr : Nat → Nat} {me me' : Mem} {k : Nat} {s : Shp} {e : va_E} (h : sh[k]? = some s) (he : cel cA adr me' k s = e) (ho : ∀ (j : Nat) (t : Shp), j ≠ k → cel cA adr me' j t = cel cA adr me j t) : (wl sh cA adr me).set k (adr k, e) = wl sh cA adr me' := by
  apply List.ext_getElem?
  intro i
  have hk : k < sh.length := (List.getElem?_eq_some_iff.mp h).1
  rw [List.getElem?_set]
  by_cases hi : k = i
  · subst hi
    rw [if_pos rfl, wl_get (me := me') h, he, if_pos (by simpa [wl] using hk)]
  · rw [if_neg hi]
    simp only [wl, List.getElem?_mapIdx]
    cases sh[i]? with
    | none => rfl
    | some t => simp only [Option.map_some]; rw [ho i t (Ne.symm hi)]
theorem cel_uA_ne {cA : Nat → ClassId} {adr : Nat → Nat} {me : Mem} {k : Nat} {f : Nat → Int32} (j : Nat) (t : Shp) (h : j ≠ k) : cel cA adr (uA me k f) j t = cel cA adr me j t := by
  have e1 : gI (uA me k f) j = gI me j := by funext b; rw [gI_uA, if_neg h]
  have e2 : gR (uA me k f) j = gR me j := rfl
  match t with
  | .inl ci => simp only [cel]; congr 2; apply List.map_congr_left; intro x _; simp only [fval, e1, e2]
  | .inr (0, n) => simp only [cel, e1]
  | .inr (t + 1, n) => rfl
theorem cel_uR_ne {cA : Nat → ClassId} {adr : Nat → Nat} {me : Mem} {k i : Nat} {r : Option Nat} (j : Nat) (t : Shp) (h : j ≠ k) : cel cA adr (uR me k i r) j t = cel cA adr me j t := by
  have e1 : gI (uR me k i r) j = gI me j := rfl
  have e2 : gR (uR me k i r) j = gR me j := by funext b; rw [gR_uR]; simp [h]
  match t with
  | .inl ci => simp only [cel]; congr 2; apply List.map_congr_left; intro x _; simp only [fval, e1, e2]
  | .inr (0, n) => simp only [cel, e1]
  | .inr (t + 1, n) => simp only [cel, e2]
theorem wl_setA {sh : List Shp} {cA : Nat → ClassId} {adr : Nat → Nat} {me : Mem} {k n : Nat} {f : Nat → Int32} (h : sh[k]? = some (.inr (0, n))) : (wl sh cA adr me).set k (adr k, .inl (cA 0, n, .inl f)) = wl sh cA adr (uA me k f) := by
  refine wl_set h ?_ (fun j t hj => cel_uA_ne j t hj)
  simp only [cel]
  have e1 : gI (uA me k f) k = f := by funext b; rw [gI_uA, if_pos rfl]
  rw [e1]
theorem range_map_set {α : Type} (n j : Nat) (f : Nat → α) (v : α) : ((List.range n).map f).set j v = (List.range n).map (fun i => if i = j then v else f i) := by
  apply List.ext_getElem?
  intro i
  rw [List.getElem?_set]
  by_cases hi : i < n
  · by_cases hj : j = i
    · subst hj; simp [hi]
    · rw [if_neg hj]; simp [hi, Ne.symm hj]
  · by_cases hj : j = i
    · subst hj; simp [hi]
    · rw [if_neg hj]; simp [hi]
theorem wl_setI {sh : List Shp} {cA : Nat → ClassId} {adr : Nat → Nat} {me : Mem} {k ci j : Nat} {x : Int32} (h : sh[k]? = some (.inl ci)) (hf : fk ci j ≠ 1) : (wl sh cA adr me).set k (adr k, .inr (ci, ((List.range (fn ci)).map (fval adr me k ci)).set j (.int x))) = wl sh cA adr (uI me k j x) := by
  refine wl_set h ?_ (fun i t hi => cel_uA_ne i t hi)
  simp only [cel]
  congr 2
  rw [range_map_set]
  apply List.map_congr_left
  intro i _
  by_cases hi : i = j
  · subst hi; simp [fval, hf, gI_uI]
  · simp only [fval, gI_uI, hi, and_false, if_false, gR_uI]
theorem wl_setR {sh : List Shp} {cA : Nat → ClassId} {adr : Nat → Nat} {me : Mem} {k ci j : Nat} {r : Option Nat} (h : sh[k]? = some (.inl ci)) (hf : fk ci j = 1) : (wl sh cA adr me).set k (adr k, .inr (ci, ((List.range (fn ci)).map (fval adr me k ci)).set j (va_rf (r.map adr)))) = wl sh cA adr (uR me k j r) := by
  refine wl_set h ?_ (fun i t hi => cel_uR_ne i t hi)
  simp only [cel]
  congr 2
  rw [range_map_set]
  apply List.map_congr_left
  intro i _
  by_cases hi : i = j
  · subst hi; simp [fval, hf, gR_uR]
  · simp only [fval, gI_uR, hi, and_false, if_false, gR_uR]
theorem wl_setQ {sh : List Shp} {cA : Nat → ClassId} {adr : Nat → Nat} {me : Mem} {k n t i v : Nat} (h : sh[k]? = some (.inr (t + 1, n))) : (wl sh cA adr me).set k (adr k, .inl (cA (t + 1), n, .inr (.inr (.inr (.inr (va_up (fun i => (gR me k i).map adr) i (some (adr v)))))))) = wl sh cA adr (uR me k i (some v)) := by
  refine wl_set h ?_ (fun j t hj => cel_uR_ne j t hj)
  simp only [cel]
  have ef : (fun b => (gR (uR me k i (some v)) k b).map adr) = va_up (fun i => (gR me k i).map adr) i (some (adr v)) := by
    funext b
    by_cases hb : b = i
    · subst hb; simp [gR_uR, va_up]
    · simp [gR_uR, va_up, hb]
  rw [ef]
/-! ===== words ===== -/
def WS : List Cond := lw_tbl.filter goodWord
theorem inWS {w : Cond} (i : Nat) (h : lw_tbl[i]? = some w) (g : goodWord w = true) : w ∈ WS := List.mem_filter.mpr ⟨List.mem_of_getElem? h, g⟩
def isNst (w : Cond) : Bool := match w with
  | .methodLinkNest _ _ _ _ => true
  | _ => false
def Nst (U : State) : Prop := ∀ w ∈ lw_tbl, isNst w = true → va_Nw w U
theorem Nst.warm {s U : State} (hW : s.WarmedH U.vm) (h : Nst s) : Nst U := by
  intro w hw hn
  have h1 := h w hw hn
  cases w <;> simp only [isNst] at hn <;> first | exact va_Nw.warmM hW h1 | cases hn
theorem Nst.same {s U : State} (he : s.vm = U.vm) (h : Nst s) : Nst U := by
  intro w hw hn
  have h1 := h w hw hn
  cases w <;> simp only [isNst] at hn <;> first | exact va_Nw.same rfl he h1 | cases hn
abbrev MR : Type := MethodName × ByteArray × Nat × Option FieldType
def wsM (M : MR) : List Cond := Cond.code M.1 M.2.1 M.2.2.1 M.2.2.2 :: WS
def rmD (d mc ms : Nat) : Room := { frames := d, cells := mc, slots := ms, locals := 48 * d }
/-! ===== locals: a list of values, .float 0 where nothing is known ===== -/
def Lr (adr : Nat → Nat) (L : List Value) (ls : Array Slot) (n : Nat) : Prop := ls.size = n ∧ lv_wf ls ∧ ∀ (i : Nat) (v : Value), L[i]? = some v → v ≠ .float 0 → ls[i]? = some (.val (cv adr v))
theorem cv_cat (adr : Nat → Nat) (v : Value) : (cv adr v).category = v.category := by cases v <;> rfl
def las (adr : Nat → Nat) (L : List Value) : List (Nat × Value) := (List.range L.length).filterMap (fun i => (L[i]?).bind (fun v => if v = .float 0 then none else some (i, cv adr v)))
theorem las_mem {adr : Nat → Nat} {L : List Value} {q : Nat × Value} : q ∈ las adr L ↔ ∃ v, L[q.1]? = some v ∧ v ≠ .float 0 ∧ q.2 = cv adr v := by
  unfold las
  rw [List.mem_filterMap]
  constructor
  · rintro ⟨i, -, h⟩
    cases hv : L[i]? with
    | none => rw [hv] at h; cases h
    | some v =>
      rw [hv] at h
      simp only [Option.bind_some] at h
      split at h
      · cases h
      · rename_i hne
        cases h
        exact ⟨v, hv, hne, rfl⟩
  · rintro ⟨v, h1, h2, h3⟩
    refine ⟨q.1, List.mem_range.mpr (List.getElem?_eq_some_iff.mp h1).1, ?_⟩
    rw [h1]
    simp only [Option.bind_some, if_neg h2, ← h3]
theorem Lr.has {adr : Nat → Nat} {L : List Value} {ls : Array Slot} {n : Nat} (h : Lr adr L ls n) : lv_has ls n (las adr L) := by
  refine ⟨h.1, h.2.1, fun q hq => ?_⟩
  obtain ⟨v, h1, h2, h3⟩ := las_mem.mp hq
  rw [h3]
  exact h.2.2 q.1 v h1 h2
theorem Lr.get {adr : Nat → Nat} {L : List Value} {ls : Array Slot} {n i : Nat} {v : Value} (h : Lr adr L ls n) (hv : L[i]? = some v) (hne : v ≠ .float 0) : ls[i]? = some (.val (cv adr v)) := h.2.2 i v hv hne
theorem Lr.set1 {adr : Nat → Nat} {L : List Value} {ls' : Array Slot} {n i : Nat} {v : Value} (h' : lv_has ls' n ((i, cv adr v) :: (las adr L).filter (fun q => !(q.1 == i) && !(q.1 + 1 == i && q.2.category == 2)))) (hp : ∀ w, 0 < i → L[i - 1]? = some w → w.category = 1) : Lr adr (L.set i v) ls' n := by
  refine ⟨h'.1, h'.2.1, fun j w hj hw => ?_⟩
  by_cases hji : j = i
  · subst hji
    rw [List.getElem?_set_self'] at hj
    cases hL : L[j]? with
    | none => rw [hL] at hj; cases hj
    | some u =>
      rw [hL] at hj
      cases hj
      exact h'.2.2 (j, cv adr v) List.mem_cons_self
  · rw [List.getElem?_set_ne (Ne.symm hji)] at hj
    refine h'.2.2 (j, cv adr w) (List.mem_cons_of_mem _ (List.mem_filter.mpr ⟨las_mem.mpr ⟨w, hj, hw, rfl⟩, ?_⟩))
    have h1 : (j == i) = false := by simp [hji]
    by_cases h2 : j + 1 = i
    · subst h2
      have h3 := hp w (by omega) (by simpa using hj)
      simp [cv_cat, h3]
    · simp [h1, h2]
theorem Lr.moved {adr adr' : Nat → Nat} {L : List Value} {ls : Array Slot} {n : Nat} (h : Lr adr L ls n) (he : ∀ v ∈ L, cv adr' v = cv adr v) : Lr adr' L ls n := ⟨h.1, h.2.1, fun i v hv hn => by rw [he v (List.mem_of_getElem? hv)]; exact h.2.2 i v hv hn⟩
/-! ===== the judgement ===== -/
def ext (n n' : Nat) (a b : Nat → Nat) : Prop := ∀ k, k < n ∨ n' ≤ k → b k = a k
def RetOK (M : MR) (v : Option Value) (pc : Nat) : Prop := match v with
  | none => decode M.2.1 pc = .ok (.return_, 1) ∧ M.2.2.2 = none
  | some (.int x) => decode M.2.1 pc = .ok (.ireturn, 1) ∧ ∃ ty, M.2.2.2 = some ty ∧ narrow ty (.int x) = .int x
  | _ => False
abbrev Post : Type := Option Value → List Shp → Mem → Prop
abbrev Scr : Type := Nat × (Nat → Int32)
def Cx (M : MR) (sx : Scr) (d mc ms n0 : Nat) (Q : Post) (l : Launch) (p : Program) (e : Env) (R : Room) (s : State) (m : MethodId) (args : Array Value) (below : List Frame) (meth : Method) (c : Code) (D : va_G) (cA : Nat → ClassId) (adr0 : Nat → Nat) (A : Nat → Prop) (Z : State → Prop) : Prop :=
  (p.tables.exec = Jvm.exec ∧ c.code = M.2.1 ∧ c.maxLocals = M.2.2.1 ∧ meth.name = M.1.name ∧ s.vm.findClass M.1.cls = some m.cls) ∧ (∀ w ∈ WS, w.before args s = true) ∧ Nst s ∧ va_K D vwCl (tysC cA) s ∧ (∀ q, s.heap.size ≤ q → A q) ∧ (d ≤ R.frames ∧ 48 * d ≤ R.locals ∧ mc ≤ R.cells ∧ ms ≤ R.slots) ∧
  (sx.1 = 0 ∨ (va_X (adr0 999999) sx.1 sx.2 s s.heap ∧ adr0 999999 < s.heap.size ∧ ¬ A (adr0 999999))) ∧
  (∀ (v : Option Value) (sh : List Shp) (me : Mem) (adr : Nat → Nat) (H : Heap) (locs : List Loc) (ls : Array Slot) (pc : Nat), Q v sh me → RetOK M v pc → ext n0 sh.length adr0 adr → va_P D vwCl (wl sh cA adr me) H → va_D A (wl sh cA adr me) → va_S A s.heap H locs → W p l e R s m args below meth c H locs mc ms Z (F0 m pc ls v.toList))
def Wa (M : MR) (sx : Scr) (d mc ms n0 : Nat) (Q : Post) (pc : Nat) (L st : List Value) (sh : List Shp) (me : Mem) (cs sl : Nat) : Prop :=
  ∀ (l : Launch) (p : Program) (e : Env) (R : Room) (s : State) (m : MethodId) (args : Array Value) (below : List Frame) (meth : Method) (c : Code) (D : va_G) (cA : Nat → ClassId) (adr0 : Nat → Nat) (A : Nat → Prop) (Z : State → Prop), Cx M sx d mc ms n0 Q l p e R s m args below meth c D cA adr0 A Z →
  ∀ (adr : Nat → Nat) (H : Heap) (locs : List Loc) (ls : Array Slot), ext n0 sh.length adr0 adr → va_P D vwCl (wl sh cA adr me) H → va_D A (wl sh cA adr me) → va_S A s.heap H locs → Lr adr L ls M.2.2.1 → W p l e R s m args below meth c H locs cs sl Z (F0 m pc ls (st.map (cv adr)))
section RULES
variable {M : MR} {sx : Scr} {d mc ms n0 : Nat} {Q : Post} {pc np tg : Nat} {L st : List Value} {sh : List Shp} {me : Mem} {cs sl : Nat}
theorem wl_iadd {x y : Int32} (hd : decode M.2.1 pc = .ok (.iadd, 1)) (hn : pc + 1 = np) (k : Wa M sx d mc ms n0 Q np L (.int (x + y) :: st) sh me cs sl) : Wa M sx d mc ms n0 Q pc L (.int y :: .int x :: st) sh me cs sl := by
  subst hn
  intro l p e R s m args below meth c D cA adr0 A Z C adr H locs ls he hP hD hS hL
  exact lv_iadd C.1.1 C.1.2.1 hd  (k l p e R s m args below meth c D cA adr0 A Z C adr H locs ls he hP hD hS hL)
theorem wl_isub {x y : Int32} (hd : decode M.2.1 pc = .ok (.isub, 1)) (hn : pc + 1 = np) (k : Wa M sx d mc ms n0 Q np L (.int (x - y) :: st) sh me cs sl) : Wa M sx d mc ms n0 Q pc L (.int y :: .int x :: st) sh me cs sl := by
  subst hn
  intro l p e R s m args below meth c D cA adr0 A Z C adr H locs ls he hP hD hS hL
  exact lv_isub C.1.1 C.1.2.1 hd  (k l p e R s m args below meth c D cA adr0 A Z C adr H locs ls he hP hD hS hL)
theorem wl_imul {x y : Int32} (hd : decode M.2.1 pc = .ok (.imul, 1)) (hn : pc + 1 = np) (k : Wa M sx d mc ms n0 Q np L (.int (x * y) :: st) sh me cs sl) : Wa M sx d mc ms n0 Q pc L (.int y :: .int x :: st) sh me cs sl := by
  subst hn
  intro l p e R s m args below meth c D cA adr0 A Z C adr H locs ls he hP hD hS hL
  exact lv_imul C.1.1 C.1.2.1 hd  (k l p e R s m args below meth c D cA adr0 A Z C adr H locs ls he hP hD hS hL)
theorem wl_iand {x y : Int32} (hd : decode M.2.1 pc = .ok (.iand, 1)) (hn : pc + 1 = np) (k : Wa M sx d mc ms n0 Q np L (.int (x &&& y) :: st) sh me cs sl) : Wa M sx d mc ms n0 Q pc L (.int y :: .int x :: st) sh me cs sl := by
  subst hn
  intro l p e R s m args below meth c D cA adr0 A Z C adr H locs ls he hP hD hS hL
  exact lv_iand C.1.1 C.1.2.1 hd  (k l p e R s m args below meth c D cA adr0 A Z C adr H locs ls he hP hD hS hL)
theorem wl_ior {x y : Int32} (hd : decode M.2.1 pc = .ok (.ior, 1)) (hn : pc + 1 = np) (k : Wa M sx d mc ms n0 Q np L (.int (x ||| y) :: st) sh me cs sl) : Wa M sx d mc ms n0 Q pc L (.int y :: .int x :: st) sh me cs sl := by
  subst hn
  intro l p e R s m args below meth c D cA adr0 A Z C adr H locs ls he hP hD hS hL
  exact lv_ior C.1.1 C.1.2.1 hd  (k l p e R s m args below meth c D cA adr0 A Z C adr H locs ls he hP hD hS hL)
theorem wl_ixor {x y : Int32} (hd : decode M.2.1 pc = .ok (.ixor, 1)) (hn : pc + 1 = np) (k : Wa M sx d mc ms n0 Q np L (.int (x ^^^ y) :: st) sh me cs sl) : Wa M sx d mc ms n0 Q pc L (.int y :: .int x :: st) sh me cs sl := by
  subst hn
  intro l p e R s m args below meth c D cA adr0 A Z C adr H locs ls he hP hD hS hL
  exact lv_ixor C.1.1 C.1.2.1 hd  (k l p e R s m args below meth c D cA adr0 A Z C adr H locs ls he hP hD hS hL)
theorem wl_ishl {x y : Int32} (hd : decode M.2.1 pc = .ok (.ishl, 1)) (hn : pc + 1 = np) (k : Wa M sx d mc ms n0 Q np L (.int (x <<< (y &&& 31)) :: st) sh me cs sl) : Wa M sx d mc ms n0 Q pc L (.int y :: .int x :: st) sh me cs sl := by
  subst hn
  intro l p e R s m args below meth c D cA adr0 A Z C adr H locs ls he hP hD hS hL
  exact lv_ishl C.1.1 C.1.2.1 hd  (k l p e R s m args below meth c D cA adr0 A Z C adr H locs ls he hP hD hS hL)
theorem wl_ishr {x y : Int32} (hd : decode M.2.1 pc = .ok (.ishr, 1)) (hn : pc + 1 = np) (k : Wa M sx d mc ms n0 Q np L (.int (x >>> (y &&& 31)) :: st) sh me cs sl) : Wa M sx d mc ms n0 Q pc L (.int y :: .int x :: st) sh me cs sl := by
  subst hn
  intro l p e R s m args below meth c D cA adr0 A Z C adr H locs ls he hP hD hS hL
  exact lv_ishr C.1.1 C.1.2.1 hd  (k l p e R s m args below meth c D cA adr0 A Z C adr H locs ls he hP hD hS hL)
theorem wl_idiv {x y : Int32} (hd : decode M.2.1 pc = .ok (.idiv, 1)) (hn : pc + 1 = np) (hne : ¬ y = 0) (k : Wa M sx d mc ms n0 Q np L (.int (x / y) :: st) sh me cs sl) : Wa M sx d mc ms n0 Q pc L (.int y :: .int x :: st) sh me cs sl := by
  subst hn
  intro l p e R s m args below meth c D cA adr0 A Z C adr H locs ls he hP hD hS hL
  exact lv_idiv C.1.1 C.1.2.1 hd hne (k l p e R s m args below meth c D cA adr0 A Z C adr H locs ls he hP hD hS hL)
theorem wl_irem {x y : Int32} (hd : decode M.2.1 pc = .ok (.irem, 1)) (hn : pc + 1 = np) (hne : ¬ y = 0) (k : Wa M sx d mc ms n0 Q np L (.int (x - x / y * y) :: st) sh me cs sl) : Wa M sx d mc ms n0 Q pc L (.int y :: .int x :: st) sh me cs sl := by
  subst hn
  intro l p e R s m args below meth c D cA adr0 A Z C adr H locs ls he hP hD hS hL
  exact lv_irem C.1.1 C.1.2.1 hd hne (k l p e R s m args below meth c D cA adr0 A Z C adr H locs ls he hP hD hS hL)
theorem wl_land {x y : Int64} (hd : decode M.2.1 pc = .ok (.land, 1)) (hn : pc + 1 = np) (k : Wa M sx d mc ms n0 Q np L (.long (x &&& y) :: st) sh me cs sl) : Wa M sx d mc ms n0 Q pc L (.long y :: .long x :: st) sh me cs sl := by
  subst hn
  intro l p e R s m args below meth c D cA adr0 A Z C adr H locs ls he hP hD hS hL
  exact lv_land C.1.1 C.1.2.1 hd  (k l p e R s m args below meth c D cA adr0 A Z C adr H locs ls he hP hD hS hL)
theorem wl_lor {x y : Int64} (hd : decode M.2.1 pc = .ok (.lor, 1)) (hn : pc + 1 = np) (k : Wa M sx d mc ms n0 Q np L (.long (x ||| y) :: st) sh me cs sl) : Wa M sx d mc ms n0 Q pc L (.long y :: .long x :: st) sh me cs sl := by
  subst hn
  intro l p e R s m args below meth c D cA adr0 A Z C adr H locs ls he hP hD hS hL
  exact lv_lor C.1.1 C.1.2.1 hd  (k l p e R s m args below meth c D cA adr0 A Z C adr H locs ls he hP hD hS hL)
theorem wl_ladd {x y : Int64} (hd : decode M.2.1 pc = .ok (.ladd, 1)) (hn : pc + 1 = np) (k : Wa M sx d mc ms n0 Q np L (.long (x + y) :: st) sh me cs sl) : Wa M sx d mc ms n0 Q pc L (.long y :: .long x :: st) sh me cs sl := by
  subst hn
  intro l p e R s m args below meth c D cA adr0 A Z C adr H locs ls he hP hD hS hL
  exact lv_ladd C.1.1 C.1.2.1 hd  (k l p e R s m args below meth c D cA adr0 A Z C adr H locs ls he hP hD hS hL)
theorem wl_lshl {x : Int64} {y : Int32} (hd : decode M.2.1 pc = .ok (.lshl, 1)) (hn : pc + 1 = np) (k : Wa M sx d mc ms n0 Q np L (.long (x <<< (y.toInt64 &&& 63)) :: st) sh me cs sl) : Wa M sx d mc ms n0 Q pc L (.int y :: .long x :: st) sh me cs sl := by
  subst hn
  intro l p e R s m args below meth c D cA adr0 A Z C adr H locs ls he hP hD hS hL
  exact lv_lshl C.1.1 C.1.2.1 hd rfl (k l p e R s m args below meth c D cA adr0 A Z C adr H locs ls he hP hD hS hL)
theorem wl_lshr {x : Int64} {y : Int32} (hd : decode M.2.1 pc = .ok (.lshr, 1)) (hn : pc + 1 = np) (k : Wa M sx d mc ms n0 Q np L (.long (x >>> (y.toInt64 &&& 63)) :: st) sh me cs sl) : Wa M sx d mc ms n0 Q pc L (.int y :: .long x :: st) sh me cs sl := by
  subst hn
  intro l p e R s m args below meth c D cA adr0 A Z C adr H locs ls he hP hD hS hL
  exact lv_lshr C.1.1 C.1.2.1 hd rfl (k l p e R s m args below meth c D cA adr0 A Z C adr H locs ls he hP hD hS hL)
theorem wl_lcmp {x y : Int64} (hd : decode M.2.1 pc = .ok (.lcmp, 1)) (hn : pc + 1 = np) (k : Wa M sx d mc ms n0 Q np L (.int (lg_cmp x y) :: st) sh me cs sl) : Wa M sx d mc ms n0 Q pc L (.long y :: .long x :: st) sh me cs sl := by
  subst hn
  intro l p e R s m args below meth c D cA adr0 A Z C adr H locs ls he hP hD hS hL
  exact W.lcmp C.1.1 C.1.2.1 hd  (k l p e R s m args below meth c D cA adr0 A Z C adr H locs ls he hP hD hS hL)
theorem wl_i2l {x : Int32} (hd : decode M.2.1 pc = .ok (.i2l, 1)) (hn : pc + 1 = np) (k : Wa M sx d mc ms n0 Q np L (.long x.toInt64 :: st) sh me cs sl) : Wa M sx d mc ms n0 Q pc L (.int x :: st) sh me cs sl := by
  subst hn
  intro l p e R s m args below meth c D cA adr0 A Z C adr H locs ls he hP hD hS hL
  exact lv_i2l C.1.1 C.1.2.1 hd rfl (k l p e R s m args below meth c D cA adr0 A Z C adr H locs ls he hP hD hS hL)
theorem wl_l2i {x : Int64} (hd : decode M.2.1 pc = .ok (.l2i, 1)) (hn : pc + 1 = np) (k : Wa M sx d mc ms n0 Q np L (.int x.toInt32 :: st) sh me cs sl) : Wa M sx d mc ms n0 Q pc L (.long x :: st) sh me cs sl := by
  subst hn
  intro l p e R s m args below meth c D cA adr0 A Z C adr H locs ls he hP hD hS hL
  exact lv_l2i C.1.1 C.1.2.1 hd rfl (k l p e R s m args below meth c D cA adr0 A Z C adr H locs ls he hP hD hS hL)
theorem wl_i2b {x : Int32} (hd : decode M.2.1 pc = .ok (.i2b, 1)) (hn : pc + 1 = np) (k : Wa M sx d mc ms n0 Q np L (.int x.toInt8.toInt32 :: st) sh me cs sl) : Wa M sx d mc ms n0 Q pc L (.int x :: st) sh me cs sl := by
  subst hn
  intro l p e R s m args below meth c D cA adr0 A Z C adr H locs ls he hP hD hS hL
  exact lv_i2b C.1.1 C.1.2.1 hd rfl (k l p e R s m args below meth c D cA adr0 A Z C adr H locs ls he hP hD hS hL)
theorem wl_i2s {x : Int32} (hd : decode M.2.1 pc = .ok (.i2s, 1)) (hn : pc + 1 = np) (k : Wa M sx d mc ms n0 Q np L (.int x.toInt16.toInt32 :: st) sh me cs sl) : Wa M sx d mc ms n0 Q pc L (.int x :: st) sh me cs sl := by
  subst hn
  intro l p e R s m args below meth c D cA adr0 A Z C adr H locs ls he hP hD hS hL
  exact lv_i2s C.1.1 C.1.2.1 hd rfl (k l p e R s m args below meth c D cA adr0 A Z C adr H locs ls he hP hD hS hL)
theorem wl_iconst {n : Int} {v : Int32} (hd : decode M.2.1 pc = .ok (.iconst n, 1)) (hn : pc + 1 = np) (hv : Int32.ofInt n = v) (k : Wa M sx d mc ms n0 Q np L (.int v :: st) sh me cs sl) : Wa M sx d mc ms n0 Q pc L st sh me cs sl := by
  subst hn
  intro l p e R s m args below meth c D cA adr0 A Z C adr H locs ls he hP hD hS hL
  exact lv_iconst C.1.1 C.1.2.1 hd hv (k l p e R s m args below meth c D cA adr0 A Z C adr H locs ls he hP hD hS hL)
theorem wl_bipush {n : Int} {v : Int32} (hd : decode M.2.1 pc = .ok (.bipush n, 2)) (hn : pc + 2 = np) (hv : (Int8.ofInt n).toInt32 = v) (k : Wa M sx d mc ms n0 Q np L (.int v :: st) sh me cs sl) : Wa M sx d mc ms n0 Q pc L st sh me cs sl := by
  subst hn
  intro l p e R s m args below meth c D cA adr0 A Z C adr H locs ls he hP hD hS hL
  exact lv_bipush C.1.1 C.1.2.1 hd hv (k l p e R s m args below meth c D cA adr0 A Z C adr H locs ls he hP hD hS hL)
theorem wl_sipush {n : Int} {v : Int32} (hd : decode M.2.1 pc = .ok (.sipush n, 3)) (hn : pc + 3 = np) (hv : (Int16.ofInt n).toInt32 = v) (k : Wa M sx d mc ms n0 Q np L (.int v :: st) sh me cs sl) : Wa M sx d mc ms n0 Q pc L st sh me cs sl := by
  subst hn
  intro l p e R s m args below meth c D cA adr0 A Z C adr H locs ls he hP hD hS hL
  exact lv_sipush C.1.1 C.1.2.1 hd hv (k l p e R s m args below meth c D cA adr0 A Z C adr H locs ls he hP hD hS hL)
theorem wl_lconst {n : Fin 2} {v : Int64} (hd : decode M.2.1 pc = .ok (.lconst n, 1)) (hn : pc + 1 = np) (hv : Int64.ofNat (n : Nat) = v) (k : Wa M sx d mc ms n0 Q np L (.long v :: st) sh me cs sl) : Wa M sx d mc ms n0 Q pc L st sh me cs sl := by
  subst hn
  intro l p e R s m args below meth c D cA adr0 A Z C adr H locs ls he hP hD hS hL
  exact lv_lconst C.1.1 C.1.2.1 hd hv (k l p e R s m args below meth c D cA adr0 A Z C adr H locs ls he hP hD hS hL)
theorem wl_null  (hd : decode M.2.1 pc = .ok (.aconst_null, 1)) (hn : pc + 1 = np) (k : Wa M sx d mc ms n0 Q np L (.null :: st) sh me cs sl) : Wa M sx d mc ms n0 Q pc L st sh me cs sl := by
  subst hn
  intro l p e R s m args below meth c D cA adr0 A Z C adr H locs ls he hP hD hS hL
  exact lv_null C.1.1 C.1.2.1 hd  (k l p e R s m args below meth c D cA adr0 A Z C adr H locs ls he hP hD hS hL)
theorem wl_dup {va : Value} (hd : decode M.2.1 pc = .ok (.dup, 1)) (hn : pc + 1 = np) (hc : va.category = 1) (k : Wa M sx d mc ms n0 Q np L (va :: va :: st) sh me cs sl) : Wa M sx d mc ms n0 Q pc L (va :: st) sh me cs sl := by
  subst hn
  intro l p e R s m args below meth c D cA adr0 A Z C adr H locs ls he hP hD hS hL
  exact lv_dup C.1.1 C.1.2.1 hd ((cv_cat adr va).trans hc) (k l p e R s m args below meth c D cA adr0 A Z C adr H locs ls he hP hD hS hL)
theorem wl_pop {va : Value} (hd : decode M.2.1 pc = .ok (.pop, 1)) (hn : pc + 1 = np) (hc : va.category = 1) (k : Wa M sx d mc ms n0 Q np L st sh me cs sl) : Wa M sx d mc ms n0 Q pc L (va :: st) sh me cs sl := by
  subst hn
  intro l p e R s m args below meth c D cA adr0 A Z C adr H locs ls he hP hD hS hL
  exact lv_pop C.1.1 C.1.2.1 hd ((cv_cat adr va).trans hc) (k l p e R s m args below meth c D cA adr0 A Z C adr H locs ls he hP hD hS hL)
theorem wl_dup2 {va vb : Value} (hd : decode M.2.1 pc = .ok (.dup2, 1)) (hn : pc + 1 = np) (hc : va.category = 1) (hc2 : vb.category = 1) (k : Wa M sx d mc ms n0 Q np L (va :: vb :: va :: vb :: st) sh me cs sl) : Wa M sx d mc ms n0 Q pc L (va :: vb :: st) sh me cs sl := by
  subst hn
  intro l p e R s m args below meth c D cA adr0 A Z C adr H locs ls he hP hD hS hL
  exact lv_dup2_11 C.1.1 C.1.2.1 hd ((cv_cat adr va).trans hc) ((cv_cat adr vb).trans hc2) (k l p e R s m args below meth c D cA adr0 A Z C adr H locs ls he hP hD hS hL)
theorem wl_ldc {idx : Nat} {v : Int32} (hd : decode M.2.1 pc = .ok (.ldc idx, 2)) (hn : pc + 2 = np) (hw : Cond.constant M.1.cls idx v ∈ WS) (k : Wa M sx d mc ms n0 Q np L (.int v :: st) sh me cs sl) : Wa M sx d mc ms n0 Q pc L st sh me cs sl := by
  subst hn
  intro l p e R s m args below meth c D cA adr0 A Z C adr H locs ls he hP hD hS hL
  exact lv_ldc C.1.1 C.1.2.1 C.1.2.2.2.2 (C.2.1 _ hw) hd (k l p e R s m args below meth c D cA adr0 A Z C adr H locs ls he hP hD hS hL)
theorem wl_ldc2 {idx : Nat} {v : Int64} (hd : decode M.2.1 pc = .ok (.ldc2_w idx, 3)) (hn : pc + 3 = np) (hw : Cond.constantLong M.1.cls idx v ∈ WS) (k : Wa M sx d mc ms n0 Q np L (.long v :: st) sh me cs sl) : Wa M sx d mc ms n0 Q pc L st sh me cs sl := by
  subst hn
  intro l p e R s m args below meth c D cA adr0 A Z C adr H locs ls he hP hD hS hL
  exact lv_ldc2 C.1.1 C.1.2.1 C.1.2.2.2.2 (C.2.1 _ hw) hd (k l p e R s m args below meth c D cA adr0 A Z C adr H locs ls he hP hD hS hL)
theorem wl_iload_n {i : Nat} {j : Fin 4} {x : Int32} (hd : decode M.2.1 pc = .ok (.iload_n j, 1)) (hn : pc + 1 = np) (hj : (j : Nat) = i) (hv : L[i]? = some (.int x)) (k : Wa M sx d mc ms n0 Q np L (.int x :: st) sh me cs sl) : Wa M sx d mc ms n0 Q pc L st sh me cs sl := by
  subst hn
  intro l p e R s m args below meth c D cA adr0 A Z C adr H locs ls he hP hD hS hL
  exact lv_iload_n C.1.1 C.1.2.1 hd hj (hL.get hv (fun h => by cases h)) (k l p e R s m args below meth c D cA adr0 A Z C adr H locs ls he hP hD hS hL)
theorem wl_iload {i : Nat} {x : Int32} (hd : decode M.2.1 pc = .ok (.iload i, 2)) (hn : pc + 2 = np) (hv : L[i]? = some (.int x)) (k : Wa M sx d mc ms n0 Q np L (.int x :: st) sh me cs sl) : Wa M sx d mc ms n0 Q pc L st sh me cs sl := by
  subst hn
  intro l p e R s m args below meth c D cA adr0 A Z C adr H locs ls he hP hD hS hL
  exact lv_iload C.1.1 C.1.2.1 hd (hL.get hv (fun h => by cases h)) (k l p e R s m args below meth c D cA adr0 A Z C adr H locs ls he hP hD hS hL)
theorem wl_lload_n {i : Nat} {j : Fin 4} {x : Int64} (hd : decode M.2.1 pc = .ok (.lload_n j, 1)) (hn : pc + 1 = np) (hj : (j : Nat) = i) (hv : L[i]? = some (.long x)) (k : Wa M sx d mc ms n0 Q np L (.long x :: st) sh me cs sl) : Wa M sx d mc ms n0 Q pc L st sh me cs sl := by
  subst hn
  intro l p e R s m args below meth c D cA adr0 A Z C adr H locs ls he hP hD hS hL
  exact lv_lload_n C.1.1 C.1.2.1 hd hj (hL.get hv (fun h => by cases h)) (k l p e R s m args below meth c D cA adr0 A Z C adr H locs ls he hP hD hS hL)
theorem wl_lload {i : Nat} {x : Int64} (hd : decode M.2.1 pc = .ok (.lload i, 2)) (hn : pc + 2 = np) (hv : L[i]? = some (.long x)) (k : Wa M sx d mc ms n0 Q np L (.long x :: st) sh me cs sl) : Wa M sx d mc ms n0 Q pc L st sh me cs sl := by
  subst hn
  intro l p e R s m args below meth c D cA adr0 A Z C adr H locs ls he hP hD hS hL
  exact lv_lload C.1.1 C.1.2.1 hd (hL.get hv (fun h => by cases h)) (k l p e R s m args below meth c D cA adr0 A Z C adr H locs ls he hP hD hS hL)
theorem wl_aload_n {i : Nat} {j : Fin 4} {x : Nat} (hd : decode M.2.1 pc = .ok (.aload_n j, 1)) (hn : pc + 1 = np) (hj : (j : Nat) = i) (hv : L[i]? = some (.ref x)) (k : Wa M sx d mc ms n0 Q np L (.ref x :: st) sh me cs sl) : Wa M sx d mc ms n0 Q pc L st sh me cs sl := by
  subst hn
  intro l p e R s m args below meth c D cA adr0 A Z C adr H locs ls he hP hD hS hL
  exact lv_aload_n C.1.1 C.1.2.1 hd hj (hL.get hv (fun h => by cases h)) (k l p e R s m args below meth c D cA adr0 A Z C adr H locs ls he hP hD hS hL)
theorem wl_aload {i : Nat} {x : Nat} (hd : decode M.2.1 pc = .ok (.aload i, 2)) (hn : pc + 2 = np) (hv : L[i]? = some (.ref x)) (k : Wa M sx d mc ms n0 Q np L (.ref x :: st) sh me cs sl) : Wa M sx d mc ms n0 Q pc L st sh me cs sl := by
  subst hn
  intro l p e R s m args below meth c D cA adr0 A Z C adr H locs ls he hP hD hS hL
  exact lv_aload C.1.1 C.1.2.1 hd (hL.get hv (fun h => by cases h)) (k l p e R s m args below meth c D cA adr0 A Z C adr H locs ls he hP hD hS hL)
theorem wl_istore_n {i : Nat} {j : Fin 4} {x : Int32} (hd : decode M.2.1 pc = .ok (.istore_n j, 1)) (hn : pc + 1 = np) (hj : (j : Nat) = i) (hi : i < M.2.2.1) (hp : ∀ w, 0 < i → L[i - 1]? = some w → w.category = 1) (k : Wa M sx d mc ms n0 Q np (L.set i (.int x)) st sh me cs sl) : Wa M sx d mc ms n0 Q pc L (.int x :: st) sh me cs sl := by
  subst hn
  intro l p e R s m args below meth c D cA adr0 A Z C adr H locs ls he hP hD hS hL
  exact lv_istore_n C.1.1 C.1.2.1 hd hj hL.has hi rfl (fun ls' hl' => k l p e R s m args below meth c D cA adr0 A Z C adr H locs ls' he hP hD hS (Lr.set1 (v := .int x) hl' hp))
theorem wl_istore {i : Nat} {x : Int32} (hd : decode M.2.1 pc = .ok (.istore i, 2)) (hn : pc + 2 = np) (hi : i < M.2.2.1) (hp : ∀ w, 0 < i → L[i - 1]? = some w → w.category = 1) (k : Wa M sx d mc ms n0 Q np (L.set i (.int x)) st sh me cs sl) : Wa M sx d mc ms n0 Q pc L (.int x :: st) sh me cs sl := by
  subst hn
  intro l p e R s m args below meth c D cA adr0 A Z C adr H locs ls he hP hD hS hL
  exact lv_istore C.1.1 C.1.2.1 hd hL.has hi rfl (fun ls' hl' => k l p e R s m args below meth c D cA adr0 A Z C adr H locs ls' he hP hD hS (Lr.set1 (v := .int x) hl' hp))
theorem wl_astore_n {i : Nat} {j : Fin 4} {x : Nat} (hd : decode M.2.1 pc = .ok (.astore_n j, 1)) (hn : pc + 1 = np) (hj : (j : Nat) = i) (hi : i < M.2.2.1) (hp : ∀ w, 0 < i → L[i - 1]? = some w → w.category = 1) (k : Wa M sx d mc ms n0 Q np (L.set i (.ref x)) st sh me cs sl) : Wa M sx d mc ms n0 Q pc L (.ref x :: st) sh me cs sl := by
  subst hn
  intro l p e R s m args below meth c D cA adr0 A Z C adr H locs ls he hP hD hS hL
  exact lv_astore_n C.1.1 C.1.2.1 hd hj hL.has hi rfl (fun ls' hl' => k l p e R s m args below meth c D cA adr0 A Z C adr H locs ls' he hP hD hS (Lr.set1 (v := .ref x) hl' hp))
theorem wl_astore {i : Nat} {x : Nat} (hd : decode M.2.1 pc = .ok (.astore i, 2)) (hn : pc + 2 = np) (hi : i < M.2.2.1) (hp : ∀ w, 0 < i → L[i - 1]? = some w → w.category = 1) (k : Wa M sx d mc ms n0 Q np (L.set i (.ref x)) st sh me cs sl) : Wa M sx d mc ms n0 Q pc L (.ref x :: st) sh me cs sl := by
  subst hn
  intro l p e R s m args below meth c D cA adr0 A Z C adr H locs ls he hP hD hS hL
  exact lv_astore C.1.1 C.1.2.1 hd hL.has hi rfl (fun ls' hl' => k l p e R s m args below meth c D cA adr0 A Z C adr H locs ls' he hP hD hS (Lr.set1 (v := .ref x) hl' hp))
theorem wl_iinc {i : Nat} {n : Int} {x v : Int32} (hd : decode M.2.1 pc = .ok (.iinc i n, 3)) (hn : pc + 3 = np) (hv : L[i]? = some (.int x)) (hx : x + Int32.ofInt n = v) (hi : i < M.2.2.1) (hp : ∀ w, 0 < i → L[i - 1]? = some w → w.category = 1) (k : Wa M sx d mc ms n0 Q np (L.set i (.int v)) st sh me cs sl) : Wa M sx d mc ms n0 Q pc L st sh me cs sl := by
  subst hn
  intro l p e R s m args below meth c D cA adr0 A Z C adr H locs ls he hP hD hS hL
  have hne : Value.int x ≠ Value.float 0 := by intro h; cases h
  obtain ⟨j, hj⟩ := List.getElem?_of_mem (las_mem.mpr ⟨.int x, hv, hne, rfl⟩ : (i, Value.int x) ∈ las adr L)
  exact lv_iinc C.1.1 C.1.2.1 hd hL.has hj hx hi rfl (fun ls' hl' => k l p e R s m args below meth c D cA adr0 A Z C adr H locs ls' he hP hD hS (Lr.set1 (v := .int v) hl' hp))
theorem wl_if_eq {x : Int32} {off : Int} (hd : decode M.2.1 pc = .ok (.ifCond .eq off, 3)) (hn : pc + 3 = np) (ht : (pc : Int) + off = (tg : Int)) (kt : x = 0 → Wa M sx d mc ms n0 Q tg L st sh me cs sl) (kf : ¬ x = 0 → Wa M sx d mc ms n0 Q np L st sh me cs sl) : Wa M sx d mc ms n0 Q pc L (.int x :: st) sh me cs sl := by
  subst hn
  intro l p e R s m args below meth c D cA adr0 A Z C adr H locs ls he hP hD hS hL
  exact lv_if_eq C.1.1 C.1.2.1 hd ht (fun q => kt q l p e R s m args below meth c D cA adr0 A Z C adr H locs ls he hP hD hS hL) (fun q => kf q l p e R s m args below meth c D cA adr0 A Z C adr H locs ls he hP hD hS hL)
theorem wl_if_ne {x : Int32} {off : Int} (hd : decode M.2.1 pc = .ok (.ifCond .ne off, 3)) (hn : pc + 3 = np) (ht : (pc : Int) + off = (tg : Int)) (kt : ¬ x = 0 → Wa M sx d mc ms n0 Q tg L st sh me cs sl) (kf : x = 0 → Wa M sx d mc ms n0 Q np L st sh me cs sl) : Wa M sx d mc ms n0 Q pc L (.int x :: st) sh me cs sl := by
  subst hn
  intro l p e R s m args below meth c D cA adr0 A Z C adr H locs ls he hP hD hS hL
  exact lv_if_ne C.1.1 C.1.2.1 hd ht (fun q => kt q l p e R s m args below meth c D cA adr0 A Z C adr H locs ls he hP hD hS hL) (fun q => kf q l p e R s m args below meth c D cA adr0 A Z C adr H locs ls he hP hD hS hL)
theorem wl_if_lt {x : Int32} {off : Int} (hd : decode M.2.1 pc = .ok (.ifCond .lt off, 3)) (hn : pc + 3 = np) (ht : (pc : Int) + off = (tg : Int)) (kt : x < 0 → Wa M sx d mc ms n0 Q tg L st sh me cs sl) (kf : ¬ x < 0 → Wa M sx d mc ms n0 Q np L st sh me cs sl) : Wa M sx d mc ms n0 Q pc L (.int x :: st) sh me cs sl := by
  subst hn
  intro l p e R s m args below meth c D cA adr0 A Z C adr H locs ls he hP hD hS hL
  exact lv_if_lt C.1.1 C.1.2.1 hd ht (fun q => kt q l p e R s m args below meth c D cA adr0 A Z C adr H locs ls he hP hD hS hL) (fun q => kf q l p e R s m args below meth c D cA adr0 A Z C adr H locs ls he hP hD hS hL)
theorem wl_if_ge {x : Int32} {off : Int} (hd : decode M.2.1 pc = .ok (.ifCond .ge off, 3)) (hn : pc + 3 = np) (ht : (pc : Int) + off = (tg : Int)) (kt : 0 ≤ x → Wa M sx d mc ms n0 Q tg L st sh me cs sl) (kf : ¬ 0 ≤ x → Wa M sx d mc ms n0 Q np L st sh me cs sl) : Wa M sx d mc ms n0 Q pc L (.int x :: st) sh me cs sl := by
  subst hn
  intro l p e R s m args below meth c D cA adr0 A Z C adr H locs ls he hP hD hS hL
  exact lv_if_ge C.1.1 C.1.2.1 hd ht (fun q => kt q l p e R s m args below meth c D cA adr0 A Z C adr H locs ls he hP hD hS hL) (fun q => kf q l p e R s m args below meth c D cA adr0 A Z C adr H locs ls he hP hD hS hL)
theorem wl_if_gt {x : Int32} {off : Int} (hd : decode M.2.1 pc = .ok (.ifCond .gt off, 3)) (hn : pc + 3 = np) (ht : (pc : Int) + off = (tg : Int)) (kt : 0 < x → Wa M sx d mc ms n0 Q tg L st sh me cs sl) (kf : ¬ 0 < x → Wa M sx d mc ms n0 Q np L st sh me cs sl) : Wa M sx d mc ms n0 Q pc L (.int x :: st) sh me cs sl := by
  subst hn
  intro l p e R s m args below meth c D cA adr0 A Z C adr H locs ls he hP hD hS hL
  exact lv_if_gt C.1.1 C.1.2.1 hd ht (fun q => kt q l p e R s m args below meth c D cA adr0 A Z C adr H locs ls he hP hD hS hL) (fun q => kf q l p e R s m args below meth c D cA adr0 A Z C adr H locs ls he hP hD hS hL)
theorem wl_if_le {x : Int32} {off : Int} (hd : decode M.2.1 pc = .ok (.ifCond .le off, 3)) (hn : pc + 3 = np) (ht : (pc : Int) + off = (tg : Int)) (kt : x ≤ 0 → Wa M sx d mc ms n0 Q tg L st sh me cs sl) (kf : ¬ x ≤ 0 → Wa M sx d mc ms n0 Q np L st sh me cs sl) : Wa M sx d mc ms n0 Q pc L (.int x :: st) sh me cs sl := by
  subst hn
  intro l p e R s m args below meth c D cA adr0 A Z C adr H locs ls he hP hD hS hL
  exact lv_if_le C.1.1 C.1.2.1 hd ht (fun q => kt q l p e R s m args below meth c D cA adr0 A Z C adr H locs ls he hP hD hS hL) (fun q => kf q l p e R s m args below meth c D cA adr0 A Z C adr H locs ls he hP hD hS hL)
theorem wl_icmp_eq {x y : Int32} {off : Int} (hd : decode M.2.1 pc = .ok (.if_icmp .eq off, 3)) (hn : pc + 3 = np) (ht : (pc : Int) + off = (tg : Int)) (kt : x = y → Wa M sx d mc ms n0 Q tg L st sh me cs sl) (kf : ¬ x = y → Wa M sx d mc ms n0 Q np L st sh me cs sl) : Wa M sx d mc ms n0 Q pc L (.int y :: .int x :: st) sh me cs sl := by
  subst hn
  intro l p e R s m args below meth c D cA adr0 A Z C adr H locs ls he hP hD hS hL
  exact lv_icmp_eq C.1.1 C.1.2.1 hd ht (fun q => kt q l p e R s m args below meth c D cA adr0 A Z C adr H locs ls he hP hD hS hL) (fun q => kf q l p e R s m args below meth c D cA adr0 A Z C adr H locs ls he hP hD hS hL)
theorem wl_icmp_ne {x y : Int32} {off : Int} (hd : decode M.2.1 pc = .ok (.if_icmp .ne off, 3)) (hn : pc + 3 = np) (ht : (pc : Int) + off = (tg : Int)) (kt : ¬ x = y → Wa M sx d mc ms n0 Q tg L st sh me cs sl) (kf : x = y → Wa M sx d mc ms n0 Q np L st sh me cs sl) : Wa M sx d mc ms n0 Q pc L (.int y :: .int x :: st) sh me cs sl := by
  subst hn
  intro l p e R s m args below meth c D cA adr0 A Z C adr H locs ls he hP hD hS hL
  exact lv_icmp_ne C.1.1 C.1.2.1 hd ht (fun q => kt q l p e R s m args below meth c D cA adr0 A Z C adr H locs ls he hP hD hS hL) (fun q => kf q l p e R s m args below meth c D cA adr0 A Z C adr H locs ls he hP hD hS hL)
theorem wl_icmp_lt {x y : Int32} {off : Int} (hd : decode M.2.1 pc = .ok (.if_icmp .lt off, 3)) (hn : pc + 3 = np) (ht : (pc : Int) + off = (tg : Int)) (kt : x < y → Wa M sx d mc ms n0 Q tg L st sh me cs sl) (kf : ¬ x < y → Wa M sx d mc ms n0 Q np L st sh me cs sl) : Wa M sx d mc ms n0 Q pc L (.int y :: .int x :: st) sh me cs sl := by
  subst hn
  intro l p e R s m args below meth c D cA adr0 A Z C adr H locs ls he hP hD hS hL
  exact lv_icmp_lt C.1.1 C.1.2.1 hd ht (fun q => kt q l p e R s m args below meth c D cA adr0 A Z C adr H locs ls he hP hD hS hL) (fun q => kf q l p e R s m args below meth c D cA adr0 A Z C adr H locs ls he hP hD hS hL)
theorem wl_icmp_ge {x y : Int32} {off : Int} (hd : decode M.2.1 pc = .ok (.if_icmp .ge off, 3)) (hn : pc + 3 = np) (ht : (pc : Int) + off = (tg : Int)) (kt : y ≤ x → Wa M sx d mc ms n0 Q tg L st sh me cs sl) (kf : ¬ y ≤ x → Wa M sx d mc ms n0 Q np L st sh me cs sl) : Wa M sx d mc ms n0 Q pc L (.int y :: .int x :: st) sh me cs sl := by
  subst hn
  intro l p e R s m args below meth c D cA adr0 A Z C adr H locs ls he hP hD hS hL
  exact lv_icmp_ge C.1.1 C.1.2.1 hd ht (fun q => kt q l p e R s m args below meth c D cA adr0 A Z C adr H locs ls he hP hD hS hL) (fun q => kf q l p e R s m args below meth c D cA adr0 A Z C adr H locs ls he hP hD hS hL)
theorem wl_icmp_gt {x y : Int32} {off : Int} (hd : decode M.2.1 pc = .ok (.if_icmp .gt off, 3)) (hn : pc + 3 = np) (ht : (pc : Int) + off = (tg : Int)) (kt : y < x → Wa M sx d mc ms n0 Q tg L st sh me cs sl) (kf : ¬ y < x → Wa M sx d mc ms n0 Q np L st sh me cs sl) : Wa M sx d mc ms n0 Q pc L (.int y :: .int x :: st) sh me cs sl := by
  subst hn
  intro l p e R s m args below meth c D cA adr0 A Z C adr H locs ls he hP hD hS hL
  exact lv_icmp_gt C.1.1 C.1.2.1 hd ht (fun q => kt q l p e R s m args below meth c D cA adr0 A Z C adr H locs ls he hP hD hS hL) (fun q => kf q l p e R s m args below meth c D cA adr0 A Z C adr H locs ls he hP hD hS hL)
theorem wl_icmp_le {x y : Int32} {off : Int} (hd : decode M.2.1 pc = .ok (.if_icmp .le off, 3)) (hn : pc + 3 = np) (ht : (pc : Int) + off = (tg : Int)) (kt : x ≤ y → Wa M sx d mc ms n0 Q tg L st sh me cs sl) (kf : ¬ x ≤ y → Wa M sx d mc ms n0 Q np L st sh me cs sl) : Wa M sx d mc ms n0 Q pc L (.int y :: .int x :: st) sh me cs sl := by
  subst hn
  intro l p e R s m args below meth c D cA adr0 A Z C adr H locs ls he hP hD hS hL
  exact lv_icmp_le C.1.1 C.1.2.1 hd ht (fun q => kt q l p e R s m args below meth c D cA adr0 A Z C adr H locs ls he hP hD hS hL) (fun q => kf q l p e R s m args below meth c D cA adr0 A Z C adr H locs ls he hP hD hS hL)
theorem wl_goto {off : Int} (hd : decode M.2.1 pc = .ok (.goto off, 3)) (ht : (pc : Int) + off = (tg : Int)) (k : Wa M sx d mc ms n0 Q tg L st sh me cs sl) : Wa M sx d mc ms n0 Q pc L st sh me cs sl := by
  intro l p e R s m args below meth c D cA adr0 A Z C adr H locs ls he hP hD hS hL
  exact lv_goto C.1.1 C.1.2.1 hd ht (k l p e R s m args below meth c D cA adr0 A Z C adr H locs ls he hP hD hS hL)
theorem wl_ifnull {off : Int} {a : Nat} (hd : decode M.2.1 pc = .ok (.ifnull off, 3)) (hn : pc + 3 = np) (k : Wa M sx d mc ms n0 Q np L st sh me cs sl) : Wa M sx d mc ms n0 Q pc L (.ref a :: st) sh me cs sl := by
  subst hn
  intro l p e R s m args below meth c D cA adr0 A Z C adr H locs ls he hP hD hS hL
  exact lv_ifnull C.1.1 C.1.2.1 hd (k l p e R s m args below meth c D cA adr0 A Z C adr H locs ls he hP hD hS hL)
theorem wl_ifnullN {off : Int} (hd : decode M.2.1 pc = .ok (.ifnull off, 3)) (ht : (pc : Int) + off = (tg : Int)) (k : Wa M sx d mc ms n0 Q tg L st sh me cs sl) : Wa M sx d mc ms n0 Q pc L (.null :: st) sh me cs sl := by
  intro l p e R s m args below meth c D cA adr0 A Z C adr H locs ls he hP hD hS hL
  exact lv_ifnullN C.1.1 C.1.2.1 hd ht (k l p e R s m args below meth c D cA adr0 A Z C adr H locs ls he hP hD hS hL)
theorem wl_ifnonnull {off : Int} {a : Nat} (hd : decode M.2.1 pc = .ok (.ifnonnull off, 3)) (ht : (pc : Int) + off = (tg : Int)) (k : Wa M sx d mc ms n0 Q tg L st sh me cs sl) : Wa M sx d mc ms n0 Q pc L (.ref a :: st) sh me cs sl := by
  intro l p e R s m args below meth c D cA adr0 A Z C adr H locs ls he hP hD hS hL
  exact lv_ifnonnull C.1.1 C.1.2.1 hd ht (k l p e R s m args below meth c D cA adr0 A Z C adr H locs ls he hP hD hS hL)
theorem wl_ifnonnullN {off : Int} (hd : decode M.2.1 pc = .ok (.ifnonnull off, 3)) (hn : pc + 3 = np) (k : Wa M sx d mc ms n0 Q np L st sh me cs sl) : Wa M sx d mc ms n0 Q pc L (.null :: st) sh me cs sl := by
  subst hn
  intro l p e R s m args below meth c D cA adr0 A Z C adr H locs ls he hP hD hS hL
  exact lv_ifnonnullN C.1.1 C.1.2.1 hd (k l p e R s m args below meth c D cA adr0 A Z C adr H locs ls he hP hD hS hL)
theorem wl_tswI {dflt lo hi : Int} {offs : Array Int} {len : Nat} {x : Int32} {off : Int} (hd : decode M.2.1 pc = .ok (.tableswitch dflt lo hi offs, len)) (h1 : ¬ x.toInt < lo) (h2 : ¬ hi < x.toInt) (ho : offs[(x.toInt - lo).toNat]? = some off) (ht : (pc : Int) + off = (tg : Int)) (k : Wa M sx d mc ms n0 Q tg L st sh me cs sl) : Wa M sx d mc ms n0 Q pc L (.int x :: st) sh me cs sl := by
  intro l p e R s m args below meth c D cA adr0 A Z C adr H locs ls he hP hD hS hL
  exact lv_tableIn C.1.1 C.1.2.1 hd h1 h2 ho ht (k l p e R s m args below meth c D cA adr0 A Z C adr H locs ls he hP hD hS hL)
theorem wl_tswO {dflt lo hi : Int} {offs : Array Int} {len : Nat} {x : Int32} (hd : decode M.2.1 pc = .ok (.tableswitch dflt lo hi offs, len)) (h : x.toInt < lo ∨ hi < x.toInt) (ht : (pc : Int) + dflt = (tg : Int)) (k : Wa M sx d mc ms n0 Q tg L st sh me cs sl) : Wa M sx d mc ms n0 Q pc L (.int x :: st) sh me cs sl := by
  intro l p e R s m args below meth c D cA adr0 A Z C adr H locs ls he hP hD hS hL
  exact lv_tableOut C.1.1 C.1.2.1 hd h ht (k l p e R s m args below meth c D cA adr0 A Z C adr H locs ls he hP hD hS hL)
theorem wl_ret (hd : decode M.2.1 pc = .ok (.return_, 1)) (hr : M.2.2.2 = none) (hc : cs ≤ mc) (hs : sl ≤ ms) (hq : Q none sh me) : Wa M sx d mc ms n0 Q pc L [] sh me cs sl := by
  intro l p e R s m args below meth c D cA adr0 A Z C adr H locs ls he hP hD hS hL
  exact W.widen hc hs (C.2.2.2.2.2.2.2 none sh me adr H locs ls pc hq ⟨hd, hr⟩ he hP hD hS)
theorem wl_iret {x : Int32} {ty : FieldType} (hd : decode M.2.1 pc = .ok (.ireturn, 1)) (hr : M.2.2.2 = some ty) (hx : narrow ty (.int x) = .int x) (hc : cs ≤ mc) (hs : sl ≤ ms) (hq : Q (some (.int x)) sh me) : Wa M sx d mc ms n0 Q pc L [.int x] sh me cs sl := by
  intro l p e R s m args below meth c D cA adr0 A Z C adr H locs ls he hP hD hS hL
  exact W.widen hc hs (C.2.2.2.2.2.2.2 (some (.int x)) sh me adr H locs ls pc hq ⟨hd, ty, hr, hx⟩ he hP hD hS)
def inA (sh : List Shp) (k : Nat) (i : Int32) : Prop := ∃ n, sh[k]? = some (.inr (0, n)) ∧ vp_in i n
theorem wl_iaload {a : Nat} {i : Int32} (hd : decode M.2.1 pc = .ok (.iaload, 1)) (hn : pc + 1 = np) (hi : inA sh a i) (k : Wa M sx d mc ms n0 Q np L (.int (gI me a i.toNatClampNeg) :: st) sh me cs sl) : Wa M sx d mc ms n0 Q pc L (.int i :: .ref a :: st) sh me cs sl := by
  subst hn
  intro l p e R s m args below meth c D cA adr0 A Z C adr H locs ls he hP hD hS hL
  obtain ⟨n, h1, h2⟩ := hi
  exact va_iald C.1.1 C.1.2.1 C.2.2.2.1 hP a 0 (wl_get h1) rfl h2 hd (k l p e R s m args below meth c D cA adr0 A Z C adr H locs ls he hP hD hS hL)
theorem wl_sload {z : Nat} {i : Int32} (hd : decode M.2.1 pc = .ok (.iaload, 1)) (hn : pc + 1 = np) (hz : sx.1 ≠ 0) (hb0 : sh.length ≤ 999999) (hi : vp_in i sx.1) (k : Wa M sx d mc ms n0 Q np L (.int (sx.2 i.toNatClampNeg) :: st) sh me cs sl) : Wa M sx d mc ms n0 Q pc L (.int i :: .retAddr z :: st) sh me cs sl := by
  subst hn
  intro l p e R s m args below meth c D cA adr0 A Z C adr H locs ls he hP hD hS hL
  rcases C.2.2.2.2.2.2.1 with h0 | ⟨hX, hb, hA⟩
  · exact absurd h0 hz
  · have ee : adr 999999 = adr0 999999 := he _ (Or.inr hb0)
    rw [← ee] at hX hb hA
    exact va_sld C.1.1 C.1.2.1 hX hb hA hS hi hd (k l p e R s m args below meth c D cA adr0 A Z C adr H locs ls he hP hD hS hL)
theorem wl_slen {z : Nat} (hd : decode M.2.1 pc = .ok (.arraylength, 1)) (hn : pc + 1 = np) (hz : sx.1 ≠ 0) (hb0 : sh.length ≤ 999999) (k : Wa M sx d mc ms n0 Q np L (.int (Int32.ofNat sx.1) :: st) sh me cs sl) : Wa M sx d mc ms n0 Q pc L (.retAddr z :: st) sh me cs sl := by
  subst hn
  intro l p e R s m args below meth c D cA adr0 A Z C adr H locs ls he hP hD hS hL
  rcases C.2.2.2.2.2.2.1 with h0 | ⟨hX, hb, hA⟩
  · exact absurd h0 hz
  · have ee : adr 999999 = adr0 999999 := he _ (Or.inr hb0)
    rw [← ee] at hX hb hA
    exact va_slen C.1.1 C.1.2.1 hX hb hA hS hd (k l p e R s m args below meth c D cA adr0 A Z C adr H locs ls he hP hD hS hL)
theorem wl_iastore {a : Nat} {i x : Int32} (hd : decode M.2.1 pc = .ok (.iastore, 1)) (hn : pc + 1 = np) (hi : inA sh a i) (k : Wa M sx d mc ms n0 Q np L st sh (uI me a i.toNatClampNeg x) cs sl) : Wa M sx d mc ms n0 Q pc L (.int x :: .int i :: .ref a :: st) sh me cs sl := by
  subst hn
  intro l p e R s m args below meth c D cA adr0 A Z C adr H locs ls he hP hD hS hL
  obtain ⟨n, h1, h2⟩ := hi
  refine va_iast C.1.1 C.1.2.1 C.2.2.2.1 hP hD hS a 0 (wl_get h1) rfl h2 hd (fun H1 locs1 hP1 hD1 hS1 => ?_)
  have ew := wl_setA (cA := cA) (adr := adr) (me := me) (f := upd (gI me a) i.toNatClampNeg x) h1
  rw [ew] at hP1 hD1
  exact k l p e R s m args below meth c D cA adr0 A Z C adr H1 locs1 ls he hP1 hD1 hS1 hL
theorem wl_alen {a n t : Nat} {v : Int32} (hd : decode M.2.1 pc = .ok (.arraylength, 1)) (hn : pc + 1 = np) (hs : sh[a]? = some (.inr (t, n))) (ht : t < 4) (hv : Int32.ofNat n = v) (k : Wa M sx d mc ms n0 Q np L (.int v :: st) sh me cs sl) : Wa M sx d mc ms n0 Q pc L (.ref a :: st) sh me cs sl := by
  subst hn
  intro l p e R s m args below meth c D cA adr0 A Z C adr H locs ls he hP hD hS hL
  have hg := wl_get (cA := cA) (adr := adr) (me := me) hs
  match t, ht, hs, hg with
  | 0, _, hs, hg => exact va_alen C.1.1 C.1.2.1 C.2.2.2.1 hP a 0 hg rfl hv hd (k l p e R s m args below meth c D cA adr0 A Z C adr H locs ls he hP hD hS hL)
  | 1, _, hs, hg => exact va_alen C.1.1 C.1.2.1 C.2.2.2.1 hP a 1 hg rfl hv hd (k l p e R s m args below meth c D cA adr0 A Z C adr H locs ls he hP hD hS hL)
  | 2, _, hs, hg => exact va_alen C.1.1 C.1.2.1 C.2.2.2.1 hP a 2 hg rfl hv hd (k l p e R s m args below meth c D cA adr0 A Z C adr H locs ls he hP hD hS hL)
  | 3, _, hs, hg => exact va_alen C.1.1 C.1.2.1 C.2.2.2.1 hP a 3 hg rfl hv hd (k l p e R s m args below meth c D cA adr0 A Z C adr H locs ls he hP hD hS hL)
theorem wl_aaload {a b n t : Nat} {i : Int32} (hd : decode M.2.1 pc = .ok (.aaload, 1)) (hn : pc + 1 = np) (hs : sh[a]? = some (.inr (t + 1, n))) (ht : t < 3) (hi : vp_in i n) (hr : gR me a i.toNatClampNeg = some b) (k : Wa M sx d mc ms n0 Q np L (.ref b :: st) sh me cs sl) : Wa M sx d mc ms n0 Q pc L (.int i :: .ref a :: st) sh me cs sl := by
  subst hn
  intro l p e R s m args below meth c D cA adr0 A Z C adr H locs ls he hP hD hS hL
  have hg := wl_get (cA := cA) (adr := adr) (me := me) hs
  have hlt : i.toNatClampNeg < n := Nat.not_le.mp fun q => hi (Or.inr q)
  have hk := k l p e R s m args below meth c D cA adr0 A Z C adr H locs ls he hP hD hS hL
  match t, ht, hs, hg with
  | 0, _, hs, hg =>
    refine W.aald (v := va_rf ((gR me a i.toNatClampNeg).map adr)) (ty := .object "DebtCoats$Person") C.1.1 C.1.2.1 (hP a _ hg) ((C.2.2.2.1.2 1 _ rfl).1 n (fun j => va_rf ((gR me a j).map adr))) rfl (fun q => by cases q) (by show ¬ (i < 0 ∨ (arrV _ _ _).slots.size ≤ _); rw [arrV_size]; exact hi) (by show (arrV _ _ _).slots[_]? = _; rw [arrV_read _ _ hlt]) rfl rfl hd ?_
    rw [hr]; exact hk
  | 1, _, hs, hg =>
    refine W.aald (v := va_rf ((gR me a i.toNatClampNeg).map adr)) (ty := .object "DebtCoats$Sheet") C.1.1 C.1.2.1 (hP a _ hg) ((C.2.2.2.1.2 2 _ rfl).1 n (fun j => va_rf ((gR me a j).map adr))) rfl (fun q => by cases q) (by show ¬ (i < 0 ∨ (arrV _ _ _).slots.size ≤ _); rw [arrV_size]; exact hi) (by show (arrV _ _ _).slots[_]? = _; rw [arrV_read _ _ hlt]) rfl rfl hd ?_
    rw [hr]; exact hk
  | 2, _, hs, hg =>
    refine W.aald (v := va_rf ((gR me a i.toNatClampNeg).map adr)) (ty := .array .int) C.1.1 C.1.2.1 (hP a _ hg) ((C.2.2.2.1.2 3 _ rfl).1 n (fun j => va_rf ((gR me a j).map adr))) rfl (fun q => by cases q) (by show ¬ (i < 0 ∨ (arrV _ _ _).slots.size ≤ _); rw [arrV_size]; exact hi) (by show (arrV _ _ _).slots[_]? = _; rw [arrV_read _ _ hlt]) rfl rfl hd ?_
    rw [hr]; exact hk
/-- what an instruction's link to field j of kind ci needs: the words -/
def FLk (own : String) (idx ci j : Nat) : Prop := ∃ (C : String) (T : u_T) (N : Nat) (ty : Nat → FieldType), vwCl[ci]? = some (C, T, N) ∧ N = fn ci ∧ j < N ∧ Cond.fieldLink own idx C (T j).2.1 (T j).2.2.1 ∈ WS ∧ (T j).1 = C ∧ (∀ w ∈ u_ws C T N, w ∈ WS) ∧ (∀ k, k < N → parseFieldDescriptor (T k).2.2.1 = some (ty k)) ∧ (∀ a, a < N → ∀ b, b < N → a ≠ b → (T a).2.1 ≠ (T b).2.1) ∧ ((fk ci j = 0 ∧ ty j = .int) ∨ (fk ci j = 2 ∧ ty j = .boolean) ∨ (fk ci j = 1 ∧ refKind (ty j) = true))
theorem fval_at {adr : Nat → Nat} {me : Mem} {k ci j : Nat} (h : j < fn ci) : ((List.range (fn ci)).map (fval adr me k ci))[j]? = some (fval adr me k ci j) := by
  simp [h]
theorem wl_geti {idx ci j a : Nat} (hd : decode M.2.1 pc = .ok (.getfield idx, 3)) (hn : pc + 3 = np) (hf : FLk M.1.cls idx ci j) (h0 : fk ci j ≠ 1) (hs : sh[a]? = some (.inl ci)) (k : Wa M sx d mc ms n0 Q np L (.int (gI me a j) :: st) sh me cs sl) : Wa M sx d mc ms n0 Q pc L (.ref a :: st) sh me cs sl := by
  subst hn
  intro l p e R s m args below meth c D cA adr0 A Z C adr H locs ls he hP hD hS hL
  obtain ⟨C0, T, N, ty, h1, h2, h3, h4, h5, h6, h7, h8, h9⟩ := hf
  refine va_get (C := C0) (T := T) (N := N) (ref := C0) C.1.1 C.1.2.1 C.2.1 h6 C.1.2.2.2.2 C.2.2.2.1 hP a (wl_get hs) h1 j h3 (C.2.1 _ h4) (fun x hx => by rw [h5] at hx; exact hx) (fval_at (h2 ▸ h3)) hd ?_
  have ee : fval adr me a ci j = .int (gI me a j) := by simp [fval, h0]
  rw [ee]
  exact k l p e R s m args below meth c D cA adr0 A Z C adr H locs ls he hP hD hS hL
theorem wl_getr {idx ci j a b : Nat} (hd : decode M.2.1 pc = .ok (.getfield idx, 3)) (hn : pc + 3 = np) (hf : FLk M.1.cls idx ci j) (h0 : fk ci j = 1) (hs : sh[a]? = some (.inl ci)) (hr : gR me a j = some b) (k : Wa M sx d mc ms n0 Q np L (.ref b :: st) sh me cs sl) : Wa M sx d mc ms n0 Q pc L (.ref a :: st) sh me cs sl := by
  subst hn
  intro l p e R s m args below meth c D cA adr0 A Z C adr H locs ls he hP hD hS hL
  obtain ⟨C0, T, N, ty, h1, h2, h3, h4, h5, h6, h7, h8, h9⟩ := hf
  refine va_get (C := C0) (T := T) (N := N) (ref := C0) C.1.1 C.1.2.1 C.2.1 h6 C.1.2.2.2.2 C.2.2.2.1 hP a (wl_get hs) h1 j h3 (C.2.1 _ h4) (fun x hx => by rw [h5] at hx; exact hx) (fval_at (h2 ▸ h3)) hd ?_
  have ee : fval adr me a ci j = .ref (adr b) := by simp [fval, h0, hr, va_rf]
  rw [ee]
  exact k l p e R s m args below meth c D cA adr0 A Z C adr H locs ls he hP hD hS hL
theorem wl_getrN {idx ci j a : Nat} (hd : decode M.2.1 pc = .ok (.getfield idx, 3)) (hn : pc + 3 = np) (hf : FLk M.1.cls idx ci j) (h0 : fk ci j = 1) (hs : sh[a]? = some (.inl ci)) (hr : gR me a j = none) (k : Wa M sx d mc ms n0 Q np L (.null :: st) sh me cs sl) : Wa M sx d mc ms n0 Q pc L (.ref a :: st) sh me cs sl := by
  subst hn
  intro l p e R s m args below meth c D cA adr0 A Z C adr H locs ls he hP hD hS hL
  obtain ⟨C0, T, N, ty, h1, h2, h3, h4, h5, h6, h7, h8, h9⟩ := hf
  refine va_get (C := C0) (T := T) (N := N) (ref := C0) C.1.1 C.1.2.1 C.2.1 h6 C.1.2.2.2.2 C.2.2.2.1 hP a (wl_get hs) h1 j h3 (C.2.1 _ h4) (fun x hx => by rw [h5] at hx; exact hx) (fval_at (h2 ▸ h3)) hd ?_
  have ee : fval adr me a ci j = .null := by simp [fval, h0, hr, va_rf]
  rw [ee]
  exact k l p e R s m args below meth c D cA adr0 A Z C adr H locs ls he hP hD hS hL
/-- a field that isn't final -/
def FNf (ci j : Nat) : Prop := ∀ (C : String) (T : u_T) (N : Nat), vwCl[ci]? = some (C, T, N) → (T j).2.2.2 = false
theorem wl_puti {idx ci j a : Nat} {x : Int32} (hd : decode M.2.1 pc = .ok (.putfield idx, 3)) (hn : pc + 3 = np) (hf : FLk M.1.cls idx ci j) (hnf : FNf ci j) (h0 : fk ci j = 0) (hs : sh[a]? = some (.inl ci)) (k : Wa M sx d mc ms n0 Q np L st sh (uI me a j x) cs sl) : Wa M sx d mc ms n0 Q pc L (.int x :: .ref a :: st) sh me cs sl := by
  subst hn
  intro l p e R s m args below meth c D cA adr0 A Z C adr H locs ls he hP hD hS hL
  obtain ⟨C0, T, N, ty, h1, h2, h3, h4, h5, h6, h7, h8, h9⟩ := hf
  have hty : ty j = .int := by
    rcases h9 with h | h | h
    · exact h.2
    · rw [h0] at h; cases h.1
    · rw [h0] at h; cases h.1
  refine va_put (C := C0) (T := T) (N := N) (ref := C0) (ty := .int) C.1.1 C.1.2.1 C.2.1 h6 ty h7 h8 C.1.2.2.2.2 C.2.2.2.1 hP hD hS a (wl_get hs) h1 j h3 (C.2.1 _ h4) (fun x hx => by rw [h5] at hx; exact hx) (v := .int x) (hnf _ _ _ h1) (by rw [h7 j h3, hty]) rfl rfl (by simpa using (h2 ▸ h3)) hd (fun H1 locs1 hP1 hD1 hS1 => ?_)
  have ew := wl_setI (cA := cA) (adr := adr) (me := me) (x := x) (j := j) hs (by rw [h0]; decide)
  rw [ew] at hP1 hD1
  exact k l p e R s m args below meth c D cA adr0 A Z C adr H1 locs1 ls he hP1 hD1 hS1 hL
theorem wl_putz {idx ci j a : Nat} {x : Int32} (hd : decode M.2.1 pc = .ok (.putfield idx, 3)) (hn : pc + 3 = np) (hf : FLk M.1.cls idx ci j) (hnf : FNf ci j) (h0 : fk ci j = 2) (hz : narrow .boolean (.int x) = .int x ∧ fits .boolean (.int x) = true) (hs : sh[a]? = some (.inl ci)) (k : Wa M sx d mc ms n0 Q np L st sh (uI me a j x) cs sl) : Wa M sx d mc ms n0 Q pc L (.int x :: .ref a :: st) sh me cs sl := by
  subst hn
  intro l p e R s m args below meth c D cA adr0 A Z C adr H locs ls he hP hD hS hL
  obtain ⟨C0, T, N, ty, h1, h2, h3, h4, h5, h6, h7, h8, h9⟩ := hf
  have hty : ty j = .boolean := by
    rcases h9 with h | h | h
    · rw [h0] at h; cases h.1
    · exact h.2
    · rw [h0] at h; cases h.1
  refine va_put (C := C0) (T := T) (N := N) (ref := C0) (ty := .boolean) C.1.1 C.1.2.1 C.2.1 h6 ty h7 h8 C.1.2.2.2.2 C.2.2.2.1 hP hD hS a (wl_get hs) h1 j h3 (C.2.1 _ h4) (fun x hx => by rw [h5] at hx; exact hx) (v := .int x) (hnf _ _ _ h1) (by rw [h7 j h3, hty]) hz.1 hz.2 (by simpa using (h2 ▸ h3)) hd (fun H1 locs1 hP1 hD1 hS1 => ?_)
  have ew := wl_setI (cA := cA) (adr := adr) (me := me) (x := x) (j := j) hs (by rw [h0]; decide)
  rw [ew] at hP1 hD1
  exact k l p e R s m args below meth c D cA adr0 A Z C adr H1 locs1 ls he hP1 hD1 hS1 hL
theorem wl_putr {idx ci j a b : Nat} (hd : decode M.2.1 pc = .ok (.putfield idx, 3)) (hn : pc + 3 = np) (hf : FLk M.1.cls idx ci j) (hnf : FNf ci j) (h0 : fk ci j = 1) (hs : sh[a]? = some (.inl ci)) (k : Wa M sx d mc ms n0 Q np L st sh (uR me a j (some b)) cs sl) : Wa M sx d mc ms n0 Q pc L (.ref b :: .ref a :: st) sh me cs sl := by
  subst hn
  intro l p e R s m args below meth c D cA adr0 A Z C adr H locs ls he hP hD hS hL
  obtain ⟨C0, T, N, ty, h1, h2, h3, h4, h5, h6, h7, h8, h9⟩ := hf
  have hty : refKind (ty j) = true := by
    rcases h9 with h | h | h
    · rw [h0] at h; cases h.1
    · rw [h0] at h; cases h.1
    · exact h.2
  refine va_put (C := C0) (T := T) (N := N) (ref := C0) (ty := ty j) (v := .ref (adr b)) C.1.1 C.1.2.1 C.2.1 h6 ty h7 h8 C.1.2.2.2.2 C.2.2.2.1 hP hD hS a (wl_get hs) h1 j h3 (C.2.1 _ h4) (fun x hx => by rw [h5] at hx; exact hx) (hnf _ _ _ h1) (h7 j h3) (by cases hq : ty j <;> rw [hq] at hty <;> first | rfl | cases hty) (by cases hq : ty j <;> rw [hq] at hty <;> first | rfl | cases hty) (by simpa using (h2 ▸ h3)) hd (fun H1 locs1 hP1 hD1 hS1 => ?_)
  have ew := wl_setR (cA := cA) (adr := adr) (me := me) (r := some b) (j := j) hs h0
  rw [show va_rf ((some b).map adr) = Value.ref (adr b) from rfl] at ew
  rw [ew] at hP1 hD1
  exact k l p e R s m args below meth c D cA adr0 A Z C adr H1 locs1 ls he hP1 hD1 hS1 hL
end RULES
end
section
/-! ===== calls ===== -/
def CallsG (d mc ms : Nat) (M : MR) (sh : List Shp) (vs : List Value) (me : Mem) (r : Option Value) (sh' : List Shp) (me' : Mem) : Prop :=
  ∀ (l : Launch) (D : va_G) (cA : Nat → ClassId) (adr : Nat → Nat) (sz : Nat),
    Met l M.1 (wsM M) (rmD d mc ms)
      (va_Pc (vs.map (cv adr)) (fun U => U.heap.size = sz ∧ va_P D vwCl (wl sh cA adr me) U.heap ∧ va_K D vwCl (tysC cA) U ∧ va_D (fun _ => True) (wl sh cA adr me) ∧ Nst U))
      (fun _ st oc t => (∃ adr' : Nat → Nat, oc = .returned r ∧ ext sh.length sh'.length adr adr' ∧ va_P D vwCl (wl sh' cA adr' me') t.heap ∧ va_D (va_A (wl sh cA adr me) sz) (wl sh' cA adr' me')) ∧ va_F (va_A (wl sh cA adr me) sz) st t)
      mc ms (va_A (wl sh cA adr me) sz)
def Calls (d : Nat) (M : MR) (sh : List Shp) (vs : List Value) (me : Mem) (r : Option Value) (me' : Mem) : Prop := CallsG d 0 0 M sh vs me r sh me'
def eL : List Value → List Value
  | [] => []
  | v :: vs => if v.category = 2 then v :: .float 0 :: eL vs else v :: eL vs
def entryL (n : Nat) (vs : List Value) : List Value := eL vs ++ List.replicate (n - (eL vs).length) (.float 0)
theorem eL_args (adr : Nat → Nat) (vs : List Value) : ∀ (o i : Nat) (v : Value), (eL vs)[i]? = some v → v ≠ .float 0 → (o + i, cv adr v) ∈ lv_args o (vs.map (cv adr)) := by
  induction vs with
  | nil => intro o i v h; simp [eL] at h
  | cons u vs ih =>
    intro o i v h hne
    simp only [List.map_cons, lv_args, cv_cat]
    by_cases hc : u.category = 2
    · simp only [eL, hc, if_true] at h ⊢
      match i, h with
      | 0, h => cases (Option.some.inj h); exact List.mem_cons_self
      | 1, h => exact absurd (Option.some.inj h).symm hne
      | i + 2, h =>
        refine List.mem_cons_of_mem _ ?_
        have := ih (o + 2) i v h hne
        rwa [show o + 2 + i = o + (i + 2) by omega] at this
    · simp only [eL, hc, if_false] at h ⊢
      match i, h with
      | 0, h => cases (Option.some.inj h); exact List.mem_cons_self
      | i + 1, h =>
        refine List.mem_cons_of_mem _ ?_
        have := ih (o + 1) i v h hne
        rwa [show o + 1 + i = o + (i + 1) by omega] at this
theorem Lr.entry {adr : Nat → Nat} {n : Nat} {vs : List Value} (h : (lg_sl (vs.map (cv adr))).length ≤ n) : Lr adr (entryL n vs) ((lg_sl (vs.map (cv adr)) ++ List.replicate (n - (lg_sl (vs.map (cv adr))).length) Slot.unset).toArray) n := by
  have hl := lv_entry (vs.map (cv adr)) h
  refine ⟨hl.1, hl.2.1, fun i v hv hne => ?_⟩
  unfold entryL at hv
  by_cases hi : i < (eL vs).length
  · rw [List.getElem?_append_left hi] at hv
    have := eL_args adr vs 0 i v hv hne
    rw [Nat.zero_add] at this
    exact hl.2.2 (i, cv adr v) this
  · rw [List.getElem?_append_right (by omega)] at hv
    have := List.mem_of_getElem? hv
    exact absurd (List.eq_of_mem_replicate this) hne
theorem lg_len (adr : Nat → Nat) (vs : List Value) : (lg_sl (vs.map (cv adr))).length = (eL vs).length := by
  induction vs with
  | nil => rfl
  | cons v vs ih =>
    simp only [lg_sl, List.map_cons, List.flatMap_cons, List.length_append, cv_cat] at ih ⊢
    by_cases hc : v.category = 2
    · simp [eL, hc, ih]; omega
    · simp [eL, hc, ih]; omega
/-- a contract out of its body's walk -/
theorem CallsG.mk {d mc ms : Nat} {M : MR} {sh : List Shp} {vs : List Value} {me : Mem} {r : Option Value} {sh' : List Shp} {me' : Mem} {L : List Value} (hp : plainName M.1.cls = true) (hlen : (eL vs).length ≤ M.2.2.1) (hL : entryL M.2.2.1 vs = L)
    (k : Wa M (0, fun _ => 0) d mc ms sh.length (fun r1 s1 m1 => r1 = r ∧ s1 = sh' ∧ m1 = me') 0 L [] sh me 0 0) : CallsG d mc ms M sh vs me r sh' me' := by
  intro l D cA adr sz
  refine Met.ofW (cc := M.2.1) (maxL := M.2.2.1) (ret := M.2.2.2) hp rfl ?_
  intro p e s m args below meth c s₁ B hml hv
  obtain ⟨rfl, hsz, hP, hK, hD0, hN⟩ := hv
  subst hsz
  have hts := atoms_spec (ws := wsM M) B.pre
  have hD := hD0.self (sz := s.heap.size)
  have hlocks := B.notSynchronized
  rw [lg_entry_eq]
  refine k l p e (rmD d mc ms) s m _ below meth c D cA adr (va_A (wl sh cA adr me) s.heap.size) _ ⟨⟨B.exec, B.bytes, hml, (name_of_methodNamed B.named B.method).1, findClass_of_methodNamed B.named⟩, fun w hw => hts w (List.mem_cons_of_mem _ hw), hN, hK, fun q h => Or.inr h, ⟨Nat.le_refl _, Nat.le_refl _, Nat.le_refl _, Nat.le_refl _⟩, Or.inl rfl, ?_⟩ adr s.heap [] _ (fun _ _ => rfl) hP hD va_S.rf (hL ▸ Lr.entry (by rw [lg_len]; exact hlen))
  intro v sh1 me1 adr1 H1 locs1 ls1 pc hq hr hext hP1 hD1 hS1
  obtain ⟨rfl, rfl, rfl⟩ := hq
  match v, hr with
  | none, hr => exact W.vret B.exec B.bytes (B.returns.trans hr.2) (fun t ht hw => ⟨⟨adr1, rfl, hext, by rw [ht]; exact hP1, hD1⟩, hS1.F ht⟩) hS1.2.2 hr.1 hlocks
  | some (.int x), hr =>
    obtain ⟨h1, ty, h2, h3⟩ := hr
    exact W.zret B.exec B.bytes (B.returns.trans h2) h3 (fun t ht hw => ⟨⟨adr1, rfl, hext, by rw [ht]; exact hP1, hD1⟩, hS1.F ht⟩) hS1.2.2 h1 hlocks
theorem Calls.mk {d : Nat} {M : MR} {sh : List Shp} {vs : List Value} {me : Mem} {r : Option Value} {me' : Mem} {L : List Value} (hp : plainName M.1.cls = true) (hlen : (eL vs).length ≤ M.2.2.1) (hL : entryL M.2.2.1 vs = L)
    (k : Wa M (0, fun _ => 0) d 0 0 sh.length (fun r1 s1 m1 => r1 = r ∧ s1 = sh ∧ m1 = me') 0 L [] sh me 0 0) : Calls d M sh vs me r me' := CallsG.mk hp hlen hL k
/-! what a call's link needs -/
def MOk (M : MR) (n : Nat) : Prop := Cond.code M.1 M.2.1 M.2.2.1 M.2.2.2 ∈ WS ∧ (M.1.cls ≠ "java/lang/invoke/MethodHandle" ∧ M.1.cls ≠ "java/lang/invoke/VarHandle" ∧ (parseMethodDescriptor M.1.desc).map (fun d => d.parameters.length) = some n) ∧ M.2.2.1 ≤ 29 ∧ Cond.initialized M.1.cls ∈ WS
def LkS (own : String) (idx : Nat) (M : MR) (n : Nat) : Prop := Cond.methodLink own idx M.1 ∈ WS ∧ Cond.static M.1 ∈ WS ∧ MOk M n
def LkV (own : String) (idx : Nat) (M : MR) (n ci : Nat) : Prop := Cond.methodLink own idx M.1 ∈ WS ∧ Cond.instanceMethod M.1 ∈ WS ∧ Cond.selects M.1.cls M.1 M.1 ∈ WS ∧ MOk M n ∧ (vwCl[ci]?).map (fun q => q.1) = some M.1.cls
def LkSN (own : String) (idx : Nat) (M : MR) (n : Nat) (host : String) : Prop := Cond.methodLinkNest own idx M.1 host ∈ lw_tbl ∧ Cond.static M.1 ∈ WS ∧ MOk M n
theorem goodWS {w : Cond} (h : w ∈ WS) : goodWord w = true := (List.mem_filter.mp h).2
theorem goodInWS {M : MR} {n : Nat} (h : MOk M n) : GoodIn WS (wsM M) := fun w hw => by
  rcases List.mem_cons.mp hw with rfl | hw
  · exact ⟨h.1, good_of_word (goodWS h.1)⟩
  · exact ⟨hw, good_of_word (goodWS hw)⟩
section CALLS
variable {M : MR} {sx : Scr} {d mc ms n0 : Nat} {Q : Post} {pc np tg : Nat} {L st stk : List Value} {sh : List Shp} {me me' : Mem} {cs sl : Nat}
theorem pc_blind {D : va_G} {cA : Nat → ClassId} {adr : Nat → Nat} {av : List Value} {sz : Nat} : FrameBlind (va_Pc av (fun U => U.heap.size = sz ∧ va_P D vwCl (wl sh cA adr me) U.heap ∧ va_K D vwCl (tysC cA) U ∧ va_D (fun _ => True) (wl sh cA adr me) ∧ Nst U)) := by
  intro a U g mk q
  obtain ⟨q0, q1, q2, q3, q4, q5⟩ := q
  exact ⟨q0, q1, q2, va_K.moved (u := U) (U := U.calling g mk a) (Vm.Alike.refl U.vm) q3, q4, Nst.same (s := U) (U := U.calling g mk a) rfl q5⟩
/-- behind a call that makes nothing -/
theorem wa_back {l : Launch} {p : Program} {e : Env} {R : Room} {s : State} {m : MethodId} {args : Array Value} {below : List Frame} {meth : Method} {c : Code} {D : va_G} {cA : Nat → ClassId} {adr0 : Nat → Nat} {A : Nat → Prop} {Z : State → Prop} (C : Cx M sx d mc ms n0 Q l p e R s m args below meth c D cA adr0 A Z)
    {adr : Nat → Nat} {H : Heap} {locs : List Loc} {ls : Array Slot} (he : ext n0 sh.length adr0 adr) (hD : va_D A (wl sh cA adr me)) (hS : va_S A s.heap H locs) (hL : Lr adr L ls M.2.2.1) {r : Option Value} {aa : Array Value} {sk : List Value}
    (hr : va_Run p l e R s m args below meth c H locs cs sl 0 0 (F0 m pc ls sk) (st.map (cv adr)) ((fun _ st oc t => (∃ adr' : Nat → Nat, oc = .returned r ∧ ext sh.length sh.length adr adr' ∧ va_P D vwCl (wl sh cA adr' me') t.heap ∧ va_D (va_A (wl sh cA adr me) H.size) (wl sh cA adr' me')) ∧ va_F (va_A (wl sh cA adr me) H.size) st t) aa) (va_A (wl sh cA adr me) H.size))
    (hrr : ∀ f : Nat → Nat, r.toList.map (cv f) = r.toList)
    (k : Wa M sx d mc ms n0 Q (pc + 3) L (r.toList ++ st) sh me' cs sl) : W p l e R s m args below meth c H locs cs sl Z (F0 m pc ls sk) := by
  intro T hT X
  obtain ⟨v, st₀, t, T', L', h0, X', hL', e1, e2, ⟨⟨adr', hv, hext, hP1, hD1⟩, hz, hk⟩, stp⟩ := hr T hT X
  cases hv
  have ea : adr' = adr := funext fun k => hext k (by omega)
  subst ea
  rw [h0] at hz hk
  have hfree : ∀ q, va_A (wl sh cA adr' me) H.size q → A q := by
    intro q hq
    rcases hq with ⟨i, ee, hi⟩ | hq
    · exact hD.2 i _ hi
    · exact C.2.2.2.2.1 q (Nat.le_trans hS.1 hq)
  have hS1 : va_S A s.heap T'.heap (locs ++ L') := ⟨Nat.le_trans hS.1 (by rw [e1]; exact hz), fun q h1 h2 => by
      rw [e1, hk q (Nat.lt_of_lt_of_le h1 hS.1) (fun z => h2 (hfree q z))]; exact hS.2.1 q h1 h2, fun q hq => by
      rcases List.mem_append.mp hq with h | h
      · exact hS.2.2 q h
      · exact hfree _ (hL' q h)⟩
  have kk := k l p e R s m args below meth c D cA adr0 A Z C adr' T'.heap (locs ++ L') ls he (by rw [e1]; exact hP1) (hD1.weaken (fun i q _ h => hfree _ h)) hS1 hL
  rw [List.map_append, hrr] at kk
  obtain ⟨t2, a1, b1⟩ := kk T' rfl X'
  exact ⟨t2, stp t2 a1, b1⟩
theorem st_room {adr : Nat → Nat} {m : MethodId} {ls : Array Slot} {sk : List Value} (h : (st.map (fun v => v.category)).sum ≤ 8) : 2 * (F0 m pc ls sk).monitorRoom + ((st.map (cv adr)).map fun v => v.category).sum ≤ 8 := by
  rw [List.map_map]
  have ee : ((fun v : Value => v.category) ∘ cv adr) = (fun v => v.category) := funext (cv_cat adr)
  rw [ee]
  have e0 : (F0 m pc ls sk).monitorRoom = 0 := rfl
  omega
theorem wa_callS {idx n d' : Nat} {M' : MR} {vs : List Value} {r : Option Value} (hd : decode M.2.1 pc = .ok (.invokestatic idx, 3)) (hn : pc + 3 = np) (hl : LkS M.1.cls idx M' n) (hv : vs.length = n) (hst : stk = vs.reverse ++ st) (hroom : (st.map (fun v => v.category)).sum ≤ 8) (hdd : d' + 1 ≤ d) (hcs : cs ≤ mc) (hsl : sl ≤ ms) (hrr : ∀ f : Nat → Nat, r.toList.map (cv f) = r.toList)
    (hc : Calls d' M' sh vs me r me') (k : Wa M sx d mc ms n0 Q np L (r.toList ++ st) sh me' cs sl) : Wa M sx d mc ms n0 Q pc L stk sh me cs sl := by
  subst hn; subst hst
  intro l p e R s m args below meth c D cA adr0 A Z C adr H locs ls he hP hD hS hL
  obtain ⟨h1, h2, h3⟩ := hl
  refine wa_back (aa := (vs.map (cv adr)).toArray) C he hD hS hL ?_ hrr k
  have hR := C.2.2.2.2.2.1
  exact va_runS (As := vs.map (cv adr)) (Ts := WS) (bytes := M'.2.1) (maxL := M'.2.2.1) (ret := M'.2.2.2) (ws := wsM M') (rm := rmD d' 0 0) ⟨C.1.1, C.1.2.1, C.1.2.2.1, C.1.2.2.2.2, C.2.1⟩ (hc l D cA adr H.size) ⟨callB_of n C.2.1 (goodInWS h3) rfl rfl rfl (C.2.1 _ h3.2.2.2) (C.2.1 _ h1) h3.2.1 ⟨by show d' + 1 ≤ R.frames; omega, by show 8 + (M'.2.2.1 + 11) + 48 * d' ≤ R.locals; have := h3.2.2.1; omega⟩, C.2.1 _ h2⟩
    ⟨pc_blind, fun U hU hW => ⟨rfl, by rw [hU], by rw [hU]; exact hP, va_K.moved hW.alike C.2.2.2.1, hD.weaken (fun _ _ _ _ => trivial), Nst.warm hW C.2.2.1⟩⟩ rfl (by rw [List.length_map]; exact hv) hL.1 (by show List.map (cv adr) (vs.reverse ++ st) = _; rw [List.map_append, List.map_reverse]) (st_room hroom) hd ⟨by omega, by omega⟩
theorem wa_callSN {idx n d' : Nat} {host : String} {M' : MR} {vs : List Value} {r : Option Value} (hd : decode M.2.1 pc = .ok (.invokestatic idx, 3)) (hn : pc + 3 = np) (hl : LkSN M.1.cls idx M' n host) (hv : vs.length = n) (hst : stk = vs.reverse ++ st) (hroom : (st.map (fun v => v.category)).sum ≤ 8) (hdd : d' + 1 ≤ d) (hcs : cs ≤ mc) (hsl : sl ≤ ms) (hrr : ∀ f : Nat → Nat, r.toList.map (cv f) = r.toList)
    (hc : Calls d' M' sh vs me r me') (k : Wa M sx d mc ms n0 Q np L (r.toList ++ st) sh me' cs sl) : Wa M sx d mc ms n0 Q pc L stk sh me cs sl := by
  subst hn; subst hst
  intro l p e R s m args below meth c D cA adr0 A Z C adr H locs ls he hP hD hS hL
  obtain ⟨h1, h2, h3⟩ := hl
  refine wa_back (aa := (vs.map (cv adr)).toArray) C he hD hS hL ?_ hrr k
  have hR := C.2.2.2.2.2.1
  exact va_runSN (As := vs.map (cv adr)) (Ts := WS) (bytes := M'.2.1) (maxL := M'.2.2.1) (ret := M'.2.2.2) (ws := wsM M') (rm := rmD d' 0 0) ⟨C.1.1, C.1.2.1, C.1.2.2.1, C.1.2.2.2.2, C.2.1⟩ (hc l D cA adr H.size) ⟨va_cnB n C.2.1 (goodInWS h3) rfl rfl rfl (C.2.2.1 _ h1 rfl) (C.2.1 _ h3.2.2.2) h3.2.1 ⟨by show d' + 1 ≤ R.frames; omega, by show 8 + (M'.2.2.1 + 11) + 48 * d' ≤ R.locals; have := h3.2.2.1; omega⟩, C.2.1 _ h2, trivial⟩
    ⟨pc_blind, fun U hU hW => ⟨rfl, by rw [hU], by rw [hU]; exact hP, va_K.moved hW.alike C.2.2.2.1, hD.weaken (fun _ _ _ _ => trivial), Nst.warm hW C.2.2.1⟩⟩ rfl (by rw [List.length_map]; exact hv) hL.1 (by show List.map (cv adr) (vs.reverse ++ st) = _; rw [List.map_append, List.map_reverse]) (st_room hroom) hd ⟨by omega, by omega⟩
theorem wa_callV {idx n d' ci b : Nat} {M' : MR} {vs : List Value} {r : Option Value} (hd : decode M.2.1 pc = .ok (.invokevirtual idx, 3)) (hn : pc + 3 = np) (hl : LkV M.1.cls idx M' n ci) (hs : sh[b]? = some (.inl ci)) (hv : vs.length = n) (hst : stk = vs.reverse ++ .ref b :: st) (hroom : (st.map (fun v => v.category)).sum ≤ 8) (hdd : d' + 1 ≤ d) (hcs : cs ≤ mc) (hsl : sl ≤ ms) (hrr : ∀ f : Nat → Nat, r.toList.map (cv f) = r.toList)
    (hc : Calls d' M' sh (.ref b :: vs) me r me') (k : Wa M sx d mc ms n0 Q np L (r.toList ++ st) sh me' cs sl) : Wa M sx d mc ms n0 Q pc L stk sh me cs sl := by
  subst hn; subst hst
  intro l p e R s m args below meth c D cA adr0 A Z C adr H locs ls he hP hD hS hL
  obtain ⟨h1, h2, h4, h3, h5⟩ := hl
  refine wa_back (aa := (Value.ref (adr b) :: vs.map (cv adr)).toArray) C he hD hS hL ?_ hrr k
  have hR := C.2.2.2.2.2.1
  cases hq : vwCl[ci]? with
  | none => rw [hq] at h5; cases h5
  | some q =>
    rw [hq] at h5
    have h6 : q.1 = M'.1.cls := Option.some.inj h5
    exact va_runV (C := M'.1.cls) (b := adr b) (As := vs.map (cv adr)) (Ts := WS) (bytes := M'.2.1) (maxL := M'.2.2.1) (ret := M'.2.2.2) (ws := wsM M') (rm := rmD d' 0 0) ⟨C.1.1, C.1.2.1, C.1.2.2.1, C.1.2.2.2.2, C.2.1⟩ (hc l D cA adr H.size) ⟨callB_of n C.2.1 (goodInWS h3) rfl rfl rfl (C.2.1 _ h3.2.2.2) (C.2.1 _ h1) h3.2.1 ⟨by show d' + 1 ≤ R.frames; omega, by show 8 + (M'.2.2.1 + 11) + 48 * d' ≤ R.locals; have := h3.2.2.1; omega⟩, C.2.1 _ h2, C.2.1 _ h4⟩
      ⟨pc_blind, by rw [← h6]; exact va_recv C.2.2.2.1 hP hq (wl_get hs), fun U hU hW => ⟨rfl, by rw [hU], by rw [hU]; exact hP, va_K.moved hW.alike C.2.2.2.1, hD.weaken (fun _ _ _ _ => trivial), Nst.warm hW C.2.2.1⟩⟩ rfl (by rw [List.length_map]; exact hv) hL.1 (by show List.map (cv adr) (vs.reverse ++ Value.ref b :: st) = _; rw [List.map_append, List.map_reverse]; rfl) (st_room hroom) hd ⟨by omega, by omega⟩
/-! the library's own: Math.min, Math.max, System.arraycopy of ints -/
def LkMin (own : String) (idx : Nat) : Prop := Cond.methodLink own idx Lib.Math.min.name ∈ WS ∧ Cond.static Lib.Math.min.name ∈ WS ∧ Cond.initialized "java/lang/Math" ∈ WS ∧ Cond.code Lib.Math.min.name Lib.Math.min.code 2 (some .int) ∈ WS
def LkMax (own : String) (idx : Nat) : Prop := Cond.methodLink own idx Lib.Math.max.name ∈ WS ∧ Cond.static Lib.Math.max.name ∈ WS ∧ Cond.initialized "java/lang/Math" ∈ WS ∧ Cond.code Lib.Math.max.name Lib.Math.max.code 2 (some .int) ∈ WS
def LkCpy (own : String) (idx : Nat) : Prop := Cond.methodLink own idx arraycopyName ∈ WS ∧ Cond.native arraycopyName ∈ WS ∧ Cond.static arraycopyName ∈ WS ∧ Cond.initialized "java/lang/System" ∈ WS
theorem cat_sum {adr : Nat → Nat} (st : List Value) : ((st.map (cv adr)).map fun v => v.category).sum = (st.map (fun v => v.category)).sum := by
  rw [List.map_map]
  have ee : ((fun v : Value => v.category) ∘ cv adr) = (fun v => v.category) := funext (cv_cat adr)
  rw [ee]
theorem wl_min {idx : Nat} {x y : Int32} (hd : decode M.2.1 pc = .ok (.invokestatic idx, 3)) (hn : pc + 3 = np) (hl : LkMin M.1.cls idx) (hroom : (st.map (fun v => v.category)).sum ≤ 8) (hdd : 1 ≤ d) (hcs : cs ≤ mc) (hsl : sl ≤ ms) (k : Wa M sx d mc ms n0 Q np L (.int (if y < x then y else x) :: st) sh me cs sl) : Wa M sx d mc ms n0 Q pc L (.int y :: .int x :: st) sh me cs sl := by
  subst hn
  intro l p e R s m args below meth c D cA adr0 A Z C adr H locs ls he hP hD hS hL
  obtain ⟨h1, h2, h3, h4⟩ := hl
  have hR := C.2.2.2.2.2.1
  exact va_mmin C.1.1 C.1.2.1 (C.1.2.2.1.trans hL.1.symm) C.1.2.2.2.2 (C.2.1 _ h1) (C.2.1 _ h2) (C.2.1 _ h3) (C.2.1 _ h4) (by omega) (by rw [cat_sum]; omega) (by omega) (by omega) hd (k l p e R s m args below meth c D cA adr0 A Z C adr H locs ls he hP hD hS hL)
theorem wl_max {idx : Nat} {x y : Int32} (hd : decode M.2.1 pc = .ok (.invokestatic idx, 3)) (hn : pc + 3 = np) (hl : LkMax M.1.cls idx) (hroom : (st.map (fun v => v.category)).sum ≤ 8) (hdd : 1 ≤ d) (hcs : cs ≤ mc) (hsl : sl ≤ ms) (k : Wa M sx d mc ms n0 Q np L (.int (if x < y then y else x) :: st) sh me cs sl) : Wa M sx d mc ms n0 Q pc L (.int y :: .int x :: st) sh me cs sl := by
  subst hn
  intro l p e R s m args below meth c D cA adr0 A Z C adr H locs ls he hP hD hS hL
  obtain ⟨h1, h2, h3, h4⟩ := hl
  have hR := C.2.2.2.2.2.1
  exact va_mmax C.1.1 C.1.2.1 (C.1.2.2.1.trans hL.1.symm) C.1.2.2.2.2 (C.2.1 _ h1) (C.2.1 _ h2) (C.2.1 _ h3) (C.2.1 _ h4) (by omega) (by rw [cat_sum]; omega) (by omega) (by omega) hd (k l p e R s m args below meth c D cA adr0 A Z C adr H locs ls he hP hD hS hL)
theorem wl_copy {idx a b na nb : Nat} {sp dp n : Int32} (hd : decode M.2.1 pc = .ok (.invokestatic idx, 3)) (hn : pc + 3 = np) (hl : LkCpy M.1.cls idx) (hroom : (st.map (fun v => v.category)).sum ≤ 8) (hdd : 2 ≤ d) (ha : sh[a]? = some (.inr (0, na))) (hb : sh[b]? = some (.inr (0, nb))) (h1 : ¬ sp < 0) (h2 : ¬ dp < 0) (h3 : ¬ n < 0) (h4 : sp.toNatClampNeg + n.toNatClampNeg ≤ na) (h5 : dp.toNatClampNeg + n.toNatClampNeg ≤ nb)
    (k : Wa M sx d mc ms n0 Q np L st sh (uA me b (va_cpy (gI me a) (gI me b) sp.toNatClampNeg dp.toNatClampNeg n.toNatClampNeg)) cs sl) : Wa M sx d mc ms n0 Q pc L (.int n :: .int dp :: .ref b :: .int sp :: .ref a :: st) sh me cs sl := by
  subst hn
  intro l p e R s m args below meth c D cA adr0 A Z C adr H locs ls he hP hD hS hL
  obtain ⟨g1, g2, g3, g4⟩ := hl
  have hR := C.2.2.2.2.2.1
  have hw : nativeFrameWords "java/lang/System" "arraycopy" 5 + 11 ≤ 80 := by decide
  refine va_copyi (ty := .int) C.1.1 C.1.2.1 (C.1.2.2.1.trans hL.1.symm) C.1.2.2.2.2 (C.2.1 _ g1) (C.2.1 _ g2) (C.2.1 _ g3) (C.2.1 _ g4) C.2.2.2.1 hP hD hS a b 0 0 (wl_get ha) (wl_get hb) rfl rfl rfl h1 h2 h3 h4 h5 (fun _ _ => rfl) (by omega) (by rw [cat_sum]; omega) hd (fun H1 locs1 hP1 hD1 hS1 => ?_)
  have ew := wl_setA (cA := cA) (adr := adr) (me := me) (f := va_cpy (gI me a) (gI me b) sp.toNatClampNeg dp.toNatClampNeg n.toNatClampNeg) hb
  rw [ew] at hP1 hD1
  exact k l p e R s m args below meth c D cA adr0 A Z C adr H1 locs1 ls he hP1 hD1 hS1 hL
end CALLS
end
section
theorem zz_last : True := trivial
end
