section
-- ===== PART A: goes FIRST, ahead of the names: the tables' words, and 'selects' of the private methods out of them =====
/-- a private method of a class that the tables say can be made, by its rows of tables_1 -/
def lw_okq (q : MethodName × Nat) : Prop := (q.1.cls ≠ "java/lang/invoke/MethodHandle" ∧ q.1.cls ≠ "java/lang/invoke/VarHandle") ∧ Cond.instantiable q.1.cls q.2 ∈ tables_1 ∧ Cond.privateMethod q.1 ∈ tables_1 ∧ Cond.instanceMethod q.1 ∈ tables_1
theorem lw_p0 : lw_okq (⟨"DebtCoats$Tape", "readCoat", "(LDebtCoats$Person;)Z"⟩, 3) := ⟨⟨by decide +kernel, by decide +kernel⟩, List.mem_of_getElem? (i := 188) (by decide +kernel), List.mem_of_getElem? (i := 337) (by decide +kernel), List.mem_of_getElem? (i := 338) (by decide +kernel)⟩
theorem lw_p1 : lw_okq (⟨"DebtCoats$Tape", "nextByte", "()I"⟩, 3) := ⟨⟨by decide +kernel, by decide +kernel⟩, List.mem_of_getElem? (i := 188) (by decide +kernel), List.mem_of_getElem? (i := 341) (by decide +kernel), List.mem_of_getElem? (i := 342) (by decide +kernel)⟩
theorem lw_p2 : lw_okq (⟨"DebtCoats$Tape", "readNumber", "(II)I"⟩, 3) := ⟨⟨by decide +kernel, by decide +kernel⟩, List.mem_of_getElem? (i := 188) (by decide +kernel), List.mem_of_getElem? (i := 346) (by decide +kernel), List.mem_of_getElem? (i := 347) (by decide +kernel)⟩
theorem lw_p3 : lw_okq (⟨"DebtCoats$Tape", "skipIf", "(I)Z"⟩, 3) := ⟨⟨by decide +kernel, by decide +kernel⟩, List.mem_of_getElem? (i := 188) (by decide +kernel), List.mem_of_getElem? (i := 352) (by decide +kernel), List.mem_of_getElem? (i := 353) (by decide +kernel)⟩
theorem lw_p4 : lw_okq (⟨"DebtCoats$Tape", "readDigit", "()I"⟩, 3) := ⟨⟨by decide +kernel, by decide +kernel⟩, List.mem_of_getElem? (i := 188) (by decide +kernel), List.mem_of_getElem? (i := 356) (by decide +kernel), List.mem_of_getElem? (i := 357) (by decide +kernel)⟩
theorem lw_p5 : lw_okq (⟨"DebtCoats$World", "passNight", "()V"⟩, 10) := ⟨⟨by decide +kernel, by decide +kernel⟩, List.mem_of_getElem? (i := 21) (by decide +kernel), List.mem_of_getElem? (i := 416) (by decide +kernel), List.mem_of_getElem? (i := 417) (by decide +kernel)⟩
theorem lw_p6 : lw_okq (⟨"DebtCoats$BestRing", "keepIfBetter", "(IIIII)V"⟩, 3) := ⟨⟨by decide +kernel, by decide +kernel⟩, List.mem_of_getElem? (i := 169) (by decide +kernel), List.mem_of_getElem? (i := 482) (by decide +kernel), List.mem_of_getElem? (i := 483) (by decide +kernel)⟩
theorem lw_p7 : lw_okq (⟨"DebtCoats$BestRing", "findThirds", "(LDebtCoats$World;II)V"⟩, 3) := ⟨⟨by decide +kernel, by decide +kernel⟩, List.mem_of_getElem? (i := 169) (by decide +kernel), List.mem_of_getElem? (i := 486) (by decide +kernel), List.mem_of_getElem? (i := 487) (by decide +kernel)⟩
theorem lw_p8 : lw_okq (⟨"DebtCoats$Planner", "tryEach", "(IIIII)V"⟩, 7) := ⟨⟨by decide +kernel, by decide +kernel⟩, List.mem_of_getElem? (i := 136) (by decide +kernel), List.mem_of_getElem? (i := 508) (by decide +kernel), List.mem_of_getElem? (i := 509) (by decide +kernel)⟩
theorem lw_p9 : lw_okq (⟨"DebtCoats$Planner", "keepIfBetter", "(III)V"⟩, 7) := ⟨⟨by decide +kernel, by decide +kernel⟩, List.mem_of_getElem? (i := 136) (by decide +kernel), List.mem_of_getElem? (i := 512) (by decide +kernel), List.mem_of_getElem? (i := 513) (by decide +kernel)⟩
theorem lw_p10 : lw_okq (⟨"DebtCoats$Planner", "payNext", "(IIIII)V"⟩, 7) := ⟨⟨by decide +kernel, by decide +kernel⟩, List.mem_of_getElem? (i := 136) (by decide +kernel), List.mem_of_getElem? (i := 520) (by decide +kernel), List.mem_of_getElem? (i := 521) (by decide +kernel)⟩
theorem lw_p11 : lw_okq (⟨"DebtCoats$Planner", "taxesOf", "(I)I"⟩, 7) := ⟨⟨by decide +kernel, by decide +kernel⟩, List.mem_of_getElem? (i := 136) (by decide +kernel), List.mem_of_getElem? (i := 524) (by decide +kernel), List.mem_of_getElem? (i := 525) (by decide +kernel)⟩
theorem lw_p12 : lw_okq (⟨"DebtCoats$Planner", "growAmounts", "([II)V"⟩, 7) := ⟨⟨by decide +kernel, by decide +kernel⟩, List.mem_of_getElem? (i := 136) (by decide +kernel), List.mem_of_getElem? (i := 531) (by decide +kernel), List.mem_of_getElem? (i := 532) (by decide +kernel)⟩
theorem lw_p13 : lw_okq (⟨"DebtCoatsModel", "isOne", "(I)Z"⟩, 28) := ⟨⟨by decide +kernel, by decide +kernel⟩, List.mem_of_getElem? (i := 634) (by decide +kernel), List.mem_of_getElem? (i := 739) (by decide +kernel), List.mem_of_getElem? (i := 740) (by decide +kernel)⟩
theorem lw_p14 : lw_okq (⟨"DebtCoatsModel", "thickOf", "(I)I"⟩, 28) := ⟨⟨by decide +kernel, by decide +kernel⟩, List.mem_of_getElem? (i := 634) (by decide +kernel), List.mem_of_getElem? (i := 744) (by decide +kernel), List.mem_of_getElem? (i := 745) (by decide +kernel)⟩
theorem lw_p15 : lw_okq (⟨"DebtCoatsModel", "isCoat", "(II)Z"⟩, 28) := ⟨⟨by decide +kernel, by decide +kernel⟩, List.mem_of_getElem? (i := 634) (by decide +kernel), List.mem_of_getElem? (i := 753) (by decide +kernel), List.mem_of_getElem? (i := 754) (by decide +kernel)⟩
def lw_privs_1 : List (MethodName × Nat) := [(⟨"DebtCoats$Tape", "readCoat", "(LDebtCoats$Person;)Z"⟩, 3), (⟨"DebtCoats$Tape", "nextByte", "()I"⟩, 3), (⟨"DebtCoats$Tape", "readNumber", "(II)I"⟩, 3), (⟨"DebtCoats$Tape", "skipIf", "(I)Z"⟩, 3), (⟨"DebtCoats$Tape", "readDigit", "()I"⟩, 3), (⟨"DebtCoats$World", "passNight", "()V"⟩, 10), (⟨"DebtCoats$BestRing", "keepIfBetter", "(IIIII)V"⟩, 3), (⟨"DebtCoats$BestRing", "findThirds", "(LDebtCoats$World;II)V"⟩, 3), (⟨"DebtCoats$Planner", "tryEach", "(IIIII)V"⟩, 7), (⟨"DebtCoats$Planner", "keepIfBetter", "(III)V"⟩, 7), (⟨"DebtCoats$Planner", "payNext", "(IIIII)V"⟩, 7), (⟨"DebtCoats$Planner", "taxesOf", "(I)I"⟩, 7), (⟨"DebtCoats$Planner", "growAmounts", "([II)V"⟩, 7), (⟨"DebtCoatsModel", "isOne", "(I)Z"⟩, 28), (⟨"DebtCoatsModel", "thickOf", "(I)I"⟩, 28), (⟨"DebtCoatsModel", "isCoat", "(II)Z"⟩, 28)]
theorem lw_r1 : ∀ q ∈ lw_privs_1, lw_okq q := List.forall_mem_cons.mpr ⟨lw_p0, List.forall_mem_cons.mpr ⟨lw_p1, List.forall_mem_cons.mpr ⟨lw_p2, List.forall_mem_cons.mpr ⟨lw_p3, List.forall_mem_cons.mpr ⟨lw_p4, List.forall_mem_cons.mpr ⟨lw_p5, List.forall_mem_cons.mpr ⟨lw_p6, List.forall_mem_cons.mpr ⟨lw_p7, List.forall_mem_cons.mpr ⟨lw_p8, List.forall_mem_cons.mpr ⟨lw_p9, List.forall_mem_cons.mpr ⟨lw_p10, List.forall_mem_cons.mpr ⟨lw_p11, List.forall_mem_cons.mpr ⟨lw_p12, List.forall_mem_cons.mpr ⟨lw_p13, List.forall_mem_cons.mpr ⟨lw_p14, List.forall_mem_cons.mpr ⟨lw_p15, fun _ h => absurd h List.not_mem_nil⟩⟩⟩⟩⟩⟩⟩⟩⟩⟩⟩⟩⟩⟩⟩⟩
theorem lw_p16 : lw_okq (⟨"DebtCoatsModel", "byteOf", "(II)I"⟩, 28) := ⟨⟨by decide +kernel, by decide +kernel⟩, List.mem_of_getElem? (i := 634) (by decide +kernel), List.mem_of_getElem? (i := 790) (by decide +kernel), List.mem_of_getElem? (i := 791) (by decide +kernel)⟩
theorem lw_p17 : lw_okq (⟨"DebtCoatsModel", "here", "()I"⟩, 28) := ⟨⟨by decide +kernel, by decide +kernel⟩, List.mem_of_getElem? (i := 634) (by decide +kernel), List.mem_of_getElem? (i := 794) (by decide +kernel), List.mem_of_getElem? (i := 795) (by decide +kernel)⟩
theorem lw_p18 : lw_okq (⟨"DebtCoatsModel", "number", "(II)I"⟩, 28) := ⟨⟨by decide +kernel, by decide +kernel⟩, List.mem_of_getElem? (i := 634) (by decide +kernel), List.mem_of_getElem? (i := 798) (by decide +kernel), List.mem_of_getElem? (i := 799) (by decide +kernel)⟩
theorem lw_p19 : lw_okq (⟨"DebtCoatsModel", "has", "(I)Z"⟩, 28) := ⟨⟨by decide +kernel, by decide +kernel⟩, List.mem_of_getElem? (i := 634) (by decide +kernel), List.mem_of_getElem? (i := 805) (by decide +kernel), List.mem_of_getElem? (i := 806) (by decide +kernel)⟩
theorem lw_p20 : lw_okq (⟨"DebtCoatsModel", "sleeps", "(I)V"⟩, 28) := ⟨⟨by decide +kernel, by decide +kernel⟩, List.mem_of_getElem? (i := 634) (by decide +kernel), List.mem_of_getElem? (i := 817) (by decide +kernel), List.mem_of_getElem? (i := 818) (by decide +kernel)⟩
theorem lw_p21 : lw_okq (⟨"DebtCoatsModel", "rests", "(I)V"⟩, 28) := ⟨⟨by decide +kernel, by decide +kernel⟩, List.mem_of_getElem? (i := 634) (by decide +kernel), List.mem_of_getElem? (i := 821) (by decide +kernel), List.mem_of_getElem? (i := 822) (by decide +kernel)⟩
theorem lw_p22 : lw_okq (⟨"DebtCoatsModel", "isTooHot", "(II)Z"⟩, 28) := ⟨⟨by decide +kernel, by decide +kernel⟩, List.mem_of_getElem? (i := 634) (by decide +kernel), List.mem_of_getElem? (i := 829) (by decide +kernel), List.mem_of_getElem? (i := 830) (by decide +kernel)⟩
theorem lw_p23 : lw_okq (⟨"DebtCoatsModel", "mayOff", "(II)Z"⟩, 28) := ⟨⟨by decide +kernel, by decide +kernel⟩, List.mem_of_getElem? (i := 634) (by decide +kernel), List.mem_of_getElem? (i := 842) (by decide +kernel), List.mem_of_getElem? (i := 843) (by decide +kernel)⟩
theorem lw_p24 : lw_okq (⟨"DebtCoatsModel", "off", "(II)V"⟩, 28) := ⟨⟨by decide +kernel, by decide +kernel⟩, List.mem_of_getElem? (i := 634) (by decide +kernel), List.mem_of_getElem? (i := 846) (by decide +kernel), List.mem_of_getElem? (i := 847) (by decide +kernel)⟩
theorem lw_p25 : lw_okq (⟨"DebtCoatsModel", "isBetween", "(II)Z"⟩, 28) := ⟨⟨by decide +kernel, by decide +kernel⟩, List.mem_of_getElem? (i := 634) (by decide +kernel), List.mem_of_getElem? (i := 854) (by decide +kernel), List.mem_of_getElem? (i := 855) (by decide +kernel)⟩
theorem lw_p26 : lw_okq (⟨"DebtCoatsModel", "saved", "(III)I"⟩, 28) := ⟨⟨by decide +kernel, by decide +kernel⟩, List.mem_of_getElem? (i := 634) (by decide +kernel), List.mem_of_getElem? (i := 862) (by decide +kernel), List.mem_of_getElem? (i := 863) (by decide +kernel)⟩
theorem lw_p27 : lw_okq (⟨"DebtCoatsModel", "gains", "(II)I"⟩, 28) := ⟨⟨by decide +kernel, by decide +kernel⟩, List.mem_of_getElem? (i := 634) (by decide +kernel), List.mem_of_getElem? (i := 866) (by decide +kernel), List.mem_of_getElem? (i := 867) (by decide +kernel)⟩
theorem lw_p28 : lw_okq (⟨"DebtCoatsModel", "outer", "(I)I"⟩, 28) := ⟨⟨by decide +kernel, by decide +kernel⟩, List.mem_of_getElem? (i := 634) (by decide +kernel), List.mem_of_getElem? (i := 870) (by decide +kernel), List.mem_of_getElem? (i := 871) (by decide +kernel)⟩
theorem lw_p29 : lw_okq (⟨"DebtCoatsModel", "starts", "(I)V"⟩, 28) := ⟨⟨by decide +kernel, by decide +kernel⟩, List.mem_of_getElem? (i := 634) (by decide +kernel), List.mem_of_getElem? (i := 888) (by decide +kernel), List.mem_of_getElem? (i := 889) (by decide +kernel)⟩
theorem lw_p30 : lw_okq (⟨"DebtCoatsModel", "bestFree", "(I)I"⟩, 28) := ⟨⟨by decide +kernel, by decide +kernel⟩, List.mem_of_getElem? (i := 634) (by decide +kernel), List.mem_of_getElem? (i := 892) (by decide +kernel), List.mem_of_getElem? (i := 893) (by decide +kernel)⟩
theorem lw_p31 : lw_okq (⟨"DebtCoatsModel", "isLawful", "(I)Z"⟩, 28) := ⟨⟨by decide +kernel, by decide +kernel⟩, List.mem_of_getElem? (i := 634) (by decide +kernel), List.mem_of_getElem? (i := 896) (by decide +kernel), List.mem_of_getElem? (i := 897) (by decide +kernel)⟩
def lw_privs_2 : List (MethodName × Nat) := [(⟨"DebtCoatsModel", "byteOf", "(II)I"⟩, 28), (⟨"DebtCoatsModel", "here", "()I"⟩, 28), (⟨"DebtCoatsModel", "number", "(II)I"⟩, 28), (⟨"DebtCoatsModel", "has", "(I)Z"⟩, 28), (⟨"DebtCoatsModel", "sleeps", "(I)V"⟩, 28), (⟨"DebtCoatsModel", "rests", "(I)V"⟩, 28), (⟨"DebtCoatsModel", "isTooHot", "(II)Z"⟩, 28), (⟨"DebtCoatsModel", "mayOff", "(II)Z"⟩, 28), (⟨"DebtCoatsModel", "off", "(II)V"⟩, 28), (⟨"DebtCoatsModel", "isBetween", "(II)Z"⟩, 28), (⟨"DebtCoatsModel", "saved", "(III)I"⟩, 28), (⟨"DebtCoatsModel", "gains", "(II)I"⟩, 28), (⟨"DebtCoatsModel", "outer", "(I)I"⟩, 28), (⟨"DebtCoatsModel", "starts", "(I)V"⟩, 28), (⟨"DebtCoatsModel", "bestFree", "(I)I"⟩, 28), (⟨"DebtCoatsModel", "isLawful", "(I)Z"⟩, 28)]
theorem lw_r2 : ∀ q ∈ lw_privs_2, lw_okq q := List.forall_mem_cons.mpr ⟨lw_p16, List.forall_mem_cons.mpr ⟨lw_p17, List.forall_mem_cons.mpr ⟨lw_p18, List.forall_mem_cons.mpr ⟨lw_p19, List.forall_mem_cons.mpr ⟨lw_p20, List.forall_mem_cons.mpr ⟨lw_p21, List.forall_mem_cons.mpr ⟨lw_p22, List.forall_mem_cons.mpr ⟨lw_p23, List.forall_mem_cons.mpr ⟨lw_p24, List.forall_mem_cons.mpr ⟨lw_p25, List.forall_mem_cons.mpr ⟨lw_p26, List.forall_mem_cons.mpr ⟨lw_p27, List.forall_mem_cons.mpr ⟨lw_p28, List.forall_mem_cons.mpr ⟨lw_p29, List.forall_mem_cons.mpr ⟨lw_p30, List.forall_mem_cons.mpr ⟨lw_p31, fun _ h => absurd h List.not_mem_nil⟩⟩⟩⟩⟩⟩⟩⟩⟩⟩⟩⟩⟩⟩⟩⟩
theorem lw_p32 : lw_okq (⟨"DebtCoatsModel", "freeBy", "(II)I"⟩, 28) := ⟨⟨by decide +kernel, by decide +kernel⟩, List.mem_of_getElem? (i := 634) (by decide +kernel), List.mem_of_getElem? (i := 900) (by decide +kernel), List.mem_of_getElem? (i := 901) (by decide +kernel)⟩
theorem lw_p33 : lw_okq (⟨"DebtCoatsModel", "turns", "(I)Z"⟩, 28) := ⟨⟨by decide +kernel, by decide +kernel⟩, List.mem_of_getElem? (i := 634) (by decide +kernel), List.mem_of_getElem? (i := 904) (by decide +kernel), List.mem_of_getElem? (i := 905) (by decide +kernel)⟩
theorem lw_p34 : lw_okq (⟨"DebtCoatsModel", "lay", "([II)I"⟩, 28) := ⟨⟨by decide +kernel, by decide +kernel⟩, List.mem_of_getElem? (i := 634) (by decide +kernel), List.mem_of_getElem? (i := 929) (by decide +kernel), List.mem_of_getElem? (i := 930) (by decide +kernel)⟩
theorem lw_p35 : lw_okq (⟨"DebtCoatsModel", "gives", "(I[I)I"⟩, 28) := ⟨⟨by decide +kernel, by decide +kernel⟩, List.mem_of_getElem? (i := 634) (by decide +kernel), List.mem_of_getElem? (i := 937) (by decide +kernel), List.mem_of_getElem? (i := 938) (by decide +kernel)⟩
theorem lw_p36 : lw_okq (⟨"DebtCoatsModel", "finds", "(IIII)I"⟩, 28) := ⟨⟨by decide +kernel, by decide +kernel⟩, List.mem_of_getElem? (i := 634) (by decide +kernel), List.mem_of_getElem? (i := 951) (by decide +kernel), List.mem_of_getElem? (i := 952) (by decide +kernel)⟩
def lw_privs_3 : List (MethodName × Nat) := [(⟨"DebtCoatsModel", "freeBy", "(II)I"⟩, 28), (⟨"DebtCoatsModel", "turns", "(I)Z"⟩, 28), (⟨"DebtCoatsModel", "lay", "([II)I"⟩, 28), (⟨"DebtCoatsModel", "gives", "(I[I)I"⟩, 28), (⟨"DebtCoatsModel", "finds", "(IIII)I"⟩, 28)]
theorem lw_r3 : ∀ q ∈ lw_privs_3, lw_okq q := List.forall_mem_cons.mpr ⟨lw_p32, List.forall_mem_cons.mpr ⟨lw_p33, List.forall_mem_cons.mpr ⟨lw_p34, List.forall_mem_cons.mpr ⟨lw_p35, List.forall_mem_cons.mpr ⟨lw_p36, fun _ h => absurd h List.not_mem_nil⟩⟩⟩⟩⟩
def lw_privs : List (MethodName × Nat) := lw_privs_1 ++ (lw_privs_2 ++ (lw_privs_3))
def lw_tbl : List Cond := k2_sels lw_privs ++ tables_1
theorem lw_privs_ok : ∀ q ∈ lw_privs, lw_okq q := by
  show ∀ q ∈ lw_privs_1 ++ (lw_privs_2 ++ (lw_privs_3)), lw_okq q
  exact List.forall_mem_append.mpr ⟨lw_r1, List.forall_mem_append.mpr ⟨lw_r2, lw_r3⟩⟩
end
section
def RX0 : String := "DebtCoats$BestRing"
def TX0 : u_T := fun k => match k with
  | 0 => ("DebtCoats$BestRing", "row", "[I", true)
  | 1 => ("DebtCoats$BestRing", "size", "I", false)
  | _ => ("DebtCoats$BestRing", "saved", "I", false)
def tyX0 : Nat → FieldType := fun k => match k with
  | 0 => .array .int
  | 1 => .int
  | _ => .int
abbrev wsX00 : List Cond := u_ws RX0 TX0 3
theorem nmX0 : ∀ a, a < 3 → ∀ b, b < 3 → a ≠ b → (TX0 a).2.1 ≠ (TX0 b).2.1 := by decide +kernel
theorem tyX0_ok : ∀ k, k < 3 → parseFieldDescriptor (TX0 k).2.2.1 = some (tyX0 k) := by decide +kernel
abbrev cX0_init : ByteArray := prog_2_method_1_code
def yX0_init : MethodName := ⟨RX0, "<init>", "()V"⟩
abbrev cX0_find : ByteArray := prog_2_method_2_code
def yX0_find : MethodName := ⟨RX0, "find", "(LDebtCoats$World;)V"⟩
abbrev cX0_findThirds : ByteArray := prog_2_method_3_code
def yX0_findThirds : MethodName := ⟨RX0, "findThirds", "(LDebtCoats$World;II)V"⟩
abbrev cX0_keepIfBetter : ByteArray := prog_2_method_4_code
def yX0_keepIfBetter : MethodName := ⟨RX0, "keepIfBetter", "(IIIII)V"⟩
abbrev cX0_savedBy : ByteArray := prog_2_method_5_code
def yX0_savedBy : MethodName := ⟨RX0, "savedBy", "(LDebtCoats$Person;LDebtCoats$Person;LDebtCoats$Person;)I"⟩
abbrev cX0_gain : ByteArray := prog_2_method_6_code
def yX0_gain : MethodName := ⟨RX0, "gain", "(LDebtCoats$Person;LDebtCoats$Person;)I"⟩
def RX1 : String := "DebtCoats$Person"
def TX1 : u_T := fun k => match k with
  | 0 => ("DebtCoats$Person", "lenders", "[I", true)
  | 1 => ("DebtCoats$Person", "amounts", "[I", true)
  | 2 => ("DebtCoats$Person", "rates", "[I", true)
  | 3 => ("DebtCoats$Person", "thicks", "[I", true)
  | 4 => ("DebtCoats$Person", "taxes", "[I", true)
  | 5 => ("DebtCoats$Person", "worn", "I", false)
  | 6 => ("DebtCoats$Person", "purse", "I", false)
  | 7 => ("DebtCoats$Person", "income", "I", false)
  | 8 => ("DebtCoats$Person", "strength", "I", false)
  | _ => ("DebtCoats$Person", "fellOn", "I", false)
def tyX1 : Nat → FieldType := fun k => match k with
  | 0 => .array .int
  | 1 => .array .int
  | 2 => .array .int
  | 3 => .array .int
  | 4 => .array .int
  | 5 => .int
  | 6 => .int
  | 7 => .int
  | 8 => .int
  | _ => .int
abbrev wsX10 : List Cond := u_ws RX1 TX1 10
theorem nmX1 : ∀ a, a < 10 → ∀ b, b < 10 → a ≠ b → (TX1 a).2.1 ≠ (TX1 b).2.1 := by decide +kernel
theorem tyX1_ok : ∀ k, k < 10 → parseFieldDescriptor (TX1 k).2.2.1 = some (tyX1 k) := by decide +kernel
abbrev cX1_init : ByteArray := prog_3_method_1_code
def yX1_init : MethodName := ⟨RX1, "<init>", "()V"⟩
abbrev cX1_begin : ByteArray := prog_3_method_2_code
def yX1_begin : MethodName := ⟨RX1, "begin", "(III)V"⟩
abbrev cX1_becomeLike : ByteArray := prog_3_method_3_code
def yX1_becomeLike : MethodName := ⟨RX1, "becomeLike", "(LDebtCoats$Person;)V"⟩
abbrev cX1_wearAs : ByteArray := prog_3_method_4_code
def yX1_wearAs : MethodName := ⟨RX1, "wearAs", "(LDebtCoats$Person;)V"⟩
abbrev cX1_wornSet : ByteArray := prog_3_method_5_code
def yX1_wornSet : MethodName := ⟨RX1, "wornSet", "()I"⟩
abbrev cX1_isBetween : ByteArray := prog_3_method_6_code
def yX1_isBetween : MethodName := ⟨RX1, "isBetween", "(I)Z"⟩
abbrev cX1_thickTogether : ByteArray := prog_3_method_7_code
def yX1_thickTogether : MethodName := ⟨RX1, "thickTogether", "()I"⟩
abbrev cX1_amountsTogether : ByteArray := prog_3_method_8_code
def yX1_amountsTogether : MethodName := ⟨RX1, "amountsTogether", "()I"⟩
abbrev cX1_owedTo : ByteArray := prog_3_method_9_code
def yX1_owedTo : MethodName := ⟨RX1, "owedTo", "(I)I"⟩
abbrev cX1_putOn : ByteArray := prog_3_method_10_code
def yX1_putOn : MethodName := ⟨RX1, "putOn", "(IIII)V"⟩
abbrev cX1_takeOff : ByteArray := prog_3_method_11_code
def yX1_takeOff : MethodName := ⟨RX1, "takeOff", "(I)V"⟩
abbrev cX1_payOff : ByteArray := prog_3_method_12_code
def yX1_payOff : MethodName := ⟨RX1, "payOff", "(I)V"⟩
abbrev cX1_swapOutermost : ByteArray := prog_3_method_13_code
def yX1_swapOutermost : MethodName := ⟨RX1, "swapOutermost", "(LDebtCoats$Person;)V"⟩
abbrev cX1_swapItems : ByteArray := prog_3_method_14_code
def yX1_swapItems : MethodName := ⟨RX1, "swapItems", "([II[II)V"⟩
abbrev cX1_passNight : ByteArray := prog_3_method_15_code
def yX1_passNight : MethodName := ⟨RX1, "passNight", "()V"⟩
abbrev cX1_isOverburdened : ByteArray := prog_3_method_16_code
def yX1_isOverburdened : MethodName := ⟨RX1, "isOverburdened", "(I)Z"⟩
abbrev cX1_fall : ByteArray := prog_3_method_17_code
def yX1_fall : MethodName := ⟨RX1, "fall", "(I)V"⟩
def RX2 : String := "DebtCoats$Planner"
def TX2 : u_T := fun k => match k with
  | 0 => ("DebtCoats$Planner", "amountsBehind", "[[I", true)
  | 1 => ("DebtCoats$Planner", "order", "[I", true)
  | 2 => ("DebtCoats$Planner", "bestOrder", "[I", true)
  | 3 => ("DebtCoats$Planner", "who", "LDebtCoats$Person;", false)
  | 4 => ("DebtCoats$Planner", "off", "I", false)
  | 5 => ("DebtCoats$Planner", "bestDays", "I", false)
  | _ => ("DebtCoats$Planner", "bestPaid", "I", false)
def tyX2 : Nat → FieldType := fun k => match k with
  | 0 => .array (.array .int)
  | 1 => .array .int
  | 2 => .array .int
  | 3 => .object "DebtCoats$Person"
  | 4 => .int
  | 5 => .int
  | _ => .int
abbrev wsX20 : List Cond := u_ws RX2 TX2 7
theorem nmX2 : ∀ a, a < 7 → ∀ b, b < 7 → a ≠ b → (TX2 a).2.1 ≠ (TX2 b).2.1 := by decide +kernel
theorem tyX2_ok : ∀ k, k < 7 → parseFieldDescriptor (TX2 k).2.2.1 = some (tyX2 k) := by decide +kernel
abbrev cX2_init : ByteArray := prog_4_method_1_code
def yX2_init : MethodName := ⟨RX2, "<init>", "()V"⟩
abbrev cX2_plan : ByteArray := prog_4_method_2_code
def yX2_plan : MethodName := ⟨RX2, "plan", "(LDebtCoats$Person;I)V"⟩
abbrev cX2_tryEach : ByteArray := prog_4_method_3_code
def yX2_tryEach : MethodName := ⟨RX2, "tryEach", "(IIIII)V"⟩
abbrev cX2_payNext : ByteArray := prog_4_method_4_code
def yX2_payNext : MethodName := ⟨RX2, "payNext", "(IIIII)V"⟩
abbrev cX2_taxesOf : ByteArray := prog_4_method_5_code
def yX2_taxesOf : MethodName := ⟨RX2, "taxesOf", "(I)I"⟩
abbrev cX2_growAmounts : ByteArray := prog_4_method_6_code
def yX2_growAmounts : MethodName := ⟨RX2, "growAmounts", "([II)V"⟩
abbrev cX2_keepIfBetter : ByteArray := prog_4_method_7_code
def yX2_keepIfBetter : MethodName := ⟨RX2, "keepIfBetter", "(III)V"⟩
def RX3 : String := "DebtCoats$Sheet"
def TX3 : u_T := fun k => match k with
  | 0 => ("DebtCoats$Sheet", "items", "[I", true)
  | 1 => ("DebtCoats$Sheet", "isThere", "Z", false)
  | 2 => ("DebtCoats$Sheet", "lane", "I", false)
  | _ => ("DebtCoats$Sheet", "length", "I", false)
def tyX3 : Nat → FieldType := fun k => match k with
  | 0 => .array .int
  | 1 => .boolean
  | 2 => .int
  | _ => .int
abbrev wsX30 : List Cond := u_ws RX3 TX3 4
theorem nmX3 : ∀ a, a < 4 → ∀ b, b < 4 → a ≠ b → (TX3 a).2.1 ≠ (TX3 b).2.1 := by decide +kernel
theorem tyX3_ok : ∀ k, k < 4 → parseFieldDescriptor (TX3 k).2.2.1 = some (tyX3 k) := by decide +kernel
abbrev cX3_init : ByteArray := prog_5_method_1_code
def yX3_init : MethodName := ⟨RX3, "<init>", "()V"⟩
abbrev cX3_begin : ByteArray := prog_5_method_2_code
def yX3_begin : MethodName := ⟨RX3, "begin", "(II)V"⟩
abbrev cX3_narrowed : ByteArray := prog_5_method_3_code
def yX3_narrowed : MethodName := ⟨RX3, "narrowed", "(II)I"⟩
abbrev cX3_hasItems : ByteArray := prog_5_method_4_code
def yX3_hasItems : MethodName := ⟨RX3, "hasItems", "(II)Z"⟩
abbrev cX3_refusal : ByteArray := prog_5_method_5_code
def yX3_refusal : MethodName := ⟨RX3, "refusal", "(III)I"⟩
def RX4 : String := "DebtCoats$Tape"
def TX4 : u_T := fun k => match k with
  | 0 => ("DebtCoats$Tape", "bytes", "[I", true)
  | 1 => ("DebtCoats$Tape", "length", "I", false)
  | _ => ("DebtCoats$Tape", "place", "I", false)
def tyX4 : Nat → FieldType := fun k => match k with
  | 0 => .array .int
  | 1 => .int
  | _ => .int
abbrev wsX40 : List Cond := u_ws RX4 TX4 3
theorem nmX4 : ∀ a, a < 3 → ∀ b, b < 3 → a ≠ b → (TX4 a).2.1 ≠ (TX4 b).2.1 := by decide +kernel
theorem tyX4_ok : ∀ k, k < 3 → parseFieldDescriptor (TX4 k).2.2.1 = some (tyX4 k) := by decide +kernel
abbrev cX4_init : ByteArray := prog_6_method_1_code
def yX4_init : MethodName := ⟨RX4, "<init>", "()V"⟩
abbrev cX4_isPrintable : ByteArray := prog_6_method_2_code
def yX4_isPrintable : MethodName := ⟨RX4, "isPrintable", "(JI)Z"⟩
abbrev cX4_append : ByteArray := prog_6_method_3_code
def yX4_append : MethodName := ⟨RX4, "append", "(JI)V"⟩
abbrev cX4_readCoats : ByteArray := prog_6_method_4_code
def yX4_readCoats : MethodName := ⟨RX4, "readCoats", "(LDebtCoats$Person;)I"⟩
abbrev cX4_readCoat : ByteArray := prog_6_method_5_code
def yX4_readCoat : MethodName := ⟨RX4, "readCoat", "(LDebtCoats$Person;)Z"⟩
abbrev cX4_nextByte : ByteArray := prog_6_method_6_code
def yX4_nextByte : MethodName := ⟨RX4, "nextByte", "()I"⟩
abbrev cX4_skipIf : ByteArray := prog_6_method_7_code
def yX4_skipIf : MethodName := ⟨RX4, "skipIf", "(I)Z"⟩
abbrev cX4_readNumber : ByteArray := prog_6_method_8_code
def yX4_readNumber : MethodName := ⟨RX4, "readNumber", "(II)I"⟩
abbrev cX4_readDigit : ByteArray := prog_6_method_9_code
def yX4_readDigit : MethodName := ⟨RX4, "readDigit", "()I"⟩
def RX5 : String := "DebtCoats$World"
def TX5 : u_T := fun k => match k with
  | 0 => ("DebtCoats$World", "all", "[LDebtCoats$Person;", true)
  | 1 => ("DebtCoats$World", "heats", "[I", true)
  | 2 => ("DebtCoats$World", "wareAmounts", "[I", true)
  | 3 => ("DebtCoats$World", "wareThicks", "[I", true)
  | 4 => ("DebtCoats$World", "people", "I", false)
  | 5 => ("DebtCoats$World", "wares", "I", false)
  | 6 => ("DebtCoats$World", "day", "I", false)
  | 7 => ("DebtCoats$World", "off", "I", false)
  | 8 => ("DebtCoats$World", "cutsAllowed", "I", false)
  | _ => ("DebtCoats$World", "cutsMade", "I", false)
def tyX5 : Nat → FieldType := fun k => match k with
  | 0 => .array (.object "DebtCoats$Person")
  | 1 => .array .int
  | 2 => .array .int
  | 3 => .array .int
  | 4 => .int
  | 5 => .int
  | 6 => .int
  | 7 => .int
  | 8 => .int
  | _ => .int
abbrev wsX50 : List Cond := u_ws RX5 TX5 10
theorem nmX5 : ∀ a, a < 10 → ∀ b, b < 10 → a ≠ b → (TX5 a).2.1 ≠ (TX5 b).2.1 := by decide +kernel
theorem tyX5_ok : ∀ k, k < 10 → parseFieldDescriptor (TX5 k).2.2.1 = some (tyX5 k) := by decide +kernel
abbrev cX5_init : ByteArray := prog_7_method_1_code
def yX5_init : MethodName := ⟨RX5, "<init>", "()V"⟩
abbrev cX5_becomeLike : ByteArray := prog_7_method_2_code
def yX5_becomeLike : MethodName := ⟨RX5, "becomeLike", "(LDebtCoats$World;)V"⟩
abbrev cX5_hasPerson : ByteArray := prog_7_method_3_code
def yX5_hasPerson : MethodName := ⟨RX5, "hasPerson", "(I)Z"⟩
abbrev cX5_hasCoat : ByteArray := prog_7_method_4_code
def yX5_hasCoat : MethodName := ⟨RX5, "hasCoat", "(II)Z"⟩
abbrev cX5_coatsOfAll : ByteArray := prog_7_method_5_code
def yX5_coatsOfAll : MethodName := ⟨RX5, "coatsOfAll", "()I"⟩
abbrev cX5_fallenOnes : ByteArray := prog_7_method_6_code
def yX5_fallenOnes : MethodName := ⟨RX5, "fallenOnes", "()I"⟩
abbrev cX5_heatOn : ByteArray := prog_7_method_7_code
def yX5_heatOn : MethodName := ⟨RX5, "heatOn", "(I)I"⟩
abbrev cX5_passNightsUntil : ByteArray := prog_7_method_8_code
def yX5_passNightsUntil : MethodName := ⟨RX5, "passNightsUntil", "(I)V"⟩
abbrev cX5_passNight : ByteArray := prog_7_method_9_code
def yX5_passNight : MethodName := ⟨RX5, "passNight", "()V"⟩
abbrev cX5_canBePaid : ByteArray := prog_7_method_10_code
def yX5_canBePaid : MethodName := ⟨RX5, "canBePaid", "(III)Z"⟩
abbrev cX5_isSetOfWares : ByteArray := prog_7_method_11_code
def yX5_isSetOfWares : MethodName := ⟨RX5, "isSetOfWares", "(III)Z"⟩
def RX6 : String := "DebtCoats"
def TX6 : u_T := fun k => match k with
  | 0 => ("DebtCoats", "world", "LDebtCoats$World;", true)
  | 1 => ("DebtCoats", "kept", "LDebtCoats$World;", true)
  | 2 => ("DebtCoats", "trial", "LDebtCoats$World;", true)
  | 3 => ("DebtCoats", "spare", "LDebtCoats$Person;", true)
  | 4 => ("DebtCoats", "planner", "LDebtCoats$Planner;", true)
  | 5 => ("DebtCoats", "bestRing", "LDebtCoats$BestRing;", true)
  | 6 => ("DebtCoats", "tape", "LDebtCoats$Tape;", true)
  | 7 => ("DebtCoats", "sheets", "[LDebtCoats$Sheet;", true)
  | _ => ("DebtCoats", "isKept", "Z", false)
def tyX6 : Nat → FieldType := fun k => match k with
  | 0 => .object "DebtCoats$World"
  | 1 => .object "DebtCoats$World"
  | 2 => .object "DebtCoats$World"
  | 3 => .object "DebtCoats$Person"
  | 4 => .object "DebtCoats$Planner"
  | 5 => .object "DebtCoats$BestRing"
  | 6 => .object "DebtCoats$Tape"
  | 7 => .array (.object "DebtCoats$Sheet")
  | _ => .boolean
abbrev wsX60 : List Cond := u_ws RX6 TX6 9
theorem nmX6 : ∀ a, a < 9 → ∀ b, b < 9 → a ≠ b → (TX6 a).2.1 ≠ (TX6 b).2.1 := by decide +kernel
theorem tyX6_ok : ∀ k, k < 9 → parseFieldDescriptor (TX6 k).2.2.1 = some (tyX6 k) := by decide +kernel
abbrev cX6_init : ByteArray := prog_1_method_1_code
def yX6_init : MethodName := ⟨RX6, "<init>", "()V"⟩
abbrev cX6_person : ByteArray := prog_1_method_2_code
def yX6_person : MethodName := ⟨RX6, "person", "(III)I"⟩
abbrev cX6_of : ByteArray := prog_1_method_3_code
def yX6_of : MethodName := ⟨RX6, "of", "(II)I"⟩
abbrev cX6_coat : ByteArray := prog_1_method_4_code
def yX6_coat : MethodName := ⟨RX6, "coat", "(III)I"⟩
abbrev cX6_tax : ByteArray := prog_1_method_5_code
def yX6_tax : MethodName := ⟨RX6, "tax", "(III)I"⟩
abbrev cX6_heat : ByteArray := prog_1_method_6_code
def yX6_heat : MethodName := ⟨RX6, "heat", "(II)I"⟩
abbrev cX6_rule : ByteArray := prog_1_method_7_code
def yX6_rule : MethodName := ⟨RX6, "rule", "(II)I"⟩
abbrev cX6_type : ByteArray := prog_1_method_8_code
def yX6_type : MethodName := ⟨RX6, "type", "(JI)I"⟩
abbrev cX6_coats : ByteArray := prog_1_method_9_code
def yX6_coats : MethodName := ⟨RX6, "coats", "(I)I"⟩
abbrev cX6_count : ByteArray := prog_1_method_10_code
def yX6_count : MethodName := ⟨RX6, "count", "(I)I"⟩
abbrev cX6_take : ByteArray := prog_1_method_11_code
def yX6_take : MethodName := ⟨RX6, "take", "(IIIII)I"⟩
abbrev cX6_pay : ByteArray := prog_1_method_12_code
def yX6_pay : MethodName := ⟨RX6, "pay", "(II)I"⟩
abbrev cX6_nights : ByteArray := prog_1_method_13_code
def yX6_nights : MethodName := ⟨RX6, "nights", "(I)I"⟩
abbrev cX6_cut : ByteArray := prog_1_method_14_code
def yX6_cut : MethodName := ⟨RX6, "cut", "(II)I"⟩
abbrev cX6_ring : ByteArray := prog_1_method_15_code
def yX6_ring : MethodName := ⟨RX6, "ring", "(III)I"⟩
abbrev cX6_rings : ByteArray := prog_1_method_16_code
def yX6_rings : MethodName := ⟨RX6, "rings", "(I)I"⟩
abbrev cX6_owed : ByteArray := prog_1_method_17_code
def yX6_owed : MethodName := ⟨RX6, "owed", "(I)I"⟩
abbrev cX6_free : ByteArray := prog_1_method_18_code
def yX6_free : MethodName := ⟨RX6, "free", "(II)I"⟩
abbrev cX6_saves : ByteArray := prog_1_method_19_code
def yX6_saves : MethodName := ⟨RX6, "saves", "(II)I"⟩
abbrev cX6_bears : ByteArray := prog_1_method_20_code
def yX6_bears : MethodName := ⟨RX6, "bears", "(I)I"⟩
abbrev cX6_ware : ByteArray := prog_1_method_21_code
def yX6_ware : MethodName := ⟨RX6, "ware", "(II)I"⟩
abbrev cX6_under : ByteArray := prog_1_method_22_code
def yX6_under : MethodName := ⟨RX6, "under", "(IIII)I"⟩
abbrev cX6_image : ByteArray := prog_1_method_23_code
def yX6_image : MethodName := ⟨RX6, "image", "()I"⟩
abbrev cX6_restore : ByteArray := prog_1_method_24_code
def yX6_restore : MethodName := ⟨RX6, "restore", "()I"⟩
abbrev cX6_judged : ByteArray := prog_1_method_25_code
def yX6_judged : MethodName := ⟨RX6, "judged", "(IIII)I"⟩
abbrev cX6_sheet : ByteArray := prog_1_method_26_code
def yX6_sheet : MethodName := ⟨RX6, "sheet", "(III)I"⟩
abbrev cX6_drop : ByteArray := prog_1_method_27_code
def yX6_drop : MethodName := ⟨RX6, "drop", "(I)I"⟩
abbrev cX6_item : ByteArray := prog_1_method_28_code
def yX6_item : MethodName := ⟨RX6, "item", "(IIII)I"⟩
abbrev cX6_copy : ByteArray := prog_1_method_29_code
def yX6_copy : MethodName := ⟨RX6, "copy", "(IIIII)I"⟩
abbrev cX6_isWithin : ByteArray := prog_1_method_30_code
def yX6_isWithin : MethodName := ⟨RX6, "isWithin", "(III)Z"⟩
abbrev cX6_isLender : ByteArray := prog_1_method_31_code
def yX6_isLender : MethodName := ⟨RX6, "isLender", "(I)Z"⟩
abbrev cX6_isSheet : ByteArray := prog_1_method_32_code
def yX6_isSheet : MethodName := ⟨RX6, "isSheet", "(I)Z"⟩
abbrev cX6_isLane : ByteArray := prog_1_method_33_code
def yX6_isLane : MethodName := ⟨RX6, "isLane", "(I)Z"⟩
abbrev cX6_isIn : ByteArray := prog_1_method_34_code
def yX6_isIn : MethodName := ⟨RX6, "isIn", "(II)Z"⟩
abbrev cX6_mayComeOff : ByteArray := prog_1_method_35_code
def yX6_mayComeOff : MethodName := ⟨RX6, "mayComeOff", "(III)Z"⟩
abbrev cX6_amountNextDay : ByteArray := prog_1_method_36_code
def yX6_amountNextDay : MethodName := ⟨RX6, "amountNextDay", "(II)I"⟩
abbrev cX6_purseNextDay : ByteArray := prog_1_method_37_code
def yX6_purseNextDay : MethodName := ⟨RX6, "purseNextDay", "(III)I"⟩
def RX7 : String := "DebtCoatsModel"
def TX7 : u_T := fun k => match k with
  | 0 => ("DebtCoatsModel", "people", "I", false)
  | 1 => ("DebtCoatsModel", "now", "[I", true)
  | 2 => ("DebtCoatsModel", "tried", "[I", true)
  | 3 => ("DebtCoatsModel", "state", "[I", false)
  | 4 => ("DebtCoatsModel", "taxes", "[I", true)
  | 5 => ("DebtCoatsModel", "heats", "[I", true)
  | 6 => ("DebtCoatsModel", "laws", "[I", true)
  | 7 => ("DebtCoatsModel", "day", "I", false)
  | 8 => ("DebtCoatsModel", "cuts", "I", false)
  | 9 => ("DebtCoatsModel", "wares", "I", false)
  | 10 => ("DebtCoatsModel", "wareAmount", "[I", true)
  | 11 => ("DebtCoatsModel", "wareThick", "[I", true)
  | 12 => ("DebtCoatsModel", "tape", "[I", true)
  | 13 => ("DebtCoatsModel", "taped", "I", false)
  | 14 => ("DebtCoatsModel", "at", "I", false)
  | 15 => ("DebtCoatsModel", "wrong", "Z", false)
  | 16 => ("DebtCoatsModel", "read", "[I", true)
  | 17 => ("DebtCoatsModel", "order", "[I", true)
  | 18 => ("DebtCoatsModel", "bestOrder", "[I", true)
  | 19 => ("DebtCoatsModel", "paid", "I", false)
  | 20 => ("DebtCoatsModel", "bestPaid", "I", false)
  | 21 => ("DebtCoatsModel", "start", "[I", true)
  | 22 => ("DebtCoatsModel", "image", "[I", true)
  | 23 => ("DebtCoatsModel", "isImage", "Z", false)
  | 24 => ("DebtCoatsModel", "lanes", "[I", true)
  | 25 => ("DebtCoatsModel", "sizes", "[I", true)
  | 26 => ("DebtCoatsModel", "items", "[I", true)
  | _ => ("DebtCoatsModel", "moved", "[I", true)
def tyX7 : Nat → FieldType := fun k => match k with
  | 0 => .int
  | 1 => .array .int
  | 2 => .array .int
  | 3 => .array .int
  | 4 => .array .int
  | 5 => .array .int
  | 6 => .array .int
  | 7 => .int
  | 8 => .int
  | 9 => .int
  | 10 => .array .int
  | 11 => .array .int
  | 12 => .array .int
  | 13 => .int
  | 14 => .int
  | 15 => .boolean
  | 16 => .array .int
  | 17 => .array .int
  | 18 => .array .int
  | 19 => .int
  | 20 => .int
  | 21 => .array .int
  | 22 => .array .int
  | 23 => .boolean
  | 24 => .array .int
  | 25 => .array .int
  | 26 => .array .int
  | _ => .array .int
abbrev wsX70 : List Cond := u_ws RX7 TX7 28
theorem nmX7 : ∀ a, a < 28 → ∀ b, b < 28 → a ≠ b → (TX7 a).2.1 ≠ (TX7 b).2.1 := by decide +kernel
theorem tyX7_ok : ∀ k, k < 28 → parseFieldDescriptor (TX7 k).2.2.1 = some (tyX7 k) := by decide +kernel
abbrev cX7_in : ByteArray := prog_9_method_2_code
def yX7_in : MethodName := ⟨RX7, "in", "(JJJ)Z"⟩
abbrev cX7_init : ByteArray := prog_9_method_3_code
def yX7_init : MethodName := ⟨RX7, "<init>", "()V"⟩
abbrev cX7_isOne : ByteArray := prog_9_method_4_code
def yX7_isOne : MethodName := ⟨RX7, "isOne", "(I)Z"⟩
abbrev cX7_isLender : ByteArray := prog_9_method_5_code
def yX7_isLender : MethodName := ⟨RX7, "isLender", "(I)Z"⟩
abbrev cX7_person : ByteArray := prog_9_method_6_code
def yX7_person : MethodName := ⟨RX7, "person", "(III)I"⟩
abbrev cX7_thickOf : ByteArray := prog_9_method_7_code
def yX7_thickOf : MethodName := ⟨RX7, "thickOf", "(I)I"⟩
abbrev cX7_of : ByteArray := prog_9_method_8_code
def yX7_of : MethodName := ⟨RX7, "of", "(II)I"⟩
abbrev cX7_isCoat : ByteArray := prog_9_method_9_code
def yX7_isCoat : MethodName := ⟨RX7, "isCoat", "(II)Z"⟩
abbrev cX7_coat : ByteArray := prog_9_method_10_code
def yX7_coat : MethodName := ⟨RX7, "coat", "(III)I"⟩
abbrev cX7_tax : ByteArray := prog_9_method_11_code
def yX7_tax : MethodName := ⟨RX7, "tax", "(III)I"⟩
abbrev cX7_heat : ByteArray := prog_9_method_12_code
def yX7_heat : MethodName := ⟨RX7, "heat", "(II)I"⟩
abbrev cX7_rule : ByteArray := prog_9_method_13_code
def yX7_rule : MethodName := ⟨RX7, "rule", "(II)I"⟩
abbrev cX7_type : ByteArray := prog_9_method_14_code
def yX7_type : MethodName := ⟨RX7, "type", "(JI)I"⟩
abbrev cX7_here : ByteArray := prog_9_method_15_code
def yX7_here : MethodName := ⟨RX7, "here", "()I"⟩
abbrev cX7_has : ByteArray := prog_9_method_16_code
def yX7_has : MethodName := ⟨RX7, "has", "(I)Z"⟩
abbrev cX7_byteOf : ByteArray := prog_9_method_17_code
def yX7_byteOf : MethodName := ⟨RX7, "byteOf", "(II)I"⟩
abbrev cX7_number : ByteArray := prog_9_method_18_code
def yX7_number : MethodName := ⟨RX7, "number", "(II)I"⟩
abbrev cX7_coats : ByteArray := prog_9_method_19_code
def yX7_coats : MethodName := ⟨RX7, "coats", "(I)I"⟩
abbrev cX7_count : ByteArray := prog_9_method_20_code
def yX7_count : MethodName := ⟨RX7, "count", "(I)I"⟩
abbrev cX7_most : ByteArray := prog_9_method_21_code
def yX7_most : MethodName := ⟨RX7, "most", "(I)I"⟩
abbrev cX7_rests : ByteArray := prog_9_method_22_code
def yX7_rests : MethodName := ⟨RX7, "rests", "(I)V"⟩
abbrev cX7_isTooHot : ByteArray := prog_9_method_23_code
def yX7_isTooHot : MethodName := ⟨RX7, "isTooHot", "(II)Z"⟩
abbrev cX7_sleeps : ByteArray := prog_9_method_24_code
def yX7_sleeps : MethodName := ⟨RX7, "sleeps", "(I)V"⟩
abbrev cX7_nights : ByteArray := prog_9_method_25_code
def yX7_nights : MethodName := ⟨RX7, "nights", "(I)I"⟩
abbrev cX7_take : ByteArray := prog_9_method_26_code
def yX7_take : MethodName := ⟨RX7, "take", "(IIIII)I"⟩
abbrev cX7_mayOff : ByteArray := prog_9_method_27_code
def yX7_mayOff : MethodName := ⟨RX7, "mayOff", "(II)Z"⟩
abbrev cX7_off : ByteArray := prog_9_method_28_code
def yX7_off : MethodName := ⟨RX7, "off", "(II)V"⟩
abbrev cX7_pay : ByteArray := prog_9_method_29_code
def yX7_pay : MethodName := ⟨RX7, "pay", "(II)I"⟩
abbrev cX7_isBetween : ByteArray := prog_9_method_30_code
def yX7_isBetween : MethodName := ⟨RX7, "isBetween", "(II)Z"⟩
abbrev cX7_cut : ByteArray := prog_9_method_31_code
def yX7_cut : MethodName := ⟨RX7, "cut", "(II)I"⟩
abbrev cX7_outer : ByteArray := prog_9_method_32_code
def yX7_outer : MethodName := ⟨RX7, "outer", "(I)I"⟩
abbrev cX7_gains : ByteArray := prog_9_method_33_code
def yX7_gains : MethodName := ⟨RX7, "gains", "(II)I"⟩
abbrev cX7_saved : ByteArray := prog_9_method_34_code
def yX7_saved : MethodName := ⟨RX7, "saved", "(III)I"⟩
abbrev cX7_ring : ByteArray := prog_9_method_35_code
def yX7_ring : MethodName := ⟨RX7, "ring", "(III)I"⟩
abbrev cX7_rings : ByteArray := prog_9_method_36_code
def yX7_rings : MethodName := ⟨RX7, "rings", "(I)I"⟩
abbrev cX7_owed : ByteArray := prog_9_method_37_code
def yX7_owed : MethodName := ⟨RX7, "owed", "(I)I"⟩
abbrev cX7_turns : ByteArray := prog_9_method_38_code
def yX7_turns : MethodName := ⟨RX7, "turns", "(I)Z"⟩
abbrev cX7_freeBy : ByteArray := prog_9_method_39_code
def yX7_freeBy : MethodName := ⟨RX7, "freeBy", "(II)I"⟩
abbrev cX7_starts : ByteArray := prog_9_method_40_code
def yX7_starts : MethodName := ⟨RX7, "starts", "(I)V"⟩
abbrev cX7_isLawful : ByteArray := prog_9_method_41_code
def yX7_isLawful : MethodName := ⟨RX7, "isLawful", "(I)Z"⟩
abbrev cX7_bestFree : ByteArray := prog_9_method_42_code
def yX7_bestFree : MethodName := ⟨RX7, "bestFree", "(I)I"⟩
abbrev cX7_free : ByteArray := prog_9_method_43_code
def yX7_free : MethodName := ⟨RX7, "free", "(II)I"⟩
abbrev cX7_saves : ByteArray := prog_9_method_44_code
def yX7_saves : MethodName := ⟨RX7, "saves", "(II)I"⟩
abbrev cX7_bears : ByteArray := prog_9_method_45_code
def yX7_bears : MethodName := ⟨RX7, "bears", "(I)I"⟩
abbrev cX7_ware : ByteArray := prog_9_method_46_code
def yX7_ware : MethodName := ⟨RX7, "ware", "(II)I"⟩
abbrev cX7_under : ByteArray := prog_9_method_47_code
def yX7_under : MethodName := ⟨RX7, "under", "(IIII)I"⟩
abbrev cX7_lay : ByteArray := prog_9_method_48_code
def yX7_lay : MethodName := ⟨RX7, "lay", "([II)I"⟩
abbrev cX7_gives : ByteArray := prog_9_method_49_code
def yX7_gives : MethodName := ⟨RX7, "gives", "(I[I)I"⟩
abbrev cX7_image : ByteArray := prog_9_method_50_code
def yX7_image : MethodName := ⟨RX7, "image", "()I"⟩
abbrev cX7_restore : ByteArray := prog_9_method_51_code
def yX7_restore : MethodName := ⟨RX7, "restore", "()I"⟩
abbrev cX7_isSheet : ByteArray := prog_9_method_52_code
def yX7_isSheet : MethodName := ⟨RX7, "isSheet", "(I)Z"⟩
abbrev cX7_isLane : ByteArray := prog_9_method_53_code
def yX7_isLane : MethodName := ⟨RX7, "isLane", "(I)Z"⟩
abbrev cX7_finds : ByteArray := prog_9_method_54_code
def yX7_finds : MethodName := ⟨RX7, "finds", "(IIII)I"⟩
abbrev cX7_judged : ByteArray := prog_9_method_55_code
def yX7_judged : MethodName := ⟨RX7, "judged", "(IIII)I"⟩
abbrev cX7_sheet : ByteArray := prog_9_method_56_code
def yX7_sheet : MethodName := ⟨RX7, "sheet", "(III)I"⟩
abbrev cX7_drop : ByteArray := prog_9_method_57_code
def yX7_drop : MethodName := ⟨RX7, "drop", "(I)I"⟩
abbrev cX7_item : ByteArray := prog_9_method_58_code
def yX7_item : MethodName := ⟨RX7, "item", "(IIII)I"⟩
abbrev cX7_copy : ByteArray := prog_9_method_59_code
def yX7_copy : MethodName := ⟨RX7, "copy", "(IIIII)I"⟩
def RJ9 : String := "java/lang/Math"
def TJ9 : u_T := fun k => match k with
  | _ => ("", "", "", false)
def tyJ9 : Nat → FieldType := fun k => match k with
  | _ => .int
abbrev wsJ90 : List Cond := u_ws RJ9 TJ9 0
theorem nmJ9 : ∀ a, a < 0 → ∀ b, b < 0 → a ≠ b → (TJ9 a).2.1 ≠ (TJ9 b).2.1 := by decide +kernel
theorem tyJ9_ok : ∀ k, k < 0 → parseFieldDescriptor (TJ9 k).2.2.1 = some (tyJ9 k) := by decide +kernel
abbrev cJ9_max_7cf53 : ByteArray := prog_10_method_65_code
def yJ9_max_7cf53 : MethodName := ⟨RJ9, "max", "(II)I"⟩
abbrev cJ9_min_7cf53 : ByteArray := prog_10_method_69_code
def yJ9_min_7cf53 : MethodName := ⟨RJ9, "min", "(II)I"⟩
def RJ10 : String := "java/lang/System"
def TJ10 : u_T := fun k => match k with
  | _ => ("", "", "", false)
def tyJ10 : Nat → FieldType := fun k => match k with
  | _ => .int
abbrev wsJ100 : List Cond := u_ws RJ10 TJ10 0
theorem nmJ10 : ∀ a, a < 0 → ∀ b, b < 0 → a ≠ b → (TJ10 a).2.1 ≠ (TJ10 b).2.1 := by decide +kernel
theorem tyJ10_ok : ∀ k, k < 0 → parseFieldDescriptor (TJ10 k).2.2.1 = some (tyJ10 k) := by decide +kernel
def RJ7 : String := "java/util/Arrays"
def TJ7 : u_T := fun k => match k with
  | _ => ("", "", "", false)
def tyJ7 : Nat → FieldType := fun k => match k with
  | _ => .int
abbrev wsJ70 : List Cond := u_ws RJ7 TJ7 0
theorem nmJ7 : ∀ a, a < 0 → ∀ b, b < 0 → a ≠ b → (TJ7 a).2.1 ≠ (TJ7 b).2.1 := by decide +kernel
theorem tyJ7_ok : ∀ k, k < 0 → parseFieldDescriptor (TJ7 k).2.2.1 = some (tyJ7 k) := by decide +kernel
abbrev cJ7_fill_53178 : ByteArray := prog_12_method_103_code
def yJ7_fill_53178 : MethodName := ⟨RJ7, "fill", "([II)V"⟩
def RL : String := "DebtCoatsLaw"
abbrev cL_law : ByteArray := code
def yL_law : MethodName := ⟨RL, "law", "([I)Z"⟩
abbrev vwCl : List vw_C := [(RX0, TX0, 3), (RX1, TX1, 10), (RX2, TX2, 7), (RX3, TX3, 4), (RX4, TX4, 3), (RX5, TX5, 10), (RX6, TX6, 9), (RX7, TX7, 28)]
end
section
/-! ===== the abstract memory: numbered cells; ints by (cell, place), references by (cell, place) ===== -/
abbrev Shp : Type := Nat ⊕ (Nat × Nat)
abbrev Mem : Type := (Nat → Nat → Int32) × (Nat → Nat → Option Nat)
def gI (me : Mem) (k i : Nat) : Int32 := me.1 k i
def gR (me : Mem) (k i : Nat) : Option Nat := me.2 k i
def uA (me : Mem) (k : Nat) (f : Nat → Int32) : Mem := (fun a => if a = k then f else me.1 a, me.2)
def uI (me : Mem) (k i : Nat) (x : Int32) : Mem := uA me k (upd (gI me k) i x)
def uR (me : Mem) (k i : Nat) (r : Option Nat) : Mem := (me.1, fun a => if a = k then va_up (gR me k) i r else me.2 a)
def nwM (me : Mem) (k : Nat) : Mem := (fun a => if a = k then fun _ => 0 else me.1 a, fun a => if a = k then fun _ => none else me.2 a)
theorem gI_uA (me : Mem) (k : Nat) (f : Nat → Int32) (a b : Nat) : gI (uA me k f) a b = if a = k then f b else gI me a b := by
  unfold gI uA; dsimp only; split <;> rfl
theorem gI_uI (me : Mem) (k i : Nat) (x : Int32) (a b : Nat) : gI (uI me k i x) a b = if a = k ∧ b = i then x else gI me a b := by
  unfold uI; rw [gI_uA]
  by_cases h : a = k
  · subst h
    by_cases h2 : b = i <;> simp [upd, h2]
  · simp [h]
theorem gR_uA (me : Mem) (k : Nat) (f : Nat → Int32) (a b : Nat) : gR (uA me k f) a b = gR me a b := rfl
theorem gR_uI (me : Mem) (k i : Nat) (x : Int32) (a b : Nat) : gR (uI me k i x) a b = gR me a b := rfl
theorem gI_uR (me : Mem) (k i : Nat) (r : Option Nat) (a b : Nat) : gI (uR me k i r) a b = gI me a b := rfl
theorem gR_uR (me : Mem) (k i : Nat) (r : Option Nat) (a b : Nat) : gR (uR me k i r) a b = if a = k ∧ b = i then r else gR me a b := by
  unfold gR uR; dsimp only
  by_cases h : a = k
  · subst h
    by_cases h2 : b = i <;> simp [va_up, h2, gR]
  · simp [h]
/-! the tables: how many fields, which are references (1), truths (2) -/
def fkT : List (List Nat) := [[1, 0, 0], [1, 1, 1, 1, 1, 0, 0, 0, 0, 0], [1, 1, 1, 1, 0, 0, 0], [1, 2, 0, 0], [1, 0, 0], [1, 1, 1, 1, 0, 0, 0, 0, 0, 0], [1, 1, 1, 1, 1, 1, 1, 1, 2], [0, 1, 1, 1, 1, 1, 1, 0, 0, 0, 1, 1, 1, 0, 0, 2, 1, 1, 1, 0, 0, 1, 1, 2, 1, 1, 1, 1]]
def fn (ci : Nat) : Nat := (fkT.getD ci []).length
def fk (ci j : Nat) : Nat := (fkT.getD ci []).getD j 0
def cv (adr : Nat → Nat) (v : Value) : Value := match v with
  | .ref a => .ref (adr a)
  | .retAddr _ => .ref (adr 999999)
  | v => v
def fval (adr : Nat → Nat) (me : Mem) (k ci j : Nat) : Value := if fk ci j = 1 then va_rf ((gR me k j).map adr) else .int (gI me k j)
def cel (cA : Nat → ClassId) (adr : Nat → Nat) (me : Mem) (k : Nat) (s : Shp) : va_E := match s with
  | .inl ci => .inr (ci, (List.range (fn ci)).map (fval adr me k ci))
  | .inr (0, n) => .inl (cA 0, n, .inl (gI me k))
  | .inr (t + 1, n) => .inl (cA (t + 1), n, .inr (.inr (.inr (.inr (fun i => (gR me k i).map adr)))))
def wl (sh : List Shp) (cA : Nat → ClassId) (adr : Nat → Nat) (me : Mem) : va_W := sh.mapIdx (fun k s => (adr k, cel cA adr me k s))
def tysC (cA : Nat → ClassId) : List (ClassId × FieldType) := [(cA 0, .int), (cA 1, .object "DebtCoats$Person"), (cA 2, .object "DebtCoats$Sheet"), (cA 3, .array .int)]
theorem wl_get {sh : List Shp} {cA : Nat → ClassId} {adr : Nat → Nat} {me : Mem} {k : Nat} {s : Shp} (h : sh[k]? = some s) : (wl sh cA adr me)[k]? = some (adr k, cel cA adr me k s) := by
  simp [wl, h]
theorem wl_iff {sh : List Shp} {cA : Nat → ClassId} {adr : Nat → Nat} {me : Mem} {k : Nat} {q : Nat × va_E} (h : (wl sh cA adr me)[k]? = some q) : ∃ s, sh[k]? = some s ∧ q = (adr k, cel cA adr me k s) := by
  simp only [wl, List.getElem?_mapIdx] at h
  cases hs : sh[k]? with
  | none => rw [hs] at h; cases h
  | some s => rw [hs] at h; exact ⟨s, rfl, (Option.some.inj h).symm⟩
theorem wl_set {sh : List Shp} {cA : Nat → ClassId} {adr : Nat → Nat} {me me' : Mem} {k : Nat} {s : Shp} {e : va_E} (h : sh[k]? = some s) (he : cel cA adr me' k s = e) (ho : ∀ (j : Nat) (t : Shp), j ≠ k → cel cA adr me' j t = cel cA adr me j t) : (wl sh cA adr me).set k (adr k, e) = wl sh cA adr me' := by
  apply List.ext_getElem?
  intro i
  have hk : k < sh.length := (List.getElem?_eq_some_iff.mp h).1
  rw [List.getElem?_set]
  by_cases hi : k = i
  · subst hi
    rw [if_pos rfl, wl_get (me := me') h, he, if_pos (by simpa [wl] using hk)]
  · rw [if_neg hi]
    simp only [wl, List.getElem?_mapIdx]
    cases sh[i]? with
    | none => rfl
    | some t => simp only [Option.map_some]; rw [ho i t (Ne.symm hi)]
theorem cel_uA_ne {cA : Nat → ClassId} {adr : Nat → Nat} {me : Mem} {k : Nat} {f : Nat → Int32} (j : Nat) (t : Shp) (h : j ≠ k) : cel cA adr (uA me k f) j t = cel cA adr me j t := by
  have e1 : gI (uA me k f) j = gI me j := by funext b; rw [gI_uA, if_neg h]
  have e2 : gR (uA me k f) j = gR me j := rfl
  match t with
  | .inl ci => simp only [cel]; congr 2; apply List.map_congr_left; intro x _; simp only [fval, e1, e2]
  | .inr (0, n) => simp only [cel, e1]
  | .inr (t + 1, n) => rfl
theorem cel_uR_ne {cA : Nat → ClassId} {adr : Nat → Nat} {me : Mem} {k i : Nat} {r : Option Nat} (j : Nat) (t : Shp) (h : j ≠ k) : cel cA adr (uR me k i r) j t = cel cA adr me j t := by
  have e1 : gI (uR me k i r) j = gI me j := rfl
  have e2 : gR (uR me k i r) j = gR me j := by funext b; rw [gR_uR]; simp [h]
  match t with
  | .inl ci => simp only [cel]; congr 2; apply List.map_congr_left; intro x _; simp only [fval, e1, e2]
  | .inr (0, n) => simp only [cel, e1]
  | .inr (t + 1, n) => simp only [cel, e2]
theorem wl_setA {sh : List Shp} {cA : Nat → ClassId} {adr : Nat → Nat} {me : Mem} {k n : Nat} {f : Nat → Int32} (h : sh[k]? = some (.inr (0, n))) : (wl sh cA adr me).set k (adr k, .inl (cA 0, n, .inl f)) = wl sh cA adr (uA me k f) := by
  refine wl_set h ?_ (fun j t hj => cel_uA_ne j t hj)
  simp only [cel]
  have e1 : gI (uA me k f) k = f := by funext b; rw [gI_uA, if_pos rfl]
  rw [e1]
theorem range_map_set {α : Type} (n j : Nat) (f : Nat → α) (v : α) : ((List.range n).map f).set j v = (List.range n).map (fun i => if i = j then v else f i) := by
  apply List.ext_getElem?
  intro i
  rw [List.getElem?_set]
  by_cases hi : i < n
  · by_cases hj : j = i
    · subst hj; simp [hi]
    · rw [if_neg hj]; simp [hi, Ne.symm hj]
  · by_cases hj : j = i
    · subst hj; simp [hi]
    · rw [if_neg hj]; simp [hi]
theorem wl_setI {sh : List Shp} {cA : Nat → ClassId} {adr : Nat → Nat} {me : Mem} {k ci j : Nat} {x : Int32} (h : sh[k]? = some (.inl ci)) (hf : fk ci j ≠ 1) : (wl sh cA adr me).set k (adr k, .inr (ci, ((List.range (fn ci)).map (fval adr me k ci)).set j (.int x))) = wl sh cA adr (uI me k j x) := by
  refine wl_set h ?_ (fun i t hi => cel_uA_ne i t hi)
  simp only [cel]
  congr 2
  rw [range_map_set]
  apply List.map_congr_left
  intro i _
  by_cases hi : i = j
  · subst hi; simp [fval, hf, gI_uI]
  · simp only [fval, gI_uI, hi, and_false, if_false, gR_uI]
theorem wl_setR {sh : List Shp} {cA : Nat → ClassId} {adr : Nat → Nat} {me : Mem} {k ci j : Nat} {r : Option Nat} (h : sh[k]? = some (.inl ci)) (hf : fk ci j = 1) : (wl sh cA adr me).set k (adr k, .inr (ci, ((List.range (fn ci)).map (fval adr me k ci)).set j (va_rf (r.map adr)))) = wl sh cA adr (uR me k j r) := by
  refine wl_set h ?_ (fun i t hi => cel_uR_ne i t hi)
  simp only [cel]
  congr 2
  rw [range_map_set]
  apply List.map_congr_left
  intro i _
  by_cases hi : i = j
  · subst hi; simp [fval, hf, gR_uR]
  · simp only [fval, gI_uR, hi, and_false, if_false, gR_uR]
theorem wl_setQ {sh : List Shp} {cA : Nat → ClassId} {adr : Nat → Nat} {me : Mem} {k n t i v : Nat} (h : sh[k]? = some (.inr (t + 1, n))) : (wl sh cA adr me).set k (adr k, .inl (cA (t + 1), n, .inr (.inr (.inr (.inr (va_up (fun i => (gR me k i).map adr) i (some (adr v)))))))) = wl sh cA adr (uR me k i (some v)) := by
  refine wl_set h ?_ (fun j t hj => cel_uR_ne j t hj)
  simp only [cel]
  have ef : (fun b => (gR (uR me k i (some v)) k b).map adr) = va_up (fun i => (gR me k i).map adr) i (some (adr v)) := by
    funext b
    by_cases hb : b = i
    · subst hb; simp [gR_uR, va_up]
    · simp [gR_uR, va_up, hb]
  rw [ef]
/-! ===== words ===== -/
def WS : List Cond := lw_tbl.filter goodWord
theorem inWS {w : Cond} (i : Nat) (h : lw_tbl[i]? = some w) (g : goodWord w = true) : w ∈ WS := List.mem_filter.mpr ⟨List.mem_of_getElem? h, g⟩
def isNst (w : Cond) : Bool := match w with
  | .methodLinkNest _ _ _ _ => true
  | _ => false
def Nst (U : State) : Prop := ∀ w ∈ lw_tbl, isNst w = true → va_Nw w U
theorem Nst.warm {s U : State} (hW : s.WarmedH U.vm) (h : Nst s) : Nst U := by
  intro w hw hn
  have h1 := h w hw hn
  cases w <;> simp only [isNst] at hn <;> first | exact va_Nw.warmM hW h1 | cases hn
theorem Nst.same {s U : State} (he : s.vm = U.vm) (h : Nst s) : Nst U := by
  intro w hw hn
  have h1 := h w hw hn
  cases w <;> simp only [isNst] at hn <;> first | exact va_Nw.same rfl he h1 | cases hn
abbrev MR : Type := MethodName × ByteArray × Nat × Option FieldType
def wsM (M : MR) : List Cond := Cond.code M.1 M.2.1 M.2.2.1 M.2.2.2 :: WS
def rmD (d mc ms : Nat) : Room := { frames := d, cells := mc, slots := ms, locals := 48 * d }
/-! ===== locals: a list of values, .float 0 where nothing is known ===== -/
def Lr (adr : Nat → Nat) (L : List Value) (ls : Array Slot) (n : Nat) : Prop := ls.size = n ∧ lv_wf ls ∧ ∀ (i : Nat) (v : Value), L[i]? = some v → v ≠ .float 0 → ls[i]? = some (.val (cv adr v))
theorem cv_cat (adr : Nat → Nat) (v : Value) : (cv adr v).category = v.category := by cases v <;> rfl
def las (adr : Nat → Nat) (L : List Value) : List (Nat × Value) := (List.range L.length).filterMap (fun i => (L[i]?).bind (fun v => if v = .float 0 then none else some (i, cv adr v)))
theorem las_mem {adr : Nat → Nat} {L : List Value} {q : Nat × Value} : q ∈ las adr L ↔ ∃ v, L[q.1]? = some v ∧ v ≠ .float 0 ∧ q.2 = cv adr v := by
  unfold las
  rw [List.mem_filterMap]
  constructor
  · rintro ⟨i, -, h⟩
    cases hv : L[i]? with
    | none => rw [hv] at h; cases h
    | some v =>
      rw [hv] at h
      simp only [Option.bind_some] at h
      split at h
      · cases h
      · rename_i hne
        cases h
        exact ⟨v, hv, hne, rfl⟩
  · rintro ⟨v, h1, h2, h3⟩
    refine ⟨q.1, List.mem_range.mpr (List.getElem?_eq_some_iff.mp h1).1, ?_⟩
    rw [h1]
    simp only [Option.bind_some, if_neg h2, ← h3]
theorem Lr.has {adr : Nat → Nat} {L : List Value} {ls : Array Slot} {n : Nat} (h : Lr adr L ls n) : lv_has ls n (las adr L) := by
  refine ⟨h.1, h.2.1, fun q hq => ?_⟩
  obtain ⟨v, h1, h2, h3⟩ := las_mem.mp hq
  rw [h3]
  exact h.2.2 q.1 v h1 h2
theorem Lr.get {adr : Nat → Nat} {L : List Value} {ls : Array Slot} {n i : Nat} {v : Value} (h : Lr adr L ls n) (hv : L[i]? = some v) (hne : v ≠ .float 0) : ls[i]? = some (.val (cv adr v)) := h.2.2 i v hv hne
theorem Lr.set1 {adr : Nat → Nat} {L : List Value} {ls' : Array Slot} {n i : Nat} {v : Value} (h' : lv_has ls' n ((i, cv adr v) :: (las adr L).filter (fun q => !(q.1 == i) && !(q.1 + 1 == i && q.2.category == 2)))) (hp : ∀ w, 0 < i → L[i - 1]? = some w → w.category = 1) : Lr adr (L.set i v) ls' n := by
  refine ⟨h'.1, h'.2.1, fun j w hj hw => ?_⟩
  by_cases hji : j = i
  · subst hji
    rw [List.getElem?_set_self'] at hj
    cases hL : L[j]? with
    | none => rw [hL] at hj; cases hj
    | some u =>
      rw [hL] at hj
      cases hj
      exact h'.2.2 (j, cv adr v) List.mem_cons_self
  · rw [List.getElem?_set_ne (Ne.symm hji)] at hj
    refine h'.2.2 (j, cv adr w) (List.mem_cons_of_mem _ (List.mem_filter.mpr ⟨las_mem.mpr ⟨w, hj, hw, rfl⟩, ?_⟩))
    have h1 : (j == i) = false := by simp [hji]
    by_cases h2 : j + 1 = i
    · subst h2
      have h3 := hp w (by omega) (by simpa using hj)
      simp [cv_cat, h3]
    · simp [h1, h2]
theorem Lr.moved {adr adr' : Nat → Nat} {L : List Value} {ls : Array Slot} {n : Nat} (h : Lr adr L ls n) (he : ∀ v ∈ L, cv adr' v = cv adr v) : Lr adr' L ls n := ⟨h.1, h.2.1, fun i v hv hn => by rw [he v (List.mem_of_getElem? hv)]; exact h.2.2 i v hv hn⟩
/-! ===== the judgement ===== -/
def ext (n n' : Nat) (a b : Nat → Nat) : Prop := ∀ k, k < n ∨ n' ≤ k → b k = a k
def RetOK (M : MR) (v : Option Value) (pc : Nat) : Prop := match v with
  | none => decode M.2.1 pc = .ok (.return_, 1) ∧ M.2.2.2 = none
  | some (.int x) => decode M.2.1 pc = .ok (.ireturn, 1) ∧ ∃ ty, M.2.2.2 = some ty ∧ narrow ty (.int x) = .int x
  | _ => False
abbrev Post : Type := Option Value → List Shp → Mem → Prop
abbrev Scr : Type := Nat × (Nat → Int32)
def Cx (M : MR) (sx : Scr) (d mc ms n0 : Nat) (Q : Post) (l : Launch) (p : Program) (e : Env) (R : Room) (s : State) (m : MethodId) (args : Array Value) (below : List Frame) (meth : Method) (c : Code) (D : va_G) (cA : Nat → ClassId) (adr0 : Nat → Nat) (A : Nat → Prop) (Z : State → Prop) : Prop :=
  (p.tables.exec = Jvm.exec ∧ c.code = M.2.1 ∧ c.maxLocals = M.2.2.1 ∧ meth.name = M.1.name ∧ s.vm.findClass M.1.cls = some m.cls) ∧ (∀ w ∈ WS, w.before args s = true) ∧ Nst s ∧ va_K D vwCl (tysC cA) s ∧ (∀ q, s.heap.size ≤ q → A q) ∧ (d ≤ R.frames ∧ 48 * d ≤ R.locals ∧ mc ≤ R.cells ∧ ms ≤ R.slots) ∧
  (sx.1 = 0 ∨ (va_X (adr0 999999) sx.1 sx.2 s s.heap ∧ adr0 999999 < s.heap.size ∧ ¬ A (adr0 999999))) ∧
  (∀ (v : Option Value) (sh : List Shp) (me : Mem) (adr : Nat → Nat) (H : Heap) (locs : List Loc) (ls : Array Slot) (pc : Nat), Q v sh me → RetOK M v pc → ext n0 sh.length adr0 adr → va_P D vwCl (wl sh cA adr me) H → va_D A (wl sh cA adr me) → va_S A s.heap H locs → W p l e R s m args below meth c H locs mc ms Z (F0 m pc ls v.toList))
def Wa (M : MR) (sx : Scr) (d mc ms n0 : Nat) (Q : Post) (pc : Nat) (L st : List Value) (sh : List Shp) (me : Mem) (cs sl : Nat) : Prop :=
  ∀ (l : Launch) (p : Program) (e : Env) (R : Room) (s : State) (m : MethodId) (args : Array Value) (below : List Frame) (meth : Method) (c : Code) (D : va_G) (cA : Nat → ClassId) (adr0 : Nat → Nat) (A : Nat → Prop) (Z : State → Prop), Cx M sx d mc ms n0 Q l p e R s m args below meth c D cA adr0 A Z →
  ∀ (adr : Nat → Nat) (H : Heap) (locs : List Loc) (ls : Array Slot), ext n0 sh.length adr0 adr → va_P D vwCl (wl sh cA adr me) H → va_D A (wl sh cA adr me) → va_S A s.heap H locs → Lr adr L ls M.2.2.1 → W p l e R s m args below meth c H locs cs sl Z (F0 m pc ls (st.map (cv adr)))
section RULES
variable {M : MR} {sx : Scr} {d mc ms n0 : Nat} {Q : Post} {pc np tg : Nat} {L st : List Value} {sh : List Shp} {me : Mem} {cs sl : Nat}
theorem wl_iadd {x y : Int32} (hd : decode M.2.1 pc = .ok (.iadd, 1)) (hn : pc + 1 = np) (k : Wa M sx d mc ms n0 Q np L (.int (x + y) :: st) sh me cs sl) : Wa M sx d mc ms n0 Q pc L (.int y :: .int x :: st) sh me cs sl := by
  subst hn
  intro l p e R s m args below meth c D cA adr0 A Z C adr H locs ls he hP hD hS hL
  exact lv_iadd C.1.1 C.1.2.1 hd  (k l p e R s m args below meth c D cA adr0 A Z C adr H locs ls he hP hD hS hL)
theorem wl_isub {x y : Int32} (hd : decode M.2.1 pc = .ok (.isub, 1)) (hn : pc + 1 = np) (k : Wa M sx d mc ms n0 Q np L (.int (x - y) :: st) sh me cs sl) : Wa M sx d mc ms n0 Q pc L (.int y :: .int x :: st) sh me cs sl := by
  subst hn
  intro l p e R s m args below meth c D cA adr0 A Z C adr H locs ls he hP hD hS hL
  exact lv_isub C.1.1 C.1.2.1 hd  (k l p e R s m args below meth c D cA adr0 A Z C adr H locs ls he hP hD hS hL)
theorem wl_imul {x y : Int32} (hd : decode M.2.1 pc = .ok (.imul, 1)) (hn : pc + 1 = np) (k : Wa M sx d mc ms n0 Q np L (.int (x * y) :: st) sh me cs sl) : Wa M sx d mc ms n0 Q pc L (.int y :: .int x :: st) sh me cs sl := by
  subst hn
  intro l p e R s m args below meth c D cA adr0 A Z C adr H locs ls he hP hD hS hL
  exact lv_imul C.1.1 C.1.2.1 hd  (k l p e R s m args below meth c D cA adr0 A Z C adr H locs ls he hP hD hS hL)
theorem wl_iand {x y : Int32} (hd : decode M.2.1 pc = .ok (.iand, 1)) (hn : pc + 1 = np) (k : Wa M sx d mc ms n0 Q np L (.int (x &&& y) :: st) sh me cs sl) : Wa M sx d mc ms n0 Q pc L (.int y :: .int x :: st) sh me cs sl := by
  subst hn
  intro l p e R s m args below meth c D cA adr0 A Z C adr H locs ls he hP hD hS hL
  exact lv_iand C.1.1 C.1.2.1 hd  (k l p e R s m args below meth c D cA adr0 A Z C adr H locs ls he hP hD hS hL)
theorem wl_ior {x y : Int32} (hd : decode M.2.1 pc = .ok (.ior, 1)) (hn : pc + 1 = np) (k : Wa M sx d mc ms n0 Q np L (.int (x ||| y) :: st) sh me cs sl) : Wa M sx d mc ms n0 Q pc L (.int y :: .int x :: st) sh me cs sl := by
  subst hn
  intro l p e R s m args below meth c D cA adr0 A Z C adr H locs ls he hP hD hS hL
  exact lv_ior C.1.1 C.1.2.1 hd  (k l p e R s m args below meth c D cA adr0 A Z C adr H locs ls he hP hD hS hL)
theorem wl_ixor {x y : Int32} (hd : decode M.2.1 pc = .ok (.ixor, 1)) (hn : pc + 1 = np) (k : Wa M sx d mc ms n0 Q np L (.int (x ^^^ y) :: st) sh me cs sl) : Wa M sx d mc ms n0 Q pc L (.int y :: .int x :: st) sh me cs sl := by
  subst hn
  intro l p e R s m args below meth c D cA adr0 A Z C adr H locs ls he hP hD hS hL
  exact lv_ixor C.1.1 C.1.2.1 hd  (k l p e R s m args below meth c D cA adr0 A Z C adr H locs ls he hP hD hS hL)
theorem wl_ishl {x y : Int32} (hd : decode M.2.1 pc = .ok (.ishl, 1)) (hn : pc + 1 = np) (k : Wa M sx d mc ms n0 Q np L (.int (x <<< (y &&& 31)) :: st) sh me cs sl) : Wa M sx d mc ms n0 Q pc L (.int y :: .int x :: st) sh me cs sl := by
  subst hn
  intro l p e R s m args below meth c D cA adr0 A Z C adr H locs ls he hP hD hS hL
  exact lv_ishl C.1.1 C.1.2.1 hd  (k l p e R s m args below meth c D cA adr0 A Z C adr H locs ls he hP hD hS hL)
theorem wl_ishr {x y : Int32} (hd : decode M.2.1 pc = .ok (.ishr, 1)) (hn : pc + 1 = np) (k : Wa M sx d mc ms n0 Q np L (.int (x >>> (y &&& 31)) :: st) sh me cs sl) : Wa M sx d mc ms n0 Q pc L (.int y :: .int x :: st) sh me cs sl := by
  subst hn
  intro l p e R s m args below meth c D cA adr0 A Z C adr H locs ls he hP hD hS hL
  exact lv_ishr C.1.1 C.1.2.1 hd  (k l p e R s m args below meth c D cA adr0 A Z C adr H locs ls he hP hD hS hL)
theorem wl_idiv {x y : Int32} (hd : decode M.2.1 pc = .ok (.idiv, 1)) (hn : pc + 1 = np) (hne : ¬ y = 0) (k : Wa M sx d mc ms n0 Q np L (.int (x / y) :: st) sh me cs sl) : Wa M sx d mc ms n0 Q pc L (.int y :: .int x :: st) sh me cs sl := by
  subst hn
  intro l p e R s m args below meth c D cA adr0 A Z C adr H locs ls he hP hD hS hL
  exact lv_idiv C.1.1 C.1.2.1 hd hne (k l p e R s m args below meth c D cA adr0 A Z C adr H locs ls he hP hD hS hL)
theorem wl_irem {x y : Int32} (hd : decode M.2.1 pc = .ok (.irem, 1)) (hn : pc + 1 = np) (hne : ¬ y = 0) (k : Wa M sx d mc ms n0 Q np L (.int (x - x / y * y) :: st) sh me cs sl) : Wa M sx d mc ms n0 Q pc L (.int y :: .int x :: st) sh me cs sl := by
  subst hn
  intro l p e R s m args below meth c D cA adr0 A Z C adr H locs ls he hP hD hS hL
  exact lv_irem C.1.1 C.1.2.1 hd hne (k l p e R s m args below meth c D cA adr0 A Z C adr H locs ls he hP hD hS hL)
theorem wl_land {x y : Int64} (hd : decode M.2.1 pc = .ok (.land, 1)) (hn : pc + 1 = np) (k : Wa M sx d mc ms n0 Q np L (.long (x &&& y) :: st) sh me cs sl) : Wa M sx d mc ms n0 Q pc L (.long y :: .long x :: st) sh me cs sl := by
  subst hn
  intro l p e R s m args below meth c D cA adr0 A Z C adr H locs ls he hP hD hS hL
  exact lv_land C.1.1 C.1.2.1 hd  (k l p e R s m args below meth c D cA adr0 A Z C adr H locs ls he hP hD hS hL)
theorem wl_lor {x y : Int64} (hd : decode M.2.1 pc = .ok (.lor, 1)) (hn : pc + 1 = np) (k : Wa M sx d mc ms n0 Q np L (.long (x ||| y) :: st) sh me cs sl) : Wa M sx d mc ms n0 Q pc L (.long y :: .long x :: st) sh me cs sl := by
  subst hn
  intro l p e R s m args below meth c D cA adr0 A Z C adr H locs ls he hP hD hS hL
  exact lv_lor C.1.1 C.1.2.1 hd  (k l p e R s m args below meth c D cA adr0 A Z C adr H locs ls he hP hD hS hL)
theorem wl_ladd {x y : Int64} (hd : decode M.2.1 pc = .ok (.ladd, 1)) (hn : pc + 1 = np) (k : Wa M sx d mc ms n0 Q np L (.long (x + y) :: st) sh me cs sl) : Wa M sx d mc ms n0 Q pc L (.long y :: .long x :: st) sh me cs sl := by
  subst hn
  intro l p e R s m args below meth c D cA adr0 A Z C adr H locs ls he hP hD hS hL
  exact lv_ladd C.1.1 C.1.2.1 hd  (k l p e R s m args below meth c D cA adr0 A Z C adr H locs ls he hP hD hS hL)
theorem wl_lshl {x : Int64} {y : Int32} (hd : decode M.2.1 pc = .ok (.lshl, 1)) (hn : pc + 1 = np) (k : Wa M sx d mc ms n0 Q np L (.long (x <<< (y.toInt64 &&& 63)) :: st) sh me cs sl) : Wa M sx d mc ms n0 Q pc L (.int y :: .long x :: st) sh me cs sl := by
  subst hn
  intro l p e R s m args below meth c D cA adr0 A Z C adr H locs ls he hP hD hS hL
  exact lv_lshl C.1.1 C.1.2.1 hd rfl (k l p e R s m args below meth c D cA adr0 A Z C adr H locs ls he hP hD hS hL)
theorem wl_lshr {x : Int64} {y : Int32} (hd : decode M.2.1 pc = .ok (.lshr, 1)) (hn : pc + 1 = np) (k : Wa M sx d mc ms n0 Q np L (.long (x >>> (y.toInt64 &&& 63)) :: st) sh me cs sl) : Wa M sx d mc ms n0 Q pc L (.int y :: .long x :: st) sh me cs sl := by
  subst hn
  intro l p e R s m args below meth c D cA adr0 A Z C adr H locs ls he hP hD hS hL
  exact lv_lshr C.1.1 C.1.2.1 hd rfl (k l p e R s m args below meth c D cA adr0 A Z C adr H locs ls he hP hD hS hL)
theorem wl_lcmp {x y : Int64} (hd : decode M.2.1 pc = .ok (.lcmp, 1)) (hn : pc + 1 = np) (k : Wa M sx d mc ms n0 Q np L (.int (lg_cmp x y) :: st) sh me cs sl) : Wa M sx d mc ms n0 Q pc L (.long y :: .long x :: st) sh me cs sl := by
  subst hn
  intro l p e R s m args below meth c D cA adr0 A Z C adr H locs ls he hP hD hS hL
  exact W.lcmp C.1.1 C.1.2.1 hd  (k l p e R s m args below meth c D cA adr0 A Z C adr H locs ls he hP hD hS hL)
theorem wl_i2l {x : Int32} (hd : decode M.2.1 pc = .ok (.i2l, 1)) (hn : pc + 1 = np) (k : Wa M sx d mc ms n0 Q np L (.long x.toInt64 :: st) sh me cs sl) : Wa M sx d mc ms n0 Q pc L (.int x :: st) sh me cs sl := by
  subst hn
  intro l p e R s m args below meth c D cA adr0 A Z C adr H locs ls he hP hD hS hL
  exact lv_i2l C.1.1 C.1.2.1 hd rfl (k l p e R s m args below meth c D cA adr0 A Z C adr H locs ls he hP hD hS hL)
theorem wl_l2i {x : Int64} (hd : decode M.2.1 pc = .ok (.l2i, 1)) (hn : pc + 1 = np) (k : Wa M sx d mc ms n0 Q np L (.int x.toInt32 :: st) sh me cs sl) : Wa M sx d mc ms n0 Q pc L (.long x :: st) sh me cs sl := by
  subst hn
  intro l p e R s m args below meth c D cA adr0 A Z C adr H locs ls he hP hD hS hL
  exact lv_l2i C.1.1 C.1.2.1 hd rfl (k l p e R s m args below meth c D cA adr0 A Z C adr H locs ls he hP hD hS hL)
theorem wl_i2b {x : Int32} (hd : decode M.2.1 pc = .ok (.i2b, 1)) (hn : pc + 1 = np) (k : Wa M sx d mc ms n0 Q np L (.int x.toInt8.toInt32 :: st) sh me cs sl) : Wa M sx d mc ms n0 Q pc L (.int x :: st) sh me cs sl := by
  subst hn
  intro l p e R s m args below meth c D cA adr0 A Z C adr H locs ls he hP hD hS hL
  exact lv_i2b C.1.1 C.1.2.1 hd rfl (k l p e R s m args below meth c D cA adr0 A Z C adr H locs ls he hP hD hS hL)
theorem wl_i2s {x : Int32} (hd : decode M.2.1 pc = .ok (.i2s, 1)) (hn : pc + 1 = np) (k : Wa M sx d mc ms n0 Q np L (.int x.toInt16.toInt32 :: st) sh me cs sl) : Wa M sx d mc ms n0 Q pc L (.int x :: st) sh me cs sl := by
  subst hn
  intro l p e R s m args below meth c D cA adr0 A Z C adr H locs ls he hP hD hS hL
  exact lv_i2s C.1.1 C.1.2.1 hd rfl (k l p e R s m args below meth c D cA adr0 A Z C adr H locs ls he hP hD hS hL)
theorem wl_iconst {n : Int} {v : Int32} (hd : decode M.2.1 pc = .ok (.iconst n, 1)) (hn : pc + 1 = np) (hv : Int32.ofInt n = v) (k : Wa M sx d mc ms n0 Q np L (.int v :: st) sh me cs sl) : Wa M sx d mc ms n0 Q pc L st sh me cs sl := by
  subst hn
  intro l p e R s m args below meth c D cA adr0 A Z C adr H locs ls he hP hD hS hL
  exact lv_iconst C.1.1 C.1.2.1 hd hv (k l p e R s m args below meth c D cA adr0 A Z C adr H locs ls he hP hD hS hL)
theorem wl_bipush {n : Int} {v : Int32} (hd : decode M.2.1 pc = .ok (.bipush n, 2)) (hn : pc + 2 = np) (hv : (Int8.ofInt n).toInt32 = v) (k : Wa M sx d mc ms n0 Q np L (.int v :: st) sh me cs sl) : Wa M sx d mc ms n0 Q pc L st sh me cs sl := by
  subst hn
  intro l p e R s m args below meth c D cA adr0 A Z C adr H locs ls he hP hD hS hL
  exact lv_bipush C.1.1 C.1.2.1 hd hv (k l p e R s m args below meth c D cA adr0 A Z C adr H locs ls he hP hD hS hL)
theorem wl_sipush {n : Int} {v : Int32} (hd : decode M.2.1 pc = .ok (.sipush n, 3)) (hn : pc + 3 = np) (hv : (Int16.ofInt n).toInt32 = v) (k : Wa M sx d mc ms n0 Q np L (.int v :: st) sh me cs sl) : Wa M sx d mc ms n0 Q pc L st sh me cs sl := by
  subst hn
  intro l p e R s m args below meth c D cA adr0 A Z C adr H locs ls he hP hD hS hL
  exact lv_sipush C.1.1 C.1.2.1 hd hv (k l p e R s m args below meth c D cA adr0 A Z C adr H locs ls he hP hD hS hL)
theorem wl_lconst {n : Fin 2} {v : Int64} (hd : decode M.2.1 pc = .ok (.lconst n, 1)) (hn : pc + 1 = np) (hv : Int64.ofNat (n : Nat) = v) (k : Wa M sx d mc ms n0 Q np L (.long v :: st) sh me cs sl) : Wa M sx d mc ms n0 Q pc L st sh me cs sl := by
  subst hn
  intro l p e R s m args below meth c D cA adr0 A Z C adr H locs ls he hP hD hS hL
  exact lv_lconst C.1.1 C.1.2.1 hd hv (k l p e R s m args below meth c D cA adr0 A Z C adr H locs ls he hP hD hS hL)
theorem wl_null  (hd : decode M.2.1 pc = .ok (.aconst_null, 1)) (hn : pc + 1 = np) (k : Wa M sx d mc ms n0 Q np L (.null :: st) sh me cs sl) : Wa M sx d mc ms n0 Q pc L st sh me cs sl := by
  subst hn
  intro l p e R s m args below meth c D cA adr0 A Z C adr H locs ls he hP hD hS hL
  exact lv_null C.1.1 C.1.2.1 hd  (k l p e R s m args below meth c D cA adr0 A Z C adr H locs ls he hP hD hS hL)
theorem wl_dup {va : Value} (hd : decode M.2.1 pc = .ok (.dup, 1)) (hn : pc + 1 = np) (hc : va.category = 1) (k : Wa M sx d mc ms n0 Q np L (va :: va :: st) sh me cs sl) : Wa M sx d mc ms n0 Q pc L (va :: st) sh me cs sl := by
  subst hn
  intro l p e R s m args below meth c D cA adr0 A Z C adr H locs ls he hP hD hS hL
  exact lv_dup C.1.1 C.1.2.1 hd ((cv_cat adr va).trans hc) (k l p e R s m args below meth c D cA adr0 A Z C adr H locs ls he hP hD hS hL)
theorem wl_pop {va : Value} (hd : decode M.2.1 pc = .ok (.pop, 1)) (hn : pc + 1 = np) (hc : va.category = 1) (k : Wa M sx d mc ms n0 Q np L st sh me cs sl) : Wa M sx d mc ms n0 Q pc L (va :: st) sh me cs sl := by
  subst hn
  intro l p e R s m args below meth c D cA adr0 A Z C adr H locs ls he hP hD hS hL
  exact lv_pop C.1.1 C.1.2.1 hd ((cv_cat adr va).trans hc) (k l p e R s m args below meth c D cA adr0 A Z C adr H locs ls he hP hD hS hL)
theorem wl_dup2 {va vb : Value} (hd : decode M.2.1 pc = .ok (.dup2, 1)) (hn : pc + 1 = np) (hc : va.category = 1) (hc2 : vb.category = 1) (k : Wa M sx d mc ms n0 Q np L (va :: vb :: va :: vb :: st) sh me cs sl) : Wa M sx d mc ms n0 Q pc L (va :: vb :: st) sh me cs sl := by
  subst hn
  intro l p e R s m args below meth c D cA adr0 A Z C adr H locs ls he hP hD hS hL
  exact lv_dup2_11 C.1.1 C.1.2.1 hd ((cv_cat adr va).trans hc) ((cv_cat adr vb).trans hc2) (k l p e R s m args below meth c D cA adr0 A Z C adr H locs ls he hP hD hS hL)
theorem wl_ldc {idx : Nat} {v : Int32} (hd : decode M.2.1 pc = .ok (.ldc idx, 2)) (hn : pc + 2 = np) (hw : Cond.constant M.1.cls idx v ∈ WS) (k : Wa M sx d mc ms n0 Q np L (.int v :: st) sh me cs sl) : Wa M sx d mc ms n0 Q pc L st sh me cs sl := by
  subst hn
  intro l p e R s m args below meth c D cA adr0 A Z C adr H locs ls he hP hD hS hL
  exact lv_ldc C.1.1 C.1.2.1 C.1.2.2.2.2 (C.2.1 _ hw) hd (k l p e R s m args below meth c D cA adr0 A Z C adr H locs ls he hP hD hS hL)
theorem wl_ldc2 {idx : Nat} {v : Int64} (hd : decode M.2.1 pc = .ok (.ldc2_w idx, 3)) (hn : pc + 3 = np) (hw : Cond.constantLong M.1.cls idx v ∈ WS) (k : Wa M sx d mc ms n0 Q np L (.long v :: st) sh me cs sl) : Wa M sx d mc ms n0 Q pc L st sh me cs sl := by
  subst hn
  intro l p e R s m args below meth c D cA adr0 A Z C adr H locs ls he hP hD hS hL
  exact lv_ldc2 C.1.1 C.1.2.1 C.1.2.2.2.2 (C.2.1 _ hw) hd (k l p e R s m args below meth c D cA adr0 A Z C adr H locs ls he hP hD hS hL)
theorem wl_iload_n {i : Nat} {j : Fin 4} {x : Int32} (hd : decode M.2.1 pc = .ok (.iload_n j, 1)) (hn : pc + 1 = np) (hj : (j : Nat) = i) (hv : L[i]? = some (.int x)) (k : Wa M sx d mc ms n0 Q np L (.int x :: st) sh me cs sl) : Wa M sx d mc ms n0 Q pc L st sh me cs sl := by
  subst hn
  intro l p e R s m args below meth c D cA adr0 A Z C adr H locs ls he hP hD hS hL
  exact lv_iload_n C.1.1 C.1.2.1 hd hj (hL.get hv (fun h => by cases h)) (k l p e R s m args below meth c D cA adr0 A Z C adr H locs ls he hP hD hS hL)
theorem wl_iload {i : Nat} {x : Int32} (hd : decode M.2.1 pc = .ok (.iload i, 2)) (hn : pc + 2 = np) (hv : L[i]? = some (.int x)) (k : Wa M sx d mc ms n0 Q np L (.int x :: st) sh me cs sl) : Wa M sx d mc ms n0 Q pc L st sh me cs sl := by
  subst hn
  intro l p e R s m args below meth c D cA adr0 A Z C adr H locs ls he hP hD hS hL
  exact lv_iload C.1.1 C.1.2.1 hd (hL.get hv (fun h => by cases h)) (k l p e R s m args below meth c D cA adr0 A Z C adr H locs ls he hP hD hS hL)
theorem wl_lload_n {i : Nat} {j : Fin 4} {x : Int64} (hd : decode M.2.1 pc = .ok (.lload_n j, 1)) (hn : pc + 1 = np) (hj : (j : Nat) = i) (hv : L[i]? = some (.long x)) (k : Wa M sx d mc ms n0 Q np L (.long x :: st) sh me cs sl) : Wa M sx d mc ms n0 Q pc L st sh me cs sl := by
  subst hn
  intro l p e R s m args below meth c D cA adr0 A Z C adr H locs ls he hP hD hS hL
  exact lv_lload_n C.1.1 C.1.2.1 hd hj (hL.get hv (fun h => by cases h)) (k l p e R s m args below meth c D cA adr0 A Z C adr H locs ls he hP hD hS hL)
theorem wl_lload {i : Nat} {x : Int64} (hd : decode M.2.1 pc = .ok (.lload i, 2)) (hn : pc + 2 = np) (hv : L[i]? = some (.long x)) (k : Wa M sx d mc ms n0 Q np L (.long x :: st) sh me cs sl) : Wa M sx d mc ms n0 Q pc L st sh me cs sl := by
  subst hn
  intro l p e R s m args below meth c D cA adr0 A Z C adr H locs ls he hP hD hS hL
  exact lv_lload C.1.1 C.1.2.1 hd (hL.get hv (fun h => by cases h)) (k l p e R s m args below meth c D cA adr0 A Z C adr H locs ls he hP hD hS hL)
theorem wl_aload_n {i : Nat} {j : Fin 4} {x : Nat} (hd : decode M.2.1 pc = .ok (.aload_n j, 1)) (hn : pc + 1 = np) (hj : (j : Nat) = i) (hv : L[i]? = some (.ref x)) (k : Wa M sx d mc ms n0 Q np L (.ref x :: st) sh me cs sl) : Wa M sx d mc ms n0 Q pc L st sh me cs sl := by
  subst hn
  intro l p e R s m args below meth c D cA adr0 A Z C adr H locs ls he hP hD hS hL
  exact lv_aload_n C.1.1 C.1.2.1 hd hj (hL.get hv (fun h => by cases h)) (k l p e R s m args below meth c D cA adr0 A Z C adr H locs ls he hP hD hS hL)
theorem wl_aload {i : Nat} {x : Nat} (hd : decode M.2.1 pc = .ok (.aload i, 2)) (hn : pc + 2 = np) (hv : L[i]? = some (.ref x)) (k : Wa M sx d mc ms n0 Q np L (.ref x :: st) sh me cs sl) : Wa M sx d mc ms n0 Q pc L st sh me cs sl := by
  subst hn
  intro l p e R s m args below meth c D cA adr0 A Z C adr H locs ls he hP hD hS hL
  exact lv_aload C.1.1 C.1.2.1 hd (hL.get hv (fun h => by cases h)) (k l p e R s m args below meth c D cA adr0 A Z C adr H locs ls he hP hD hS hL)
theorem wl_istore_n {i : Nat} {j : Fin 4} {x : Int32} (hd : decode M.2.1 pc = .ok (.istore_n j, 1)) (hn : pc + 1 = np) (hj : (j : Nat) = i) (hi : i < M.2.2.1) (hp : ∀ w, 0 < i → L[i - 1]? = some w → w.category = 1) (k : Wa M sx d mc ms n0 Q np (L.set i (.int x)) st sh me cs sl) : Wa M sx d mc ms n0 Q pc L (.int x :: st) sh me cs sl := by
  subst hn
  intro l p e R s m args below meth c D cA adr0 A Z C adr H locs ls he hP hD hS hL
  exact lv_istore_n C.1.1 C.1.2.1 hd hj hL.has hi rfl (fun ls' hl' => k l p e R s m args below meth c D cA adr0 A Z C adr H locs ls' he hP hD hS (Lr.set1 (v := .int x) hl' hp))
theorem wl_istore {i : Nat} {x : Int32} (hd : decode M.2.1 pc = .ok (.istore i, 2)) (hn : pc + 2 = np) (hi : i < M.2.2.1) (hp : ∀ w, 0 < i → L[i - 1]? = some w → w.category = 1) (k : Wa M sx d mc ms n0 Q np (L.set i (.int x)) st sh me cs sl) : Wa M sx d mc ms n0 Q pc L (.int x :: st) sh me cs sl := by
  subst hn
  intro l p e R s m args below meth c D cA adr0 A Z C adr H locs ls he hP hD hS hL
  exact lv_istore C.1.1 C.1.2.1 hd hL.has hi rfl (fun ls' hl' => k l p e R s m args below meth c D cA adr0 A Z C adr H locs ls' he hP hD hS (Lr.set1 (v := .int x) hl' hp))
theorem wl_astore_n {i : Nat} {j : Fin 4} {x : Nat} (hd : decode M.2.1 pc = .ok (.astore_n j, 1)) (hn : pc + 1 = np) (hj : (j : Nat) = i) (hi : i < M.2.2.1) (hp : ∀ w, 0 < i → L[i - 1]? = some w → w.category = 1) (k : Wa M sx d mc ms n0 Q np (L.set i (.ref x)) st sh me cs sl) : Wa M sx d mc ms n0 Q pc L (.ref x :: st) sh me cs sl := by
  subst hn
  intro l p e R s m args below meth c D cA adr0 A Z C adr H locs ls he hP hD hS hL
  exact lv_astore_n C.1.1 C.1.2.1 hd hj hL.has hi rfl (fun ls' hl' => k l p e R s m args below meth c D cA adr0 A Z C adr H locs ls' he hP hD hS (Lr.set1 (v := .ref x) hl' hp))
theorem wl_astore {i : Nat} {x : Nat} (hd : decode M.2.1 pc = .ok (.astore i, 2)) (hn : pc + 2 = np) (hi : i < M.2.2.1) (hp : ∀ w, 0 < i → L[i - 1]? = some w → w.category = 1) (k : Wa M sx d mc ms n0 Q np (L.set i (.ref x)) st sh me cs sl) : Wa M sx d mc ms n0 Q pc L (.ref x :: st) sh me cs sl := by
  subst hn
  intro l p e R s m args below meth c D cA adr0 A Z C adr H locs ls he hP hD hS hL
  exact lv_astore C.1.1 C.1.2.1 hd hL.has hi rfl (fun ls' hl' => k l p e R s m args below meth c D cA adr0 A Z C adr H locs ls' he hP hD hS (Lr.set1 (v := .ref x) hl' hp))
theorem wl_iinc {i : Nat} {n : Int} {x v : Int32} (hd : decode M.2.1 pc = .ok (.iinc i n, 3)) (hn : pc + 3 = np) (hv : L[i]? = some (.int x)) (hx : x + Int32.ofInt n = v) (hi : i < M.2.2.1) (hp : ∀ w, 0 < i → L[i - 1]? = some w → w.category = 1) (k : Wa M sx d mc ms n0 Q np (L.set i (.int v)) st sh me cs sl) : Wa M sx d mc ms n0 Q pc L st sh me cs sl := by
  subst hn
  intro l p e R s m args below meth c D cA adr0 A Z C adr H locs ls he hP hD hS hL
  have hne : Value.int x ≠ Value.float 0 := by intro h; cases h
  obtain ⟨j, hj⟩ := List.getElem?_of_mem (las_mem.mpr ⟨.int x, hv, hne, rfl⟩ : (i, Value.int x) ∈ las adr L)
  exact lv_iinc C.1.1 C.1.2.1 hd hL.has hj hx hi rfl (fun ls' hl' => k l p e R s m args below meth c D cA adr0 A Z C adr H locs ls' he hP hD hS (Lr.set1 (v := .int v) hl' hp))
theorem wl_if_eq {x : Int32} {off : Int} (hd : decode M.2.1 pc = .ok (.ifCond .eq off, 3)) (hn : pc + 3 = np) (ht : (pc : Int) + off = (tg : Int)) (kt : x = 0 → Wa M sx d mc ms n0 Q tg L st sh me cs sl) (kf : ¬ x = 0 → Wa M sx d mc ms n0 Q np L st sh me cs sl) : Wa M sx d mc ms n0 Q pc L (.int x :: st) sh me cs sl := by
  subst hn
  intro l p e R s m args below meth c D cA adr0 A Z C adr H locs ls he hP hD hS hL
  exact lv_if_eq C.1.1 C.1.2.1 hd ht (fun q => kt q l p e R s m args below meth c D cA adr0 A Z C adr H locs ls he hP hD hS hL) (fun q => kf q l p e R s m args below meth c D cA adr0 A Z C adr H locs ls he hP hD hS hL)
theorem wl_if_ne {x : Int32} {off : Int} (hd : decode M.2.1 pc = .ok (.ifCond .ne off, 3)) (hn : pc + 3 = np) (ht : (pc : Int) + off = (tg : Int)) (kt : ¬ x = 0 → Wa M sx d mc ms n0 Q tg L st sh me cs sl) (kf : x = 0 → Wa M sx d mc ms n0 Q np L st sh me cs sl) : Wa M sx d mc ms n0 Q pc L (.int x :: st) sh me cs sl := by
  subst hn
  intro l p e R s m args below meth c D cA adr0 A Z C adr H locs ls he hP hD hS hL
  exact lv_if_ne C.1.1 C.1.2.1 hd ht (fun q => kt q l p e R s m args below meth c D cA adr0 A Z C adr H locs ls he hP hD hS hL) (fun q => kf q l p e R s m args below meth c D cA adr0 A Z C adr H locs ls he hP hD hS hL)
theorem wl_if_lt {x : Int32} {off : Int} (hd : decode M.2.1 pc = .ok (.ifCond .lt off, 3)) (hn : pc + 3 = np) (ht : (pc : Int) + off = (tg : Int)) (kt : x < 0 → Wa M sx d mc ms n0 Q tg L st sh me cs sl) (kf : ¬ x < 0 → Wa M sx d mc ms n0 Q np L st sh me cs sl) : Wa M sx d mc ms n0 Q pc L (.int x :: st) sh me cs sl := by
  subst hn
  intro l p e R s m args below meth c D cA adr0 A Z C adr H locs ls he hP hD hS hL
  exact lv_if_lt C.1.1 C.1.2.1 hd ht (fun q => kt q l p e R s m args below meth c D cA adr0 A Z C adr H locs ls he hP hD hS hL) (fun q => kf q l p e R s m args below meth c D cA adr0 A Z C adr H locs ls he hP hD hS hL)
theorem wl_if_ge {x : Int32} {off : Int} (hd : decode M.2.1 pc = .ok (.ifCond .ge off, 3)) (hn : pc + 3 = np) (ht : (pc : Int) + off = (tg : Int)) (kt : 0 ≤ x → Wa M sx d mc ms n0 Q tg L st sh me cs sl) (kf : ¬ 0 ≤ x → Wa M sx d mc ms n0 Q np L st sh me cs sl) : Wa M sx d mc ms n0 Q pc L (.int x :: st) sh me cs sl := by
  subst hn
  intro l p e R s m args below meth c D cA adr0 A Z C adr H locs ls he hP hD hS hL
  exact lv_if_ge C.1.1 C.1.2.1 hd ht (fun q => kt q l p e R s m args below meth c D cA adr0 A Z C adr H locs ls he hP hD hS hL) (fun q => kf q l p e R s m args below meth c D cA adr0 A Z C adr H locs ls he hP hD hS hL)
theorem wl_if_gt {x : Int32} {off : Int} (hd : decode M.2.1 pc = .ok (.ifCond .gt off, 3)) (hn : pc + 3 = np) (ht : (pc : Int) + off = (tg : Int)) (kt : 0 < x → Wa M sx d mc ms n0 Q tg L st sh me cs sl) (kf : ¬ 0 < x → Wa M sx d mc ms n0 Q np L st sh me cs sl) : Wa M sx d mc ms n0 Q pc L (.int x :: st) sh me cs sl := by
  subst hn
  intro l p e R s m args below meth c D cA adr0 A Z C adr H locs ls he hP hD hS hL
  exact lv_if_gt C.1.1 C.1.2.1 hd ht (fun q => kt q l p e R s m args below meth c D cA adr0 A Z C adr H locs ls he hP hD hS hL) (fun q => kf q l p e R s m args below meth c D cA adr0 A Z C adr H locs ls he hP hD hS hL)
theorem wl_if_le {x : Int32} {off : Int} (hd : decode M.2.1 pc = .ok (.ifCond .le off, 3)) (hn : pc + 3 = np) (ht : (pc : Int) + off = (tg : Int)) (kt : x ≤ 0 → Wa M sx d mc ms n0 Q tg L st sh me cs sl) (kf : ¬ x ≤ 0 → Wa M sx d mc ms n0 Q np L st sh me cs sl) : Wa M sx d mc ms n0 Q pc L (.int x :: st) sh me cs sl := by
  subst hn
  intro l p e R s m args below meth c D cA adr0 A Z C adr H locs ls he hP hD hS hL
  exact lv_if_le C.1.1 C.1.2.1 hd ht (fun q => kt q l p e R s m args below meth c D cA adr0 A Z C adr H locs ls he hP hD hS hL) (fun q => kf q l p e R s m args below meth c D cA adr0 A Z C adr H locs ls he hP hD hS hL)
theorem wl_icmp_eq {x y : Int32} {off : Int} (hd : decode M.2.1 pc = .ok (.if_icmp .eq off, 3)) (hn : pc + 3 = np) (ht : (pc : Int) + off = (tg : Int)) (kt : x = y → Wa M sx d mc ms n0 Q tg L st sh me cs sl) (kf : ¬ x = y → Wa M sx d mc ms n0 Q np L st sh me cs sl) : Wa M sx d mc ms n0 Q pc L (.int y :: .int x :: st) sh me cs sl := by
  subst hn
  intro l p e R s m args below meth c D cA adr0 A Z C adr H locs ls he hP hD hS hL
  exact lv_icmp_eq C.1.1 C.1.2.1 hd ht (fun q => kt q l p e R s m args below meth c D cA adr0 A Z C adr H locs ls he hP hD hS hL) (fun q => kf q l p e R s m args below meth c D cA adr0 A Z C adr H locs ls he hP hD hS hL)
theorem wl_icmp_ne {x y : Int32} {off : Int} (hd : decode M.2.1 pc = .ok (.if_icmp .ne off, 3)) (hn : pc + 3 = np) (ht : (pc : Int) + off = (tg : Int)) (kt : ¬ x = y → Wa M sx d mc ms n0 Q tg L st sh me cs sl) (kf : x = y → Wa M sx d mc ms n0 Q np L st sh me cs sl) : Wa M sx d mc ms n0 Q pc L (.int y :: .int x :: st) sh me cs sl := by
  subst hn
  intro l p e R s m args below meth c D cA adr0 A Z C adr H locs ls he hP hD hS hL
  exact lv_icmp_ne C.1.1 C.1.2.1 hd ht (fun q => kt q l p e R s m args below meth c D cA adr0 A Z C adr H locs ls he hP hD hS hL) (fun q => kf q l p e R s m args below meth c D cA adr0 A Z C adr H locs ls he hP hD hS hL)
theorem wl_icmp_lt {x y : Int32} {off : Int} (hd : decode M.2.1 pc = .ok (.if_icmp .lt off, 3)) (hn : pc + 3 = np) (ht : (pc : Int) + off = (tg : Int)) (kt : x < y → Wa M sx d mc ms n0 Q tg L st sh me cs sl) (kf : ¬ x < y → Wa M sx d mc ms n0 Q np L st sh me cs sl) : Wa M sx d mc ms n0 Q pc L (.int y :: .int x :: st) sh me cs sl := by
  subst hn
  intro l p e R s m args below meth c D cA adr0 A Z C adr H locs ls he hP hD hS hL
  exact lv_icmp_lt C.1.1 C.1.2.1 hd ht (fun q => kt q l p e R s m args below meth c D cA adr0 A Z C adr H locs ls he hP hD hS hL) (fun q => kf q l p e R s m args below meth c D cA adr0 A Z C adr H locs ls he hP hD hS hL)
theorem wl_icmp_ge {x y : Int32} {off : Int} (hd : decode M.2.1 pc = .ok (.if_icmp .ge off, 3)) (hn : pc + 3 = np) (ht : (pc : Int) + off = (tg : Int)) (kt : y ≤ x → Wa M sx d mc ms n0 Q tg L st sh me cs sl) (kf : ¬ y ≤ x → Wa M sx d mc ms n0 Q np L st sh me cs sl) : Wa M sx d mc ms n0 Q pc L (.int y :: .int x :: st) sh me cs sl := by
  subst hn
  intro l p e R s m args below meth c D cA adr0 A Z C adr H locs ls he hP hD hS hL
  exact lv_icmp_ge C.1.1 C.1.2.1 hd ht (fun q => kt q l p e R s m args below meth c D cA adr0 A Z C adr H locs ls he hP hD hS hL) (fun q => kf q l p e R s m args below meth c D cA adr0 A Z C adr H locs ls he hP hD hS hL)
theorem wl_icmp_gt {x y : Int32} {off : Int} (hd : decode M.2.1 pc = .ok (.if_icmp .gt off, 3)) (hn : pc + 3 = np) (ht : (pc : Int) + off = (tg : Int)) (kt : y < x → Wa M sx d mc ms n0 Q tg L st sh me cs sl) (kf : ¬ y < x → Wa M sx d mc ms n0 Q np L st sh me cs sl) : Wa M sx d mc ms n0 Q pc L (.int y :: .int x :: st) sh me cs sl := by
  subst hn
  intro l p e R s m args below meth c D cA adr0 A Z C adr H locs ls he hP hD hS hL
  exact lv_icmp_gt C.1.1 C.1.2.1 hd ht (fun q => kt q l p e R s m args below meth c D cA adr0 A Z C adr H locs ls he hP hD hS hL) (fun q => kf q l p e R s m args below meth c D cA adr0 A Z C adr H locs ls he hP hD hS hL)
theorem wl_icmp_le {x y : Int32} {off : Int} (hd : decode M.2.1 pc = .ok (.if_icmp .le off, 3)) (hn : pc + 3 = np) (ht : (pc : Int) + off = (tg : Int)) (kt : x ≤ y → Wa M sx d mc ms n0 Q tg L st sh me cs sl) (kf : ¬ x ≤ y → Wa M sx d mc ms n0 Q np L st sh me cs sl) : Wa M sx d mc ms n0 Q pc L (.int y :: .int x :: st) sh me cs sl := by
  subst hn
  intro l p e R s m args below meth c D cA adr0 A Z C adr H locs ls he hP hD hS hL
  exact lv_icmp_le C.1.1 C.1.2.1 hd ht (fun q => kt q l p e R s m args below meth c D cA adr0 A Z C adr H locs ls he hP hD hS hL) (fun q => kf q l p e R s m args below meth c D cA adr0 A Z C adr H locs ls he hP hD hS hL)
theorem wl_goto {off : Int} (hd : decode M.2.1 pc = .ok (.goto off, 3)) (ht : (pc : Int) + off = (tg : Int)) (k : Wa M sx d mc ms n0 Q tg L st sh me cs sl) : Wa M sx d mc ms n0 Q pc L st sh me cs sl := by
  intro l p e R s m args below meth c D cA adr0 A Z C adr H locs ls he hP hD hS hL
  exact lv_goto C.1.1 C.1.2.1 hd ht (k l p e R s m args below meth c D cA adr0 A Z C adr H locs ls he hP hD hS hL)
theorem wl_ifnull {off : Int} {a : Nat} (hd : decode M.2.1 pc = .ok (.ifnull off, 3)) (hn : pc + 3 = np) (k : Wa M sx d mc ms n0 Q np L st sh me cs sl) : Wa M sx d mc ms n0 Q pc L (.ref a :: st) sh me cs sl := by
  subst hn
  intro l p e R s m args below meth c D cA adr0 A Z C adr H locs ls he hP hD hS hL
  exact lv_ifnull C.1.1 C.1.2.1 hd (k l p e R s m args below meth c D cA adr0 A Z C adr H locs ls he hP hD hS hL)
theorem wl_ifnullN {off : Int} (hd : decode M.2.1 pc = .ok (.ifnull off, 3)) (ht : (pc : Int) + off = (tg : Int)) (k : Wa M sx d mc ms n0 Q tg L st sh me cs sl) : Wa M sx d mc ms n0 Q pc L (.null :: st) sh me cs sl := by
  intro l p e R s m args below meth c D cA adr0 A Z C adr H locs ls he hP hD hS hL
  exact lv_ifnullN C.1.1 C.1.2.1 hd ht (k l p e R s m args below meth c D cA adr0 A Z C adr H locs ls he hP hD hS hL)
theorem wl_ifnonnull {off : Int} {a : Nat} (hd : decode M.2.1 pc = .ok (.ifnonnull off, 3)) (ht : (pc : Int) + off = (tg : Int)) (k : Wa M sx d mc ms n0 Q tg L st sh me cs sl) : Wa M sx d mc ms n0 Q pc L (.ref a :: st) sh me cs sl := by
  intro l p e R s m args below meth c D cA adr0 A Z C adr H locs ls he hP hD hS hL
  exact lv_ifnonnull C.1.1 C.1.2.1 hd ht (k l p e R s m args below meth c D cA adr0 A Z C adr H locs ls he hP hD hS hL)
theorem wl_ifnonnullN {off : Int} (hd : decode M.2.1 pc = .ok (.ifnonnull off, 3)) (hn : pc + 3 = np) (k : Wa M sx d mc ms n0 Q np L st sh me cs sl) : Wa M sx d mc ms n0 Q pc L (.null :: st) sh me cs sl := by
  subst hn
  intro l p e R s m args below meth c D cA adr0 A Z C adr H locs ls he hP hD hS hL
  exact lv_ifnonnullN C.1.1 C.1.2.1 hd (k l p e R s m args below meth c D cA adr0 A Z C adr H locs ls he hP hD hS hL)
theorem wl_tswI {dflt lo hi : Int} {offs : Array Int} {len : Nat} {x : Int32} {off : Int} (hd : decode M.2.1 pc = .ok (.tableswitch dflt lo hi offs, len)) (h1 : ¬ x.toInt < lo) (h2 : ¬ hi < x.toInt) (ho : offs[(x.toInt - lo).toNat]? = some off) (ht : (pc : Int) + off = (tg : Int)) (k : Wa M sx d mc ms n0 Q tg L st sh me cs sl) : Wa M sx d mc ms n0 Q pc L (.int x :: st) sh me cs sl := by
  intro l p e R s m args below meth c D cA adr0 A Z C adr H locs ls he hP hD hS hL
  exact lv_tableIn C.1.1 C.1.2.1 hd h1 h2 ho ht (k l p e R s m args below meth c D cA adr0 A Z C adr H locs ls he hP hD hS hL)
theorem wl_tswO {dflt lo hi : Int} {offs : Array Int} {len : Nat} {x : Int32} (hd : decode M.2.1 pc = .ok (.tableswitch dflt lo hi offs, len)) (h : x.toInt < lo ∨ hi < x.toInt) (ht : (pc : Int) + dflt = (tg : Int)) (k : Wa M sx d mc ms n0 Q tg L st sh me cs sl) : Wa M sx d mc ms n0 Q pc L (.int x :: st) sh me cs sl := by
  intro l p e R s m args below meth c D cA adr0 A Z C adr H locs ls he hP hD hS hL
  exact lv_tableOut C.1.1 C.1.2.1 hd h ht (k l p e R s m args below meth c D cA adr0 A Z C adr H locs ls he hP hD hS hL)
theorem wl_ret (hd : decode M.2.1 pc = .ok (.return_, 1)) (hr : M.2.2.2 = none) (hc : cs ≤ mc) (hs : sl ≤ ms) (hq : Q none sh me) : Wa M sx d mc ms n0 Q pc L [] sh me cs sl := by
  intro l p e R s m args below meth c D cA adr0 A Z C adr H locs ls he hP hD hS hL
  exact W.widen hc hs (C.2.2.2.2.2.2.2 none sh me adr H locs ls pc hq ⟨hd, hr⟩ he hP hD hS)
theorem wl_iret {x : Int32} {ty : FieldType} (hd : decode M.2.1 pc = .ok (.ireturn, 1)) (hr : M.2.2.2 = some ty) (hx : narrow ty (.int x) = .int x) (hc : cs ≤ mc) (hs : sl ≤ ms) (hq : Q (some (.int x)) sh me) : Wa M sx d mc ms n0 Q pc L [.int x] sh me cs sl := by
  intro l p e R s m args below meth c D cA adr0 A Z C adr H locs ls he hP hD hS hL
  exact W.widen hc hs (C.2.2.2.2.2.2.2 (some (.int x)) sh me adr H locs ls pc hq ⟨hd, ty, hr, hx⟩ he hP hD hS)
def inA (sh : List Shp) (k : Nat) (i : Int32) : Prop := ∃ n, sh[k]? = some (.inr (0, n)) ∧ vp_in i n
theorem wl_iaload {a : Nat} {i : Int32} (hd : decode M.2.1 pc = .ok (.iaload, 1)) (hn : pc + 1 = np) (hi : inA sh a i) (k : Wa M sx d mc ms n0 Q np L (.int (gI me a i.toNatClampNeg) :: st) sh me cs sl) : Wa M sx d mc ms n0 Q pc L (.int i :: .ref a :: st) sh me cs sl := by
  subst hn
  intro l p e R s m args below meth c D cA adr0 A Z C adr H locs ls he hP hD hS hL
  obtain ⟨n, h1, h2⟩ := hi
  exact va_iald C.1.1 C.1.2.1 C.2.2.2.1 hP a 0 (wl_get h1) rfl h2 hd (k l p e R s m args below meth c D cA adr0 A Z C adr H locs ls he hP hD hS hL)
theorem wl_sload {z : Nat} {i : Int32} (hd : decode M.2.1 pc = .ok (.iaload, 1)) (hn : pc + 1 = np) (hz : sx.1 ≠ 0) (hb0 : sh.length ≤ 999999) (hi : vp_in i sx.1) (k : Wa M sx d mc ms n0 Q np L (.int (sx.2 i.toNatClampNeg) :: st) sh me cs sl) : Wa M sx d mc ms n0 Q pc L (.int i :: .retAddr z :: st) sh me cs sl := by
  subst hn
  intro l p e R s m args below meth c D cA adr0 A Z C adr H locs ls he hP hD hS hL
  rcases C.2.2.2.2.2.2.1 with h0 | ⟨hX, hb, hA⟩
  · exact absurd h0 hz
  · have ee : adr 999999 = adr0 999999 := he _ (Or.inr hb0)
    rw [← ee] at hX hb hA
    exact va_sld C.1.1 C.1.2.1 hX hb hA hS hi hd (k l p e R s m args below meth c D cA adr0 A Z C adr H locs ls he hP hD hS hL)
theorem wl_slen {z : Nat} (hd : decode M.2.1 pc = .ok (.arraylength, 1)) (hn : pc + 1 = np) (hz : sx.1 ≠ 0) (hb0 : sh.length ≤ 999999) (k : Wa M sx d mc ms n0 Q np L (.int (Int32.ofNat sx.1) :: st) sh me cs sl) : Wa M sx d mc ms n0 Q pc L (.retAddr z :: st) sh me cs sl := by
  subst hn
  intro l p e R s m args below meth c D cA adr0 A Z C adr H locs ls he hP hD hS hL
  rcases C.2.2.2.2.2.2.1 with h0 | ⟨hX, hb, hA⟩
  · exact absurd h0 hz
  · have ee : adr 999999 = adr0 999999 := he _ (Or.inr hb0)
    rw [← ee] at hX hb hA
    exact va_slen C.1.1 C.1.2.1 hX hb hA hS hd (k l p e R s m args below meth c D cA adr0 A Z C adr H locs ls he hP hD hS hL)
theorem wl_iastore {a : Nat} {i x : Int32} (hd : decode M.2.1 pc = .ok (.iastore, 1)) (hn : pc + 1 = np) (hi : inA sh a i) (k : Wa M sx d mc ms n0 Q np L st sh (uI me a i.toNatClampNeg x) cs sl) : Wa M sx d mc ms n0 Q pc L (.int x :: .int i :: .ref a :: st) sh me cs sl := by
  subst hn
  intro l p e R s m args below meth c D cA adr0 A Z C adr H locs ls he hP hD hS hL
  obtain ⟨n, h1, h2⟩ := hi
  refine va_iast C.1.1 C.1.2.1 C.2.2.2.1 hP hD hS a 0 (wl_get h1) rfl h2 hd (fun H1 locs1 hP1 hD1 hS1 => ?_)
  have ew := wl_setA (cA := cA) (adr := adr) (me := me) (f := upd (gI me a) i.toNatClampNeg x) h1
  rw [ew] at hP1 hD1
  exact k l p e R s m args below meth c D cA adr0 A Z C adr H1 locs1 ls he hP1 hD1 hS1 hL
theorem wl_alen {a n t : Nat} {v : Int32} (hd : decode M.2.1 pc = .ok (.arraylength, 1)) (hn : pc + 1 = np) (hs : sh[a]? = some (.inr (t, n))) (ht : t < 4) (hv : Int32.ofNat n = v) (k : Wa M sx d mc ms n0 Q np L (.int v :: st) sh me cs sl) : Wa M sx d mc ms n0 Q pc L (.ref a :: st) sh me cs sl := by
  subst hn
  intro l p e R s m args below meth c D cA adr0 A Z C adr H locs ls he hP hD hS hL
  have hg := wl_get (cA := cA) (adr := adr) (me := me) hs
  match t, ht, hs, hg with
  | 0, _, hs, hg => exact va_alen C.1.1 C.1.2.1 C.2.2.2.1 hP a 0 hg rfl hv hd (k l p e R s m args below meth c D cA adr0 A Z C adr H locs ls he hP hD hS hL)
  | 1, _, hs, hg => exact va_alen C.1.1 C.1.2.1 C.2.2.2.1 hP a 1 hg rfl hv hd (k l p e R s m args below meth c D cA adr0 A Z C adr H locs ls he hP hD hS hL)
  | 2, _, hs, hg => exact va_alen C.1.1 C.1.2.1 C.2.2.2.1 hP a 2 hg rfl hv hd (k l p e R s m args below meth c D cA adr0 A Z C adr H locs ls he hP hD hS hL)
  | 3, _, hs, hg => exact va_alen C.1.1 C.1.2.1 C.2.2.2.1 hP a 3 hg rfl hv hd (k l p e R s m args below meth c D cA adr0 A Z C adr H locs ls he hP hD hS hL)
theorem wl_aaload {a b n t : Nat} {i : Int32} (hd : decode M.2.1 pc = .ok (.aaload, 1)) (hn : pc + 1 = np) (hs : sh[a]? = some (.inr (t + 1, n))) (ht : t < 3) (hi : vp_in i n) (hr : gR me a i.toNatClampNeg = some b) (k : Wa M sx d mc ms n0 Q np L (.ref b :: st) sh me cs sl) : Wa M sx d mc ms n0 Q pc L (.int i :: .ref a :: st) sh me cs sl := by
  subst hn
  intro l p e R s m args below meth c D cA adr0 A Z C adr H locs ls he hP hD hS hL
  have hg := wl_get (cA := cA) (adr := adr) (me := me) hs
  have hlt : i.toNatClampNeg < n := Nat.not_le.mp fun q => hi (Or.inr q)
  have hk := k l p e R s m args below meth c D cA adr0 A Z C adr H locs ls he hP hD hS hL
  match t, ht, hs, hg with
  | 0, _, hs, hg =>
    refine W.aald (v := va_rf ((gR me a i.toNatClampNeg).map adr)) (ty := .object "DebtCoats$Person") C.1.1 C.1.2.1 (hP a _ hg) ((C.2.2.2.1.2 1 _ rfl).1 n (fun j => va_rf ((gR me a j).map adr))) rfl (fun q => by cases q) (by show ¬ (i < 0 ∨ (arrV _ _ _).slots.size ≤ _); rw [arrV_size]; exact hi) (by show (arrV _ _ _).slots[_]? = _; rw [arrV_read _ _ hlt]) rfl rfl hd ?_
    rw [hr]; exact hk
  | 1, _, hs, hg =>
    refine W.aald (v := va_rf ((gR me a i.toNatClampNeg).map adr)) (ty := .object "DebtCoats$Sheet") C.1.1 C.1.2.1 (hP a _ hg) ((C.2.2.2.1.2 2 _ rfl).1 n (fun j => va_rf ((gR me a j).map adr))) rfl (fun q => by cases q) (by show ¬ (i < 0 ∨ (arrV _ _ _).slots.size ≤ _); rw [arrV_size]; exact hi) (by show (arrV _ _ _).slots[_]? = _; rw [arrV_read _ _ hlt]) rfl rfl hd ?_
    rw [hr]; exact hk
  | 2, _, hs, hg =>
    refine W.aald (v := va_rf ((gR me a i.toNatClampNeg).map adr)) (ty := .array .int) C.1.1 C.1.2.1 (hP a _ hg) ((C.2.2.2.1.2 3 _ rfl).1 n (fun j => va_rf ((gR me a j).map adr))) rfl (fun q => by cases q) (by show ¬ (i < 0 ∨ (arrV _ _ _).slots.size ≤ _); rw [arrV_size]; exact hi) (by show (arrV _ _ _).slots[_]? = _; rw [arrV_read _ _ hlt]) rfl rfl hd ?_
    rw [hr]; exact hk
/-- what an instruction's link to field j of kind ci needs: the words -/
def FLk (own : String) (idx ci j : Nat) : Prop := ∃ (C : String) (T : u_T) (N : Nat) (ty : Nat → FieldType), vwCl[ci]? = some (C, T, N) ∧ N = fn ci ∧ j < N ∧ Cond.fieldLink own idx C (T j).2.1 (T j).2.2.1 ∈ WS ∧ (T j).1 = C ∧ (∀ w ∈ u_ws C T N, w ∈ WS) ∧ (∀ k, k < N → parseFieldDescriptor (T k).2.2.1 = some (ty k)) ∧ (∀ a, a < N → ∀ b, b < N → a ≠ b → (T a).2.1 ≠ (T b).2.1) ∧ ((fk ci j = 0 ∧ ty j = .int) ∨ (fk ci j = 2 ∧ ty j = .boolean) ∨ (fk ci j = 1 ∧ refKind (ty j) = true))
theorem fval_at {adr : Nat → Nat} {me : Mem} {k ci j : Nat} (h : j < fn ci) : ((List.range (fn ci)).map (fval adr me k ci))[j]? = some (fval adr me k ci j) := by
  simp [h]
theorem wl_geti {idx ci j a : Nat} (hd : decode M.2.1 pc = .ok (.getfield idx, 3)) (hn : pc + 3 = np) (hf : FLk M.1.cls idx ci j) (h0 : fk ci j ≠ 1) (hs : sh[a]? = some (.inl ci)) (k : Wa M sx d mc ms n0 Q np L (.int (gI me a j) :: st) sh me cs sl) : Wa M sx d mc ms n0 Q pc L (.ref a :: st) sh me cs sl := by
  subst hn
  intro l p e R s m args below meth c D cA adr0 A Z C adr H locs ls he hP hD hS hL
  obtain ⟨C0, T, N, ty, h1, h2, h3, h4, h5, h6, h7, h8, h9⟩ := hf
  refine va_get (C := C0) (T := T) (N := N) (ref := C0) C.1.1 C.1.2.1 C.2.1 h6 C.1.2.2.2.2 C.2.2.2.1 hP a (wl_get hs) h1 j h3 (C.2.1 _ h4) (fun x hx => by rw [h5] at hx; exact hx) (fval_at (h2 ▸ h3)) hd ?_
  have ee : fval adr me a ci j = .int (gI me a j) := by simp [fval, h0]
  rw [ee]
  exact k l p e R s m args below meth c D cA adr0 A Z C adr H locs ls he hP hD hS hL
theorem wl_getr {idx ci j a b : Nat} (hd : decode M.2.1 pc = .ok (.getfield idx, 3)) (hn : pc + 3 = np) (hf : FLk M.1.cls idx ci j) (h0 : fk ci j = 1) (hs : sh[a]? = some (.inl ci)) (hr : gR me a j = some b) (k : Wa M sx d mc ms n0 Q np L (.ref b :: st) sh me cs sl) : Wa M sx d mc ms n0 Q pc L (.ref a :: st) sh me cs sl := by
  subst hn
  intro l p e R s m args below meth c D cA adr0 A Z C adr H locs ls he hP hD hS hL
  obtain ⟨C0, T, N, ty, h1, h2, h3, h4, h5, h6, h7, h8, h9⟩ := hf
  refine va_get (C := C0) (T := T) (N := N) (ref := C0) C.1.1 C.1.2.1 C.2.1 h6 C.1.2.2.2.2 C.2.2.2.1 hP a (wl_get hs) h1 j h3 (C.2.1 _ h4) (fun x hx => by rw [h5] at hx; exact hx) (fval_at (h2 ▸ h3)) hd ?_
  have ee : fval adr me a ci j = .ref (adr b) := by simp [fval, h0, hr, va_rf]
  rw [ee]
  exact k l p e R s m args below meth c D cA adr0 A Z C adr H locs ls he hP hD hS hL
theorem wl_getrN {idx ci j a : Nat} (hd : decode M.2.1 pc = .ok (.getfield idx, 3)) (hn : pc + 3 = np) (hf : FLk M.1.cls idx ci j) (h0 : fk ci j = 1) (hs : sh[a]? = some (.inl ci)) (hr : gR me a j = none) (k : Wa M sx d mc ms n0 Q np L (.null :: st) sh me cs sl) : Wa M sx d mc ms n0 Q pc L (.ref a :: st) sh me cs sl := by
  subst hn
  intro l p e R s m args below meth c D cA adr0 A Z C adr H locs ls he hP hD hS hL
  obtain ⟨C0, T, N, ty, h1, h2, h3, h4, h5, h6, h7, h8, h9⟩ := hf
  refine va_get (C := C0) (T := T) (N := N) (ref := C0) C.1.1 C.1.2.1 C.2.1 h6 C.1.2.2.2.2 C.2.2.2.1 hP a (wl_get hs) h1 j h3 (C.2.1 _ h4) (fun x hx => by rw [h5] at hx; exact hx) (fval_at (h2 ▸ h3)) hd ?_
  have ee : fval adr me a ci j = .null := by simp [fval, h0, hr, va_rf]
  rw [ee]
  exact k l p e R s m args below meth c D cA adr0 A Z C adr H locs ls he hP hD hS hL
/-- a field that isn't final -/
def FNf (ci j : Nat) : Prop := ∀ (C : String) (T : u_T) (N : Nat), vwCl[ci]? = some (C, T, N) → (T j).2.2.2 = false
theorem wl_puti {idx ci j a : Nat} {x : Int32} (hd : decode M.2.1 pc = .ok (.putfield idx, 3)) (hn : pc + 3 = np) (hf : FLk M.1.cls idx ci j) (hnf : FNf ci j) (h0 : fk ci j = 0) (hs : sh[a]? = some (.inl ci)) (k : Wa M sx d mc ms n0 Q np L st sh (uI me a j x) cs sl) : Wa M sx d mc ms n0 Q pc L (.int x :: .ref a :: st) sh me cs sl := by
  subst hn
  intro l p e R s m args below meth c D cA adr0 A Z C adr H locs ls he hP hD hS hL
  obtain ⟨C0, T, N, ty, h1, h2, h3, h4, h5, h6, h7, h8, h9⟩ := hf
  have hty : ty j = .int := by
    rcases h9 with h | h | h
    · exact h.2
    · rw [h0] at h; cases h.1
    · rw [h0] at h; cases h.1
  refine va_put (C := C0) (T := T) (N := N) (ref := C0) (ty := .int) C.1.1 C.1.2.1 C.2.1 h6 ty h7 h8 C.1.2.2.2.2 C.2.2.2.1 hP hD hS a (wl_get hs) h1 j h3 (C.2.1 _ h4) (fun x hx => by rw [h5] at hx; exact hx) (v := .int x) (hnf _ _ _ h1) (by rw [h7 j h3, hty]) rfl rfl (by simpa using (h2 ▸ h3)) hd (fun H1 locs1 hP1 hD1 hS1 => ?_)
  have ew := wl_setI (cA := cA) (adr := adr) (me := me) (x := x) (j := j) hs (by rw [h0]; decide)
  rw [ew] at hP1 hD1
  exact k l p e R s m args below meth c D cA adr0 A Z C adr H1 locs1 ls he hP1 hD1 hS1 hL
theorem wl_putz {idx ci j a : Nat} {x : Int32} (hd : decode M.2.1 pc = .ok (.putfield idx, 3)) (hn : pc + 3 = np) (hf : FLk M.1.cls idx ci j) (hnf : FNf ci j) (h0 : fk ci j = 2) (hz : narrow .boolean (.int x) = .int x ∧ fits .boolean (.int x) = true) (hs : sh[a]? = some (.inl ci)) (k : Wa M sx d mc ms n0 Q np L st sh (uI me a j x) cs sl) : Wa M sx d mc ms n0 Q pc L (.int x :: .ref a :: st) sh me cs sl := by
  subst hn
  intro l p e R s m args below meth c D cA adr0 A Z C adr H locs ls he hP hD hS hL
  obtain ⟨C0, T, N, ty, h1, h2, h3, h4, h5, h6, h7, h8, h9⟩ := hf
  have hty : ty j = .boolean := by
    rcases h9 with h | h | h
    · rw [h0] at h; cases h.1
    · exact h.2
    · rw [h0] at h; cases h.1
  refine va_put (C := C0) (T := T) (N := N) (ref := C0) (ty := .boolean) C.1.1 C.1.2.1 C.2.1 h6 ty h7 h8 C.1.2.2.2.2 C.2.2.2.1 hP hD hS a (wl_get hs) h1 j h3 (C.2.1 _ h4) (fun x hx => by rw [h5] at hx; exact hx) (v := .int x) (hnf _ _ _ h1) (by rw [h7 j h3, hty]) hz.1 hz.2 (by simpa using (h2 ▸ h3)) hd (fun H1 locs1 hP1 hD1 hS1 => ?_)
  have ew := wl_setI (cA := cA) (adr := adr) (me := me) (x := x) (j := j) hs (by rw [h0]; decide)
  rw [ew] at hP1 hD1
  exact k l p e R s m args below meth c D cA adr0 A Z C adr H1 locs1 ls he hP1 hD1 hS1 hL
theorem wl_putr {idx ci j a b : Nat} (hd : decode M.2.1 pc = .ok (.putfield idx, 3)) (hn : pc + 3 = np) (hf : FLk M.1.cls idx ci j) (hnf : FNf ci j) (h0 : fk ci j = 1) (hs : sh[a]? = some (.inl ci)) (k : Wa M sx d mc ms n0 Q np L st sh (uR me a j (some b)) cs sl) : Wa M sx d mc ms n0 Q pc L (.ref b :: .ref a :: st) sh me cs sl := by
  subst hn
  intro l p e R s m args below meth c D cA adr0 A Z C adr H locs ls he hP hD hS hL
  obtain ⟨C0, T, N, ty, h1, h2, h3, h4, h5, h6, h7, h8, h9⟩ := hf
  have hty : refKind (ty j) = true := by
    rcases h9 with h | h | h
    · rw [h0] at h; cases h.1
    · rw [h0] at h; cases h.1
    · exact h.2
  refine va_put (C := C0) (T := T) (N := N) (ref := C0) (ty := ty j) (v := .ref (adr b)) C.1.1 C.1.2.1 C.2.1 h6 ty h7 h8 C.1.2.2.2.2 C.2.2.2.1 hP hD hS a (wl_get hs) h1 j h3 (C.2.1 _ h4) (fun x hx => by rw [h5] at hx; exact hx) (hnf _ _ _ h1) (h7 j h3) (by cases hq : ty j <;> rw [hq] at hty <;> first | rfl | cases hty) (by cases hq : ty j <;> rw [hq] at hty <;> first | rfl | cases hty) (by simpa using (h2 ▸ h3)) hd (fun H1 locs1 hP1 hD1 hS1 => ?_)
  have ew := wl_setR (cA := cA) (adr := adr) (me := me) (r := some b) (j := j) hs h0
  rw [show va_rf ((some b).map adr) = Value.ref (adr b) from rfl] at ew
  rw [ew] at hP1 hD1
  exact k l p e R s m args below meth c D cA adr0 A Z C adr H1 locs1 ls he hP1 hD1 hS1 hL
end RULES
end
section
/-! ===== calls ===== -/
def CallsG (d mc ms : Nat) (M : MR) (sh : List Shp) (vs : List Value) (me : Mem) (Q : Post) : Prop :=
  ∀ (l : Launch) (D : va_G) (cA : Nat → ClassId) (adr : Nat → Nat) (sz : Nat),
    Met l M.1 (wsM M) (rmD d mc ms)
      (va_Pc (vs.map (cv adr)) (fun U => U.heap.size = sz ∧ va_P D vwCl (wl sh cA adr me) U.heap ∧ va_K D vwCl (tysC cA) U ∧ va_D (fun _ => True) (wl sh cA adr me) ∧ Nst U))
      (fun _ st oc t => (∃ (r : Option Value) (sh' : List Shp) (me' : Mem) (adr' : Nat → Nat), oc = .returned r ∧ Q r sh' me' ∧ ext sh.length sh'.length adr adr' ∧ va_P D vwCl (wl sh' cA adr' me') t.heap ∧ va_D (va_A (wl sh cA adr me) sz) (wl sh' cA adr' me')) ∧ va_F (va_A (wl sh cA adr me) sz) st t)
      mc ms (va_A (wl sh cA adr me) sz)
/-- a contract of a method that makes nothing: it answers an int; nothing -/
def PI (sh : List Shp) (Qi : Int32 → Mem → Prop) : Post := fun r s m => ∃ x, r = some (.int x) ∧ s = sh ∧ Qi x m
def PV (sh : List Shp) (Qv : Mem → Prop) : Post := fun r s m => r = none ∧ s = sh ∧ Qv m
def CI (d : Nat) (M : MR) (sh : List Shp) (vs : List Value) (me : Mem) (Qi : Int32 → Mem → Prop) : Prop := CallsG d 0 0 M sh vs me (PI sh Qi)
def CV (d : Nat) (M : MR) (sh : List Shp) (vs : List Value) (me : Mem) (Qv : Mem → Prop) : Prop := CallsG d 0 0 M sh vs me (PV sh Qv)
def eL : List Value → List Value
  | [] => []
  | v :: vs => if v.category = 2 then v :: .float 0 :: eL vs else v :: eL vs
def entryL (n : Nat) (vs : List Value) : List Value := eL vs ++ List.replicate (n - (eL vs).length) (.float 0)
theorem eL_args (adr : Nat → Nat) (vs : List Value) : ∀ (o i : Nat) (v : Value), (eL vs)[i]? = some v → v ≠ .float 0 → (o + i, cv adr v) ∈ lv_args o (vs.map (cv adr)) := by
  induction vs with
  | nil => intro o i v h; simp [eL] at h
  | cons u vs ih =>
    intro o i v h hne
    simp only [List.map_cons, lv_args, cv_cat]
    by_cases hc : u.category = 2
    · simp only [eL, hc, if_true] at h ⊢
      match i, h with
      | 0, h => cases (Option.some.inj h); exact List.mem_cons_self
      | 1, h => exact absurd (Option.some.inj h).symm hne
      | i + 2, h =>
        refine List.mem_cons_of_mem _ ?_
        have := ih (o + 2) i v h hne
        rwa [show o + 2 + i = o + (i + 2) by omega] at this
    · simp only [eL, hc, if_false] at h ⊢
      match i, h with
      | 0, h => cases (Option.some.inj h); exact List.mem_cons_self
      | i + 1, h =>
        refine List.mem_cons_of_mem _ ?_
        have := ih (o + 1) i v h hne
        rwa [show o + 1 + i = o + (i + 1) by omega] at this
theorem Lr.entry {adr : Nat → Nat} {n : Nat} {vs : List Value} (h : (lg_sl (vs.map (cv adr))).length ≤ n) : Lr adr (entryL n vs) ((lg_sl (vs.map (cv adr)) ++ List.replicate (n - (lg_sl (vs.map (cv adr))).length) Slot.unset).toArray) n := by
  have hl := lv_entry (vs.map (cv adr)) h
  refine ⟨hl.1, hl.2.1, fun i v hv hne => ?_⟩
  unfold entryL at hv
  by_cases hi : i < (eL vs).length
  · rw [List.getElem?_append_left hi] at hv
    have := eL_args adr vs 0 i v hv hne
    rw [Nat.zero_add] at this
    exact hl.2.2 (i, cv adr v) this
  · rw [List.getElem?_append_right (by omega)] at hv
    have := List.mem_of_getElem? hv
    exact absurd (List.eq_of_mem_replicate this) hne
theorem lg_len (adr : Nat → Nat) (vs : List Value) : (lg_sl (vs.map (cv adr))).length = (eL vs).length := by
  induction vs with
  | nil => rfl
  | cons v vs ih =>
    simp only [lg_sl, List.map_cons, List.flatMap_cons, List.length_append, cv_cat] at ih ⊢
    by_cases hc : v.category = 2
    · simp [eL, hc, ih]; omega
    · simp [eL, hc, ih]; omega
/-- a contract out of its body's walk -/
theorem CallsG.mk {d mc ms : Nat} {M : MR} {sh : List Shp} {vs : List Value} {me : Mem} {Q : Post} {L : List Value} (hp : plainName M.1.cls = true) (hlen : (eL vs).length ≤ M.2.2.1) (hL : entryL M.2.2.1 vs = L)
    (k : Wa M (0, fun _ => 0) d mc ms sh.length Q 0 L [] sh me 0 0) : CallsG d mc ms M sh vs me Q := by
  intro l D cA adr sz
  refine Met.ofW (cc := M.2.1) (maxL := M.2.2.1) (ret := M.2.2.2) hp rfl ?_
  intro p e s m args below meth c s₁ B hml hv
  obtain ⟨rfl, hsz, hP, hK, hD0, hN⟩ := hv
  subst hsz
  have hts := atoms_spec (ws := wsM M) B.pre
  have hD := hD0.self (sz := s.heap.size)
  have hlocks := B.notSynchronized
  rw [lg_entry_eq]
  refine k l p e (rmD d mc ms) s m _ below meth c D cA adr (va_A (wl sh cA adr me) s.heap.size) _ ⟨⟨B.exec, B.bytes, hml, (name_of_methodNamed B.named B.method).1, findClass_of_methodNamed B.named⟩, fun w hw => hts w (List.mem_cons_of_mem _ hw), hN, hK, fun q h => Or.inr h, ⟨Nat.le_refl _, Nat.le_refl _, Nat.le_refl _, Nat.le_refl _⟩, Or.inl rfl, ?_⟩ adr s.heap [] _ (fun _ _ => rfl) hP hD va_S.rf (hL ▸ Lr.entry (by rw [lg_len]; exact hlen))
  intro v sh1 me1 adr1 H1 locs1 ls1 pc hq hr hext hP1 hD1 hS1
  match v, hr, hq with
  | none, hr, hq => exact W.vret B.exec B.bytes (B.returns.trans hr.2) (fun t ht hw => ⟨⟨none, sh1, me1, adr1, rfl, hq, hext, by rw [ht]; exact hP1, hD1⟩, hS1.F ht⟩) hS1.2.2 hr.1 hlocks
  | some (.int x), hr, hq =>
    obtain ⟨h1, ty, h2, h3⟩ := hr
    exact W.zret B.exec B.bytes (B.returns.trans h2) h3 (fun t ht hw => ⟨⟨some (.int x), sh1, me1, adr1, rfl, hq, hext, by rw [ht]; exact hP1, hD1⟩, hS1.F ht⟩) hS1.2.2 h1 hlocks
theorem CI.mk {d : Nat} {M : MR} {sh : List Shp} {vs : List Value} {me : Mem} {Qi : Int32 → Mem → Prop} {L : List Value} (hp : plainName M.1.cls = true) (hlen : (eL vs).length ≤ M.2.2.1) (hL : entryL M.2.2.1 vs = L)
    (k : Wa M (0, fun _ => 0) d 0 0 sh.length (PI sh Qi) 0 L [] sh me 0 0) : CI d M sh vs me Qi := CallsG.mk hp hlen hL k
theorem CV.mk {d : Nat} {M : MR} {sh : List Shp} {vs : List Value} {me : Mem} {Qv : Mem → Prop} {L : List Value} (hp : plainName M.1.cls = true) (hlen : (eL vs).length ≤ M.2.2.1) (hL : entryL M.2.2.1 vs = L)
    (k : Wa M (0, fun _ => 0) d 0 0 sh.length (PV sh Qv) 0 L [] sh me 0 0) : CV d M sh vs me Qv := CallsG.mk hp hlen hL k
theorem Wa.mono {M : MR} {sx : Scr} {d mc ms n0 : Nat} {Q Q' : Post} {pc : Nat} {L st : List Value} {sh : List Shp} {me : Mem} {cs sl : Nat} (h : Wa M sx d mc ms n0 Q pc L st sh me cs sl) (hq : ∀ r s m, Q r s m → Q' r s m) : Wa M sx d mc ms n0 Q' pc L st sh me cs sl := by
  intro l p e R s m args below meth c D cA adr0 A Z C
  exact h l p e R s m args below meth c D cA adr0 A Z ⟨C.1, C.2.1, C.2.2.1, C.2.2.2.1, C.2.2.2.2.1, C.2.2.2.2.2.1, C.2.2.2.2.2.2.1, fun v sh me adr H locs ls pc hv => C.2.2.2.2.2.2.2 v sh me adr H locs ls pc (hq _ _ _ hv)⟩
/-! what a call's link needs -/
def MOk (M : MR) (n : Nat) : Prop := Cond.code M.1 M.2.1 M.2.2.1 M.2.2.2 ∈ WS ∧ (M.1.cls ≠ "java/lang/invoke/MethodHandle" ∧ M.1.cls ≠ "java/lang/invoke/VarHandle" ∧ (parseMethodDescriptor M.1.desc).map (fun d => d.parameters.length) = some n) ∧ M.2.2.1 ≤ 29 ∧ Cond.initialized M.1.cls ∈ WS
def LkS (own : String) (idx : Nat) (M : MR) (n : Nat) : Prop := Cond.methodLink own idx M.1 ∈ WS ∧ Cond.static M.1 ∈ WS ∧ MOk M n
def LkV (own : String) (idx : Nat) (M : MR) (n ci : Nat) : Prop := Cond.methodLink own idx M.1 ∈ WS ∧ Cond.instanceMethod M.1 ∈ WS ∧ Cond.selects M.1.cls M.1 M.1 ∈ WS ∧ MOk M n ∧ (vwCl[ci]?).map (fun q => q.1) = some M.1.cls
def LkSN (own : String) (idx : Nat) (M : MR) (n : Nat) (host : String) : Prop := Cond.methodLinkNest own idx M.1 host ∈ lw_tbl ∧ Cond.static M.1 ∈ WS ∧ MOk M n
theorem goodWS {w : Cond} (h : w ∈ WS) : goodWord w = true := (List.mem_filter.mp h).2
theorem goodInWS {M : MR} {n : Nat} (h : MOk M n) : GoodIn WS (wsM M) := fun w hw => by
  rcases List.mem_cons.mp hw with rfl | hw
  · exact ⟨h.1, good_of_word (goodWS h.1)⟩
  · exact ⟨hw, good_of_word (goodWS hw)⟩
section CALLS
variable {M : MR} {sx : Scr} {d mc ms n0 : Nat} {Q : Post} {pc np tg : Nat} {L st stk : List Value} {sh : List Shp} {me : Mem} {cs sl : Nat}
theorem pc_blind {D : va_G} {cA : Nat → ClassId} {adr : Nat → Nat} {av : List Value} {sz : Nat} : FrameBlind (va_Pc av (fun U => U.heap.size = sz ∧ va_P D vwCl (wl sh cA adr me) U.heap ∧ va_K D vwCl (tysC cA) U ∧ va_D (fun _ => True) (wl sh cA adr me) ∧ Nst U)) := by
  intro a U g mk q
  obtain ⟨q0, q1, q2, q3, q4, q5⟩ := q
  exact ⟨q0, q1, q2, va_K.moved (u := U) (U := U.calling g mk a) (Vm.Alike.refl U.vm) q3, q4, Nst.same (s := U) (U := U.calling g mk a) rfl q5⟩
/-- behind a call that makes nothing -/
theorem wa_back {l : Launch} {p : Program} {e : Env} {R : Room} {s : State} {m : MethodId} {args : Array Value} {below : List Frame} {meth : Method} {c : Code} {D : va_G} {cA : Nat → ClassId} {adr0 : Nat → Nat} {A : Nat → Prop} {Z : State → Prop} (C : Cx M sx d mc ms n0 Q l p e R s m args below meth c D cA adr0 A Z)
    {adr : Nat → Nat} {H : Heap} {locs : List Loc} {ls : Array Slot} (he : ext n0 sh.length adr0 adr) (hD : va_D A (wl sh cA adr me)) (hS : va_S A s.heap H locs) (hL : Lr adr L ls M.2.2.1) {Q' : Post} {aa : Array Value} {sk : List Value}
    (hr : va_Run p l e R s m args below meth c H locs cs sl 0 0 (F0 m pc ls sk) (st.map (cv adr)) ((fun _ st oc t => (∃ (r : Option Value) (sh' : List Shp) (me' : Mem) (adr' : Nat → Nat), oc = .returned r ∧ Q' r sh' me' ∧ ext sh.length sh'.length adr adr' ∧ va_P D vwCl (wl sh' cA adr' me') t.heap ∧ va_D (va_A (wl sh cA adr me) H.size) (wl sh' cA adr' me')) ∧ va_F (va_A (wl sh cA adr me) H.size) st t) aa) (va_A (wl sh cA adr me) H.size))
    (hq1 : ∀ r s m, Q' r s m → s = sh ∧ ∀ f : Nat → Nat, r.toList.map (cv f) = r.toList)
    (k : ∀ r m1, Q' r sh m1 → Wa M sx d mc ms n0 Q (pc + 3) L (r.toList ++ st) sh m1 cs sl) : W p l e R s m args below meth c H locs cs sl Z (F0 m pc ls sk) := by
  intro T hT X
  obtain ⟨v, st₀, t, T', L', h0, X', hL', e1, e2, ⟨⟨r, sh', me1, adr', hv, hqq, hext, hP1, hD1⟩, hz, hk⟩, stp⟩ := hr T hT X
  cases hv
  obtain ⟨hsh, hrr⟩ := hq1 _ _ _ hqq
  rw [hsh] at hext hP1 hD1 hqq
  have ea : adr' = adr := funext fun k => hext k (by omega)
  subst ea
  rw [h0] at hz hk
  have hfree : ∀ q, va_A (wl sh cA adr' me) H.size q → A q := by
    intro q hq
    rcases hq with ⟨i, ee, hi⟩ | hq
    · exact hD.2 i _ hi
    · exact C.2.2.2.2.1 q (Nat.le_trans hS.1 hq)
  have hS1 : va_S A s.heap T'.heap (locs ++ L') := ⟨Nat.le_trans hS.1 (by rw [e1]; exact hz), fun q h1 h2 => by
      rw [e1, hk q (Nat.lt_of_lt_of_le h1 hS.1) (fun z => h2 (hfree q z))]; exact hS.2.1 q h1 h2, fun q hq => by
      rcases List.mem_append.mp hq with h | h
      · exact hS.2.2 q h
      · exact hfree _ (hL' q h)⟩
  have kk := k v me1 hqq l p e R s m args below meth c D cA adr0 A Z C adr' T'.heap (locs ++ L') ls he (by rw [e1]; exact hP1) (hD1.weaken (fun i q _ h => hfree _ h)) hS1 hL
  rw [List.map_append, hrr] at kk
  obtain ⟨t2, a1, b1⟩ := kk T' rfl X'
  exact ⟨t2, stp t2 a1, b1⟩
theorem st_room {adr : Nat → Nat} {m : MethodId} {ls : Array Slot} {sk : List Value} (h : (st.map (fun v => v.category)).sum ≤ 8) : 2 * (F0 m pc ls sk).monitorRoom + ((st.map (cv adr)).map fun v => v.category).sum ≤ 8 := by
  rw [List.map_map]
  have ee : ((fun v : Value => v.category) ∘ cv adr) = (fun v => v.category) := funext (cv_cat adr)
  rw [ee]
  have e0 : (F0 m pc ls sk).monitorRoom = 0 := rfl
  omega
theorem wa_callS {idx n d' : Nat} {M' : MR} {vs : List Value} {Q' : Post} (hd : decode M.2.1 pc = .ok (.invokestatic idx, 3)) (hn : pc + 3 = np) (hl : LkS M.1.cls idx M' n) (hv : vs.length = n) (hst : stk = vs.reverse ++ st) (hroom : (st.map (fun v => v.category)).sum ≤ 8) (hdd : d' + 1 ≤ d) (hcs : cs ≤ mc) (hsl : sl ≤ ms) (hq1 : ∀ r s m, Q' r s m → s = sh ∧ ∀ f : Nat → Nat, r.toList.map (cv f) = r.toList)
    (hc : CallsG d' 0 0 M' sh vs me Q') (k : ∀ r m1, Q' r sh m1 → Wa M sx d mc ms n0 Q np L (r.toList ++ st) sh m1 cs sl) : Wa M sx d mc ms n0 Q pc L stk sh me cs sl := by
  subst hn; subst hst
  intro l p e R s m args below meth c D cA adr0 A Z C adr H locs ls he hP hD hS hL
  obtain ⟨h1, h2, h3⟩ := hl
  refine wa_back (aa := (vs.map (cv adr)).toArray) C he hD hS hL ?_ hq1 k
  have hR := C.2.2.2.2.2.1
  exact va_runS (As := vs.map (cv adr)) (Ts := WS) (bytes := M'.2.1) (maxL := M'.2.2.1) (ret := M'.2.2.2) (ws := wsM M') (rm := rmD d' 0 0) ⟨C.1.1, C.1.2.1, C.1.2.2.1, C.1.2.2.2.2, C.2.1⟩ (hc l D cA adr H.size) ⟨callB_of n C.2.1 (goodInWS h3) rfl rfl rfl (C.2.1 _ h3.2.2.2) (C.2.1 _ h1) h3.2.1 ⟨by show d' + 1 ≤ R.frames; omega, by show 8 + (M'.2.2.1 + 11) + 48 * d' ≤ R.locals; have := h3.2.2.1; omega⟩, C.2.1 _ h2⟩
    ⟨pc_blind, fun U hU hW => ⟨rfl, by rw [hU], by rw [hU]; exact hP, va_K.moved hW.alike C.2.2.2.1, hD.weaken (fun _ _ _ _ => trivial), Nst.warm hW C.2.2.1⟩⟩ rfl (by rw [List.length_map]; exact hv) hL.1 (by show List.map (cv adr) (vs.reverse ++ st) = _; rw [List.map_append, List.map_reverse]) (st_room hroom) hd ⟨by omega, by omega⟩
theorem wa_callSN {idx n d' : Nat} {host : String} {M' : MR} {vs : List Value} {Q' : Post} (hd : decode M.2.1 pc = .ok (.invokestatic idx, 3)) (hn : pc + 3 = np) (hl : LkSN M.1.cls idx M' n host) (hv : vs.length = n) (hst : stk = vs.reverse ++ st) (hroom : (st.map (fun v => v.category)).sum ≤ 8) (hdd : d' + 1 ≤ d) (hcs : cs ≤ mc) (hsl : sl ≤ ms) (hq1 : ∀ r s m, Q' r s m → s = sh ∧ ∀ f : Nat → Nat, r.toList.map (cv f) = r.toList)
    (hc : CallsG d' 0 0 M' sh vs me Q') (k : ∀ r m1, Q' r sh m1 → Wa M sx d mc ms n0 Q np L (r.toList ++ st) sh m1 cs sl) : Wa M sx d mc ms n0 Q pc L stk sh me cs sl := by
  subst hn; subst hst
  intro l p e R s m args below meth c D cA adr0 A Z C adr H locs ls he hP hD hS hL
  obtain ⟨h1, h2, h3⟩ := hl
  refine wa_back (aa := (vs.map (cv adr)).toArray) C he hD hS hL ?_ hq1 k
  have hR := C.2.2.2.2.2.1
  exact va_runSN (As := vs.map (cv adr)) (Ts := WS) (bytes := M'.2.1) (maxL := M'.2.2.1) (ret := M'.2.2.2) (ws := wsM M') (rm := rmD d' 0 0) ⟨C.1.1, C.1.2.1, C.1.2.2.1, C.1.2.2.2.2, C.2.1⟩ (hc l D cA adr H.size) ⟨va_cnB n C.2.1 (goodInWS h3) rfl rfl rfl (C.2.2.1 _ h1 rfl) (C.2.1 _ h3.2.2.2) h3.2.1 ⟨by show d' + 1 ≤ R.frames; omega, by show 8 + (M'.2.2.1 + 11) + 48 * d' ≤ R.locals; have := h3.2.2.1; omega⟩, C.2.1 _ h2, trivial⟩
    ⟨pc_blind, fun U hU hW => ⟨rfl, by rw [hU], by rw [hU]; exact hP, va_K.moved hW.alike C.2.2.2.1, hD.weaken (fun _ _ _ _ => trivial), Nst.warm hW C.2.2.1⟩⟩ rfl (by rw [List.length_map]; exact hv) hL.1 (by show List.map (cv adr) (vs.reverse ++ st) = _; rw [List.map_append, List.map_reverse]) (st_room hroom) hd ⟨by omega, by omega⟩
theorem wa_callV {idx n d' ci b : Nat} {M' : MR} {vs : List Value} {Q' : Post} (hd : decode M.2.1 pc = .ok (.invokevirtual idx, 3)) (hn : pc + 3 = np) (hl : LkV M.1.cls idx M' n ci) (hs : sh[b]? = some (.inl ci)) (hv : vs.length = n) (hst : stk = vs.reverse ++ .ref b :: st) (hroom : (st.map (fun v => v.category)).sum ≤ 8) (hdd : d' + 1 ≤ d) (hcs : cs ≤ mc) (hsl : sl ≤ ms) (hq1 : ∀ r s m, Q' r s m → s = sh ∧ ∀ f : Nat → Nat, r.toList.map (cv f) = r.toList)
    (hc : CallsG d' 0 0 M' sh (.ref b :: vs) me Q') (k : ∀ r m1, Q' r sh m1 → Wa M sx d mc ms n0 Q np L (r.toList ++ st) sh m1 cs sl) : Wa M sx d mc ms n0 Q pc L stk sh me cs sl := by
  subst hn; subst hst
  intro l p e R s m args below meth c D cA adr0 A Z C adr H locs ls he hP hD hS hL
  obtain ⟨h1, h2, h4, h3, h5⟩ := hl
  refine wa_back (aa := (Value.ref (adr b) :: vs.map (cv adr)).toArray) C he hD hS hL ?_ hq1 k
  have hR := C.2.2.2.2.2.1
  cases hq : vwCl[ci]? with
  | none => rw [hq] at h5; cases h5
  | some q =>
    rw [hq] at h5
    have h6 : q.1 = M'.1.cls := Option.some.inj h5
    exact va_runV (C := M'.1.cls) (b := adr b) (As := vs.map (cv adr)) (Ts := WS) (bytes := M'.2.1) (maxL := M'.2.2.1) (ret := M'.2.2.2) (ws := wsM M') (rm := rmD d' 0 0) ⟨C.1.1, C.1.2.1, C.1.2.2.1, C.1.2.2.2.2, C.2.1⟩ (hc l D cA adr H.size) ⟨callB_of n C.2.1 (goodInWS h3) rfl rfl rfl (C.2.1 _ h3.2.2.2) (C.2.1 _ h1) h3.2.1 ⟨by show d' + 1 ≤ R.frames; omega, by show 8 + (M'.2.2.1 + 11) + 48 * d' ≤ R.locals; have := h3.2.2.1; omega⟩, C.2.1 _ h2, C.2.1 _ h4⟩
      ⟨pc_blind, by rw [← h6]; exact va_recv C.2.2.2.1 hP hq (wl_get hs), fun U hU hW => ⟨rfl, by rw [hU], by rw [hU]; exact hP, va_K.moved hW.alike C.2.2.2.1, hD.weaken (fun _ _ _ _ => trivial), Nst.warm hW C.2.2.1⟩⟩ rfl (by rw [List.length_map]; exact hv) hL.1 (by show List.map (cv adr) (vs.reverse ++ Value.ref b :: st) = _; rw [List.map_append, List.map_reverse]; rfl) (st_room hroom) hd ⟨by omega, by omega⟩
/-! the library's own: Math.min, Math.max, System.arraycopy of ints -/
def LkMin (own : String) (idx : Nat) : Prop := Cond.methodLink own idx Lib.Math.min.name ∈ WS ∧ Cond.static Lib.Math.min.name ∈ WS ∧ Cond.initialized "java/lang/Math" ∈ WS ∧ Cond.code Lib.Math.min.name Lib.Math.min.code 2 (some .int) ∈ WS
def LkMax (own : String) (idx : Nat) : Prop := Cond.methodLink own idx Lib.Math.max.name ∈ WS ∧ Cond.static Lib.Math.max.name ∈ WS ∧ Cond.initialized "java/lang/Math" ∈ WS ∧ Cond.code Lib.Math.max.name Lib.Math.max.code 2 (some .int) ∈ WS
def LkCpy (own : String) (idx : Nat) : Prop := Cond.methodLink own idx arraycopyName ∈ WS ∧ Cond.native arraycopyName ∈ WS ∧ Cond.static arraycopyName ∈ WS ∧ Cond.initialized "java/lang/System" ∈ WS
theorem cat_sum {adr : Nat → Nat} (st : List Value) : ((st.map (cv adr)).map fun v => v.category).sum = (st.map (fun v => v.category)).sum := by
  rw [List.map_map]
  have ee : ((fun v : Value => v.category) ∘ cv adr) = (fun v => v.category) := funext (cv_cat adr)
  rw [ee]
theorem wl_min {idx : Nat} {x y : Int32} (hd : decode M.2.1 pc = .ok (.invokestatic idx, 3)) (hn : pc + 3 = np) (hl : LkMin M.1.cls idx) (hroom : (st.map (fun v => v.category)).sum ≤ 8) (hdd : 1 ≤ d) (hcs : cs ≤ mc) (hsl : sl ≤ ms) (k : Wa M sx d mc ms n0 Q np L (.int (if y < x then y else x) :: st) sh me cs sl) : Wa M sx d mc ms n0 Q pc L (.int y :: .int x :: st) sh me cs sl := by
  subst hn
  intro l p e R s m args below meth c D cA adr0 A Z C adr H locs ls he hP hD hS hL
  obtain ⟨h1, h2, h3, h4⟩ := hl
  have hR := C.2.2.2.2.2.1
  exact va_mmin C.1.1 C.1.2.1 (C.1.2.2.1.trans hL.1.symm) C.1.2.2.2.2 (C.2.1 _ h1) (C.2.1 _ h2) (C.2.1 _ h3) (C.2.1 _ h4) (by omega) (by rw [cat_sum]; omega) (by omega) (by omega) hd (k l p e R s m args below meth c D cA adr0 A Z C adr H locs ls he hP hD hS hL)
theorem wl_max {idx : Nat} {x y : Int32} (hd : decode M.2.1 pc = .ok (.invokestatic idx, 3)) (hn : pc + 3 = np) (hl : LkMax M.1.cls idx) (hroom : (st.map (fun v => v.category)).sum ≤ 8) (hdd : 1 ≤ d) (hcs : cs ≤ mc) (hsl : sl ≤ ms) (k : Wa M sx d mc ms n0 Q np L (.int (if x < y then y else x) :: st) sh me cs sl) : Wa M sx d mc ms n0 Q pc L (.int y :: .int x :: st) sh me cs sl := by
  subst hn
  intro l p e R s m args below meth c D cA adr0 A Z C adr H locs ls he hP hD hS hL
  obtain ⟨h1, h2, h3, h4⟩ := hl
  have hR := C.2.2.2.2.2.1
  exact va_mmax C.1.1 C.1.2.1 (C.1.2.2.1.trans hL.1.symm) C.1.2.2.2.2 (C.2.1 _ h1) (C.2.1 _ h2) (C.2.1 _ h3) (C.2.1 _ h4) (by omega) (by rw [cat_sum]; omega) (by omega) (by omega) hd (k l p e R s m args below meth c D cA adr0 A Z C adr H locs ls he hP hD hS hL)
theorem wl_copy {idx a b na nb : Nat} {sp dp n : Int32} (hd : decode M.2.1 pc = .ok (.invokestatic idx, 3)) (hn : pc + 3 = np) (hl : LkCpy M.1.cls idx) (hroom : (st.map (fun v => v.category)).sum ≤ 8) (hdd : 2 ≤ d) (ha : sh[a]? = some (.inr (0, na))) (hb : sh[b]? = some (.inr (0, nb))) (h1 : ¬ sp < 0) (h2 : ¬ dp < 0) (h3 : ¬ n < 0) (h4 : sp.toNatClampNeg + n.toNatClampNeg ≤ na) (h5 : dp.toNatClampNeg + n.toNatClampNeg ≤ nb)
    (k : Wa M sx d mc ms n0 Q np L st sh (uA me b (va_cpy (gI me a) (gI me b) sp.toNatClampNeg dp.toNatClampNeg n.toNatClampNeg)) cs sl) : Wa M sx d mc ms n0 Q pc L (.int n :: .int dp :: .ref b :: .int sp :: .ref a :: st) sh me cs sl := by
  subst hn
  intro l p e R s m args below meth c D cA adr0 A Z C adr H locs ls he hP hD hS hL
  obtain ⟨g1, g2, g3, g4⟩ := hl
  have hR := C.2.2.2.2.2.1
  have hw : nativeFrameWords "java/lang/System" "arraycopy" 5 + 11 ≤ 80 := by decide
  refine va_copyi (ty := .int) C.1.1 C.1.2.1 (C.1.2.2.1.trans hL.1.symm) C.1.2.2.2.2 (C.2.1 _ g1) (C.2.1 _ g2) (C.2.1 _ g3) (C.2.1 _ g4) C.2.2.2.1 hP hD hS a b 0 0 (wl_get ha) (wl_get hb) rfl rfl rfl h1 h2 h3 h4 h5 (fun _ _ => rfl) (by omega) (by rw [cat_sum]; omega) hd (fun H1 locs1 hP1 hD1 hS1 => ?_)
  have ew := wl_setA (cA := cA) (adr := adr) (me := me) (f := va_cpy (gI me a) (gI me b) sp.toNatClampNeg dp.toNatClampNeg n.toNatClampNeg) hb
  rw [ew] at hP1 hD1
  exact k l p e R s m args below meth c D cA adr0 A Z C adr H1 locs1 ls he hP1 hD1 hS1 hL
end CALLS
section FAM
variable {M : MR} {sx : Scr} {d mc ms n0 : Nat} {Q : Post} {pc np tg : Nat} {L st : List Value} {sh : List Shp} {me : Mem} {cs sl : Nat}
theorem pi_ok {Qi : Int32 → Mem → Prop} : ∀ r s m, PI sh Qi r s m → s = sh ∧ ∀ f : Nat → Nat, r.toList.map (cv f) = r.toList := by
  rintro r s m ⟨x, rfl, rfl, -⟩
  exact ⟨rfl, fun _ => rfl⟩
theorem pv_ok {Qv : Mem → Prop} : ∀ r s m, PV sh Qv r s m → s = sh ∧ ∀ f : Nat → Nat, r.toList.map (cv f) = r.toList := by
  rintro r s m ⟨rfl, rfl, -⟩
  exact ⟨rfl, fun _ => rfl⟩
theorem wi_ret {Qi : Int32 → Mem → Prop} {x : Int32} {ty : FieldType} (hd : decode M.2.1 pc = .ok (.ireturn, 1)) (hr : M.2.2.2 = some ty) (hx : narrow ty (.int x) = .int x) (hc : cs ≤ mc) (hs : sl ≤ ms) (hq : Qi x me) : Wa M sx d mc ms n0 (PI sh Qi) pc L [.int x] sh me cs sl := wl_iret hd hr hx hc hs ⟨x, rfl, rfl, hq⟩
theorem wv_ret {Qv : Mem → Prop} (hd : decode M.2.1 pc = .ok (.return_, 1)) (hr : M.2.2.2 = none) (hc : cs ≤ mc) (hs : sl ≤ ms) (hq : Qv me) : Wa M sx d mc ms n0 (PV sh Qv) pc L [] sh me cs sl := wl_ret hd hr hc hs ⟨rfl, rfl, hq⟩
theorem ld_i0 {x : Int32} (hd : decode M.2.1 pc = .ok (.iload_n 0, 1)) (hn : pc + 1 = np) (k : Wa M sx d mc ms n0 Q np (.int x :: L) (.int x :: st) sh me cs sl) : Wa M sx d mc ms n0 Q pc (.int x :: L) st sh me cs sl := wl_iload_n (i := 0) hd hn rfl rfl k
theorem st_i0 {x : Int32} {v : Value} (hd : decode M.2.1 pc = .ok (.istore_n 0, 1)) (hn : pc + 1 = np) (hi : 0 < M.2.2.1) (k : Wa M sx d mc ms n0 Q np (.int x :: L) st sh me cs sl) : Wa M sx d mc ms n0 Q pc (v :: L) (.int x :: st) sh me cs sl := wl_istore_n (i := 0) hd hn rfl hi (fun w0 h0 => absurd h0 (Nat.lt_irrefl 0)) k
theorem ld_a0 {x : Nat} (hd : decode M.2.1 pc = .ok (.aload_n 0, 1)) (hn : pc + 1 = np) (k : Wa M sx d mc ms n0 Q np (.ref x :: L) (.ref x :: st) sh me cs sl) : Wa M sx d mc ms n0 Q pc (.ref x :: L) st sh me cs sl := wl_aload_n (i := 0) hd hn rfl rfl k
theorem st_a0 {x : Nat} {v : Value} (hd : decode M.2.1 pc = .ok (.astore_n 0, 1)) (hn : pc + 1 = np) (hi : 0 < M.2.2.1) (k : Wa M sx d mc ms n0 Q np (.ref x :: L) st sh me cs sl) : Wa M sx d mc ms n0 Q pc (v :: L) (.ref x :: st) sh me cs sl := wl_astore_n (i := 0) hd hn rfl hi (fun w0 h0 => absurd h0 (Nat.lt_irrefl 0)) k
theorem ld_l0 {x : Int64} (hd : decode M.2.1 pc = .ok (.lload_n 0, 1)) (hn : pc + 1 = np) (k : Wa M sx d mc ms n0 Q np (.long x :: L) (.long x :: st) sh me cs sl) : Wa M sx d mc ms n0 Q pc (.long x :: L) st sh me cs sl := wl_lload_n (i := 0) hd hn rfl rfl k
theorem inc_0 {n : Int} {x v : Int32} (hd : decode M.2.1 pc = .ok (.iinc 0 n, 3)) (hn : pc + 3 = np) (hv : x + Int32.ofInt n = v) (hi : 0 < M.2.2.1) (k : Wa M sx d mc ms n0 Q np (.int v :: L) st sh me cs sl) : Wa M sx d mc ms n0 Q pc (.int x :: L) st sh me cs sl := wl_iinc (i := 0) hd hn rfl hv hi (fun w0 h0 => absurd h0 (Nat.lt_irrefl 0)) k
theorem ld_i1 {a0 : Value} {x : Int32} (hd : decode M.2.1 pc = .ok (.iload_n 1, 1)) (hn : pc + 1 = np) (k : Wa M sx d mc ms n0 Q np (a0 :: .int x :: L) (.int x :: st) sh me cs sl) : Wa M sx d mc ms n0 Q pc (a0 :: .int x :: L) st sh me cs sl := wl_iload_n (i := 1) hd hn rfl rfl k
theorem st_i1 {a0 : Value} {x : Int32} {v : Value} (hd : decode M.2.1 pc = .ok (.istore_n 1, 1)) (hn : pc + 1 = np) (hi : 1 < M.2.2.1) (hp : a0.category = 1) (k : Wa M sx d mc ms n0 Q np (a0 :: .int x :: L) st sh me cs sl) : Wa M sx d mc ms n0 Q pc (a0 :: v :: L) (.int x :: st) sh me cs sl := wl_istore_n (i := 1) hd hn rfl hi (fun w0 h0 hw => by cases (Option.some.inj hw); exact hp) k
theorem ld_a1 {a0 : Value} {x : Nat} (hd : decode M.2.1 pc = .ok (.aload_n 1, 1)) (hn : pc + 1 = np) (k : Wa M sx d mc ms n0 Q np (a0 :: .ref x :: L) (.ref x :: st) sh me cs sl) : Wa M sx d mc ms n0 Q pc (a0 :: .ref x :: L) st sh me cs sl := wl_aload_n (i := 1) hd hn rfl rfl k
theorem st_a1 {a0 : Value} {x : Nat} {v : Value} (hd : decode M.2.1 pc = .ok (.astore_n 1, 1)) (hn : pc + 1 = np) (hi : 1 < M.2.2.1) (hp : a0.category = 1) (k : Wa M sx d mc ms n0 Q np (a0 :: .ref x :: L) st sh me cs sl) : Wa M sx d mc ms n0 Q pc (a0 :: v :: L) (.ref x :: st) sh me cs sl := wl_astore_n (i := 1) hd hn rfl hi (fun w0 h0 hw => by cases (Option.some.inj hw); exact hp) k
theorem ld_l1 {a0 : Value} {x : Int64} (hd : decode M.2.1 pc = .ok (.lload_n 1, 1)) (hn : pc + 1 = np) (k : Wa M sx d mc ms n0 Q np (a0 :: .long x :: L) (.long x :: st) sh me cs sl) : Wa M sx d mc ms n0 Q pc (a0 :: .long x :: L) st sh me cs sl := wl_lload_n (i := 1) hd hn rfl rfl k
theorem inc_1 {a0 : Value} {n : Int} {x v : Int32} (hd : decode M.2.1 pc = .ok (.iinc 1 n, 3)) (hn : pc + 3 = np) (hv : x + Int32.ofInt n = v) (hi : 1 < M.2.2.1) (hp : a0.category = 1) (k : Wa M sx d mc ms n0 Q np (a0 :: .int v :: L) st sh me cs sl) : Wa M sx d mc ms n0 Q pc (a0 :: .int x :: L) st sh me cs sl := wl_iinc (i := 1) hd hn rfl hv hi (fun w0 h0 hw => by cases (Option.some.inj hw); exact hp) k
theorem ld_i2 {a0 a1 : Value} {x : Int32} (hd : decode M.2.1 pc = .ok (.iload_n 2, 1)) (hn : pc + 1 = np) (k : Wa M sx d mc ms n0 Q np (a0 :: a1 :: .int x :: L) (.int x :: st) sh me cs sl) : Wa M sx d mc ms n0 Q pc (a0 :: a1 :: .int x :: L) st sh me cs sl := wl_iload_n (i := 2) hd hn rfl rfl k
theorem st_i2 {a0 a1 : Value} {x : Int32} {v : Value} (hd : decode M.2.1 pc = .ok (.istore_n 2, 1)) (hn : pc + 1 = np) (hi : 2 < M.2.2.1) (hp : a1.category = 1) (k : Wa M sx d mc ms n0 Q np (a0 :: a1 :: .int x :: L) st sh me cs sl) : Wa M sx d mc ms n0 Q pc (a0 :: a1 :: v :: L) (.int x :: st) sh me cs sl := wl_istore_n (i := 2) hd hn rfl hi (fun w0 h0 hw => by cases (Option.some.inj hw); exact hp) k
theorem ld_a2 {a0 a1 : Value} {x : Nat} (hd : decode M.2.1 pc = .ok (.aload_n 2, 1)) (hn : pc + 1 = np) (k : Wa M sx d mc ms n0 Q np (a0 :: a1 :: .ref x :: L) (.ref x :: st) sh me cs sl) : Wa M sx d mc ms n0 Q pc (a0 :: a1 :: .ref x :: L) st sh me cs sl := wl_aload_n (i := 2) hd hn rfl rfl k
theorem st_a2 {a0 a1 : Value} {x : Nat} {v : Value} (hd : decode M.2.1 pc = .ok (.astore_n 2, 1)) (hn : pc + 1 = np) (hi : 2 < M.2.2.1) (hp : a1.category = 1) (k : Wa M sx d mc ms n0 Q np (a0 :: a1 :: .ref x :: L) st sh me cs sl) : Wa M sx d mc ms n0 Q pc (a0 :: a1 :: v :: L) (.ref x :: st) sh me cs sl := wl_astore_n (i := 2) hd hn rfl hi (fun w0 h0 hw => by cases (Option.some.inj hw); exact hp) k
theorem ld_l2 {a0 a1 : Value} {x : Int64} (hd : decode M.2.1 pc = .ok (.lload_n 2, 1)) (hn : pc + 1 = np) (k : Wa M sx d mc ms n0 Q np (a0 :: a1 :: .long x :: L) (.long x :: st) sh me cs sl) : Wa M sx d mc ms n0 Q pc (a0 :: a1 :: .long x :: L) st sh me cs sl := wl_lload_n (i := 2) hd hn rfl rfl k
theorem inc_2 {a0 a1 : Value} {n : Int} {x v : Int32} (hd : decode M.2.1 pc = .ok (.iinc 2 n, 3)) (hn : pc + 3 = np) (hv : x + Int32.ofInt n = v) (hi : 2 < M.2.2.1) (hp : a1.category = 1) (k : Wa M sx d mc ms n0 Q np (a0 :: a1 :: .int v :: L) st sh me cs sl) : Wa M sx d mc ms n0 Q pc (a0 :: a1 :: .int x :: L) st sh me cs sl := wl_iinc (i := 2) hd hn rfl hv hi (fun w0 h0 hw => by cases (Option.some.inj hw); exact hp) k
theorem ld_i3 {a0 a1 a2 : Value} {x : Int32} (hd : decode M.2.1 pc = .ok (.iload_n 3, 1)) (hn : pc + 1 = np) (k : Wa M sx d mc ms n0 Q np (a0 :: a1 :: a2 :: .int x :: L) (.int x :: st) sh me cs sl) : Wa M sx d mc ms n0 Q pc (a0 :: a1 :: a2 :: .int x :: L) st sh me cs sl := wl_iload_n (i := 3) hd hn rfl rfl k
theorem st_i3 {a0 a1 a2 : Value} {x : Int32} {v : Value} (hd : decode M.2.1 pc = .ok (.istore_n 3, 1)) (hn : pc + 1 = np) (hi : 3 < M.2.2.1) (hp : a2.category = 1) (k : Wa M sx d mc ms n0 Q np (a0 :: a1 :: a2 :: .int x :: L) st sh me cs sl) : Wa M sx d mc ms n0 Q pc (a0 :: a1 :: a2 :: v :: L) (.int x :: st) sh me cs sl := wl_istore_n (i := 3) hd hn rfl hi (fun w0 h0 hw => by cases (Option.some.inj hw); exact hp) k
theorem ld_a3 {a0 a1 a2 : Value} {x : Nat} (hd : decode M.2.1 pc = .ok (.aload_n 3, 1)) (hn : pc + 1 = np) (k : Wa M sx d mc ms n0 Q np (a0 :: a1 :: a2 :: .ref x :: L) (.ref x :: st) sh me cs sl) : Wa M sx d mc ms n0 Q pc (a0 :: a1 :: a2 :: .ref x :: L) st sh me cs sl := wl_aload_n (i := 3) hd hn rfl rfl k
theorem st_a3 {a0 a1 a2 : Value} {x : Nat} {v : Value} (hd : decode M.2.1 pc = .ok (.astore_n 3, 1)) (hn : pc + 1 = np) (hi : 3 < M.2.2.1) (hp : a2.category = 1) (k : Wa M sx d mc ms n0 Q np (a0 :: a1 :: a2 :: .ref x :: L) st sh me cs sl) : Wa M sx d mc ms n0 Q pc (a0 :: a1 :: a2 :: v :: L) (.ref x :: st) sh me cs sl := wl_astore_n (i := 3) hd hn rfl hi (fun w0 h0 hw => by cases (Option.some.inj hw); exact hp) k
theorem ld_l3 {a0 a1 a2 : Value} {x : Int64} (hd : decode M.2.1 pc = .ok (.lload_n 3, 1)) (hn : pc + 1 = np) (k : Wa M sx d mc ms n0 Q np (a0 :: a1 :: a2 :: .long x :: L) (.long x :: st) sh me cs sl) : Wa M sx d mc ms n0 Q pc (a0 :: a1 :: a2 :: .long x :: L) st sh me cs sl := wl_lload_n (i := 3) hd hn rfl rfl k
theorem inc_3 {a0 a1 a2 : Value} {n : Int} {x v : Int32} (hd : decode M.2.1 pc = .ok (.iinc 3 n, 3)) (hn : pc + 3 = np) (hv : x + Int32.ofInt n = v) (hi : 3 < M.2.2.1) (hp : a2.category = 1) (k : Wa M sx d mc ms n0 Q np (a0 :: a1 :: a2 :: .int v :: L) st sh me cs sl) : Wa M sx d mc ms n0 Q pc (a0 :: a1 :: a2 :: .int x :: L) st sh me cs sl := wl_iinc (i := 3) hd hn rfl hv hi (fun w0 h0 hw => by cases (Option.some.inj hw); exact hp) k
theorem ld_i4 {a0 a1 a2 a3 : Value} {x : Int32} (hd : decode M.2.1 pc = .ok (.iload 4, 2)) (hn : pc + 2 = np) (k : Wa M sx d mc ms n0 Q np (a0 :: a1 :: a2 :: a3 :: .int x :: L) (.int x :: st) sh me cs sl) : Wa M sx d mc ms n0 Q pc (a0 :: a1 :: a2 :: a3 :: .int x :: L) st sh me cs sl := wl_iload (i := 4) hd hn rfl k
theorem st_i4 {a0 a1 a2 a3 : Value} {x : Int32} {v : Value} (hd : decode M.2.1 pc = .ok (.istore 4, 2)) (hn : pc + 2 = np) (hi : 4 < M.2.2.1) (hp : a3.category = 1) (k : Wa M sx d mc ms n0 Q np (a0 :: a1 :: a2 :: a3 :: .int x :: L) st sh me cs sl) : Wa M sx d mc ms n0 Q pc (a0 :: a1 :: a2 :: a3 :: v :: L) (.int x :: st) sh me cs sl := wl_istore (i := 4) hd hn hi (fun w0 h0 hw => by cases (Option.some.inj hw); exact hp) k
theorem ld_a4 {a0 a1 a2 a3 : Value} {x : Nat} (hd : decode M.2.1 pc = .ok (.aload 4, 2)) (hn : pc + 2 = np) (k : Wa M sx d mc ms n0 Q np (a0 :: a1 :: a2 :: a3 :: .ref x :: L) (.ref x :: st) sh me cs sl) : Wa M sx d mc ms n0 Q pc (a0 :: a1 :: a2 :: a3 :: .ref x :: L) st sh me cs sl := wl_aload (i := 4) hd hn rfl k
theorem st_a4 {a0 a1 a2 a3 : Value} {x : Nat} {v : Value} (hd : decode M.2.1 pc = .ok (.astore 4, 2)) (hn : pc + 2 = np) (hi : 4 < M.2.2.1) (hp : a3.category = 1) (k : Wa M sx d mc ms n0 Q np (a0 :: a1 :: a2 :: a3 :: .ref x :: L) st sh me cs sl) : Wa M sx d mc ms n0 Q pc (a0 :: a1 :: a2 :: a3 :: v :: L) (.ref x :: st) sh me cs sl := wl_astore (i := 4) hd hn hi (fun w0 h0 hw => by cases (Option.some.inj hw); exact hp) k
theorem ld_l4 {a0 a1 a2 a3 : Value} {x : Int64} (hd : decode M.2.1 pc = .ok (.lload 4, 2)) (hn : pc + 2 = np) (k : Wa M sx d mc ms n0 Q np (a0 :: a1 :: a2 :: a3 :: .long x :: L) (.long x :: st) sh me cs sl) : Wa M sx d mc ms n0 Q pc (a0 :: a1 :: a2 :: a3 :: .long x :: L) st sh me cs sl := wl_lload (i := 4) hd hn rfl k
theorem inc_4 {a0 a1 a2 a3 : Value} {n : Int} {x v : Int32} (hd : decode M.2.1 pc = .ok (.iinc 4 n, 3)) (hn : pc + 3 = np) (hv : x + Int32.ofInt n = v) (hi : 4 < M.2.2.1) (hp : a3.category = 1) (k : Wa M sx d mc ms n0 Q np (a0 :: a1 :: a2 :: a3 :: .int v :: L) st sh me cs sl) : Wa M sx d mc ms n0 Q pc (a0 :: a1 :: a2 :: a3 :: .int x :: L) st sh me cs sl := wl_iinc (i := 4) hd hn rfl hv hi (fun w0 h0 hw => by cases (Option.some.inj hw); exact hp) k
theorem ld_i5 {a0 a1 a2 a3 a4 : Value} {x : Int32} (hd : decode M.2.1 pc = .ok (.iload 5, 2)) (hn : pc + 2 = np) (k : Wa M sx d mc ms n0 Q np (a0 :: a1 :: a2 :: a3 :: a4 :: .int x :: L) (.int x :: st) sh me cs sl) : Wa M sx d mc ms n0 Q pc (a0 :: a1 :: a2 :: a3 :: a4 :: .int x :: L) st sh me cs sl := wl_iload (i := 5) hd hn rfl k
theorem st_i5 {a0 a1 a2 a3 a4 : Value} {x : Int32} {v : Value} (hd : decode M.2.1 pc = .ok (.istore 5, 2)) (hn : pc + 2 = np) (hi : 5 < M.2.2.1) (hp : a4.category = 1) (k : Wa M sx d mc ms n0 Q np (a0 :: a1 :: a2 :: a3 :: a4 :: .int x :: L) st sh me cs sl) : Wa M sx d mc ms n0 Q pc (a0 :: a1 :: a2 :: a3 :: a4 :: v :: L) (.int x :: st) sh me cs sl := wl_istore (i := 5) hd hn hi (fun w0 h0 hw => by cases (Option.some.inj hw); exact hp) k
theorem ld_a5 {a0 a1 a2 a3 a4 : Value} {x : Nat} (hd : decode M.2.1 pc = .ok (.aload 5, 2)) (hn : pc + 2 = np) (k : Wa M sx d mc ms n0 Q np (a0 :: a1 :: a2 :: a3 :: a4 :: .ref x :: L) (.ref x :: st) sh me cs sl) : Wa M sx d mc ms n0 Q pc (a0 :: a1 :: a2 :: a3 :: a4 :: .ref x :: L) st sh me cs sl := wl_aload (i := 5) hd hn rfl k
theorem st_a5 {a0 a1 a2 a3 a4 : Value} {x : Nat} {v : Value} (hd : decode M.2.1 pc = .ok (.astore 5, 2)) (hn : pc + 2 = np) (hi : 5 < M.2.2.1) (hp : a4.category = 1) (k : Wa M sx d mc ms n0 Q np (a0 :: a1 :: a2 :: a3 :: a4 :: .ref x :: L) st sh me cs sl) : Wa M sx d mc ms n0 Q pc (a0 :: a1 :: a2 :: a3 :: a4 :: v :: L) (.ref x :: st) sh me cs sl := wl_astore (i := 5) hd hn hi (fun w0 h0 hw => by cases (Option.some.inj hw); exact hp) k
theorem inc_5 {a0 a1 a2 a3 a4 : Value} {n : Int} {x v : Int32} (hd : decode M.2.1 pc = .ok (.iinc 5 n, 3)) (hn : pc + 3 = np) (hv : x + Int32.ofInt n = v) (hi : 5 < M.2.2.1) (hp : a4.category = 1) (k : Wa M sx d mc ms n0 Q np (a0 :: a1 :: a2 :: a3 :: a4 :: .int v :: L) st sh me cs sl) : Wa M sx d mc ms n0 Q pc (a0 :: a1 :: a2 :: a3 :: a4 :: .int x :: L) st sh me cs sl := wl_iinc (i := 5) hd hn rfl hv hi (fun w0 h0 hw => by cases (Option.some.inj hw); exact hp) k
theorem ld_i6 {a0 a1 a2 a3 a4 a5 : Value} {x : Int32} (hd : decode M.2.1 pc = .ok (.iload 6, 2)) (hn : pc + 2 = np) (k : Wa M sx d mc ms n0 Q np (a0 :: a1 :: a2 :: a3 :: a4 :: a5 :: .int x :: L) (.int x :: st) sh me cs sl) : Wa M sx d mc ms n0 Q pc (a0 :: a1 :: a2 :: a3 :: a4 :: a5 :: .int x :: L) st sh me cs sl := wl_iload (i := 6) hd hn rfl k
theorem st_i6 {a0 a1 a2 a3 a4 a5 : Value} {x : Int32} {v : Value} (hd : decode M.2.1 pc = .ok (.istore 6, 2)) (hn : pc + 2 = np) (hi : 6 < M.2.2.1) (hp : a5.category = 1) (k : Wa M sx d mc ms n0 Q np (a0 :: a1 :: a2 :: a3 :: a4 :: a5 :: .int x :: L) st sh me cs sl) : Wa M sx d mc ms n0 Q pc (a0 :: a1 :: a2 :: a3 :: a4 :: a5 :: v :: L) (.int x :: st) sh me cs sl := wl_istore (i := 6) hd hn hi (fun w0 h0 hw => by cases (Option.some.inj hw); exact hp) k
theorem ld_a6 {a0 a1 a2 a3 a4 a5 : Value} {x : Nat} (hd : decode M.2.1 pc = .ok (.aload 6, 2)) (hn : pc + 2 = np) (k : Wa M sx d mc ms n0 Q np (a0 :: a1 :: a2 :: a3 :: a4 :: a5 :: .ref x :: L) (.ref x :: st) sh me cs sl) : Wa M sx d mc ms n0 Q pc (a0 :: a1 :: a2 :: a3 :: a4 :: a5 :: .ref x :: L) st sh me cs sl := wl_aload (i := 6) hd hn rfl k
theorem st_a6 {a0 a1 a2 a3 a4 a5 : Value} {x : Nat} {v : Value} (hd : decode M.2.1 pc = .ok (.astore 6, 2)) (hn : pc + 2 = np) (hi : 6 < M.2.2.1) (hp : a5.category = 1) (k : Wa M sx d mc ms n0 Q np (a0 :: a1 :: a2 :: a3 :: a4 :: a5 :: .ref x :: L) st sh me cs sl) : Wa M sx d mc ms n0 Q pc (a0 :: a1 :: a2 :: a3 :: a4 :: a5 :: v :: L) (.ref x :: st) sh me cs sl := wl_astore (i := 6) hd hn hi (fun w0 h0 hw => by cases (Option.some.inj hw); exact hp) k
theorem inc_6 {a0 a1 a2 a3 a4 a5 : Value} {n : Int} {x v : Int32} (hd : decode M.2.1 pc = .ok (.iinc 6 n, 3)) (hn : pc + 3 = np) (hv : x + Int32.ofInt n = v) (hi : 6 < M.2.2.1) (hp : a5.category = 1) (k : Wa M sx d mc ms n0 Q np (a0 :: a1 :: a2 :: a3 :: a4 :: a5 :: .int v :: L) st sh me cs sl) : Wa M sx d mc ms n0 Q pc (a0 :: a1 :: a2 :: a3 :: a4 :: a5 :: .int x :: L) st sh me cs sl := wl_iinc (i := 6) hd hn rfl hv hi (fun w0 h0 hw => by cases (Option.some.inj hw); exact hp) k
theorem ld_i7 {a0 a1 a2 a3 a4 a5 a6 : Value} {x : Int32} (hd : decode M.2.1 pc = .ok (.iload 7, 2)) (hn : pc + 2 = np) (k : Wa M sx d mc ms n0 Q np (a0 :: a1 :: a2 :: a3 :: a4 :: a5 :: a6 :: .int x :: L) (.int x :: st) sh me cs sl) : Wa M sx d mc ms n0 Q pc (a0 :: a1 :: a2 :: a3 :: a4 :: a5 :: a6 :: .int x :: L) st sh me cs sl := wl_iload (i := 7) hd hn rfl k
theorem st_i7 {a0 a1 a2 a3 a4 a5 a6 : Value} {x : Int32} {v : Value} (hd : decode M.2.1 pc = .ok (.istore 7, 2)) (hn : pc + 2 = np) (hi : 7 < M.2.2.1) (hp : a6.category = 1) (k : Wa M sx d mc ms n0 Q np (a0 :: a1 :: a2 :: a3 :: a4 :: a5 :: a6 :: .int x :: L) st sh me cs sl) : Wa M sx d mc ms n0 Q pc (a0 :: a1 :: a2 :: a3 :: a4 :: a5 :: a6 :: v :: L) (.int x :: st) sh me cs sl := wl_istore (i := 7) hd hn hi (fun w0 h0 hw => by cases (Option.some.inj hw); exact hp) k
theorem ld_a7 {a0 a1 a2 a3 a4 a5 a6 : Value} {x : Nat} (hd : decode M.2.1 pc = .ok (.aload 7, 2)) (hn : pc + 2 = np) (k : Wa M sx d mc ms n0 Q np (a0 :: a1 :: a2 :: a3 :: a4 :: a5 :: a6 :: .ref x :: L) (.ref x :: st) sh me cs sl) : Wa M sx d mc ms n0 Q pc (a0 :: a1 :: a2 :: a3 :: a4 :: a5 :: a6 :: .ref x :: L) st sh me cs sl := wl_aload (i := 7) hd hn rfl k
theorem st_a7 {a0 a1 a2 a3 a4 a5 a6 : Value} {x : Nat} {v : Value} (hd : decode M.2.1 pc = .ok (.astore 7, 2)) (hn : pc + 2 = np) (hi : 7 < M.2.2.1) (hp : a6.category = 1) (k : Wa M sx d mc ms n0 Q np (a0 :: a1 :: a2 :: a3 :: a4 :: a5 :: a6 :: .ref x :: L) st sh me cs sl) : Wa M sx d mc ms n0 Q pc (a0 :: a1 :: a2 :: a3 :: a4 :: a5 :: a6 :: v :: L) (.ref x :: st) sh me cs sl := wl_astore (i := 7) hd hn hi (fun w0 h0 hw => by cases (Option.some.inj hw); exact hp) k
theorem inc_7 {a0 a1 a2 a3 a4 a5 a6 : Value} {n : Int} {x v : Int32} (hd : decode M.2.1 pc = .ok (.iinc 7 n, 3)) (hn : pc + 3 = np) (hv : x + Int32.ofInt n = v) (hi : 7 < M.2.2.1) (hp : a6.category = 1) (k : Wa M sx d mc ms n0 Q np (a0 :: a1 :: a2 :: a3 :: a4 :: a5 :: a6 :: .int v :: L) st sh me cs sl) : Wa M sx d mc ms n0 Q pc (a0 :: a1 :: a2 :: a3 :: a4 :: a5 :: a6 :: .int x :: L) st sh me cs sl := wl_iinc (i := 7) hd hn rfl hv hi (fun w0 h0 hw => by cases (Option.some.inj hw); exact hp) k
theorem ld_i8 {a0 a1 a2 a3 a4 a5 a6 a7 : Value} {x : Int32} (hd : decode M.2.1 pc = .ok (.iload 8, 2)) (hn : pc + 2 = np) (k : Wa M sx d mc ms n0 Q np (a0 :: a1 :: a2 :: a3 :: a4 :: a5 :: a6 :: a7 :: .int x :: L) (.int x :: st) sh me cs sl) : Wa M sx d mc ms n0 Q pc (a0 :: a1 :: a2 :: a3 :: a4 :: a5 :: a6 :: a7 :: .int x :: L) st sh me cs sl := wl_iload (i := 8) hd hn rfl k
theorem st_i8 {a0 a1 a2 a3 a4 a5 a6 a7 : Value} {x : Int32} {v : Value} (hd : decode M.2.1 pc = .ok (.istore 8, 2)) (hn : pc + 2 = np) (hi : 8 < M.2.2.1) (hp : a7.category = 1) (k : Wa M sx d mc ms n0 Q np (a0 :: a1 :: a2 :: a3 :: a4 :: a5 :: a6 :: a7 :: .int x :: L) st sh me cs sl) : Wa M sx d mc ms n0 Q pc (a0 :: a1 :: a2 :: a3 :: a4 :: a5 :: a6 :: a7 :: v :: L) (.int x :: st) sh me cs sl := wl_istore (i := 8) hd hn hi (fun w0 h0 hw => by cases (Option.some.inj hw); exact hp) k
theorem ld_a8 {a0 a1 a2 a3 a4 a5 a6 a7 : Value} {x : Nat} (hd : decode M.2.1 pc = .ok (.aload 8, 2)) (hn : pc + 2 = np) (k : Wa M sx d mc ms n0 Q np (a0 :: a1 :: a2 :: a3 :: a4 :: a5 :: a6 :: a7 :: .ref x :: L) (.ref x :: st) sh me cs sl) : Wa M sx d mc ms n0 Q pc (a0 :: a1 :: a2 :: a3 :: a4 :: a5 :: a6 :: a7 :: .ref x :: L) st sh me cs sl := wl_aload (i := 8) hd hn rfl k
theorem st_a8 {a0 a1 a2 a3 a4 a5 a6 a7 : Value} {x : Nat} {v : Value} (hd : decode M.2.1 pc = .ok (.astore 8, 2)) (hn : pc + 2 = np) (hi : 8 < M.2.2.1) (hp : a7.category = 1) (k : Wa M sx d mc ms n0 Q np (a0 :: a1 :: a2 :: a3 :: a4 :: a5 :: a6 :: a7 :: .ref x :: L) st sh me cs sl) : Wa M sx d mc ms n0 Q pc (a0 :: a1 :: a2 :: a3 :: a4 :: a5 :: a6 :: a7 :: v :: L) (.ref x :: st) sh me cs sl := wl_astore (i := 8) hd hn hi (fun w0 h0 hw => by cases (Option.some.inj hw); exact hp) k
theorem inc_8 {a0 a1 a2 a3 a4 a5 a6 a7 : Value} {n : Int} {x v : Int32} (hd : decode M.2.1 pc = .ok (.iinc 8 n, 3)) (hn : pc + 3 = np) (hv : x + Int32.ofInt n = v) (hi : 8 < M.2.2.1) (hp : a7.category = 1) (k : Wa M sx d mc ms n0 Q np (a0 :: a1 :: a2 :: a3 :: a4 :: a5 :: a6 :: a7 :: .int v :: L) st sh me cs sl) : Wa M sx d mc ms n0 Q pc (a0 :: a1 :: a2 :: a3 :: a4 :: a5 :: a6 :: a7 :: .int x :: L) st sh me cs sl := wl_iinc (i := 8) hd hn rfl hv hi (fun w0 h0 hw => by cases (Option.some.inj hw); exact hp) k
theorem ld_i9 {a0 a1 a2 a3 a4 a5 a6 a7 a8 : Value} {x : Int32} (hd : decode M.2.1 pc = .ok (.iload 9, 2)) (hn : pc + 2 = np) (k : Wa M sx d mc ms n0 Q np (a0 :: a1 :: a2 :: a3 :: a4 :: a5 :: a6 :: a7 :: a8 :: .int x :: L) (.int x :: st) sh me cs sl) : Wa M sx d mc ms n0 Q pc (a0 :: a1 :: a2 :: a3 :: a4 :: a5 :: a6 :: a7 :: a8 :: .int x :: L) st sh me cs sl := wl_iload (i := 9) hd hn rfl k
theorem st_i9 {a0 a1 a2 a3 a4 a5 a6 a7 a8 : Value} {x : Int32} {v : Value} (hd : decode M.2.1 pc = .ok (.istore 9, 2)) (hn : pc + 2 = np) (hi : 9 < M.2.2.1) (hp : a8.category = 1) (k : Wa M sx d mc ms n0 Q np (a0 :: a1 :: a2 :: a3 :: a4 :: a5 :: a6 :: a7 :: a8 :: .int x :: L) st sh me cs sl) : Wa M sx d mc ms n0 Q pc (a0 :: a1 :: a2 :: a3 :: a4 :: a5 :: a6 :: a7 :: a8 :: v :: L) (.int x :: st) sh me cs sl := wl_istore (i := 9) hd hn hi (fun w0 h0 hw => by cases (Option.some.inj hw); exact hp) k
theorem ld_a9 {a0 a1 a2 a3 a4 a5 a6 a7 a8 : Value} {x : Nat} (hd : decode M.2.1 pc = .ok (.aload 9, 2)) (hn : pc + 2 = np) (k : Wa M sx d mc ms n0 Q np (a0 :: a1 :: a2 :: a3 :: a4 :: a5 :: a6 :: a7 :: a8 :: .ref x :: L) (.ref x :: st) sh me cs sl) : Wa M sx d mc ms n0 Q pc (a0 :: a1 :: a2 :: a3 :: a4 :: a5 :: a6 :: a7 :: a8 :: .ref x :: L) st sh me cs sl := wl_aload (i := 9) hd hn rfl k
theorem st_a9 {a0 a1 a2 a3 a4 a5 a6 a7 a8 : Value} {x : Nat} {v : Value} (hd : decode M.2.1 pc = .ok (.astore 9, 2)) (hn : pc + 2 = np) (hi : 9 < M.2.2.1) (hp : a8.category = 1) (k : Wa M sx d mc ms n0 Q np (a0 :: a1 :: a2 :: a3 :: a4 :: a5 :: a6 :: a7 :: a8 :: .ref x :: L) st sh me cs sl) : Wa M sx d mc ms n0 Q pc (a0 :: a1 :: a2 :: a3 :: a4 :: a5 :: a6 :: a7 :: a8 :: v :: L) (.ref x :: st) sh me cs sl := wl_astore (i := 9) hd hn hi (fun w0 h0 hw => by cases (Option.some.inj hw); exact hp) k
theorem inc_9 {a0 a1 a2 a3 a4 a5 a6 a7 a8 : Value} {n : Int} {x v : Int32} (hd : decode M.2.1 pc = .ok (.iinc 9 n, 3)) (hn : pc + 3 = np) (hv : x + Int32.ofInt n = v) (hi : 9 < M.2.2.1) (hp : a8.category = 1) (k : Wa M sx d mc ms n0 Q np (a0 :: a1 :: a2 :: a3 :: a4 :: a5 :: a6 :: a7 :: a8 :: .int v :: L) st sh me cs sl) : Wa M sx d mc ms n0 Q pc (a0 :: a1 :: a2 :: a3 :: a4 :: a5 :: a6 :: a7 :: a8 :: .int x :: L) st sh me cs sl := wl_iinc (i := 9) hd hn rfl hv hi (fun w0 h0 hw => by cases (Option.some.inj hw); exact hp) k
theorem ld_i10 {a0 a1 a2 a3 a4 a5 a6 a7 a8 a9 : Value} {x : Int32} (hd : decode M.2.1 pc = .ok (.iload 10, 2)) (hn : pc + 2 = np) (k : Wa M sx d mc ms n0 Q np (a0 :: a1 :: a2 :: a3 :: a4 :: a5 :: a6 :: a7 :: a8 :: a9 :: .int x :: L) (.int x :: st) sh me cs sl) : Wa M sx d mc ms n0 Q pc (a0 :: a1 :: a2 :: a3 :: a4 :: a5 :: a6 :: a7 :: a8 :: a9 :: .int x :: L) st sh me cs sl := wl_iload (i := 10) hd hn rfl k
theorem st_i10 {a0 a1 a2 a3 a4 a5 a6 a7 a8 a9 : Value} {x : Int32} {v : Value} (hd : decode M.2.1 pc = .ok (.istore 10, 2)) (hn : pc + 2 = np) (hi : 10 < M.2.2.1) (hp : a9.category = 1) (k : Wa M sx d mc ms n0 Q np (a0 :: a1 :: a2 :: a3 :: a4 :: a5 :: a6 :: a7 :: a8 :: a9 :: .int x :: L) st sh me cs sl) : Wa M sx d mc ms n0 Q pc (a0 :: a1 :: a2 :: a3 :: a4 :: a5 :: a6 :: a7 :: a8 :: a9 :: v :: L) (.int x :: st) sh me cs sl := wl_istore (i := 10) hd hn hi (fun w0 h0 hw => by cases (Option.some.inj hw); exact hp) k
theorem ld_a10 {a0 a1 a2 a3 a4 a5 a6 a7 a8 a9 : Value} {x : Nat} (hd : decode M.2.1 pc = .ok (.aload 10, 2)) (hn : pc + 2 = np) (k : Wa M sx d mc ms n0 Q np (a0 :: a1 :: a2 :: a3 :: a4 :: a5 :: a6 :: a7 :: a8 :: a9 :: .ref x :: L) (.ref x :: st) sh me cs sl) : Wa M sx d mc ms n0 Q pc (a0 :: a1 :: a2 :: a3 :: a4 :: a5 :: a6 :: a7 :: a8 :: a9 :: .ref x :: L) st sh me cs sl := wl_aload (i := 10) hd hn rfl k
theorem st_a10 {a0 a1 a2 a3 a4 a5 a6 a7 a8 a9 : Value} {x : Nat} {v : Value} (hd : decode M.2.1 pc = .ok (.astore 10, 2)) (hn : pc + 2 = np) (hi : 10 < M.2.2.1) (hp : a9.category = 1) (k : Wa M sx d mc ms n0 Q np (a0 :: a1 :: a2 :: a3 :: a4 :: a5 :: a6 :: a7 :: a8 :: a9 :: .ref x :: L) st sh me cs sl) : Wa M sx d mc ms n0 Q pc (a0 :: a1 :: a2 :: a3 :: a4 :: a5 :: a6 :: a7 :: a8 :: a9 :: v :: L) (.ref x :: st) sh me cs sl := wl_astore (i := 10) hd hn hi (fun w0 h0 hw => by cases (Option.some.inj hw); exact hp) k
theorem inc_10 {a0 a1 a2 a3 a4 a5 a6 a7 a8 a9 : Value} {n : Int} {x v : Int32} (hd : decode M.2.1 pc = .ok (.iinc 10 n, 3)) (hn : pc + 3 = np) (hv : x + Int32.ofInt n = v) (hi : 10 < M.2.2.1) (hp : a9.category = 1) (k : Wa M sx d mc ms n0 Q np (a0 :: a1 :: a2 :: a3 :: a4 :: a5 :: a6 :: a7 :: a8 :: a9 :: .int v :: L) st sh me cs sl) : Wa M sx d mc ms n0 Q pc (a0 :: a1 :: a2 :: a3 :: a4 :: a5 :: a6 :: a7 :: a8 :: a9 :: .int x :: L) st sh me cs sl := wl_iinc (i := 10) hd hn rfl hv hi (fun w0 h0 hw => by cases (Option.some.inj hw); exact hp) k
theorem ld_i11 {a0 a1 a2 a3 a4 a5 a6 a7 a8 a9 a10 : Value} {x : Int32} (hd : decode M.2.1 pc = .ok (.iload 11, 2)) (hn : pc + 2 = np) (k : Wa M sx d mc ms n0 Q np (a0 :: a1 :: a2 :: a3 :: a4 :: a5 :: a6 :: a7 :: a8 :: a9 :: a10 :: .int x :: L) (.int x :: st) sh me cs sl) : Wa M sx d mc ms n0 Q pc (a0 :: a1 :: a2 :: a3 :: a4 :: a5 :: a6 :: a7 :: a8 :: a9 :: a10 :: .int x :: L) st sh me cs sl := wl_iload (i := 11) hd hn rfl k
theorem st_i11 {a0 a1 a2 a3 a4 a5 a6 a7 a8 a9 a10 : Value} {x : Int32} {v : Value} (hd : decode M.2.1 pc = .ok (.istore 11, 2)) (hn : pc + 2 = np) (hi : 11 < M.2.2.1) (hp : a10.category = 1) (k : Wa M sx d mc ms n0 Q np (a0 :: a1 :: a2 :: a3 :: a4 :: a5 :: a6 :: a7 :: a8 :: a9 :: a10 :: .int x :: L) st sh me cs sl) : Wa M sx d mc ms n0 Q pc (a0 :: a1 :: a2 :: a3 :: a4 :: a5 :: a6 :: a7 :: a8 :: a9 :: a10 :: v :: L) (.int x :: st) sh me cs sl := wl_istore (i := 11) hd hn hi (fun w0 h0 hw => by cases (Option.some.inj hw); exact hp) k
theorem ld_a11 {a0 a1 a2 a3 a4 a5 a6 a7 a8 a9 a10 : Value} {x : Nat} (hd : decode M.2.1 pc = .ok (.aload 11, 2)) (hn : pc + 2 = np) (k : Wa M sx d mc ms n0 Q np (a0 :: a1 :: a2 :: a3 :: a4 :: a5 :: a6 :: a7 :: a8 :: a9 :: a10 :: .ref x :: L) (.ref x :: st) sh me cs sl) : Wa M sx d mc ms n0 Q pc (a0 :: a1 :: a2 :: a3 :: a4 :: a5 :: a6 :: a7 :: a8 :: a9 :: a10 :: .ref x :: L) st sh me cs sl := wl_aload (i := 11) hd hn rfl k
theorem st_a11 {a0 a1 a2 a3 a4 a5 a6 a7 a8 a9 a10 : Value} {x : Nat} {v : Value} (hd : decode M.2.1 pc = .ok (.astore 11, 2)) (hn : pc + 2 = np) (hi : 11 < M.2.2.1) (hp : a10.category = 1) (k : Wa M sx d mc ms n0 Q np (a0 :: a1 :: a2 :: a3 :: a4 :: a5 :: a6 :: a7 :: a8 :: a9 :: a10 :: .ref x :: L) st sh me cs sl) : Wa M sx d mc ms n0 Q pc (a0 :: a1 :: a2 :: a3 :: a4 :: a5 :: a6 :: a7 :: a8 :: a9 :: a10 :: v :: L) (.ref x :: st) sh me cs sl := wl_astore (i := 11) hd hn hi (fun w0 h0 hw => by cases (Option.some.inj hw); exact hp) k
theorem inc_11 {a0 a1 a2 a3 a4 a5 a6 a7 a8 a9 a10 : Value} {n : Int} {x v : Int32} (hd : decode M.2.1 pc = .ok (.iinc 11 n, 3)) (hn : pc + 3 = np) (hv : x + Int32.ofInt n = v) (hi : 11 < M.2.2.1) (hp : a10.category = 1) (k : Wa M sx d mc ms n0 Q np (a0 :: a1 :: a2 :: a3 :: a4 :: a5 :: a6 :: a7 :: a8 :: a9 :: a10 :: .int v :: L) st sh me cs sl) : Wa M sx d mc ms n0 Q pc (a0 :: a1 :: a2 :: a3 :: a4 :: a5 :: a6 :: a7 :: a8 :: a9 :: a10 :: .int x :: L) st sh me cs sl := wl_iinc (i := 11) hd hn rfl hv hi (fun w0 h0 hw => by cases (Option.some.inj hw); exact hp) k
theorem ld_i12 {a0 a1 a2 a3 a4 a5 a6 a7 a8 a9 a10 a11 : Value} {x : Int32} (hd : decode M.2.1 pc = .ok (.iload 12, 2)) (hn : pc + 2 = np) (k : Wa M sx d mc ms n0 Q np (a0 :: a1 :: a2 :: a3 :: a4 :: a5 :: a6 :: a7 :: a8 :: a9 :: a10 :: a11 :: .int x :: L) (.int x :: st) sh me cs sl) : Wa M sx d mc ms n0 Q pc (a0 :: a1 :: a2 :: a3 :: a4 :: a5 :: a6 :: a7 :: a8 :: a9 :: a10 :: a11 :: .int x :: L) st sh me cs sl := wl_iload (i := 12) hd hn rfl k
theorem st_i12 {a0 a1 a2 a3 a4 a5 a6 a7 a8 a9 a10 a11 : Value} {x : Int32} {v : Value} (hd : decode M.2.1 pc = .ok (.istore 12, 2)) (hn : pc + 2 = np) (hi : 12 < M.2.2.1) (hp : a11.category = 1) (k : Wa M sx d mc ms n0 Q np (a0 :: a1 :: a2 :: a3 :: a4 :: a5 :: a6 :: a7 :: a8 :: a9 :: a10 :: a11 :: .int x :: L) st sh me cs sl) : Wa M sx d mc ms n0 Q pc (a0 :: a1 :: a2 :: a3 :: a4 :: a5 :: a6 :: a7 :: a8 :: a9 :: a10 :: a11 :: v :: L) (.int x :: st) sh me cs sl := wl_istore (i := 12) hd hn hi (fun w0 h0 hw => by cases (Option.some.inj hw); exact hp) k
theorem ld_a12 {a0 a1 a2 a3 a4 a5 a6 a7 a8 a9 a10 a11 : Value} {x : Nat} (hd : decode M.2.1 pc = .ok (.aload 12, 2)) (hn : pc + 2 = np) (k : Wa M sx d mc ms n0 Q np (a0 :: a1 :: a2 :: a3 :: a4 :: a5 :: a6 :: a7 :: a8 :: a9 :: a10 :: a11 :: .ref x :: L) (.ref x :: st) sh me cs sl) : Wa M sx d mc ms n0 Q pc (a0 :: a1 :: a2 :: a3 :: a4 :: a5 :: a6 :: a7 :: a8 :: a9 :: a10 :: a11 :: .ref x :: L) st sh me cs sl := wl_aload (i := 12) hd hn rfl k
theorem st_a12 {a0 a1 a2 a3 a4 a5 a6 a7 a8 a9 a10 a11 : Value} {x : Nat} {v : Value} (hd : decode M.2.1 pc = .ok (.astore 12, 2)) (hn : pc + 2 = np) (hi : 12 < M.2.2.1) (hp : a11.category = 1) (k : Wa M sx d mc ms n0 Q np (a0 :: a1 :: a2 :: a3 :: a4 :: a5 :: a6 :: a7 :: a8 :: a9 :: a10 :: a11 :: .ref x :: L) st sh me cs sl) : Wa M sx d mc ms n0 Q pc (a0 :: a1 :: a2 :: a3 :: a4 :: a5 :: a6 :: a7 :: a8 :: a9 :: a10 :: a11 :: v :: L) (.ref x :: st) sh me cs sl := wl_astore (i := 12) hd hn hi (fun w0 h0 hw => by cases (Option.some.inj hw); exact hp) k
theorem inc_12 {a0 a1 a2 a3 a4 a5 a6 a7 a8 a9 a10 a11 : Value} {n : Int} {x v : Int32} (hd : decode M.2.1 pc = .ok (.iinc 12 n, 3)) (hn : pc + 3 = np) (hv : x + Int32.ofInt n = v) (hi : 12 < M.2.2.1) (hp : a11.category = 1) (k : Wa M sx d mc ms n0 Q np (a0 :: a1 :: a2 :: a3 :: a4 :: a5 :: a6 :: a7 :: a8 :: a9 :: a10 :: a11 :: .int v :: L) st sh me cs sl) : Wa M sx d mc ms n0 Q pc (a0 :: a1 :: a2 :: a3 :: a4 :: a5 :: a6 :: a7 :: a8 :: a9 :: a10 :: a11 :: .int x :: L) st sh me cs sl := wl_iinc (i := 12) hd hn rfl hv hi (fun w0 h0 hw => by cases (Option.some.inj hw); exact hp) k
theorem ld_i13 {a0 a1 a2 a3 a4 a5 a6 a7 a8 a9 a10 a11 a12 : Value} {x : Int32} (hd : decode M.2.1 pc = .ok (.iload 13, 2)) (hn : pc + 2 = np) (k : Wa M sx d mc ms n0 Q np (a0 :: a1 :: a2 :: a3 :: a4 :: a5 :: a6 :: a7 :: a8 :: a9 :: a10 :: a11 :: a12 :: .int x :: L) (.int x :: st) sh me cs sl) : Wa M sx d mc ms n0 Q pc (a0 :: a1 :: a2 :: a3 :: a4 :: a5 :: a6 :: a7 :: a8 :: a9 :: a10 :: a11 :: a12 :: .int x :: L) st sh me cs sl := wl_iload (i := 13) hd hn rfl k
theorem st_i13 {a0 a1 a2 a3 a4 a5 a6 a7 a8 a9 a10 a11 a12 : Value} {x : Int32} {v : Value} (hd : decode M.2.1 pc = .ok (.istore 13, 2)) (hn : pc + 2 = np) (hi : 13 < M.2.2.1) (hp : a12.category = 1) (k : Wa M sx d mc ms n0 Q np (a0 :: a1 :: a2 :: a3 :: a4 :: a5 :: a6 :: a7 :: a8 :: a9 :: a10 :: a11 :: a12 :: .int x :: L) st sh me cs sl) : Wa M sx d mc ms n0 Q pc (a0 :: a1 :: a2 :: a3 :: a4 :: a5 :: a6 :: a7 :: a8 :: a9 :: a10 :: a11 :: a12 :: v :: L) (.int x :: st) sh me cs sl := wl_istore (i := 13) hd hn hi (fun w0 h0 hw => by cases (Option.some.inj hw); exact hp) k
theorem ld_a13 {a0 a1 a2 a3 a4 a5 a6 a7 a8 a9 a10 a11 a12 : Value} {x : Nat} (hd : decode M.2.1 pc = .ok (.aload 13, 2)) (hn : pc + 2 = np) (k : Wa M sx d mc ms n0 Q np (a0 :: a1 :: a2 :: a3 :: a4 :: a5 :: a6 :: a7 :: a8 :: a9 :: a10 :: a11 :: a12 :: .ref x :: L) (.ref x :: st) sh me cs sl) : Wa M sx d mc ms n0 Q pc (a0 :: a1 :: a2 :: a3 :: a4 :: a5 :: a6 :: a7 :: a8 :: a9 :: a10 :: a11 :: a12 :: .ref x :: L) st sh me cs sl := wl_aload (i := 13) hd hn rfl k
theorem st_a13 {a0 a1 a2 a3 a4 a5 a6 a7 a8 a9 a10 a11 a12 : Value} {x : Nat} {v : Value} (hd : decode M.2.1 pc = .ok (.astore 13, 2)) (hn : pc + 2 = np) (hi : 13 < M.2.2.1) (hp : a12.category = 1) (k : Wa M sx d mc ms n0 Q np (a0 :: a1 :: a2 :: a3 :: a4 :: a5 :: a6 :: a7 :: a8 :: a9 :: a10 :: a11 :: a12 :: .ref x :: L) st sh me cs sl) : Wa M sx d mc ms n0 Q pc (a0 :: a1 :: a2 :: a3 :: a4 :: a5 :: a6 :: a7 :: a8 :: a9 :: a10 :: a11 :: a12 :: v :: L) (.ref x :: st) sh me cs sl := wl_astore (i := 13) hd hn hi (fun w0 h0 hw => by cases (Option.some.inj hw); exact hp) k
theorem inc_13 {a0 a1 a2 a3 a4 a5 a6 a7 a8 a9 a10 a11 a12 : Value} {n : Int} {x v : Int32} (hd : decode M.2.1 pc = .ok (.iinc 13 n, 3)) (hn : pc + 3 = np) (hv : x + Int32.ofInt n = v) (hi : 13 < M.2.2.1) (hp : a12.category = 1) (k : Wa M sx d mc ms n0 Q np (a0 :: a1 :: a2 :: a3 :: a4 :: a5 :: a6 :: a7 :: a8 :: a9 :: a10 :: a11 :: a12 :: .int v :: L) st sh me cs sl) : Wa M sx d mc ms n0 Q pc (a0 :: a1 :: a2 :: a3 :: a4 :: a5 :: a6 :: a7 :: a8 :: a9 :: a10 :: a11 :: a12 :: .int x :: L) st sh me cs sl := wl_iinc (i := 13) hd hn rfl hv hi (fun w0 h0 hw => by cases (Option.some.inj hw); exact hp) k
theorem ciV_0 {idx ci b : Nat} {M' : MR} {Qi : Int32 → Mem → Prop} (hd : decode M.2.1 pc = .ok (.invokevirtual idx, 3)) (hn : pc + 3 = np) (hl : LkV M.1.cls idx M' 0 ci) (hs : sh[b]? = some (.inl ci)) (hroom : (st.map (fun v => v.category)).sum ≤ 8) (hdd : 1 ≤ d) (hcs : cs ≤ mc) (hsl : sl ≤ ms) (hc : CI (d - 1) M' sh [.ref b] me Qi) (k : ∀ x m1, Qi x m1 → Wa M sx d mc ms n0 Q np L (.int x :: st) sh m1 cs sl) : Wa M sx d mc ms n0 Q pc L (.ref b :: st) sh me cs sl := wa_callV (vs := []) (d' := d - 1) hd hn hl hs rfl rfl hroom (by omega) hcs hsl pi_ok hc (fun r m1 hr => by obtain ⟨x, rfl, -, hx⟩ := hr; exact k x m1 hx)
theorem cvV_0 {idx ci b : Nat} {M' : MR} {Qv : Mem → Prop} (hd : decode M.2.1 pc = .ok (.invokevirtual idx, 3)) (hn : pc + 3 = np) (hl : LkV M.1.cls idx M' 0 ci) (hs : sh[b]? = some (.inl ci)) (hroom : (st.map (fun v => v.category)).sum ≤ 8) (hdd : 1 ≤ d) (hcs : cs ≤ mc) (hsl : sl ≤ ms) (hc : CV (d - 1) M' sh [.ref b] me Qv) (k : ∀ m1, Qv m1 → Wa M sx d mc ms n0 Q np L st sh m1 cs sl) : Wa M sx d mc ms n0 Q pc L (.ref b :: st) sh me cs sl := wa_callV (vs := []) (d' := d - 1) hd hn hl hs rfl rfl hroom (by omega) hcs hsl pv_ok hc (fun r m1 hr => by obtain ⟨rfl, -, hx⟩ := hr; exact k m1 hx)
theorem ciS_1 {idx : Nat} {M' : MR} {v0 : Value} {Qi : Int32 → Mem → Prop} (hd : decode M.2.1 pc = .ok (.invokestatic idx, 3)) (hn : pc + 3 = np) (hl : LkS M.1.cls idx M' 1) (hroom : (st.map (fun v => v.category)).sum ≤ 8) (hdd : 1 ≤ d) (hcs : cs ≤ mc) (hsl : sl ≤ ms) (hc : CI (d - 1) M' sh [v0] me Qi) (k : ∀ x m1, Qi x m1 → Wa M sx d mc ms n0 Q np L (.int x :: st) sh m1 cs sl) : Wa M sx d mc ms n0 Q pc L (v0 :: st) sh me cs sl := wa_callS (vs := [v0]) (d' := d - 1) hd hn hl rfl rfl hroom (by omega) hcs hsl pi_ok hc (fun r m1 hr => by obtain ⟨x, rfl, -, hx⟩ := hr; exact k x m1 hx)
theorem ciSN_1 {idx : Nat} {host : String} {M' : MR} {v0 : Value} {Qi : Int32 → Mem → Prop} (hd : decode M.2.1 pc = .ok (.invokestatic idx, 3)) (hn : pc + 3 = np) (hl : LkSN M.1.cls idx M' 1 host) (hroom : (st.map (fun v => v.category)).sum ≤ 8) (hdd : 1 ≤ d) (hcs : cs ≤ mc) (hsl : sl ≤ ms) (hc : CI (d - 1) M' sh [v0] me Qi) (k : ∀ x m1, Qi x m1 → Wa M sx d mc ms n0 Q np L (.int x :: st) sh m1 cs sl) : Wa M sx d mc ms n0 Q pc L (v0 :: st) sh me cs sl := wa_callSN (vs := [v0]) (d' := d - 1) hd hn hl rfl rfl hroom (by omega) hcs hsl pi_ok hc (fun r m1 hr => by obtain ⟨x, rfl, -, hx⟩ := hr; exact k x m1 hx)
theorem ciV_1 {idx ci b : Nat} {M' : MR} {v0 : Value} {Qi : Int32 → Mem → Prop} (hd : decode M.2.1 pc = .ok (.invokevirtual idx, 3)) (hn : pc + 3 = np) (hl : LkV M.1.cls idx M' 1 ci) (hs : sh[b]? = some (.inl ci)) (hroom : (st.map (fun v => v.category)).sum ≤ 8) (hdd : 1 ≤ d) (hcs : cs ≤ mc) (hsl : sl ≤ ms) (hc : CI (d - 1) M' sh [.ref b, v0] me Qi) (k : ∀ x m1, Qi x m1 → Wa M sx d mc ms n0 Q np L (.int x :: st) sh m1 cs sl) : Wa M sx d mc ms n0 Q pc L (v0 :: .ref b :: st) sh me cs sl := wa_callV (vs := [v0]) (d' := d - 1) hd hn hl hs rfl rfl hroom (by omega) hcs hsl pi_ok hc (fun r m1 hr => by obtain ⟨x, rfl, -, hx⟩ := hr; exact k x m1 hx)
theorem cvS_1 {idx : Nat} {M' : MR} {v0 : Value} {Qv : Mem → Prop} (hd : decode M.2.1 pc = .ok (.invokestatic idx, 3)) (hn : pc + 3 = np) (hl : LkS M.1.cls idx M' 1) (hroom : (st.map (fun v => v.category)).sum ≤ 8) (hdd : 1 ≤ d) (hcs : cs ≤ mc) (hsl : sl ≤ ms) (hc : CV (d - 1) M' sh [v0] me Qv) (k : ∀ m1, Qv m1 → Wa M sx d mc ms n0 Q np L st sh m1 cs sl) : Wa M sx d mc ms n0 Q pc L (v0 :: st) sh me cs sl := wa_callS (vs := [v0]) (d' := d - 1) hd hn hl rfl rfl hroom (by omega) hcs hsl pv_ok hc (fun r m1 hr => by obtain ⟨rfl, -, hx⟩ := hr; exact k m1 hx)
theorem cvSN_1 {idx : Nat} {host : String} {M' : MR} {v0 : Value} {Qv : Mem → Prop} (hd : decode M.2.1 pc = .ok (.invokestatic idx, 3)) (hn : pc + 3 = np) (hl : LkSN M.1.cls idx M' 1 host) (hroom : (st.map (fun v => v.category)).sum ≤ 8) (hdd : 1 ≤ d) (hcs : cs ≤ mc) (hsl : sl ≤ ms) (hc : CV (d - 1) M' sh [v0] me Qv) (k : ∀ m1, Qv m1 → Wa M sx d mc ms n0 Q np L st sh m1 cs sl) : Wa M sx d mc ms n0 Q pc L (v0 :: st) sh me cs sl := wa_callSN (vs := [v0]) (d' := d - 1) hd hn hl rfl rfl hroom (by omega) hcs hsl pv_ok hc (fun r m1 hr => by obtain ⟨rfl, -, hx⟩ := hr; exact k m1 hx)
theorem cvV_1 {idx ci b : Nat} {M' : MR} {v0 : Value} {Qv : Mem → Prop} (hd : decode M.2.1 pc = .ok (.invokevirtual idx, 3)) (hn : pc + 3 = np) (hl : LkV M.1.cls idx M' 1 ci) (hs : sh[b]? = some (.inl ci)) (hroom : (st.map (fun v => v.category)).sum ≤ 8) (hdd : 1 ≤ d) (hcs : cs ≤ mc) (hsl : sl ≤ ms) (hc : CV (d - 1) M' sh [.ref b, v0] me Qv) (k : ∀ m1, Qv m1 → Wa M sx d mc ms n0 Q np L st sh m1 cs sl) : Wa M sx d mc ms n0 Q pc L (v0 :: .ref b :: st) sh me cs sl := wa_callV (vs := [v0]) (d' := d - 1) hd hn hl hs rfl rfl hroom (by omega) hcs hsl pv_ok hc (fun r m1 hr => by obtain ⟨rfl, -, hx⟩ := hr; exact k m1 hx)
theorem ciS_2 {idx : Nat} {M' : MR} {v0 v1 : Value} {Qi : Int32 → Mem → Prop} (hd : decode M.2.1 pc = .ok (.invokestatic idx, 3)) (hn : pc + 3 = np) (hl : LkS M.1.cls idx M' 2) (hroom : (st.map (fun v => v.category)).sum ≤ 8) (hdd : 1 ≤ d) (hcs : cs ≤ mc) (hsl : sl ≤ ms) (hc : CI (d - 1) M' sh [v0, v1] me Qi) (k : ∀ x m1, Qi x m1 → Wa M sx d mc ms n0 Q np L (.int x :: st) sh m1 cs sl) : Wa M sx d mc ms n0 Q pc L (v1 :: v0 :: st) sh me cs sl := wa_callS (vs := [v0, v1]) (d' := d - 1) hd hn hl rfl rfl hroom (by omega) hcs hsl pi_ok hc (fun r m1 hr => by obtain ⟨x, rfl, -, hx⟩ := hr; exact k x m1 hx)
theorem ciSN_2 {idx : Nat} {host : String} {M' : MR} {v0 v1 : Value} {Qi : Int32 → Mem → Prop} (hd : decode M.2.1 pc = .ok (.invokestatic idx, 3)) (hn : pc + 3 = np) (hl : LkSN M.1.cls idx M' 2 host) (hroom : (st.map (fun v => v.category)).sum ≤ 8) (hdd : 1 ≤ d) (hcs : cs ≤ mc) (hsl : sl ≤ ms) (hc : CI (d - 1) M' sh [v0, v1] me Qi) (k : ∀ x m1, Qi x m1 → Wa M sx d mc ms n0 Q np L (.int x :: st) sh m1 cs sl) : Wa M sx d mc ms n0 Q pc L (v1 :: v0 :: st) sh me cs sl := wa_callSN (vs := [v0, v1]) (d' := d - 1) hd hn hl rfl rfl hroom (by omega) hcs hsl pi_ok hc (fun r m1 hr => by obtain ⟨x, rfl, -, hx⟩ := hr; exact k x m1 hx)
theorem ciV_2 {idx ci b : Nat} {M' : MR} {v0 v1 : Value} {Qi : Int32 → Mem → Prop} (hd : decode M.2.1 pc = .ok (.invokevirtual idx, 3)) (hn : pc + 3 = np) (hl : LkV M.1.cls idx M' 2 ci) (hs : sh[b]? = some (.inl ci)) (hroom : (st.map (fun v => v.category)).sum ≤ 8) (hdd : 1 ≤ d) (hcs : cs ≤ mc) (hsl : sl ≤ ms) (hc : CI (d - 1) M' sh [.ref b, v0, v1] me Qi) (k : ∀ x m1, Qi x m1 → Wa M sx d mc ms n0 Q np L (.int x :: st) sh m1 cs sl) : Wa M sx d mc ms n0 Q pc L (v1 :: v0 :: .ref b :: st) sh me cs sl := wa_callV (vs := [v0, v1]) (d' := d - 1) hd hn hl hs rfl rfl hroom (by omega) hcs hsl pi_ok hc (fun r m1 hr => by obtain ⟨x, rfl, -, hx⟩ := hr; exact k x m1 hx)
theorem cvS_2 {idx : Nat} {M' : MR} {v0 v1 : Value} {Qv : Mem → Prop} (hd : decode M.2.1 pc = .ok (.invokestatic idx, 3)) (hn : pc + 3 = np) (hl : LkS M.1.cls idx M' 2) (hroom : (st.map (fun v => v.category)).sum ≤ 8) (hdd : 1 ≤ d) (hcs : cs ≤ mc) (hsl : sl ≤ ms) (hc : CV (d - 1) M' sh [v0, v1] me Qv) (k : ∀ m1, Qv m1 → Wa M sx d mc ms n0 Q np L st sh m1 cs sl) : Wa M sx d mc ms n0 Q pc L (v1 :: v0 :: st) sh me cs sl := wa_callS (vs := [v0, v1]) (d' := d - 1) hd hn hl rfl rfl hroom (by omega) hcs hsl pv_ok hc (fun r m1 hr => by obtain ⟨rfl, -, hx⟩ := hr; exact k m1 hx)
theorem cvSN_2 {idx : Nat} {host : String} {M' : MR} {v0 v1 : Value} {Qv : Mem → Prop} (hd : decode M.2.1 pc = .ok (.invokestatic idx, 3)) (hn : pc + 3 = np) (hl : LkSN M.1.cls idx M' 2 host) (hroom : (st.map (fun v => v.category)).sum ≤ 8) (hdd : 1 ≤ d) (hcs : cs ≤ mc) (hsl : sl ≤ ms) (hc : CV (d - 1) M' sh [v0, v1] me Qv) (k : ∀ m1, Qv m1 → Wa M sx d mc ms n0 Q np L st sh m1 cs sl) : Wa M sx d mc ms n0 Q pc L (v1 :: v0 :: st) sh me cs sl := wa_callSN (vs := [v0, v1]) (d' := d - 1) hd hn hl rfl rfl hroom (by omega) hcs hsl pv_ok hc (fun r m1 hr => by obtain ⟨rfl, -, hx⟩ := hr; exact k m1 hx)
theorem cvV_2 {idx ci b : Nat} {M' : MR} {v0 v1 : Value} {Qv : Mem → Prop} (hd : decode M.2.1 pc = .ok (.invokevirtual idx, 3)) (hn : pc + 3 = np) (hl : LkV M.1.cls idx M' 2 ci) (hs : sh[b]? = some (.inl ci)) (hroom : (st.map (fun v => v.category)).sum ≤ 8) (hdd : 1 ≤ d) (hcs : cs ≤ mc) (hsl : sl ≤ ms) (hc : CV (d - 1) M' sh [.ref b, v0, v1] me Qv) (k : ∀ m1, Qv m1 → Wa M sx d mc ms n0 Q np L st sh m1 cs sl) : Wa M sx d mc ms n0 Q pc L (v1 :: v0 :: .ref b :: st) sh me cs sl := wa_callV (vs := [v0, v1]) (d' := d - 1) hd hn hl hs rfl rfl hroom (by omega) hcs hsl pv_ok hc (fun r m1 hr => by obtain ⟨rfl, -, hx⟩ := hr; exact k m1 hx)
theorem ciS_3 {idx : Nat} {M' : MR} {v0 v1 v2 : Value} {Qi : Int32 → Mem → Prop} (hd : decode M.2.1 pc = .ok (.invokestatic idx, 3)) (hn : pc + 3 = np) (hl : LkS M.1.cls idx M' 3) (hroom : (st.map (fun v => v.category)).sum ≤ 8) (hdd : 1 ≤ d) (hcs : cs ≤ mc) (hsl : sl ≤ ms) (hc : CI (d - 1) M' sh [v0, v1, v2] me Qi) (k : ∀ x m1, Qi x m1 → Wa M sx d mc ms n0 Q np L (.int x :: st) sh m1 cs sl) : Wa M sx d mc ms n0 Q pc L (v2 :: v1 :: v0 :: st) sh me cs sl := wa_callS (vs := [v0, v1, v2]) (d' := d - 1) hd hn hl rfl rfl hroom (by omega) hcs hsl pi_ok hc (fun r m1 hr => by obtain ⟨x, rfl, -, hx⟩ := hr; exact k x m1 hx)
theorem ciSN_3 {idx : Nat} {host : String} {M' : MR} {v0 v1 v2 : Value} {Qi : Int32 → Mem → Prop} (hd : decode M.2.1 pc = .ok (.invokestatic idx, 3)) (hn : pc + 3 = np) (hl : LkSN M.1.cls idx M' 3 host) (hroom : (st.map (fun v => v.category)).sum ≤ 8) (hdd : 1 ≤ d) (hcs : cs ≤ mc) (hsl : sl ≤ ms) (hc : CI (d - 1) M' sh [v0, v1, v2] me Qi) (k : ∀ x m1, Qi x m1 → Wa M sx d mc ms n0 Q np L (.int x :: st) sh m1 cs sl) : Wa M sx d mc ms n0 Q pc L (v2 :: v1 :: v0 :: st) sh me cs sl := wa_callSN (vs := [v0, v1, v2]) (d' := d - 1) hd hn hl rfl rfl hroom (by omega) hcs hsl pi_ok hc (fun r m1 hr => by obtain ⟨x, rfl, -, hx⟩ := hr; exact k x m1 hx)
theorem ciV_3 {idx ci b : Nat} {M' : MR} {v0 v1 v2 : Value} {Qi : Int32 → Mem → Prop} (hd : decode M.2.1 pc = .ok (.invokevirtual idx, 3)) (hn : pc + 3 = np) (hl : LkV M.1.cls idx M' 3 ci) (hs : sh[b]? = some (.inl ci)) (hroom : (st.map (fun v => v.category)).sum ≤ 8) (hdd : 1 ≤ d) (hcs : cs ≤ mc) (hsl : sl ≤ ms) (hc : CI (d - 1) M' sh [.ref b, v0, v1, v2] me Qi) (k : ∀ x m1, Qi x m1 → Wa M sx d mc ms n0 Q np L (.int x :: st) sh m1 cs sl) : Wa M sx d mc ms n0 Q pc L (v2 :: v1 :: v0 :: .ref b :: st) sh me cs sl := wa_callV (vs := [v0, v1, v2]) (d' := d - 1) hd hn hl hs rfl rfl hroom (by omega) hcs hsl pi_ok hc (fun r m1 hr => by obtain ⟨x, rfl, -, hx⟩ := hr; exact k x m1 hx)
theorem cvS_3 {idx : Nat} {M' : MR} {v0 v1 v2 : Value} {Qv : Mem → Prop} (hd : decode M.2.1 pc = .ok (.invokestatic idx, 3)) (hn : pc + 3 = np) (hl : LkS M.1.cls idx M' 3) (hroom : (st.map (fun v => v.category)).sum ≤ 8) (hdd : 1 ≤ d) (hcs : cs ≤ mc) (hsl : sl ≤ ms) (hc : CV (d - 1) M' sh [v0, v1, v2] me Qv) (k : ∀ m1, Qv m1 → Wa M sx d mc ms n0 Q np L st sh m1 cs sl) : Wa M sx d mc ms n0 Q pc L (v2 :: v1 :: v0 :: st) sh me cs sl := wa_callS (vs := [v0, v1, v2]) (d' := d - 1) hd hn hl rfl rfl hroom (by omega) hcs hsl pv_ok hc (fun r m1 hr => by obtain ⟨rfl, -, hx⟩ := hr; exact k m1 hx)
theorem cvSN_3 {idx : Nat} {host : String} {M' : MR} {v0 v1 v2 : Value} {Qv : Mem → Prop} (hd : decode M.2.1 pc = .ok (.invokestatic idx, 3)) (hn : pc + 3 = np) (hl : LkSN M.1.cls idx M' 3 host) (hroom : (st.map (fun v => v.category)).sum ≤ 8) (hdd : 1 ≤ d) (hcs : cs ≤ mc) (hsl : sl ≤ ms) (hc : CV (d - 1) M' sh [v0, v1, v2] me Qv) (k : ∀ m1, Qv m1 → Wa M sx d mc ms n0 Q np L st sh m1 cs sl) : Wa M sx d mc ms n0 Q pc L (v2 :: v1 :: v0 :: st) sh me cs sl := wa_callSN (vs := [v0, v1, v2]) (d' := d - 1) hd hn hl rfl rfl hroom (by omega) hcs hsl pv_ok hc (fun r m1 hr => by obtain ⟨rfl, -, hx⟩ := hr; exact k m1 hx)
theorem cvV_3 {idx ci b : Nat} {M' : MR} {v0 v1 v2 : Value} {Qv : Mem → Prop} (hd : decode M.2.1 pc = .ok (.invokevirtual idx, 3)) (hn : pc + 3 = np) (hl : LkV M.1.cls idx M' 3 ci) (hs : sh[b]? = some (.inl ci)) (hroom : (st.map (fun v => v.category)).sum ≤ 8) (hdd : 1 ≤ d) (hcs : cs ≤ mc) (hsl : sl ≤ ms) (hc : CV (d - 1) M' sh [.ref b, v0, v1, v2] me Qv) (k : ∀ m1, Qv m1 → Wa M sx d mc ms n0 Q np L st sh m1 cs sl) : Wa M sx d mc ms n0 Q pc L (v2 :: v1 :: v0 :: .ref b :: st) sh me cs sl := wa_callV (vs := [v0, v1, v2]) (d' := d - 1) hd hn hl hs rfl rfl hroom (by omega) hcs hsl pv_ok hc (fun r m1 hr => by obtain ⟨rfl, -, hx⟩ := hr; exact k m1 hx)
theorem ciS_4 {idx : Nat} {M' : MR} {v0 v1 v2 v3 : Value} {Qi : Int32 → Mem → Prop} (hd : decode M.2.1 pc = .ok (.invokestatic idx, 3)) (hn : pc + 3 = np) (hl : LkS M.1.cls idx M' 4) (hroom : (st.map (fun v => v.category)).sum ≤ 8) (hdd : 1 ≤ d) (hcs : cs ≤ mc) (hsl : sl ≤ ms) (hc : CI (d - 1) M' sh [v0, v1, v2, v3] me Qi) (k : ∀ x m1, Qi x m1 → Wa M sx d mc ms n0 Q np L (.int x :: st) sh m1 cs sl) : Wa M sx d mc ms n0 Q pc L (v3 :: v2 :: v1 :: v0 :: st) sh me cs sl := wa_callS (vs := [v0, v1, v2, v3]) (d' := d - 1) hd hn hl rfl rfl hroom (by omega) hcs hsl pi_ok hc (fun r m1 hr => by obtain ⟨x, rfl, -, hx⟩ := hr; exact k x m1 hx)
theorem ciSN_4 {idx : Nat} {host : String} {M' : MR} {v0 v1 v2 v3 : Value} {Qi : Int32 → Mem → Prop} (hd : decode M.2.1 pc = .ok (.invokestatic idx, 3)) (hn : pc + 3 = np) (hl : LkSN M.1.cls idx M' 4 host) (hroom : (st.map (fun v => v.category)).sum ≤ 8) (hdd : 1 ≤ d) (hcs : cs ≤ mc) (hsl : sl ≤ ms) (hc : CI (d - 1) M' sh [v0, v1, v2, v3] me Qi) (k : ∀ x m1, Qi x m1 → Wa M sx d mc ms n0 Q np L (.int x :: st) sh m1 cs sl) : Wa M sx d mc ms n0 Q pc L (v3 :: v2 :: v1 :: v0 :: st) sh me cs sl := wa_callSN (vs := [v0, v1, v2, v3]) (d' := d - 1) hd hn hl rfl rfl hroom (by omega) hcs hsl pi_ok hc (fun r m1 hr => by obtain ⟨x, rfl, -, hx⟩ := hr; exact k x m1 hx)
theorem ciV_4 {idx ci b : Nat} {M' : MR} {v0 v1 v2 v3 : Value} {Qi : Int32 → Mem → Prop} (hd : decode M.2.1 pc = .ok (.invokevirtual idx, 3)) (hn : pc + 3 = np) (hl : LkV M.1.cls idx M' 4 ci) (hs : sh[b]? = some (.inl ci)) (hroom : (st.map (fun v => v.category)).sum ≤ 8) (hdd : 1 ≤ d) (hcs : cs ≤ mc) (hsl : sl ≤ ms) (hc : CI (d - 1) M' sh [.ref b, v0, v1, v2, v3] me Qi) (k : ∀ x m1, Qi x m1 → Wa M sx d mc ms n0 Q np L (.int x :: st) sh m1 cs sl) : Wa M sx d mc ms n0 Q pc L (v3 :: v2 :: v1 :: v0 :: .ref b :: st) sh me cs sl := wa_callV (vs := [v0, v1, v2, v3]) (d' := d - 1) hd hn hl hs rfl rfl hroom (by omega) hcs hsl pi_ok hc (fun r m1 hr => by obtain ⟨x, rfl, -, hx⟩ := hr; exact k x m1 hx)
theorem cvS_4 {idx : Nat} {M' : MR} {v0 v1 v2 v3 : Value} {Qv : Mem → Prop} (hd : decode M.2.1 pc = .ok (.invokestatic idx, 3)) (hn : pc + 3 = np) (hl : LkS M.1.cls idx M' 4) (hroom : (st.map (fun v => v.category)).sum ≤ 8) (hdd : 1 ≤ d) (hcs : cs ≤ mc) (hsl : sl ≤ ms) (hc : CV (d - 1) M' sh [v0, v1, v2, v3] me Qv) (k : ∀ m1, Qv m1 → Wa M sx d mc ms n0 Q np L st sh m1 cs sl) : Wa M sx d mc ms n0 Q pc L (v3 :: v2 :: v1 :: v0 :: st) sh me cs sl := wa_callS (vs := [v0, v1, v2, v3]) (d' := d - 1) hd hn hl rfl rfl hroom (by omega) hcs hsl pv_ok hc (fun r m1 hr => by obtain ⟨rfl, -, hx⟩ := hr; exact k m1 hx)
theorem cvSN_4 {idx : Nat} {host : String} {M' : MR} {v0 v1 v2 v3 : Value} {Qv : Mem → Prop} (hd : decode M.2.1 pc = .ok (.invokestatic idx, 3)) (hn : pc + 3 = np) (hl : LkSN M.1.cls idx M' 4 host) (hroom : (st.map (fun v => v.category)).sum ≤ 8) (hdd : 1 ≤ d) (hcs : cs ≤ mc) (hsl : sl ≤ ms) (hc : CV (d - 1) M' sh [v0, v1, v2, v3] me Qv) (k : ∀ m1, Qv m1 → Wa M sx d mc ms n0 Q np L st sh m1 cs sl) : Wa M sx d mc ms n0 Q pc L (v3 :: v2 :: v1 :: v0 :: st) sh me cs sl := wa_callSN (vs := [v0, v1, v2, v3]) (d' := d - 1) hd hn hl rfl rfl hroom (by omega) hcs hsl pv_ok hc (fun r m1 hr => by obtain ⟨rfl, -, hx⟩ := hr; exact k m1 hx)
theorem cvV_4 {idx ci b : Nat} {M' : MR} {v0 v1 v2 v3 : Value} {Qv : Mem → Prop} (hd : decode M.2.1 pc = .ok (.invokevirtual idx, 3)) (hn : pc + 3 = np) (hl : LkV M.1.cls idx M' 4 ci) (hs : sh[b]? = some (.inl ci)) (hroom : (st.map (fun v => v.category)).sum ≤ 8) (hdd : 1 ≤ d) (hcs : cs ≤ mc) (hsl : sl ≤ ms) (hc : CV (d - 1) M' sh [.ref b, v0, v1, v2, v3] me Qv) (k : ∀ m1, Qv m1 → Wa M sx d mc ms n0 Q np L st sh m1 cs sl) : Wa M sx d mc ms n0 Q pc L (v3 :: v2 :: v1 :: v0 :: .ref b :: st) sh me cs sl := wa_callV (vs := [v0, v1, v2, v3]) (d' := d - 1) hd hn hl hs rfl rfl hroom (by omega) hcs hsl pv_ok hc (fun r m1 hr => by obtain ⟨rfl, -, hx⟩ := hr; exact k m1 hx)
theorem ciS_5 {idx : Nat} {M' : MR} {v0 v1 v2 v3 v4 : Value} {Qi : Int32 → Mem → Prop} (hd : decode M.2.1 pc = .ok (.invokestatic idx, 3)) (hn : pc + 3 = np) (hl : LkS M.1.cls idx M' 5) (hroom : (st.map (fun v => v.category)).sum ≤ 8) (hdd : 1 ≤ d) (hcs : cs ≤ mc) (hsl : sl ≤ ms) (hc : CI (d - 1) M' sh [v0, v1, v2, v3, v4] me Qi) (k : ∀ x m1, Qi x m1 → Wa M sx d mc ms n0 Q np L (.int x :: st) sh m1 cs sl) : Wa M sx d mc ms n0 Q pc L (v4 :: v3 :: v2 :: v1 :: v0 :: st) sh me cs sl := wa_callS (vs := [v0, v1, v2, v3, v4]) (d' := d - 1) hd hn hl rfl rfl hroom (by omega) hcs hsl pi_ok hc (fun r m1 hr => by obtain ⟨x, rfl, -, hx⟩ := hr; exact k x m1 hx)
theorem ciSN_5 {idx : Nat} {host : String} {M' : MR} {v0 v1 v2 v3 v4 : Value} {Qi : Int32 → Mem → Prop} (hd : decode M.2.1 pc = .ok (.invokestatic idx, 3)) (hn : pc + 3 = np) (hl : LkSN M.1.cls idx M' 5 host) (hroom : (st.map (fun v => v.category)).sum ≤ 8) (hdd : 1 ≤ d) (hcs : cs ≤ mc) (hsl : sl ≤ ms) (hc : CI (d - 1) M' sh [v0, v1, v2, v3, v4] me Qi) (k : ∀ x m1, Qi x m1 → Wa M sx d mc ms n0 Q np L (.int x :: st) sh m1 cs sl) : Wa M sx d mc ms n0 Q pc L (v4 :: v3 :: v2 :: v1 :: v0 :: st) sh me cs sl := wa_callSN (vs := [v0, v1, v2, v3, v4]) (d' := d - 1) hd hn hl rfl rfl hroom (by omega) hcs hsl pi_ok hc (fun r m1 hr => by obtain ⟨x, rfl, -, hx⟩ := hr; exact k x m1 hx)
theorem ciV_5 {idx ci b : Nat} {M' : MR} {v0 v1 v2 v3 v4 : Value} {Qi : Int32 → Mem → Prop} (hd : decode M.2.1 pc = .ok (.invokevirtual idx, 3)) (hn : pc + 3 = np) (hl : LkV M.1.cls idx M' 5 ci) (hs : sh[b]? = some (.inl ci)) (hroom : (st.map (fun v => v.category)).sum ≤ 8) (hdd : 1 ≤ d) (hcs : cs ≤ mc) (hsl : sl ≤ ms) (hc : CI (d - 1) M' sh [.ref b, v0, v1, v2, v3, v4] me Qi) (k : ∀ x m1, Qi x m1 → Wa M sx d mc ms n0 Q np L (.int x :: st) sh m1 cs sl) : Wa M sx d mc ms n0 Q pc L (v4 :: v3 :: v2 :: v1 :: v0 :: .ref b :: st) sh me cs sl := wa_callV (vs := [v0, v1, v2, v3, v4]) (d' := d - 1) hd hn hl hs rfl rfl hroom (by omega) hcs hsl pi_ok hc (fun r m1 hr => by obtain ⟨x, rfl, -, hx⟩ := hr; exact k x m1 hx)
theorem cvS_5 {idx : Nat} {M' : MR} {v0 v1 v2 v3 v4 : Value} {Qv : Mem → Prop} (hd : decode M.2.1 pc = .ok (.invokestatic idx, 3)) (hn : pc + 3 = np) (hl : LkS M.1.cls idx M' 5) (hroom : (st.map (fun v => v.category)).sum ≤ 8) (hdd : 1 ≤ d) (hcs : cs ≤ mc) (hsl : sl ≤ ms) (hc : CV (d - 1) M' sh [v0, v1, v2, v3, v4] me Qv) (k : ∀ m1, Qv m1 → Wa M sx d mc ms n0 Q np L st sh m1 cs sl) : Wa M sx d mc ms n0 Q pc L (v4 :: v3 :: v2 :: v1 :: v0 :: st) sh me cs sl := wa_callS (vs := [v0, v1, v2, v3, v4]) (d' := d - 1) hd hn hl rfl rfl hroom (by omega) hcs hsl pv_ok hc (fun r m1 hr => by obtain ⟨rfl, -, hx⟩ := hr; exact k m1 hx)
theorem cvSN_5 {idx : Nat} {host : String} {M' : MR} {v0 v1 v2 v3 v4 : Value} {Qv : Mem → Prop} (hd : decode M.2.1 pc = .ok (.invokestatic idx, 3)) (hn : pc + 3 = np) (hl : LkSN M.1.cls idx M' 5 host) (hroom : (st.map (fun v => v.category)).sum ≤ 8) (hdd : 1 ≤ d) (hcs : cs ≤ mc) (hsl : sl ≤ ms) (hc : CV (d - 1) M' sh [v0, v1, v2, v3, v4] me Qv) (k : ∀ m1, Qv m1 → Wa M sx d mc ms n0 Q np L st sh m1 cs sl) : Wa M sx d mc ms n0 Q pc L (v4 :: v3 :: v2 :: v1 :: v0 :: st) sh me cs sl := wa_callSN (vs := [v0, v1, v2, v3, v4]) (d' := d - 1) hd hn hl rfl rfl hroom (by omega) hcs hsl pv_ok hc (fun r m1 hr => by obtain ⟨rfl, -, hx⟩ := hr; exact k m1 hx)
theorem cvV_5 {idx ci b : Nat} {M' : MR} {v0 v1 v2 v3 v4 : Value} {Qv : Mem → Prop} (hd : decode M.2.1 pc = .ok (.invokevirtual idx, 3)) (hn : pc + 3 = np) (hl : LkV M.1.cls idx M' 5 ci) (hs : sh[b]? = some (.inl ci)) (hroom : (st.map (fun v => v.category)).sum ≤ 8) (hdd : 1 ≤ d) (hcs : cs ≤ mc) (hsl : sl ≤ ms) (hc : CV (d - 1) M' sh [.ref b, v0, v1, v2, v3, v4] me Qv) (k : ∀ m1, Qv m1 → Wa M sx d mc ms n0 Q np L st sh m1 cs sl) : Wa M sx d mc ms n0 Q pc L (v4 :: v3 :: v2 :: v1 :: v0 :: .ref b :: st) sh me cs sl := wa_callV (vs := [v0, v1, v2, v3, v4]) (d' := d - 1) hd hn hl hs rfl rfl hroom (by omega) hcs hsl pv_ok hc (fun r m1 hr => by obtain ⟨rfl, -, hx⟩ := hr; exact k m1 hx)
theorem ciS_6 {idx : Nat} {M' : MR} {v0 v1 v2 v3 v4 v5 : Value} {Qi : Int32 → Mem → Prop} (hd : decode M.2.1 pc = .ok (.invokestatic idx, 3)) (hn : pc + 3 = np) (hl : LkS M.1.cls idx M' 6) (hroom : (st.map (fun v => v.category)).sum ≤ 8) (hdd : 1 ≤ d) (hcs : cs ≤ mc) (hsl : sl ≤ ms) (hc : CI (d - 1) M' sh [v0, v1, v2, v3, v4, v5] me Qi) (k : ∀ x m1, Qi x m1 → Wa M sx d mc ms n0 Q np L (.int x :: st) sh m1 cs sl) : Wa M sx d mc ms n0 Q pc L (v5 :: v4 :: v3 :: v2 :: v1 :: v0 :: st) sh me cs sl := wa_callS (vs := [v0, v1, v2, v3, v4, v5]) (d' := d - 1) hd hn hl rfl rfl hroom (by omega) hcs hsl pi_ok hc (fun r m1 hr => by obtain ⟨x, rfl, -, hx⟩ := hr; exact k x m1 hx)
theorem ciSN_6 {idx : Nat} {host : String} {M' : MR} {v0 v1 v2 v3 v4 v5 : Value} {Qi : Int32 → Mem → Prop} (hd : decode M.2.1 pc = .ok (.invokestatic idx, 3)) (hn : pc + 3 = np) (hl : LkSN M.1.cls idx M' 6 host) (hroom : (st.map (fun v => v.category)).sum ≤ 8) (hdd : 1 ≤ d) (hcs : cs ≤ mc) (hsl : sl ≤ ms) (hc : CI (d - 1) M' sh [v0, v1, v2, v3, v4, v5] me Qi) (k : ∀ x m1, Qi x m1 → Wa M sx d mc ms n0 Q np L (.int x :: st) sh m1 cs sl) : Wa M sx d mc ms n0 Q pc L (v5 :: v4 :: v3 :: v2 :: v1 :: v0 :: st) sh me cs sl := wa_callSN (vs := [v0, v1, v2, v3, v4, v5]) (d' := d - 1) hd hn hl rfl rfl hroom (by omega) hcs hsl pi_ok hc (fun r m1 hr => by obtain ⟨x, rfl, -, hx⟩ := hr; exact k x m1 hx)
theorem ciV_6 {idx ci b : Nat} {M' : MR} {v0 v1 v2 v3 v4 v5 : Value} {Qi : Int32 → Mem → Prop} (hd : decode M.2.1 pc = .ok (.invokevirtual idx, 3)) (hn : pc + 3 = np) (hl : LkV M.1.cls idx M' 6 ci) (hs : sh[b]? = some (.inl ci)) (hroom : (st.map (fun v => v.category)).sum ≤ 8) (hdd : 1 ≤ d) (hcs : cs ≤ mc) (hsl : sl ≤ ms) (hc : CI (d - 1) M' sh [.ref b, v0, v1, v2, v3, v4, v5] me Qi) (k : ∀ x m1, Qi x m1 → Wa M sx d mc ms n0 Q np L (.int x :: st) sh m1 cs sl) : Wa M sx d mc ms n0 Q pc L (v5 :: v4 :: v3 :: v2 :: v1 :: v0 :: .ref b :: st) sh me cs sl := wa_callV (vs := [v0, v1, v2, v3, v4, v5]) (d' := d - 1) hd hn hl hs rfl rfl hroom (by omega) hcs hsl pi_ok hc (fun r m1 hr => by obtain ⟨x, rfl, -, hx⟩ := hr; exact k x m1 hx)
theorem cvS_6 {idx : Nat} {M' : MR} {v0 v1 v2 v3 v4 v5 : Value} {Qv : Mem → Prop} (hd : decode M.2.1 pc = .ok (.invokestatic idx, 3)) (hn : pc + 3 = np) (hl : LkS M.1.cls idx M' 6) (hroom : (st.map (fun v => v.category)).sum ≤ 8) (hdd : 1 ≤ d) (hcs : cs ≤ mc) (hsl : sl ≤ ms) (hc : CV (d - 1) M' sh [v0, v1, v2, v3, v4, v5] me Qv) (k : ∀ m1, Qv m1 → Wa M sx d mc ms n0 Q np L st sh m1 cs sl) : Wa M sx d mc ms n0 Q pc L (v5 :: v4 :: v3 :: v2 :: v1 :: v0 :: st) sh me cs sl := wa_callS (vs := [v0, v1, v2, v3, v4, v5]) (d' := d - 1) hd hn hl rfl rfl hroom (by omega) hcs hsl pv_ok hc (fun r m1 hr => by obtain ⟨rfl, -, hx⟩ := hr; exact k m1 hx)
theorem cvSN_6 {idx : Nat} {host : String} {M' : MR} {v0 v1 v2 v3 v4 v5 : Value} {Qv : Mem → Prop} (hd : decode M.2.1 pc = .ok (.invokestatic idx, 3)) (hn : pc + 3 = np) (hl : LkSN M.1.cls idx M' 6 host) (hroom : (st.map (fun v => v.category)).sum ≤ 8) (hdd : 1 ≤ d) (hcs : cs ≤ mc) (hsl : sl ≤ ms) (hc : CV (d - 1) M' sh [v0, v1, v2, v3, v4, v5] me Qv) (k : ∀ m1, Qv m1 → Wa M sx d mc ms n0 Q np L st sh m1 cs sl) : Wa M sx d mc ms n0 Q pc L (v5 :: v4 :: v3 :: v2 :: v1 :: v0 :: st) sh me cs sl := wa_callSN (vs := [v0, v1, v2, v3, v4, v5]) (d' := d - 1) hd hn hl rfl rfl hroom (by omega) hcs hsl pv_ok hc (fun r m1 hr => by obtain ⟨rfl, -, hx⟩ := hr; exact k m1 hx)
theorem cvV_6 {idx ci b : Nat} {M' : MR} {v0 v1 v2 v3 v4 v5 : Value} {Qv : Mem → Prop} (hd : decode M.2.1 pc = .ok (.invokevirtual idx, 3)) (hn : pc + 3 = np) (hl : LkV M.1.cls idx M' 6 ci) (hs : sh[b]? = some (.inl ci)) (hroom : (st.map (fun v => v.category)).sum ≤ 8) (hdd : 1 ≤ d) (hcs : cs ≤ mc) (hsl : sl ≤ ms) (hc : CV (d - 1) M' sh [.ref b, v0, v1, v2, v3, v4, v5] me Qv) (k : ∀ m1, Qv m1 → Wa M sx d mc ms n0 Q np L st sh m1 cs sl) : Wa M sx d mc ms n0 Q pc L (v5 :: v4 :: v3 :: v2 :: v1 :: v0 :: .ref b :: st) sh me cs sl := wa_callV (vs := [v0, v1, v2, v3, v4, v5]) (d' := d - 1) hd hn hl hs rfl rfl hroom (by omega) hcs hsl pv_ok hc (fun r m1 hr => by obtain ⟨rfl, -, hx⟩ := hr; exact k m1 hx)
end FAM
end
section
abbrev mX0_init : MR := (yX0_init, cX0_init, 1, none)
abbrev mX0_find : MR := (yX0_find, cX0_find, 4, none)
abbrev mX0_findThirds : MR := (yX0_findThirds, cX0_findThirds, 5, none)
abbrev mX0_keepIfBetter : MR := (yX0_keepIfBetter, cX0_keepIfBetter, 6, none)
abbrev mX0_savedBy : MR := (yX0_savedBy, cX0_savedBy, 6, (some .int))
abbrev mX0_gain : MR := (yX0_gain, cX0_gain, 4, (some .int))
abbrev mX1_init : MR := (yX1_init, cX1_init, 1, none)
abbrev mX1_begin : MR := (yX1_begin, cX1_begin, 4, none)
abbrev mX1_becomeLike : MR := (yX1_becomeLike, cX1_becomeLike, 2, none)
abbrev mX1_wearAs : MR := (yX1_wearAs, cX1_wearAs, 2, none)
abbrev mX1_wornSet : MR := (yX1_wornSet, cX1_wornSet, 1, (some .int))
abbrev mX1_isBetween : MR := (yX1_isBetween, cX1_isBetween, 2, (some .boolean))
abbrev mX1_thickTogether : MR := (yX1_thickTogether, cX1_thickTogether, 3, (some .int))
abbrev mX1_amountsTogether : MR := (yX1_amountsTogether, cX1_amountsTogether, 3, (some .int))
abbrev mX1_owedTo : MR := (yX1_owedTo, cX1_owedTo, 4, (some .int))
abbrev mX1_putOn : MR := (yX1_putOn, cX1_putOn, 5, none)
abbrev mX1_takeOff : MR := (yX1_takeOff, cX1_takeOff, 3, none)
abbrev mX1_payOff : MR := (yX1_payOff, cX1_payOff, 2, none)
abbrev mX1_swapOutermost : MR := (yX1_swapOutermost, cX1_swapOutermost, 2, none)
abbrev mX1_swapItems : MR := (yX1_swapItems, cX1_swapItems, 5, none)
abbrev mX1_passNight : MR := (yX1_passNight, cX1_passNight, 3, none)
abbrev mX1_isOverburdened : MR := (yX1_isOverburdened, cX1_isOverburdened, 2, (some .boolean))
abbrev mX1_fall : MR := (yX1_fall, cX1_fall, 2, none)
abbrev mX2_init : MR := (yX2_init, cX2_init, 1, none)
abbrev mX2_plan : MR := (yX2_plan, cX2_plan, 3, none)
abbrev mX2_tryEach : MR := (yX2_tryEach, cX2_tryEach, 7, none)
abbrev mX2_payNext : MR := (yX2_payNext, cX2_payNext, 14, none)
abbrev mX2_taxesOf : MR := (yX2_taxesOf, cX2_taxesOf, 4, (some .int))
abbrev mX2_growAmounts : MR := (yX2_growAmounts, cX2_growAmounts, 4, none)
abbrev mX2_keepIfBetter : MR := (yX2_keepIfBetter, cX2_keepIfBetter, 4, none)
abbrev mX3_init : MR := (yX3_init, cX3_init, 1, none)
abbrev mX3_begin : MR := (yX3_begin, cX3_begin, 3, none)
abbrev mX3_narrowed : MR := (yX3_narrowed, cX3_narrowed, 2, (some .int))
abbrev mX3_hasItems : MR := (yX3_hasItems, cX3_hasItems, 3, (some .boolean))
abbrev mX3_refusal : MR := (yX3_refusal, cX3_refusal, 4, (some .int))
abbrev mX4_init : MR := (yX4_init, cX4_init, 1, none)
abbrev mX4_isPrintable : MR := (yX4_isPrintable, cX4_isPrintable, 4, (some .boolean))
abbrev mX4_append : MR := (yX4_append, cX4_append, 5, none)
abbrev mX4_readCoats : MR := (yX4_readCoats, cX4_readCoats, 3, (some .int))
abbrev mX4_readCoat : MR := (yX4_readCoat, cX4_readCoat, 6, (some .boolean))
abbrev mX4_nextByte : MR := (yX4_nextByte, cX4_nextByte, 1, (some .int))
abbrev mX4_skipIf : MR := (yX4_skipIf, cX4_skipIf, 2, (some .boolean))
abbrev mX4_readNumber : MR := (yX4_readNumber, cX4_readNumber, 5, (some .int))
abbrev mX4_readDigit : MR := (yX4_readDigit, cX4_readDigit, 2, (some .int))
abbrev mX5_init : MR := (yX5_init, cX5_init, 2, none)
abbrev mX5_becomeLike : MR := (yX5_becomeLike, cX5_becomeLike, 3, none)
abbrev mX5_hasPerson : MR := (yX5_hasPerson, cX5_hasPerson, 2, (some .boolean))
abbrev mX5_hasCoat : MR := (yX5_hasCoat, cX5_hasCoat, 3, (some .boolean))
abbrev mX5_coatsOfAll : MR := (yX5_coatsOfAll, cX5_coatsOfAll, 3, (some .int))
abbrev mX5_fallenOnes : MR := (yX5_fallenOnes, cX5_fallenOnes, 3, (some .int))
abbrev mX5_heatOn : MR := (yX5_heatOn, cX5_heatOn, 3, (some .int))
abbrev mX5_passNightsUntil : MR := (yX5_passNightsUntil, cX5_passNightsUntil, 3, none)
abbrev mX5_passNight : MR := (yX5_passNight, cX5_passNight, 2, none)
abbrev mX5_canBePaid : MR := (yX5_canBePaid, cX5_canBePaid, 5, (some .boolean))
abbrev mX5_isSetOfWares : MR := (yX5_isSetOfWares, cX5_isSetOfWares, 7, (some .boolean))
abbrev mX6_init : MR := (yX6_init, cX6_init, 2, none)
abbrev mX6_person : MR := (yX6_person, cX6_person, 4, (some .int))
abbrev mX6_of : MR := (yX6_of, cX6_of, 4, (some .int))
abbrev mX6_coat : MR := (yX6_coat, cX6_coat, 5, (some .int))
abbrev mX6_tax : MR := (yX6_tax, cX6_tax, 6, (some .int))
abbrev mX6_heat : MR := (yX6_heat, cX6_heat, 4, (some .int))
abbrev mX6_rule : MR := (yX6_rule, cX6_rule, 4, (some .int))
abbrev mX6_type : MR := (yX6_type, cX6_type, 4, (some .int))
abbrev mX6_coats : MR := (yX6_coats, cX6_coats, 3, (some .int))
abbrev mX6_count : MR := (yX6_count, cX6_count, 2, (some .int))
abbrev mX6_take : MR := (yX6_take, cX6_take, 7, (some .int))
abbrev mX6_pay : MR := (yX6_pay, cX6_pay, 4, (some .int))
abbrev mX6_nights : MR := (yX6_nights, cX6_nights, 2, (some .int))
abbrev mX6_cut : MR := (yX6_cut, cX6_cut, 4, (some .int))
abbrev mX6_ring : MR := (yX6_ring, cX6_ring, 9, (some .int))
abbrev mX6_rings : MR := (yX6_rings, cX6_rings, 2, (some .int))
abbrev mX6_owed : MR := (yX6_owed, cX6_owed, 4, (some .int))
abbrev mX6_free : MR := (yX6_free, cX6_free, 4, (some .int))
abbrev mX6_saves : MR := (yX6_saves, cX6_saves, 5, (some .int))
abbrev mX6_bears : MR := (yX6_bears, cX6_bears, 4, (some .int))
abbrev mX6_ware : MR := (yX6_ware, cX6_ware, 3, (some .int))
abbrev mX6_under : MR := (yX6_under, cX6_under, 8, (some .int))
abbrev mX6_image : MR := (yX6_image, cX6_image, 1, (some .int))
abbrev mX6_restore : MR := (yX6_restore, cX6_restore, 1, (some .int))
abbrev mX6_judged : MR := (yX6_judged, cX6_judged, 9, (some .int))
abbrev mX6_sheet : MR := (yX6_sheet, cX6_sheet, 4, (some .int))
abbrev mX6_drop : MR := (yX6_drop, cX6_drop, 3, (some .int))
abbrev mX6_item : MR := (yX6_item, cX6_item, 7, (some .int))
abbrev mX6_copy : MR := (yX6_copy, cX6_copy, 8, (some .int))
abbrev mX6_isWithin : MR := (yX6_isWithin, cX6_isWithin, 3, (some .boolean))
abbrev mX6_isLender : MR := (yX6_isLender, cX6_isLender, 1, (some .boolean))
abbrev mX6_isSheet : MR := (yX6_isSheet, cX6_isSheet, 1, (some .boolean))
abbrev mX6_isLane : MR := (yX6_isLane, cX6_isLane, 1, (some .boolean))
abbrev mX6_isIn : MR := (yX6_isIn, cX6_isIn, 2, (some .boolean))
abbrev mX6_mayComeOff : MR := (yX6_mayComeOff, cX6_mayComeOff, 5, (some .boolean))
abbrev mX6_amountNextDay : MR := (yX6_amountNextDay, cX6_amountNextDay, 2, (some .int))
abbrev mX6_purseNextDay : MR := (yX6_purseNextDay, cX6_purseNextDay, 3, (some .int))
abbrev mX7_in : MR := (yX7_in, cX7_in, 6, (some .boolean))
abbrev mX7_init : MR := (yX7_init, cX7_init, 2, none)
abbrev mX7_isOne : MR := (yX7_isOne, cX7_isOne, 2, (some .boolean))
abbrev mX7_isLender : MR := (yX7_isLender, cX7_isLender, 1, (some .boolean))
abbrev mX7_person : MR := (yX7_person, cX7_person, 5, (some .int))
abbrev mX7_thickOf : MR := (yX7_thickOf, cX7_thickOf, 4, (some .int))
abbrev mX7_of : MR := (yX7_of, cX7_of, 5, (some .int))
abbrev mX7_isCoat : MR := (yX7_isCoat, cX7_isCoat, 3, (some .boolean))
abbrev mX7_coat : MR := (yX7_coat, cX7_coat, 4, (some .int))
abbrev mX7_tax : MR := (yX7_tax, cX7_tax, 5, (some .int))
abbrev mX7_heat : MR := (yX7_heat, cX7_heat, 4, (some .int))
abbrev mX7_rule : MR := (yX7_rule, cX7_rule, 4, (some .int))
abbrev mX7_type : MR := (yX7_type, cX7_type, 5, (some .int))
abbrev mX7_here : MR := (yX7_here, cX7_here, 1, (some .int))
abbrev mX7_has : MR := (yX7_has, cX7_has, 3, (some .boolean))
abbrev mX7_byteOf : MR := (yX7_byteOf, cX7_byteOf, 4, (some .int))
abbrev mX7_number : MR := (yX7_number, cX7_number, 5, (some .int))
abbrev mX7_coats : MR := (yX7_coats, cX7_coats, 5, (some .int))
abbrev mX7_count : MR := (yX7_count, cX7_count, 5, (some .int))
abbrev mX7_most : MR := (yX7_most, cX7_most, 1, (some .int))
abbrev mX7_rests : MR := (yX7_rests, cX7_rests, 6, none)
abbrev mX7_isTooHot : MR := (yX7_isTooHot, cX7_isTooHot, 4, (some .boolean))
abbrev mX7_sleeps : MR := (yX7_sleeps, cX7_sleeps, 3, none)
abbrev mX7_nights : MR := (yX7_nights, cX7_nights, 3, (some .int))
abbrev mX7_take : MR := (yX7_take, cX7_take, 8, (some .int))
abbrev mX7_mayOff : MR := (yX7_mayOff, cX7_mayOff, 3, (some .boolean))
abbrev mX7_off : MR := (yX7_off, cX7_off, 5, none)
abbrev mX7_pay : MR := (yX7_pay, cX7_pay, 5, (some .int))
abbrev mX7_isBetween : MR := (yX7_isBetween, cX7_isBetween, 3, (some .boolean))
abbrev mX7_cut : MR := (yX7_cut, cX7_cut, 3, (some .int))
abbrev mX7_outer : MR := (yX7_outer, cX7_outer, 2, (some .int))
abbrev mX7_gains : MR := (yX7_gains, cX7_gains, 3, (some .int))
abbrev mX7_saved : MR := (yX7_saved, cX7_saved, 8, (some .int))
abbrev mX7_ring : MR := (yX7_ring, cX7_ring, 9, (some .int))
abbrev mX7_rings : MR := (yX7_rings, cX7_rings, 10, (some .int))
abbrev mX7_owed : MR := (yX7_owed, cX7_owed, 6, (some .int))
abbrev mX7_turns : MR := (yX7_turns, cX7_turns, 7, (some .boolean))
abbrev mX7_freeBy : MR := (yX7_freeBy, cX7_freeBy, 9, (some .int))
abbrev mX7_starts : MR := (yX7_starts, cX7_starts, 3, none)
abbrev mX7_isLawful : MR := (yX7_isLawful, cX7_isLawful, 4, (some .boolean))
abbrev mX7_bestFree : MR := (yX7_bestFree, cX7_bestFree, 8, (some .int))
abbrev mX7_free : MR := (yX7_free, cX7_free, 5, (some .int))
abbrev mX7_saves : MR := (yX7_saves, cX7_saves, 5, (some .int))
abbrev mX7_bears : MR := (yX7_bears, cX7_bears, 3, (some .int))
abbrev mX7_ware : MR := (yX7_ware, cX7_ware, 3, (some .int))
abbrev mX7_under : MR := (yX7_under, cX7_under, 11, (some .int))
abbrev mX7_lay : MR := (yX7_lay, cX7_lay, 4, (some .int))
abbrev mX7_gives : MR := (yX7_gives, cX7_gives, 4, (some .int))
abbrev mX7_image : MR := (yX7_image, cX7_image, 2, (some .int))
abbrev mX7_restore : MR := (yX7_restore, cX7_restore, 2, (some .int))
abbrev mX7_isSheet : MR := (yX7_isSheet, cX7_isSheet, 1, (some .boolean))
abbrev mX7_isLane : MR := (yX7_isLane, cX7_isLane, 1, (some .boolean))
abbrev mX7_finds : MR := (yX7_finds, cX7_finds, 5, (some .int))
abbrev mX7_judged : MR := (yX7_judged, cX7_judged, 11, (some .int))
abbrev mX7_sheet : MR := (yX7_sheet, cX7_sheet, 5, (some .int))
abbrev mX7_drop : MR := (yX7_drop, cX7_drop, 2, (some .int))
abbrev mX7_item : MR := (yX7_item, cX7_item, 6, (some .int))
abbrev mX7_copy : MR := (yX7_copy, cX7_copy, 7, (some .int))
abbrev mJ9_max_7cf53 : MR := (yJ9_max_7cf53, cJ9_max_7cf53, 2, (some .int))
abbrev mJ9_min_7cf53 : MR := (yJ9_min_7cf53, cJ9_min_7cf53, 2, (some .int))
abbrev mJ7_fill_53178 : MR := (yJ7_fill_53178, cJ7_fill_53178, 4, none)
theorem wc_X0_init : Cond.code yX0_init cX0_init 1 none ∈ WS := inWS 209 (by decide +kernel) rfl
theorem wi_X0 : Cond.initialized RX0 ∈ WS := inWS 42 (by decide +kernel) rfl
theorem ok_X0_init : MOk mX0_init 0 := ⟨wc_X0_init, ⟨by decide, by decide, by decide +kernel⟩, by decide, wi_X0⟩
theorem wc_X0_find : Cond.code yX0_find cX0_find 4 none ∈ WS := inWS 516 (by decide +kernel) rfl
theorem ok_X0_find : MOk mX0_find 1 := ⟨wc_X0_find, ⟨by decide, by decide, by decide +kernel⟩, by decide, wi_X0⟩
theorem wc_X0_findThirds : Cond.code yX0_findThirds cX0_findThirds 5 none ∈ WS := inWS 525 (by decide +kernel) rfl
theorem ok_X0_findThirds : MOk mX0_findThirds 3 := ⟨wc_X0_findThirds, ⟨by decide, by decide, by decide +kernel⟩, by decide, wi_X0⟩
theorem wc_X0_keepIfBetter : Cond.code yX0_keepIfBetter cX0_keepIfBetter 6 none ∈ WS := inWS 521 (by decide +kernel) rfl
theorem ok_X0_keepIfBetter : MOk mX0_keepIfBetter 5 := ⟨wc_X0_keepIfBetter, ⟨by decide, by decide, by decide +kernel⟩, by decide, wi_X0⟩
theorem wc_X0_savedBy : Cond.code yX0_savedBy cX0_savedBy 6 (some .int) ∈ WS := inWS 498 (by decide +kernel) rfl
theorem ok_X0_savedBy : MOk mX0_savedBy 3 := ⟨wc_X0_savedBy, ⟨by decide, by decide, by decide +kernel⟩, by decide, wi_X0⟩
theorem wc_X0_gain : Cond.code yX0_gain cX0_gain 4 (some .int) ∈ WS := inWS 501 (by decide +kernel) rfl
theorem ok_X0_gain : MOk mX0_gain 2 := ⟨wc_X0_gain, ⟨by decide, by decide, by decide +kernel⟩, by decide, wi_X0⟩
theorem wc_X1_init : Cond.code yX1_init cX1_init 1 none ∈ WS := inWS 68 (by decide +kernel) rfl
theorem wi_X1 : Cond.initialized RX1 ∈ WS := inWS 40 (by decide +kernel) rfl
theorem ok_X1_init : MOk mX1_init 0 := ⟨wc_X1_init, ⟨by decide, by decide, by decide +kernel⟩, by decide, wi_X1⟩
theorem wc_X1_begin : Cond.code yX1_begin cX1_begin 4 none ∈ WS := inWS 303 (by decide +kernel) rfl
theorem ok_X1_begin : MOk mX1_begin 3 := ⟨wc_X1_begin, ⟨by decide, by decide, by decide +kernel⟩, by decide, wi_X1⟩
theorem wc_X1_becomeLike : Cond.code yX1_becomeLike cX1_becomeLike 2 none ∈ WS := inWS 579 (by decide +kernel) rfl
theorem ok_X1_becomeLike : MOk mX1_becomeLike 1 := ⟨wc_X1_becomeLike, ⟨by decide, by decide, by decide +kernel⟩, by decide, wi_X1⟩
theorem wc_X1_wearAs : Cond.code yX1_wearAs cX1_wearAs 2 none ∈ WS := inWS 403 (by decide +kernel) rfl
theorem ok_X1_wearAs : MOk mX1_wearAs 1 := ⟨wc_X1_wearAs, ⟨by decide, by decide, by decide +kernel⟩, by decide, wi_X1⟩
theorem wc_X1_wornSet : Cond.code yX1_wornSet cX1_wornSet 1 (some .int) ∈ WS := inWS 432 (by decide +kernel) rfl
theorem ok_X1_wornSet : MOk mX1_wornSet 0 := ⟨wc_X1_wornSet, ⟨by decide, by decide, by decide +kernel⟩, by decide, wi_X1⟩
theorem wc_X1_isBetween : Cond.code yX1_isBetween cX1_isBetween 2 (some .boolean) ∈ WS := inWS 490 (by decide +kernel) rfl
theorem ok_X1_isBetween : MOk mX1_isBetween 1 := ⟨wc_X1_isBetween, ⟨by decide, by decide, by decide +kernel⟩, by decide, wi_X1⟩
theorem wc_X1_thickTogether : Cond.code yX1_thickTogether cX1_thickTogether 3 (some .int) ∈ WS := inWS 319 (by decide +kernel) rfl
theorem ok_X1_thickTogether : MOk mX1_thickTogether 0 := ⟨wc_X1_thickTogether, ⟨by decide, by decide, by decide +kernel⟩, by decide, wi_X1⟩
theorem wc_X1_amountsTogether : Cond.code yX1_amountsTogether cX1_amountsTogether 3 (some .int) ∈ WS := inWS 323 (by decide +kernel) rfl
theorem ok_X1_amountsTogether : MOk mX1_amountsTogether 0 := ⟨wc_X1_amountsTogether, ⟨by decide, by decide, by decide +kernel⟩, by decide, wi_X1⟩
theorem wc_X1_owedTo : Cond.code yX1_owedTo cX1_owedTo 4 (some .int) ∈ WS := inWS 533 (by decide +kernel) rfl
theorem ok_X1_owedTo : MOk mX1_owedTo 1 := ⟨wc_X1_owedTo, ⟨by decide, by decide, by decide +kernel⟩, by decide, wi_X1⟩
theorem wc_X1_putOn : Cond.code yX1_putOn cX1_putOn 5 none ∈ WS := inWS 399 (by decide +kernel) rfl
theorem ok_X1_putOn : MOk mX1_putOn 4 := ⟨wc_X1_putOn, ⟨by decide, by decide, by decide +kernel⟩, by decide, wi_X1⟩
theorem wc_X1_takeOff : Cond.code yX1_takeOff cX1_takeOff 3 none ∈ WS := inWS 443 (by decide +kernel) rfl
theorem ok_X1_takeOff : MOk mX1_takeOff 1 := ⟨wc_X1_takeOff, ⟨by decide, by decide, by decide +kernel⟩, by decide, wi_X1⟩
theorem wc_X1_payOff : Cond.code yX1_payOff cX1_payOff 2 none ∈ WS := inWS 439 (by decide +kernel) rfl
theorem ok_X1_payOff : MOk mX1_payOff 1 := ⟨wc_X1_payOff, ⟨by decide, by decide, by decide +kernel⟩, by decide, wi_X1⟩
theorem wc_X1_swapOutermost : Cond.code yX1_swapOutermost cX1_swapOutermost 2 none ∈ WS := inWS 505 (by decide +kernel) rfl
theorem ok_X1_swapOutermost : MOk mX1_swapOutermost 1 := ⟨wc_X1_swapOutermost, ⟨by decide, by decide, by decide +kernel⟩, by decide, wi_X1⟩
theorem wc_X1_swapItems : Cond.code yX1_swapItems cX1_swapItems 5 none ∈ WS := inWS 508 (by decide +kernel) rfl
theorem ok_X1_swapItems : MOk mX1_swapItems 4 := ⟨wc_X1_swapItems, ⟨by decide, by decide, by decide +kernel⟩, by decide, wi_X1⟩
theorem wc_X1_passNight : Cond.code yX1_passNight cX1_passNight 3 none ∈ WS := inWS 459 (by decide +kernel) rfl
theorem ok_X1_passNight : MOk mX1_passNight 0 := ⟨wc_X1_passNight, ⟨by decide, by decide, by decide +kernel⟩, by decide, wi_X1⟩
theorem wc_X1_isOverburdened : Cond.code yX1_isOverburdened cX1_isOverburdened 2 (some .boolean) ∈ WS := inWS 476 (by decide +kernel) rfl
theorem ok_X1_isOverburdened : MOk mX1_isOverburdened 1 := ⟨wc_X1_isOverburdened, ⟨by decide, by decide, by decide +kernel⟩, by decide, wi_X1⟩
theorem wc_X1_fall : Cond.code yX1_fall cX1_fall 2 none ∈ WS := inWS 482 (by decide +kernel) rfl
theorem ok_X1_fall : MOk mX1_fall 1 := ⟨wc_X1_fall, ⟨by decide, by decide, by decide +kernel⟩, by decide, wi_X1⟩
theorem wc_X2_init : Cond.code yX2_init cX2_init 1 none ∈ WS := inWS 176 (by decide +kernel) rfl
theorem wi_X2 : Cond.initialized RX2 ∈ WS := inWS 41 (by decide +kernel) rfl
theorem ok_X2_init : MOk mX2_init 0 := ⟨wc_X2_init, ⟨by decide, by decide, by decide +kernel⟩, by decide, wi_X2⟩
theorem wc_X2_plan : Cond.code yX2_plan cX2_plan 3 none ∈ WS := inWS 541 (by decide +kernel) rfl
theorem ok_X2_plan : MOk mX2_plan 2 := ⟨wc_X2_plan, ⟨by decide, by decide, by decide +kernel⟩, by decide, wi_X2⟩
theorem wc_X2_tryEach : Cond.code yX2_tryEach cX2_tryEach 7 none ∈ WS := inWS 547 (by decide +kernel) rfl
theorem ok_X2_tryEach : MOk mX2_tryEach 5 := ⟨wc_X2_tryEach, ⟨by decide, by decide, by decide +kernel⟩, by decide, wi_X2⟩
theorem wc_X2_payNext : Cond.code yX2_payNext cX2_payNext 14 none ∈ WS := inWS 559 (by decide +kernel) rfl
theorem ok_X2_payNext : MOk mX2_payNext 5 := ⟨wc_X2_payNext, ⟨by decide, by decide, by decide +kernel⟩, by decide, wi_X2⟩
theorem wc_X2_taxesOf : Cond.code yX2_taxesOf cX2_taxesOf 4 (some .int) ∈ WS := inWS 563 (by decide +kernel) rfl
theorem ok_X2_taxesOf : MOk mX2_taxesOf 1 := ⟨wc_X2_taxesOf, ⟨by decide, by decide, by decide +kernel⟩, by decide, wi_X2⟩
theorem wc_X2_growAmounts : Cond.code yX2_growAmounts cX2_growAmounts 4 none ∈ WS := inWS 570 (by decide +kernel) rfl
theorem ok_X2_growAmounts : MOk mX2_growAmounts 2 := ⟨wc_X2_growAmounts, ⟨by decide, by decide, by decide +kernel⟩, by decide, wi_X2⟩
theorem wc_X2_keepIfBetter : Cond.code yX2_keepIfBetter cX2_keepIfBetter 4 none ∈ WS := inWS 551 (by decide +kernel) rfl
theorem ok_X2_keepIfBetter : MOk mX2_keepIfBetter 3 := ⟨wc_X2_keepIfBetter, ⟨by decide, by decide, by decide +kernel⟩, by decide, wi_X2⟩
theorem wc_X3_init : Cond.code yX3_init cX3_init 1 none ∈ WS := inWS 246 (by decide +kernel) rfl
theorem wi_X3 : Cond.initialized RX3 ∈ WS := inWS 44 (by decide +kernel) rfl
theorem ok_X3_init : MOk mX3_init 0 := ⟨wc_X3_init, ⟨by decide, by decide, by decide +kernel⟩, by decide, wi_X3⟩
theorem wc_X3_begin : Cond.code yX3_begin cX3_begin 3 none ∈ WS := inWS 651 (by decide +kernel) rfl
theorem ok_X3_begin : MOk mX3_begin 2 := ⟨wc_X3_begin, ⟨by decide, by decide, by decide +kernel⟩, by decide, wi_X3⟩
theorem wc_X3_narrowed : Cond.code yX3_narrowed cX3_narrowed 2 (some .int) ∈ WS := inWS 663 (by decide +kernel) rfl
theorem ok_X3_narrowed : MOk mX3_narrowed 2 := ⟨wc_X3_narrowed, ⟨by decide, by decide, by decide +kernel⟩, by decide, wi_X3⟩
theorem wc_X3_hasItems : Cond.code yX3_hasItems cX3_hasItems 3 (some .boolean) ∈ WS := inWS 634 (by decide +kernel) rfl
theorem ok_X3_hasItems : MOk mX3_hasItems 2 := ⟨wc_X3_hasItems, ⟨by decide, by decide, by decide +kernel⟩, by decide, wi_X3⟩
theorem wc_X3_refusal : Cond.code yX3_refusal cX3_refusal 4 (some .int) ∈ WS := inWS 630 (by decide +kernel) rfl
theorem ok_X3_refusal : MOk mX3_refusal 3 := ⟨wc_X3_refusal, ⟨by decide, by decide, by decide +kernel⟩, by decide, wi_X3⟩
theorem wc_X4_init : Cond.code yX4_init cX4_init 1 none ∈ WS := inWS 228 (by decide +kernel) rfl
theorem wi_X4 : Cond.initialized RX4 ∈ WS := inWS 43 (by decide +kernel) rfl
theorem ok_X4_init : MOk mX4_init 0 := ⟨wc_X4_init, ⟨by decide, by decide, by decide +kernel⟩, by decide, wi_X4⟩
theorem wc_X4_isPrintable : Cond.code yX4_isPrintable cX4_isPrintable 4 (some .boolean) ∈ WS := inWS 358 (by decide +kernel) rfl
theorem ok_X4_isPrintable : MOk mX4_isPrintable 2 := ⟨wc_X4_isPrintable, ⟨by decide, by decide, by decide +kernel⟩, by decide, wi_X4⟩
theorem wc_X4_append : Cond.code yX4_append cX4_append 5 none ∈ WS := inWS 364 (by decide +kernel) rfl
theorem ok_X4_append : MOk mX4_append 2 := ⟨wc_X4_append, ⟨by decide, by decide, by decide +kernel⟩, by decide, wi_X4⟩
theorem wc_X4_readCoats : Cond.code yX4_readCoats cX4_readCoats 3 (some .int) ∈ WS := inWS 372 (by decide +kernel) rfl
theorem ok_X4_readCoats : MOk mX4_readCoats 1 := ⟨wc_X4_readCoats, ⟨by decide, by decide, by decide +kernel⟩, by decide, wi_X4⟩
theorem wc_X4_readCoat : Cond.code yX4_readCoat cX4_readCoat 6 (some .boolean) ∈ WS := inWS 376 (by decide +kernel) rfl
theorem ok_X4_readCoat : MOk mX4_readCoat 1 := ⟨wc_X4_readCoat, ⟨by decide, by decide, by decide +kernel⟩, by decide, wi_X4⟩
theorem wc_X4_nextByte : Cond.code yX4_nextByte cX4_nextByte 1 (some .int) ∈ WS := inWS 380 (by decide +kernel) rfl
theorem ok_X4_nextByte : MOk mX4_nextByte 0 := ⟨wc_X4_nextByte, ⟨by decide, by decide, by decide +kernel⟩, by decide, wi_X4⟩
theorem wc_X4_skipIf : Cond.code yX4_skipIf cX4_skipIf 2 (some .boolean) ∈ WS := inWS 391 (by decide +kernel) rfl
theorem ok_X4_skipIf : MOk mX4_skipIf 1 := ⟨wc_X4_skipIf, ⟨by decide, by decide, by decide +kernel⟩, by decide, wi_X4⟩
theorem wc_X4_readNumber : Cond.code yX4_readNumber cX4_readNumber 5 (some .int) ∈ WS := inWS 385 (by decide +kernel) rfl
theorem ok_X4_readNumber : MOk mX4_readNumber 2 := ⟨wc_X4_readNumber, ⟨by decide, by decide, by decide +kernel⟩, by decide, wi_X4⟩
theorem wc_X4_readDigit : Cond.code yX4_readDigit cX4_readDigit 2 (some .int) ∈ WS := inWS 395 (by decide +kernel) rfl
theorem ok_X4_readDigit : MOk mX4_readDigit 0 := ⟨wc_X4_readDigit, ⟨by decide, by decide, by decide +kernel⟩, by decide, wi_X4⟩
theorem wc_X5_init : Cond.code yX5_init cX5_init 2 none ∈ WS := inWS 61 (by decide +kernel) rfl
theorem wi_X5 : Cond.initialized RX5 ∈ WS := inWS 39 (by decide +kernel) rfl
theorem ok_X5_init : MOk mX5_init 0 := ⟨wc_X5_init, ⟨by decide, by decide, by decide +kernel⟩, by decide, wi_X5⟩
theorem wc_X5_becomeLike : Cond.code yX5_becomeLike cX5_becomeLike 3 none ∈ WS := inWS 610 (by decide +kernel) rfl
theorem ok_X5_becomeLike : MOk mX5_becomeLike 1 := ⟨wc_X5_becomeLike, ⟨by decide, by decide, by decide +kernel⟩, by decide, wi_X5⟩
theorem wc_X5_hasPerson : Cond.code yX5_hasPerson cX5_hasPerson 2 (some .boolean) ∈ WS := inWS 314 (by decide +kernel) rfl
theorem ok_X5_hasPerson : MOk mX5_hasPerson 1 := ⟨wc_X5_hasPerson, ⟨by decide, by decide, by decide +kernel⟩, by decide, wi_X5⟩
theorem wc_X5_hasCoat : Cond.code yX5_hasCoat cX5_hasCoat 3 (some .boolean) ∈ WS := inWS 335 (by decide +kernel) rfl
theorem ok_X5_hasCoat : MOk mX5_hasCoat 2 := ⟨wc_X5_hasCoat, ⟨by decide, by decide, by decide +kernel⟩, by decide, wi_X5⟩
theorem wc_X5_coatsOfAll : Cond.code yX5_coatsOfAll cX5_coatsOfAll 3 (some .int) ∈ WS := inWS 414 (by decide +kernel) rfl
theorem ok_X5_coatsOfAll : MOk mX5_coatsOfAll 0 := ⟨wc_X5_coatsOfAll, ⟨by decide, by decide, by decide +kernel⟩, by decide, wi_X5⟩
theorem wc_X5_fallenOnes : Cond.code yX5_fallenOnes cX5_fallenOnes 3 (some .int) ∈ WS := inWS 418 (by decide +kernel) rfl
theorem ok_X5_fallenOnes : MOk mX5_fallenOnes 0 := ⟨wc_X5_fallenOnes, ⟨by decide, by decide, by decide +kernel⟩, by decide, wi_X5⟩
theorem wc_X5_heatOn : Cond.code yX5_heatOn cX5_heatOn 3 (some .int) ∈ WS := inWS 472 (by decide +kernel) rfl
theorem ok_X5_heatOn : MOk mX5_heatOn 1 := ⟨wc_X5_heatOn, ⟨by decide, by decide, by decide +kernel⟩, by decide, wi_X5⟩
theorem wc_X5_passNightsUntil : Cond.code yX5_passNightsUntil cX5_passNightsUntil 3 none ∈ WS := inWS 451 (by decide +kernel) rfl
theorem ok_X5_passNightsUntil : MOk mX5_passNightsUntil 1 := ⟨wc_X5_passNightsUntil, ⟨by decide, by decide, by decide +kernel⟩, by decide, wi_X5⟩
theorem wc_X5_passNight : Cond.code yX5_passNight cX5_passNight 2 none ∈ WS := inWS 455 (by decide +kernel) rfl
theorem ok_X5_passNight : MOk mX5_passNight 0 := ⟨wc_X5_passNight, ⟨by decide, by decide, by decide +kernel⟩, by decide, wi_X5⟩
theorem wc_X5_canBePaid : Cond.code yX5_canBePaid cX5_canBePaid 5 (some .boolean) ∈ WS := inWS 638 (by decide +kernel) rfl
theorem ok_X5_canBePaid : MOk mX5_canBePaid 3 := ⟨wc_X5_canBePaid, ⟨by decide, by decide, by decide +kernel⟩, by decide, wi_X5⟩
theorem wc_X5_isSetOfWares : Cond.code yX5_isSetOfWares cX5_isSetOfWares 7 (some .boolean) ∈ WS := inWS 601 (by decide +kernel) rfl
theorem ok_X5_isSetOfWares : MOk mX5_isSetOfWares 3 := ⟨wc_X5_isSetOfWares, ⟨by decide, by decide, by decide +kernel⟩, by decide, wi_X5⟩
theorem wc_X6_init : Cond.code yX6_init cX6_init 2 none ∈ WS := inWS 53 (by decide +kernel) rfl
theorem wi_X6 : Cond.initialized RX6 ∈ WS := inWS 38 (by decide +kernel) rfl
theorem ok_X6_init : MOk mX6_init 0 := ⟨wc_X6_init, ⟨by decide, by decide, by decide +kernel⟩, by decide, wi_X6⟩
theorem wc_X6_person : Cond.code yX6_person cX6_person 4 (some .int) ∈ WS := inWS 296 (by decide +kernel) rfl
theorem ok_X6_person : MOk mX6_person 3 := ⟨wc_X6_person, ⟨by decide, by decide, by decide +kernel⟩, by decide, wi_X6⟩
theorem wc_X6_of : Cond.code yX6_of cX6_of 4 (some .int) ∈ WS := inWS 310 (by decide +kernel) rfl
theorem ok_X6_of : MOk mX6_of 2 := ⟨wc_X6_of, ⟨by decide, by decide, by decide +kernel⟩, by decide, wi_X6⟩
theorem wc_X6_coat : Cond.code yX6_coat cX6_coat 5 (some .int) ∈ WS := inWS 331 (by decide +kernel) rfl
theorem ok_X6_coat : MOk mX6_coat 3 := ⟨wc_X6_coat, ⟨by decide, by decide, by decide +kernel⟩, by decide, wi_X6⟩
theorem wc_X6_tax : Cond.code yX6_tax cX6_tax 6 (some .int) ∈ WS := inWS 340 (by decide +kernel) rfl
theorem ok_X6_tax : MOk mX6_tax 3 := ⟨wc_X6_tax, ⟨by decide, by decide, by decide +kernel⟩, by decide, wi_X6⟩
theorem wc_X6_heat : Cond.code yX6_heat cX6_heat 4 (some .int) ∈ WS := inWS 347 (by decide +kernel) rfl
theorem ok_X6_heat : MOk mX6_heat 2 := ⟨wc_X6_heat, ⟨by decide, by decide, by decide +kernel⟩, by decide, wi_X6⟩
theorem wc_X6_rule : Cond.code yX6_rule cX6_rule 4 (some .int) ∈ WS := inWS 351 (by decide +kernel) rfl
theorem ok_X6_rule : MOk mX6_rule 2 := ⟨wc_X6_rule, ⟨by decide, by decide, by decide +kernel⟩, by decide, wi_X6⟩
theorem wc_X6_type : Cond.code yX6_type cX6_type 4 (some .int) ∈ WS := inWS 355 (by decide +kernel) rfl
theorem ok_X6_type : MOk mX6_type 2 := ⟨wc_X6_type, ⟨by decide, by decide, by decide +kernel⟩, by decide, wi_X6⟩
theorem wc_X6_coats : Cond.code yX6_coats cX6_coats 3 (some .int) ∈ WS := inWS 368 (by decide +kernel) rfl
theorem ok_X6_coats : MOk mX6_coats 1 := ⟨wc_X6_coats, ⟨by decide, by decide, by decide +kernel⟩, by decide, wi_X6⟩
theorem wc_X6_count : Cond.code yX6_count cX6_count 2 (some .int) ∈ WS := inWS 410 (by decide +kernel) rfl
theorem ok_X6_count : MOk mX6_count 1 := ⟨wc_X6_count, ⟨by decide, by decide, by decide +kernel⟩, by decide, wi_X6⟩
theorem wc_X6_take : Cond.code yX6_take cX6_take 7 (some .int) ∈ WS := inWS 422 (by decide +kernel) rfl
theorem ok_X6_take : MOk mX6_take 5 := ⟨wc_X6_take, ⟨by decide, by decide, by decide +kernel⟩, by decide, wi_X6⟩
theorem wc_X6_pay : Cond.code yX6_pay cX6_pay 4 (some .int) ∈ WS := inWS 428 (by decide +kernel) rfl
theorem ok_X6_pay : MOk mX6_pay 2 := ⟨wc_X6_pay, ⟨by decide, by decide, by decide +kernel⟩, by decide, wi_X6⟩
theorem wc_X6_nights : Cond.code yX6_nights cX6_nights 2 (some .int) ∈ WS := inWS 447 (by decide +kernel) rfl
theorem ok_X6_nights : MOk mX6_nights 1 := ⟨wc_X6_nights, ⟨by decide, by decide, by decide +kernel⟩, by decide, wi_X6⟩
theorem wc_X6_cut : Cond.code yX6_cut cX6_cut 4 (some .int) ∈ WS := inWS 486 (by decide +kernel) rfl
theorem ok_X6_cut : MOk mX6_cut 2 := ⟨wc_X6_cut, ⟨by decide, by decide, by decide +kernel⟩, by decide, wi_X6⟩
theorem wc_X6_ring : Cond.code yX6_ring cX6_ring 9 (some .int) ∈ WS := inWS 495 (by decide +kernel) rfl
theorem ok_X6_ring : MOk mX6_ring 3 := ⟨wc_X6_ring, ⟨by decide, by decide, by decide +kernel⟩, by decide, wi_X6⟩
theorem wc_X6_rings : Cond.code yX6_rings cX6_rings 2 (some .int) ∈ WS := inWS 512 (by decide +kernel) rfl
theorem ok_X6_rings : MOk mX6_rings 1 := ⟨wc_X6_rings, ⟨by decide, by decide, by decide +kernel⟩, by decide, wi_X6⟩
theorem wc_X6_owed : Cond.code yX6_owed cX6_owed 4 (some .int) ∈ WS := inWS 529 (by decide +kernel) rfl
theorem ok_X6_owed : MOk mX6_owed 1 := ⟨wc_X6_owed, ⟨by decide, by decide, by decide +kernel⟩, by decide, wi_X6⟩
theorem wc_X6_free : Cond.code yX6_free cX6_free 4 (some .int) ∈ WS := inWS 537 (by decide +kernel) rfl
theorem ok_X6_free : MOk mX6_free 2 := ⟨wc_X6_free, ⟨by decide, by decide, by decide +kernel⟩, by decide, wi_X6⟩
theorem wc_X6_saves : Cond.code yX6_saves cX6_saves 5 (some .int) ∈ WS := inWS 575 (by decide +kernel) rfl
theorem ok_X6_saves : MOk mX6_saves 2 := ⟨wc_X6_saves, ⟨by decide, by decide, by decide +kernel⟩, by decide, wi_X6⟩
theorem wc_X6_bears : Cond.code yX6_bears cX6_bears 4 (some .int) ∈ WS := inWS 585 (by decide +kernel) rfl
theorem ok_X6_bears : MOk mX6_bears 1 := ⟨wc_X6_bears, ⟨by decide, by decide, by decide +kernel⟩, by decide, wi_X6⟩
theorem wc_X6_ware : Cond.code yX6_ware cX6_ware 3 (some .int) ∈ WS := inWS 591 (by decide +kernel) rfl
theorem ok_X6_ware : MOk mX6_ware 2 := ⟨wc_X6_ware, ⟨by decide, by decide, by decide +kernel⟩, by decide, wi_X6⟩
theorem wc_X6_under : Cond.code yX6_under cX6_under 8 (some .int) ∈ WS := inWS 595 (by decide +kernel) rfl
theorem ok_X6_under : MOk mX6_under 4 := ⟨wc_X6_under, ⟨by decide, by decide, by decide +kernel⟩, by decide, wi_X6⟩
theorem wc_X6_image : Cond.code yX6_image cX6_image 1 (some .int) ∈ WS := inWS 606 (by decide +kernel) rfl
theorem ok_X6_image : MOk mX6_image 0 := ⟨wc_X6_image, ⟨by decide, by decide, by decide +kernel⟩, by decide, wi_X6⟩
theorem wc_X6_restore : Cond.code yX6_restore cX6_restore 1 (some .int) ∈ WS := inWS 616 (by decide +kernel) rfl
theorem ok_X6_restore : MOk mX6_restore 0 := ⟨wc_X6_restore, ⟨by decide, by decide, by decide +kernel⟩, by decide, wi_X6⟩
theorem wc_X6_judged : Cond.code yX6_judged cX6_judged 9 (some .int) ∈ WS := inWS 620 (by decide +kernel) rfl
theorem ok_X6_judged : MOk mX6_judged 4 := ⟨wc_X6_judged, ⟨by decide, by decide, by decide +kernel⟩, by decide, wi_X6⟩
theorem wc_X6_sheet : Cond.code yX6_sheet cX6_sheet 4 (some .int) ∈ WS := inWS 647 (by decide +kernel) rfl
theorem ok_X6_sheet : MOk mX6_sheet 3 := ⟨wc_X6_sheet, ⟨by decide, by decide, by decide +kernel⟩, by decide, wi_X6⟩
theorem wc_X6_drop : Cond.code yX6_drop cX6_drop 3 (some .int) ∈ WS := inWS 656 (by decide +kernel) rfl
theorem ok_X6_drop : MOk mX6_drop 1 := ⟨wc_X6_drop, ⟨by decide, by decide, by decide +kernel⟩, by decide, wi_X6⟩
theorem wc_X6_item : Cond.code yX6_item cX6_item 7 (some .int) ∈ WS := inWS 660 (by decide +kernel) rfl
theorem ok_X6_item : MOk mX6_item 4 := ⟨wc_X6_item, ⟨by decide, by decide, by decide +kernel⟩, by decide, wi_X6⟩
theorem wc_X6_copy : Cond.code yX6_copy cX6_copy 8 (some .int) ∈ WS := inWS 667 (by decide +kernel) rfl
theorem ok_X6_copy : MOk mX6_copy 5 := ⟨wc_X6_copy, ⟨by decide, by decide, by decide +kernel⟩, by decide, wi_X6⟩
theorem wc_X6_isWithin : Cond.code yX6_isWithin cX6_isWithin 3 (some .boolean) ∈ WS := inWS 299 (by decide +kernel) rfl
theorem ok_X6_isWithin : MOk mX6_isWithin 3 := ⟨wc_X6_isWithin, ⟨by decide, by decide, by decide +kernel⟩, by decide, wi_X6⟩
theorem wc_X6_isLender : Cond.code yX6_isLender cX6_isLender 1 (some .boolean) ∈ WS := inWS 343 (by decide +kernel) rfl
theorem ok_X6_isLender : MOk mX6_isLender 1 := ⟨wc_X6_isLender, ⟨by decide, by decide, by decide +kernel⟩, by decide, wi_X6⟩
theorem wc_X6_isSheet : Cond.code yX6_isSheet cX6_isSheet 1 (some .boolean) ∈ WS := inWS 623 (by decide +kernel) rfl
theorem ok_X6_isSheet : MOk mX6_isSheet 1 := ⟨wc_X6_isSheet, ⟨by decide, by decide, by decide +kernel⟩, by decide, wi_X6⟩
theorem wc_X6_isLane : Cond.code yX6_isLane cX6_isLane 1 (some .boolean) ∈ WS := inWS 626 (by decide +kernel) rfl
theorem ok_X6_isLane : MOk mX6_isLane 1 := ⟨wc_X6_isLane, ⟨by decide, by decide, by decide +kernel⟩, by decide, wi_X6⟩
theorem wc_X6_isIn : Cond.code yX6_isIn cX6_isIn 2 (some .boolean) ∈ WS := inWS 554 (by decide +kernel) rfl
theorem ok_X6_isIn : MOk mX6_isIn 2 := ⟨wc_X6_isIn, ⟨by decide, by decide, by decide +kernel⟩, by decide, wi_X6⟩
theorem wc_X6_mayComeOff : Cond.code yX6_mayComeOff cX6_mayComeOff 5 (some .boolean) ∈ WS := inWS 435 (by decide +kernel) rfl
theorem ok_X6_mayComeOff : MOk mX6_mayComeOff 3 := ⟨wc_X6_mayComeOff, ⟨by decide, by decide, by decide +kernel⟩, by decide, wi_X6⟩
theorem wc_X6_amountNextDay : Cond.code yX6_amountNextDay cX6_amountNextDay 2 (some .int) ∈ WS := inWS 462 (by decide +kernel) rfl
theorem ok_X6_amountNextDay : MOk mX6_amountNextDay 2 := ⟨wc_X6_amountNextDay, ⟨by decide, by decide, by decide +kernel⟩, by decide, wi_X6⟩
theorem wc_X6_purseNextDay : Cond.code yX6_purseNextDay cX6_purseNextDay 3 (some .int) ∈ WS := inWS 465 (by decide +kernel) rfl
theorem ok_X6_purseNextDay : MOk mX6_purseNextDay 3 := ⟨wc_X6_purseNextDay, ⟨by decide, by decide, by decide +kernel⟩, by decide, wi_X6⟩
theorem wc_X7_in : Cond.code yX7_in cX7_in 6 (some .boolean) ∈ WS := inWS 768 (by decide +kernel) rfl
theorem wi_X7 : Cond.initialized RX7 ∈ WS := inWS 45 (by decide +kernel) rfl
theorem ok_X7_in : MOk mX7_in 3 := ⟨wc_X7_in, ⟨by decide, by decide, by decide +kernel⟩, by decide, wi_X7⟩
theorem wc_X7_init : Cond.code yX7_init cX7_init 2 none ∈ WS := inWS 674 (by decide +kernel) rfl
theorem ok_X7_init : MOk mX7_init 0 := ⟨wc_X7_init, ⟨by decide, by decide, by decide +kernel⟩, by decide, wi_X7⟩
theorem wc_X7_isOne : Cond.code yX7_isOne cX7_isOne 2 (some .boolean) ∈ WS := inWS 778 (by decide +kernel) rfl
theorem ok_X7_isOne : MOk mX7_isOne 1 := ⟨wc_X7_isOne, ⟨by decide, by decide, by decide +kernel⟩, by decide, wi_X7⟩
theorem wc_X7_isLender : Cond.code yX7_isLender cX7_isLender 1 (some .boolean) ∈ WS := inWS 800 (by decide +kernel) rfl
theorem ok_X7_isLender : MOk mX7_isLender 1 := ⟨wc_X7_isLender, ⟨by decide, by decide, by decide +kernel⟩, by decide, wi_X7⟩
theorem wc_X7_person : Cond.code yX7_person cX7_person 5 (some .int) ∈ WS := inWS 764 (by decide +kernel) rfl
theorem ok_X7_person : MOk mX7_person 3 := ⟨wc_X7_person, ⟨by decide, by decide, by decide +kernel⟩, by decide, wi_X7⟩
theorem wc_X7_thickOf : Cond.code yX7_thickOf cX7_thickOf 4 (some .int) ∈ WS := inWS 783 (by decide +kernel) rfl
theorem ok_X7_thickOf : MOk mX7_thickOf 1 := ⟨wc_X7_thickOf, ⟨by decide, by decide, by decide +kernel⟩, by decide, wi_X7⟩
theorem wc_X7_of : Cond.code yX7_of cX7_of 5 (some .int) ∈ WS := inWS 774 (by decide +kernel) rfl
theorem ok_X7_of : MOk mX7_of 2 := ⟨wc_X7_of, ⟨by decide, by decide, by decide +kernel⟩, by decide, wi_X7⟩
theorem wc_X7_isCoat : Cond.code yX7_isCoat cX7_isCoat 3 (some .boolean) ∈ WS := inWS 792 (by decide +kernel) rfl
theorem ok_X7_isCoat : MOk mX7_isCoat 2 := ⟨wc_X7_isCoat, ⟨by decide, by decide, by decide +kernel⟩, by decide, wi_X7⟩
theorem wc_X7_coat : Cond.code yX7_coat cX7_coat 4 (some .int) ∈ WS := inWS 788 (by decide +kernel) rfl
theorem ok_X7_coat : MOk mX7_coat 3 := ⟨wc_X7_coat, ⟨by decide, by decide, by decide +kernel⟩, by decide, wi_X7⟩
theorem wc_X7_tax : Cond.code yX7_tax cX7_tax 5 (some .int) ∈ WS := inWS 797 (by decide +kernel) rfl
theorem ok_X7_tax : MOk mX7_tax 3 := ⟨wc_X7_tax, ⟨by decide, by decide, by decide +kernel⟩, by decide, wi_X7⟩
theorem wc_X7_heat : Cond.code yX7_heat cX7_heat 4 (some .int) ∈ WS := inWS 806 (by decide +kernel) rfl
theorem ok_X7_heat : MOk mX7_heat 2 := ⟨wc_X7_heat, ⟨by decide, by decide, by decide +kernel⟩, by decide, wi_X7⟩
theorem wc_X7_rule : Cond.code yX7_rule cX7_rule 4 (some .int) ∈ WS := inWS 812 (by decide +kernel) rfl
theorem ok_X7_rule : MOk mX7_rule 2 := ⟨wc_X7_rule, ⟨by decide, by decide, by decide +kernel⟩, by decide, wi_X7⟩
theorem wc_X7_type : Cond.code yX7_type cX7_type 5 (some .int) ∈ WS := inWS 817 (by decide +kernel) rfl
theorem ok_X7_type : MOk mX7_type 2 := ⟨wc_X7_type, ⟨by decide, by decide, by decide +kernel⟩, by decide, wi_X7⟩
theorem wc_X7_here : Cond.code yX7_here cX7_here 1 (some .int) ∈ WS := inWS 833 (by decide +kernel) rfl
theorem ok_X7_here : MOk mX7_here 0 := ⟨wc_X7_here, ⟨by decide, by decide, by decide +kernel⟩, by decide, wi_X7⟩
theorem wc_X7_has : Cond.code yX7_has cX7_has 3 (some .boolean) ∈ WS := inWS 844 (by decide +kernel) rfl
theorem ok_X7_has : MOk mX7_has 1 := ⟨wc_X7_has, ⟨by decide, by decide, by decide +kernel⟩, by decide, wi_X7⟩
theorem wc_X7_byteOf : Cond.code yX7_byteOf cX7_byteOf 4 (some .int) ∈ WS := inWS 829 (by decide +kernel) rfl
theorem ok_X7_byteOf : MOk mX7_byteOf 2 := ⟨wc_X7_byteOf, ⟨by decide, by decide, by decide +kernel⟩, by decide, wi_X7⟩
theorem wc_X7_number : Cond.code yX7_number cX7_number 5 (some .int) ∈ WS := inWS 837 (by decide +kernel) rfl
theorem ok_X7_number : MOk mX7_number 2 := ⟨wc_X7_number, ⟨by decide, by decide, by decide +kernel⟩, by decide, wi_X7⟩
theorem wc_X7_coats : Cond.code yX7_coats cX7_coats 5 (some .int) ∈ WS := inWS 825 (by decide +kernel) rfl
theorem ok_X7_coats : MOk mX7_coats 1 := ⟨wc_X7_coats, ⟨by decide, by decide, by decide +kernel⟩, by decide, wi_X7⟩
theorem wc_X7_count : Cond.code yX7_count cX7_count 5 (some .int) ∈ WS := inWS 848 (by decide +kernel) rfl
theorem ok_X7_count : MOk mX7_count 1 := ⟨wc_X7_count, ⟨by decide, by decide, by decide +kernel⟩, by decide, wi_X7⟩
theorem wc_X7_most : Cond.code yX7_most cX7_most 1 (some .int) ∈ WS := inWS 863 (by decide +kernel) rfl
theorem ok_X7_most : MOk mX7_most 1 := ⟨wc_X7_most, ⟨by decide, by decide, by decide +kernel⟩, by decide, wi_X7⟩
theorem wc_X7_rests : Cond.code yX7_rests cX7_rests 6 none ∈ WS := inWS 860 (by decide +kernel) rfl
theorem ok_X7_rests : MOk mX7_rests 1 := ⟨wc_X7_rests, ⟨by decide, by decide, by decide +kernel⟩, by decide, wi_X7⟩
theorem wc_X7_isTooHot : Cond.code yX7_isTooHot cX7_isTooHot 4 (some .boolean) ∈ WS := inWS 868 (by decide +kernel) rfl
theorem ok_X7_isTooHot : MOk mX7_isTooHot 2 := ⟨wc_X7_isTooHot, ⟨by decide, by decide, by decide +kernel⟩, by decide, wi_X7⟩
theorem wc_X7_sleeps : Cond.code yX7_sleeps cX7_sleeps 3 none ∈ WS := inWS 856 (by decide +kernel) rfl
theorem ok_X7_sleeps : MOk mX7_sleeps 1 := ⟨wc_X7_sleeps, ⟨by decide, by decide, by decide +kernel⟩, by decide, wi_X7⟩
theorem wc_X7_nights : Cond.code yX7_nights cX7_nights 3 (some .int) ∈ WS := inWS 852 (by decide +kernel) rfl
theorem ok_X7_nights : MOk mX7_nights 1 := ⟨wc_X7_nights, ⟨by decide, by decide, by decide +kernel⟩, by decide, wi_X7⟩
theorem wc_X7_take : Cond.code yX7_take cX7_take 8 (some .int) ∈ WS := inWS 872 (by decide +kernel) rfl
theorem ok_X7_take : MOk mX7_take 5 := ⟨wc_X7_take, ⟨by decide, by decide, by decide +kernel⟩, by decide, wi_X7⟩
theorem wc_X7_mayOff : Cond.code yX7_mayOff cX7_mayOff 3 (some .boolean) ∈ WS := inWS 881 (by decide +kernel) rfl
theorem ok_X7_mayOff : MOk mX7_mayOff 2 := ⟨wc_X7_mayOff, ⟨by decide, by decide, by decide +kernel⟩, by decide, wi_X7⟩
theorem wc_X7_off : Cond.code yX7_off cX7_off 5 none ∈ WS := inWS 885 (by decide +kernel) rfl
theorem ok_X7_off : MOk mX7_off 2 := ⟨wc_X7_off, ⟨by decide, by decide, by decide +kernel⟩, by decide, wi_X7⟩
theorem wc_X7_pay : Cond.code yX7_pay cX7_pay 5 (some .int) ∈ WS := inWS 877 (by decide +kernel) rfl
theorem ok_X7_pay : MOk mX7_pay 2 := ⟨wc_X7_pay, ⟨by decide, by decide, by decide +kernel⟩, by decide, wi_X7⟩
theorem wc_X7_isBetween : Cond.code yX7_isBetween cX7_isBetween 3 (some .boolean) ∈ WS := inWS 893 (by decide +kernel) rfl
theorem ok_X7_isBetween : MOk mX7_isBetween 2 := ⟨wc_X7_isBetween, ⟨by decide, by decide, by decide +kernel⟩, by decide, wi_X7⟩
theorem wc_X7_cut : Cond.code yX7_cut cX7_cut 3 (some .int) ∈ WS := inWS 889 (by decide +kernel) rfl
theorem ok_X7_cut : MOk mX7_cut 2 := ⟨wc_X7_cut, ⟨by decide, by decide, by decide +kernel⟩, by decide, wi_X7⟩
theorem wc_X7_outer : Cond.code yX7_outer cX7_outer 2 (some .int) ∈ WS := inWS 909 (by decide +kernel) rfl
theorem ok_X7_outer : MOk mX7_outer 1 := ⟨wc_X7_outer, ⟨by decide, by decide, by decide +kernel⟩, by decide, wi_X7⟩
theorem wc_X7_gains : Cond.code yX7_gains cX7_gains 3 (some .int) ∈ WS := inWS 905 (by decide +kernel) rfl
theorem ok_X7_gains : MOk mX7_gains 2 := ⟨wc_X7_gains, ⟨by decide, by decide, by decide +kernel⟩, by decide, wi_X7⟩
theorem wc_X7_saved : Cond.code yX7_saved cX7_saved 8 (some .int) ∈ WS := inWS 901 (by decide +kernel) rfl
theorem ok_X7_saved : MOk mX7_saved 3 := ⟨wc_X7_saved, ⟨by decide, by decide, by decide +kernel⟩, by decide, wi_X7⟩
theorem wc_X7_ring : Cond.code yX7_ring cX7_ring 9 (some .int) ∈ WS := inWS 897 (by decide +kernel) rfl
theorem ok_X7_ring : MOk mX7_ring 3 := ⟨wc_X7_ring, ⟨by decide, by decide, by decide +kernel⟩, by decide, wi_X7⟩
theorem wc_X7_rings : Cond.code yX7_rings cX7_rings 10 (some .int) ∈ WS := inWS 913 (by decide +kernel) rfl
theorem ok_X7_rings : MOk mX7_rings 1 := ⟨wc_X7_rings, ⟨by decide, by decide, by decide +kernel⟩, by decide, wi_X7⟩
theorem wc_X7_owed : Cond.code yX7_owed cX7_owed 6 (some .int) ∈ WS := inWS 918 (by decide +kernel) rfl
theorem ok_X7_owed : MOk mX7_owed 1 := ⟨wc_X7_owed, ⟨by decide, by decide, by decide +kernel⟩, by decide, wi_X7⟩
theorem wc_X7_turns : Cond.code yX7_turns cX7_turns 7 (some .boolean) ∈ WS := inWS 943 (by decide +kernel) rfl
theorem ok_X7_turns : MOk mX7_turns 1 := ⟨wc_X7_turns, ⟨by decide, by decide, by decide +kernel⟩, by decide, wi_X7⟩
theorem wc_X7_freeBy : Cond.code yX7_freeBy cX7_freeBy 9 (some .int) ∈ WS := inWS 939 (by decide +kernel) rfl
theorem ok_X7_freeBy : MOk mX7_freeBy 2 := ⟨wc_X7_freeBy, ⟨by decide, by decide, by decide +kernel⟩, by decide, wi_X7⟩
theorem wc_X7_starts : Cond.code yX7_starts cX7_starts 3 none ∈ WS := inWS 927 (by decide +kernel) rfl
theorem ok_X7_starts : MOk mX7_starts 1 := ⟨wc_X7_starts, ⟨by decide, by decide, by decide +kernel⟩, by decide, wi_X7⟩
theorem wc_X7_isLawful : Cond.code yX7_isLawful cX7_isLawful 4 (some .boolean) ∈ WS := inWS 935 (by decide +kernel) rfl
theorem ok_X7_isLawful : MOk mX7_isLawful 1 := ⟨wc_X7_isLawful, ⟨by decide, by decide, by decide +kernel⟩, by decide, wi_X7⟩
theorem wc_X7_bestFree : Cond.code yX7_bestFree cX7_bestFree 8 (some .int) ∈ WS := inWS 931 (by decide +kernel) rfl
theorem ok_X7_bestFree : MOk mX7_bestFree 1 := ⟨wc_X7_bestFree, ⟨by decide, by decide, by decide +kernel⟩, by decide, wi_X7⟩
theorem wc_X7_free : Cond.code yX7_free cX7_free 5 (some .int) ∈ WS := inWS 922 (by decide +kernel) rfl
theorem ok_X7_free : MOk mX7_free 2 := ⟨wc_X7_free, ⟨by decide, by decide, by decide +kernel⟩, by decide, wi_X7⟩
theorem wc_X7_saves : Cond.code yX7_saves cX7_saves 5 (some .int) ∈ WS := inWS 947 (by decide +kernel) rfl
theorem ok_X7_saves : MOk mX7_saves 2 := ⟨wc_X7_saves, ⟨by decide, by decide, by decide +kernel⟩, by decide, wi_X7⟩
theorem wc_X7_bears : Cond.code yX7_bears cX7_bears 3 (some .int) ∈ WS := inWS 951 (by decide +kernel) rfl
theorem ok_X7_bears : MOk mX7_bears 1 := ⟨wc_X7_bears, ⟨by decide, by decide, by decide +kernel⟩, by decide, wi_X7⟩
theorem wc_X7_ware : Cond.code yX7_ware cX7_ware 3 (some .int) ∈ WS := inWS 955 (by decide +kernel) rfl
theorem ok_X7_ware : MOk mX7_ware 2 := ⟨wc_X7_ware, ⟨by decide, by decide, by decide +kernel⟩, by decide, wi_X7⟩
theorem wc_X7_under : Cond.code yX7_under cX7_under 11 (some .int) ∈ WS := inWS 959 (by decide +kernel) rfl
theorem ok_X7_under : MOk mX7_under 4 := ⟨wc_X7_under, ⟨by decide, by decide, by decide +kernel⟩, by decide, wi_X7⟩
theorem wc_X7_lay : Cond.code yX7_lay cX7_lay 4 (some .int) ∈ WS := inWS 968 (by decide +kernel) rfl
theorem ok_X7_lay : MOk mX7_lay 2 := ⟨wc_X7_lay, ⟨by decide, by decide, by decide +kernel⟩, by decide, wi_X7⟩
theorem wc_X7_gives : Cond.code yX7_gives cX7_gives 4 (some .int) ∈ WS := inWS 976 (by decide +kernel) rfl
theorem ok_X7_gives : MOk mX7_gives 2 := ⟨wc_X7_gives, ⟨by decide, by decide, by decide +kernel⟩, by decide, wi_X7⟩
theorem wc_X7_image : Cond.code yX7_image cX7_image 2 (some .int) ∈ WS := inWS 964 (by decide +kernel) rfl
theorem ok_X7_image : MOk mX7_image 0 := ⟨wc_X7_image, ⟨by decide, by decide, by decide +kernel⟩, by decide, wi_X7⟩
theorem wc_X7_restore : Cond.code yX7_restore cX7_restore 2 (some .int) ∈ WS := inWS 972 (by decide +kernel) rfl
theorem ok_X7_restore : MOk mX7_restore 0 := ⟨wc_X7_restore, ⟨by decide, by decide, by decide +kernel⟩, by decide, wi_X7⟩
theorem wc_X7_isSheet : Cond.code yX7_isSheet cX7_isSheet 1 (some .boolean) ∈ WS := inWS 983 (by decide +kernel) rfl
theorem ok_X7_isSheet : MOk mX7_isSheet 1 := ⟨wc_X7_isSheet, ⟨by decide, by decide, by decide +kernel⟩, by decide, wi_X7⟩
theorem wc_X7_isLane : Cond.code yX7_isLane cX7_isLane 1 (some .boolean) ∈ WS := inWS 986 (by decide +kernel) rfl
theorem ok_X7_isLane : MOk mX7_isLane 1 := ⟨wc_X7_isLane, ⟨by decide, by decide, by decide +kernel⟩, by decide, wi_X7⟩
theorem wc_X7_finds : Cond.code yX7_finds cX7_finds 5 (some .int) ∈ WS := inWS 990 (by decide +kernel) rfl
theorem ok_X7_finds : MOk mX7_finds 4 := ⟨wc_X7_finds, ⟨by decide, by decide, by decide +kernel⟩, by decide, wi_X7⟩
theorem wc_X7_judged : Cond.code yX7_judged cX7_judged 11 (some .int) ∈ WS := inWS 980 (by decide +kernel) rfl
theorem ok_X7_judged : MOk mX7_judged 4 := ⟨wc_X7_judged, ⟨by decide, by decide, by decide +kernel⟩, by decide, wi_X7⟩
theorem wc_X7_sheet : Cond.code yX7_sheet cX7_sheet 5 (some .int) ∈ WS := inWS 995 (by decide +kernel) rfl
theorem ok_X7_sheet : MOk mX7_sheet 3 := ⟨wc_X7_sheet, ⟨by decide, by decide, by decide +kernel⟩, by decide, wi_X7⟩
theorem wc_X7_drop : Cond.code yX7_drop cX7_drop 2 (some .int) ∈ WS := inWS 999 (by decide +kernel) rfl
theorem ok_X7_drop : MOk mX7_drop 1 := ⟨wc_X7_drop, ⟨by decide, by decide, by decide +kernel⟩, by decide, wi_X7⟩
theorem wc_X7_item : Cond.code yX7_item cX7_item 6 (some .int) ∈ WS := inWS 1003 (by decide +kernel) rfl
theorem ok_X7_item : MOk mX7_item 4 := ⟨wc_X7_item, ⟨by decide, by decide, by decide +kernel⟩, by decide, wi_X7⟩
theorem wc_X7_copy : Cond.code yX7_copy cX7_copy 7 (some .int) ∈ WS := inWS 1007 (by decide +kernel) rfl
theorem ok_X7_copy : MOk mX7_copy 5 := ⟨wc_X7_copy, ⟨by decide, by decide, by decide +kernel⟩, by decide, wi_X7⟩
theorem wc_J7_fill_53178 : Cond.code yJ7_fill_53178 cJ7_fill_53178 4 none ∈ WS := inWS 306 (by decide +kernel) rfl
theorem wi_J7 : Cond.initialized RJ7 ∈ WS := inWS 46 (by decide +kernel) rfl
theorem ok_J7_fill_53178 : MOk mJ7_fill_53178 2 := ⟨wc_J7_fill_53178, ⟨by decide, by decide, by decide +kernel⟩, by decide, wi_J7⟩
theorem iw_X0 : ∀ w ∈ u_ws RX0 TX0 3, w ∈ WS := by
  have h : (u_ws RX0 TX0 3).all (fun w => decide (w ∈ lw_tbl) && goodWord w) = true := by decide +kernel
  intro w hw
  have h1 := List.all_eq_true.mp h w hw
  simp only [Bool.and_eq_true, decide_eq_true_eq] at h1
  exact List.mem_filter.mpr h1
theorem iw_X1 : ∀ w ∈ u_ws RX1 TX1 10, w ∈ WS := by
  have h : (u_ws RX1 TX1 10).all (fun w => decide (w ∈ lw_tbl) && goodWord w) = true := by decide +kernel
  intro w hw
  have h1 := List.all_eq_true.mp h w hw
  simp only [Bool.and_eq_true, decide_eq_true_eq] at h1
  exact List.mem_filter.mpr h1
theorem iw_X2 : ∀ w ∈ u_ws RX2 TX2 7, w ∈ WS := by
  have h : (u_ws RX2 TX2 7).all (fun w => decide (w ∈ lw_tbl) && goodWord w) = true := by decide +kernel
  intro w hw
  have h1 := List.all_eq_true.mp h w hw
  simp only [Bool.and_eq_true, decide_eq_true_eq] at h1
  exact List.mem_filter.mpr h1
theorem iw_X3 : ∀ w ∈ u_ws RX3 TX3 4, w ∈ WS := by
  have h : (u_ws RX3 TX3 4).all (fun w => decide (w ∈ lw_tbl) && goodWord w) = true := by decide +kernel
  intro w hw
  have h1 := List.all_eq_true.mp h w hw
  simp only [Bool.and_eq_true, decide_eq_true_eq] at h1
  exact List.mem_filter.mpr h1
theorem iw_X4 : ∀ w ∈ u_ws RX4 TX4 3, w ∈ WS := by
  have h : (u_ws RX4 TX4 3).all (fun w => decide (w ∈ lw_tbl) && goodWord w) = true := by decide +kernel
  intro w hw
  have h1 := List.all_eq_true.mp h w hw
  simp only [Bool.and_eq_true, decide_eq_true_eq] at h1
  exact List.mem_filter.mpr h1
theorem iw_X5 : ∀ w ∈ u_ws RX5 TX5 10, w ∈ WS := by
  have h : (u_ws RX5 TX5 10).all (fun w => decide (w ∈ lw_tbl) && goodWord w) = true := by decide +kernel
  intro w hw
  have h1 := List.all_eq_true.mp h w hw
  simp only [Bool.and_eq_true, decide_eq_true_eq] at h1
  exact List.mem_filter.mpr h1
theorem iw_X6 : ∀ w ∈ u_ws RX6 TX6 9, w ∈ WS := by
  have h : (u_ws RX6 TX6 9).all (fun w => decide (w ∈ lw_tbl) && goodWord w) = true := by decide +kernel
  intro w hw
  have h1 := List.all_eq_true.mp h w hw
  simp only [Bool.and_eq_true, decide_eq_true_eq] at h1
  exact List.mem_filter.mpr h1
theorem iw_X7 : ∀ w ∈ u_ws RX7 TX7 28, w ∈ WS := by
  have h : (u_ws RX7 TX7 28).all (fun w => decide (w ∈ lw_tbl) && goodWord w) = true := by decide +kernel
  intro w hw
  have h1 := List.all_eq_true.mp h w hw
  simp only [Bool.and_eq_true, decide_eq_true_eq] at h1
  exact List.mem_filter.mpr h1
theorem wl_L_13 : Cond.methodLink RL 13 yX6_person ∈ WS := inWS 293 (by decide +kernel) rfl
theorem wj_X6_person : Cond.instanceMethod yX6_person ∈ WS := inWS 294 (by decide +kernel) rfl
theorem we_X6_person : Cond.selects RX6 yX6_person yX6_person ∈ WS := inWS 295 (by decide +kernel) rfl
theorem lk_L_13 : LkV RL 13 mX6_person 3 6 := ⟨wl_L_13, wj_X6_person, we_X6_person, ok_X6_person, rfl⟩
theorem wl_L_17 : Cond.methodLink RL 17 yX7_person ∈ WS := inWS 761 (by decide +kernel) rfl
theorem wj_X7_person : Cond.instanceMethod yX7_person ∈ WS := inWS 762 (by decide +kernel) rfl
theorem we_X7_person : Cond.selects RX7 yX7_person yX7_person ∈ WS := inWS 763 (by decide +kernel) rfl
theorem lk_L_17 : LkV RL 17 mX7_person 3 7 := ⟨wl_L_17, wj_X7_person, we_X7_person, ok_X7_person, rfl⟩
theorem wl_L_18 : Cond.methodLink RL 18 yX6_of ∈ WS := inWS 307 (by decide +kernel) rfl
theorem wj_X6_of : Cond.instanceMethod yX6_of ∈ WS := inWS 308 (by decide +kernel) rfl
theorem we_X6_of : Cond.selects RX6 yX6_of yX6_of ∈ WS := inWS 309 (by decide +kernel) rfl
theorem lk_L_18 : LkV RL 18 mX6_of 2 6 := ⟨wl_L_18, wj_X6_of, we_X6_of, ok_X6_of, rfl⟩
theorem wl_L_22 : Cond.methodLink RL 22 yX7_of ∈ WS := inWS 771 (by decide +kernel) rfl
theorem wj_X7_of : Cond.instanceMethod yX7_of ∈ WS := inWS 772 (by decide +kernel) rfl
theorem we_X7_of : Cond.selects RX7 yX7_of yX7_of ∈ WS := inWS 773 (by decide +kernel) rfl
theorem lk_L_22 : LkV RL 22 mX7_of 2 7 := ⟨wl_L_22, wj_X7_of, we_X7_of, ok_X7_of, rfl⟩
theorem wl_L_23 : Cond.methodLink RL 23 yX6_coat ∈ WS := inWS 328 (by decide +kernel) rfl
theorem wj_X6_coat : Cond.instanceMethod yX6_coat ∈ WS := inWS 329 (by decide +kernel) rfl
theorem we_X6_coat : Cond.selects RX6 yX6_coat yX6_coat ∈ WS := inWS 330 (by decide +kernel) rfl
theorem lk_L_23 : LkV RL 23 mX6_coat 3 6 := ⟨wl_L_23, wj_X6_coat, we_X6_coat, ok_X6_coat, rfl⟩
theorem wl_L_26 : Cond.methodLink RL 26 yX7_coat ∈ WS := inWS 785 (by decide +kernel) rfl
theorem wj_X7_coat : Cond.instanceMethod yX7_coat ∈ WS := inWS 786 (by decide +kernel) rfl
theorem we_X7_coat : Cond.selects RX7 yX7_coat yX7_coat ∈ WS := inWS 787 (by decide +kernel) rfl
theorem lk_L_26 : LkV RL 26 mX7_coat 3 7 := ⟨wl_L_26, wj_X7_coat, we_X7_coat, ok_X7_coat, rfl⟩
theorem wl_L_27 : Cond.methodLink RL 27 yX6_tax ∈ WS := inWS 337 (by decide +kernel) rfl
theorem wj_X6_tax : Cond.instanceMethod yX6_tax ∈ WS := inWS 338 (by decide +kernel) rfl
theorem we_X6_tax : Cond.selects RX6 yX6_tax yX6_tax ∈ WS := inWS 339 (by decide +kernel) rfl
theorem lk_L_27 : LkV RL 27 mX6_tax 3 6 := ⟨wl_L_27, wj_X6_tax, we_X6_tax, ok_X6_tax, rfl⟩
theorem wl_L_30 : Cond.methodLink RL 30 yX7_tax ∈ WS := inWS 794 (by decide +kernel) rfl
theorem wj_X7_tax : Cond.instanceMethod yX7_tax ∈ WS := inWS 795 (by decide +kernel) rfl
theorem we_X7_tax : Cond.selects RX7 yX7_tax yX7_tax ∈ WS := inWS 796 (by decide +kernel) rfl
theorem lk_L_30 : LkV RL 30 mX7_tax 3 7 := ⟨wl_L_30, wj_X7_tax, we_X7_tax, ok_X7_tax, rfl⟩
theorem wl_L_31 : Cond.methodLink RL 31 yX6_heat ∈ WS := inWS 344 (by decide +kernel) rfl
theorem wj_X6_heat : Cond.instanceMethod yX6_heat ∈ WS := inWS 345 (by decide +kernel) rfl
theorem we_X6_heat : Cond.selects RX6 yX6_heat yX6_heat ∈ WS := inWS 346 (by decide +kernel) rfl
theorem lk_L_31 : LkV RL 31 mX6_heat 2 6 := ⟨wl_L_31, wj_X6_heat, we_X6_heat, ok_X6_heat, rfl⟩
theorem wl_L_34 : Cond.methodLink RL 34 yX7_heat ∈ WS := inWS 803 (by decide +kernel) rfl
theorem wj_X7_heat : Cond.instanceMethod yX7_heat ∈ WS := inWS 804 (by decide +kernel) rfl
theorem we_X7_heat : Cond.selects RX7 yX7_heat yX7_heat ∈ WS := inWS 805 (by decide +kernel) rfl
theorem lk_L_34 : LkV RL 34 mX7_heat 2 7 := ⟨wl_L_34, wj_X7_heat, we_X7_heat, ok_X7_heat, rfl⟩
theorem wl_L_35 : Cond.methodLink RL 35 yX6_rule ∈ WS := inWS 348 (by decide +kernel) rfl
theorem wj_X6_rule : Cond.instanceMethod yX6_rule ∈ WS := inWS 349 (by decide +kernel) rfl
theorem we_X6_rule : Cond.selects RX6 yX6_rule yX6_rule ∈ WS := inWS 350 (by decide +kernel) rfl
theorem lk_L_35 : LkV RL 35 mX6_rule 2 6 := ⟨wl_L_35, wj_X6_rule, we_X6_rule, ok_X6_rule, rfl⟩
theorem wl_L_38 : Cond.methodLink RL 38 yX7_rule ∈ WS := inWS 809 (by decide +kernel) rfl
theorem wj_X7_rule : Cond.instanceMethod yX7_rule ∈ WS := inWS 810 (by decide +kernel) rfl
theorem we_X7_rule : Cond.selects RX7 yX7_rule yX7_rule ∈ WS := inWS 811 (by decide +kernel) rfl
theorem lk_L_38 : LkV RL 38 mX7_rule 2 7 := ⟨wl_L_38, wj_X7_rule, we_X7_rule, ok_X7_rule, rfl⟩
theorem wl_L_41 : Cond.methodLink RL 41 yX6_type ∈ WS := inWS 352 (by decide +kernel) rfl
theorem wj_X6_type : Cond.instanceMethod yX6_type ∈ WS := inWS 353 (by decide +kernel) rfl
theorem we_X6_type : Cond.selects RX6 yX6_type yX6_type ∈ WS := inWS 354 (by decide +kernel) rfl
theorem lk_L_41 : LkV RL 41 mX6_type 2 6 := ⟨wl_L_41, wj_X6_type, we_X6_type, ok_X6_type, rfl⟩
theorem wl_L_45 : Cond.methodLink RL 45 yX7_type ∈ WS := inWS 814 (by decide +kernel) rfl
theorem wj_X7_type : Cond.instanceMethod yX7_type ∈ WS := inWS 815 (by decide +kernel) rfl
theorem we_X7_type : Cond.selects RX7 yX7_type yX7_type ∈ WS := inWS 816 (by decide +kernel) rfl
theorem lk_L_45 : LkV RL 45 mX7_type 2 7 := ⟨wl_L_45, wj_X7_type, we_X7_type, ok_X7_type, rfl⟩
theorem wl_L_46 : Cond.methodLink RL 46 yX6_coats ∈ WS := inWS 365 (by decide +kernel) rfl
theorem wj_X6_coats : Cond.instanceMethod yX6_coats ∈ WS := inWS 366 (by decide +kernel) rfl
theorem we_X6_coats : Cond.selects RX6 yX6_coats yX6_coats ∈ WS := inWS 367 (by decide +kernel) rfl
theorem lk_L_46 : LkV RL 46 mX6_coats 1 6 := ⟨wl_L_46, wj_X6_coats, we_X6_coats, ok_X6_coats, rfl⟩
theorem wl_L_50 : Cond.methodLink RL 50 yX7_coats ∈ WS := inWS 822 (by decide +kernel) rfl
theorem wj_X7_coats : Cond.instanceMethod yX7_coats ∈ WS := inWS 823 (by decide +kernel) rfl
theorem we_X7_coats : Cond.selects RX7 yX7_coats yX7_coats ∈ WS := inWS 824 (by decide +kernel) rfl
theorem lk_L_50 : LkV RL 50 mX7_coats 1 7 := ⟨wl_L_50, wj_X7_coats, we_X7_coats, ok_X7_coats, rfl⟩
theorem wl_L_51 : Cond.methodLink RL 51 yX6_count ∈ WS := inWS 407 (by decide +kernel) rfl
theorem wj_X6_count : Cond.instanceMethod yX6_count ∈ WS := inWS 408 (by decide +kernel) rfl
theorem we_X6_count : Cond.selects RX6 yX6_count yX6_count ∈ WS := inWS 409 (by decide +kernel) rfl
theorem lk_L_51 : LkV RL 51 mX6_count 1 6 := ⟨wl_L_51, wj_X6_count, we_X6_count, ok_X6_count, rfl⟩
theorem wl_L_54 : Cond.methodLink RL 54 yX7_count ∈ WS := inWS 845 (by decide +kernel) rfl
theorem wj_X7_count : Cond.instanceMethod yX7_count ∈ WS := inWS 846 (by decide +kernel) rfl
theorem we_X7_count : Cond.selects RX7 yX7_count yX7_count ∈ WS := inWS 847 (by decide +kernel) rfl
theorem lk_L_54 : LkV RL 54 mX7_count 1 7 := ⟨wl_L_54, wj_X7_count, we_X7_count, ok_X7_count, rfl⟩
theorem wl_L_55 : Cond.methodLink RL 55 yX6_take ∈ WS := inWS 419 (by decide +kernel) rfl
theorem wj_X6_take : Cond.instanceMethod yX6_take ∈ WS := inWS 420 (by decide +kernel) rfl
theorem we_X6_take : Cond.selects RX6 yX6_take yX6_take ∈ WS := inWS 421 (by decide +kernel) rfl
theorem lk_L_55 : LkV RL 55 mX6_take 5 6 := ⟨wl_L_55, wj_X6_take, we_X6_take, ok_X6_take, rfl⟩
theorem wl_L_59 : Cond.methodLink RL 59 yX7_take ∈ WS := inWS 869 (by decide +kernel) rfl
theorem wj_X7_take : Cond.instanceMethod yX7_take ∈ WS := inWS 870 (by decide +kernel) rfl
theorem we_X7_take : Cond.selects RX7 yX7_take yX7_take ∈ WS := inWS 871 (by decide +kernel) rfl
theorem lk_L_59 : LkV RL 59 mX7_take 5 7 := ⟨wl_L_59, wj_X7_take, we_X7_take, ok_X7_take, rfl⟩
theorem wl_L_60 : Cond.methodLink RL 60 yX6_pay ∈ WS := inWS 425 (by decide +kernel) rfl
theorem wj_X6_pay : Cond.instanceMethod yX6_pay ∈ WS := inWS 426 (by decide +kernel) rfl
theorem we_X6_pay : Cond.selects RX6 yX6_pay yX6_pay ∈ WS := inWS 427 (by decide +kernel) rfl
theorem lk_L_60 : LkV RL 60 mX6_pay 2 6 := ⟨wl_L_60, wj_X6_pay, we_X6_pay, ok_X6_pay, rfl⟩
theorem wl_L_63 : Cond.methodLink RL 63 yX7_pay ∈ WS := inWS 874 (by decide +kernel) rfl
theorem wj_X7_pay : Cond.instanceMethod yX7_pay ∈ WS := inWS 875 (by decide +kernel) rfl
theorem we_X7_pay : Cond.selects RX7 yX7_pay yX7_pay ∈ WS := inWS 876 (by decide +kernel) rfl
theorem lk_L_63 : LkV RL 63 mX7_pay 2 7 := ⟨wl_L_63, wj_X7_pay, we_X7_pay, ok_X7_pay, rfl⟩
theorem wl_L_64 : Cond.methodLink RL 64 yX6_nights ∈ WS := inWS 444 (by decide +kernel) rfl
theorem wj_X6_nights : Cond.instanceMethod yX6_nights ∈ WS := inWS 445 (by decide +kernel) rfl
theorem we_X6_nights : Cond.selects RX6 yX6_nights yX6_nights ∈ WS := inWS 446 (by decide +kernel) rfl
theorem lk_L_64 : LkV RL 64 mX6_nights 1 6 := ⟨wl_L_64, wj_X6_nights, we_X6_nights, ok_X6_nights, rfl⟩
theorem wl_L_67 : Cond.methodLink RL 67 yX7_nights ∈ WS := inWS 849 (by decide +kernel) rfl
theorem wj_X7_nights : Cond.instanceMethod yX7_nights ∈ WS := inWS 850 (by decide +kernel) rfl
theorem we_X7_nights : Cond.selects RX7 yX7_nights yX7_nights ∈ WS := inWS 851 (by decide +kernel) rfl
theorem lk_L_67 : LkV RL 67 mX7_nights 1 7 := ⟨wl_L_67, wj_X7_nights, we_X7_nights, ok_X7_nights, rfl⟩
theorem wl_L_68 : Cond.methodLink RL 68 yX6_cut ∈ WS := inWS 483 (by decide +kernel) rfl
theorem wj_X6_cut : Cond.instanceMethod yX6_cut ∈ WS := inWS 484 (by decide +kernel) rfl
theorem we_X6_cut : Cond.selects RX6 yX6_cut yX6_cut ∈ WS := inWS 485 (by decide +kernel) rfl
theorem lk_L_68 : LkV RL 68 mX6_cut 2 6 := ⟨wl_L_68, wj_X6_cut, we_X6_cut, ok_X6_cut, rfl⟩
theorem wl_L_71 : Cond.methodLink RL 71 yX7_cut ∈ WS := inWS 886 (by decide +kernel) rfl
theorem wj_X7_cut : Cond.instanceMethod yX7_cut ∈ WS := inWS 887 (by decide +kernel) rfl
theorem we_X7_cut : Cond.selects RX7 yX7_cut yX7_cut ∈ WS := inWS 888 (by decide +kernel) rfl
theorem lk_L_71 : LkV RL 71 mX7_cut 2 7 := ⟨wl_L_71, wj_X7_cut, we_X7_cut, ok_X7_cut, rfl⟩
theorem wl_L_72 : Cond.methodLink RL 72 yX6_ring ∈ WS := inWS 492 (by decide +kernel) rfl
theorem wj_X6_ring : Cond.instanceMethod yX6_ring ∈ WS := inWS 493 (by decide +kernel) rfl
theorem we_X6_ring : Cond.selects RX6 yX6_ring yX6_ring ∈ WS := inWS 494 (by decide +kernel) rfl
theorem lk_L_72 : LkV RL 72 mX6_ring 3 6 := ⟨wl_L_72, wj_X6_ring, we_X6_ring, ok_X6_ring, rfl⟩
theorem wl_L_75 : Cond.methodLink RL 75 yX7_ring ∈ WS := inWS 894 (by decide +kernel) rfl
theorem wj_X7_ring : Cond.instanceMethod yX7_ring ∈ WS := inWS 895 (by decide +kernel) rfl
theorem we_X7_ring : Cond.selects RX7 yX7_ring yX7_ring ∈ WS := inWS 896 (by decide +kernel) rfl
theorem lk_L_75 : LkV RL 75 mX7_ring 3 7 := ⟨wl_L_75, wj_X7_ring, we_X7_ring, ok_X7_ring, rfl⟩
theorem wl_L_76 : Cond.methodLink RL 76 yX6_rings ∈ WS := inWS 509 (by decide +kernel) rfl
theorem wj_X6_rings : Cond.instanceMethod yX6_rings ∈ WS := inWS 510 (by decide +kernel) rfl
theorem we_X6_rings : Cond.selects RX6 yX6_rings yX6_rings ∈ WS := inWS 511 (by decide +kernel) rfl
theorem lk_L_76 : LkV RL 76 mX6_rings 1 6 := ⟨wl_L_76, wj_X6_rings, we_X6_rings, ok_X6_rings, rfl⟩
theorem wl_L_79 : Cond.methodLink RL 79 yX7_rings ∈ WS := inWS 910 (by decide +kernel) rfl
theorem wj_X7_rings : Cond.instanceMethod yX7_rings ∈ WS := inWS 911 (by decide +kernel) rfl
theorem we_X7_rings : Cond.selects RX7 yX7_rings yX7_rings ∈ WS := inWS 912 (by decide +kernel) rfl
theorem lk_L_79 : LkV RL 79 mX7_rings 1 7 := ⟨wl_L_79, wj_X7_rings, we_X7_rings, ok_X7_rings, rfl⟩
theorem wl_L_80 : Cond.methodLink RL 80 yX6_owed ∈ WS := inWS 526 (by decide +kernel) rfl
theorem wj_X6_owed : Cond.instanceMethod yX6_owed ∈ WS := inWS 527 (by decide +kernel) rfl
theorem we_X6_owed : Cond.selects RX6 yX6_owed yX6_owed ∈ WS := inWS 528 (by decide +kernel) rfl
theorem lk_L_80 : LkV RL 80 mX6_owed 1 6 := ⟨wl_L_80, wj_X6_owed, we_X6_owed, ok_X6_owed, rfl⟩
theorem wl_L_83 : Cond.methodLink RL 83 yX7_owed ∈ WS := inWS 915 (by decide +kernel) rfl
theorem wj_X7_owed : Cond.instanceMethod yX7_owed ∈ WS := inWS 916 (by decide +kernel) rfl
theorem we_X7_owed : Cond.selects RX7 yX7_owed yX7_owed ∈ WS := inWS 917 (by decide +kernel) rfl
theorem lk_L_83 : LkV RL 83 mX7_owed 1 7 := ⟨wl_L_83, wj_X7_owed, we_X7_owed, ok_X7_owed, rfl⟩
theorem wl_L_84 : Cond.methodLink RL 84 yX6_free ∈ WS := inWS 534 (by decide +kernel) rfl
theorem wj_X6_free : Cond.instanceMethod yX6_free ∈ WS := inWS 535 (by decide +kernel) rfl
theorem we_X6_free : Cond.selects RX6 yX6_free yX6_free ∈ WS := inWS 536 (by decide +kernel) rfl
theorem lk_L_84 : LkV RL 84 mX6_free 2 6 := ⟨wl_L_84, wj_X6_free, we_X6_free, ok_X6_free, rfl⟩
theorem wl_L_87 : Cond.methodLink RL 87 yX7_free ∈ WS := inWS 919 (by decide +kernel) rfl
theorem wj_X7_free : Cond.instanceMethod yX7_free ∈ WS := inWS 920 (by decide +kernel) rfl
theorem we_X7_free : Cond.selects RX7 yX7_free yX7_free ∈ WS := inWS 921 (by decide +kernel) rfl
theorem lk_L_87 : LkV RL 87 mX7_free 2 7 := ⟨wl_L_87, wj_X7_free, we_X7_free, ok_X7_free, rfl⟩
theorem wl_L_88 : Cond.methodLink RL 88 yX6_saves ∈ WS := inWS 572 (by decide +kernel) rfl
theorem wj_X6_saves : Cond.instanceMethod yX6_saves ∈ WS := inWS 573 (by decide +kernel) rfl
theorem we_X6_saves : Cond.selects RX6 yX6_saves yX6_saves ∈ WS := inWS 574 (by decide +kernel) rfl
theorem lk_L_88 : LkV RL 88 mX6_saves 2 6 := ⟨wl_L_88, wj_X6_saves, we_X6_saves, ok_X6_saves, rfl⟩
theorem wl_L_91 : Cond.methodLink RL 91 yX7_saves ∈ WS := inWS 944 (by decide +kernel) rfl
theorem wj_X7_saves : Cond.instanceMethod yX7_saves ∈ WS := inWS 945 (by decide +kernel) rfl
theorem we_X7_saves : Cond.selects RX7 yX7_saves yX7_saves ∈ WS := inWS 946 (by decide +kernel) rfl
theorem lk_L_91 : LkV RL 91 mX7_saves 2 7 := ⟨wl_L_91, wj_X7_saves, we_X7_saves, ok_X7_saves, rfl⟩
theorem wl_L_92 : Cond.methodLink RL 92 yX6_bears ∈ WS := inWS 582 (by decide +kernel) rfl
theorem wj_X6_bears : Cond.instanceMethod yX6_bears ∈ WS := inWS 583 (by decide +kernel) rfl
theorem we_X6_bears : Cond.selects RX6 yX6_bears yX6_bears ∈ WS := inWS 584 (by decide +kernel) rfl
theorem lk_L_92 : LkV RL 92 mX6_bears 1 6 := ⟨wl_L_92, wj_X6_bears, we_X6_bears, ok_X6_bears, rfl⟩
theorem wl_L_95 : Cond.methodLink RL 95 yX7_bears ∈ WS := inWS 948 (by decide +kernel) rfl
theorem wj_X7_bears : Cond.instanceMethod yX7_bears ∈ WS := inWS 949 (by decide +kernel) rfl
theorem we_X7_bears : Cond.selects RX7 yX7_bears yX7_bears ∈ WS := inWS 950 (by decide +kernel) rfl
theorem lk_L_95 : LkV RL 95 mX7_bears 1 7 := ⟨wl_L_95, wj_X7_bears, we_X7_bears, ok_X7_bears, rfl⟩
theorem wl_L_96 : Cond.methodLink RL 96 yX6_ware ∈ WS := inWS 588 (by decide +kernel) rfl
theorem wj_X6_ware : Cond.instanceMethod yX6_ware ∈ WS := inWS 589 (by decide +kernel) rfl
theorem we_X6_ware : Cond.selects RX6 yX6_ware yX6_ware ∈ WS := inWS 590 (by decide +kernel) rfl
theorem lk_L_96 : LkV RL 96 mX6_ware 2 6 := ⟨wl_L_96, wj_X6_ware, we_X6_ware, ok_X6_ware, rfl⟩
theorem wl_L_99 : Cond.methodLink RL 99 yX7_ware ∈ WS := inWS 952 (by decide +kernel) rfl
theorem wj_X7_ware : Cond.instanceMethod yX7_ware ∈ WS := inWS 953 (by decide +kernel) rfl
theorem we_X7_ware : Cond.selects RX7 yX7_ware yX7_ware ∈ WS := inWS 954 (by decide +kernel) rfl
theorem lk_L_99 : LkV RL 99 mX7_ware 2 7 := ⟨wl_L_99, wj_X7_ware, we_X7_ware, ok_X7_ware, rfl⟩
theorem wl_L_100 : Cond.methodLink RL 100 yX6_under ∈ WS := inWS 592 (by decide +kernel) rfl
theorem wj_X6_under : Cond.instanceMethod yX6_under ∈ WS := inWS 593 (by decide +kernel) rfl
theorem we_X6_under : Cond.selects RX6 yX6_under yX6_under ∈ WS := inWS 594 (by decide +kernel) rfl
theorem lk_L_100 : LkV RL 100 mX6_under 4 6 := ⟨wl_L_100, wj_X6_under, we_X6_under, ok_X6_under, rfl⟩
theorem wl_L_104 : Cond.methodLink RL 104 yX7_under ∈ WS := inWS 956 (by decide +kernel) rfl
theorem wj_X7_under : Cond.instanceMethod yX7_under ∈ WS := inWS 957 (by decide +kernel) rfl
theorem we_X7_under : Cond.selects RX7 yX7_under yX7_under ∈ WS := inWS 958 (by decide +kernel) rfl
theorem lk_L_104 : LkV RL 104 mX7_under 4 7 := ⟨wl_L_104, wj_X7_under, we_X7_under, ok_X7_under, rfl⟩
theorem wl_L_105 : Cond.methodLink RL 105 yX6_image ∈ WS := inWS 603 (by decide +kernel) rfl
theorem wj_X6_image : Cond.instanceMethod yX6_image ∈ WS := inWS 604 (by decide +kernel) rfl
theorem we_X6_image : Cond.selects RX6 yX6_image yX6_image ∈ WS := inWS 605 (by decide +kernel) rfl
theorem lk_L_105 : LkV RL 105 mX6_image 0 6 := ⟨wl_L_105, wj_X6_image, we_X6_image, ok_X6_image, rfl⟩
theorem wl_L_109 : Cond.methodLink RL 109 yX7_image ∈ WS := inWS 961 (by decide +kernel) rfl
theorem wj_X7_image : Cond.instanceMethod yX7_image ∈ WS := inWS 962 (by decide +kernel) rfl
theorem we_X7_image : Cond.selects RX7 yX7_image yX7_image ∈ WS := inWS 963 (by decide +kernel) rfl
theorem lk_L_109 : LkV RL 109 mX7_image 0 7 := ⟨wl_L_109, wj_X7_image, we_X7_image, ok_X7_image, rfl⟩
theorem wl_L_110 : Cond.methodLink RL 110 yX6_restore ∈ WS := inWS 613 (by decide +kernel) rfl
theorem wj_X6_restore : Cond.instanceMethod yX6_restore ∈ WS := inWS 614 (by decide +kernel) rfl
theorem we_X6_restore : Cond.selects RX6 yX6_restore yX6_restore ∈ WS := inWS 615 (by decide +kernel) rfl
theorem lk_L_110 : LkV RL 110 mX6_restore 0 6 := ⟨wl_L_110, wj_X6_restore, we_X6_restore, ok_X6_restore, rfl⟩
theorem wl_L_113 : Cond.methodLink RL 113 yX7_restore ∈ WS := inWS 969 (by decide +kernel) rfl
theorem wj_X7_restore : Cond.instanceMethod yX7_restore ∈ WS := inWS 970 (by decide +kernel) rfl
theorem we_X7_restore : Cond.selects RX7 yX7_restore yX7_restore ∈ WS := inWS 971 (by decide +kernel) rfl
theorem lk_L_113 : LkV RL 113 mX7_restore 0 7 := ⟨wl_L_113, wj_X7_restore, we_X7_restore, ok_X7_restore, rfl⟩
theorem wl_L_114 : Cond.methodLink RL 114 yX6_judged ∈ WS := inWS 617 (by decide +kernel) rfl
theorem wj_X6_judged : Cond.instanceMethod yX6_judged ∈ WS := inWS 618 (by decide +kernel) rfl
theorem we_X6_judged : Cond.selects RX6 yX6_judged yX6_judged ∈ WS := inWS 619 (by decide +kernel) rfl
theorem lk_L_114 : LkV RL 114 mX6_judged 4 6 := ⟨wl_L_114, wj_X6_judged, we_X6_judged, ok_X6_judged, rfl⟩
theorem wl_L_117 : Cond.methodLink RL 117 yX7_judged ∈ WS := inWS 977 (by decide +kernel) rfl
theorem wj_X7_judged : Cond.instanceMethod yX7_judged ∈ WS := inWS 978 (by decide +kernel) rfl
theorem we_X7_judged : Cond.selects RX7 yX7_judged yX7_judged ∈ WS := inWS 979 (by decide +kernel) rfl
theorem lk_L_117 : LkV RL 117 mX7_judged 4 7 := ⟨wl_L_117, wj_X7_judged, we_X7_judged, ok_X7_judged, rfl⟩
theorem wl_L_118 : Cond.methodLink RL 118 yX6_sheet ∈ WS := inWS 644 (by decide +kernel) rfl
theorem wj_X6_sheet : Cond.instanceMethod yX6_sheet ∈ WS := inWS 645 (by decide +kernel) rfl
theorem we_X6_sheet : Cond.selects RX6 yX6_sheet yX6_sheet ∈ WS := inWS 646 (by decide +kernel) rfl
theorem lk_L_118 : LkV RL 118 mX6_sheet 3 6 := ⟨wl_L_118, wj_X6_sheet, we_X6_sheet, ok_X6_sheet, rfl⟩
theorem wl_L_121 : Cond.methodLink RL 121 yX7_sheet ∈ WS := inWS 992 (by decide +kernel) rfl
theorem wj_X7_sheet : Cond.instanceMethod yX7_sheet ∈ WS := inWS 993 (by decide +kernel) rfl
theorem we_X7_sheet : Cond.selects RX7 yX7_sheet yX7_sheet ∈ WS := inWS 994 (by decide +kernel) rfl
theorem lk_L_121 : LkV RL 121 mX7_sheet 3 7 := ⟨wl_L_121, wj_X7_sheet, we_X7_sheet, ok_X7_sheet, rfl⟩
theorem wl_L_122 : Cond.methodLink RL 122 yX6_drop ∈ WS := inWS 653 (by decide +kernel) rfl
theorem wj_X6_drop : Cond.instanceMethod yX6_drop ∈ WS := inWS 654 (by decide +kernel) rfl
theorem we_X6_drop : Cond.selects RX6 yX6_drop yX6_drop ∈ WS := inWS 655 (by decide +kernel) rfl
theorem lk_L_122 : LkV RL 122 mX6_drop 1 6 := ⟨wl_L_122, wj_X6_drop, we_X6_drop, ok_X6_drop, rfl⟩
theorem wl_L_125 : Cond.methodLink RL 125 yX7_drop ∈ WS := inWS 996 (by decide +kernel) rfl
theorem wj_X7_drop : Cond.instanceMethod yX7_drop ∈ WS := inWS 997 (by decide +kernel) rfl
theorem we_X7_drop : Cond.selects RX7 yX7_drop yX7_drop ∈ WS := inWS 998 (by decide +kernel) rfl
theorem lk_L_125 : LkV RL 125 mX7_drop 1 7 := ⟨wl_L_125, wj_X7_drop, we_X7_drop, ok_X7_drop, rfl⟩
theorem wl_L_126 : Cond.methodLink RL 126 yX6_item ∈ WS := inWS 657 (by decide +kernel) rfl
theorem wj_X6_item : Cond.instanceMethod yX6_item ∈ WS := inWS 658 (by decide +kernel) rfl
theorem we_X6_item : Cond.selects RX6 yX6_item yX6_item ∈ WS := inWS 659 (by decide +kernel) rfl
theorem lk_L_126 : LkV RL 126 mX6_item 4 6 := ⟨wl_L_126, wj_X6_item, we_X6_item, ok_X6_item, rfl⟩
theorem wl_L_129 : Cond.methodLink RL 129 yX7_item ∈ WS := inWS 1000 (by decide +kernel) rfl
theorem wj_X7_item : Cond.instanceMethod yX7_item ∈ WS := inWS 1001 (by decide +kernel) rfl
theorem we_X7_item : Cond.selects RX7 yX7_item yX7_item ∈ WS := inWS 1002 (by decide +kernel) rfl
theorem lk_L_129 : LkV RL 129 mX7_item 4 7 := ⟨wl_L_129, wj_X7_item, we_X7_item, ok_X7_item, rfl⟩
theorem wl_L_130 : Cond.methodLink RL 130 yX6_copy ∈ WS := inWS 664 (by decide +kernel) rfl
theorem wj_X6_copy : Cond.instanceMethod yX6_copy ∈ WS := inWS 665 (by decide +kernel) rfl
theorem we_X6_copy : Cond.selects RX6 yX6_copy yX6_copy ∈ WS := inWS 666 (by decide +kernel) rfl
theorem lk_L_130 : LkV RL 130 mX6_copy 5 6 := ⟨wl_L_130, wj_X6_copy, we_X6_copy, ok_X6_copy, rfl⟩
theorem wl_L_133 : Cond.methodLink RL 133 yX7_copy ∈ WS := inWS 1004 (by decide +kernel) rfl
theorem wj_X7_copy : Cond.instanceMethod yX7_copy ∈ WS := inWS 1005 (by decide +kernel) rfl
theorem we_X7_copy : Cond.selects RX7 yX7_copy yX7_copy ∈ WS := inWS 1006 (by decide +kernel) rfl
theorem lk_L_133 : LkV RL 133 mX7_copy 5 7 := ⟨wl_L_133, wj_X7_copy, we_X7_copy, ok_X7_copy, rfl⟩
theorem wk_L_39 : Cond.constantLong RL 39 4294967295 ∈ WS := inWS 1008 (by decide +kernel) rfl
theorem wf_X0_7 : Cond.fieldLink RX0 7 RX0 (TX0 0).2.1 (TX0 0).2.2.1 ∈ WS := inWS 211 (by decide +kernel) rfl
theorem fl_X0_7 : FLk RX0 7 0 0 := ⟨RX0, TX0, 3, tyX0, rfl, rfl, by decide, wf_X0_7, rfl, iw_X0, tyX0_ok, nmX0, by decide +kernel⟩
theorem wf_X0_13 : Cond.fieldLink RX0 13 RX0 (TX0 1).2.1 (TX0 1).2.2.1 ∈ WS := inWS 213 (by decide +kernel) rfl
theorem fl_X0_13 : FLk RX0 13 0 1 := ⟨RX0, TX0, 3, tyX0, rfl, rfl, by decide, wf_X0_13, rfl, iw_X0, tyX0_ok, nmX0, by decide +kernel⟩
theorem wf_X0_17 : Cond.fieldLink RX0 17 RX0 (TX0 2).2.1 (TX0 2).2.2.1 ∈ WS := inWS 215 (by decide +kernel) rfl
theorem fl_X0_17 : FLk RX0 17 0 2 := ⟨RX0, TX0, 3, tyX0, rfl, rfl, by decide, wf_X0_17, rfl, iw_X0, tyX0_ok, nmX0, by decide +kernel⟩
theorem wf_X0_20 : Cond.fieldLink RX0 20 RX5 (TX5 4).2.1 (TX5 4).2.2.1 ∈ WS := inWS 137 (by decide +kernel) rfl
theorem fl_X0_20 : FLk RX0 20 5 4 := ⟨RX5, TX5, 10, tyX5, rfl, rfl, by decide, wf_X0_20, rfl, iw_X5, tyX5_ok, nmX5, by decide +kernel⟩
theorem wf_X0_25 : Cond.fieldLink RX0 25 RX5 (TX5 0).2.1 (TX5 0).2.2.1 ∈ WS := inWS 128 (by decide +kernel) rfl
theorem fl_X0_25 : FLk RX0 25 5 0 := ⟨RX5, TX5, 10, tyX5, rfl, rfl, by decide, wf_X0_25, rfl, iw_X5, tyX5_ok, nmX5, by decide +kernel⟩
theorem wf_X0_45 : Cond.fieldLink RX0 45 RX1 (TX1 5).2.1 (TX1 5).2.2.1 ∈ WS := inWS 92 (by decide +kernel) rfl
theorem fl_X0_45 : FLk RX0 45 1 5 := ⟨RX1, TX1, 10, tyX1, rfl, rfl, by decide, wf_X0_45, rfl, iw_X1, tyX1_ok, nmX1, by decide +kernel⟩
theorem wf_X0_50 : Cond.fieldLink RX0 50 RX1 (TX1 0).2.1 (TX1 0).2.2.1 ∈ WS := inWS 73 (by decide +kernel) rfl
theorem fl_X0_50 : FLk RX0 50 1 0 := ⟨RX1, TX1, 10, tyX1, rfl, rfl, by decide, wf_X0_50, rfl, iw_X1, tyX1_ok, nmX1, by decide +kernel⟩
theorem wf_X0_53 : Cond.fieldLink RX0 53 RX1 (TX1 4).2.1 (TX1 4).2.2.1 ∈ WS := inWS 86 (by decide +kernel) rfl
theorem fl_X0_53 : FLk RX0 53 1 4 := ⟨RX1, TX1, 10, tyX1, rfl, rfl, by decide, wf_X0_53, rfl, iw_X1, tyX1_ok, nmX1, by decide +kernel⟩
theorem wl0_X0_1 : Cond.methodLink RX0 1 objectInit ∈ WS := inWS 210 (by decide +kernel) rfl
theorem wl0_inst : Cond.instanceMethod objectInit ∈ WS := inWS 55 (by decide +kernel) rfl
theorem wl0_code : Cond.code objectInit ⟨#[0xb1]⟩ 1 none ∈ WS := inWS 56 (by decide +kernel) rfl
theorem ws_X0_savedBy : Cond.static yX0_savedBy ∈ WS := inWS 497 (by decide +kernel) rfl
theorem wl_X0_29 : Cond.methodLink RX0 29 yX0_savedBy ∈ WS := inWS 517 (by decide +kernel) rfl
theorem lk_X0_29 : LkS RX0 29 mX0_savedBy 3 := ⟨wl_X0_29, ws_X0_savedBy, ok_X0_savedBy⟩
theorem ws_X0_gain : Cond.static yX0_gain ∈ WS := inWS 500 (by decide +kernel) rfl
theorem wl_X0_41 : Cond.methodLink RX0 41 yX0_gain ∈ WS := inWS 499 (by decide +kernel) rfl
theorem lk_X0_41 : LkS RX0 41 mX0_gain 2 := ⟨wl_X0_41, ws_X0_gain, ok_X0_gain⟩
theorem wl_X0_33 : Cond.methodLink RX0 33 yX0_keepIfBetter ∈ WS := inWS 518 (by decide +kernel) rfl
theorem wj_X0_keepIfBetter : Cond.instanceMethod yX0_keepIfBetter ∈ WS := inWS 520 (by decide +kernel) rfl
theorem we_X0_keepIfBetter : Cond.selects RX0 yX0_keepIfBetter yX0_keepIfBetter ∈ WS := inWS 6 (by decide +kernel) rfl
theorem lk_X0_33 : LkV RX0 33 mX0_keepIfBetter 5 0 := ⟨wl_X0_33, wj_X0_keepIfBetter, we_X0_keepIfBetter, ok_X0_keepIfBetter, rfl⟩
theorem wl_X0_37 : Cond.methodLink RX0 37 yX0_findThirds ∈ WS := inWS 522 (by decide +kernel) rfl
theorem wj_X0_findThirds : Cond.instanceMethod yX0_findThirds ∈ WS := inWS 524 (by decide +kernel) rfl
theorem we_X0_findThirds : Cond.selects RX0 yX0_findThirds yX0_findThirds ∈ WS := inWS 7 (by decide +kernel) rfl
theorem lk_X0_37 : LkV RX0 37 mX0_findThirds 3 0 := ⟨wl_X0_37, wj_X0_findThirds, we_X0_findThirds, ok_X0_findThirds, rfl⟩
theorem wf_X1_9 : Cond.fieldLink RX1 9 RX1 (TX1 0).2.1 (TX1 0).2.2.1 ∈ WS := inWS 70 (by decide +kernel) rfl
theorem fl_X1_9 : FLk RX1 9 1 0 := ⟨RX1, TX1, 10, tyX1, rfl, rfl, by decide, wf_X1_9, rfl, iw_X1, tyX1_ok, nmX1, by decide +kernel⟩
theorem wf_X1_15 : Cond.fieldLink RX1 15 RX1 (TX1 1).2.1 (TX1 1).2.2.1 ∈ WS := inWS 74 (by decide +kernel) rfl
theorem fl_X1_15 : FLk RX1 15 1 1 := ⟨RX1, TX1, 10, tyX1, rfl, rfl, by decide, wf_X1_15, rfl, iw_X1, tyX1_ok, nmX1, by decide +kernel⟩
theorem wf_X1_18 : Cond.fieldLink RX1 18 RX1 (TX1 2).2.1 (TX1 2).2.2.1 ∈ WS := inWS 78 (by decide +kernel) rfl
theorem fl_X1_18 : FLk RX1 18 1 2 := ⟨RX1, TX1, 10, tyX1, rfl, rfl, by decide, wf_X1_18, rfl, iw_X1, tyX1_ok, nmX1, by decide +kernel⟩
theorem wf_X1_21 : Cond.fieldLink RX1 21 RX1 (TX1 3).2.1 (TX1 3).2.2.1 ∈ WS := inWS 81 (by decide +kernel) rfl
theorem fl_X1_21 : FLk RX1 21 1 3 := ⟨RX1, TX1, 10, tyX1, rfl, rfl, by decide, wf_X1_21, rfl, iw_X1, tyX1_ok, nmX1, by decide +kernel⟩
theorem wf_X1_24 : Cond.fieldLink RX1 24 RX1 (TX1 4).2.1 (TX1 4).2.2.1 ∈ WS := inWS 83 (by decide +kernel) rfl
theorem fl_X1_24 : FLk RX1 24 1 4 := ⟨RX1, TX1, 10, tyX1, rfl, rfl, by decide, wf_X1_24, rfl, iw_X1, tyX1_ok, nmX1, by decide +kernel⟩
theorem wf_X1_27 : Cond.fieldLink RX1 27 RX1 (TX1 6).2.1 (TX1 6).2.2.1 ∈ WS := inWS 93 (by decide +kernel) rfl
theorem fl_X1_27 : FLk RX1 27 1 6 := ⟨RX1, TX1, 10, tyX1, rfl, rfl, by decide, wf_X1_27, rfl, iw_X1, tyX1_ok, nmX1, by decide +kernel⟩
theorem wf_X1_31 : Cond.fieldLink RX1 31 RX1 (TX1 7).2.1 (TX1 7).2.2.1 ∈ WS := inWS 97 (by decide +kernel) rfl
theorem fl_X1_31 : FLk RX1 31 1 7 := ⟨RX1, TX1, 10, tyX1, rfl, rfl, by decide, wf_X1_31, rfl, iw_X1, tyX1_ok, nmX1, by decide +kernel⟩
theorem wf_X1_34 : Cond.fieldLink RX1 34 RX1 (TX1 8).2.1 (TX1 8).2.2.1 ∈ WS := inWS 100 (by decide +kernel) rfl
theorem fl_X1_34 : FLk RX1 34 1 8 := ⟨RX1, TX1, 10, tyX1, rfl, rfl, by decide, wf_X1_34, rfl, iw_X1, tyX1_ok, nmX1, by decide +kernel⟩
theorem wf_X1_37 : Cond.fieldLink RX1 37 RX1 (TX1 9).2.1 (TX1 9).2.2.1 ∈ WS := inWS 102 (by decide +kernel) rfl
theorem fl_X1_37 : FLk RX1 37 1 9 := ⟨RX1, TX1, 10, tyX1, rfl, rfl, by decide, wf_X1_37, rfl, iw_X1, tyX1_ok, nmX1, by decide +kernel⟩
theorem wf_X1_40 : Cond.fieldLink RX1 40 RX1 (TX1 5).2.1 (TX1 5).2.2.1 ∈ WS := inWS 87 (by decide +kernel) rfl
theorem fl_X1_40 : FLk RX1 40 1 5 := ⟨RX1, TX1, 10, tyX1, rfl, rfl, by decide, wf_X1_40, rfl, iw_X1, tyX1_ok, nmX1, by decide +kernel⟩
theorem wl0_X1_3 : Cond.methodLink RX1 3 objectInit ∈ WS := inWS 69 (by decide +kernel) rfl
theorem ws_J7_fill_53178 : Cond.static yJ7_fill_53178 ∈ WS := inWS 305 (by decide +kernel) rfl
theorem wl_X1_43 : Cond.methodLink RX1 43 yJ7_fill_53178 ∈ WS := inWS 304 (by decide +kernel) rfl
theorem lk_X1_43 : LkS RX1 43 mJ7_fill_53178 2 := ⟨wl_X1_43, ws_J7_fill_53178, ok_J7_fill_53178⟩
theorem wl_X1_53_copy : Cond.methodLink RX1 53 arraycopyName ∈ WS := inWS 404 (by decide +kernel) rfl
theorem ws_copy : Cond.static arraycopyName ∈ WS := inWS 405 (by decide +kernel) rfl
theorem wi_copy : Cond.initialized "java/lang/System" ∈ WS := inWS 48 (by decide +kernel) rfl
theorem wn_copy : Cond.native arraycopyName ∈ WS := inWS 406 (by decide +kernel) rfl
theorem lk_X1_53 : LkCpy RX1 53 := ⟨wl_X1_53_copy, wn_copy, ws_copy, wi_copy⟩
theorem ws_X1_swapItems : Cond.static yX1_swapItems ∈ WS := inWS 507 (by decide +kernel) rfl
theorem wl_X1_67 : Cond.methodLink RX1 67 yX1_swapItems ∈ WS := inWS 506 (by decide +kernel) rfl
theorem lk_X1_67 : LkS RX1 67 mX1_swapItems 4 := ⟨wl_X1_67, ws_X1_swapItems, ok_X1_swapItems⟩
theorem ws_X6_amountNextDay : Cond.static yX6_amountNextDay ∈ WS := inWS 461 (by decide +kernel) rfl
theorem lk_X1_71 : LkSN RX1 71 mX6_amountNextDay 2 "DebtCoats" := ⟨List.mem_of_getElem? (i := 460) (by decide +kernel), ws_X6_amountNextDay, ok_X6_amountNextDay⟩
theorem ws_X6_purseNextDay : Cond.static yX6_purseNextDay ∈ WS := inWS 464 (by decide +kernel) rfl
theorem lk_X1_75 : LkSN RX1 75 mX6_purseNextDay 3 "DebtCoats" := ⟨List.mem_of_getElem? (i := 463) (by decide +kernel), ws_X6_purseNextDay, ok_X6_purseNextDay⟩
theorem wl_X1_83_max : Cond.methodLink RX1 83 Lib.Math.max.name ∈ WS := inWS 478 (by decide +kernel) rfl
theorem ws_max : Cond.static Lib.Math.max.name ∈ WS := inWS 467 (by decide +kernel) rfl
theorem wi_max : Cond.initialized "java/lang/Math" ∈ WS := inWS 47 (by decide +kernel) rfl
theorem wn_max : Cond.code Lib.Math.max.name Lib.Math.max.code 2 (some .int) ∈ WS := inWS 468 (by decide +kernel) rfl
theorem lk_X1_83 : LkMax RX1 83 := ⟨wl_X1_83_max, ws_max, wi_max, wn_max⟩
theorem wl_X1_49 : Cond.methodLink RX1 49 yX1_begin ∈ WS := inWS 580 (by decide +kernel) rfl
theorem wj_X1_begin : Cond.instanceMethod yX1_begin ∈ WS := inWS 301 (by decide +kernel) rfl
theorem we_X1_begin : Cond.selects RX1 yX1_begin yX1_begin ∈ WS := inWS 302 (by decide +kernel) rfl
theorem lk_X1_49 : LkV RX1 49 mX1_begin 3 1 := ⟨wl_X1_49, wj_X1_begin, we_X1_begin, ok_X1_begin, rfl⟩
theorem wl_X1_59 : Cond.methodLink RX1 59 yX1_wearAs ∈ WS := inWS 581 (by decide +kernel) rfl
theorem wj_X1_wearAs : Cond.instanceMethod yX1_wearAs ∈ WS := inWS 401 (by decide +kernel) rfl
theorem we_X1_wearAs : Cond.selects RX1 yX1_wearAs yX1_wearAs ∈ WS := inWS 402 (by decide +kernel) rfl
theorem lk_X1_59 : LkV RX1 59 mX1_wearAs 1 1 := ⟨wl_X1_59, wj_X1_wearAs, we_X1_wearAs, ok_X1_wearAs, rfl⟩
theorem wl_X1_63 : Cond.methodLink RX1 63 yX1_takeOff ∈ WS := inWS 440 (by decide +kernel) rfl
theorem wj_X1_takeOff : Cond.instanceMethod yX1_takeOff ∈ WS := inWS 441 (by decide +kernel) rfl
theorem we_X1_takeOff : Cond.selects RX1 yX1_takeOff yX1_takeOff ∈ WS := inWS 442 (by decide +kernel) rfl
theorem lk_X1_63 : LkV RX1 63 mX1_takeOff 1 1 := ⟨wl_X1_63, wj_X1_takeOff, we_X1_takeOff, ok_X1_takeOff, rfl⟩
theorem wl_X1_79 : Cond.methodLink RX1 79 yX1_thickTogether ∈ WS := inWS 477 (by decide +kernel) rfl
theorem wj_X1_thickTogether : Cond.instanceMethod yX1_thickTogether ∈ WS := inWS 317 (by decide +kernel) rfl
theorem we_X1_thickTogether : Cond.selects RX1 yX1_thickTogether yX1_thickTogether ∈ WS := inWS 318 (by decide +kernel) rfl
theorem lk_X1_79 : LkV RX1 79 mX1_thickTogether 0 1 := ⟨wl_X1_79, wj_X1_thickTogether, we_X1_thickTogether, ok_X1_thickTogether, rfl⟩
theorem wf_X2_11 : Cond.fieldLink RX2 11 RX2 (TX2 0).2.1 (TX2 0).2.2.1 ∈ WS := inWS 180 (by decide +kernel) rfl
theorem fl_X2_11 : FLk RX2 11 2 0 := ⟨RX2, TX2, 7, tyX2, rfl, rfl, by decide, wf_X2_11, rfl, iw_X2, tyX2_ok, nmX2, by decide +kernel⟩
theorem wf_X2_16 : Cond.fieldLink RX2 16 RX2 (TX2 1).2.1 (TX2 1).2.2.1 ∈ WS := inWS 181 (by decide +kernel) rfl
theorem fl_X2_16 : FLk RX2 16 2 1 := ⟨RX2, TX2, 7, tyX2, rfl, rfl, by decide, wf_X2_16, rfl, iw_X2, tyX2_ok, nmX2, by decide +kernel⟩
theorem wf_X2_20 : Cond.fieldLink RX2 20 RX2 (TX2 2).2.1 (TX2 2).2.2.1 ∈ WS := inWS 182 (by decide +kernel) rfl
theorem fl_X2_20 : FLk RX2 20 2 2 := ⟨RX2, TX2, 7, tyX2, rfl, rfl, by decide, wf_X2_20, rfl, iw_X2, tyX2_ok, nmX2, by decide +kernel⟩
theorem wf_X2_23 : Cond.fieldLink RX2 23 RX2 (TX2 3).2.1 (TX2 3).2.2.1 ∈ WS := inWS 184 (by decide +kernel) rfl
theorem fl_X2_23 : FLk RX2 23 2 3 := ⟨RX2, TX2, 7, tyX2, rfl, rfl, by decide, wf_X2_23, rfl, iw_X2, tyX2_ok, nmX2, by decide +kernel⟩
theorem wf_X2_27 : Cond.fieldLink RX2 27 RX2 (TX2 4).2.1 (TX2 4).2.2.1 ∈ WS := inWS 185 (by decide +kernel) rfl
theorem fl_X2_27 : FLk RX2 27 2 4 := ⟨RX2, TX2, 7, tyX2, rfl, rfl, by decide, wf_X2_27, rfl, iw_X2, tyX2_ok, nmX2, by decide +kernel⟩
theorem wf_X2_31 : Cond.fieldLink RX2 31 RX2 (TX2 5).2.1 (TX2 5).2.2.1 ∈ WS := inWS 186 (by decide +kernel) rfl
theorem fl_X2_31 : FLk RX2 31 2 5 := ⟨RX2, TX2, 7, tyX2, rfl, rfl, by decide, wf_X2_31, rfl, iw_X2, tyX2_ok, nmX2, by decide +kernel⟩
theorem wf_X2_34 : Cond.fieldLink RX2 34 RX2 (TX2 6).2.1 (TX2 6).2.2.1 ∈ WS := inWS 188 (by decide +kernel) rfl
theorem fl_X2_34 : FLk RX2 34 2 6 := ⟨RX2, TX2, 7, tyX2, rfl, rfl, by decide, wf_X2_34, rfl, iw_X2, tyX2_ok, nmX2, by decide +kernel⟩
theorem wf_X2_37 : Cond.fieldLink RX2 37 RX1 (TX1 1).2.1 (TX1 1).2.2.1 ∈ WS := inWS 75 (by decide +kernel) rfl
theorem fl_X2_37 : FLk RX2 37 1 1 := ⟨RX1, TX1, 10, tyX1, rfl, rfl, by decide, wf_X2_37, rfl, iw_X1, tyX1_ok, nmX1, by decide +kernel⟩
theorem wf_X2_52 : Cond.fieldLink RX2 52 RX1 (TX1 6).2.1 (TX1 6).2.2.1 ∈ WS := inWS 94 (by decide +kernel) rfl
theorem fl_X2_52 : FLk RX2 52 1 6 := ⟨RX1, TX1, 10, tyX1, rfl, rfl, by decide, wf_X2_52, rfl, iw_X1, tyX1_ok, nmX1, by decide +kernel⟩
theorem wf_X2_63 : Cond.fieldLink RX2 63 RX1 (TX1 5).2.1 (TX1 5).2.2.1 ∈ WS := inWS 88 (by decide +kernel) rfl
theorem fl_X2_63 : FLk RX2 63 1 5 := ⟨RX1, TX1, 10, tyX1, rfl, rfl, by decide, wf_X2_63, rfl, iw_X1, tyX1_ok, nmX1, by decide +kernel⟩
theorem wf_X2_81 : Cond.fieldLink RX2 81 RX1 (TX1 7).2.1 (TX1 7).2.2.1 ∈ WS := inWS 99 (by decide +kernel) rfl
theorem fl_X2_81 : FLk RX2 81 1 7 := ⟨RX1, TX1, 10, tyX1, rfl, rfl, by decide, wf_X2_81, rfl, iw_X1, tyX1_ok, nmX1, by decide +kernel⟩
theorem wf_X2_101 : Cond.fieldLink RX2 101 RX1 (TX1 4).2.1 (TX1 4).2.2.1 ∈ WS := inWS 84 (by decide +kernel) rfl
theorem fl_X2_101 : FLk RX2 101 1 4 := ⟨RX1, TX1, 10, tyX1, rfl, rfl, by decide, wf_X2_101, rfl, iw_X1, tyX1_ok, nmX1, by decide +kernel⟩
theorem wf_X2_104 : Cond.fieldLink RX2 104 RX1 (TX1 0).2.1 (TX1 0).2.2.1 ∈ WS := inWS 72 (by decide +kernel) rfl
theorem fl_X2_104 : FLk RX2 104 1 0 := ⟨RX1, TX1, 10, tyX1, rfl, rfl, by decide, wf_X2_104, rfl, iw_X1, tyX1_ok, nmX1, by decide +kernel⟩
theorem wf_X2_107 : Cond.fieldLink RX2 107 RX1 (TX1 2).2.1 (TX1 2).2.2.1 ∈ WS := inWS 80 (by decide +kernel) rfl
theorem fl_X2_107 : FLk RX2 107 1 2 := ⟨RX1, TX1, 10, tyX1, rfl, rfl, by decide, wf_X2_107, rfl, iw_X1, tyX1_ok, nmX1, by decide +kernel⟩
theorem wl0_X2_3 : Cond.methodLink RX2 3 objectInit ∈ WS := inWS 177 (by decide +kernel) rfl
theorem wl_X2_42_copy : Cond.methodLink RX2 42 arraycopyName ∈ WS := inWS 542 (by decide +kernel) rfl
theorem lk_X2_42 : LkCpy RX2 42 := ⟨wl_X2_42_copy, wn_copy, ws_copy, wi_copy⟩
theorem ws_X6_isIn : Cond.static yX6_isIn ∈ WS := inWS 553 (by decide +kernel) rfl
theorem lk_X2_66 : LkSN RX2 66 mX6_isIn 2 "DebtCoats" := ⟨List.mem_of_getElem? (i := 552) (by decide +kernel), ws_X6_isIn, ok_X6_isIn⟩
theorem ws_X6_mayComeOff : Cond.static yX6_mayComeOff ∈ WS := inWS 434 (by decide +kernel) rfl
theorem lk_X2_70 : LkSN RX2 70 mX6_mayComeOff 3 "DebtCoats" := ⟨List.mem_of_getElem? (i := 555) (by decide +kernel), ws_X6_mayComeOff, ok_X6_mayComeOff⟩
theorem wl_X2_84_max : Cond.methodLink RX2 84 Lib.Math.max.name ∈ WS := inWS 564 (by decide +kernel) rfl
theorem lk_X2_84 : LkMax RX2 84 := ⟨wl_X2_84_max, ws_max, wi_max, wn_max⟩
theorem wl_X2_90_min : Cond.methodLink RX2 90 Lib.Math.min.name ∈ WS := inWS 565 (by decide +kernel) rfl
theorem ws_min : Cond.static Lib.Math.min.name ∈ WS := inWS 326 (by decide +kernel) rfl
theorem wi_min : Cond.initialized "java/lang/Math" ∈ WS := inWS 47 (by decide +kernel) rfl
theorem wn_min : Cond.code Lib.Math.min.name Lib.Math.min.code 2 (some .int) ∈ WS := inWS 327 (by decide +kernel) rfl
theorem lk_X2_90 : LkMin RX2 90 := ⟨wl_X2_90_min, ws_min, wi_min, wn_min⟩
theorem lk_X2_93 : LkSN RX2 93 mX6_purseNextDay 3 "DebtCoats" := ⟨List.mem_of_getElem? (i := 566) (by decide +kernel), ws_X6_purseNextDay, ok_X6_purseNextDay⟩
theorem lk_X2_110 : LkSN RX2 110 mX6_amountNextDay 2 "DebtCoats" := ⟨List.mem_of_getElem? (i := 571) (by decide +kernel), ws_X6_amountNextDay, ok_X6_amountNextDay⟩
theorem wl_X2_48 : Cond.methodLink RX2 48 yX1_wornSet ∈ WS := inWS 543 (by decide +kernel) rfl
theorem wj_X1_wornSet : Cond.instanceMethod yX1_wornSet ∈ WS := inWS 430 (by decide +kernel) rfl
theorem we_X1_wornSet : Cond.selects RX1 yX1_wornSet yX1_wornSet ∈ WS := inWS 431 (by decide +kernel) rfl
theorem lk_X2_48 : LkV RX2 48 mX1_wornSet 0 1 := ⟨wl_X2_48, wj_X1_wornSet, we_X1_wornSet, ok_X1_wornSet, rfl⟩
theorem wl_X2_55 : Cond.methodLink RX2 55 yX2_tryEach ∈ WS := inWS 544 (by decide +kernel) rfl
theorem wj_X2_tryEach : Cond.instanceMethod yX2_tryEach ∈ WS := inWS 546 (by decide +kernel) rfl
theorem we_X2_tryEach : Cond.selects RX2 yX2_tryEach yX2_tryEach ∈ WS := inWS 8 (by decide +kernel) rfl
theorem lk_X2_55 : LkV RX2 55 mX2_tryEach 5 2 := ⟨wl_X2_55, wj_X2_tryEach, we_X2_tryEach, ok_X2_tryEach, rfl⟩
theorem wl_X2_59 : Cond.methodLink RX2 59 yX2_keepIfBetter ∈ WS := inWS 548 (by decide +kernel) rfl
theorem wj_X2_keepIfBetter : Cond.instanceMethod yX2_keepIfBetter ∈ WS := inWS 550 (by decide +kernel) rfl
theorem we_X2_keepIfBetter : Cond.selects RX2 yX2_keepIfBetter yX2_keepIfBetter ∈ WS := inWS 9 (by decide +kernel) rfl
theorem lk_X2_59 : LkV RX2 59 mX2_keepIfBetter 3 2 := ⟨wl_X2_59, wj_X2_keepIfBetter, we_X2_keepIfBetter, ok_X2_keepIfBetter, rfl⟩
theorem wl_X2_74 : Cond.methodLink RX2 74 yX2_payNext ∈ WS := inWS 556 (by decide +kernel) rfl
theorem wj_X2_payNext : Cond.instanceMethod yX2_payNext ∈ WS := inWS 558 (by decide +kernel) rfl
theorem we_X2_payNext : Cond.selects RX2 yX2_payNext yX2_payNext ∈ WS := inWS 10 (by decide +kernel) rfl
theorem lk_X2_74 : LkV RX2 74 mX2_payNext 5 2 := ⟨wl_X2_74, wj_X2_payNext, we_X2_payNext, ok_X2_payNext, rfl⟩
theorem wl_X2_77 : Cond.methodLink RX2 77 yX2_taxesOf ∈ WS := inWS 560 (by decide +kernel) rfl
theorem wj_X2_taxesOf : Cond.instanceMethod yX2_taxesOf ∈ WS := inWS 562 (by decide +kernel) rfl
theorem we_X2_taxesOf : Cond.selects RX2 yX2_taxesOf yX2_taxesOf ∈ WS := inWS 11 (by decide +kernel) rfl
theorem lk_X2_77 : LkV RX2 77 mX2_taxesOf 1 2 := ⟨wl_X2_77, wj_X2_taxesOf, we_X2_taxesOf, ok_X2_taxesOf, rfl⟩
theorem wl_X2_97 : Cond.methodLink RX2 97 yX2_growAmounts ∈ WS := inWS 567 (by decide +kernel) rfl
theorem wj_X2_growAmounts : Cond.instanceMethod yX2_growAmounts ∈ WS := inWS 569 (by decide +kernel) rfl
theorem we_X2_growAmounts : Cond.selects RX2 yX2_growAmounts yX2_growAmounts ∈ WS := inWS 12 (by decide +kernel) rfl
theorem lk_X2_97 : LkV RX2 97 mX2_growAmounts 2 2 := ⟨wl_X2_97, wj_X2_growAmounts, we_X2_growAmounts, ok_X2_growAmounts, rfl⟩
theorem wf_X3_9 : Cond.fieldLink RX3 9 RX3 (TX3 0).2.1 (TX3 0).2.2.1 ∈ WS := inWS 248 (by decide +kernel) rfl
theorem fl_X3_9 : FLk RX3 9 3 0 := ⟨RX3, TX3, 4, tyX3, rfl, rfl, by decide, wf_X3_9, rfl, iw_X3, tyX3_ok, nmX3, by decide +kernel⟩
theorem wf_X3_15 : Cond.fieldLink RX3 15 RX3 (TX3 1).2.1 (TX3 1).2.2.1 ∈ WS := inWS 250 (by decide +kernel) rfl
theorem fl_X3_15 : FLk RX3 15 3 1 := ⟨RX3, TX3, 4, tyX3, rfl, rfl, by decide, wf_X3_15, rfl, iw_X3, tyX3_ok, nmX3, by decide +kernel⟩
theorem wf_X3_19 : Cond.fieldLink RX3 19 RX3 (TX3 2).2.1 (TX3 2).2.2.1 ∈ WS := inWS 252 (by decide +kernel) rfl
theorem fl_X3_19 : FLk RX3 19 3 2 := ⟨RX3, TX3, 4, tyX3, rfl, rfl, by decide, wf_X3_19, rfl, iw_X3, tyX3_ok, nmX3, by decide +kernel⟩
theorem wf_X3_23 : Cond.fieldLink RX3 23 RX3 (TX3 3).2.1 (TX3 3).2.2.1 ∈ WS := inWS 254 (by decide +kernel) rfl
theorem fl_X3_23 : FLk RX3 23 3 3 := ⟨RX3, TX3, 4, tyX3, rfl, rfl, by decide, wf_X3_23, rfl, iw_X3, tyX3_ok, nmX3, by decide +kernel⟩
theorem wl0_X3_3 : Cond.methodLink RX3 3 objectInit ∈ WS := inWS 247 (by decide +kernel) rfl
theorem wl_X3_26 : Cond.methodLink RX3 26 yJ7_fill_53178 ∈ WS := inWS 652 (by decide +kernel) rfl
theorem lk_X3_26 : LkS RX3 26 mJ7_fill_53178 2 := ⟨wl_X3_26, ws_J7_fill_53178, ok_J7_fill_53178⟩
theorem wl_X3_32 : Cond.methodLink RX3 32 yX3_hasItems ∈ WS := inWS 631 (by decide +kernel) rfl
theorem wj_X3_hasItems : Cond.instanceMethod yX3_hasItems ∈ WS := inWS 632 (by decide +kernel) rfl
theorem we_X3_hasItems : Cond.selects RX3 yX3_hasItems yX3_hasItems ∈ WS := inWS 633 (by decide +kernel) rfl
theorem lk_X3_32 : LkV RX3 32 mX3_hasItems 2 3 := ⟨wl_X3_32, wj_X3_hasItems, we_X3_hasItems, ok_X3_hasItems, rfl⟩
theorem wf_X4_9 : Cond.fieldLink RX4 9 RX4 (TX4 0).2.1 (TX4 0).2.2.1 ∈ WS := inWS 230 (by decide +kernel) rfl
theorem fl_X4_9 : FLk RX4 9 4 0 := ⟨RX4, TX4, 3, tyX4, rfl, rfl, by decide, wf_X4_9, rfl, iw_X4, tyX4_ok, nmX4, by decide +kernel⟩
theorem wf_X4_21 : Cond.fieldLink RX4 21 RX4 (TX4 1).2.1 (TX4 1).2.2.1 ∈ WS := inWS 231 (by decide +kernel) rfl
theorem fl_X4_21 : FLk RX4 21 4 1 := ⟨RX4, TX4, 3, tyX4, rfl, rfl, by decide, wf_X4_21, rfl, iw_X4, tyX4_ok, nmX4, by decide +kernel⟩
theorem wf_X4_25 : Cond.fieldLink RX4 25 RX4 (TX4 2).2.1 (TX4 2).2.2.1 ∈ WS := inWS 233 (by decide +kernel) rfl
theorem fl_X4_25 : FLk RX4 25 4 2 := ⟨RX4, TX4, 3, tyX4, rfl, rfl, by decide, wf_X4_25, rfl, iw_X4, tyX4_ok, nmX4, by decide +kernel⟩
theorem wf_X4_28 : Cond.fieldLink RX4 28 RX1 (TX1 5).2.1 (TX1 5).2.2.1 ∈ WS := inWS 90 (by decide +kernel) rfl
theorem fl_X4_28 : FLk RX4 28 1 5 := ⟨RX1, TX1, 10, tyX1, rfl, rfl, by decide, wf_X4_28, rfl, iw_X1, tyX1_ok, nmX1, by decide +kernel⟩
theorem wl0_X4_3 : Cond.methodLink RX4 3 objectInit ∈ WS := inWS 229 (by decide +kernel) rfl
theorem ws_X6_isWithin : Cond.static yX6_isWithin ∈ WS := inWS 298 (by decide +kernel) rfl
theorem lk_X4_17 : LkSN RX4 17 mX6_isWithin 3 "DebtCoats" := ⟨List.mem_of_getElem? (i := 360) (by decide +kernel), ws_X6_isWithin, ok_X6_isWithin⟩
theorem ws_X6_isLender : Cond.static yX6_isLender ∈ WS := inWS 342 (by decide +kernel) rfl
theorem lk_X4_45 : LkSN RX4 45 mX6_isLender 1 "DebtCoats" := ⟨List.mem_of_getElem? (i := 381) (by decide +kernel), ws_X6_isLender, ok_X6_isLender⟩
theorem wl_X4_60_min : Cond.methodLink RX4 60 Lib.Math.min.name ∈ WS := inWS 387 (by decide +kernel) rfl
theorem lk_X4_60 : LkMin RX4 60 := ⟨wl_X4_60_min, ws_min, wi_min, wn_min⟩
theorem wl_X4_33 : Cond.methodLink RX4 33 yX4_readCoat ∈ WS := inWS 373 (by decide +kernel) rfl
theorem wj_X4_readCoat : Cond.instanceMethod yX4_readCoat ∈ WS := inWS 375 (by decide +kernel) rfl
theorem we_X4_readCoat : Cond.selects RX4 yX4_readCoat yX4_readCoat ∈ WS := inWS 0 (by decide +kernel) rfl
theorem lk_X4_33 : LkV RX4 33 mX4_readCoat 1 4 := ⟨wl_X4_33, wj_X4_readCoat, we_X4_readCoat, ok_X4_readCoat, rfl⟩
theorem wl_X4_37 : Cond.methodLink RX4 37 yX4_nextByte ∈ WS := inWS 377 (by decide +kernel) rfl
theorem wj_X4_nextByte : Cond.instanceMethod yX4_nextByte ∈ WS := inWS 379 (by decide +kernel) rfl
theorem we_X4_nextByte : Cond.selects RX4 yX4_nextByte yX4_nextByte ∈ WS := inWS 1 (by decide +kernel) rfl
theorem lk_X4_37 : LkV RX4 37 mX4_nextByte 0 4 := ⟨wl_X4_37, wj_X4_nextByte, we_X4_nextByte, ok_X4_nextByte, rfl⟩
theorem wl_X4_41 : Cond.methodLink RX4 41 yX4_skipIf ∈ WS := inWS 388 (by decide +kernel) rfl
theorem wj_X4_skipIf : Cond.instanceMethod yX4_skipIf ∈ WS := inWS 390 (by decide +kernel) rfl
theorem we_X4_skipIf : Cond.selects RX4 yX4_skipIf yX4_skipIf ∈ WS := inWS 3 (by decide +kernel) rfl
theorem lk_X4_41 : LkV RX4 41 mX4_skipIf 1 4 := ⟨wl_X4_41, wj_X4_skipIf, we_X4_skipIf, ok_X4_skipIf, rfl⟩
theorem wl_X4_48 : Cond.methodLink RX4 48 yX4_readNumber ∈ WS := inWS 382 (by decide +kernel) rfl
theorem wj_X4_readNumber : Cond.instanceMethod yX4_readNumber ∈ WS := inWS 384 (by decide +kernel) rfl
theorem we_X4_readNumber : Cond.selects RX4 yX4_readNumber yX4_readNumber ∈ WS := inWS 2 (by decide +kernel) rfl
theorem lk_X4_48 : LkV RX4 48 mX4_readNumber 2 4 := ⟨wl_X4_48, wj_X4_readNumber, we_X4_readNumber, ok_X4_readNumber, rfl⟩
theorem wl_X4_52 : Cond.methodLink RX4 52 yX4_readDigit ∈ WS := inWS 392 (by decide +kernel) rfl
theorem wj_X4_readDigit : Cond.instanceMethod yX4_readDigit ∈ WS := inWS 394 (by decide +kernel) rfl
theorem we_X4_readDigit : Cond.selects RX4 yX4_readDigit yX4_readDigit ∈ WS := inWS 4 (by decide +kernel) rfl
theorem lk_X4_52 : LkV RX4 52 mX4_readDigit 0 4 := ⟨wl_X4_52, wj_X4_readDigit, we_X4_readDigit, ok_X4_readDigit, rfl⟩
theorem wl_X4_55 : Cond.methodLink RX4 55 yX1_putOn ∈ WS := inWS 396 (by decide +kernel) rfl
theorem wj_X1_putOn : Cond.instanceMethod yX1_putOn ∈ WS := inWS 397 (by decide +kernel) rfl
theorem we_X1_putOn : Cond.selects RX1 yX1_putOn yX1_putOn ∈ WS := inWS 398 (by decide +kernel) rfl
theorem lk_X4_55 : LkV RX4 55 mX1_putOn 4 1 := ⟨wl_X4_55, wj_X1_putOn, we_X1_putOn, ok_X1_putOn, rfl⟩
theorem wk_X4_59 : Cond.constant RX4 59 999999 ∈ WS := inWS 386 (by decide +kernel) rfl
theorem wk_X4_15 : Cond.constantLong RX4 15 255 ∈ WS := inWS 359 (by decide +kernel) rfl
theorem wf_X5_11 : Cond.fieldLink RX5 11 RX5 (TX5 0).2.1 (TX5 0).2.2.1 ∈ WS := inWS 127 (by decide +kernel) rfl
theorem fl_X5_11 : FLk RX5 11 5 0 := ⟨RX5, TX5, 10, tyX5, rfl, rfl, by decide, wf_X5_11, rfl, iw_X5, tyX5_ok, nmX5, by decide +kernel⟩
theorem wf_X5_17 : Cond.fieldLink RX5 17 RX5 (TX5 1).2.1 (TX5 1).2.2.1 ∈ WS := inWS 130 (by decide +kernel) rfl
theorem fl_X5_17 : FLk RX5 17 5 1 := ⟨RX5, TX5, 10, tyX5, rfl, rfl, by decide, wf_X5_17, rfl, iw_X5, tyX5_ok, nmX5, by decide +kernel⟩
theorem wf_X5_21 : Cond.fieldLink RX5 21 RX5 (TX5 2).2.1 (TX5 2).2.2.1 ∈ WS := inWS 132 (by decide +kernel) rfl
theorem fl_X5_21 : FLk RX5 21 5 2 := ⟨RX5, TX5, 10, tyX5, rfl, rfl, by decide, wf_X5_21, rfl, iw_X5, tyX5_ok, nmX5, by decide +kernel⟩
theorem wf_X5_24 : Cond.fieldLink RX5 24 RX5 (TX5 3).2.1 (TX5 3).2.2.1 ∈ WS := inWS 134 (by decide +kernel) rfl
theorem fl_X5_24 : FLk RX5 24 5 3 := ⟨RX5, TX5, 10, tyX5, rfl, rfl, by decide, wf_X5_24, rfl, iw_X5, tyX5_ok, nmX5, by decide +kernel⟩
theorem wf_X5_28 : Cond.fieldLink RX5 28 RX5 (TX5 4).2.1 (TX5 4).2.2.1 ∈ WS := inWS 136 (by decide +kernel) rfl
theorem fl_X5_28 : FLk RX5 28 5 4 := ⟨RX5, TX5, 10, tyX5, rfl, rfl, by decide, wf_X5_28, rfl, iw_X5, tyX5_ok, nmX5, by decide +kernel⟩
theorem wf_X5_42 : Cond.fieldLink RX5 42 RX5 (TX5 5).2.1 (TX5 5).2.2.1 ∈ WS := inWS 139 (by decide +kernel) rfl
theorem fl_X5_42 : FLk RX5 42 5 5 := ⟨RX5, TX5, 10, tyX5, rfl, rfl, by decide, wf_X5_42, rfl, iw_X5, tyX5_ok, nmX5, by decide +kernel⟩
theorem wf_X5_45 : Cond.fieldLink RX5 45 RX5 (TX5 6).2.1 (TX5 6).2.2.1 ∈ WS := inWS 141 (by decide +kernel) rfl
theorem fl_X5_45 : FLk RX5 45 5 6 := ⟨RX5, TX5, 10, tyX5, rfl, rfl, by decide, wf_X5_45, rfl, iw_X5, tyX5_ok, nmX5, by decide +kernel⟩
theorem wf_X5_48 : Cond.fieldLink RX5 48 RX5 (TX5 7).2.1 (TX5 7).2.2.1 ∈ WS := inWS 143 (by decide +kernel) rfl
theorem fl_X5_48 : FLk RX5 48 5 7 := ⟨RX5, TX5, 10, tyX5, rfl, rfl, by decide, wf_X5_48, rfl, iw_X5, tyX5_ok, nmX5, by decide +kernel⟩
theorem wf_X5_51 : Cond.fieldLink RX5 51 RX5 (TX5 8).2.1 (TX5 8).2.2.1 ∈ WS := inWS 145 (by decide +kernel) rfl
theorem fl_X5_51 : FLk RX5 51 5 8 := ⟨RX5, TX5, 10, tyX5, rfl, rfl, by decide, wf_X5_51, rfl, iw_X5, tyX5_ok, nmX5, by decide +kernel⟩
theorem wf_X5_54 : Cond.fieldLink RX5 54 RX5 (TX5 9).2.1 (TX5 9).2.2.1 ∈ WS := inWS 147 (by decide +kernel) rfl
theorem fl_X5_54 : FLk RX5 54 5 9 := ⟨RX5, TX5, 10, tyX5, rfl, rfl, by decide, wf_X5_54, rfl, iw_X5, tyX5_ok, nmX5, by decide +kernel⟩
theorem wf_X5_65 : Cond.fieldLink RX5 65 RX1 (TX1 5).2.1 (TX1 5).2.2.1 ∈ WS := inWS 91 (by decide +kernel) rfl
theorem fl_X5_65 : FLk RX5 65 1 5 := ⟨RX1, TX1, 10, tyX1, rfl, rfl, by decide, wf_X5_65, rfl, iw_X1, tyX1_ok, nmX1, by decide +kernel⟩
theorem wf_X5_68 : Cond.fieldLink RX5 68 RX1 (TX1 9).2.1 (TX1 9).2.2.1 ∈ WS := inWS 104 (by decide +kernel) rfl
theorem fl_X5_68 : FLk RX5 68 1 9 := ⟨RX1, TX1, 10, tyX1, rfl, rfl, by decide, wf_X5_68, rfl, iw_X1, tyX1_ok, nmX1, by decide +kernel⟩
theorem wf_X5_100 : Cond.fieldLink RX5 100 RX1 (TX1 6).2.1 (TX1 6).2.2.1 ∈ WS := inWS 96 (by decide +kernel) rfl
theorem fl_X5_100 : FLk RX5 100 1 6 := ⟨RX1, TX1, 10, tyX1, rfl, rfl, by decide, wf_X5_100, rfl, iw_X1, tyX1_ok, nmX1, by decide +kernel⟩
theorem wf_X5_103 : Cond.fieldLink RX5 103 RX1 (TX1 1).2.1 (TX1 1).2.2.1 ∈ WS := inWS 77 (by decide +kernel) rfl
theorem fl_X5_103 : FLk RX5 103 1 1 := ⟨RX1, TX1, 10, tyX1, rfl, rfl, by decide, wf_X5_103, rfl, iw_X1, tyX1_ok, nmX1, by decide +kernel⟩
theorem wl0_X5_3 : Cond.methodLink RX5 3 objectInit ∈ WS := inWS 62 (by decide +kernel) rfl
theorem wl_X5_36_copy : Cond.methodLink RX5 36 arraycopyName ∈ WS := inWS 612 (by decide +kernel) rfl
theorem lk_X5_36 : LkCpy RX5 36 := ⟨wl_X5_36_copy, wn_copy, ws_copy, wi_copy⟩
theorem lk_X5_57 : LkSN RX5 57 mX6_isWithin 3 "DebtCoats" := ⟨List.mem_of_getElem? (i := 315) (by decide +kernel), ws_X6_isWithin, ok_X6_isWithin⟩
theorem lk_X5_97 : LkSN RX5 97 mX6_mayComeOff 3 "DebtCoats" := ⟨List.mem_of_getElem? (i := 642) (by decide +kernel), ws_X6_mayComeOff, ok_X6_mayComeOff⟩
theorem lk_X5_109 : LkSN RX5 109 mX6_isIn 2 "DebtCoats" := ⟨List.mem_of_getElem? (i := 602) (by decide +kernel), ws_X6_isIn, ok_X6_isIn⟩
theorem wl_X5_32 : Cond.methodLink RX5 32 yX1_becomeLike ∈ WS := inWS 611 (by decide +kernel) rfl
theorem wj_X1_becomeLike : Cond.instanceMethod yX1_becomeLike ∈ WS := inWS 577 (by decide +kernel) rfl
theorem we_X1_becomeLike : Cond.selects RX1 yX1_becomeLike yX1_becomeLike ∈ WS := inWS 578 (by decide +kernel) rfl
theorem lk_X5_32 : LkV RX5 32 mX1_becomeLike 1 1 := ⟨wl_X5_32, wj_X1_becomeLike, we_X1_becomeLike, ok_X1_becomeLike, rfl⟩
theorem wl_X5_61 : Cond.methodLink RX5 61 yX5_hasPerson ∈ WS := inWS 336 (by decide +kernel) rfl
theorem wj_X5_hasPerson : Cond.instanceMethod yX5_hasPerson ∈ WS := inWS 312 (by decide +kernel) rfl
theorem we_X5_hasPerson : Cond.selects RX5 yX5_hasPerson yX5_hasPerson ∈ WS := inWS 313 (by decide +kernel) rfl
theorem lk_X5_61 : LkV RX5 61 mX5_hasPerson 1 5 := ⟨wl_X5_61, wj_X5_hasPerson, we_X5_hasPerson, ok_X5_hasPerson, rfl⟩
theorem wl_X5_71 : Cond.methodLink RX5 71 yX5_passNight ∈ WS := inWS 452 (by decide +kernel) rfl
theorem wj_X5_passNight : Cond.instanceMethod yX5_passNight ∈ WS := inWS 454 (by decide +kernel) rfl
theorem we_X5_passNight : Cond.selects RX5 yX5_passNight yX5_passNight ∈ WS := inWS 5 (by decide +kernel) rfl
theorem lk_X5_71 : LkV RX5 71 mX5_passNight 0 5 := ⟨wl_X5_71, wj_X5_passNight, we_X5_passNight, ok_X5_passNight, rfl⟩
theorem wl_X5_74 : Cond.methodLink RX5 74 yX1_passNight ∈ WS := inWS 456 (by decide +kernel) rfl
theorem wj_X1_passNight : Cond.instanceMethod yX1_passNight ∈ WS := inWS 457 (by decide +kernel) rfl
theorem we_X1_passNight : Cond.selects RX1 yX1_passNight yX1_passNight ∈ WS := inWS 458 (by decide +kernel) rfl
theorem lk_X5_74 : LkV RX5 74 mX1_passNight 0 1 := ⟨wl_X5_74, wj_X1_passNight, we_X1_passNight, ok_X1_passNight, rfl⟩
theorem wl_X5_75 : Cond.methodLink RX5 75 yX5_heatOn ∈ WS := inWS 469 (by decide +kernel) rfl
theorem wj_X5_heatOn : Cond.instanceMethod yX5_heatOn ∈ WS := inWS 470 (by decide +kernel) rfl
theorem we_X5_heatOn : Cond.selects RX5 yX5_heatOn yX5_heatOn ∈ WS := inWS 471 (by decide +kernel) rfl
theorem lk_X5_75 : LkV RX5 75 mX5_heatOn 1 5 := ⟨wl_X5_75, wj_X5_heatOn, we_X5_heatOn, ok_X5_heatOn, rfl⟩
theorem wl_X5_79 : Cond.methodLink RX5 79 yX1_isOverburdened ∈ WS := inWS 473 (by decide +kernel) rfl
theorem wj_X1_isOverburdened : Cond.instanceMethod yX1_isOverburdened ∈ WS := inWS 474 (by decide +kernel) rfl
theorem we_X1_isOverburdened : Cond.selects RX1 yX1_isOverburdened yX1_isOverburdened ∈ WS := inWS 475 (by decide +kernel) rfl
theorem lk_X5_79 : LkV RX5 79 mX1_isOverburdened 1 1 := ⟨wl_X5_79, wj_X1_isOverburdened, we_X1_isOverburdened, ok_X1_isOverburdened, rfl⟩
theorem wl_X5_82 : Cond.methodLink RX5 82 yX1_fall ∈ WS := inWS 479 (by decide +kernel) rfl
theorem wj_X1_fall : Cond.instanceMethod yX1_fall ∈ WS := inWS 480 (by decide +kernel) rfl
theorem we_X1_fall : Cond.selects RX1 yX1_fall yX1_fall ∈ WS := inWS 481 (by decide +kernel) rfl
theorem lk_X5_82 : LkV RX5 82 mX1_fall 1 1 := ⟨wl_X5_82, wj_X1_fall, we_X1_fall, ok_X1_fall, rfl⟩
theorem wl_X5_86 : Cond.methodLink RX5 86 yX5_hasCoat ∈ WS := inWS 639 (by decide +kernel) rfl
theorem wj_X5_hasCoat : Cond.instanceMethod yX5_hasCoat ∈ WS := inWS 333 (by decide +kernel) rfl
theorem we_X5_hasCoat : Cond.selects RX5 yX5_hasCoat yX5_hasCoat ∈ WS := inWS 334 (by decide +kernel) rfl
theorem lk_X5_86 : LkV RX5 86 mX5_hasCoat 2 5 := ⟨wl_X5_86, wj_X5_hasCoat, we_X5_hasCoat, ok_X5_hasCoat, rfl⟩
theorem wl_X5_90 : Cond.methodLink RX5 90 yX5_passNightsUntil ∈ WS := inWS 640 (by decide +kernel) rfl
theorem wj_X5_passNightsUntil : Cond.instanceMethod yX5_passNightsUntil ∈ WS := inWS 449 (by decide +kernel) rfl
theorem we_X5_passNightsUntil : Cond.selects RX5 yX5_passNightsUntil yX5_passNightsUntil ∈ WS := inWS 450 (by decide +kernel) rfl
theorem lk_X5_90 : LkV RX5 90 mX5_passNightsUntil 1 5 := ⟨wl_X5_90, wj_X5_passNightsUntil, we_X5_passNightsUntil, ok_X5_passNightsUntil, rfl⟩
theorem wl_X5_93 : Cond.methodLink RX5 93 yX1_wornSet ∈ WS := inWS 641 (by decide +kernel) rfl
theorem lk_X5_93 : LkV RX5 93 mX1_wornSet 0 1 := ⟨wl_X5_93, wj_X1_wornSet, we_X1_wornSet, ok_X1_wornSet, rfl⟩
theorem wl_X5_106 : Cond.methodLink RX5 106 yX1_payOff ∈ WS := inWS 643 (by decide +kernel) rfl
theorem wj_X1_payOff : Cond.instanceMethod yX1_payOff ∈ WS := inWS 437 (by decide +kernel) rfl
theorem we_X1_payOff : Cond.selects RX1 yX1_payOff yX1_payOff ∈ WS := inWS 438 (by decide +kernel) rfl
theorem lk_X5_106 : LkV RX5 106 mX1_payOff 1 1 := ⟨wl_X5_106, wj_X1_payOff, we_X1_payOff, ok_X1_payOff, rfl⟩
theorem wf_X6_10 : Cond.fieldLink RX6 10 RX6 (TX6 0).2.1 (TX6 0).2.2.1 ∈ WS := inWS 265 (by decide +kernel) rfl
theorem fl_X6_10 : FLk RX6 10 6 0 := ⟨RX6, TX6, 9, tyX6, rfl, rfl, by decide, wf_X6_10, rfl, iw_X6, tyX6_ok, nmX6, by decide +kernel⟩
theorem wf_X6_16 : Cond.fieldLink RX6 16 RX6 (TX6 1).2.1 (TX6 1).2.2.1 ∈ WS := inWS 266 (by decide +kernel) rfl
theorem fl_X6_16 : FLk RX6 16 6 1 := ⟨RX6, TX6, 9, tyX6, rfl, rfl, by decide, wf_X6_16, rfl, iw_X6, tyX6_ok, nmX6, by decide +kernel⟩
theorem wf_X6_19 : Cond.fieldLink RX6 19 RX6 (TX6 2).2.1 (TX6 2).2.2.1 ∈ WS := inWS 267 (by decide +kernel) rfl
theorem fl_X6_19 : FLk RX6 19 6 2 := ⟨RX6, TX6, 9, tyX6, rfl, rfl, by decide, wf_X6_19, rfl, iw_X6, tyX6_ok, nmX6, by decide +kernel⟩
theorem wf_X6_25 : Cond.fieldLink RX6 25 RX6 (TX6 3).2.1 (TX6 3).2.2.1 ∈ WS := inWS 268 (by decide +kernel) rfl
theorem fl_X6_25 : FLk RX6 25 6 3 := ⟨RX6, TX6, 9, tyX6, rfl, rfl, by decide, wf_X6_25, rfl, iw_X6, tyX6_ok, nmX6, by decide +kernel⟩
theorem wf_X6_32 : Cond.fieldLink RX6 32 RX6 (TX6 4).2.1 (TX6 4).2.2.1 ∈ WS := inWS 269 (by decide +kernel) rfl
theorem fl_X6_32 : FLk RX6 32 6 4 := ⟨RX6, TX6, 9, tyX6, rfl, rfl, by decide, wf_X6_32, rfl, iw_X6, tyX6_ok, nmX6, by decide +kernel⟩
theorem wf_X6_39 : Cond.fieldLink RX6 39 RX6 (TX6 5).2.1 (TX6 5).2.2.1 ∈ WS := inWS 270 (by decide +kernel) rfl
theorem fl_X6_39 : FLk RX6 39 6 5 := ⟨RX6, TX6, 9, tyX6, rfl, rfl, by decide, wf_X6_39, rfl, iw_X6, tyX6_ok, nmX6, by decide +kernel⟩
theorem wf_X6_46 : Cond.fieldLink RX6 46 RX6 (TX6 6).2.1 (TX6 6).2.2.1 ∈ WS := inWS 271 (by decide +kernel) rfl
theorem fl_X6_46 : FLk RX6 46 6 6 := ⟨RX6, TX6, 9, tyX6, rfl, rfl, by decide, wf_X6_46, rfl, iw_X6, tyX6_ok, nmX6, by decide +kernel⟩
theorem wf_X6_52 : Cond.fieldLink RX6 52 RX6 (TX6 7).2.1 (TX6 7).2.2.1 ∈ WS := inWS 272 (by decide +kernel) rfl
theorem fl_X6_52 : FLk RX6 52 6 7 := ⟨RX6, TX6, 9, tyX6, rfl, rfl, by decide, wf_X6_52, rfl, iw_X6, tyX6_ok, nmX6, by decide +kernel⟩
theorem wf_X6_57 : Cond.fieldLink RX6 57 RX6 (TX6 8).2.1 (TX6 8).2.2.1 ∈ WS := inWS 273 (by decide +kernel) rfl
theorem fl_X6_57 : FLk RX6 57 6 8 := ⟨RX6, TX6, 9, tyX6, rfl, rfl, by decide, wf_X6_57, rfl, iw_X6, tyX6_ok, nmX6, by decide +kernel⟩
theorem wf_X6_65 : Cond.fieldLink RX6 65 RX5 (TX5 4).2.1 (TX5 4).2.2.1 ∈ WS := inWS 138 (by decide +kernel) rfl
theorem fl_X6_65 : FLk RX6 65 5 4 := ⟨RX5, TX5, 10, tyX5, rfl, rfl, by decide, wf_X6_65, rfl, iw_X5, tyX5_ok, nmX5, by decide +kernel⟩
theorem wf_X6_69 : Cond.fieldLink RX6 69 RX5 (TX5 0).2.1 (TX5 0).2.2.1 ∈ WS := inWS 129 (by decide +kernel) rfl
theorem fl_X6_69 : FLk RX6 69 5 0 := ⟨RX5, TX5, 10, tyX5, rfl, rfl, by decide, wf_X6_69, rfl, iw_X5, tyX5_ok, nmX5, by decide +kernel⟩
theorem wf_X6_81 : Cond.fieldLink RX6 81 RX1 (TX1 6).2.1 (TX1 6).2.2.1 ∈ WS := inWS 95 (by decide +kernel) rfl
theorem fl_X6_81 : FLk RX6 81 1 6 := ⟨RX1, TX1, 10, tyX1, rfl, rfl, by decide, wf_X6_81, rfl, iw_X1, tyX1_ok, nmX1, by decide +kernel⟩
theorem wf_X6_84 : Cond.fieldLink RX6 84 RX1 (TX1 7).2.1 (TX1 7).2.2.1 ∈ WS := inWS 98 (by decide +kernel) rfl
theorem fl_X6_84 : FLk RX6 84 1 7 := ⟨RX1, TX1, 10, tyX1, rfl, rfl, by decide, wf_X6_84, rfl, iw_X1, tyX1_ok, nmX1, by decide +kernel⟩
theorem wf_X6_87 : Cond.fieldLink RX6 87 RX1 (TX1 8).2.1 (TX1 8).2.2.1 ∈ WS := inWS 101 (by decide +kernel) rfl
theorem fl_X6_87 : FLk RX6 87 1 8 := ⟨RX1, TX1, 10, tyX1, rfl, rfl, by decide, wf_X6_87, rfl, iw_X1, tyX1_ok, nmX1, by decide +kernel⟩
theorem wf_X6_90 : Cond.fieldLink RX6 90 RX1 (TX1 5).2.1 (TX1 5).2.2.1 ∈ WS := inWS 89 (by decide +kernel) rfl
theorem fl_X6_90 : FLk RX6 90 1 5 := ⟨RX1, TX1, 10, tyX1, rfl, rfl, by decide, wf_X6_90, rfl, iw_X1, tyX1_ok, nmX1, by decide +kernel⟩
theorem wf_X6_107 : Cond.fieldLink RX6 107 RX1 (TX1 9).2.1 (TX1 9).2.2.1 ∈ WS := inWS 103 (by decide +kernel) rfl
theorem fl_X6_107 : FLk RX6 107 1 9 := ⟨RX1, TX1, 10, tyX1, rfl, rfl, by decide, wf_X6_107, rfl, iw_X1, tyX1_ok, nmX1, by decide +kernel⟩
theorem wf_X6_114 : Cond.fieldLink RX6 114 RX1 (TX1 0).2.1 (TX1 0).2.2.1 ∈ WS := inWS 71 (by decide +kernel) rfl
theorem fl_X6_114 : FLk RX6 114 1 0 := ⟨RX1, TX1, 10, tyX1, rfl, rfl, by decide, wf_X6_114, rfl, iw_X1, tyX1_ok, nmX1, by decide +kernel⟩
theorem wf_X6_118 : Cond.fieldLink RX6 118 RX1 (TX1 1).2.1 (TX1 1).2.2.1 ∈ WS := inWS 76 (by decide +kernel) rfl
theorem fl_X6_118 : FLk RX6 118 1 1 := ⟨RX1, TX1, 10, tyX1, rfl, rfl, by decide, wf_X6_118, rfl, iw_X1, tyX1_ok, nmX1, by decide +kernel⟩
theorem wf_X6_121 : Cond.fieldLink RX6 121 RX1 (TX1 2).2.1 (TX1 2).2.2.1 ∈ WS := inWS 79 (by decide +kernel) rfl
theorem fl_X6_121 : FLk RX6 121 1 2 := ⟨RX1, TX1, 10, tyX1, rfl, rfl, by decide, wf_X6_121, rfl, iw_X1, tyX1_ok, nmX1, by decide +kernel⟩
theorem wf_X6_124 : Cond.fieldLink RX6 124 RX1 (TX1 3).2.1 (TX1 3).2.2.1 ∈ WS := inWS 82 (by decide +kernel) rfl
theorem fl_X6_124 : FLk RX6 124 1 3 := ⟨RX1, TX1, 10, tyX1, rfl, rfl, by decide, wf_X6_124, rfl, iw_X1, tyX1_ok, nmX1, by decide +kernel⟩
theorem wf_X6_130 : Cond.fieldLink RX6 130 RX1 (TX1 4).2.1 (TX1 4).2.2.1 ∈ WS := inWS 85 (by decide +kernel) rfl
theorem fl_X6_130 : FLk RX6 130 1 4 := ⟨RX1, TX1, 10, tyX1, rfl, rfl, by decide, wf_X6_130, rfl, iw_X1, tyX1_ok, nmX1, by decide +kernel⟩
theorem wf_X6_133 : Cond.fieldLink RX6 133 RX5 (TX5 1).2.1 (TX5 1).2.2.1 ∈ WS := inWS 131 (by decide +kernel) rfl
theorem fl_X6_133 : FLk RX6 133 5 1 := ⟨RX5, TX5, 10, tyX5, rfl, rfl, by decide, wf_X6_133, rfl, iw_X5, tyX5_ok, nmX5, by decide +kernel⟩
theorem wf_X6_136 : Cond.fieldLink RX6 136 RX5 (TX5 7).2.1 (TX5 7).2.2.1 ∈ WS := inWS 144 (by decide +kernel) rfl
theorem fl_X6_136 : FLk RX6 136 5 7 := ⟨RX5, TX5, 10, tyX5, rfl, rfl, by decide, wf_X6_136, rfl, iw_X5, tyX5_ok, nmX5, by decide +kernel⟩
theorem wf_X6_139 : Cond.fieldLink RX6 139 RX5 (TX5 8).2.1 (TX5 8).2.2.1 ∈ WS := inWS 146 (by decide +kernel) rfl
theorem fl_X6_139 : FLk RX6 139 5 8 := ⟨RX5, TX5, 10, tyX5, rfl, rfl, by decide, wf_X6_139, rfl, iw_X5, tyX5_ok, nmX5, by decide +kernel⟩
theorem wf_X6_146 : Cond.fieldLink RX6 146 RX4 (TX4 1).2.1 (TX4 1).2.2.1 ∈ WS := inWS 232 (by decide +kernel) rfl
theorem fl_X6_146 : FLk RX6 146 4 1 := ⟨RX4, TX4, 3, tyX4, rfl, rfl, by decide, wf_X6_146, rfl, iw_X4, tyX4_ok, nmX4, by decide +kernel⟩
theorem wf_X6_161 : Cond.fieldLink RX6 161 RX5 (TX5 6).2.1 (TX5 6).2.2.1 ∈ WS := inWS 142 (by decide +kernel) rfl
theorem fl_X6_161 : FLk RX6 161 5 6 := ⟨RX5, TX5, 10, tyX5, rfl, rfl, by decide, wf_X6_161, rfl, iw_X5, tyX5_ok, nmX5, by decide +kernel⟩
theorem wf_X6_170 : Cond.fieldLink RX6 170 RX5 (TX5 9).2.1 (TX5 9).2.2.1 ∈ WS := inWS 148 (by decide +kernel) rfl
theorem fl_X6_170 : FLk RX6 170 5 9 := ⟨RX5, TX5, 10, tyX5, rfl, rfl, by decide, wf_X6_170, rfl, iw_X5, tyX5_ok, nmX5, by decide +kernel⟩
theorem wf_X6_173 : Cond.fieldLink RX6 173 RX5 (TX5 5).2.1 (TX5 5).2.2.1 ∈ WS := inWS 140 (by decide +kernel) rfl
theorem fl_X6_173 : FLk RX6 173 5 5 := ⟨RX5, TX5, 10, tyX5, rfl, rfl, by decide, wf_X6_173, rfl, iw_X5, tyX5_ok, nmX5, by decide +kernel⟩
theorem wf_X6_211 : Cond.fieldLink RX6 211 RX0 (TX0 1).2.1 (TX0 1).2.2.1 ∈ WS := inWS 214 (by decide +kernel) rfl
theorem fl_X6_211 : FLk RX6 211 0 1 := ⟨RX0, TX0, 3, tyX0, rfl, rfl, by decide, wf_X6_211, rfl, iw_X0, tyX0_ok, nmX0, by decide +kernel⟩
theorem wf_X6_214 : Cond.fieldLink RX6 214 RX0 (TX0 0).2.1 (TX0 0).2.2.1 ∈ WS := inWS 212 (by decide +kernel) rfl
theorem fl_X6_214 : FLk RX6 214 0 0 := ⟨RX0, TX0, 3, tyX0, rfl, rfl, by decide, wf_X6_214, rfl, iw_X0, tyX0_ok, nmX0, by decide +kernel⟩
theorem wf_X6_217 : Cond.fieldLink RX6 217 RX0 (TX0 2).2.1 (TX0 2).2.2.1 ∈ WS := inWS 216 (by decide +kernel) rfl
theorem fl_X6_217 : FLk RX6 217 0 2 := ⟨RX0, TX0, 3, tyX0, rfl, rfl, by decide, wf_X6_217, rfl, iw_X0, tyX0_ok, nmX0, by decide +kernel⟩
theorem wf_X6_228 : Cond.fieldLink RX6 228 RX2 (TX2 5).2.1 (TX2 5).2.2.1 ∈ WS := inWS 187 (by decide +kernel) rfl
theorem fl_X6_228 : FLk RX6 228 2 5 := ⟨RX2, TX2, 7, tyX2, rfl, rfl, by decide, wf_X6_228, rfl, iw_X2, tyX2_ok, nmX2, by decide +kernel⟩
theorem wf_X6_231 : Cond.fieldLink RX6 231 RX2 (TX2 6).2.1 (TX2 6).2.2.1 ∈ WS := inWS 189 (by decide +kernel) rfl
theorem fl_X6_231 : FLk RX6 231 2 6 := ⟨RX2, TX2, 7, tyX2, rfl, rfl, by decide, wf_X6_231, rfl, iw_X2, tyX2_ok, nmX2, by decide +kernel⟩
theorem wf_X6_234 : Cond.fieldLink RX6 234 RX2 (TX2 2).2.1 (TX2 2).2.2.1 ∈ WS := inWS 183 (by decide +kernel) rfl
theorem fl_X6_234 : FLk RX6 234 2 2 := ⟨RX2, TX2, 7, tyX2, rfl, rfl, by decide, wf_X6_234, rfl, iw_X2, tyX2_ok, nmX2, by decide +kernel⟩
theorem wf_X6_246 : Cond.fieldLink RX6 246 RX5 (TX5 2).2.1 (TX5 2).2.2.1 ∈ WS := inWS 133 (by decide +kernel) rfl
theorem fl_X6_246 : FLk RX6 246 5 2 := ⟨RX5, TX5, 10, tyX5, rfl, rfl, by decide, wf_X6_246, rfl, iw_X5, tyX5_ok, nmX5, by decide +kernel⟩
theorem wf_X6_249 : Cond.fieldLink RX6 249 RX5 (TX5 3).2.1 (TX5 3).2.2.1 ∈ WS := inWS 135 (by decide +kernel) rfl
theorem fl_X6_249 : FLk RX6 249 5 3 := ⟨RX5, TX5, 10, tyX5, rfl, rfl, by decide, wf_X6_249, rfl, iw_X5, tyX5_ok, nmX5, by decide +kernel⟩
theorem wf_X6_271 : Cond.fieldLink RX6 271 RX3 (TX3 0).2.1 (TX3 0).2.2.1 ∈ WS := inWS 249 (by decide +kernel) rfl
theorem fl_X6_271 : FLk RX6 271 3 0 := ⟨RX3, TX3, 4, tyX3, rfl, rfl, by decide, wf_X6_271, rfl, iw_X3, tyX3_ok, nmX3, by decide +kernel⟩
theorem wf_X6_280 : Cond.fieldLink RX6 280 RX3 (TX3 1).2.1 (TX3 1).2.2.1 ∈ WS := inWS 251 (by decide +kernel) rfl
theorem fl_X6_280 : FLk RX6 280 3 1 := ⟨RX3, TX3, 4, tyX3, rfl, rfl, by decide, wf_X6_280, rfl, iw_X3, tyX3_ok, nmX3, by decide +kernel⟩
theorem wf_X6_283 : Cond.fieldLink RX6 283 RX3 (TX3 3).2.1 (TX3 3).2.2.1 ∈ WS := inWS 255 (by decide +kernel) rfl
theorem fl_X6_283 : FLk RX6 283 3 3 := ⟨RX3, TX3, 4, tyX3, rfl, rfl, by decide, wf_X6_283, rfl, iw_X3, tyX3_ok, nmX3, by decide +kernel⟩
theorem wf_X6_287 : Cond.fieldLink RX6 287 RX3 (TX3 2).2.1 (TX3 2).2.2.1 ∈ WS := inWS 253 (by decide +kernel) rfl
theorem fl_X6_287 : FLk RX6 287 3 2 := ⟨RX3, TX3, 4, tyX3, rfl, rfl, by decide, wf_X6_287, rfl, iw_X3, tyX3_ok, nmX3, by decide +kernel⟩
theorem wl0_X6_1 : Cond.methodLink RX6 1 objectInit ∈ WS := inWS 54 (by decide +kernel) rfl
theorem wl_X6_61 : Cond.methodLink RX6 61 yX6_isWithin ∈ WS := inWS 297 (by decide +kernel) rfl
theorem lk_X6_61 : LkS RX6 61 mX6_isWithin 3 := ⟨wl_X6_61, ws_X6_isWithin, ok_X6_isWithin⟩
theorem wl_X6_101_min : Cond.methodLink RX6 101 Lib.Math.min.name ∈ WS := inWS 325 (by decide +kernel) rfl
theorem lk_X6_101 : LkMin RX6 101 := ⟨wl_X6_101_min, ws_min, wi_min, wn_min⟩
theorem wl_X6_127 : Cond.methodLink RX6 127 yX6_isLender ∈ WS := inWS 341 (by decide +kernel) rfl
theorem lk_X6_127 : LkS RX6 127 mX6_isLender 1 := ⟨wl_X6_127, ws_X6_isLender, ok_X6_isLender⟩
theorem ws_X4_isPrintable : Cond.static yX4_isPrintable ∈ WS := inWS 357 (by decide +kernel) rfl
theorem wl_X6_142 : Cond.methodLink RX6 142 yX4_isPrintable ∈ WS := inWS 356 (by decide +kernel) rfl
theorem lk_X6_142 : LkS RX6 142 mX4_isPrintable 2 := ⟨wl_X6_142, ws_X4_isPrintable, ok_X4_isPrintable⟩
theorem wl_X6_184 : Cond.methodLink RX6 184 yX6_mayComeOff ∈ WS := inWS 433 (by decide +kernel) rfl
theorem lk_X6_184 : LkS RX6 184 mX6_mayComeOff 3 := ⟨wl_X6_184, ws_X6_mayComeOff, ok_X6_mayComeOff⟩
theorem wl_X6_200 : Cond.methodLink RX6 200 yX0_savedBy ∈ WS := inWS 496 (by decide +kernel) rfl
theorem lk_X6_200 : LkS RX6 200 mX0_savedBy 3 := ⟨wl_X6_200, ws_X0_savedBy, ok_X0_savedBy⟩
theorem wl_X6_253 : Cond.methodLink RX6 253 yX6_isIn ∈ WS := inWS 597 (by decide +kernel) rfl
theorem lk_X6_253 : LkS RX6 253 mX6_isIn 2 := ⟨wl_X6_253, ws_X6_isIn, ok_X6_isIn⟩
theorem ws_X6_isSheet : Cond.static yX6_isSheet ∈ WS := inWS 622 (by decide +kernel) rfl
theorem wl_X6_261 : Cond.methodLink RX6 261 yX6_isSheet ∈ WS := inWS 621 (by decide +kernel) rfl
theorem lk_X6_261 : LkS RX6 261 mX6_isSheet 1 := ⟨wl_X6_261, ws_X6_isSheet, ok_X6_isSheet⟩
theorem ws_X6_isLane : Cond.static yX6_isLane ∈ WS := inWS 625 (by decide +kernel) rfl
theorem wl_X6_264 : Cond.methodLink RX6 264 yX6_isLane ∈ WS := inWS 624 (by decide +kernel) rfl
theorem lk_X6_264 : LkS RX6 264 mX6_isLane 1 := ⟨wl_X6_264, ws_X6_isLane, ok_X6_isLane⟩
theorem ws_X3_narrowed : Cond.static yX3_narrowed ∈ WS := inWS 662 (by decide +kernel) rfl
theorem wl_X6_284 : Cond.methodLink RX6 284 yX3_narrowed ∈ WS := inWS 661 (by decide +kernel) rfl
theorem lk_X6_284 : LkS RX6 284 mX3_narrowed 2 := ⟨wl_X6_284, ws_X3_narrowed, ok_X3_narrowed⟩
theorem wl_X6_293_copy : Cond.methodLink RX6 293 arraycopyName ∈ WS := inWS 669 (by decide +kernel) rfl
theorem lk_X6_293 : LkCpy RX6 293 := ⟨wl_X6_293_copy, wn_copy, ws_copy, wi_copy⟩
theorem wl_X6_299_max : Cond.methodLink RX6 299 Lib.Math.max.name ∈ WS := inWS 466 (by decide +kernel) rfl
theorem lk_X6_299 : LkMax RX6 299 := ⟨wl_X6_299_max, ws_max, wi_max, wn_max⟩
theorem wl_X6_73 : Cond.methodLink RX6 73 yX1_begin ∈ WS := inWS 300 (by decide +kernel) rfl
theorem lk_X6_73 : LkV RX6 73 mX1_begin 3 1 := ⟨wl_X6_73, wj_X1_begin, we_X1_begin, ok_X1_begin, rfl⟩
theorem wl_X6_77 : Cond.methodLink RX6 77 yX5_hasPerson ∈ WS := inWS 311 (by decide +kernel) rfl
theorem lk_X6_77 : LkV RX6 77 mX5_hasPerson 1 5 := ⟨wl_X6_77, wj_X5_hasPerson, we_X5_hasPerson, ok_X5_hasPerson, rfl⟩
theorem wl_X6_93 : Cond.methodLink RX6 93 yX1_thickTogether ∈ WS := inWS 316 (by decide +kernel) rfl
theorem lk_X6_93 : LkV RX6 93 mX1_thickTogether 0 1 := ⟨wl_X6_93, wj_X1_thickTogether, we_X1_thickTogether, ok_X1_thickTogether, rfl⟩
theorem wl_X6_97 : Cond.methodLink RX6 97 yX1_amountsTogether ∈ WS := inWS 320 (by decide +kernel) rfl
theorem wj_X1_amountsTogether : Cond.instanceMethod yX1_amountsTogether ∈ WS := inWS 321 (by decide +kernel) rfl
theorem we_X1_amountsTogether : Cond.selects RX1 yX1_amountsTogether yX1_amountsTogether ∈ WS := inWS 322 (by decide +kernel) rfl
theorem lk_X6_97 : LkV RX6 97 mX1_amountsTogether 0 1 := ⟨wl_X6_97, wj_X1_amountsTogether, we_X1_amountsTogether, ok_X1_amountsTogether, rfl⟩
theorem wl_X6_110 : Cond.methodLink RX6 110 yX5_hasCoat ∈ WS := inWS 332 (by decide +kernel) rfl
theorem lk_X6_110 : LkV RX6 110 mX5_hasCoat 2 5 := ⟨wl_X6_110, wj_X5_hasCoat, we_X5_hasCoat, ok_X5_hasCoat, rfl⟩
theorem wl_X6_149 : Cond.methodLink RX6 149 yX4_append ∈ WS := inWS 361 (by decide +kernel) rfl
theorem wj_X4_append : Cond.instanceMethod yX4_append ∈ WS := inWS 362 (by decide +kernel) rfl
theorem we_X4_append : Cond.selects RX4 yX4_append yX4_append ∈ WS := inWS 363 (by decide +kernel) rfl
theorem lk_X6_149 : LkV RX6 149 mX4_append 2 4 := ⟨wl_X6_149, wj_X4_append, we_X4_append, ok_X4_append, rfl⟩
theorem wl_X6_153 : Cond.methodLink RX6 153 yX4_readCoats ∈ WS := inWS 369 (by decide +kernel) rfl
theorem wj_X4_readCoats : Cond.instanceMethod yX4_readCoats ∈ WS := inWS 370 (by decide +kernel) rfl
theorem we_X4_readCoats : Cond.selects RX4 yX4_readCoats yX4_readCoats ∈ WS := inWS 371 (by decide +kernel) rfl
theorem lk_X6_153 : LkV RX6 153 mX4_readCoats 1 4 := ⟨wl_X6_153, wj_X4_readCoats, we_X4_readCoats, ok_X4_readCoats, rfl⟩
theorem wl_X6_157 : Cond.methodLink RX6 157 yX1_wearAs ∈ WS := inWS 400 (by decide +kernel) rfl
theorem lk_X6_157 : LkV RX6 157 mX1_wearAs 1 1 := ⟨wl_X6_157, wj_X1_wearAs, we_X1_wearAs, ok_X1_wearAs, rfl⟩
theorem wl_X6_164 : Cond.methodLink RX6 164 yX5_coatsOfAll ∈ WS := inWS 411 (by decide +kernel) rfl
theorem wj_X5_coatsOfAll : Cond.instanceMethod yX5_coatsOfAll ∈ WS := inWS 412 (by decide +kernel) rfl
theorem we_X5_coatsOfAll : Cond.selects RX5 yX5_coatsOfAll yX5_coatsOfAll ∈ WS := inWS 413 (by decide +kernel) rfl
theorem lk_X6_164 : LkV RX6 164 mX5_coatsOfAll 0 5 := ⟨wl_X6_164, wj_X5_coatsOfAll, we_X5_coatsOfAll, ok_X5_coatsOfAll, rfl⟩
theorem wl_X6_167 : Cond.methodLink RX6 167 yX5_fallenOnes ∈ WS := inWS 415 (by decide +kernel) rfl
theorem wj_X5_fallenOnes : Cond.instanceMethod yX5_fallenOnes ∈ WS := inWS 416 (by decide +kernel) rfl
theorem we_X5_fallenOnes : Cond.selects RX5 yX5_fallenOnes yX5_fallenOnes ∈ WS := inWS 417 (by decide +kernel) rfl
theorem lk_X6_167 : LkV RX6 167 mX5_fallenOnes 0 5 := ⟨wl_X6_167, wj_X5_fallenOnes, we_X5_fallenOnes, ok_X5_fallenOnes, rfl⟩
theorem wl_X6_176 : Cond.methodLink RX6 176 yX1_putOn ∈ WS := inWS 423 (by decide +kernel) rfl
theorem lk_X6_176 : LkV RX6 176 mX1_putOn 4 1 := ⟨wl_X6_176, wj_X1_putOn, we_X1_putOn, ok_X1_putOn, rfl⟩
theorem wl_X6_181 : Cond.methodLink RX6 181 yX1_wornSet ∈ WS := inWS 429 (by decide +kernel) rfl
theorem lk_X6_181 : LkV RX6 181 mX1_wornSet 0 1 := ⟨wl_X6_181, wj_X1_wornSet, we_X1_wornSet, ok_X1_wornSet, rfl⟩
theorem wl_X6_187 : Cond.methodLink RX6 187 yX1_payOff ∈ WS := inWS 436 (by decide +kernel) rfl
theorem lk_X6_187 : LkV RX6 187 mX1_payOff 1 1 := ⟨wl_X6_187, wj_X1_payOff, we_X1_payOff, ok_X1_payOff, rfl⟩
theorem wl_X6_191 : Cond.methodLink RX6 191 yX5_passNightsUntil ∈ WS := inWS 448 (by decide +kernel) rfl
theorem lk_X6_191 : LkV RX6 191 mX5_passNightsUntil 1 5 := ⟨wl_X6_191, wj_X5_passNightsUntil, we_X5_passNightsUntil, ok_X5_passNightsUntil, rfl⟩
theorem wl_X6_194 : Cond.methodLink RX6 194 yX1_isBetween ∈ WS := inWS 487 (by decide +kernel) rfl
theorem wj_X1_isBetween : Cond.instanceMethod yX1_isBetween ∈ WS := inWS 488 (by decide +kernel) rfl
theorem we_X1_isBetween : Cond.selects RX1 yX1_isBetween yX1_isBetween ∈ WS := inWS 489 (by decide +kernel) rfl
theorem lk_X6_194 : LkV RX6 194 mX1_isBetween 1 1 := ⟨wl_X6_194, wj_X1_isBetween, we_X1_isBetween, ok_X1_isBetween, rfl⟩
theorem wl_X6_197 : Cond.methodLink RX6 197 yX1_takeOff ∈ WS := inWS 491 (by decide +kernel) rfl
theorem lk_X6_197 : LkV RX6 197 mX1_takeOff 1 1 := ⟨wl_X6_197, wj_X1_takeOff, we_X1_takeOff, ok_X1_takeOff, rfl⟩
theorem wl_X6_204 : Cond.methodLink RX6 204 yX1_swapOutermost ∈ WS := inWS 502 (by decide +kernel) rfl
theorem wj_X1_swapOutermost : Cond.instanceMethod yX1_swapOutermost ∈ WS := inWS 503 (by decide +kernel) rfl
theorem we_X1_swapOutermost : Cond.selects RX1 yX1_swapOutermost yX1_swapOutermost ∈ WS := inWS 504 (by decide +kernel) rfl
theorem lk_X6_204 : LkV RX6 204 mX1_swapOutermost 1 1 := ⟨wl_X6_204, wj_X1_swapOutermost, we_X1_swapOutermost, ok_X1_swapOutermost, rfl⟩
theorem wl_X6_207 : Cond.methodLink RX6 207 yX0_find ∈ WS := inWS 513 (by decide +kernel) rfl
theorem wj_X0_find : Cond.instanceMethod yX0_find ∈ WS := inWS 514 (by decide +kernel) rfl
theorem we_X0_find : Cond.selects RX0 yX0_find yX0_find ∈ WS := inWS 515 (by decide +kernel) rfl
theorem lk_X6_207 : LkV RX6 207 mX0_find 1 0 := ⟨wl_X6_207, wj_X0_find, we_X0_find, ok_X0_find, rfl⟩
theorem wl_X6_220 : Cond.methodLink RX6 220 yX1_owedTo ∈ WS := inWS 530 (by decide +kernel) rfl
theorem wj_X1_owedTo : Cond.instanceMethod yX1_owedTo ∈ WS := inWS 531 (by decide +kernel) rfl
theorem we_X1_owedTo : Cond.selects RX1 yX1_owedTo yX1_owedTo ∈ WS := inWS 532 (by decide +kernel) rfl
theorem lk_X6_220 : LkV RX6 220 mX1_owedTo 1 1 := ⟨wl_X6_220, wj_X1_owedTo, we_X1_owedTo, ok_X1_owedTo, rfl⟩
theorem wl_X6_224 : Cond.methodLink RX6 224 yX2_plan ∈ WS := inWS 538 (by decide +kernel) rfl
theorem wj_X2_plan : Cond.instanceMethod yX2_plan ∈ WS := inWS 539 (by decide +kernel) rfl
theorem we_X2_plan : Cond.selects RX2 yX2_plan yX2_plan ∈ WS := inWS 540 (by decide +kernel) rfl
theorem lk_X6_224 : LkV RX6 224 mX2_plan 2 2 := ⟨wl_X6_224, wj_X2_plan, we_X2_plan, ok_X2_plan, rfl⟩
theorem wl_X6_237 : Cond.methodLink RX6 237 yX1_becomeLike ∈ WS := inWS 576 (by decide +kernel) rfl
theorem lk_X6_237 : LkV RX6 237 mX1_becomeLike 1 1 := ⟨wl_X6_237, wj_X1_becomeLike, we_X1_becomeLike, ok_X1_becomeLike, rfl⟩
theorem wl_X6_240 : Cond.methodLink RX6 240 yX5_heatOn ∈ WS := inWS 586 (by decide +kernel) rfl
theorem lk_X6_240 : LkV RX6 240 mX5_heatOn 1 5 := ⟨wl_X6_240, wj_X5_heatOn, we_X5_heatOn, ok_X5_heatOn, rfl⟩
theorem wl_X6_243 : Cond.methodLink RX6 243 yX1_isOverburdened ∈ WS := inWS 587 (by decide +kernel) rfl
theorem lk_X6_243 : LkV RX6 243 mX1_isOverburdened 1 1 := ⟨wl_X6_243, wj_X1_isOverburdened, we_X1_isOverburdened, ok_X1_isOverburdened, rfl⟩
theorem wl_X6_256 : Cond.methodLink RX6 256 yX5_isSetOfWares ∈ WS := inWS 598 (by decide +kernel) rfl
theorem wj_X5_isSetOfWares : Cond.instanceMethod yX5_isSetOfWares ∈ WS := inWS 599 (by decide +kernel) rfl
theorem we_X5_isSetOfWares : Cond.selects RX5 yX5_isSetOfWares yX5_isSetOfWares ∈ WS := inWS 600 (by decide +kernel) rfl
theorem lk_X6_256 : LkV RX6 256 mX5_isSetOfWares 3 5 := ⟨wl_X6_256, wj_X5_isSetOfWares, we_X5_isSetOfWares, ok_X5_isSetOfWares, rfl⟩
theorem wl_X6_259 : Cond.methodLink RX6 259 yX5_becomeLike ∈ WS := inWS 607 (by decide +kernel) rfl
theorem wj_X5_becomeLike : Cond.instanceMethod yX5_becomeLike ∈ WS := inWS 608 (by decide +kernel) rfl
theorem we_X5_becomeLike : Cond.selects RX5 yX5_becomeLike yX5_becomeLike ∈ WS := inWS 609 (by decide +kernel) rfl
theorem lk_X6_259 : LkV RX6 259 mX5_becomeLike 1 5 := ⟨wl_X6_259, wj_X5_becomeLike, we_X5_becomeLike, ok_X5_becomeLike, rfl⟩
theorem wl_X6_267 : Cond.methodLink RX6 267 yX3_refusal ∈ WS := inWS 627 (by decide +kernel) rfl
theorem wj_X3_refusal : Cond.instanceMethod yX3_refusal ∈ WS := inWS 628 (by decide +kernel) rfl
theorem we_X3_refusal : Cond.selects RX3 yX3_refusal yX3_refusal ∈ WS := inWS 629 (by decide +kernel) rfl
theorem lk_X6_267 : LkV RX6 267 mX3_refusal 3 3 := ⟨wl_X6_267, wj_X3_refusal, we_X3_refusal, ok_X3_refusal, rfl⟩
theorem wl_X6_274 : Cond.methodLink RX6 274 yX5_canBePaid ∈ WS := inWS 635 (by decide +kernel) rfl
theorem wj_X5_canBePaid : Cond.instanceMethod yX5_canBePaid ∈ WS := inWS 636 (by decide +kernel) rfl
theorem we_X5_canBePaid : Cond.selects RX5 yX5_canBePaid yX5_canBePaid ∈ WS := inWS 637 (by decide +kernel) rfl
theorem lk_X6_274 : LkV RX6 274 mX5_canBePaid 3 5 := ⟨wl_X6_274, wj_X5_canBePaid, we_X5_canBePaid, ok_X5_canBePaid, rfl⟩
theorem wl_X6_277 : Cond.methodLink RX6 277 yX3_begin ∈ WS := inWS 648 (by decide +kernel) rfl
theorem wj_X3_begin : Cond.instanceMethod yX3_begin ∈ WS := inWS 649 (by decide +kernel) rfl
theorem we_X3_begin : Cond.selects RX3 yX3_begin yX3_begin ∈ WS := inWS 650 (by decide +kernel) rfl
theorem lk_X6_277 : LkV RX6 277 mX3_begin 2 3 := ⟨wl_X6_277, wj_X3_begin, we_X3_begin, ok_X3_begin, rfl⟩
theorem wl_X6_290 : Cond.methodLink RX6 290 yX3_hasItems ∈ WS := inWS 668 (by decide +kernel) rfl
theorem lk_X6_290 : LkV RX6 290 mX3_hasItems 2 3 := ⟨wl_X6_290, wj_X3_hasItems, we_X3_hasItems, ok_X3_hasItems, rfl⟩
theorem wk_X6_100 : Cond.constant RX6 100 9999999 ∈ WS := inWS 324 (by decide +kernel) rfl
theorem wk_X6_180 : Cond.constant RX6 180 999999 ∈ WS := inWS 424 (by decide +kernel) rfl
theorem wk_X6_252 : Cond.constant RX6 252 99999 ∈ WS := inWS 596 (by decide +kernel) rfl
theorem wf_X7_7 : Cond.fieldLink RX7 7 RX7 (TX7 1).2.1 (TX7 1).2.2.1 ∈ WS := inWS 677 (by decide +kernel) rfl
theorem fl_X7_7 : FLk RX7 7 7 1 := ⟨RX7, TX7, 28, tyX7, rfl, rfl, by decide, wf_X7_7, rfl, iw_X7, tyX7_ok, nmX7, by decide +kernel⟩
theorem wf_X7_13 : Cond.fieldLink RX7 13 RX7 (TX7 2).2.1 (TX7 2).2.2.1 ∈ WS := inWS 678 (by decide +kernel) rfl
theorem fl_X7_13 : FLk RX7 13 7 2 := ⟨RX7, TX7, 28, tyX7, rfl, rfl, by decide, wf_X7_13, rfl, iw_X7, tyX7_ok, nmX7, by decide +kernel⟩
theorem wf_X7_16 : Cond.fieldLink RX7 16 RX7 (TX7 3).2.1 (TX7 3).2.2.1 ∈ WS := inWS 679 (by decide +kernel) rfl
theorem fl_X7_16 : FLk RX7 16 7 3 := ⟨RX7, TX7, 28, tyX7, rfl, rfl, by decide, wf_X7_16, rfl, iw_X7, tyX7_ok, nmX7, by decide +kernel⟩
theorem wf_X7_19 : Cond.fieldLink RX7 19 RX7 (TX7 4).2.1 (TX7 4).2.2.1 ∈ WS := inWS 680 (by decide +kernel) rfl
theorem fl_X7_19 : FLk RX7 19 7 4 := ⟨RX7, TX7, 28, tyX7, rfl, rfl, by decide, wf_X7_19, rfl, iw_X7, tyX7_ok, nmX7, by decide +kernel⟩
theorem wf_X7_22 : Cond.fieldLink RX7 22 RX7 (TX7 5).2.1 (TX7 5).2.2.1 ∈ WS := inWS 681 (by decide +kernel) rfl
theorem fl_X7_22 : FLk RX7 22 7 5 := ⟨RX7, TX7, 28, tyX7, rfl, rfl, by decide, wf_X7_22, rfl, iw_X7, tyX7_ok, nmX7, by decide +kernel⟩
theorem wf_X7_25 : Cond.fieldLink RX7 25 RX7 (TX7 6).2.1 (TX7 6).2.2.1 ∈ WS := inWS 682 (by decide +kernel) rfl
theorem fl_X7_25 : FLk RX7 25 7 6 := ⟨RX7, TX7, 28, tyX7, rfl, rfl, by decide, wf_X7_25, rfl, iw_X7, tyX7_ok, nmX7, by decide +kernel⟩
theorem wf_X7_28 : Cond.fieldLink RX7 28 RX7 (TX7 10).2.1 (TX7 10).2.2.1 ∈ WS := inWS 686 (by decide +kernel) rfl
theorem fl_X7_28 : FLk RX7 28 7 10 := ⟨RX7, TX7, 28, tyX7, rfl, rfl, by decide, wf_X7_28, rfl, iw_X7, tyX7_ok, nmX7, by decide +kernel⟩
theorem wf_X7_31 : Cond.fieldLink RX7 31 RX7 (TX7 11).2.1 (TX7 11).2.2.1 ∈ WS := inWS 687 (by decide +kernel) rfl
theorem fl_X7_31 : FLk RX7 31 7 11 := ⟨RX7, TX7, 28, tyX7, rfl, rfl, by decide, wf_X7_31, rfl, iw_X7, tyX7_ok, nmX7, by decide +kernel⟩
theorem wf_X7_34 : Cond.fieldLink RX7 34 RX7 (TX7 12).2.1 (TX7 12).2.2.1 ∈ WS := inWS 688 (by decide +kernel) rfl
theorem fl_X7_34 : FLk RX7 34 7 12 := ⟨RX7, TX7, 28, tyX7, rfl, rfl, by decide, wf_X7_34, rfl, iw_X7, tyX7_ok, nmX7, by decide +kernel⟩
theorem wf_X7_37 : Cond.fieldLink RX7 37 RX7 (TX7 16).2.1 (TX7 16).2.2.1 ∈ WS := inWS 692 (by decide +kernel) rfl
theorem fl_X7_37 : FLk RX7 37 7 16 := ⟨RX7, TX7, 28, tyX7, rfl, rfl, by decide, wf_X7_37, rfl, iw_X7, tyX7_ok, nmX7, by decide +kernel⟩
theorem wf_X7_40 : Cond.fieldLink RX7 40 RX7 (TX7 17).2.1 (TX7 17).2.2.1 ∈ WS := inWS 693 (by decide +kernel) rfl
theorem fl_X7_40 : FLk RX7 40 7 17 := ⟨RX7, TX7, 28, tyX7, rfl, rfl, by decide, wf_X7_40, rfl, iw_X7, tyX7_ok, nmX7, by decide +kernel⟩
theorem wf_X7_43 : Cond.fieldLink RX7 43 RX7 (TX7 18).2.1 (TX7 18).2.2.1 ∈ WS := inWS 694 (by decide +kernel) rfl
theorem fl_X7_43 : FLk RX7 43 7 18 := ⟨RX7, TX7, 28, tyX7, rfl, rfl, by decide, wf_X7_43, rfl, iw_X7, tyX7_ok, nmX7, by decide +kernel⟩
theorem wf_X7_46 : Cond.fieldLink RX7 46 RX7 (TX7 21).2.1 (TX7 21).2.2.1 ∈ WS := inWS 697 (by decide +kernel) rfl
theorem fl_X7_46 : FLk RX7 46 7 21 := ⟨RX7, TX7, 28, tyX7, rfl, rfl, by decide, wf_X7_46, rfl, iw_X7, tyX7_ok, nmX7, by decide +kernel⟩
theorem wf_X7_49 : Cond.fieldLink RX7 49 RX7 (TX7 22).2.1 (TX7 22).2.2.1 ∈ WS := inWS 698 (by decide +kernel) rfl
theorem fl_X7_49 : FLk RX7 49 7 22 := ⟨RX7, TX7, 28, tyX7, rfl, rfl, by decide, wf_X7_49, rfl, iw_X7, tyX7_ok, nmX7, by decide +kernel⟩
theorem wf_X7_52 : Cond.fieldLink RX7 52 RX7 (TX7 24).2.1 (TX7 24).2.2.1 ∈ WS := inWS 700 (by decide +kernel) rfl
theorem fl_X7_52 : FLk RX7 52 7 24 := ⟨RX7, TX7, 28, tyX7, rfl, rfl, by decide, wf_X7_52, rfl, iw_X7, tyX7_ok, nmX7, by decide +kernel⟩
theorem wf_X7_55 : Cond.fieldLink RX7 55 RX7 (TX7 25).2.1 (TX7 25).2.2.1 ∈ WS := inWS 701 (by decide +kernel) rfl
theorem fl_X7_55 : FLk RX7 55 7 25 := ⟨RX7, TX7, 28, tyX7, rfl, rfl, by decide, wf_X7_55, rfl, iw_X7, tyX7_ok, nmX7, by decide +kernel⟩
theorem wf_X7_58 : Cond.fieldLink RX7 58 RX7 (TX7 26).2.1 (TX7 26).2.2.1 ∈ WS := inWS 702 (by decide +kernel) rfl
theorem fl_X7_58 : FLk RX7 58 7 26 := ⟨RX7, TX7, 28, tyX7, rfl, rfl, by decide, wf_X7_58, rfl, iw_X7, tyX7_ok, nmX7, by decide +kernel⟩
theorem wf_X7_61 : Cond.fieldLink RX7 61 RX7 (TX7 27).2.1 (TX7 27).2.2.1 ∈ WS := inWS 703 (by decide +kernel) rfl
theorem fl_X7_61 : FLk RX7 61 7 27 := ⟨RX7, TX7, 28, tyX7, rfl, rfl, by decide, wf_X7_61, rfl, iw_X7, tyX7_ok, nmX7, by decide +kernel⟩
theorem wf_X7_64 : Cond.fieldLink RX7 64 RX7 (TX7 0).2.1 (TX7 0).2.2.1 ∈ WS := inWS 676 (by decide +kernel) rfl
theorem fl_X7_64 : FLk RX7 64 7 0 := ⟨RX7, TX7, 28, tyX7, rfl, rfl, by decide, wf_X7_64, rfl, iw_X7, tyX7_ok, nmX7, by decide +kernel⟩
theorem wf_X7_116 : Cond.fieldLink RX7 116 RX7 (TX7 13).2.1 (TX7 13).2.2.1 ∈ WS := inWS 689 (by decide +kernel) rfl
theorem fl_X7_116 : FLk RX7 116 7 13 := ⟨RX7, TX7, 28, tyX7, rfl, rfl, by decide, wf_X7_116, rfl, iw_X7, tyX7_ok, nmX7, by decide +kernel⟩
theorem wf_X7_119 : Cond.fieldLink RX7 119 RX7 (TX7 14).2.1 (TX7 14).2.2.1 ∈ WS := inWS 690 (by decide +kernel) rfl
theorem fl_X7_119 : FLk RX7 119 7 14 := ⟨RX7, TX7, 28, tyX7, rfl, rfl, by decide, wf_X7_119, rfl, iw_X7, tyX7_ok, nmX7, by decide +kernel⟩
theorem wf_X7_122 : Cond.fieldLink RX7 122 RX7 (TX7 15).2.1 (TX7 15).2.2.1 ∈ WS := inWS 691 (by decide +kernel) rfl
theorem fl_X7_122 : FLk RX7 122 7 15 := ⟨RX7, TX7, 28, tyX7, rfl, rfl, by decide, wf_X7_122, rfl, iw_X7, tyX7_ok, nmX7, by decide +kernel⟩
theorem wf_X7_145 : Cond.fieldLink RX7 145 RX7 (TX7 7).2.1 (TX7 7).2.2.1 ∈ WS := inWS 683 (by decide +kernel) rfl
theorem fl_X7_145 : FLk RX7 145 7 7 := ⟨RX7, TX7, 28, tyX7, rfl, rfl, by decide, wf_X7_145, rfl, iw_X7, tyX7_ok, nmX7, by decide +kernel⟩
theorem wf_X7_148 : Cond.fieldLink RX7 148 RX7 (TX7 8).2.1 (TX7 8).2.2.1 ∈ WS := inWS 684 (by decide +kernel) rfl
theorem fl_X7_148 : FLk RX7 148 7 8 := ⟨RX7, TX7, 28, tyX7, rfl, rfl, by decide, wf_X7_148, rfl, iw_X7, tyX7_ok, nmX7, by decide +kernel⟩
theorem wf_X7_151 : Cond.fieldLink RX7 151 RX7 (TX7 9).2.1 (TX7 9).2.2.1 ∈ WS := inWS 685 (by decide +kernel) rfl
theorem fl_X7_151 : FLk RX7 151 7 9 := ⟨RX7, TX7, 28, tyX7, rfl, rfl, by decide, wf_X7_151, rfl, iw_X7, tyX7_ok, nmX7, by decide +kernel⟩
theorem wf_X7_192 : Cond.fieldLink RX7 192 RX7 (TX7 19).2.1 (TX7 19).2.2.1 ∈ WS := inWS 695 (by decide +kernel) rfl
theorem fl_X7_192 : FLk RX7 192 7 19 := ⟨RX7, TX7, 28, tyX7, rfl, rfl, by decide, wf_X7_192, rfl, iw_X7, tyX7_ok, nmX7, by decide +kernel⟩
theorem wf_X7_201 : Cond.fieldLink RX7 201 RX7 (TX7 20).2.1 (TX7 20).2.2.1 ∈ WS := inWS 696 (by decide +kernel) rfl
theorem fl_X7_201 : FLk RX7 201 7 20 := ⟨RX7, TX7, 28, tyX7, rfl, rfl, by decide, wf_X7_201, rfl, iw_X7, tyX7_ok, nmX7, by decide +kernel⟩
theorem wf_X7_221 : Cond.fieldLink RX7 221 RX7 (TX7 23).2.1 (TX7 23).2.2.1 ∈ WS := inWS 699 (by decide +kernel) rfl
theorem fl_X7_221 : FLk RX7 221 7 23 := ⟨RX7, TX7, 28, tyX7, rfl, rfl, by decide, wf_X7_221, rfl, iw_X7, tyX7_ok, nmX7, by decide +kernel⟩
theorem wl0_X7_1 : Cond.methodLink RX7 1 objectInit ∈ WS := inWS 675 (by decide +kernel) rfl
theorem ws_X7_in : Cond.static yX7_in ∈ WS := inWS 767 (by decide +kernel) rfl
theorem wl_X7_68 : Cond.methodLink RX7 68 yX7_in ∈ WS := inWS 766 (by decide +kernel) rfl
theorem lk_X7_68 : LkS RX7 68 mX7_in 3 := ⟨wl_X7_68, ws_X7_in, ok_X7_in⟩
theorem ws_X7_isLender : Cond.static yX7_isLender ∈ WS := inWS 799 (by decide +kernel) rfl
theorem wl_X7_97 : Cond.methodLink RX7 97 yX7_isLender ∈ WS := inWS 798 (by decide +kernel) rfl
theorem lk_X7_97 : LkS RX7 97 mX7_isLender 1 := ⟨wl_X7_97, ws_X7_isLender, ok_X7_isLender⟩
theorem ws_X7_most : Cond.static yX7_most ∈ WS := inWS 862 (by decide +kernel) rfl
theorem wl_X7_155 : Cond.methodLink RX7 155 yX7_most ∈ WS := inWS 861 (by decide +kernel) rfl
theorem lk_X7_155 : LkS RX7 155 mX7_most 1 := ⟨wl_X7_155, ws_X7_most, ok_X7_most⟩
theorem ws_X7_isSheet : Cond.static yX7_isSheet ∈ WS := inWS 982 (by decide +kernel) rfl
theorem wl_X7_228 : Cond.methodLink RX7 228 yX7_isSheet ∈ WS := inWS 981 (by decide +kernel) rfl
theorem lk_X7_228 : LkS RX7 228 mX7_isSheet 1 := ⟨wl_X7_228, ws_X7_isSheet, ok_X7_isSheet⟩
theorem ws_X7_isLane : Cond.static yX7_isLane ∈ WS := inWS 985 (by decide +kernel) rfl
theorem wl_X7_231 : Cond.methodLink RX7 231 yX7_isLane ∈ WS := inWS 984 (by decide +kernel) rfl
theorem lk_X7_231 : LkS RX7 231 mX7_isLane 1 := ⟨wl_X7_231, ws_X7_isLane, ok_X7_isLane⟩
theorem wl_X7_80 : Cond.methodLink RX7 80 yX7_isOne ∈ WS := inWS 775 (by decide +kernel) rfl
theorem wj_X7_isOne : Cond.instanceMethod yX7_isOne ∈ WS := inWS 777 (by decide +kernel) rfl
theorem we_X7_isOne : Cond.selects RX7 yX7_isOne yX7_isOne ∈ WS := inWS 13 (by decide +kernel) rfl
theorem lk_X7_80 : LkV RX7 80 mX7_isOne 1 7 := ⟨wl_X7_80, wj_X7_isOne, we_X7_isOne, ok_X7_isOne, rfl⟩
theorem wl_X7_86 : Cond.methodLink RX7 86 yX7_thickOf ∈ WS := inWS 780 (by decide +kernel) rfl
theorem wj_X7_thickOf : Cond.instanceMethod yX7_thickOf ∈ WS := inWS 782 (by decide +kernel) rfl
theorem we_X7_thickOf : Cond.selects RX7 yX7_thickOf yX7_thickOf ∈ WS := inWS 14 (by decide +kernel) rfl
theorem lk_X7_86 : LkV RX7 86 mX7_thickOf 1 7 := ⟨wl_X7_86, wj_X7_thickOf, we_X7_thickOf, ok_X7_thickOf, rfl⟩
theorem wl_X7_91 : Cond.methodLink RX7 91 yX7_isCoat ∈ WS := inWS 789 (by decide +kernel) rfl
theorem wj_X7_isCoat : Cond.instanceMethod yX7_isCoat ∈ WS := inWS 791 (by decide +kernel) rfl
theorem we_X7_isCoat : Cond.selects RX7 yX7_isCoat yX7_isCoat ∈ WS := inWS 15 (by decide +kernel) rfl
theorem lk_X7_91 : LkV RX7 91 mX7_isCoat 2 7 := ⟨wl_X7_91, wj_X7_isCoat, we_X7_isCoat, ok_X7_isCoat, rfl⟩
theorem wl_X7_126 : Cond.methodLink RX7 126 yX7_here ∈ WS := inWS 830 (by decide +kernel) rfl
theorem wj_X7_here : Cond.instanceMethod yX7_here ∈ WS := inWS 832 (by decide +kernel) rfl
theorem we_X7_here : Cond.selects RX7 yX7_here yX7_here ∈ WS := inWS 17 (by decide +kernel) rfl
theorem lk_X7_126 : LkV RX7 126 mX7_here 0 7 := ⟨wl_X7_126, wj_X7_here, we_X7_here, ok_X7_here, rfl⟩
theorem wl_X7_135 : Cond.methodLink RX7 135 yX7_byteOf ∈ WS := inWS 826 (by decide +kernel) rfl
theorem wj_X7_byteOf : Cond.instanceMethod yX7_byteOf ∈ WS := inWS 828 (by decide +kernel) rfl
theorem we_X7_byteOf : Cond.selects RX7 yX7_byteOf yX7_byteOf ∈ WS := inWS 16 (by decide +kernel) rfl
theorem lk_X7_135 : LkV RX7 135 mX7_byteOf 2 7 := ⟨wl_X7_135, wj_X7_byteOf, we_X7_byteOf, ok_X7_byteOf, rfl⟩
theorem wl_X7_139 : Cond.methodLink RX7 139 yX7_number ∈ WS := inWS 834 (by decide +kernel) rfl
theorem wj_X7_number : Cond.instanceMethod yX7_number ∈ WS := inWS 836 (by decide +kernel) rfl
theorem we_X7_number : Cond.selects RX7 yX7_number yX7_number ∈ WS := inWS 18 (by decide +kernel) rfl
theorem lk_X7_139 : LkV RX7 139 mX7_number 2 7 := ⟨wl_X7_139, wj_X7_number, we_X7_number, ok_X7_number, rfl⟩
theorem wl_X7_142 : Cond.methodLink RX7 142 yX7_has ∈ WS := inWS 841 (by decide +kernel) rfl
theorem wj_X7_has : Cond.instanceMethod yX7_has ∈ WS := inWS 843 (by decide +kernel) rfl
theorem we_X7_has : Cond.selects RX7 yX7_has yX7_has ∈ WS := inWS 19 (by decide +kernel) rfl
theorem lk_X7_142 : LkV RX7 142 mX7_has 1 7 := ⟨wl_X7_142, wj_X7_has, we_X7_has, ok_X7_has, rfl⟩
theorem wl_X7_158 : Cond.methodLink RX7 158 yX7_rests ∈ WS := inWS 857 (by decide +kernel) rfl
theorem wj_X7_rests : Cond.instanceMethod yX7_rests ∈ WS := inWS 859 (by decide +kernel) rfl
theorem we_X7_rests : Cond.selects RX7 yX7_rests yX7_rests ∈ WS := inWS 21 (by decide +kernel) rfl
theorem lk_X7_158 : LkV RX7 158 mX7_rests 1 7 := ⟨wl_X7_158, wj_X7_rests, we_X7_rests, ok_X7_rests, rfl⟩
theorem wl_X7_162 : Cond.methodLink RX7 162 yX7_isTooHot ∈ WS := inWS 865 (by decide +kernel) rfl
theorem wj_X7_isTooHot : Cond.instanceMethod yX7_isTooHot ∈ WS := inWS 867 (by decide +kernel) rfl
theorem we_X7_isTooHot : Cond.selects RX7 yX7_isTooHot yX7_isTooHot ∈ WS := inWS 22 (by decide +kernel) rfl
theorem lk_X7_162 : LkV RX7 162 mX7_isTooHot 2 7 := ⟨wl_X7_162, wj_X7_isTooHot, we_X7_isTooHot, ok_X7_isTooHot, rfl⟩
theorem wl_X7_165 : Cond.methodLink RX7 165 yX7_sleeps ∈ WS := inWS 853 (by decide +kernel) rfl
theorem wj_X7_sleeps : Cond.instanceMethod yX7_sleeps ∈ WS := inWS 855 (by decide +kernel) rfl
theorem we_X7_sleeps : Cond.selects RX7 yX7_sleeps yX7_sleeps ∈ WS := inWS 20 (by decide +kernel) rfl
theorem lk_X7_165 : LkV RX7 165 mX7_sleeps 1 7 := ⟨wl_X7_165, wj_X7_sleeps, we_X7_sleeps, ok_X7_sleeps, rfl⟩
theorem wl_X7_170 : Cond.methodLink RX7 170 yX7_mayOff ∈ WS := inWS 878 (by decide +kernel) rfl
theorem wj_X7_mayOff : Cond.instanceMethod yX7_mayOff ∈ WS := inWS 880 (by decide +kernel) rfl
theorem we_X7_mayOff : Cond.selects RX7 yX7_mayOff yX7_mayOff ∈ WS := inWS 23 (by decide +kernel) rfl
theorem lk_X7_170 : LkV RX7 170 mX7_mayOff 2 7 := ⟨wl_X7_170, wj_X7_mayOff, we_X7_mayOff, ok_X7_mayOff, rfl⟩
theorem wl_X7_173 : Cond.methodLink RX7 173 yX7_off ∈ WS := inWS 882 (by decide +kernel) rfl
theorem wj_X7_off : Cond.instanceMethod yX7_off ∈ WS := inWS 884 (by decide +kernel) rfl
theorem we_X7_off : Cond.selects RX7 yX7_off yX7_off ∈ WS := inWS 24 (by decide +kernel) rfl
theorem lk_X7_173 : LkV RX7 173 mX7_off 2 7 := ⟨wl_X7_173, wj_X7_off, we_X7_off, ok_X7_off, rfl⟩
theorem wl_X7_177 : Cond.methodLink RX7 177 yX7_isBetween ∈ WS := inWS 890 (by decide +kernel) rfl
theorem wj_X7_isBetween : Cond.instanceMethod yX7_isBetween ∈ WS := inWS 892 (by decide +kernel) rfl
theorem we_X7_isBetween : Cond.selects RX7 yX7_isBetween yX7_isBetween ∈ WS := inWS 25 (by decide +kernel) rfl
theorem lk_X7_177 : LkV RX7 177 mX7_isBetween 2 7 := ⟨wl_X7_177, wj_X7_isBetween, we_X7_isBetween, ok_X7_isBetween, rfl⟩
theorem wl_X7_180 : Cond.methodLink RX7 180 yX7_outer ∈ WS := inWS 906 (by decide +kernel) rfl
theorem wj_X7_outer : Cond.instanceMethod yX7_outer ∈ WS := inWS 908 (by decide +kernel) rfl
theorem we_X7_outer : Cond.selects RX7 yX7_outer yX7_outer ∈ WS := inWS 28 (by decide +kernel) rfl
theorem lk_X7_180 : LkV RX7 180 mX7_outer 1 7 := ⟨wl_X7_180, wj_X7_outer, we_X7_outer, ok_X7_outer, rfl⟩
theorem wl_X7_183 : Cond.methodLink RX7 183 yX7_gains ∈ WS := inWS 902 (by decide +kernel) rfl
theorem wj_X7_gains : Cond.instanceMethod yX7_gains ∈ WS := inWS 904 (by decide +kernel) rfl
theorem we_X7_gains : Cond.selects RX7 yX7_gains yX7_gains ∈ WS := inWS 27 (by decide +kernel) rfl
theorem lk_X7_183 : LkV RX7 183 mX7_gains 2 7 := ⟨wl_X7_183, wj_X7_gains, we_X7_gains, ok_X7_gains, rfl⟩
theorem wl_X7_186 : Cond.methodLink RX7 186 yX7_saved ∈ WS := inWS 898 (by decide +kernel) rfl
theorem wj_X7_saved : Cond.instanceMethod yX7_saved ∈ WS := inWS 900 (by decide +kernel) rfl
theorem we_X7_saved : Cond.selects RX7 yX7_saved yX7_saved ∈ WS := inWS 26 (by decide +kernel) rfl
theorem lk_X7_186 : LkV RX7 186 mX7_saved 3 7 := ⟨wl_X7_186, wj_X7_saved, we_X7_saved, ok_X7_saved, rfl⟩
theorem wl_X7_195 : Cond.methodLink RX7 195 yX7_isLawful ∈ WS := inWS 932 (by decide +kernel) rfl
theorem wj_X7_isLawful : Cond.instanceMethod yX7_isLawful ∈ WS := inWS 934 (by decide +kernel) rfl
theorem we_X7_isLawful : Cond.selects RX7 yX7_isLawful yX7_isLawful ∈ WS := inWS 31 (by decide +kernel) rfl
theorem lk_X7_195 : LkV RX7 195 mX7_isLawful 1 7 := ⟨wl_X7_195, wj_X7_isLawful, we_X7_isLawful, ok_X7_isLawful, rfl⟩
theorem wl_X7_198 : Cond.methodLink RX7 198 yX7_freeBy ∈ WS := inWS 936 (by decide +kernel) rfl
theorem wj_X7_freeBy : Cond.instanceMethod yX7_freeBy ∈ WS := inWS 938 (by decide +kernel) rfl
theorem we_X7_freeBy : Cond.selects RX7 yX7_freeBy yX7_freeBy ∈ WS := inWS 32 (by decide +kernel) rfl
theorem lk_X7_198 : LkV RX7 198 mX7_freeBy 2 7 := ⟨wl_X7_198, wj_X7_freeBy, we_X7_freeBy, ok_X7_freeBy, rfl⟩
theorem wl_X7_204 : Cond.methodLink RX7 204 yX7_turns ∈ WS := inWS 940 (by decide +kernel) rfl
theorem wj_X7_turns : Cond.instanceMethod yX7_turns ∈ WS := inWS 942 (by decide +kernel) rfl
theorem we_X7_turns : Cond.selects RX7 yX7_turns yX7_turns ∈ WS := inWS 33 (by decide +kernel) rfl
theorem lk_X7_204 : LkV RX7 204 mX7_turns 1 7 := ⟨wl_X7_204, wj_X7_turns, we_X7_turns, ok_X7_turns, rfl⟩
theorem wl_X7_209 : Cond.methodLink RX7 209 yX7_starts ∈ WS := inWS 924 (by decide +kernel) rfl
theorem wj_X7_starts : Cond.instanceMethod yX7_starts ∈ WS := inWS 926 (by decide +kernel) rfl
theorem we_X7_starts : Cond.selects RX7 yX7_starts yX7_starts ∈ WS := inWS 29 (by decide +kernel) rfl
theorem lk_X7_209 : LkV RX7 209 mX7_starts 1 7 := ⟨wl_X7_209, wj_X7_starts, we_X7_starts, ok_X7_starts, rfl⟩
theorem wl_X7_212 : Cond.methodLink RX7 212 yX7_bestFree ∈ WS := inWS 928 (by decide +kernel) rfl
theorem wj_X7_bestFree : Cond.instanceMethod yX7_bestFree ∈ WS := inWS 930 (by decide +kernel) rfl
theorem we_X7_bestFree : Cond.selects RX7 yX7_bestFree yX7_bestFree ∈ WS := inWS 30 (by decide +kernel) rfl
theorem lk_X7_212 : LkV RX7 212 mX7_bestFree 1 7 := ⟨wl_X7_212, wj_X7_bestFree, we_X7_bestFree, ok_X7_bestFree, rfl⟩
theorem wl_X7_217 : Cond.methodLink RX7 217 yX7_lay ∈ WS := inWS 965 (by decide +kernel) rfl
theorem wj_X7_lay : Cond.instanceMethod yX7_lay ∈ WS := inWS 967 (by decide +kernel) rfl
theorem we_X7_lay : Cond.selects RX7 yX7_lay yX7_lay ∈ WS := inWS 34 (by decide +kernel) rfl
theorem lk_X7_217 : LkV RX7 217 mX7_lay 2 7 := ⟨wl_X7_217, wj_X7_lay, we_X7_lay, ok_X7_lay, rfl⟩
theorem wl_X7_224 : Cond.methodLink RX7 224 yX7_gives ∈ WS := inWS 973 (by decide +kernel) rfl
theorem wj_X7_gives : Cond.instanceMethod yX7_gives ∈ WS := inWS 975 (by decide +kernel) rfl
theorem we_X7_gives : Cond.selects RX7 yX7_gives yX7_gives ∈ WS := inWS 35 (by decide +kernel) rfl
theorem lk_X7_224 : LkV RX7 224 mX7_gives 2 7 := ⟨wl_X7_224, wj_X7_gives, we_X7_gives, ok_X7_gives, rfl⟩
theorem wl_X7_234 : Cond.methodLink RX7 234 yX7_finds ∈ WS := inWS 987 (by decide +kernel) rfl
theorem wj_X7_finds : Cond.instanceMethod yX7_finds ∈ WS := inWS 989 (by decide +kernel) rfl
theorem we_X7_finds : Cond.selects RX7 yX7_finds yX7_finds ∈ WS := inWS 36 (by decide +kernel) rfl
theorem lk_X7_234 : LkV RX7 234 mX7_finds 4 7 := ⟨wl_X7_234, wj_X7_finds, we_X7_finds, ok_X7_finds, rfl⟩
theorem wk_X7_90 : Cond.constant RX7 90 9999999 ∈ WS := inWS 784 (by decide +kernel) rfl
theorem wk_X7_134 : Cond.constant RX7 134 99999 ∈ WS := inWS 840 (by decide +kernel) rfl
theorem wk_X7_154 : Cond.constant RX7 154 999999 ∈ WS := inWS 864 (by decide +kernel) rfl
theorem wk_X7_72 : Cond.constantLong RX7 72 4 ∈ WS := inWS 801 (by decide +kernel) rfl
theorem wk_X7_74 : Cond.constantLong RX7 74 9999 ∈ WS := inWS 765 (by decide +kernel) rfl
theorem wk_X7_76 : Cond.constantLong RX7 76 99 ∈ WS := inWS 769 (by decide +kernel) rfl
theorem wk_X7_78 : Cond.constantLong RX7 78 60 ∈ WS := inWS 770 (by decide +kernel) rfl
theorem wk_X7_84 : Cond.constantLong RX7 84 6 ∈ WS := inWS 779 (by decide +kernel) rfl
theorem wk_X7_95 : Cond.constantLong RX7 95 3 ∈ WS := inWS 793 (by decide +kernel) rfl
theorem wk_X7_100 : Cond.constantLong RX7 100 9 ∈ WS := inWS 802 (by decide +kernel) rfl
theorem wk_X7_102 : Cond.constantLong RX7 102 11 ∈ WS := inWS 807 (by decide +kernel) rfl
theorem wk_X7_104 : Cond.constantLong RX7 104 40 ∈ WS := inWS 808 (by decide +kernel) rfl
theorem wk_X7_106 : Cond.constantLong RX7 106 2 ∈ WS := inWS 813 (by decide +kernel) rfl
theorem wk_X7_108 : Cond.constantLong RX7 108 8 ∈ WS := inWS 818 (by decide +kernel) rfl
theorem wk_X7_110 : Cond.constantLong RX7 110 255 ∈ WS := inWS 819 (by decide +kernel) rfl
theorem wk_X7_112 : Cond.constantLong RX7 112 32 ∈ WS := inWS 820 (by decide +kernel) rfl
theorem wk_X7_114 : Cond.constantLong RX7 114 126 ∈ WS := inWS 821 (by decide +kernel) rfl
theorem wk_X7_130 : Cond.constantLong RX7 130 48 ∈ WS := inWS 838 (by decide +kernel) rfl
theorem wk_X7_132 : Cond.constantLong RX7 132 57 ∈ WS := inWS 839 (by decide +kernel) rfl
theorem wk_X7_168 : Cond.constantLong RX7 168 20 ∈ WS := inWS 873 (by decide +kernel) rfl
theorem wk_X7_190 : Cond.constantLong RX7 190 (-1) ∈ WS := inWS 914 (by decide +kernel) rfl
theorem wk_X7_207 : Cond.constantLong RX7 207 7 ∈ WS := inWS 923 (by decide +kernel) rfl
theorem wk_X7_215 : Cond.constantLong RX7 215 99999 ∈ WS := inWS 960 (by decide +kernel) rfl
theorem wk_X7_238 : Cond.constantLong RX7 238 359 ∈ WS := inWS 991 (by decide +kernel) rfl
theorem nf_0_1 : FNf 0 1 := fun C T N h => by cases h; rfl
theorem nf_0_2 : FNf 0 2 := fun C T N h => by cases h; rfl
theorem nf_1_5 : FNf 1 5 := fun C T N h => by cases h; rfl
theorem nf_1_6 : FNf 1 6 := fun C T N h => by cases h; rfl
theorem nf_1_7 : FNf 1 7 := fun C T N h => by cases h; rfl
theorem nf_1_8 : FNf 1 8 := fun C T N h => by cases h; rfl
theorem nf_1_9 : FNf 1 9 := fun C T N h => by cases h; rfl
theorem nf_2_3 : FNf 2 3 := fun C T N h => by cases h; rfl
theorem nf_2_4 : FNf 2 4 := fun C T N h => by cases h; rfl
theorem nf_2_5 : FNf 2 5 := fun C T N h => by cases h; rfl
theorem nf_2_6 : FNf 2 6 := fun C T N h => by cases h; rfl
theorem nf_3_1 : FNf 3 1 := fun C T N h => by cases h; rfl
theorem nf_3_2 : FNf 3 2 := fun C T N h => by cases h; rfl
theorem nf_3_3 : FNf 3 3 := fun C T N h => by cases h; rfl
theorem nf_4_1 : FNf 4 1 := fun C T N h => by cases h; rfl
theorem nf_4_2 : FNf 4 2 := fun C T N h => by cases h; rfl
theorem nf_5_4 : FNf 5 4 := fun C T N h => by cases h; rfl
theorem nf_5_5 : FNf 5 5 := fun C T N h => by cases h; rfl
theorem nf_5_6 : FNf 5 6 := fun C T N h => by cases h; rfl
theorem nf_5_7 : FNf 5 7 := fun C T N h => by cases h; rfl
theorem nf_5_8 : FNf 5 8 := fun C T N h => by cases h; rfl
theorem nf_5_9 : FNf 5 9 := fun C T N h => by cases h; rfl
theorem nf_6_8 : FNf 6 8 := fun C T N h => by cases h; rfl
theorem nf_7_0 : FNf 7 0 := fun C T N h => by cases h; rfl
theorem nf_7_3 : FNf 7 3 := fun C T N h => by cases h; rfl
theorem nf_7_7 : FNf 7 7 := fun C T N h => by cases h; rfl
theorem nf_7_8 : FNf 7 8 := fun C T N h => by cases h; rfl
theorem nf_7_9 : FNf 7 9 := fun C T N h => by cases h; rfl
theorem nf_7_13 : FNf 7 13 := fun C T N h => by cases h; rfl
theorem nf_7_14 : FNf 7 14 := fun C T N h => by cases h; rfl
theorem nf_7_15 : FNf 7 15 := fun C T N h => by cases h; rfl
theorem nf_7_19 : FNf 7 19 := fun C T N h => by cases h; rfl
theorem nf_7_20 : FNf 7 20 := fun C T N h => by cases h; rfl
theorem nf_7_23 : FNf 7 23 := fun C T N h => by cases h; rfl
end
section
theorem dX1_init_0 : decode cX1_init 0 = .ok (.aload_n 0, 1) := by decide +kernel
theorem dX1_init_1 : decode cX1_init 1 = .ok (.invokespecial 3, 3) := by decide +kernel
theorem dX1_init_4 : decode cX1_init 4 = .ok (.aload_n 0, 1) := by decide +kernel
theorem dX1_init_5 : decode cX1_init 5 = .ok (.bipush 8, 2) := by decide +kernel
theorem dX1_init_7 : decode cX1_init 7 = .ok (.newarray .int, 2) := by decide +kernel
theorem dX1_init_9 : decode cX1_init 9 = .ok (.putfield 9, 3) := by decide +kernel
theorem dX1_init_12 : decode cX1_init 12 = .ok (.aload_n 0, 1) := by decide +kernel
theorem dX1_init_13 : decode cX1_init 13 = .ok (.bipush 8, 2) := by decide +kernel
theorem dX1_init_15 : decode cX1_init 15 = .ok (.newarray .int, 2) := by decide +kernel
theorem dX1_init_17 : decode cX1_init 17 = .ok (.putfield 15, 3) := by decide +kernel
theorem dX1_init_20 : decode cX1_init 20 = .ok (.aload_n 0, 1) := by decide +kernel
theorem dX1_init_21 : decode cX1_init 21 = .ok (.bipush 8, 2) := by decide +kernel
theorem dX1_init_23 : decode cX1_init 23 = .ok (.newarray .int, 2) := by decide +kernel
theorem dX1_init_25 : decode cX1_init 25 = .ok (.putfield 18, 3) := by decide +kernel
theorem dX1_init_28 : decode cX1_init 28 = .ok (.aload_n 0, 1) := by decide +kernel
theorem dX1_init_29 : decode cX1_init 29 = .ok (.bipush 8, 2) := by decide +kernel
theorem dX1_init_31 : decode cX1_init 31 = .ok (.newarray .int, 2) := by decide +kernel
theorem dX1_init_33 : decode cX1_init 33 = .ok (.putfield 21, 3) := by decide +kernel
theorem dX1_init_36 : decode cX1_init 36 = .ok (.aload_n 0, 1) := by decide +kernel
theorem dX1_init_37 : decode cX1_init 37 = .ok (.iconst 5, 1) := by decide +kernel
theorem dX1_init_38 : decode cX1_init 38 = .ok (.newarray .int, 2) := by decide +kernel
theorem dX1_init_40 : decode cX1_init 40 = .ok (.putfield 24, 3) := by decide +kernel
theorem dX1_init_43 : decode cX1_init 43 = .ok (.return_, 1) := by decide +kernel
theorem dX1_begin_0 : decode cX1_begin 0 = .ok (.aload_n 0, 1) := by decide +kernel
theorem dX1_begin_1 : decode cX1_begin 1 = .ok (.iload_n 1, 1) := by decide +kernel
theorem dX1_begin_2 : decode cX1_begin 2 = .ok (.putfield 27, 3) := by decide +kernel
theorem dX1_begin_5 : decode cX1_begin 5 = .ok (.aload_n 0, 1) := by decide +kernel
theorem dX1_begin_6 : decode cX1_begin 6 = .ok (.iload_n 2, 1) := by decide +kernel
theorem dX1_begin_7 : decode cX1_begin 7 = .ok (.putfield 31, 3) := by decide +kernel
theorem dX1_begin_10 : decode cX1_begin 10 = .ok (.aload_n 0, 1) := by decide +kernel
theorem dX1_begin_11 : decode cX1_begin 11 = .ok (.iload_n 3, 1) := by decide +kernel
theorem dX1_begin_12 : decode cX1_begin 12 = .ok (.putfield 34, 3) := by decide +kernel
theorem dX1_begin_15 : decode cX1_begin 15 = .ok (.aload_n 0, 1) := by decide +kernel
theorem dX1_begin_16 : decode cX1_begin 16 = .ok (.bipush (-4), 2) := by decide +kernel
theorem dX1_begin_18 : decode cX1_begin 18 = .ok (.putfield 37, 3) := by decide +kernel
theorem dX1_begin_21 : decode cX1_begin 21 = .ok (.aload_n 0, 1) := by decide +kernel
theorem dX1_begin_22 : decode cX1_begin 22 = .ok (.iconst 0, 1) := by decide +kernel
theorem dX1_begin_23 : decode cX1_begin 23 = .ok (.putfield 40, 3) := by decide +kernel
theorem dX1_begin_26 : decode cX1_begin 26 = .ok (.aload_n 0, 1) := by decide +kernel
theorem dX1_begin_27 : decode cX1_begin 27 = .ok (.getfield 24, 3) := by decide +kernel
theorem dX1_begin_30 : decode cX1_begin 30 = .ok (.iconst 0, 1) := by decide +kernel
theorem dX1_begin_31 : decode cX1_begin 31 = .ok (.invokestatic 43, 3) := by decide +kernel
theorem dX1_begin_34 : decode cX1_begin 34 = .ok (.return_, 1) := by decide +kernel
theorem dX1_becomeLike_0 : decode cX1_becomeLike 0 = .ok (.aload_n 0, 1) := by decide +kernel
theorem dX1_becomeLike_1 : decode cX1_becomeLike 1 = .ok (.aload_n 1, 1) := by decide +kernel
theorem dX1_becomeLike_2 : decode cX1_becomeLike 2 = .ok (.getfield 27, 3) := by decide +kernel
theorem dX1_becomeLike_5 : decode cX1_becomeLike 5 = .ok (.aload_n 1, 1) := by decide +kernel
theorem dX1_becomeLike_6 : decode cX1_becomeLike 6 = .ok (.getfield 31, 3) := by decide +kernel
theorem dX1_becomeLike_9 : decode cX1_becomeLike 9 = .ok (.aload_n 1, 1) := by decide +kernel
theorem dX1_becomeLike_10 : decode cX1_becomeLike 10 = .ok (.getfield 34, 3) := by decide +kernel
theorem dX1_becomeLike_13 : decode cX1_becomeLike 13 = .ok (.invokevirtual 49, 3) := by decide +kernel
theorem dX1_becomeLike_16 : decode cX1_becomeLike 16 = .ok (.aload_n 0, 1) := by decide +kernel
theorem dX1_becomeLike_17 : decode cX1_becomeLike 17 = .ok (.aload_n 1, 1) := by decide +kernel
theorem dX1_becomeLike_18 : decode cX1_becomeLike 18 = .ok (.getfield 37, 3) := by decide +kernel
theorem dX1_becomeLike_21 : decode cX1_becomeLike 21 = .ok (.putfield 37, 3) := by decide +kernel
theorem dX1_becomeLike_24 : decode cX1_becomeLike 24 = .ok (.aload_n 1, 1) := by decide +kernel
theorem dX1_becomeLike_25 : decode cX1_becomeLike 25 = .ok (.getfield 24, 3) := by decide +kernel
theorem dX1_becomeLike_28 : decode cX1_becomeLike 28 = .ok (.iconst 0, 1) := by decide +kernel
theorem dX1_becomeLike_29 : decode cX1_becomeLike 29 = .ok (.aload_n 0, 1) := by decide +kernel
theorem dX1_becomeLike_30 : decode cX1_becomeLike 30 = .ok (.getfield 24, 3) := by decide +kernel
theorem dX1_becomeLike_33 : decode cX1_becomeLike 33 = .ok (.iconst 0, 1) := by decide +kernel
theorem dX1_becomeLike_34 : decode cX1_becomeLike 34 = .ok (.iconst 5, 1) := by decide +kernel
theorem dX1_becomeLike_35 : decode cX1_becomeLike 35 = .ok (.invokestatic 53, 3) := by decide +kernel
theorem dX1_becomeLike_38 : decode cX1_becomeLike 38 = .ok (.aload_n 0, 1) := by decide +kernel
theorem dX1_becomeLike_39 : decode cX1_becomeLike 39 = .ok (.aload_n 1, 1) := by decide +kernel
theorem dX1_becomeLike_40 : decode cX1_becomeLike 40 = .ok (.invokevirtual 59, 3) := by decide +kernel
theorem dX1_becomeLike_43 : decode cX1_becomeLike 43 = .ok (.return_, 1) := by decide +kernel
theorem dX1_wearAs_0 : decode cX1_wearAs 0 = .ok (.aload_n 0, 1) := by decide +kernel
theorem dX1_wearAs_1 : decode cX1_wearAs 1 = .ok (.aload_n 1, 1) := by decide +kernel
theorem dX1_wearAs_2 : decode cX1_wearAs 2 = .ok (.getfield 40, 3) := by decide +kernel
theorem dX1_wearAs_5 : decode cX1_wearAs 5 = .ok (.putfield 40, 3) := by decide +kernel
theorem dX1_wearAs_8 : decode cX1_wearAs 8 = .ok (.aload_n 1, 1) := by decide +kernel
theorem dX1_wearAs_9 : decode cX1_wearAs 9 = .ok (.getfield 9, 3) := by decide +kernel
theorem dX1_wearAs_12 : decode cX1_wearAs 12 = .ok (.iconst 0, 1) := by decide +kernel
theorem dX1_wearAs_13 : decode cX1_wearAs 13 = .ok (.aload_n 0, 1) := by decide +kernel
theorem dX1_wearAs_14 : decode cX1_wearAs 14 = .ok (.getfield 9, 3) := by decide +kernel
theorem dX1_wearAs_17 : decode cX1_wearAs 17 = .ok (.iconst 0, 1) := by decide +kernel
theorem dX1_wearAs_18 : decode cX1_wearAs 18 = .ok (.bipush 8, 2) := by decide +kernel
theorem dX1_wearAs_20 : decode cX1_wearAs 20 = .ok (.invokestatic 53, 3) := by decide +kernel
theorem dX1_wearAs_23 : decode cX1_wearAs 23 = .ok (.aload_n 1, 1) := by decide +kernel
theorem dX1_wearAs_24 : decode cX1_wearAs 24 = .ok (.getfield 15, 3) := by decide +kernel
theorem dX1_wearAs_27 : decode cX1_wearAs 27 = .ok (.iconst 0, 1) := by decide +kernel
theorem dX1_wearAs_28 : decode cX1_wearAs 28 = .ok (.aload_n 0, 1) := by decide +kernel
theorem dX1_wearAs_29 : decode cX1_wearAs 29 = .ok (.getfield 15, 3) := by decide +kernel
theorem dX1_wearAs_32 : decode cX1_wearAs 32 = .ok (.iconst 0, 1) := by decide +kernel
theorem dX1_wearAs_33 : decode cX1_wearAs 33 = .ok (.bipush 8, 2) := by decide +kernel
theorem dX1_wearAs_35 : decode cX1_wearAs 35 = .ok (.invokestatic 53, 3) := by decide +kernel
theorem dX1_wearAs_38 : decode cX1_wearAs 38 = .ok (.aload_n 1, 1) := by decide +kernel
theorem dX1_wearAs_39 : decode cX1_wearAs 39 = .ok (.getfield 18, 3) := by decide +kernel
theorem dX1_wearAs_42 : decode cX1_wearAs 42 = .ok (.iconst 0, 1) := by decide +kernel
theorem dX1_wearAs_43 : decode cX1_wearAs 43 = .ok (.aload_n 0, 1) := by decide +kernel
theorem dX1_wearAs_44 : decode cX1_wearAs 44 = .ok (.getfield 18, 3) := by decide +kernel
theorem dX1_wearAs_47 : decode cX1_wearAs 47 = .ok (.iconst 0, 1) := by decide +kernel
theorem dX1_wearAs_48 : decode cX1_wearAs 48 = .ok (.bipush 8, 2) := by decide +kernel
theorem dX1_wearAs_50 : decode cX1_wearAs 50 = .ok (.invokestatic 53, 3) := by decide +kernel
theorem dX1_wearAs_53 : decode cX1_wearAs 53 = .ok (.aload_n 1, 1) := by decide +kernel
theorem dX1_wearAs_54 : decode cX1_wearAs 54 = .ok (.getfield 21, 3) := by decide +kernel
theorem dX1_wearAs_57 : decode cX1_wearAs 57 = .ok (.iconst 0, 1) := by decide +kernel
theorem dX1_wearAs_58 : decode cX1_wearAs 58 = .ok (.aload_n 0, 1) := by decide +kernel
theorem dX1_wearAs_59 : decode cX1_wearAs 59 = .ok (.getfield 21, 3) := by decide +kernel
theorem dX1_wearAs_62 : decode cX1_wearAs 62 = .ok (.iconst 0, 1) := by decide +kernel
theorem dX1_wearAs_63 : decode cX1_wearAs 63 = .ok (.bipush 8, 2) := by decide +kernel
theorem dX1_wearAs_65 : decode cX1_wearAs 65 = .ok (.invokestatic 53, 3) := by decide +kernel
theorem dX1_wearAs_68 : decode cX1_wearAs 68 = .ok (.return_, 1) := by decide +kernel
theorem dX1_wornSet_0 : decode cX1_wornSet 0 = .ok (.iconst 1, 1) := by decide +kernel
theorem dX1_wornSet_1 : decode cX1_wornSet 1 = .ok (.aload_n 0, 1) := by decide +kernel
theorem dX1_wornSet_2 : decode cX1_wornSet 2 = .ok (.getfield 40, 3) := by decide +kernel
theorem dX1_wornSet_5 : decode cX1_wornSet 5 = .ok (.ishl, 1) := by decide +kernel
theorem dX1_wornSet_6 : decode cX1_wornSet 6 = .ok (.iconst 1, 1) := by decide +kernel
theorem dX1_wornSet_7 : decode cX1_wornSet 7 = .ok (.isub, 1) := by decide +kernel
theorem dX1_wornSet_8 : decode cX1_wornSet 8 = .ok (.ireturn, 1) := by decide +kernel
theorem dX1_isBetween_0 : decode cX1_isBetween 0 = .ok (.iload_n 1, 1) := by decide +kernel
theorem dX1_isBetween_1 : decode cX1_isBetween 1 = .ok (.ifCond .le 17, 3) := by decide +kernel
theorem dX1_isBetween_4 : decode cX1_isBetween 4 = .ok (.iload_n 1, 1) := by decide +kernel
theorem dX1_isBetween_5 : decode cX1_isBetween 5 = .ok (.aload_n 0, 1) := by decide +kernel
theorem dX1_isBetween_6 : decode cX1_isBetween 6 = .ok (.getfield 40, 3) := by decide +kernel
theorem dX1_isBetween_9 : decode cX1_isBetween 9 = .ok (.iconst 1, 1) := by decide +kernel
theorem dX1_isBetween_10 : decode cX1_isBetween 10 = .ok (.isub, 1) := by decide +kernel
theorem dX1_isBetween_11 : decode cX1_isBetween 11 = .ok (.if_icmp .ge 7, 3) := by decide +kernel
theorem dX1_isBetween_14 : decode cX1_isBetween 14 = .ok (.iconst 1, 1) := by decide +kernel
theorem dX1_isBetween_15 : decode cX1_isBetween 15 = .ok (.goto 4, 3) := by decide +kernel
theorem dX1_isBetween_18 : decode cX1_isBetween 18 = .ok (.iconst 0, 1) := by decide +kernel
theorem dX1_isBetween_19 : decode cX1_isBetween 19 = .ok (.ireturn, 1) := by decide +kernel
theorem dX1_thickTogether_0 : decode cX1_thickTogether 0 = .ok (.iconst 0, 1) := by decide +kernel
theorem dX1_thickTogether_1 : decode cX1_thickTogether 1 = .ok (.istore_n 1, 1) := by decide +kernel
theorem dX1_thickTogether_2 : decode cX1_thickTogether 2 = .ok (.iconst 0, 1) := by decide +kernel
theorem dX1_thickTogether_3 : decode cX1_thickTogether 3 = .ok (.istore_n 2, 1) := by decide +kernel
theorem dX1_thickTogether_4 : decode cX1_thickTogether 4 = .ok (.iload_n 2, 1) := by decide +kernel
theorem dX1_thickTogether_5 : decode cX1_thickTogether 5 = .ok (.aload_n 0, 1) := by decide +kernel
theorem dX1_thickTogether_6 : decode cX1_thickTogether 6 = .ok (.getfield 40, 3) := by decide +kernel
theorem dX1_thickTogether_9 : decode cX1_thickTogether 9 = .ok (.if_icmp .ge 18, 3) := by decide +kernel
theorem dX1_thickTogether_12 : decode cX1_thickTogether 12 = .ok (.iload_n 1, 1) := by decide +kernel
theorem dX1_thickTogether_13 : decode cX1_thickTogether 13 = .ok (.aload_n 0, 1) := by decide +kernel
theorem dX1_thickTogether_14 : decode cX1_thickTogether 14 = .ok (.getfield 21, 3) := by decide +kernel
theorem dX1_thickTogether_17 : decode cX1_thickTogether 17 = .ok (.iload_n 2, 1) := by decide +kernel
theorem dX1_thickTogether_18 : decode cX1_thickTogether 18 = .ok (.iaload, 1) := by decide +kernel
theorem dX1_thickTogether_19 : decode cX1_thickTogether 19 = .ok (.iadd, 1) := by decide +kernel
theorem dX1_thickTogether_20 : decode cX1_thickTogether 20 = .ok (.istore_n 1, 1) := by decide +kernel
theorem dX1_thickTogether_21 : decode cX1_thickTogether 21 = .ok (.iinc 2 1, 3) := by decide +kernel
theorem dX1_thickTogether_24 : decode cX1_thickTogether 24 = .ok (.goto (-20), 3) := by decide +kernel
theorem dX1_thickTogether_27 : decode cX1_thickTogether 27 = .ok (.iload_n 1, 1) := by decide +kernel
theorem dX1_thickTogether_28 : decode cX1_thickTogether 28 = .ok (.ireturn, 1) := by decide +kernel
theorem dX1_amountsTogether_0 : decode cX1_amountsTogether 0 = .ok (.iconst 0, 1) := by decide +kernel
theorem dX1_amountsTogether_1 : decode cX1_amountsTogether 1 = .ok (.istore_n 1, 1) := by decide +kernel
theorem dX1_amountsTogether_2 : decode cX1_amountsTogether 2 = .ok (.iconst 0, 1) := by decide +kernel
theorem dX1_amountsTogether_3 : decode cX1_amountsTogether 3 = .ok (.istore_n 2, 1) := by decide +kernel
theorem dX1_amountsTogether_4 : decode cX1_amountsTogether 4 = .ok (.iload_n 2, 1) := by decide +kernel
theorem dX1_amountsTogether_5 : decode cX1_amountsTogether 5 = .ok (.aload_n 0, 1) := by decide +kernel
theorem dX1_amountsTogether_6 : decode cX1_amountsTogether 6 = .ok (.getfield 40, 3) := by decide +kernel
theorem dX1_amountsTogether_9 : decode cX1_amountsTogether 9 = .ok (.if_icmp .ge 18, 3) := by decide +kernel
theorem dX1_amountsTogether_12 : decode cX1_amountsTogether 12 = .ok (.iload_n 1, 1) := by decide +kernel
theorem dX1_amountsTogether_13 : decode cX1_amountsTogether 13 = .ok (.aload_n 0, 1) := by decide +kernel
theorem dX1_amountsTogether_14 : decode cX1_amountsTogether 14 = .ok (.getfield 15, 3) := by decide +kernel
theorem dX1_amountsTogether_17 : decode cX1_amountsTogether 17 = .ok (.iload_n 2, 1) := by decide +kernel
theorem dX1_amountsTogether_18 : decode cX1_amountsTogether 18 = .ok (.iaload, 1) := by decide +kernel
theorem dX1_amountsTogether_19 : decode cX1_amountsTogether 19 = .ok (.iadd, 1) := by decide +kernel
theorem dX1_amountsTogether_20 : decode cX1_amountsTogether 20 = .ok (.istore_n 1, 1) := by decide +kernel
theorem dX1_amountsTogether_21 : decode cX1_amountsTogether 21 = .ok (.iinc 2 1, 3) := by decide +kernel
theorem dX1_amountsTogether_24 : decode cX1_amountsTogether 24 = .ok (.goto (-20), 3) := by decide +kernel
theorem dX1_amountsTogether_27 : decode cX1_amountsTogether 27 = .ok (.iload_n 1, 1) := by decide +kernel
theorem dX1_amountsTogether_28 : decode cX1_amountsTogether 28 = .ok (.ireturn, 1) := by decide +kernel
theorem dX1_owedTo_0 : decode cX1_owedTo 0 = .ok (.iconst 0, 1) := by decide +kernel
theorem dX1_owedTo_1 : decode cX1_owedTo 1 = .ok (.istore_n 2, 1) := by decide +kernel
theorem dX1_owedTo_2 : decode cX1_owedTo 2 = .ok (.iconst 0, 1) := by decide +kernel
theorem dX1_owedTo_3 : decode cX1_owedTo 3 = .ok (.istore_n 3, 1) := by decide +kernel
theorem dX1_owedTo_4 : decode cX1_owedTo 4 = .ok (.iload_n 3, 1) := by decide +kernel
theorem dX1_owedTo_5 : decode cX1_owedTo 5 = .ok (.aload_n 0, 1) := by decide +kernel
theorem dX1_owedTo_6 : decode cX1_owedTo 6 = .ok (.getfield 40, 3) := by decide +kernel
theorem dX1_owedTo_9 : decode cX1_owedTo 9 = .ok (.if_icmp .ge 28, 3) := by decide +kernel
theorem dX1_owedTo_12 : decode cX1_owedTo 12 = .ok (.aload_n 0, 1) := by decide +kernel
theorem dX1_owedTo_13 : decode cX1_owedTo 13 = .ok (.getfield 9, 3) := by decide +kernel
theorem dX1_owedTo_16 : decode cX1_owedTo 16 = .ok (.iload_n 3, 1) := by decide +kernel
theorem dX1_owedTo_17 : decode cX1_owedTo 17 = .ok (.iaload, 1) := by decide +kernel
theorem dX1_owedTo_18 : decode cX1_owedTo 18 = .ok (.iload_n 1, 1) := by decide +kernel
theorem dX1_owedTo_19 : decode cX1_owedTo 19 = .ok (.if_icmp .ne 12, 3) := by decide +kernel
theorem dX1_owedTo_22 : decode cX1_owedTo 22 = .ok (.iload_n 2, 1) := by decide +kernel
theorem dX1_owedTo_23 : decode cX1_owedTo 23 = .ok (.aload_n 0, 1) := by decide +kernel
theorem dX1_owedTo_24 : decode cX1_owedTo 24 = .ok (.getfield 15, 3) := by decide +kernel
theorem dX1_owedTo_27 : decode cX1_owedTo 27 = .ok (.iload_n 3, 1) := by decide +kernel
theorem dX1_owedTo_28 : decode cX1_owedTo 28 = .ok (.iaload, 1) := by decide +kernel
theorem dX1_owedTo_29 : decode cX1_owedTo 29 = .ok (.iadd, 1) := by decide +kernel
theorem dX1_owedTo_30 : decode cX1_owedTo 30 = .ok (.istore_n 2, 1) := by decide +kernel
theorem dX1_owedTo_31 : decode cX1_owedTo 31 = .ok (.iinc 3 1, 3) := by decide +kernel
theorem dX1_owedTo_34 : decode cX1_owedTo 34 = .ok (.goto (-30), 3) := by decide +kernel
theorem dX1_owedTo_37 : decode cX1_owedTo 37 = .ok (.iload_n 2, 1) := by decide +kernel
theorem dX1_owedTo_38 : decode cX1_owedTo 38 = .ok (.ireturn, 1) := by decide +kernel
theorem dX1_putOn_0 : decode cX1_putOn 0 = .ok (.aload_n 0, 1) := by decide +kernel
theorem dX1_putOn_1 : decode cX1_putOn 1 = .ok (.getfield 40, 3) := by decide +kernel
theorem dX1_putOn_4 : decode cX1_putOn 4 = .ok (.bipush 8, 2) := by decide +kernel
theorem dX1_putOn_6 : decode cX1_putOn 6 = .ok (.if_icmp .ge 54, 3) := by decide +kernel
theorem dX1_putOn_9 : decode cX1_putOn 9 = .ok (.aload_n 0, 1) := by decide +kernel
theorem dX1_putOn_10 : decode cX1_putOn 10 = .ok (.getfield 9, 3) := by decide +kernel
theorem dX1_putOn_13 : decode cX1_putOn 13 = .ok (.aload_n 0, 1) := by decide +kernel
theorem dX1_putOn_14 : decode cX1_putOn 14 = .ok (.getfield 40, 3) := by decide +kernel
theorem dX1_putOn_17 : decode cX1_putOn 17 = .ok (.iload_n 1, 1) := by decide +kernel
theorem dX1_putOn_18 : decode cX1_putOn 18 = .ok (.iastore, 1) := by decide +kernel
theorem dX1_putOn_19 : decode cX1_putOn 19 = .ok (.aload_n 0, 1) := by decide +kernel
theorem dX1_putOn_20 : decode cX1_putOn 20 = .ok (.getfield 15, 3) := by decide +kernel
theorem dX1_putOn_23 : decode cX1_putOn 23 = .ok (.aload_n 0, 1) := by decide +kernel
theorem dX1_putOn_24 : decode cX1_putOn 24 = .ok (.getfield 40, 3) := by decide +kernel
theorem dX1_putOn_27 : decode cX1_putOn 27 = .ok (.iload_n 2, 1) := by decide +kernel
theorem dX1_putOn_28 : decode cX1_putOn 28 = .ok (.iastore, 1) := by decide +kernel
theorem dX1_putOn_29 : decode cX1_putOn 29 = .ok (.aload_n 0, 1) := by decide +kernel
theorem dX1_putOn_30 : decode cX1_putOn 30 = .ok (.getfield 18, 3) := by decide +kernel
theorem dX1_putOn_33 : decode cX1_putOn 33 = .ok (.aload_n 0, 1) := by decide +kernel
theorem dX1_putOn_34 : decode cX1_putOn 34 = .ok (.getfield 40, 3) := by decide +kernel
theorem dX1_putOn_37 : decode cX1_putOn 37 = .ok (.iload_n 3, 1) := by decide +kernel
theorem dX1_putOn_38 : decode cX1_putOn 38 = .ok (.iastore, 1) := by decide +kernel
theorem dX1_putOn_39 : decode cX1_putOn 39 = .ok (.aload_n 0, 1) := by decide +kernel
theorem dX1_putOn_40 : decode cX1_putOn 40 = .ok (.getfield 21, 3) := by decide +kernel
theorem dX1_putOn_43 : decode cX1_putOn 43 = .ok (.aload_n 0, 1) := by decide +kernel
theorem dX1_putOn_44 : decode cX1_putOn 44 = .ok (.getfield 40, 3) := by decide +kernel
theorem dX1_putOn_47 : decode cX1_putOn 47 = .ok (.iload 4, 2) := by decide +kernel
theorem dX1_putOn_49 : decode cX1_putOn 49 = .ok (.iastore, 1) := by decide +kernel
theorem dX1_putOn_50 : decode cX1_putOn 50 = .ok (.aload_n 0, 1) := by decide +kernel
theorem dX1_putOn_51 : decode cX1_putOn 51 = .ok (.dup, 1) := by decide +kernel
theorem dX1_putOn_52 : decode cX1_putOn 52 = .ok (.getfield 40, 3) := by decide +kernel
theorem dX1_putOn_55 : decode cX1_putOn 55 = .ok (.iconst 1, 1) := by decide +kernel
theorem dX1_putOn_56 : decode cX1_putOn 56 = .ok (.iadd, 1) := by decide +kernel
theorem dX1_putOn_57 : decode cX1_putOn 57 = .ok (.putfield 40, 3) := by decide +kernel
theorem dX1_putOn_60 : decode cX1_putOn 60 = .ok (.return_, 1) := by decide +kernel
theorem dX1_takeOff_0 : decode cX1_takeOff 0 = .ok (.iload_n 1, 1) := by decide +kernel
theorem dX1_takeOff_1 : decode cX1_takeOff 1 = .ok (.istore_n 2, 1) := by decide +kernel
theorem dX1_takeOff_2 : decode cX1_takeOff 2 = .ok (.iload_n 2, 1) := by decide +kernel
theorem dX1_takeOff_3 : decode cX1_takeOff 3 = .ok (.aload_n 0, 1) := by decide +kernel
theorem dX1_takeOff_4 : decode cX1_takeOff 4 = .ok (.getfield 40, 3) := by decide +kernel
theorem dX1_takeOff_7 : decode cX1_takeOff 7 = .ok (.iconst 1, 1) := by decide +kernel
theorem dX1_takeOff_8 : decode cX1_takeOff 8 = .ok (.isub, 1) := by decide +kernel
theorem dX1_takeOff_9 : decode cX1_takeOff 9 = .ok (.if_icmp .ge 65, 3) := by decide +kernel
theorem dX1_takeOff_12 : decode cX1_takeOff 12 = .ok (.aload_n 0, 1) := by decide +kernel
theorem dX1_takeOff_13 : decode cX1_takeOff 13 = .ok (.getfield 9, 3) := by decide +kernel
theorem dX1_takeOff_16 : decode cX1_takeOff 16 = .ok (.iload_n 2, 1) := by decide +kernel
theorem dX1_takeOff_17 : decode cX1_takeOff 17 = .ok (.aload_n 0, 1) := by decide +kernel
theorem dX1_takeOff_18 : decode cX1_takeOff 18 = .ok (.getfield 9, 3) := by decide +kernel
theorem dX1_takeOff_21 : decode cX1_takeOff 21 = .ok (.iload_n 2, 1) := by decide +kernel
theorem dX1_takeOff_22 : decode cX1_takeOff 22 = .ok (.iconst 1, 1) := by decide +kernel
theorem dX1_takeOff_23 : decode cX1_takeOff 23 = .ok (.iadd, 1) := by decide +kernel
theorem dX1_takeOff_24 : decode cX1_takeOff 24 = .ok (.iaload, 1) := by decide +kernel
theorem dX1_takeOff_25 : decode cX1_takeOff 25 = .ok (.iastore, 1) := by decide +kernel
theorem dX1_takeOff_26 : decode cX1_takeOff 26 = .ok (.aload_n 0, 1) := by decide +kernel
theorem dX1_takeOff_27 : decode cX1_takeOff 27 = .ok (.getfield 15, 3) := by decide +kernel
theorem dX1_takeOff_30 : decode cX1_takeOff 30 = .ok (.iload_n 2, 1) := by decide +kernel
theorem dX1_takeOff_31 : decode cX1_takeOff 31 = .ok (.aload_n 0, 1) := by decide +kernel
theorem dX1_takeOff_32 : decode cX1_takeOff 32 = .ok (.getfield 15, 3) := by decide +kernel
theorem dX1_takeOff_35 : decode cX1_takeOff 35 = .ok (.iload_n 2, 1) := by decide +kernel
theorem dX1_takeOff_36 : decode cX1_takeOff 36 = .ok (.iconst 1, 1) := by decide +kernel
theorem dX1_takeOff_37 : decode cX1_takeOff 37 = .ok (.iadd, 1) := by decide +kernel
theorem dX1_takeOff_38 : decode cX1_takeOff 38 = .ok (.iaload, 1) := by decide +kernel
theorem dX1_takeOff_39 : decode cX1_takeOff 39 = .ok (.iastore, 1) := by decide +kernel
theorem dX1_takeOff_40 : decode cX1_takeOff 40 = .ok (.aload_n 0, 1) := by decide +kernel
theorem dX1_takeOff_41 : decode cX1_takeOff 41 = .ok (.getfield 18, 3) := by decide +kernel
theorem dX1_takeOff_44 : decode cX1_takeOff 44 = .ok (.iload_n 2, 1) := by decide +kernel
theorem dX1_takeOff_45 : decode cX1_takeOff 45 = .ok (.aload_n 0, 1) := by decide +kernel
theorem dX1_takeOff_46 : decode cX1_takeOff 46 = .ok (.getfield 18, 3) := by decide +kernel
theorem dX1_takeOff_49 : decode cX1_takeOff 49 = .ok (.iload_n 2, 1) := by decide +kernel
theorem dX1_takeOff_50 : decode cX1_takeOff 50 = .ok (.iconst 1, 1) := by decide +kernel
theorem dX1_takeOff_51 : decode cX1_takeOff 51 = .ok (.iadd, 1) := by decide +kernel
theorem dX1_takeOff_52 : decode cX1_takeOff 52 = .ok (.iaload, 1) := by decide +kernel
theorem dX1_takeOff_53 : decode cX1_takeOff 53 = .ok (.iastore, 1) := by decide +kernel
theorem dX1_takeOff_54 : decode cX1_takeOff 54 = .ok (.aload_n 0, 1) := by decide +kernel
theorem dX1_takeOff_55 : decode cX1_takeOff 55 = .ok (.getfield 21, 3) := by decide +kernel
theorem dX1_takeOff_58 : decode cX1_takeOff 58 = .ok (.iload_n 2, 1) := by decide +kernel
theorem dX1_takeOff_59 : decode cX1_takeOff 59 = .ok (.aload_n 0, 1) := by decide +kernel
theorem dX1_takeOff_60 : decode cX1_takeOff 60 = .ok (.getfield 21, 3) := by decide +kernel
theorem dX1_takeOff_63 : decode cX1_takeOff 63 = .ok (.iload_n 2, 1) := by decide +kernel
theorem dX1_takeOff_64 : decode cX1_takeOff 64 = .ok (.iconst 1, 1) := by decide +kernel
theorem dX1_takeOff_65 : decode cX1_takeOff 65 = .ok (.iadd, 1) := by decide +kernel
theorem dX1_takeOff_66 : decode cX1_takeOff 66 = .ok (.iaload, 1) := by decide +kernel
theorem dX1_takeOff_67 : decode cX1_takeOff 67 = .ok (.iastore, 1) := by decide +kernel
theorem dX1_takeOff_68 : decode cX1_takeOff 68 = .ok (.iinc 2 1, 3) := by decide +kernel
theorem dX1_takeOff_71 : decode cX1_takeOff 71 = .ok (.goto (-69), 3) := by decide +kernel
theorem dX1_takeOff_74 : decode cX1_takeOff 74 = .ok (.aload_n 0, 1) := by decide +kernel
theorem dX1_takeOff_75 : decode cX1_takeOff 75 = .ok (.dup, 1) := by decide +kernel
theorem dX1_takeOff_76 : decode cX1_takeOff 76 = .ok (.getfield 40, 3) := by decide +kernel
theorem dX1_takeOff_79 : decode cX1_takeOff 79 = .ok (.iconst 1, 1) := by decide +kernel
theorem dX1_takeOff_80 : decode cX1_takeOff 80 = .ok (.isub, 1) := by decide +kernel
theorem dX1_takeOff_81 : decode cX1_takeOff 81 = .ok (.putfield 40, 3) := by decide +kernel
theorem dX1_takeOff_84 : decode cX1_takeOff 84 = .ok (.return_, 1) := by decide +kernel
theorem dX1_payOff_0 : decode cX1_payOff 0 = .ok (.aload_n 0, 1) := by decide +kernel
theorem dX1_payOff_1 : decode cX1_payOff 1 = .ok (.dup, 1) := by decide +kernel
theorem dX1_payOff_2 : decode cX1_payOff 2 = .ok (.getfield 27, 3) := by decide +kernel
theorem dX1_payOff_5 : decode cX1_payOff 5 = .ok (.aload_n 0, 1) := by decide +kernel
theorem dX1_payOff_6 : decode cX1_payOff 6 = .ok (.getfield 15, 3) := by decide +kernel
theorem dX1_payOff_9 : decode cX1_payOff 9 = .ok (.iload_n 1, 1) := by decide +kernel
theorem dX1_payOff_10 : decode cX1_payOff 10 = .ok (.iaload, 1) := by decide +kernel
theorem dX1_payOff_11 : decode cX1_payOff 11 = .ok (.isub, 1) := by decide +kernel
theorem dX1_payOff_12 : decode cX1_payOff 12 = .ok (.putfield 27, 3) := by decide +kernel
theorem dX1_payOff_15 : decode cX1_payOff 15 = .ok (.aload_n 0, 1) := by decide +kernel
theorem dX1_payOff_16 : decode cX1_payOff 16 = .ok (.iload_n 1, 1) := by decide +kernel
theorem dX1_payOff_17 : decode cX1_payOff 17 = .ok (.invokevirtual 63, 3) := by decide +kernel
theorem dX1_payOff_20 : decode cX1_payOff 20 = .ok (.return_, 1) := by decide +kernel
theorem dX1_swapOutermost_0 : decode cX1_swapOutermost 0 = .ok (.aload_n 0, 1) := by decide +kernel
theorem dX1_swapOutermost_1 : decode cX1_swapOutermost 1 = .ok (.getfield 9, 3) := by decide +kernel
theorem dX1_swapOutermost_4 : decode cX1_swapOutermost 4 = .ok (.aload_n 0, 1) := by decide +kernel
theorem dX1_swapOutermost_5 : decode cX1_swapOutermost 5 = .ok (.getfield 40, 3) := by decide +kernel
theorem dX1_swapOutermost_8 : decode cX1_swapOutermost 8 = .ok (.iconst 1, 1) := by decide +kernel
theorem dX1_swapOutermost_9 : decode cX1_swapOutermost 9 = .ok (.isub, 1) := by decide +kernel
theorem dX1_swapOutermost_10 : decode cX1_swapOutermost 10 = .ok (.aload_n 1, 1) := by decide +kernel
theorem dX1_swapOutermost_11 : decode cX1_swapOutermost 11 = .ok (.getfield 9, 3) := by decide +kernel
theorem dX1_swapOutermost_14 : decode cX1_swapOutermost 14 = .ok (.aload_n 1, 1) := by decide +kernel
theorem dX1_swapOutermost_15 : decode cX1_swapOutermost 15 = .ok (.getfield 40, 3) := by decide +kernel
theorem dX1_swapOutermost_18 : decode cX1_swapOutermost 18 = .ok (.iconst 1, 1) := by decide +kernel
theorem dX1_swapOutermost_19 : decode cX1_swapOutermost 19 = .ok (.isub, 1) := by decide +kernel
theorem dX1_swapOutermost_20 : decode cX1_swapOutermost 20 = .ok (.invokestatic 67, 3) := by decide +kernel
theorem dX1_swapOutermost_23 : decode cX1_swapOutermost 23 = .ok (.aload_n 0, 1) := by decide +kernel
theorem dX1_swapOutermost_24 : decode cX1_swapOutermost 24 = .ok (.getfield 15, 3) := by decide +kernel
theorem dX1_swapOutermost_27 : decode cX1_swapOutermost 27 = .ok (.aload_n 0, 1) := by decide +kernel
theorem dX1_swapOutermost_28 : decode cX1_swapOutermost 28 = .ok (.getfield 40, 3) := by decide +kernel
theorem dX1_swapOutermost_31 : decode cX1_swapOutermost 31 = .ok (.iconst 1, 1) := by decide +kernel
theorem dX1_swapOutermost_32 : decode cX1_swapOutermost 32 = .ok (.isub, 1) := by decide +kernel
theorem dX1_swapOutermost_33 : decode cX1_swapOutermost 33 = .ok (.aload_n 1, 1) := by decide +kernel
theorem dX1_swapOutermost_34 : decode cX1_swapOutermost 34 = .ok (.getfield 15, 3) := by decide +kernel
theorem dX1_swapOutermost_37 : decode cX1_swapOutermost 37 = .ok (.aload_n 1, 1) := by decide +kernel
theorem dX1_swapOutermost_38 : decode cX1_swapOutermost 38 = .ok (.getfield 40, 3) := by decide +kernel
theorem dX1_swapOutermost_41 : decode cX1_swapOutermost 41 = .ok (.iconst 1, 1) := by decide +kernel
theorem dX1_swapOutermost_42 : decode cX1_swapOutermost 42 = .ok (.isub, 1) := by decide +kernel
theorem dX1_swapOutermost_43 : decode cX1_swapOutermost 43 = .ok (.invokestatic 67, 3) := by decide +kernel
theorem dX1_swapOutermost_46 : decode cX1_swapOutermost 46 = .ok (.aload_n 0, 1) := by decide +kernel
theorem dX1_swapOutermost_47 : decode cX1_swapOutermost 47 = .ok (.getfield 18, 3) := by decide +kernel
theorem dX1_swapOutermost_50 : decode cX1_swapOutermost 50 = .ok (.aload_n 0, 1) := by decide +kernel
theorem dX1_swapOutermost_51 : decode cX1_swapOutermost 51 = .ok (.getfield 40, 3) := by decide +kernel
theorem dX1_swapOutermost_54 : decode cX1_swapOutermost 54 = .ok (.iconst 1, 1) := by decide +kernel
theorem dX1_swapOutermost_55 : decode cX1_swapOutermost 55 = .ok (.isub, 1) := by decide +kernel
theorem dX1_swapOutermost_56 : decode cX1_swapOutermost 56 = .ok (.aload_n 1, 1) := by decide +kernel
theorem dX1_swapOutermost_57 : decode cX1_swapOutermost 57 = .ok (.getfield 18, 3) := by decide +kernel
theorem dX1_swapOutermost_60 : decode cX1_swapOutermost 60 = .ok (.aload_n 1, 1) := by decide +kernel
theorem dX1_swapOutermost_61 : decode cX1_swapOutermost 61 = .ok (.getfield 40, 3) := by decide +kernel
theorem dX1_swapOutermost_64 : decode cX1_swapOutermost 64 = .ok (.iconst 1, 1) := by decide +kernel
theorem dX1_swapOutermost_65 : decode cX1_swapOutermost 65 = .ok (.isub, 1) := by decide +kernel
theorem dX1_swapOutermost_66 : decode cX1_swapOutermost 66 = .ok (.invokestatic 67, 3) := by decide +kernel
theorem dX1_swapOutermost_69 : decode cX1_swapOutermost 69 = .ok (.aload_n 0, 1) := by decide +kernel
theorem dX1_swapOutermost_70 : decode cX1_swapOutermost 70 = .ok (.getfield 21, 3) := by decide +kernel
theorem dX1_swapOutermost_73 : decode cX1_swapOutermost 73 = .ok (.aload_n 0, 1) := by decide +kernel
theorem dX1_swapOutermost_74 : decode cX1_swapOutermost 74 = .ok (.getfield 40, 3) := by decide +kernel
theorem dX1_swapOutermost_77 : decode cX1_swapOutermost 77 = .ok (.iconst 1, 1) := by decide +kernel
theorem dX1_swapOutermost_78 : decode cX1_swapOutermost 78 = .ok (.isub, 1) := by decide +kernel
theorem dX1_swapOutermost_79 : decode cX1_swapOutermost 79 = .ok (.aload_n 1, 1) := by decide +kernel
theorem dX1_swapOutermost_80 : decode cX1_swapOutermost 80 = .ok (.getfield 21, 3) := by decide +kernel
theorem dX1_swapOutermost_83 : decode cX1_swapOutermost 83 = .ok (.aload_n 1, 1) := by decide +kernel
theorem dX1_swapOutermost_84 : decode cX1_swapOutermost 84 = .ok (.getfield 40, 3) := by decide +kernel
theorem dX1_swapOutermost_87 : decode cX1_swapOutermost 87 = .ok (.iconst 1, 1) := by decide +kernel
theorem dX1_swapOutermost_88 : decode cX1_swapOutermost 88 = .ok (.isub, 1) := by decide +kernel
theorem dX1_swapOutermost_89 : decode cX1_swapOutermost 89 = .ok (.invokestatic 67, 3) := by decide +kernel
theorem dX1_swapOutermost_92 : decode cX1_swapOutermost 92 = .ok (.return_, 1) := by decide +kernel
theorem dX1_swapItems_0 : decode cX1_swapItems 0 = .ok (.iload_n 1, 1) := by decide +kernel
theorem dX1_swapItems_1 : decode cX1_swapItems 1 = .ok (.ifCond .lt 23, 3) := by decide +kernel
theorem dX1_swapItems_4 : decode cX1_swapItems 4 = .ok (.iload_n 3, 1) := by decide +kernel
theorem dX1_swapItems_5 : decode cX1_swapItems 5 = .ok (.ifCond .lt 19, 3) := by decide +kernel
theorem dX1_swapItems_8 : decode cX1_swapItems 8 = .ok (.aload_n 0, 1) := by decide +kernel
theorem dX1_swapItems_9 : decode cX1_swapItems 9 = .ok (.iload_n 1, 1) := by decide +kernel
theorem dX1_swapItems_10 : decode cX1_swapItems 10 = .ok (.iaload, 1) := by decide +kernel
theorem dX1_swapItems_11 : decode cX1_swapItems 11 = .ok (.istore 4, 2) := by decide +kernel
theorem dX1_swapItems_13 : decode cX1_swapItems 13 = .ok (.aload_n 0, 1) := by decide +kernel
theorem dX1_swapItems_14 : decode cX1_swapItems 14 = .ok (.iload_n 1, 1) := by decide +kernel
theorem dX1_swapItems_15 : decode cX1_swapItems 15 = .ok (.aload_n 2, 1) := by decide +kernel
theorem dX1_swapItems_16 : decode cX1_swapItems 16 = .ok (.iload_n 3, 1) := by decide +kernel
theorem dX1_swapItems_17 : decode cX1_swapItems 17 = .ok (.iaload, 1) := by decide +kernel
theorem dX1_swapItems_18 : decode cX1_swapItems 18 = .ok (.iastore, 1) := by decide +kernel
theorem dX1_swapItems_19 : decode cX1_swapItems 19 = .ok (.aload_n 2, 1) := by decide +kernel
theorem dX1_swapItems_20 : decode cX1_swapItems 20 = .ok (.iload_n 3, 1) := by decide +kernel
theorem dX1_swapItems_21 : decode cX1_swapItems 21 = .ok (.iload 4, 2) := by decide +kernel
theorem dX1_swapItems_23 : decode cX1_swapItems 23 = .ok (.iastore, 1) := by decide +kernel
theorem dX1_swapItems_24 : decode cX1_swapItems 24 = .ok (.return_, 1) := by decide +kernel
theorem dX1_passNight_0 : decode cX1_passNight 0 = .ok (.iconst 0, 1) := by decide +kernel
theorem dX1_passNight_1 : decode cX1_passNight 1 = .ok (.istore_n 1, 1) := by decide +kernel
theorem dX1_passNight_2 : decode cX1_passNight 2 = .ok (.iconst 0, 1) := by decide +kernel
theorem dX1_passNight_3 : decode cX1_passNight 3 = .ok (.istore_n 2, 1) := by decide +kernel
theorem dX1_passNight_4 : decode cX1_passNight 4 = .ok (.iload_n 2, 1) := by decide +kernel
theorem dX1_passNight_5 : decode cX1_passNight 5 = .ok (.aload_n 0, 1) := by decide +kernel
theorem dX1_passNight_6 : decode cX1_passNight 6 = .ok (.getfield 40, 3) := by decide +kernel
theorem dX1_passNight_9 : decode cX1_passNight 9 = .ok (.if_icmp .ge 44, 3) := by decide +kernel
theorem dX1_passNight_12 : decode cX1_passNight 12 = .ok (.aload_n 0, 1) := by decide +kernel
theorem dX1_passNight_13 : decode cX1_passNight 13 = .ok (.getfield 15, 3) := by decide +kernel
theorem dX1_passNight_16 : decode cX1_passNight 16 = .ok (.iload_n 2, 1) := by decide +kernel
theorem dX1_passNight_17 : decode cX1_passNight 17 = .ok (.aload_n 0, 1) := by decide +kernel
theorem dX1_passNight_18 : decode cX1_passNight 18 = .ok (.getfield 15, 3) := by decide +kernel
theorem dX1_passNight_21 : decode cX1_passNight 21 = .ok (.iload_n 2, 1) := by decide +kernel
theorem dX1_passNight_22 : decode cX1_passNight 22 = .ok (.iaload, 1) := by decide +kernel
theorem dX1_passNight_23 : decode cX1_passNight 23 = .ok (.aload_n 0, 1) := by decide +kernel
theorem dX1_passNight_24 : decode cX1_passNight 24 = .ok (.getfield 18, 3) := by decide +kernel
theorem dX1_passNight_27 : decode cX1_passNight 27 = .ok (.iload_n 2, 1) := by decide +kernel
theorem dX1_passNight_28 : decode cX1_passNight 28 = .ok (.iaload, 1) := by decide +kernel
theorem dX1_passNight_29 : decode cX1_passNight 29 = .ok (.invokestatic 71, 3) := by decide +kernel
theorem dX1_passNight_32 : decode cX1_passNight 32 = .ok (.iastore, 1) := by decide +kernel
theorem dX1_passNight_33 : decode cX1_passNight 33 = .ok (.iload_n 1, 1) := by decide +kernel
theorem dX1_passNight_34 : decode cX1_passNight 34 = .ok (.aload_n 0, 1) := by decide +kernel
theorem dX1_passNight_35 : decode cX1_passNight 35 = .ok (.getfield 24, 3) := by decide +kernel
theorem dX1_passNight_38 : decode cX1_passNight 38 = .ok (.aload_n 0, 1) := by decide +kernel
theorem dX1_passNight_39 : decode cX1_passNight 39 = .ok (.getfield 9, 3) := by decide +kernel
theorem dX1_passNight_42 : decode cX1_passNight 42 = .ok (.iload_n 2, 1) := by decide +kernel
theorem dX1_passNight_43 : decode cX1_passNight 43 = .ok (.iaload, 1) := by decide +kernel
theorem dX1_passNight_44 : decode cX1_passNight 44 = .ok (.iaload, 1) := by decide +kernel
theorem dX1_passNight_45 : decode cX1_passNight 45 = .ok (.iadd, 1) := by decide +kernel
theorem dX1_passNight_46 : decode cX1_passNight 46 = .ok (.istore_n 1, 1) := by decide +kernel
theorem dX1_passNight_47 : decode cX1_passNight 47 = .ok (.iinc 2 1, 3) := by decide +kernel
theorem dX1_passNight_50 : decode cX1_passNight 50 = .ok (.goto (-46), 3) := by decide +kernel
theorem dX1_passNight_53 : decode cX1_passNight 53 = .ok (.aload_n 0, 1) := by decide +kernel
theorem dX1_passNight_54 : decode cX1_passNight 54 = .ok (.aload_n 0, 1) := by decide +kernel
theorem dX1_passNight_55 : decode cX1_passNight 55 = .ok (.getfield 27, 3) := by decide +kernel
theorem dX1_passNight_58 : decode cX1_passNight 58 = .ok (.aload_n 0, 1) := by decide +kernel
theorem dX1_passNight_59 : decode cX1_passNight 59 = .ok (.getfield 31, 3) := by decide +kernel
theorem dX1_passNight_62 : decode cX1_passNight 62 = .ok (.iload_n 1, 1) := by decide +kernel
theorem dX1_passNight_63 : decode cX1_passNight 63 = .ok (.invokestatic 75, 3) := by decide +kernel
theorem dX1_passNight_66 : decode cX1_passNight 66 = .ok (.putfield 27, 3) := by decide +kernel
theorem dX1_passNight_69 : decode cX1_passNight 69 = .ok (.return_, 1) := by decide +kernel
theorem dX1_isOverburdened_0 : decode cX1_isOverburdened 0 = .ok (.aload_n 0, 1) := by decide +kernel
theorem dX1_isOverburdened_1 : decode cX1_isOverburdened 1 = .ok (.invokevirtual 79, 3) := by decide +kernel
theorem dX1_isOverburdened_4 : decode cX1_isOverburdened 4 = .ok (.aload_n 0, 1) := by decide +kernel
theorem dX1_isOverburdened_5 : decode cX1_isOverburdened 5 = .ok (.getfield 34, 3) := by decide +kernel
theorem dX1_isOverburdened_8 : decode cX1_isOverburdened 8 = .ok (.iload_n 1, 1) := by decide +kernel
theorem dX1_isOverburdened_9 : decode cX1_isOverburdened 9 = .ok (.isub, 1) := by decide +kernel
theorem dX1_isOverburdened_10 : decode cX1_isOverburdened 10 = .ok (.iconst 0, 1) := by decide +kernel
theorem dX1_isOverburdened_11 : decode cX1_isOverburdened 11 = .ok (.invokestatic 83, 3) := by decide +kernel
theorem dX1_isOverburdened_14 : decode cX1_isOverburdened 14 = .ok (.if_icmp .le 7, 3) := by decide +kernel
theorem dX1_isOverburdened_17 : decode cX1_isOverburdened 17 = .ok (.iconst 1, 1) := by decide +kernel
theorem dX1_isOverburdened_18 : decode cX1_isOverburdened 18 = .ok (.goto 4, 3) := by decide +kernel
theorem dX1_isOverburdened_21 : decode cX1_isOverburdened 21 = .ok (.iconst 0, 1) := by decide +kernel
theorem dX1_isOverburdened_22 : decode cX1_isOverburdened 22 = .ok (.ireturn, 1) := by decide +kernel
theorem dX1_fall_0 : decode cX1_fall 0 = .ok (.aload_n 0, 1) := by decide +kernel
theorem dX1_fall_1 : decode cX1_fall 1 = .ok (.iconst 0, 1) := by decide +kernel
theorem dX1_fall_2 : decode cX1_fall 2 = .ok (.putfield 27, 3) := by decide +kernel
theorem dX1_fall_5 : decode cX1_fall 5 = .ok (.aload_n 0, 1) := by decide +kernel
theorem dX1_fall_6 : decode cX1_fall 6 = .ok (.getfield 37, 3) := by decide +kernel
theorem dX1_fall_9 : decode cX1_fall 9 = .ok (.bipush (-4), 2) := by decide +kernel
theorem dX1_fall_11 : decode cX1_fall 11 = .ok (.if_icmp .ne 8, 3) := by decide +kernel
theorem dX1_fall_14 : decode cX1_fall 14 = .ok (.aload_n 0, 1) := by decide +kernel
theorem dX1_fall_15 : decode cX1_fall 15 = .ok (.iload_n 1, 1) := by decide +kernel
theorem dX1_fall_16 : decode cX1_fall 16 = .ok (.putfield 37, 3) := by decide +kernel
theorem dX1_fall_19 : decode cX1_fall 19 = .ok (.return_, 1) := by decide +kernel
end
section
theorem dX5_init_0 : decode cX5_init 0 = .ok (.aload_n 0, 1) := by decide +kernel
theorem dX5_init_1 : decode cX5_init 1 = .ok (.invokespecial 3, 3) := by decide +kernel
theorem dX5_init_4 : decode cX5_init 4 = .ok (.aload_n 0, 1) := by decide +kernel
theorem dX5_init_5 : decode cX5_init 5 = .ok (.iconst 5, 1) := by decide +kernel
theorem dX5_init_6 : decode cX5_init 6 = .ok (.anewarray 9, 3) := by decide +kernel
theorem dX5_init_9 : decode cX5_init 9 = .ok (.putfield 11, 3) := by decide +kernel
theorem dX5_init_12 : decode cX5_init 12 = .ok (.aload_n 0, 1) := by decide +kernel
theorem dX5_init_13 : decode cX5_init 13 = .ok (.bipush 12, 2) := by decide +kernel
theorem dX5_init_15 : decode cX5_init 15 = .ok (.newarray .int, 2) := by decide +kernel
theorem dX5_init_17 : decode cX5_init 17 = .ok (.putfield 17, 3) := by decide +kernel
theorem dX5_init_20 : decode cX5_init 20 = .ok (.aload_n 0, 1) := by decide +kernel
theorem dX5_init_21 : decode cX5_init 21 = .ok (.bipush 8, 2) := by decide +kernel
theorem dX5_init_23 : decode cX5_init 23 = .ok (.newarray .int, 2) := by decide +kernel
theorem dX5_init_25 : decode cX5_init 25 = .ok (.putfield 21, 3) := by decide +kernel
theorem dX5_init_28 : decode cX5_init 28 = .ok (.aload_n 0, 1) := by decide +kernel
theorem dX5_init_29 : decode cX5_init 29 = .ok (.bipush 8, 2) := by decide +kernel
theorem dX5_init_31 : decode cX5_init 31 = .ok (.newarray .int, 2) := by decide +kernel
theorem dX5_init_33 : decode cX5_init 33 = .ok (.putfield 24, 3) := by decide +kernel
theorem dX5_init_36 : decode cX5_init 36 = .ok (.iconst 0, 1) := by decide +kernel
theorem dX5_init_37 : decode cX5_init 37 = .ok (.istore_n 1, 1) := by decide +kernel
theorem dX5_init_38 : decode cX5_init 38 = .ok (.iload_n 1, 1) := by decide +kernel
theorem dX5_init_39 : decode cX5_init 39 = .ok (.iconst 5, 1) := by decide +kernel
theorem dX5_init_40 : decode cX5_init 40 = .ok (.if_icmp .ge 22, 3) := by decide +kernel
theorem dX5_init_43 : decode cX5_init 43 = .ok (.aload_n 0, 1) := by decide +kernel
theorem dX5_init_44 : decode cX5_init 44 = .ok (.getfield 11, 3) := by decide +kernel
theorem dX5_init_47 : decode cX5_init 47 = .ok (.iload_n 1, 1) := by decide +kernel
theorem dX5_init_48 : decode cX5_init 48 = .ok (.new 9, 3) := by decide +kernel
theorem dX5_init_51 : decode cX5_init 51 = .ok (.dup, 1) := by decide +kernel
theorem dX5_init_52 : decode cX5_init 52 = .ok (.invokespecial 27, 3) := by decide +kernel
theorem dX5_init_55 : decode cX5_init 55 = .ok (.aastore, 1) := by decide +kernel
theorem dX5_init_56 : decode cX5_init 56 = .ok (.iinc 1 1, 3) := by decide +kernel
theorem dX5_init_59 : decode cX5_init 59 = .ok (.goto (-21), 3) := by decide +kernel
theorem dX5_init_62 : decode cX5_init 62 = .ok (.return_, 1) := by decide +kernel
theorem dX5_becomeLike_0 : decode cX5_becomeLike 0 = .ok (.iconst 0, 1) := by decide +kernel
theorem dX5_becomeLike_1 : decode cX5_becomeLike 1 = .ok (.istore_n 2, 1) := by decide +kernel
theorem dX5_becomeLike_2 : decode cX5_becomeLike 2 = .ok (.iload_n 2, 1) := by decide +kernel
theorem dX5_becomeLike_3 : decode cX5_becomeLike 3 = .ok (.aload_n 1, 1) := by decide +kernel
theorem dX5_becomeLike_4 : decode cX5_becomeLike 4 = .ok (.getfield 28, 3) := by decide +kernel
theorem dX5_becomeLike_7 : decode cX5_becomeLike 7 = .ok (.if_icmp .ge 24, 3) := by decide +kernel
theorem dX5_becomeLike_10 : decode cX5_becomeLike 10 = .ok (.aload_n 0, 1) := by decide +kernel
theorem dX5_becomeLike_11 : decode cX5_becomeLike 11 = .ok (.getfield 11, 3) := by decide +kernel
theorem dX5_becomeLike_14 : decode cX5_becomeLike 14 = .ok (.iload_n 2, 1) := by decide +kernel
theorem dX5_becomeLike_15 : decode cX5_becomeLike 15 = .ok (.aaload, 1) := by decide +kernel
theorem dX5_becomeLike_16 : decode cX5_becomeLike 16 = .ok (.aload_n 1, 1) := by decide +kernel
theorem dX5_becomeLike_17 : decode cX5_becomeLike 17 = .ok (.getfield 11, 3) := by decide +kernel
theorem dX5_becomeLike_20 : decode cX5_becomeLike 20 = .ok (.iload_n 2, 1) := by decide +kernel
theorem dX5_becomeLike_21 : decode cX5_becomeLike 21 = .ok (.aaload, 1) := by decide +kernel
theorem dX5_becomeLike_22 : decode cX5_becomeLike 22 = .ok (.invokevirtual 32, 3) := by decide +kernel
theorem dX5_becomeLike_25 : decode cX5_becomeLike 25 = .ok (.iinc 2 1, 3) := by decide +kernel
theorem dX5_becomeLike_28 : decode cX5_becomeLike 28 = .ok (.goto (-26), 3) := by decide +kernel
theorem dX5_becomeLike_31 : decode cX5_becomeLike 31 = .ok (.aload_n 1, 1) := by decide +kernel
theorem dX5_becomeLike_32 : decode cX5_becomeLike 32 = .ok (.getfield 17, 3) := by decide +kernel
theorem dX5_becomeLike_35 : decode cX5_becomeLike 35 = .ok (.iconst 0, 1) := by decide +kernel
theorem dX5_becomeLike_36 : decode cX5_becomeLike 36 = .ok (.aload_n 0, 1) := by decide +kernel
theorem dX5_becomeLike_37 : decode cX5_becomeLike 37 = .ok (.getfield 17, 3) := by decide +kernel
theorem dX5_becomeLike_40 : decode cX5_becomeLike 40 = .ok (.iconst 0, 1) := by decide +kernel
theorem dX5_becomeLike_41 : decode cX5_becomeLike 41 = .ok (.bipush 12, 2) := by decide +kernel
theorem dX5_becomeLike_43 : decode cX5_becomeLike 43 = .ok (.invokestatic 36, 3) := by decide +kernel
theorem dX5_becomeLike_46 : decode cX5_becomeLike 46 = .ok (.aload_n 1, 1) := by decide +kernel
theorem dX5_becomeLike_47 : decode cX5_becomeLike 47 = .ok (.getfield 21, 3) := by decide +kernel
theorem dX5_becomeLike_50 : decode cX5_becomeLike 50 = .ok (.iconst 0, 1) := by decide +kernel
theorem dX5_becomeLike_51 : decode cX5_becomeLike 51 = .ok (.aload_n 0, 1) := by decide +kernel
theorem dX5_becomeLike_52 : decode cX5_becomeLike 52 = .ok (.getfield 21, 3) := by decide +kernel
theorem dX5_becomeLike_55 : decode cX5_becomeLike 55 = .ok (.iconst 0, 1) := by decide +kernel
theorem dX5_becomeLike_56 : decode cX5_becomeLike 56 = .ok (.bipush 8, 2) := by decide +kernel
theorem dX5_becomeLike_58 : decode cX5_becomeLike 58 = .ok (.invokestatic 36, 3) := by decide +kernel
theorem dX5_becomeLike_61 : decode cX5_becomeLike 61 = .ok (.aload_n 1, 1) := by decide +kernel
theorem dX5_becomeLike_62 : decode cX5_becomeLike 62 = .ok (.getfield 24, 3) := by decide +kernel
theorem dX5_becomeLike_65 : decode cX5_becomeLike 65 = .ok (.iconst 0, 1) := by decide +kernel
theorem dX5_becomeLike_66 : decode cX5_becomeLike 66 = .ok (.aload_n 0, 1) := by decide +kernel
theorem dX5_becomeLike_67 : decode cX5_becomeLike 67 = .ok (.getfield 24, 3) := by decide +kernel
theorem dX5_becomeLike_70 : decode cX5_becomeLike 70 = .ok (.iconst 0, 1) := by decide +kernel
theorem dX5_becomeLike_71 : decode cX5_becomeLike 71 = .ok (.bipush 8, 2) := by decide +kernel
theorem dX5_becomeLike_73 : decode cX5_becomeLike 73 = .ok (.invokestatic 36, 3) := by decide +kernel
theorem dX5_becomeLike_76 : decode cX5_becomeLike 76 = .ok (.aload_n 0, 1) := by decide +kernel
theorem dX5_becomeLike_77 : decode cX5_becomeLike 77 = .ok (.aload_n 1, 1) := by decide +kernel
theorem dX5_becomeLike_78 : decode cX5_becomeLike 78 = .ok (.getfield 28, 3) := by decide +kernel
theorem dX5_becomeLike_81 : decode cX5_becomeLike 81 = .ok (.putfield 28, 3) := by decide +kernel
theorem dX5_becomeLike_84 : decode cX5_becomeLike 84 = .ok (.aload_n 0, 1) := by decide +kernel
theorem dX5_becomeLike_85 : decode cX5_becomeLike 85 = .ok (.aload_n 1, 1) := by decide +kernel
theorem dX5_becomeLike_86 : decode cX5_becomeLike 86 = .ok (.getfield 42, 3) := by decide +kernel
theorem dX5_becomeLike_89 : decode cX5_becomeLike 89 = .ok (.putfield 42, 3) := by decide +kernel
theorem dX5_becomeLike_92 : decode cX5_becomeLike 92 = .ok (.aload_n 0, 1) := by decide +kernel
theorem dX5_becomeLike_93 : decode cX5_becomeLike 93 = .ok (.aload_n 1, 1) := by decide +kernel
theorem dX5_becomeLike_94 : decode cX5_becomeLike 94 = .ok (.getfield 45, 3) := by decide +kernel
theorem dX5_becomeLike_97 : decode cX5_becomeLike 97 = .ok (.putfield 45, 3) := by decide +kernel
theorem dX5_becomeLike_100 : decode cX5_becomeLike 100 = .ok (.aload_n 0, 1) := by decide +kernel
theorem dX5_becomeLike_101 : decode cX5_becomeLike 101 = .ok (.aload_n 1, 1) := by decide +kernel
theorem dX5_becomeLike_102 : decode cX5_becomeLike 102 = .ok (.getfield 48, 3) := by decide +kernel
theorem dX5_becomeLike_105 : decode cX5_becomeLike 105 = .ok (.putfield 48, 3) := by decide +kernel
theorem dX5_becomeLike_108 : decode cX5_becomeLike 108 = .ok (.aload_n 0, 1) := by decide +kernel
theorem dX5_becomeLike_109 : decode cX5_becomeLike 109 = .ok (.aload_n 1, 1) := by decide +kernel
theorem dX5_becomeLike_110 : decode cX5_becomeLike 110 = .ok (.getfield 51, 3) := by decide +kernel
theorem dX5_becomeLike_113 : decode cX5_becomeLike 113 = .ok (.putfield 51, 3) := by decide +kernel
theorem dX5_becomeLike_116 : decode cX5_becomeLike 116 = .ok (.aload_n 0, 1) := by decide +kernel
theorem dX5_becomeLike_117 : decode cX5_becomeLike 117 = .ok (.aload_n 1, 1) := by decide +kernel
theorem dX5_becomeLike_118 : decode cX5_becomeLike 118 = .ok (.getfield 54, 3) := by decide +kernel
theorem dX5_becomeLike_121 : decode cX5_becomeLike 121 = .ok (.putfield 54, 3) := by decide +kernel
theorem dX5_becomeLike_124 : decode cX5_becomeLike 124 = .ok (.return_, 1) := by decide +kernel
theorem dX5_hasPerson_0 : decode cX5_hasPerson 0 = .ok (.iload_n 1, 1) := by decide +kernel
theorem dX5_hasPerson_1 : decode cX5_hasPerson 1 = .ok (.iconst 0, 1) := by decide +kernel
theorem dX5_hasPerson_2 : decode cX5_hasPerson 2 = .ok (.aload_n 0, 1) := by decide +kernel
theorem dX5_hasPerson_3 : decode cX5_hasPerson 3 = .ok (.getfield 28, 3) := by decide +kernel
theorem dX5_hasPerson_6 : decode cX5_hasPerson 6 = .ok (.iconst 1, 1) := by decide +kernel
theorem dX5_hasPerson_7 : decode cX5_hasPerson 7 = .ok (.isub, 1) := by decide +kernel
theorem dX5_hasPerson_8 : decode cX5_hasPerson 8 = .ok (.invokestatic 57, 3) := by decide +kernel
theorem dX5_hasPerson_11 : decode cX5_hasPerson 11 = .ok (.ireturn, 1) := by decide +kernel
theorem dX5_hasCoat_0 : decode cX5_hasCoat 0 = .ok (.aload_n 0, 1) := by decide +kernel
theorem dX5_hasCoat_1 : decode cX5_hasCoat 1 = .ok (.iload_n 1, 1) := by decide +kernel
theorem dX5_hasCoat_2 : decode cX5_hasCoat 2 = .ok (.invokevirtual 61, 3) := by decide +kernel
theorem dX5_hasCoat_5 : decode cX5_hasCoat 5 = .ok (.ifCond .eq 26, 3) := by decide +kernel
theorem dX5_hasCoat_8 : decode cX5_hasCoat 8 = .ok (.iload_n 2, 1) := by decide +kernel
theorem dX5_hasCoat_9 : decode cX5_hasCoat 9 = .ok (.iconst 0, 1) := by decide +kernel
theorem dX5_hasCoat_10 : decode cX5_hasCoat 10 = .ok (.aload_n 0, 1) := by decide +kernel
theorem dX5_hasCoat_11 : decode cX5_hasCoat 11 = .ok (.getfield 11, 3) := by decide +kernel
theorem dX5_hasCoat_14 : decode cX5_hasCoat 14 = .ok (.iload_n 1, 1) := by decide +kernel
theorem dX5_hasCoat_15 : decode cX5_hasCoat 15 = .ok (.aaload, 1) := by decide +kernel
theorem dX5_hasCoat_16 : decode cX5_hasCoat 16 = .ok (.getfield 65, 3) := by decide +kernel
theorem dX5_hasCoat_19 : decode cX5_hasCoat 19 = .ok (.iconst 1, 1) := by decide +kernel
theorem dX5_hasCoat_20 : decode cX5_hasCoat 20 = .ok (.isub, 1) := by decide +kernel
theorem dX5_hasCoat_21 : decode cX5_hasCoat 21 = .ok (.invokestatic 57, 3) := by decide +kernel
theorem dX5_hasCoat_24 : decode cX5_hasCoat 24 = .ok (.ifCond .eq 7, 3) := by decide +kernel
theorem dX5_hasCoat_27 : decode cX5_hasCoat 27 = .ok (.iconst 1, 1) := by decide +kernel
theorem dX5_hasCoat_28 : decode cX5_hasCoat 28 = .ok (.goto 4, 3) := by decide +kernel
theorem dX5_hasCoat_31 : decode cX5_hasCoat 31 = .ok (.iconst 0, 1) := by decide +kernel
theorem dX5_hasCoat_32 : decode cX5_hasCoat 32 = .ok (.ireturn, 1) := by decide +kernel
theorem dX5_coatsOfAll_0 : decode cX5_coatsOfAll 0 = .ok (.iconst 0, 1) := by decide +kernel
theorem dX5_coatsOfAll_1 : decode cX5_coatsOfAll 1 = .ok (.istore_n 1, 1) := by decide +kernel
theorem dX5_coatsOfAll_2 : decode cX5_coatsOfAll 2 = .ok (.iconst 0, 1) := by decide +kernel
theorem dX5_coatsOfAll_3 : decode cX5_coatsOfAll 3 = .ok (.istore_n 2, 1) := by decide +kernel
theorem dX5_coatsOfAll_4 : decode cX5_coatsOfAll 4 = .ok (.iload_n 2, 1) := by decide +kernel
theorem dX5_coatsOfAll_5 : decode cX5_coatsOfAll 5 = .ok (.aload_n 0, 1) := by decide +kernel
theorem dX5_coatsOfAll_6 : decode cX5_coatsOfAll 6 = .ok (.getfield 28, 3) := by decide +kernel
theorem dX5_coatsOfAll_9 : decode cX5_coatsOfAll 9 = .ok (.if_icmp .ge 21, 3) := by decide +kernel
theorem dX5_coatsOfAll_12 : decode cX5_coatsOfAll 12 = .ok (.iload_n 1, 1) := by decide +kernel
theorem dX5_coatsOfAll_13 : decode cX5_coatsOfAll 13 = .ok (.aload_n 0, 1) := by decide +kernel
theorem dX5_coatsOfAll_14 : decode cX5_coatsOfAll 14 = .ok (.getfield 11, 3) := by decide +kernel
theorem dX5_coatsOfAll_17 : decode cX5_coatsOfAll 17 = .ok (.iload_n 2, 1) := by decide +kernel
theorem dX5_coatsOfAll_18 : decode cX5_coatsOfAll 18 = .ok (.aaload, 1) := by decide +kernel
theorem dX5_coatsOfAll_19 : decode cX5_coatsOfAll 19 = .ok (.getfield 65, 3) := by decide +kernel
theorem dX5_coatsOfAll_22 : decode cX5_coatsOfAll 22 = .ok (.iadd, 1) := by decide +kernel
theorem dX5_coatsOfAll_23 : decode cX5_coatsOfAll 23 = .ok (.istore_n 1, 1) := by decide +kernel
theorem dX5_coatsOfAll_24 : decode cX5_coatsOfAll 24 = .ok (.iinc 2 1, 3) := by decide +kernel
theorem dX5_coatsOfAll_27 : decode cX5_coatsOfAll 27 = .ok (.goto (-23), 3) := by decide +kernel
theorem dX5_coatsOfAll_30 : decode cX5_coatsOfAll 30 = .ok (.iload_n 1, 1) := by decide +kernel
theorem dX5_coatsOfAll_31 : decode cX5_coatsOfAll 31 = .ok (.ireturn, 1) := by decide +kernel
theorem dX5_fallenOnes_0 : decode cX5_fallenOnes 0 = .ok (.iconst 0, 1) := by decide +kernel
theorem dX5_fallenOnes_1 : decode cX5_fallenOnes 1 = .ok (.istore_n 1, 1) := by decide +kernel
theorem dX5_fallenOnes_2 : decode cX5_fallenOnes 2 = .ok (.iconst 0, 1) := by decide +kernel
theorem dX5_fallenOnes_3 : decode cX5_fallenOnes 3 = .ok (.istore_n 2, 1) := by decide +kernel
theorem dX5_fallenOnes_4 : decode cX5_fallenOnes 4 = .ok (.iload_n 2, 1) := by decide +kernel
theorem dX5_fallenOnes_5 : decode cX5_fallenOnes 5 = .ok (.aload_n 0, 1) := by decide +kernel
theorem dX5_fallenOnes_6 : decode cX5_fallenOnes 6 = .ok (.getfield 28, 3) := by decide +kernel
theorem dX5_fallenOnes_9 : decode cX5_fallenOnes 9 = .ok (.if_icmp .ge 29, 3) := by decide +kernel
theorem dX5_fallenOnes_12 : decode cX5_fallenOnes 12 = .ok (.aload_n 0, 1) := by decide +kernel
theorem dX5_fallenOnes_13 : decode cX5_fallenOnes 13 = .ok (.getfield 11, 3) := by decide +kernel
theorem dX5_fallenOnes_16 : decode cX5_fallenOnes 16 = .ok (.iload_n 2, 1) := by decide +kernel
theorem dX5_fallenOnes_17 : decode cX5_fallenOnes 17 = .ok (.aaload, 1) := by decide +kernel
theorem dX5_fallenOnes_18 : decode cX5_fallenOnes 18 = .ok (.getfield 68, 3) := by decide +kernel
theorem dX5_fallenOnes_21 : decode cX5_fallenOnes 21 = .ok (.bipush (-4), 2) := by decide +kernel
theorem dX5_fallenOnes_23 : decode cX5_fallenOnes 23 = .ok (.if_icmp .eq 9, 3) := by decide +kernel
theorem dX5_fallenOnes_26 : decode cX5_fallenOnes 26 = .ok (.iload_n 1, 1) := by decide +kernel
theorem dX5_fallenOnes_27 : decode cX5_fallenOnes 27 = .ok (.iconst 1, 1) := by decide +kernel
theorem dX5_fallenOnes_28 : decode cX5_fallenOnes 28 = .ok (.iload_n 2, 1) := by decide +kernel
theorem dX5_fallenOnes_29 : decode cX5_fallenOnes 29 = .ok (.ishl, 1) := by decide +kernel
theorem dX5_fallenOnes_30 : decode cX5_fallenOnes 30 = .ok (.ior, 1) := by decide +kernel
theorem dX5_fallenOnes_31 : decode cX5_fallenOnes 31 = .ok (.istore_n 1, 1) := by decide +kernel
theorem dX5_fallenOnes_32 : decode cX5_fallenOnes 32 = .ok (.iinc 2 1, 3) := by decide +kernel
theorem dX5_fallenOnes_35 : decode cX5_fallenOnes 35 = .ok (.goto (-31), 3) := by decide +kernel
theorem dX5_fallenOnes_38 : decode cX5_fallenOnes 38 = .ok (.iload_n 1, 1) := by decide +kernel
theorem dX5_fallenOnes_39 : decode cX5_fallenOnes 39 = .ok (.ireturn, 1) := by decide +kernel
theorem dX5_heatOn_0 : decode cX5_heatOn 0 = .ok (.iload_n 1, 1) := by decide +kernel
theorem dX5_heatOn_1 : decode cX5_heatOn 1 = .ok (.bipush 30, 2) := by decide +kernel
theorem dX5_heatOn_3 : decode cX5_heatOn 3 = .ok (.idiv, 1) := by decide +kernel
theorem dX5_heatOn_4 : decode cX5_heatOn 4 = .ok (.istore_n 2, 1) := by decide +kernel
theorem dX5_heatOn_5 : decode cX5_heatOn 5 = .ok (.iload_n 2, 1) := by decide +kernel
theorem dX5_heatOn_6 : decode cX5_heatOn 6 = .ok (.iconst 0, 1) := by decide +kernel
theorem dX5_heatOn_7 : decode cX5_heatOn 7 = .ok (.bipush 11, 2) := by decide +kernel
theorem dX5_heatOn_9 : decode cX5_heatOn 9 = .ok (.invokestatic 57, 3) := by decide +kernel
theorem dX5_heatOn_12 : decode cX5_heatOn 12 = .ok (.ifCond .eq 12, 3) := by decide +kernel
theorem dX5_heatOn_15 : decode cX5_heatOn 15 = .ok (.aload_n 0, 1) := by decide +kernel
theorem dX5_heatOn_16 : decode cX5_heatOn 16 = .ok (.getfield 17, 3) := by decide +kernel
theorem dX5_heatOn_19 : decode cX5_heatOn 19 = .ok (.iload_n 2, 1) := by decide +kernel
theorem dX5_heatOn_20 : decode cX5_heatOn 20 = .ok (.iaload, 1) := by decide +kernel
theorem dX5_heatOn_21 : decode cX5_heatOn 21 = .ok (.goto 4, 3) := by decide +kernel
theorem dX5_heatOn_24 : decode cX5_heatOn 24 = .ok (.iconst 0, 1) := by decide +kernel
theorem dX5_heatOn_25 : decode cX5_heatOn 25 = .ok (.ireturn, 1) := by decide +kernel
theorem dX5_passNightsUntil_0 : decode cX5_passNightsUntil 0 = .ok (.aload_n 0, 1) := by decide +kernel
theorem dX5_passNightsUntil_1 : decode cX5_passNightsUntil 1 = .ok (.getfield 45, 3) := by decide +kernel
theorem dX5_passNightsUntil_4 : decode cX5_passNightsUntil 4 = .ok (.istore_n 2, 1) := by decide +kernel
theorem dX5_passNightsUntil_5 : decode cX5_passNightsUntil 5 = .ok (.iload_n 2, 1) := by decide +kernel
theorem dX5_passNightsUntil_6 : decode cX5_passNightsUntil 6 = .ok (.iload_n 1, 1) := by decide +kernel
theorem dX5_passNightsUntil_7 : decode cX5_passNightsUntil 7 = .ok (.if_icmp .ge 13, 3) := by decide +kernel
theorem dX5_passNightsUntil_10 : decode cX5_passNightsUntil 10 = .ok (.aload_n 0, 1) := by decide +kernel
theorem dX5_passNightsUntil_11 : decode cX5_passNightsUntil 11 = .ok (.invokevirtual 71, 3) := by decide +kernel
theorem dX5_passNightsUntil_14 : decode cX5_passNightsUntil 14 = .ok (.iinc 2 1, 3) := by decide +kernel
theorem dX5_passNightsUntil_17 : decode cX5_passNightsUntil 17 = .ok (.goto (-12), 3) := by decide +kernel
theorem dX5_passNightsUntil_20 : decode cX5_passNightsUntil 20 = .ok (.return_, 1) := by decide +kernel
theorem dX5_passNight_0 : decode cX5_passNight 0 = .ok (.aload_n 0, 1) := by decide +kernel
theorem dX5_passNight_1 : decode cX5_passNight 1 = .ok (.dup, 1) := by decide +kernel
theorem dX5_passNight_2 : decode cX5_passNight 2 = .ok (.getfield 45, 3) := by decide +kernel
theorem dX5_passNight_5 : decode cX5_passNight 5 = .ok (.iconst 1, 1) := by decide +kernel
theorem dX5_passNight_6 : decode cX5_passNight 6 = .ok (.iadd, 1) := by decide +kernel
theorem dX5_passNight_7 : decode cX5_passNight 7 = .ok (.putfield 45, 3) := by decide +kernel
theorem dX5_passNight_10 : decode cX5_passNight 10 = .ok (.iconst 0, 1) := by decide +kernel
theorem dX5_passNight_11 : decode cX5_passNight 11 = .ok (.istore_n 1, 1) := by decide +kernel
theorem dX5_passNight_12 : decode cX5_passNight 12 = .ok (.iload_n 1, 1) := by decide +kernel
theorem dX5_passNight_13 : decode cX5_passNight 13 = .ok (.aload_n 0, 1) := by decide +kernel
theorem dX5_passNight_14 : decode cX5_passNight 14 = .ok (.getfield 28, 3) := by decide +kernel
theorem dX5_passNight_17 : decode cX5_passNight 17 = .ok (.if_icmp .ge 51, 3) := by decide +kernel
theorem dX5_passNight_20 : decode cX5_passNight 20 = .ok (.aload_n 0, 1) := by decide +kernel
theorem dX5_passNight_21 : decode cX5_passNight 21 = .ok (.getfield 11, 3) := by decide +kernel
theorem dX5_passNight_24 : decode cX5_passNight 24 = .ok (.iload_n 1, 1) := by decide +kernel
theorem dX5_passNight_25 : decode cX5_passNight 25 = .ok (.aaload, 1) := by decide +kernel
theorem dX5_passNight_26 : decode cX5_passNight 26 = .ok (.invokevirtual 74, 3) := by decide +kernel
theorem dX5_passNight_29 : decode cX5_passNight 29 = .ok (.aload_n 0, 1) := by decide +kernel
theorem dX5_passNight_30 : decode cX5_passNight 30 = .ok (.getfield 11, 3) := by decide +kernel
theorem dX5_passNight_33 : decode cX5_passNight 33 = .ok (.iload_n 1, 1) := by decide +kernel
theorem dX5_passNight_34 : decode cX5_passNight 34 = .ok (.aaload, 1) := by decide +kernel
theorem dX5_passNight_35 : decode cX5_passNight 35 = .ok (.aload_n 0, 1) := by decide +kernel
theorem dX5_passNight_36 : decode cX5_passNight 36 = .ok (.aload_n 0, 1) := by decide +kernel
theorem dX5_passNight_37 : decode cX5_passNight 37 = .ok (.getfield 45, 3) := by decide +kernel
theorem dX5_passNight_40 : decode cX5_passNight 40 = .ok (.invokevirtual 75, 3) := by decide +kernel
theorem dX5_passNight_43 : decode cX5_passNight 43 = .ok (.invokevirtual 79, 3) := by decide +kernel
theorem dX5_passNight_46 : decode cX5_passNight 46 = .ok (.ifCond .eq 16, 3) := by decide +kernel
theorem dX5_passNight_49 : decode cX5_passNight 49 = .ok (.aload_n 0, 1) := by decide +kernel
theorem dX5_passNight_50 : decode cX5_passNight 50 = .ok (.getfield 11, 3) := by decide +kernel
theorem dX5_passNight_53 : decode cX5_passNight 53 = .ok (.iload_n 1, 1) := by decide +kernel
theorem dX5_passNight_54 : decode cX5_passNight 54 = .ok (.aaload, 1) := by decide +kernel
theorem dX5_passNight_55 : decode cX5_passNight 55 = .ok (.aload_n 0, 1) := by decide +kernel
theorem dX5_passNight_56 : decode cX5_passNight 56 = .ok (.getfield 45, 3) := by decide +kernel
theorem dX5_passNight_59 : decode cX5_passNight 59 = .ok (.invokevirtual 82, 3) := by decide +kernel
theorem dX5_passNight_62 : decode cX5_passNight 62 = .ok (.iinc 1 1, 3) := by decide +kernel
theorem dX5_passNight_65 : decode cX5_passNight 65 = .ok (.goto (-53), 3) := by decide +kernel
theorem dX5_passNight_68 : decode cX5_passNight 68 = .ok (.return_, 1) := by decide +kernel
theorem dX5_canBePaid_0 : decode cX5_canBePaid 0 = .ok (.iload_n 1, 1) := by decide +kernel
theorem dX5_canBePaid_1 : decode cX5_canBePaid 1 = .ok (.aload_n 0, 1) := by decide +kernel
theorem dX5_canBePaid_2 : decode cX5_canBePaid 2 = .ok (.getfield 45, 3) := by decide +kernel
theorem dX5_canBePaid_5 : decode cX5_canBePaid 5 = .ok (.sipush 359, 3) := by decide +kernel
theorem dX5_canBePaid_8 : decode cX5_canBePaid 8 = .ok (.invokestatic 57, 3) := by decide +kernel
theorem dX5_canBePaid_11 : decode cX5_canBePaid 11 = .ok (.ifCond .eq 12, 3) := by decide +kernel
theorem dX5_canBePaid_14 : decode cX5_canBePaid 14 = .ok (.aload_n 0, 1) := by decide +kernel
theorem dX5_canBePaid_15 : decode cX5_canBePaid 15 = .ok (.iload_n 2, 1) := by decide +kernel
theorem dX5_canBePaid_16 : decode cX5_canBePaid 16 = .ok (.iload_n 3, 1) := by decide +kernel
theorem dX5_canBePaid_17 : decode cX5_canBePaid 17 = .ok (.invokevirtual 86, 3) := by decide +kernel
theorem dX5_canBePaid_20 : decode cX5_canBePaid 20 = .ok (.ifCond .ne 5, 3) := by decide +kernel
theorem dX5_canBePaid_23 : decode cX5_canBePaid 23 = .ok (.iconst 0, 1) := by decide +kernel
theorem dX5_canBePaid_24 : decode cX5_canBePaid 24 = .ok (.ireturn, 1) := by decide +kernel
theorem dX5_canBePaid_25 : decode cX5_canBePaid 25 = .ok (.aload_n 0, 1) := by decide +kernel
theorem dX5_canBePaid_26 : decode cX5_canBePaid 26 = .ok (.iload_n 1, 1) := by decide +kernel
theorem dX5_canBePaid_27 : decode cX5_canBePaid 27 = .ok (.invokevirtual 90, 3) := by decide +kernel
theorem dX5_canBePaid_30 : decode cX5_canBePaid 30 = .ok (.aload_n 0, 1) := by decide +kernel
theorem dX5_canBePaid_31 : decode cX5_canBePaid 31 = .ok (.getfield 11, 3) := by decide +kernel
theorem dX5_canBePaid_34 : decode cX5_canBePaid 34 = .ok (.iload_n 2, 1) := by decide +kernel
theorem dX5_canBePaid_35 : decode cX5_canBePaid 35 = .ok (.aaload, 1) := by decide +kernel
theorem dX5_canBePaid_36 : decode cX5_canBePaid 36 = .ok (.astore 4, 2) := by decide +kernel
theorem dX5_canBePaid_38 : decode cX5_canBePaid 38 = .ok (.aload_n 0, 1) := by decide +kernel
theorem dX5_canBePaid_39 : decode cX5_canBePaid 39 = .ok (.getfield 48, 3) := by decide +kernel
theorem dX5_canBePaid_42 : decode cX5_canBePaid 42 = .ok (.aload 4, 2) := by decide +kernel
theorem dX5_canBePaid_44 : decode cX5_canBePaid 44 = .ok (.invokevirtual 93, 3) := by decide +kernel
theorem dX5_canBePaid_47 : decode cX5_canBePaid 47 = .ok (.iload_n 3, 1) := by decide +kernel
theorem dX5_canBePaid_48 : decode cX5_canBePaid 48 = .ok (.invokestatic 97, 3) := by decide +kernel
theorem dX5_canBePaid_51 : decode cX5_canBePaid 51 = .ok (.ifCond .eq 18, 3) := by decide +kernel
theorem dX5_canBePaid_54 : decode cX5_canBePaid 54 = .ok (.aload 4, 2) := by decide +kernel
theorem dX5_canBePaid_56 : decode cX5_canBePaid 56 = .ok (.getfield 100, 3) := by decide +kernel
theorem dX5_canBePaid_59 : decode cX5_canBePaid 59 = .ok (.aload 4, 2) := by decide +kernel
theorem dX5_canBePaid_61 : decode cX5_canBePaid 61 = .ok (.getfield 103, 3) := by decide +kernel
theorem dX5_canBePaid_64 : decode cX5_canBePaid 64 = .ok (.iload_n 3, 1) := by decide +kernel
theorem dX5_canBePaid_65 : decode cX5_canBePaid 65 = .ok (.iaload, 1) := by decide +kernel
theorem dX5_canBePaid_66 : decode cX5_canBePaid 66 = .ok (.if_icmp .ge 5, 3) := by decide +kernel
theorem dX5_canBePaid_69 : decode cX5_canBePaid 69 = .ok (.iconst 0, 1) := by decide +kernel
theorem dX5_canBePaid_70 : decode cX5_canBePaid 70 = .ok (.ireturn, 1) := by decide +kernel
theorem dX5_canBePaid_71 : decode cX5_canBePaid 71 = .ok (.aload 4, 2) := by decide +kernel
theorem dX5_canBePaid_73 : decode cX5_canBePaid 73 = .ok (.iload_n 3, 1) := by decide +kernel
theorem dX5_canBePaid_74 : decode cX5_canBePaid 74 = .ok (.invokevirtual 106, 3) := by decide +kernel
theorem dX5_canBePaid_77 : decode cX5_canBePaid 77 = .ok (.iconst 1, 1) := by decide +kernel
theorem dX5_canBePaid_78 : decode cX5_canBePaid 78 = .ok (.ireturn, 1) := by decide +kernel
theorem dX5_isSetOfWares_0 : decode cX5_isSetOfWares 0 = .ok (.iconst 0, 1) := by decide +kernel
theorem dX5_isSetOfWares_1 : decode cX5_isSetOfWares 1 = .ok (.istore 4, 2) := by decide +kernel
theorem dX5_isSetOfWares_3 : decode cX5_isSetOfWares 3 = .ok (.iconst 0, 1) := by decide +kernel
theorem dX5_isSetOfWares_4 : decode cX5_isSetOfWares 4 = .ok (.istore 5, 2) := by decide +kernel
theorem dX5_isSetOfWares_6 : decode cX5_isSetOfWares 6 = .ok (.iconst 0, 1) := by decide +kernel
theorem dX5_isSetOfWares_7 : decode cX5_isSetOfWares 7 = .ok (.istore 6, 2) := by decide +kernel
theorem dX5_isSetOfWares_9 : decode cX5_isSetOfWares 9 = .ok (.iload 6, 2) := by decide +kernel
theorem dX5_isSetOfWares_11 : decode cX5_isSetOfWares 11 = .ok (.aload_n 0, 1) := by decide +kernel
theorem dX5_isSetOfWares_12 : decode cX5_isSetOfWares 12 = .ok (.getfield 42, 3) := by decide +kernel
theorem dX5_isSetOfWares_15 : decode cX5_isSetOfWares 15 = .ok (.if_icmp .ge 42, 3) := by decide +kernel
theorem dX5_isSetOfWares_18 : decode cX5_isSetOfWares 18 = .ok (.iload_n 1, 1) := by decide +kernel
theorem dX5_isSetOfWares_19 : decode cX5_isSetOfWares 19 = .ok (.iload 6, 2) := by decide +kernel
theorem dX5_isSetOfWares_21 : decode cX5_isSetOfWares 21 = .ok (.invokestatic 109, 3) := by decide +kernel
theorem dX5_isSetOfWares_24 : decode cX5_isSetOfWares 24 = .ok (.ifCond .eq 27, 3) := by decide +kernel
theorem dX5_isSetOfWares_27 : decode cX5_isSetOfWares 27 = .ok (.iload 4, 2) := by decide +kernel
theorem dX5_isSetOfWares_29 : decode cX5_isSetOfWares 29 = .ok (.aload_n 0, 1) := by decide +kernel
theorem dX5_isSetOfWares_30 : decode cX5_isSetOfWares 30 = .ok (.getfield 24, 3) := by decide +kernel
theorem dX5_isSetOfWares_33 : decode cX5_isSetOfWares 33 = .ok (.iload 6, 2) := by decide +kernel
theorem dX5_isSetOfWares_35 : decode cX5_isSetOfWares 35 = .ok (.iaload, 1) := by decide +kernel
theorem dX5_isSetOfWares_36 : decode cX5_isSetOfWares 36 = .ok (.iadd, 1) := by decide +kernel
theorem dX5_isSetOfWares_37 : decode cX5_isSetOfWares 37 = .ok (.istore 4, 2) := by decide +kernel
theorem dX5_isSetOfWares_39 : decode cX5_isSetOfWares 39 = .ok (.iload 5, 2) := by decide +kernel
theorem dX5_isSetOfWares_41 : decode cX5_isSetOfWares 41 = .ok (.aload_n 0, 1) := by decide +kernel
theorem dX5_isSetOfWares_42 : decode cX5_isSetOfWares 42 = .ok (.getfield 21, 3) := by decide +kernel
theorem dX5_isSetOfWares_45 : decode cX5_isSetOfWares 45 = .ok (.iload 6, 2) := by decide +kernel
theorem dX5_isSetOfWares_47 : decode cX5_isSetOfWares 47 = .ok (.iaload, 1) := by decide +kernel
theorem dX5_isSetOfWares_48 : decode cX5_isSetOfWares 48 = .ok (.iadd, 1) := by decide +kernel
theorem dX5_isSetOfWares_49 : decode cX5_isSetOfWares 49 = .ok (.istore 5, 2) := by decide +kernel
theorem dX5_isSetOfWares_51 : decode cX5_isSetOfWares 51 = .ok (.iinc 6 1, 3) := by decide +kernel
theorem dX5_isSetOfWares_54 : decode cX5_isSetOfWares 54 = .ok (.goto (-45), 3) := by decide +kernel
theorem dX5_isSetOfWares_57 : decode cX5_isSetOfWares 57 = .ok (.iload 4, 2) := by decide +kernel
theorem dX5_isSetOfWares_59 : decode cX5_isSetOfWares 59 = .ok (.iload_n 2, 1) := by decide +kernel
theorem dX5_isSetOfWares_60 : decode cX5_isSetOfWares 60 = .ok (.if_icmp .ne 13, 3) := by decide +kernel
theorem dX5_isSetOfWares_63 : decode cX5_isSetOfWares 63 = .ok (.iload 5, 2) := by decide +kernel
theorem dX5_isSetOfWares_65 : decode cX5_isSetOfWares 65 = .ok (.iload_n 3, 1) := by decide +kernel
theorem dX5_isSetOfWares_66 : decode cX5_isSetOfWares 66 = .ok (.if_icmp .ne 7, 3) := by decide +kernel
theorem dX5_isSetOfWares_69 : decode cX5_isSetOfWares 69 = .ok (.iconst 1, 1) := by decide +kernel
theorem dX5_isSetOfWares_70 : decode cX5_isSetOfWares 70 = .ok (.goto 4, 3) := by decide +kernel
theorem dX5_isSetOfWares_73 : decode cX5_isSetOfWares 73 = .ok (.iconst 0, 1) := by decide +kernel
theorem dX5_isSetOfWares_74 : decode cX5_isSetOfWares 74 = .ok (.ireturn, 1) := by decide +kernel
end
section
theorem dX6_isWithin_0 : decode cX6_isWithin 0 = .ok (.iload_n 0, 1) := by decide +kernel
theorem dX6_isWithin_1 : decode cX6_isWithin 1 = .ok (.iload_n 1, 1) := by decide +kernel
theorem dX6_isWithin_2 : decode cX6_isWithin 2 = .ok (.if_icmp .lt 12, 3) := by decide +kernel
theorem dX6_isWithin_5 : decode cX6_isWithin 5 = .ok (.iload_n 0, 1) := by decide +kernel
theorem dX6_isWithin_6 : decode cX6_isWithin 6 = .ok (.iload_n 2, 1) := by decide +kernel
theorem dX6_isWithin_7 : decode cX6_isWithin 7 = .ok (.if_icmp .gt 7, 3) := by decide +kernel
theorem dX6_isWithin_10 : decode cX6_isWithin 10 = .ok (.iconst 1, 1) := by decide +kernel
theorem dX6_isWithin_11 : decode cX6_isWithin 11 = .ok (.goto 4, 3) := by decide +kernel
theorem dX6_isWithin_14 : decode cX6_isWithin 14 = .ok (.iconst 0, 1) := by decide +kernel
theorem dX6_isWithin_15 : decode cX6_isWithin 15 = .ok (.ireturn, 1) := by decide +kernel
theorem dX6_isLender_0 : decode cX6_isLender 0 = .ok (.iload_n 0, 1) := by decide +kernel
theorem dX6_isLender_1 : decode cX6_isLender 1 = .ok (.iconst 0, 1) := by decide +kernel
theorem dX6_isLender_2 : decode cX6_isLender 2 = .ok (.iconst 4, 1) := by decide +kernel
theorem dX6_isLender_3 : decode cX6_isLender 3 = .ok (.invokestatic 61, 3) := by decide +kernel
theorem dX6_isLender_6 : decode cX6_isLender 6 = .ok (.ireturn, 1) := by decide +kernel
theorem dX6_isSheet_0 : decode cX6_isSheet 0 = .ok (.iload_n 0, 1) := by decide +kernel
theorem dX6_isSheet_1 : decode cX6_isSheet 1 = .ok (.iconst 0, 1) := by decide +kernel
theorem dX6_isSheet_2 : decode cX6_isSheet 2 = .ok (.iconst 3, 1) := by decide +kernel
theorem dX6_isSheet_3 : decode cX6_isSheet 3 = .ok (.invokestatic 61, 3) := by decide +kernel
theorem dX6_isSheet_6 : decode cX6_isSheet 6 = .ok (.ireturn, 1) := by decide +kernel
theorem dX6_isLane_0 : decode cX6_isLane 0 = .ok (.iload_n 0, 1) := by decide +kernel
theorem dX6_isLane_1 : decode cX6_isLane 1 = .ok (.iconst 0, 1) := by decide +kernel
theorem dX6_isLane_2 : decode cX6_isLane 2 = .ok (.iconst 2, 1) := by decide +kernel
theorem dX6_isLane_3 : decode cX6_isLane 3 = .ok (.invokestatic 61, 3) := by decide +kernel
theorem dX6_isLane_6 : decode cX6_isLane 6 = .ok (.ireturn, 1) := by decide +kernel
theorem dX6_isIn_0 : decode cX6_isIn 0 = .ok (.iload_n 0, 1) := by decide +kernel
theorem dX6_isIn_1 : decode cX6_isIn 1 = .ok (.iload_n 1, 1) := by decide +kernel
theorem dX6_isIn_2 : decode cX6_isIn 2 = .ok (.ishr, 1) := by decide +kernel
theorem dX6_isIn_3 : decode cX6_isIn 3 = .ok (.iconst 1, 1) := by decide +kernel
theorem dX6_isIn_4 : decode cX6_isIn 4 = .ok (.iand, 1) := by decide +kernel
theorem dX6_isIn_5 : decode cX6_isIn 5 = .ok (.ifCond .eq 7, 3) := by decide +kernel
theorem dX6_isIn_8 : decode cX6_isIn 8 = .ok (.iconst 1, 1) := by decide +kernel
theorem dX6_isIn_9 : decode cX6_isIn 9 = .ok (.goto 4, 3) := by decide +kernel
theorem dX6_isIn_12 : decode cX6_isIn 12 = .ok (.iconst 0, 1) := by decide +kernel
theorem dX6_isIn_13 : decode cX6_isIn 13 = .ok (.ireturn, 1) := by decide +kernel
theorem dX6_mayComeOff_0 : decode cX6_mayComeOff 0 = .ok (.iload_n 1, 1) := by decide +kernel
theorem dX6_mayComeOff_1 : decode cX6_mayComeOff 1 = .ok (.iconst 1, 1) := by decide +kernel
theorem dX6_mayComeOff_2 : decode cX6_mayComeOff 2 = .ok (.iload_n 2, 1) := by decide +kernel
theorem dX6_mayComeOff_3 : decode cX6_mayComeOff 3 = .ok (.ishl, 1) := by decide +kernel
theorem dX6_mayComeOff_4 : decode cX6_mayComeOff 4 = .ok (.iconst 1, 1) := by decide +kernel
theorem dX6_mayComeOff_5 : decode cX6_mayComeOff 5 = .ok (.isub, 1) := by decide +kernel
theorem dX6_mayComeOff_6 : decode cX6_mayComeOff 6 = .ok (.iand, 1) := by decide +kernel
theorem dX6_mayComeOff_7 : decode cX6_mayComeOff 7 = .ok (.ifCond .ne 7, 3) := by decide +kernel
theorem dX6_mayComeOff_10 : decode cX6_mayComeOff 10 = .ok (.iconst 1, 1) := by decide +kernel
theorem dX6_mayComeOff_11 : decode cX6_mayComeOff 11 = .ok (.goto 4, 3) := by decide +kernel
theorem dX6_mayComeOff_14 : decode cX6_mayComeOff 14 = .ok (.iconst 0, 1) := by decide +kernel
theorem dX6_mayComeOff_15 : decode cX6_mayComeOff 15 = .ok (.istore_n 3, 1) := by decide +kernel
theorem dX6_mayComeOff_16 : decode cX6_mayComeOff 16 = .ok (.iload_n 1, 1) := by decide +kernel
theorem dX6_mayComeOff_17 : decode cX6_mayComeOff 17 = .ok (.iload_n 2, 1) := by decide +kernel
theorem dX6_mayComeOff_18 : decode cX6_mayComeOff 18 = .ok (.iconst 1, 1) := by decide +kernel
theorem dX6_mayComeOff_19 : decode cX6_mayComeOff 19 = .ok (.iadd, 1) := by decide +kernel
theorem dX6_mayComeOff_20 : decode cX6_mayComeOff 20 = .ok (.ishr, 1) := by decide +kernel
theorem dX6_mayComeOff_21 : decode cX6_mayComeOff 21 = .ok (.ifCond .ne 7, 3) := by decide +kernel
theorem dX6_mayComeOff_24 : decode cX6_mayComeOff 24 = .ok (.iconst 1, 1) := by decide +kernel
theorem dX6_mayComeOff_25 : decode cX6_mayComeOff 25 = .ok (.goto 4, 3) := by decide +kernel
theorem dX6_mayComeOff_28 : decode cX6_mayComeOff 28 = .ok (.iconst 0, 1) := by decide +kernel
theorem dX6_mayComeOff_29 : decode cX6_mayComeOff 29 = .ok (.istore 4, 2) := by decide +kernel
theorem dX6_mayComeOff_31 : decode cX6_mayComeOff 31 = .ok (.iload_n 0, 1) := by decide +kernel
theorem dX6_mayComeOff_32 : decode cX6_mayComeOff 32 = .ok (.ifCond .ne 6, 3) := by decide +kernel
theorem dX6_mayComeOff_35 : decode cX6_mayComeOff 35 = .ok (.iload 4, 2) := by decide +kernel
theorem dX6_mayComeOff_37 : decode cX6_mayComeOff 37 = .ok (.ireturn, 1) := by decide +kernel
theorem dX6_mayComeOff_38 : decode cX6_mayComeOff 38 = .ok (.iload_n 0, 1) := by decide +kernel
theorem dX6_mayComeOff_39 : decode cX6_mayComeOff 39 = .ok (.iconst 1, 1) := by decide +kernel
theorem dX6_mayComeOff_40 : decode cX6_mayComeOff 40 = .ok (.if_icmp .ne 5, 3) := by decide +kernel
theorem dX6_mayComeOff_43 : decode cX6_mayComeOff 43 = .ok (.iload_n 3, 1) := by decide +kernel
theorem dX6_mayComeOff_44 : decode cX6_mayComeOff 44 = .ok (.ireturn, 1) := by decide +kernel
theorem dX6_mayComeOff_45 : decode cX6_mayComeOff 45 = .ok (.iload_n 3, 1) := by decide +kernel
theorem dX6_mayComeOff_46 : decode cX6_mayComeOff 46 = .ok (.ifCond .eq 8, 3) := by decide +kernel
theorem dX6_mayComeOff_49 : decode cX6_mayComeOff 49 = .ok (.iload 4, 2) := by decide +kernel
theorem dX6_mayComeOff_51 : decode cX6_mayComeOff 51 = .ok (.ifCond .eq 7, 3) := by decide +kernel
theorem dX6_mayComeOff_54 : decode cX6_mayComeOff 54 = .ok (.iconst 1, 1) := by decide +kernel
theorem dX6_mayComeOff_55 : decode cX6_mayComeOff 55 = .ok (.goto 4, 3) := by decide +kernel
theorem dX6_mayComeOff_58 : decode cX6_mayComeOff 58 = .ok (.iconst 0, 1) := by decide +kernel
theorem dX6_mayComeOff_59 : decode cX6_mayComeOff 59 = .ok (.ireturn, 1) := by decide +kernel
theorem dX6_amountNextDay_0 : decode cX6_amountNextDay 0 = .ok (.iload_n 0, 1) := by decide +kernel
theorem dX6_amountNextDay_1 : decode cX6_amountNextDay 1 = .ok (.iload_n 0, 1) := by decide +kernel
theorem dX6_amountNextDay_2 : decode cX6_amountNextDay 2 = .ok (.iload_n 1, 1) := by decide +kernel
theorem dX6_amountNextDay_3 : decode cX6_amountNextDay 3 = .ok (.imul, 1) := by decide +kernel
theorem dX6_amountNextDay_4 : decode cX6_amountNextDay 4 = .ok (.bipush 100, 2) := by decide +kernel
theorem dX6_amountNextDay_6 : decode cX6_amountNextDay 6 = .ok (.idiv, 1) := by decide +kernel
theorem dX6_amountNextDay_7 : decode cX6_amountNextDay 7 = .ok (.iadd, 1) := by decide +kernel
theorem dX6_amountNextDay_8 : decode cX6_amountNextDay 8 = .ok (.ldc 180, 2) := by decide +kernel
theorem dX6_amountNextDay_10 : decode cX6_amountNextDay 10 = .ok (.invokestatic 101, 3) := by decide +kernel
theorem dX6_amountNextDay_13 : decode cX6_amountNextDay 13 = .ok (.ireturn, 1) := by decide +kernel
theorem dX6_purseNextDay_0 : decode cX6_purseNextDay 0 = .ok (.iload_n 0, 1) := by decide +kernel
theorem dX6_purseNextDay_1 : decode cX6_purseNextDay 1 = .ok (.iload_n 1, 1) := by decide +kernel
theorem dX6_purseNextDay_2 : decode cX6_purseNextDay 2 = .ok (.iadd, 1) := by decide +kernel
theorem dX6_purseNextDay_3 : decode cX6_purseNextDay 3 = .ok (.ldc 180, 2) := by decide +kernel
theorem dX6_purseNextDay_5 : decode cX6_purseNextDay 5 = .ok (.invokestatic 101, 3) := by decide +kernel
theorem dX6_purseNextDay_8 : decode cX6_purseNextDay 8 = .ok (.iload_n 2, 1) := by decide +kernel
theorem dX6_purseNextDay_9 : decode cX6_purseNextDay 9 = .ok (.isub, 1) := by decide +kernel
theorem dX6_purseNextDay_10 : decode cX6_purseNextDay 10 = .ok (.iconst 0, 1) := by decide +kernel
theorem dX6_purseNextDay_11 : decode cX6_purseNextDay 11 = .ok (.invokestatic 299, 3) := by decide +kernel
theorem dX6_purseNextDay_14 : decode cX6_purseNextDay 14 = .ok (.ireturn, 1) := by decide +kernel
theorem dJ7_fill_53178_0 : decode cJ7_fill_53178 0 = .ok (.iconst 0, 1) := by decide +kernel
theorem dJ7_fill_53178_1 : decode cJ7_fill_53178 1 = .ok (.istore_n 2, 1) := by decide +kernel
theorem dJ7_fill_53178_2 : decode cJ7_fill_53178 2 = .ok (.aload_n 0, 1) := by decide +kernel
theorem dJ7_fill_53178_3 : decode cJ7_fill_53178 3 = .ok (.arraylength, 1) := by decide +kernel
theorem dJ7_fill_53178_4 : decode cJ7_fill_53178 4 = .ok (.istore_n 3, 1) := by decide +kernel
theorem dJ7_fill_53178_5 : decode cJ7_fill_53178 5 = .ok (.iload_n 2, 1) := by decide +kernel
theorem dJ7_fill_53178_6 : decode cJ7_fill_53178 6 = .ok (.iload_n 3, 1) := by decide +kernel
theorem dJ7_fill_53178_7 : decode cJ7_fill_53178 7 = .ok (.if_icmp .ge 13, 3) := by decide +kernel
theorem dJ7_fill_53178_10 : decode cJ7_fill_53178 10 = .ok (.aload_n 0, 1) := by decide +kernel
theorem dJ7_fill_53178_11 : decode cJ7_fill_53178 11 = .ok (.iload_n 2, 1) := by decide +kernel
theorem dJ7_fill_53178_12 : decode cJ7_fill_53178 12 = .ok (.iload_n 1, 1) := by decide +kernel
theorem dJ7_fill_53178_13 : decode cJ7_fill_53178 13 = .ok (.iastore, 1) := by decide +kernel
theorem dJ7_fill_53178_14 : decode cJ7_fill_53178 14 = .ok (.iinc 2 1, 3) := by decide +kernel
theorem dJ7_fill_53178_17 : decode cJ7_fill_53178 17 = .ok (.goto (-12), 3) := by decide +kernel
theorem dJ7_fill_53178_20 : decode cJ7_fill_53178 20 = .ok (.return_, 1) := by decide +kernel
end
section
/-! ===== sums ===== -/
def sumF (f : Nat → Int32) : Nat → Int32
  | 0 => 0
  | n + 1 => sumF f n + f n
theorem inA_n {sh : List Shp} {k n i : Nat} (h : sh[k]? = some (.inr (0, n))) (hi : i < n) (hn : n < 2 ^ 31) : inA sh k (nI i) := ⟨n, h, vp_in_nI hi hn⟩
theorem nI_le_iff {a b : Nat} (ha : a < 2 ^ 31) (hb : b < 2 ^ 31) : nI a ≤ nI b ↔ a ≤ b := by
  rw [Int32.le_iff_toInt_le, nI_toInt ha, nI_toInt hb]; omega
theorem nI_lt_iff {a b : Nat} (ha : a < 2 ^ 31) (hb : b < 2 ^ 31) : nI a < nI b ↔ a < b := by
  rw [Int32.lt_iff_toInt_lt, nI_toInt ha, nI_toInt hb]; omega
end
section
/-! ===== the static helpers ===== -/
def b2i (P : Prop) [Decidable P] : Int32 := if P then 1 else 0
theorem b2i_t {P : Prop} [Decidable P] (h : P) : b2i P = 1 := if_pos h
theorem b2i_f {P : Prop} [Decidable P] (h : ¬ P) : b2i P = 0 := if_neg h
theorem b2i_narrow (P : Prop) [Decidable P] : narrow .boolean (.int (b2i P)) = .int (b2i P) := by
  by_cases h : P
  · rw [b2i_t h]; decide
  · rw [b2i_f h]; decide
theorem b2i_fits (P : Prop) [Decidable P] : fits .boolean (.int (b2i P)) = true := by
  by_cases h : P
  · rw [b2i_t h]; decide
  · rw [b2i_f h]; decide
theorem b2i_eq0 {P : Prop} [Decidable P] : b2i P = 0 ↔ ¬ P := by
  by_cases h : P
  · rw [b2i_t h]; exact ⟨fun q => absurd q (by decide), fun q => absurd h q⟩
  · rw [b2i_f h]; exact ⟨fun _ => h, fun _ => rfl⟩
theorem mem_ext {m m' : Mem} (h1 : ∀ a b, gI m a b = gI m' a b) (h2 : m.2 = m'.2) : m = m' := by
  obtain ⟨i1, r1⟩ := m
  obtain ⟨i2, r2⟩ := m'
  have e1 : i1 = i2 := funext fun a => funext fun b => h1 a b
  have e2 : r1 = r2 := h2
  rw [e1, e2]
section STATICS
variable {sh : List Shp} {me : Mem} {d : Nat}
set_option maxHeartbeats 4000000 in
set_option maxRecDepth 100000 in
theorem c_isWithin (v a b : Int32) : CI d mX6_isWithin sh [.int v, .int a, .int b] me (fun x m => x = (if a ≤ v ∧ v ≤ b then 1 else 0) ∧ m = me) := by
  refine CI.mk (L := [.int v, .int a, .int b]) (by decide) (Nat.le_of_ble_eq_true rfl) rfl ?_
  refine ld_i0 (np := 1) dX6_isWithin_0 rfl ?_
  refine ld_i1 (np := 2) dX6_isWithin_1 rfl ?_
  refine wl_icmp_lt (np := 5) (tg := 14) dX6_isWithin_2 rfl rfl (fun c_2 => ?_) (fun c_2 => ?_)
  · refine wl_iconst (np := 15) (v := 0) dX6_isWithin_14 rfl (rfl) ?_
    refine wi_ret dX6_isWithin_15 rfl (by decide) (Nat.le_refl _) (Nat.le_refl _) ?_
    exact ⟨by rw [if_neg (fun h => Int32.not_lt.mpr h.1 c_2)], rfl⟩
  · refine ld_i0 (np := 6) dX6_isWithin_5 rfl ?_
    refine ld_i2 (np := 7) dX6_isWithin_6 rfl ?_
    refine wl_icmp_gt (np := 10) (tg := 14) dX6_isWithin_7 rfl rfl (fun c_7 => ?_) (fun c_7 => ?_)
    · refine wl_iconst (np := 15) (v := 0) dX6_isWithin_14 rfl (rfl) ?_
      refine wi_ret dX6_isWithin_15 rfl (by decide) (Nat.le_refl _) (Nat.le_refl _) ?_
      exact ⟨by rw [if_neg (fun h => Int32.not_lt.mpr h.2 c_7)], rfl⟩
    · refine wl_iconst (np := 11) (v := 1) dX6_isWithin_10 rfl (rfl) ?_
      refine wl_goto (tg := 15) dX6_isWithin_11 rfl ?_
      refine wi_ret dX6_isWithin_15 rfl (by decide) (Nat.le_refl _) (Nat.le_refl _) ?_
      exact ⟨by rw [if_pos ⟨Int32.not_lt.mp c_2, Int32.not_lt.mp c_7⟩], rfl⟩
theorem wi_nar {P : Prop} [Decidable P] : narrow .boolean (.int (if P then 1 else 0)) = .int (if P then 1 else 0) := b2i_narrow P
set_option maxHeartbeats 4000000 in
set_option maxRecDepth 100000 in
theorem c_isLender (v : Int32) (hd : 1 ≤ d) : CI d mX6_isLender sh [.int v] me (fun x m => x = (if 0 ≤ v ∧ v ≤ 4 then 1 else 0) ∧ m = me) := by
  refine CI.mk (L := [.int v]) (by decide) (Nat.le_of_ble_eq_true rfl) rfl ?_
  refine ld_i0 (np := 1) dX6_isLender_0 rfl ?_
  refine wl_iconst (np := 2) (v := 0) dX6_isLender_1 rfl (rfl) ?_
  refine wl_iconst (np := 3) (v := 4) dX6_isLender_2 rfl (rfl) ?_
  refine ciS_3 (np := 6) dX6_isLender_3 rfl lk_X6_61 (Nat.le_of_ble_eq_true rfl) (by omega) (Nat.le_refl _) (Nat.le_refl _) (c_isWithin _ _ _) (fun x_3 m_3 h_3 => ?_)
  obtain ⟨rfl, q_3⟩ := h_3
  have q_3 := q_3.symm
  subst q_3
  refine wi_ret dX6_isLender_6 rfl (wi_nar) (Nat.le_refl _) (Nat.le_refl _) ?_
  exact ⟨rfl, rfl⟩
set_option maxHeartbeats 4000000 in
set_option maxRecDepth 100000 in
theorem c_isSheet (v : Int32) (hd : 1 ≤ d) : CI d mX6_isSheet sh [.int v] me (fun x m => x = (if 0 ≤ v ∧ v ≤ 3 then 1 else 0) ∧ m = me) := by
  refine CI.mk (L := [.int v]) (by decide) (Nat.le_of_ble_eq_true rfl) rfl ?_
  refine ld_i0 (np := 1) dX6_isSheet_0 rfl ?_
  refine wl_iconst (np := 2) (v := 0) dX6_isSheet_1 rfl (rfl) ?_
  refine wl_iconst (np := 3) (v := 3) dX6_isSheet_2 rfl (rfl) ?_
  refine ciS_3 (np := 6) dX6_isSheet_3 rfl lk_X6_61 (Nat.le_of_ble_eq_true rfl) (by omega) (Nat.le_refl _) (Nat.le_refl _) (c_isWithin _ _ _) (fun x_3 m_3 h_3 => ?_)
  obtain ⟨rfl, q_3⟩ := h_3
  have q_3 := q_3.symm
  subst q_3
  refine wi_ret dX6_isSheet_6 rfl (wi_nar) (Nat.le_refl _) (Nat.le_refl _) ?_
  exact ⟨rfl, rfl⟩
set_option maxHeartbeats 4000000 in
set_option maxRecDepth 100000 in
theorem c_isLane (v : Int32) (hd : 1 ≤ d) : CI d mX6_isLane sh [.int v] me (fun x m => x = (if 0 ≤ v ∧ v ≤ 2 then 1 else 0) ∧ m = me) := by
  refine CI.mk (L := [.int v]) (by decide) (Nat.le_of_ble_eq_true rfl) rfl ?_
  refine ld_i0 (np := 1) dX6_isLane_0 rfl ?_
  refine wl_iconst (np := 2) (v := 0) dX6_isLane_1 rfl (rfl) ?_
  refine wl_iconst (np := 3) (v := 2) dX6_isLane_2 rfl (rfl) ?_
  refine ciS_3 (np := 6) dX6_isLane_3 rfl lk_X6_61 (Nat.le_of_ble_eq_true rfl) (by omega) (Nat.le_refl _) (Nat.le_refl _) (c_isWithin _ _ _) (fun x_3 m_3 h_3 => ?_)
  obtain ⟨rfl, q_3⟩ := h_3
  have q_3 := q_3.symm
  subst q_3
  refine wi_ret dX6_isLane_6 rfl (wi_nar) (Nat.le_refl _) (Nat.le_refl _) ?_
  exact ⟨rfl, rfl⟩
set_option maxHeartbeats 4000000 in
set_option maxRecDepth 100000 in
theorem c_isIn (s k : Int32) : CI d mX6_isIn sh [.int s, .int k] me (fun x m => x = (if (s >>> (k &&& 31)) &&& 1 = 0 then 0 else 1) ∧ m = me) := by
  refine CI.mk (L := [.int s, .int k]) (by decide) (Nat.le_of_ble_eq_true rfl) rfl ?_
  refine ld_i0 (np := 1) dX6_isIn_0 rfl ?_
  refine ld_i1 (np := 2) dX6_isIn_1 rfl ?_
  refine wl_ishr (np := 3) dX6_isIn_2 rfl ?_
  refine wl_iconst (np := 4) (v := 1) dX6_isIn_3 rfl (rfl) ?_
  refine wl_iand (np := 5) dX6_isIn_4 rfl ?_
  refine wl_if_eq (np := 8) (tg := 12) dX6_isIn_5 rfl rfl (fun c_5 => ?_) (fun c_5 => ?_)
  · refine wl_iconst (np := 13) (v := 0) dX6_isIn_12 rfl (rfl) ?_
    refine wi_ret dX6_isIn_13 rfl (by decide) (Nat.le_refl _) (Nat.le_refl _) ?_
    exact ⟨by rw [if_pos c_5], rfl⟩
  · refine wl_iconst (np := 9) (v := 1) dX6_isIn_8 rfl (rfl) ?_
    refine wl_goto (tg := 13) dX6_isIn_9 rfl ?_
    refine wi_ret dX6_isIn_13 rfl (by decide) (Nat.le_refl _) (Nat.le_refl _) ?_
    exact ⟨by rw [if_neg c_5], rfl⟩
def innerC (ws c : Int32) : Prop := ws &&& ((1 <<< (c &&& 31)) - 1) = 0
def outerC (ws c : Int32) : Prop := ws >>> ((c + 1) &&& 31) = 0
/-- by the law off, may the coat c of the set be the next -/
def mayC (off ws c : Int32) : Prop := if off = 0 then outerC ws c else if off = 1 then innerC ws c else (¬ innerC ws c ∨ outerC ws c)
theorem mayC_0 {off ws c x : Int32} (h : off = 0) (hx : x = 1 ∧ outerC ws c ∨ x = 0 ∧ ¬ outerC ws c) : x = 1 ∧ mayC off ws c ∨ x = 0 ∧ ¬ mayC off ws c := by
  unfold mayC; rw [if_pos h]; exact hx
set_option maxHeartbeats 4000000 in
set_option maxRecDepth 100000 in
theorem c_mayComeOff (off ws c : Int32) : CI d mX6_mayComeOff sh [.int off, .int ws, .int c] me (fun x m => (x = 1 ∧ mayC off ws c ∨ x = 0 ∧ ¬ mayC off ws c) ∧ m = me) := by
  refine CI.mk (L := [.int off, .int ws, .int c, .float 0, .float 0]) (by decide) (Nat.le_of_ble_eq_true rfl) rfl ?_
  have k29 : ∀ x3 x4 : Int32, (x3 = 1 ∧ innerC ws c ∨ x3 = 0 ∧ ¬ innerC ws c) → (x4 = 1 ∧ outerC ws c ∨ x4 = 0 ∧ ¬ outerC ws c) → Wa mX6_mayComeOff (0, fun _ => 0) d 0 0 sh.length (PI sh (fun x m => (x = 1 ∧ mayC off ws c ∨ x = 0 ∧ ¬ mayC off ws c) ∧ m = me)) 29 [.int off, .int ws, .int c, .int x3, .float 0] [.int x4] sh me 0 0 := by
    intro x3 x4 h3 h4
    have n3 : narrow .boolean (.int x3) = .int x3 := by rcases h3 with ⟨rfl, -⟩ | ⟨rfl, -⟩ <;> decide
    have n4 : narrow .boolean (.int x4) = .int x4 := by rcases h4 with ⟨rfl, -⟩ | ⟨rfl, -⟩ <;> decide
    refine st_i4 (np := 31) dX6_mayComeOff_29 rfl (by decide) rfl ?_
    refine ld_i0 (np := 32) dX6_mayComeOff_31 rfl ?_
    refine wl_if_ne (np := 35) (tg := 38) dX6_mayComeOff_32 rfl rfl (fun c_32 => ?_) (fun c_32 => ?_)
    · refine ld_i0 (np := 39) dX6_mayComeOff_38 rfl ?_
      refine wl_iconst (np := 40) (v := 1) dX6_mayComeOff_39 rfl (rfl) ?_
      refine wl_icmp_ne (np := 43) (tg := 45) dX6_mayComeOff_40 rfl rfl (fun c_40 => ?_) (fun c_40 => ?_)
      · refine ld_i3 (np := 46) dX6_mayComeOff_45 rfl ?_
        refine wl_if_eq (np := 49) (tg := 54) dX6_mayComeOff_46 rfl rfl (fun c_46 => ?_) (fun c_46 => ?_)
        · refine wl_iconst (np := 55) (v := 1) dX6_mayComeOff_54 rfl (rfl) ?_
          refine wl_goto (tg := 59) dX6_mayComeOff_55 rfl ?_
          refine wi_ret dX6_mayComeOff_59 rfl (by decide) (Nat.le_refl _) (Nat.le_refl _) ?_
          refine ⟨Or.inl ⟨rfl, ?_⟩, rfl⟩
          unfold mayC
          rw [if_neg c_32, if_neg c_40]
          rcases h3 with ⟨rfl, -⟩ | ⟨rfl, h⟩
          · exact absurd c_46 (by decide)
          · exact Or.inl h
        · refine ld_i4 (np := 51) dX6_mayComeOff_49 rfl ?_
          refine wl_if_eq (np := 54) (tg := 58) dX6_mayComeOff_51 rfl rfl (fun c_51 => ?_) (fun c_51 => ?_)
          · refine wl_iconst (np := 59) (v := 0) dX6_mayComeOff_58 rfl (rfl) ?_
            refine wi_ret dX6_mayComeOff_59 rfl (by decide) (Nat.le_refl _) (Nat.le_refl _) ?_
            refine ⟨Or.inr ⟨rfl, ?_⟩, rfl⟩
            unfold mayC
            rw [if_neg c_32, if_neg c_40]
            rcases h3 with ⟨rfl, h⟩ | ⟨rfl, -⟩
            · rcases h4 with ⟨rfl, -⟩ | ⟨rfl, h'⟩
              · exact absurd c_51 (by decide)
              · exact fun q => q.elim (fun q => q h) h'
            · exact absurd rfl c_46
          · refine wl_iconst (np := 55) (v := 1) dX6_mayComeOff_54 rfl (rfl) ?_
            refine wl_goto (tg := 59) dX6_mayComeOff_55 rfl ?_
            refine wi_ret dX6_mayComeOff_59 rfl (by decide) (Nat.le_refl _) (Nat.le_refl _) ?_
            refine ⟨Or.inl ⟨rfl, ?_⟩, rfl⟩
            unfold mayC
            rw [if_neg c_32, if_neg c_40]
            rcases h4 with ⟨rfl, h⟩ | ⟨rfl, -⟩
            · exact Or.inr h
            · exact absurd rfl c_51
      · refine ld_i3 (np := 44) dX6_mayComeOff_43 rfl ?_
        refine wi_ret dX6_mayComeOff_44 rfl (n3) (Nat.le_refl _) (Nat.le_refl _) ?_
        refine ⟨?_, rfl⟩
        unfold mayC
        rw [if_neg c_32, if_pos c_40]
        exact h3
    · refine ld_i4 (np := 37) dX6_mayComeOff_35 rfl ?_
      refine wi_ret dX6_mayComeOff_37 rfl (n4) (Nat.le_refl _) (Nat.le_refl _) ?_
      refine ⟨?_, rfl⟩
      unfold mayC
      rw [if_pos c_32]
      exact h4
  have k15 : ∀ x3 : Int32, (x3 = 1 ∧ innerC ws c ∨ x3 = 0 ∧ ¬ innerC ws c) → Wa mX6_mayComeOff (0, fun _ => 0) d 0 0 sh.length (PI sh (fun x m => (x = 1 ∧ mayC off ws c ∨ x = 0 ∧ ¬ mayC off ws c) ∧ m = me)) 15 [.int off, .int ws, .int c, .float 0, .float 0] [.int x3] sh me 0 0 := by
    intro x3 h3
    refine st_i3 (np := 16) dX6_mayComeOff_15 rfl (by decide) rfl ?_
    refine ld_i1 (np := 17) dX6_mayComeOff_16 rfl ?_
    refine ld_i2 (np := 18) dX6_mayComeOff_17 rfl ?_
    refine wl_iconst (np := 19) (v := 1) dX6_mayComeOff_18 rfl (rfl) ?_
    refine wl_iadd (np := 20) dX6_mayComeOff_19 rfl ?_
    refine wl_ishr (np := 21) dX6_mayComeOff_20 rfl ?_
    refine wl_if_ne (np := 24) (tg := 28) dX6_mayComeOff_21 rfl rfl (fun c_21 => ?_) (fun c_21 => ?_)
    · refine wl_iconst (np := 29) (v := 0) dX6_mayComeOff_28 rfl (rfl) ?_
      exact k29 _ _ h3 (Or.inr ⟨rfl, c_21⟩)
    · refine wl_iconst (np := 25) (v := 1) dX6_mayComeOff_24 rfl (rfl) ?_
      refine wl_goto (tg := 29) dX6_mayComeOff_25 rfl ?_
      exact k29 _ _ h3 (Or.inl ⟨rfl, c_21⟩)
  refine ld_i1 (np := 1) dX6_mayComeOff_0 rfl ?_
  refine wl_iconst (np := 2) (v := 1) dX6_mayComeOff_1 rfl (rfl) ?_
  refine ld_i2 (np := 3) dX6_mayComeOff_2 rfl ?_
  refine wl_ishl (np := 4) dX6_mayComeOff_3 rfl ?_
  refine wl_iconst (np := 5) (v := 1) dX6_mayComeOff_4 rfl (rfl) ?_
  refine wl_isub (np := 6) dX6_mayComeOff_5 rfl ?_
  refine wl_iand (np := 7) dX6_mayComeOff_6 rfl ?_
  refine wl_if_ne (np := 10) (tg := 14) dX6_mayComeOff_7 rfl rfl (fun c_7 => ?_) (fun c_7 => ?_)
  · refine wl_iconst (np := 15) (v := 0) dX6_mayComeOff_14 rfl (rfl) ?_
    exact k15 _ (Or.inr ⟨rfl, c_7⟩)
  · refine wl_iconst (np := 11) (v := 1) dX6_mayComeOff_10 rfl (rfl) ?_
    refine wl_goto (tg := 15) dX6_mayComeOff_11 rfl ?_
    exact k15 _ (Or.inl ⟨rfl, c_7⟩)
def minI (x y : Int32) : Int32 := if y < x then y else x
def maxI (x y : Int32) : Int32 := if x < y then y else x
def growI (a r : Int32) : Int32 := minI (a + a * r / 100) 999999
def purseI (p i t : Int32) : Int32 := maxI (minI (p + i) 999999 - t) 0
set_option maxHeartbeats 4000000 in
set_option maxRecDepth 100000 in
theorem c_amountNextDay (a r : Int32) (hd : 1 ≤ d) : CI d mX6_amountNextDay sh [.int a, .int r] me (fun x m => x = growI a r ∧ m = me) := by
  refine CI.mk (L := [.int a, .int r]) (by decide) (Nat.le_of_ble_eq_true rfl) rfl ?_
  refine ld_i0 (np := 1) dX6_amountNextDay_0 rfl ?_
  refine ld_i0 (np := 2) dX6_amountNextDay_1 rfl ?_
  refine ld_i1 (np := 3) dX6_amountNextDay_2 rfl ?_
  refine wl_imul (np := 4) dX6_amountNextDay_3 rfl ?_
  refine wl_bipush (np := 6) (v := 100) dX6_amountNextDay_4 rfl (by decide) ?_
  refine wl_idiv (np := 7) dX6_amountNextDay_6 rfl (by decide) ?_
  refine wl_iadd (np := 8) dX6_amountNextDay_7 rfl ?_
  refine wl_ldc (np := 10) dX6_amountNextDay_8 rfl wk_X6_180 ?_
  refine wl_min (np := 13) dX6_amountNextDay_10 rfl lk_X6_101 (Nat.le_of_ble_eq_true rfl) (by omega) (Nat.le_refl _) (Nat.le_refl _) ?_
  refine wi_ret dX6_amountNextDay_13 rfl (rfl) (Nat.le_refl _) (Nat.le_refl _) ?_
  exact ⟨rfl, rfl⟩
set_option maxHeartbeats 4000000 in
set_option maxRecDepth 100000 in
theorem c_purseNextDay (a r t : Int32) (hd : 1 ≤ d) : CI d mX6_purseNextDay sh [.int a, .int r, .int t] me (fun x m => x = purseI a r t ∧ m = me) := by
  refine CI.mk (L := [.int a, .int r, .int t]) (by decide) (Nat.le_of_ble_eq_true rfl) rfl ?_
  refine ld_i0 (np := 1) dX6_purseNextDay_0 rfl ?_
  refine ld_i1 (np := 2) dX6_purseNextDay_1 rfl ?_
  refine wl_iadd (np := 3) dX6_purseNextDay_2 rfl ?_
  refine wl_ldc (np := 5) dX6_purseNextDay_3 rfl wk_X6_180 ?_
  refine wl_min (np := 8) dX6_purseNextDay_5 rfl lk_X6_101 (Nat.le_of_ble_eq_true rfl) (by omega) (Nat.le_refl _) (Nat.le_refl _) ?_
  refine ld_i2 (np := 9) dX6_purseNextDay_8 rfl ?_
  refine wl_isub (np := 10) dX6_purseNextDay_9 rfl ?_
  refine wl_iconst (np := 11) (v := 0) dX6_purseNextDay_10 rfl (rfl) ?_
  refine wl_max (np := 14) dX6_purseNextDay_11 rfl lk_X6_299 (Nat.le_of_ble_eq_true rfl) (by omega) (Nat.le_refl _) (Nat.le_refl _) ?_
  refine wi_ret dX6_purseNextDay_14 rfl (rfl) (Nat.le_refl _) (Nat.le_refl _) ?_
  exact ⟨rfl, rfl⟩
/-- Arrays.fill of an int array -/
def fillF (f : Nat → Int32) (n : Nat) (x : Int32) : Nat → Int32 := fun j => if j < n then x else f j
set_option maxHeartbeats 4000000 in
set_option maxRecDepth 100000 in
theorem c_fill {a n : Nat} (x : Int32) (hs : sh[a]? = some (.inr (0, n))) (hn : n < 2 ^ 31) : CV d mJ7_fill_53178 sh [.ref a, .int x] me (fun m => m = uA me a (fillF (gI me a) n x)) := by
  have key : ∀ fuel i, n - i < fuel → i ≤ n → Wa mJ7_fill_53178 (0, fun _ => 0) d 0 0 sh.length (PV sh (fun m => m = uA me a (fillF (gI me a) n x))) 5 [.ref a, .int x, .int (nI i), .int (nI n)] [] sh (uA me a (fillF (gI me a) i x)) 0 0 := by
    intro fuel
    induction fuel with
    | zero => intro i h; omega
    | succ fuel ih =>
      intro i hi hin
      refine ld_i2 (np := 6) dJ7_fill_53178_5 rfl ?_
      refine ld_i3 (np := 7) dJ7_fill_53178_6 rfl ?_
      refine wl_icmp_ge (np := 10) (tg := 20) dJ7_fill_53178_7 rfl rfl (fun c_7 => ?_) (fun c_7 => ?_)
      · refine wv_ret dJ7_fill_53178_20 rfl (Nat.le_refl _) (Nat.le_refl _) ?_
        rw [nI_le_iff (by omega) (by omega)] at c_7
        rw [show i = n by omega]
      · rw [nI_le_iff (by omega) (by omega)] at c_7
        refine ld_a0 (np := 11) dJ7_fill_53178_10 rfl ?_
        refine ld_i2 (np := 12) dJ7_fill_53178_11 rfl ?_
        refine ld_i1 (np := 13) dJ7_fill_53178_12 rfl ?_
        refine wl_iastore (np := 14) dJ7_fill_53178_13 rfl (inA_n hs (by omega) hn) ?_
        refine inc_2 (np := 17) (v := _ + 1) dJ7_fill_53178_14 rfl rfl (by decide) rfl ?_
        refine wl_goto (tg := 5) dJ7_fill_53178_17 rfl ?_
        rw [nI_clamp (by omega), ← nI_succ]
        have e : uI (uA me a (fillF (gI me a) i x)) a i x = uA me a (fillF (gI me a) (i + 1) x) := by
          apply mem_ext
          · intro a' b'
            simp only [gI_uI, gI_uA, fillF]
            grind
          · rfl
        rw [e]
        exact ih (i + 1) (by omega) (by omega)
  refine CV.mk (L := [.ref a, .int x, .float 0, .float 0]) (by decide) (Nat.le_of_ble_eq_true rfl) rfl ?_
  refine wl_iconst (np := 1) (v := 0) dJ7_fill_53178_0 rfl (rfl) ?_
  refine st_i2 (np := 2) dJ7_fill_53178_1 rfl (by decide) rfl ?_
  refine ld_a0 (np := 3) dJ7_fill_53178_2 rfl ?_
  refine wl_alen (np := 4) dJ7_fill_53178_3 rfl (by assumption) (by decide) rfl ?_
  refine st_i3 (np := 5) dJ7_fill_53178_4 rfl (by decide) rfl ?_
  have e0 : uA me a (fillF (gI me a) 0 x) = me := by
    apply mem_ext
    · intro a' b'
      simp only [gI_uA, fillF]
      grind
    · rfl
  have h := key (n + 1) 0 (by omega) (by omega)
  rw [e0] at h
  exact h
end STATICS
end
section
/-- a person's cells: the object, its five rows -/
def isP (sh : List Shp) (me : Mem) (q : Nat) : Prop := sh[q]? = some (.inl 1) ∧ sh[q + 1]? = some (.inr (0, 8)) ∧ sh[q + 2]? = some (.inr (0, 8)) ∧ sh[q + 3]? = some (.inr (0, 8)) ∧ sh[q + 4]? = some (.inr (0, 8)) ∧ sh[q + 5]? = some (.inr (0, 5)) ∧
  gR me q 0 = some (q + 1) ∧ gR me q 1 = some (q + 2) ∧ gR me q 2 = some (q + 3) ∧ gR me q 3 = some (q + 4) ∧ gR me q 4 = some (q + 5)
theorem isP.of {sh : List Shp} {me m : Mem} {q : Nat} (h : isP sh me q) (h2 : m.2 = me.2) : isP sh m q := by
  unfold isP gR at *
  rw [h2]
  exact h
/-! what the methods do to the memory -/
def beginM (me : Mem) (q : Nat) (p i s : Int32) : Mem := (fun a b => if a = q ∧ b = 6 then p else if a = q ∧ b = 7 then i else if a = q ∧ b = 8 then s else if a = q ∧ b = 9 then -4 else if a = q ∧ b = 5 then 0 else if a = q + 5 ∧ b < 5 then 0 else me.1 a b, me.2)
def wearM (me : Mem) (q q2 : Nat) : Mem := (fun a b => if a = q ∧ b = 5 then me.1 q2 5 else if q + 1 ≤ a ∧ a ≤ q + 4 ∧ b < 8 then me.1 (q2 + (a - q)) b else me.1 a b, me.2)
def likeM (me : Mem) (q q2 : Nat) : Mem := (fun a b => if a = q ∧ 5 ≤ b ∧ b ≤ 9 then me.1 q2 b else if q + 1 ≤ a ∧ a ≤ q + 4 ∧ b < 8 then me.1 (q2 + (a - q)) b else if a = q + 5 ∧ b < 5 then me.1 (q2 + 5) b else me.1 a b, me.2)
def shfM (me : Mem) (q c i : Nat) : Mem := (fun a b => if q + 1 ≤ a ∧ a ≤ q + 4 ∧ c ≤ b ∧ b < i then me.1 a (b + 1) else me.1 a b, me.2)
def growM (me : Mem) (q i : Nat) : Mem := (fun a b => if a = q + 2 ∧ b < i then growI (me.1 (q + 2) b) (me.1 (q + 3) b) else me.1 a b, me.2)
def swapM (me : Mem) (q q2 i j : Nat) : Mem := (fun a b => if q + 1 ≤ a ∧ a ≤ q + 4 ∧ b = i then me.1 (q2 + (a - q)) j else if q2 + 1 ≤ a ∧ a ≤ q2 + 4 ∧ b = j then me.1 (q + (a - q2)) i else me.1 a b, me.2)
def putM (me : Mem) (q n : Nat) (l a r t : Int32) : Mem := uI (uI (uI (uI (uI me (q + 1) n l) (q + 2) n a) (q + 3) n r) (q + 4) n t) q 5 (nI (n + 1))
def takeM (me : Mem) (q c n : Nat) : Mem := uI (shfM me q c (n - 1)) q 5 (nI (n - 1))
def payM (me : Mem) (q c n : Nat) : Mem := takeM (uI me q 6 (gI me q 6 - gI me (q + 2) c)) q c n
def taxF (me : Mem) (q : Nat) : Nat → Int32 := fun c => gI me (q + 5) (gI me (q + 1) c).toNatClampNeg
def nightM (me : Mem) (q n : Nat) : Mem := uI (growM me q n) q 6 (purseI (gI me q 6) (gI me q 7) (sumF (taxF me q) n))
def fallM (me : Mem) (q : Nat) (day : Int32) : Mem := if gI me q 9 = -4 then uI (uI me q 6 0) q 9 day else uI me q 6 0
def hotP (me : Mem) (q n : Nat) (heat : Int32) : Prop := maxI (gI me q 8 - heat) 0 < sumF (gI me (q + 4)) n
theorem g_def (i : Nat → Nat → Int32) (r : Nat → Nat → Option Nat) (a b : Nat) : gI (i, r) a b = i a b := rfl
theorem g_raw (me : Mem) (a b : Nat) : me.1 a b = gI me a b := rfl
section PERSON
variable {sh : List Shp} {me : Mem} {d q q2 n : Nat}
set_option maxHeartbeats 4000000 in
set_option maxRecDepth 100000 in
theorem c_thick (hq : isP sh me q) (hw : gI me q 5 = nI n) (hn : n ≤ 8) : CI d mX1_thickTogether sh [.ref q] me (fun x m => x = sumF (gI me (q + 4)) n ∧ m = me) := by
  obtain ⟨s0, s1, s2, s3, s4, s5, r0, r1, r2, r3, r4⟩ := hq
  have key : ∀ fuel i, n - i < fuel → i ≤ n → Wa mX1_thickTogether (0, fun _ => 0) d 0 0 sh.length (PI sh (fun x m => x = sumF (gI me (q + 4)) n ∧ m = me)) 4 [.ref q, .int (sumF (gI me (q + 4)) i), .int (nI i)] [] sh me 0 0 := by
    intro fuel
    induction fuel with
    | zero => intro i h; omega
    | succ fuel ih =>
      intro i hi hin
      refine ld_i2 (np := 5) dX1_thickTogether_4 rfl ?_
      refine ld_a0 (np := 6) dX1_thickTogether_5 rfl ?_
      refine wl_geti (np := 9) dX1_thickTogether_6 rfl fl_X1_40 (by decide) (by assumption) ?_
      refine wl_icmp_ge (np := 12) (tg := 27) dX1_thickTogether_9 rfl rfl (fun c_9 => ?_) (fun c_9 => ?_)
      · refine ld_i1 (np := 28) dX1_thickTogether_27 rfl ?_
        refine wi_ret dX1_thickTogether_28 rfl (rfl) (Nat.le_refl _) (Nat.le_refl _) ?_
        rw [hw, nI_le_iff (by omega) (by omega)] at c_9
        rw [show i = n by omega]
        exact ⟨rfl, rfl⟩
      · rw [hw, nI_le_iff (by omega) (by omega)] at c_9
        refine ld_i1 (np := 13) dX1_thickTogether_12 rfl ?_
        refine ld_a0 (np := 14) dX1_thickTogether_13 rfl ?_
        refine wl_getr (np := 17) dX1_thickTogether_14 rfl fl_X1_21 rfl (by assumption) (by assumption) ?_
        refine ld_i2 (np := 18) dX1_thickTogether_17 rfl ?_
        refine wl_iaload (np := 19) dX1_thickTogether_18 rfl (inA_n s4 (by omega) (by decide)) ?_
        refine wl_iadd (np := 20) dX1_thickTogether_19 rfl ?_
        refine st_i1 (np := 21) dX1_thickTogether_20 rfl (by decide) rfl ?_
        refine inc_2 (np := 24) (v := _ + 1) dX1_thickTogether_21 rfl rfl (by decide) rfl ?_
        refine wl_goto (tg := 4) dX1_thickTogether_24 rfl ?_
        rw [nI_clamp (by omega), ← nI_succ]
        exact ih (i + 1) (by omega) (by omega)
  refine CI.mk (L := [.ref q, .float 0, .float 0]) (by decide) (Nat.le_of_ble_eq_true rfl) rfl ?_
  refine wl_iconst (np := 1) (v := 0) dX1_thickTogether_0 rfl (rfl) ?_
  refine st_i1 (np := 2) dX1_thickTogether_1 rfl (by decide) rfl ?_
  refine wl_iconst (np := 3) (v := 0) dX1_thickTogether_2 rfl (rfl) ?_
  refine st_i2 (np := 4) dX1_thickTogether_3 rfl (by decide) rfl ?_
  exact key (n + 1) 0 (by omega) (by omega)
set_option maxHeartbeats 4000000 in
set_option maxRecDepth 100000 in
theorem c_amounts (hq : isP sh me q) (hw : gI me q 5 = nI n) (hn : n ≤ 8) : CI d mX1_amountsTogether sh [.ref q] me (fun x m => x = sumF (gI me (q + 2)) n ∧ m = me) := by
  obtain ⟨s0, s1, s2, s3, s4, s5, r0, r1, r2, r3, r4⟩ := hq
  have key : ∀ fuel i, n - i < fuel → i ≤ n → Wa mX1_amountsTogether (0, fun _ => 0) d 0 0 sh.length (PI sh (fun x m => x = sumF (gI me (q + 2)) n ∧ m = me)) 4 [.ref q, .int (sumF (gI me (q + 2)) i), .int (nI i)] [] sh me 0 0 := by
    intro fuel
    induction fuel with
    | zero => intro i h; omega
    | succ fuel ih =>
      intro i hi hin
      refine ld_i2 (np := 5) dX1_amountsTogether_4 rfl ?_
      refine ld_a0 (np := 6) dX1_amountsTogether_5 rfl ?_
      refine wl_geti (np := 9) dX1_amountsTogether_6 rfl fl_X1_40 (by decide) (by assumption) ?_
      refine wl_icmp_ge (np := 12) (tg := 27) dX1_amountsTogether_9 rfl rfl (fun c_9 => ?_) (fun c_9 => ?_)
      · refine ld_i1 (np := 28) dX1_amountsTogether_27 rfl ?_
        refine wi_ret dX1_amountsTogether_28 rfl (rfl) (Nat.le_refl _) (Nat.le_refl _) ?_
        rw [hw, nI_le_iff (by omega) (by omega)] at c_9
        rw [show i = n by omega]
        exact ⟨rfl, rfl⟩
      · rw [hw, nI_le_iff (by omega) (by omega)] at c_9
        refine ld_i1 (np := 13) dX1_amountsTogether_12 rfl ?_
        refine ld_a0 (np := 14) dX1_amountsTogether_13 rfl ?_
        refine wl_getr (np := 17) dX1_amountsTogether_14 rfl fl_X1_15 rfl (by assumption) (by assumption) ?_
        refine ld_i2 (np := 18) dX1_amountsTogether_17 rfl ?_
        refine wl_iaload (np := 19) dX1_amountsTogether_18 rfl (inA_n s2 (by omega) (by decide)) ?_
        refine wl_iadd (np := 20) dX1_amountsTogether_19 rfl ?_
        refine st_i1 (np := 21) dX1_amountsTogether_20 rfl (by decide) rfl ?_
        refine inc_2 (np := 24) (v := _ + 1) dX1_amountsTogether_21 rfl rfl (by decide) rfl ?_
        refine wl_goto (tg := 4) dX1_amountsTogether_24 rfl ?_
        rw [nI_clamp (by omega), ← nI_succ]
        exact ih (i + 1) (by omega) (by omega)
  refine CI.mk (L := [.ref q, .float 0, .float 0]) (by decide) (Nat.le_of_ble_eq_true rfl) rfl ?_
  refine wl_iconst (np := 1) (v := 0) dX1_amountsTogether_0 rfl (rfl) ?_
  refine st_i1 (np := 2) dX1_amountsTogether_1 rfl (by decide) rfl ?_
  refine wl_iconst (np := 3) (v := 0) dX1_amountsTogether_2 rfl (rfl) ?_
  refine st_i2 (np := 4) dX1_amountsTogether_3 rfl (by decide) rfl ?_
  exact key (n + 1) 0 (by omega) (by omega)
def owedF (me : Mem) (q : Nat) (l : Int32) : Nat → Int32 := fun c => if gI me (q + 1) c = l then gI me (q + 2) c else 0
set_option maxHeartbeats 4000000 in
set_option maxRecDepth 100000 in
theorem c_owedTo (l : Int32) (hq : isP sh me q) (hw : gI me q 5 = nI n) (hn : n ≤ 8) : CI d mX1_owedTo sh [.ref q, .int l] me (fun x m => x = sumF (owedF me q l) n ∧ m = me) := by
  obtain ⟨s0, s1, s2, s3, s4, s5, r0, r1, r2, r3, r4⟩ := hq
  have key : ∀ fuel i, n - i < fuel → i ≤ n → Wa mX1_owedTo (0, fun _ => 0) d 0 0 sh.length (PI sh (fun x m => x = sumF (owedF me q l) n ∧ m = me)) 4 [.ref q, .int l, .int (sumF (owedF me q l) i), .int (nI i)] [] sh me 0 0 := by
    intro fuel
    induction fuel with
    | zero => intro i h; omega
    | succ fuel ih =>
      intro i hi hin
      refine ld_i3 (np := 5) dX1_owedTo_4 rfl ?_
      refine ld_a0 (np := 6) dX1_owedTo_5 rfl ?_
      refine wl_geti (np := 9) dX1_owedTo_6 rfl fl_X1_40 (by decide) (by assumption) ?_
      refine wl_icmp_ge (np := 12) (tg := 37) dX1_owedTo_9 rfl rfl (fun c_9 => ?_) (fun c_9 => ?_)
      · refine ld_i2 (np := 38) dX1_owedTo_37 rfl ?_
        refine wi_ret dX1_owedTo_38 rfl (rfl) (Nat.le_refl _) (Nat.le_refl _) ?_
        rw [hw, nI_le_iff (by omega) (by omega)] at c_9
        rw [show i = n by omega]
        exact ⟨rfl, rfl⟩
      · rw [hw, nI_le_iff (by omega) (by omega)] at c_9
        refine ld_a0 (np := 13) dX1_owedTo_12 rfl ?_
        refine wl_getr (np := 16) dX1_owedTo_13 rfl fl_X1_9 rfl (by assumption) (by assumption) ?_
        refine ld_i3 (np := 17) dX1_owedTo_16 rfl ?_
        refine wl_iaload (np := 18) dX1_owedTo_17 rfl (inA_n s1 (by omega) (by decide)) ?_
        refine ld_i1 (np := 19) dX1_owedTo_18 rfl ?_
        refine wl_icmp_ne (np := 22) (tg := 31) dX1_owedTo_19 rfl rfl (fun c_19 => ?_) (fun c_19 => ?_)
        · rw [nI_clamp (by omega)] at c_19
          have e : sumF (owedF me q l) (i + 1) = sumF (owedF me q l) i := by
            show sumF (owedF me q l) i + owedF me q l i = _
            unfold owedF
            rw [if_neg c_19, Int32.add_zero]
          refine inc_3 (np := 34) (v := _ + 1) dX1_owedTo_31 rfl rfl (by decide) rfl ?_
          refine wl_goto (tg := 4) dX1_owedTo_34 rfl ?_
          rw [← nI_succ, ← e]
          exact ih (i + 1) (by omega) (by omega)
        · rw [nI_clamp (by omega)] at c_19
          have e : sumF (owedF me q l) (i + 1) = sumF (owedF me q l) i + gI me (q + 2) i := by
            show sumF (owedF me q l) i + owedF me q l i = _
            congr 1
            unfold owedF
            rw [if_pos c_19]
          refine ld_i2 (np := 23) dX1_owedTo_22 rfl ?_
          refine ld_a0 (np := 24) dX1_owedTo_23 rfl ?_
          refine wl_getr (np := 27) dX1_owedTo_24 rfl fl_X1_15 rfl (by assumption) (by assumption) ?_
          refine ld_i3 (np := 28) dX1_owedTo_27 rfl ?_
          refine wl_iaload (np := 29) dX1_owedTo_28 rfl (inA_n s2 (by omega) (by decide)) ?_
          refine wl_iadd (np := 30) dX1_owedTo_29 rfl ?_
          refine st_i2 (np := 31) dX1_owedTo_30 rfl (by decide) rfl ?_
          refine inc_3 (np := 34) (v := _ + 1) dX1_owedTo_31 rfl rfl (by decide) rfl ?_
          refine wl_goto (tg := 4) dX1_owedTo_34 rfl ?_
          rw [nI_clamp (by omega), ← nI_succ, ← e]
          exact ih (i + 1) (by omega) (by omega)
  refine CI.mk (L := [.ref q, .int l, .float 0, .float 0]) (by decide) (Nat.le_of_ble_eq_true rfl) rfl ?_
  refine wl_iconst (np := 1) (v := 0) dX1_owedTo_0 rfl (rfl) ?_
  refine st_i2 (np := 2) dX1_owedTo_1 rfl (by decide) rfl ?_
  refine wl_iconst (np := 3) (v := 0) dX1_owedTo_2 rfl (rfl) ?_
  refine st_i3 (np := 4) dX1_owedTo_3 rfl (by decide) rfl ?_
  exact key (n + 1) 0 (by omega) (by omega)
set_option maxHeartbeats 4000000 in
set_option maxRecDepth 100000 in
theorem c_begin (p i s : Int32) (hq : isP sh me q) (hd : 1 ≤ d) : CV d mX1_begin sh [.ref q, .int p, .int i, .int s] me (fun m => m = beginM me q p i s) := by
  obtain ⟨s0, s1, s2, s3, s4, s5, r0, r1, r2, r3, r4⟩ := hq
  refine CV.mk (L := [.ref q, .int p, .int i, .int s]) (by decide) (Nat.le_of_ble_eq_true rfl) rfl ?_
  refine ld_a0 (np := 1) dX1_begin_0 rfl ?_
  refine ld_i1 (np := 2) dX1_begin_1 rfl ?_
  refine wl_puti (np := 5) dX1_begin_2 rfl fl_X1_27 nf_1_6 rfl (by assumption) ?_
  refine ld_a0 (np := 6) dX1_begin_5 rfl ?_
  refine ld_i2 (np := 7) dX1_begin_6 rfl ?_
  refine wl_puti (np := 10) dX1_begin_7 rfl fl_X1_31 nf_1_7 rfl (by assumption) ?_
  refine ld_a0 (np := 11) dX1_begin_10 rfl ?_
  refine ld_i3 (np := 12) dX1_begin_11 rfl ?_
  refine wl_puti (np := 15) dX1_begin_12 rfl fl_X1_34 nf_1_8 rfl (by assumption) ?_
  refine ld_a0 (np := 16) dX1_begin_15 rfl ?_
  refine wl_bipush (np := 18) (v := -4) dX1_begin_16 rfl (by decide) ?_
  refine wl_puti (np := 21) dX1_begin_18 rfl fl_X1_37 nf_1_9 rfl (by assumption) ?_
  refine ld_a0 (np := 22) dX1_begin_21 rfl ?_
  refine wl_iconst (np := 23) (v := 0) dX1_begin_22 rfl (rfl) ?_
  refine wl_puti (np := 26) dX1_begin_23 rfl fl_X1_40 nf_1_5 rfl (by assumption) ?_
  refine ld_a0 (np := 27) dX1_begin_26 rfl ?_
  refine wl_getr (np := 30) dX1_begin_27 rfl fl_X1_24 rfl (by assumption) (by assumption) ?_
  refine wl_iconst (np := 31) (v := 0) dX1_begin_30 rfl (rfl) ?_
  refine cvS_2 (np := 34) dX1_begin_31 rfl lk_X1_43 (Nat.le_of_ble_eq_true rfl) (by omega) (Nat.le_refl _) (Nat.le_refl _) (c_fill 0 s5 (by decide)) (fun m_31 h_31 => ?_)
  have q_31 := h_31.symm
  subst q_31
  refine wv_ret dX1_begin_34 rfl (Nat.le_refl _) (Nat.le_refl _) ?_
  apply mem_ext
  · intro a b
    simp only [gI_uI, gI_uA, fillF, beginM, g_def, g_raw]
    grind
  · rfl
set_option maxHeartbeats 4000000 in
set_option maxRecDepth 100000 in
theorem c_wearAs (hq : isP sh me q) (hq2 : isP sh me q2) (hd : 2 ≤ d) (hne : q2 + 6 ≤ q ∨ q + 6 ≤ q2) : CV d mX1_wearAs sh [.ref q, .ref q2] me (fun m => m = wearM me q q2) := by
  obtain ⟨s0, s1, s2, s3, s4, s5, r0, r1, r2, r3, r4⟩ := hq
  obtain ⟨t0, t1, t2, t3, t4, t5, u0, u1, u2, u3, u4⟩ := hq2
  refine CV.mk (L := [.ref q, .ref q2]) (by decide) (Nat.le_of_ble_eq_true rfl) rfl ?_
  refine ld_a0 (np := 1) dX1_wearAs_0 rfl ?_
  refine ld_a1 (np := 2) dX1_wearAs_1 rfl ?_
  refine wl_geti (np := 5) dX1_wearAs_2 rfl fl_X1_40 (by decide) (by assumption) ?_
  refine wl_puti (np := 8) dX1_wearAs_5 rfl fl_X1_40 nf_1_5 rfl (by assumption) ?_
  refine ld_a1 (np := 9) dX1_wearAs_8 rfl ?_
  refine wl_getr (np := 12) dX1_wearAs_9 rfl fl_X1_9 rfl (by assumption) (by assumption) ?_
  refine wl_iconst (np := 13) (v := 0) dX1_wearAs_12 rfl (rfl) ?_
  refine ld_a0 (np := 14) dX1_wearAs_13 rfl ?_
  refine wl_getr (np := 17) dX1_wearAs_14 rfl fl_X1_9 rfl (by assumption) (by assumption) ?_
  refine wl_iconst (np := 18) (v := 0) dX1_wearAs_17 rfl (rfl) ?_
  refine wl_bipush (np := 20) (v := 8) dX1_wearAs_18 rfl (by decide) ?_
  refine wl_copy (np := 23) dX1_wearAs_20 rfl lk_X1_53 (Nat.le_of_ble_eq_true rfl) (by omega) (by assumption) (by assumption) (by decide) (by decide) (by decide) (by decide) (by decide) ?_
  refine ld_a1 (np := 24) dX1_wearAs_23 rfl ?_
  refine wl_getr (np := 27) dX1_wearAs_24 rfl fl_X1_15 rfl (by assumption) (by assumption) ?_
  refine wl_iconst (np := 28) (v := 0) dX1_wearAs_27 rfl (rfl) ?_
  refine ld_a0 (np := 29) dX1_wearAs_28 rfl ?_
  refine wl_getr (np := 32) dX1_wearAs_29 rfl fl_X1_15 rfl (by assumption) (by assumption) ?_
  refine wl_iconst (np := 33) (v := 0) dX1_wearAs_32 rfl (rfl) ?_
  refine wl_bipush (np := 35) (v := 8) dX1_wearAs_33 rfl (by decide) ?_
  refine wl_copy (np := 38) dX1_wearAs_35 rfl lk_X1_53 (Nat.le_of_ble_eq_true rfl) (by omega) (by assumption) (by assumption) (by decide) (by decide) (by decide) (by decide) (by decide) ?_
  refine ld_a1 (np := 39) dX1_wearAs_38 rfl ?_
  refine wl_getr (np := 42) dX1_wearAs_39 rfl fl_X1_18 rfl (by assumption) (by assumption) ?_
  refine wl_iconst (np := 43) (v := 0) dX1_wearAs_42 rfl (rfl) ?_
  refine ld_a0 (np := 44) dX1_wearAs_43 rfl ?_
  refine wl_getr (np := 47) dX1_wearAs_44 rfl fl_X1_18 rfl (by assumption) (by assumption) ?_
  refine wl_iconst (np := 48) (v := 0) dX1_wearAs_47 rfl (rfl) ?_
  refine wl_bipush (np := 50) (v := 8) dX1_wearAs_48 rfl (by decide) ?_
  refine wl_copy (np := 53) dX1_wearAs_50 rfl lk_X1_53 (Nat.le_of_ble_eq_true rfl) (by omega) (by assumption) (by assumption) (by decide) (by decide) (by decide) (by decide) (by decide) ?_
  refine ld_a1 (np := 54) dX1_wearAs_53 rfl ?_
  refine wl_getr (np := 57) dX1_wearAs_54 rfl fl_X1_21 rfl (by assumption) (by assumption) ?_
  refine wl_iconst (np := 58) (v := 0) dX1_wearAs_57 rfl (rfl) ?_
  refine ld_a0 (np := 59) dX1_wearAs_58 rfl ?_
  refine wl_getr (np := 62) dX1_wearAs_59 rfl fl_X1_21 rfl (by assumption) (by assumption) ?_
  refine wl_iconst (np := 63) (v := 0) dX1_wearAs_62 rfl (rfl) ?_
  refine wl_bipush (np := 65) (v := 8) dX1_wearAs_63 rfl (by decide) ?_
  refine wl_copy (np := 68) dX1_wearAs_65 rfl lk_X1_53 (Nat.le_of_ble_eq_true rfl) (by omega) (by assumption) (by assumption) (by decide) (by decide) (by decide) (by decide) (by decide) ?_
  refine wv_ret dX1_wearAs_68 rfl (Nat.le_refl _) (Nat.le_refl _) ?_
  apply mem_ext
  · intro a b
    simp only [gI_uI, gI_uA, va_cpy, wearM, g_def, g_raw]
    have e0 : (0 : Int32).toNatClampNeg = 0 := rfl
    have e8 : (8 : Int32).toNatClampNeg = 8 := rfl
    rw [e0, e8]
    by_cases h1 : a = q + 1
    · subst h1; grind
    by_cases h2 : a = q + 2
    · subst h2; grind
    by_cases h3 : a = q + 3
    · subst h3; grind
    by_cases h4 : a = q + 4
    · subst h4; grind
    grind
  · rfl
set_option maxHeartbeats 4000000 in
set_option maxRecDepth 100000 in
theorem c_becomeLike (hq : isP sh me q) (hq2 : isP sh me q2) (hd : 3 ≤ d) (hne : q2 + 6 ≤ q ∨ q + 6 ≤ q2) : CV d mX1_becomeLike sh [.ref q, .ref q2] me (fun m => m = likeM me q q2) := by
  have hqs := hq
  have hqs2 := hq2
  obtain ⟨s0, s1, s2, s3, s4, s5, r0, r1, r2, r3, r4⟩ := hq
  obtain ⟨t0, t1, t2, t3, t4, t5, u0, u1, u2, u3, u4⟩ := hq2
  refine CV.mk (L := [.ref q, .ref q2]) (by decide) (Nat.le_of_ble_eq_true rfl) rfl ?_
  refine ld_a0 (np := 1) dX1_becomeLike_0 rfl ?_
  refine ld_a1 (np := 2) dX1_becomeLike_1 rfl ?_
  refine wl_geti (np := 5) dX1_becomeLike_2 rfl fl_X1_27 (by decide) (by assumption) ?_
  refine ld_a1 (np := 6) dX1_becomeLike_5 rfl ?_
  refine wl_geti (np := 9) dX1_becomeLike_6 rfl fl_X1_31 (by decide) (by assumption) ?_
  refine ld_a1 (np := 10) dX1_becomeLike_9 rfl ?_
  refine wl_geti (np := 13) dX1_becomeLike_10 rfl fl_X1_34 (by decide) (by assumption) ?_
  refine cvV_3 (np := 16) dX1_becomeLike_13 rfl lk_X1_49 (by assumption) (Nat.le_of_ble_eq_true rfl) (by omega) (Nat.le_refl _) (Nat.le_refl _) (c_begin _ _ _ hqs (by omega)) (fun m_13 h_13 => ?_)
  have q_13 := h_13.symm
  subst q_13
  refine ld_a0 (np := 17) dX1_becomeLike_16 rfl ?_
  refine ld_a1 (np := 18) dX1_becomeLike_17 rfl ?_
  refine wl_geti (np := 21) dX1_becomeLike_18 rfl fl_X1_37 (by decide) (by assumption) ?_
  refine wl_puti (np := 24) dX1_becomeLike_21 rfl fl_X1_37 nf_1_9 rfl (by assumption) ?_
  refine ld_a1 (np := 25) dX1_becomeLike_24 rfl ?_
  refine wl_getr (np := 28) dX1_becomeLike_25 rfl fl_X1_24 rfl (by assumption) (by assumption) ?_
  refine wl_iconst (np := 29) (v := 0) dX1_becomeLike_28 rfl (rfl) ?_
  refine ld_a0 (np := 30) dX1_becomeLike_29 rfl ?_
  refine wl_getr (np := 33) dX1_becomeLike_30 rfl fl_X1_24 rfl (by assumption) (by assumption) ?_
  refine wl_iconst (np := 34) (v := 0) dX1_becomeLike_33 rfl (rfl) ?_
  refine wl_iconst (np := 35) (v := 5) dX1_becomeLike_34 rfl (rfl) ?_
  refine wl_copy (np := 38) dX1_becomeLike_35 rfl lk_X1_53 (Nat.le_of_ble_eq_true rfl) (by omega) (by assumption) (by assumption) (by decide) (by decide) (by decide) (by decide) (by decide) ?_
  refine ld_a0 (np := 39) dX1_becomeLike_38 rfl ?_
  refine ld_a1 (np := 40) dX1_becomeLike_39 rfl ?_
  refine cvV_1 (np := 43) dX1_becomeLike_40 rfl lk_X1_59 (by assumption) (Nat.le_of_ble_eq_true rfl) (by omega) (Nat.le_refl _) (Nat.le_refl _) (c_wearAs (hqs.of rfl) (hqs2.of rfl) (by omega) hne) (fun m_40 h_40 => ?_)
  have q_40 := h_40.symm
  subst q_40
  refine wv_ret dX1_becomeLike_43 rfl (Nat.le_refl _) (Nat.le_refl _) ?_
  apply mem_ext
  · intro a b
    simp only [gI_uI, gI_uA, va_cpy, wearM, beginM, likeM, g_def, g_raw]
    have e0 : (0 : Int32).toNatClampNeg = 0 := rfl
    have e8 : (5 : Int32).toNatClampNeg = 5 := rfl
    rw [e0, e8]
    by_cases h1 : a = q + 1
    · subst h1; grind
    by_cases h2 : a = q + 2
    · subst h2; grind
    by_cases h3 : a = q + 3
    · subst h3; grind
    by_cases h4 : a = q + 4
    · subst h4; grind
    by_cases h5 : a = q + 5
    · subst h5; grind
    clear s0 s1 s2 s3 s4 s5 r0 r1 r2 r3 r4 t0 t1 t2 t3 t4 t5 u0 u1 u2 u3 u4 hqs hqs2
    by_cases h6 : a = q
    · subst h6; grind (splits := 20)
    grind (splits := 20)
  · rfl
set_option maxHeartbeats 4000000 in
set_option maxRecDepth 100000 in
theorem c_wornSet (hq : isP sh me q) : CI d mX1_wornSet sh [.ref q] me (fun x m => x = (1 <<< (gI me q 5 &&& 31)) - 1 ∧ m = me) := by
  obtain ⟨s0, s1, s2, s3, s4, s5, r0, r1, r2, r3, r4⟩ := hq
  refine CI.mk (L := [.ref q]) (by decide) (Nat.le_of_ble_eq_true rfl) rfl ?_
  refine wl_iconst (np := 1) (v := 1) dX1_wornSet_0 rfl (rfl) ?_
  refine ld_a0 (np := 2) dX1_wornSet_1 rfl ?_
  refine wl_geti (np := 5) dX1_wornSet_2 rfl fl_X1_40 (by decide) (by assumption) ?_
  refine wl_ishl (np := 6) dX1_wornSet_5 rfl ?_
  refine wl_iconst (np := 7) (v := 1) dX1_wornSet_6 rfl (rfl) ?_
  refine wl_isub (np := 8) dX1_wornSet_7 rfl ?_
  refine wi_ret dX1_wornSet_8 rfl (rfl) (Nat.le_refl _) (Nat.le_refl _) ?_
  exact ⟨rfl, rfl⟩
set_option maxHeartbeats 4000000 in
set_option maxRecDepth 100000 in
theorem c_isBetween (c : Int32) (hq : isP sh me q) : CI d mX1_isBetween sh [.ref q, .int c] me (fun x m => x = (if 0 < c ∧ c < gI me q 5 - 1 then 1 else 0) ∧ m = me) := by
  obtain ⟨s0, s1, s2, s3, s4, s5, r0, r1, r2, r3, r4⟩ := hq
  refine CI.mk (L := [.ref q, .int c]) (by decide) (Nat.le_of_ble_eq_true rfl) rfl ?_
  refine ld_i1 (np := 1) dX1_isBetween_0 rfl ?_
  refine wl_if_le (np := 4) (tg := 18) dX1_isBetween_1 rfl rfl (fun c_1 => ?_) (fun c_1 => ?_)
  · refine wl_iconst (np := 19) (v := 0) dX1_isBetween_18 rfl (rfl) ?_
    refine wi_ret dX1_isBetween_19 rfl (by decide) (Nat.le_refl _) (Nat.le_refl _) ?_
    exact ⟨by rw [if_neg (fun h => Int32.not_lt.mpr c_1 h.1)], rfl⟩
  · refine ld_i1 (np := 5) dX1_isBetween_4 rfl ?_
    refine ld_a0 (np := 6) dX1_isBetween_5 rfl ?_
    refine wl_geti (np := 9) dX1_isBetween_6 rfl fl_X1_40 (by decide) (by assumption) ?_
    refine wl_iconst (np := 10) (v := 1) dX1_isBetween_9 rfl (rfl) ?_
    refine wl_isub (np := 11) dX1_isBetween_10 rfl ?_
    refine wl_icmp_ge (np := 14) (tg := 18) dX1_isBetween_11 rfl rfl (fun c_11 => ?_) (fun c_11 => ?_)
    · refine wl_iconst (np := 19) (v := 0) dX1_isBetween_18 rfl (rfl) ?_
      refine wi_ret dX1_isBetween_19 rfl (by decide) (Nat.le_refl _) (Nat.le_refl _) ?_
      exact ⟨by rw [if_neg (fun h => Int32.not_lt.mpr c_11 h.2)], rfl⟩
    · refine wl_iconst (np := 15) (v := 1) dX1_isBetween_14 rfl (rfl) ?_
      refine wl_goto (tg := 19) dX1_isBetween_15 rfl ?_
      refine wi_ret dX1_isBetween_19 rfl (by decide) (Nat.le_refl _) (Nat.le_refl _) ?_
      exact ⟨by rw [if_pos ⟨Int32.not_le.mp c_1, Int32.not_le.mp c_11⟩], rfl⟩
set_option maxHeartbeats 4000000 in
set_option maxRecDepth 100000 in
theorem c_putOn (l a r t : Int32) (hq : isP sh me q) (hw : gI me q 5 = nI n) (hn : n < 8) : CV d mX1_putOn sh [.ref q, .int l, .int a, .int r, .int t] me (fun m => m = putM me q n l a r t) := by
  obtain ⟨s0, s1, s2, s3, s4, s5, r0, r1, r2, r3, r4⟩ := hq
  have w1 : ∀ (m : Mem), gI m q 5 = gI me q 5 → gI m q 5 = nI n := fun m h => h.trans hw
  refine CV.mk (L := [.ref q, .int l, .int a, .int r, .int t]) (by decide) (Nat.le_of_ble_eq_true rfl) rfl ?_
  refine ld_a0 (np := 1) dX1_putOn_0 rfl ?_
  refine wl_geti (np := 4) dX1_putOn_1 rfl fl_X1_40 (by decide) (by assumption) ?_
  refine wl_bipush (np := 6) (v := 8) dX1_putOn_4 rfl (by decide) ?_
  refine wl_icmp_ge (np := 9) (tg := 60) dX1_putOn_6 rfl rfl (fun c_6 => ?_) (fun c_6 => ?_)
  · rw [hw] at c_6
    exact absurd c_6 (by rw [show (8 : Int32) = nI 8 from rfl, nI_le_iff (by decide) (by omega)]; omega)
  · have g1 : gI (uI me (q + 1) n l) q 5 = nI n := by rw [gI_uI, if_neg (by omega)]; exact hw
    have g2 : gI (uI (uI me (q + 1) n l) (q + 2) n a) q 5 = nI n := by rw [gI_uI, if_neg (by omega)]; exact g1
    have g3 : gI (uI (uI (uI me (q + 1) n l) (q + 2) n a) (q + 3) n r) q 5 = nI n := by rw [gI_uI, if_neg (by omega)]; exact g2
    have g4 : gI (uI (uI (uI (uI me (q + 1) n l) (q + 2) n a) (q + 3) n r) (q + 4) n t) q 5 = nI n := by rw [gI_uI, if_neg (by omega)]; exact g3
    refine ld_a0 (np := 10) dX1_putOn_9 rfl ?_
    refine wl_getr (np := 13) dX1_putOn_10 rfl fl_X1_9 rfl (by assumption) (by assumption) ?_
    refine ld_a0 (np := 14) dX1_putOn_13 rfl ?_
    refine wl_geti (np := 17) dX1_putOn_14 rfl fl_X1_40 (by decide) (by assumption) ?_
    refine ld_i1 (np := 18) dX1_putOn_17 rfl ?_
    refine wl_iastore (np := 19) dX1_putOn_18 rfl (hw ▸ inA_n s1 hn (by decide)) ?_
    rw [hw, nI_clamp (by omega)]
    refine ld_a0 (np := 20) dX1_putOn_19 rfl ?_
    refine wl_getr (np := 23) dX1_putOn_20 rfl fl_X1_15 rfl (by assumption) (by assumption) ?_
    refine ld_a0 (np := 24) dX1_putOn_23 rfl ?_
    refine wl_geti (np := 27) dX1_putOn_24 rfl fl_X1_40 (by decide) (by assumption) ?_
    refine ld_i2 (np := 28) dX1_putOn_27 rfl ?_
    refine wl_iastore (np := 29) dX1_putOn_28 rfl (g1 ▸ inA_n s2 hn (by decide)) ?_
    rw [g1, nI_clamp (by omega)]
    refine ld_a0 (np := 30) dX1_putOn_29 rfl ?_
    refine wl_getr (np := 33) dX1_putOn_30 rfl fl_X1_18 rfl (by assumption) (by assumption) ?_
    refine ld_a0 (np := 34) dX1_putOn_33 rfl ?_
    refine wl_geti (np := 37) dX1_putOn_34 rfl fl_X1_40 (by decide) (by assumption) ?_
    refine ld_i3 (np := 38) dX1_putOn_37 rfl ?_
    refine wl_iastore (np := 39) dX1_putOn_38 rfl (g2 ▸ inA_n s3 hn (by decide)) ?_
    rw [g2, nI_clamp (by omega)]
    refine ld_a0 (np := 40) dX1_putOn_39 rfl ?_
    refine wl_getr (np := 43) dX1_putOn_40 rfl fl_X1_21 rfl (by assumption) (by assumption) ?_
    refine ld_a0 (np := 44) dX1_putOn_43 rfl ?_
    refine wl_geti (np := 47) dX1_putOn_44 rfl fl_X1_40 (by decide) (by assumption) ?_
    refine ld_i4 (np := 49) dX1_putOn_47 rfl ?_
    refine wl_iastore (np := 50) dX1_putOn_49 rfl (g3 ▸ inA_n s4 hn (by decide)) ?_
    rw [g3, nI_clamp (by omega)]
    refine ld_a0 (np := 51) dX1_putOn_50 rfl ?_
    refine wl_dup (np := 52) dX1_putOn_51 rfl rfl ?_
    refine wl_geti (np := 55) dX1_putOn_52 rfl fl_X1_40 (by decide) (by assumption) ?_
    refine wl_iconst (np := 56) (v := 1) dX1_putOn_55 rfl (rfl) ?_
    refine wl_iadd (np := 57) dX1_putOn_56 rfl ?_
    refine wl_puti (np := 60) dX1_putOn_57 rfl fl_X1_40 nf_1_5 rfl (by assumption) ?_
    refine wv_ret dX1_putOn_60 rfl (Nat.le_refl _) (Nat.le_refl _) ?_
    rw [g4, ← nI_succ]
    rfl
set_option maxHeartbeats 4000000 in
set_option maxRecDepth 100000 in
theorem c_fall (day : Int32) (hq : isP sh me q) : CV d mX1_fall sh [.ref q, .int day] me (fun m => m = fallM me q day) := by
  obtain ⟨s0, s1, s2, s3, s4, s5, r0, r1, r2, r3, r4⟩ := hq
  have e : gI (uI me q 6 0) q 9 = gI me q 9 := by rw [gI_uI, if_neg (by omega)]
  refine CV.mk (L := [.ref q, .int day]) (by decide) (Nat.le_of_ble_eq_true rfl) rfl ?_
  refine ld_a0 (np := 1) dX1_fall_0 rfl ?_
  refine wl_iconst (np := 2) (v := 0) dX1_fall_1 rfl (rfl) ?_
  refine wl_puti (np := 5) dX1_fall_2 rfl fl_X1_27 nf_1_6 rfl (by assumption) ?_
  refine ld_a0 (np := 6) dX1_fall_5 rfl ?_
  refine wl_geti (np := 9) dX1_fall_6 rfl fl_X1_37 (by decide) (by assumption) ?_
  refine wl_bipush (np := 11) (v := -4) dX1_fall_9 rfl (by decide) ?_
  refine wl_icmp_ne (np := 14) (tg := 19) dX1_fall_11 rfl rfl (fun c_11 => ?_) (fun c_11 => ?_)
  · rw [e] at c_11
    refine wv_ret dX1_fall_19 rfl (Nat.le_refl _) (Nat.le_refl _) ?_
    unfold fallM
    rw [if_neg c_11]
  · rw [e] at c_11
    refine ld_a0 (np := 15) dX1_fall_14 rfl ?_
    refine ld_i1 (np := 16) dX1_fall_15 rfl ?_
    refine wl_puti (np := 19) dX1_fall_16 rfl fl_X1_37 nf_1_9 rfl (by assumption) ?_
    refine wv_ret dX1_fall_19 rfl (Nat.le_refl _) (Nat.le_refl _) ?_
    unfold fallM
    rw [if_pos c_11]
set_option maxHeartbeats 4000000 in
set_option maxRecDepth 100000 in
theorem c_takeOff {c : Nat} (hq : isP sh me q) (hw : gI me q 5 = nI n) (hn : n ≤ 8) (hc : c < n) : CV d mX1_takeOff sh [.ref q, .int (nI c)] me (fun m => m = takeM me q c n) := by
  obtain ⟨s0, s1, s2, s3, s4, s5, r0, r1, r2, r3, r4⟩ := hq
  have n1 : nI n - 1 = nI (n - 1) := by
    obtain ⟨k, rfl⟩ : ∃ k, n = k + 1 := ⟨n - 1, by omega⟩
    rw [nI_succ, Int32.add_sub_cancel]; rfl
  have hw2 : ∀ i, gI (shfM me q c i) q 5 = nI n := fun i => by
    rw [← hw]; simp only [shfM, g_def, g_raw]; rw [if_neg (by omega)]
  have key : ∀ fuel i, n - 1 - i < fuel → c ≤ i → i ≤ n - 1 → Wa mX1_takeOff (0, fun _ => 0) d 0 0 sh.length (PV sh (fun m => m = takeM me q c n)) 2 [.ref q, .int (nI c), .int (nI i)] [] sh (shfM me q c i) 0 0 := by
    intro fuel
    induction fuel with
    | zero => intro i h; omega
    | succ fuel ih =>
      intro i hi hci hin
      refine ld_i2 (np := 3) dX1_takeOff_2 rfl ?_
      refine ld_a0 (np := 4) dX1_takeOff_3 rfl ?_
      refine wl_geti (np := 7) dX1_takeOff_4 rfl fl_X1_40 (by decide) (by assumption) ?_
      refine wl_iconst (np := 8) (v := 1) dX1_takeOff_7 rfl (rfl) ?_
      refine wl_isub (np := 9) dX1_takeOff_8 rfl ?_
      refine wl_icmp_ge (np := 12) (tg := 74) dX1_takeOff_9 rfl rfl (fun c_9 => ?_) (fun c_9 => ?_)
      · rw [hw2, n1, nI_le_iff (by omega) (by omega)] at c_9
        refine ld_a0 (np := 75) dX1_takeOff_74 rfl ?_
        refine wl_dup (np := 76) dX1_takeOff_75 rfl rfl ?_
        refine wl_geti (np := 79) dX1_takeOff_76 rfl fl_X1_40 (by decide) (by assumption) ?_
        refine wl_iconst (np := 80) (v := 1) dX1_takeOff_79 rfl (rfl) ?_
        refine wl_isub (np := 81) dX1_takeOff_80 rfl ?_
        refine wl_puti (np := 84) dX1_takeOff_81 rfl fl_X1_40 nf_1_5 rfl (by assumption) ?_
        refine wv_ret dX1_takeOff_84 rfl (Nat.le_refl _) (Nat.le_refl _) ?_
        rw [hw2, n1, show i = n - 1 by omega]
        rfl
      · rw [hw2, n1, nI_le_iff (by omega) (by omega)] at c_9
        refine ld_a0 (np := 13) dX1_takeOff_12 rfl ?_
        refine wl_getr (np := 16) dX1_takeOff_13 rfl fl_X1_9 rfl (by assumption) (by assumption) ?_
        refine ld_i2 (np := 17) dX1_takeOff_16 rfl ?_
        refine ld_a0 (np := 18) dX1_takeOff_17 rfl ?_
        refine wl_getr (np := 21) dX1_takeOff_18 rfl fl_X1_9 rfl (by assumption) (by assumption) ?_
        refine ld_i2 (np := 22) dX1_takeOff_21 rfl ?_
        refine wl_iconst (np := 23) (v := 1) dX1_takeOff_22 rfl (rfl) ?_
        refine wl_iadd (np := 24) dX1_takeOff_23 rfl ?_
        refine wl_iaload (np := 25) dX1_takeOff_24 rfl (nI_succ i ▸ inA_n s1 (by omega) (by decide)) ?_
        refine wl_iastore (np := 26) dX1_takeOff_25 rfl (inA_n s1 (by omega) (by decide)) ?_
        refine ld_a0 (np := 27) dX1_takeOff_26 rfl ?_
        refine wl_getr (np := 30) dX1_takeOff_27 rfl fl_X1_15 rfl (by assumption) (by assumption) ?_
        refine ld_i2 (np := 31) dX1_takeOff_30 rfl ?_
        refine ld_a0 (np := 32) dX1_takeOff_31 rfl ?_
        refine wl_getr (np := 35) dX1_takeOff_32 rfl fl_X1_15 rfl (by assumption) (by assumption) ?_
        refine ld_i2 (np := 36) dX1_takeOff_35 rfl ?_
        refine wl_iconst (np := 37) (v := 1) dX1_takeOff_36 rfl (rfl) ?_
        refine wl_iadd (np := 38) dX1_takeOff_37 rfl ?_
        refine wl_iaload (np := 39) dX1_takeOff_38 rfl (nI_succ i ▸ inA_n s2 (by omega) (by decide)) ?_
        refine wl_iastore (np := 40) dX1_takeOff_39 rfl (inA_n s2 (by omega) (by decide)) ?_
        refine ld_a0 (np := 41) dX1_takeOff_40 rfl ?_
        refine wl_getr (np := 44) dX1_takeOff_41 rfl fl_X1_18 rfl (by assumption) (by assumption) ?_
        refine ld_i2 (np := 45) dX1_takeOff_44 rfl ?_
        refine ld_a0 (np := 46) dX1_takeOff_45 rfl ?_
        refine wl_getr (np := 49) dX1_takeOff_46 rfl fl_X1_18 rfl (by assumption) (by assumption) ?_
        refine ld_i2 (np := 50) dX1_takeOff_49 rfl ?_
        refine wl_iconst (np := 51) (v := 1) dX1_takeOff_50 rfl (rfl) ?_
        refine wl_iadd (np := 52) dX1_takeOff_51 rfl ?_
        refine wl_iaload (np := 53) dX1_takeOff_52 rfl (nI_succ i ▸ inA_n s3 (by omega) (by decide)) ?_
        refine wl_iastore (np := 54) dX1_takeOff_53 rfl (inA_n s3 (by omega) (by decide)) ?_
        refine ld_a0 (np := 55) dX1_takeOff_54 rfl ?_
        refine wl_getr (np := 58) dX1_takeOff_55 rfl fl_X1_21 rfl (by assumption) (by assumption) ?_
        refine ld_i2 (np := 59) dX1_takeOff_58 rfl ?_
        refine ld_a0 (np := 60) dX1_takeOff_59 rfl ?_
        refine wl_getr (np := 63) dX1_takeOff_60 rfl fl_X1_21 rfl (by assumption) (by assumption) ?_
        refine ld_i2 (np := 64) dX1_takeOff_63 rfl ?_
        refine wl_iconst (np := 65) (v := 1) dX1_takeOff_64 rfl (rfl) ?_
        refine wl_iadd (np := 66) dX1_takeOff_65 rfl ?_
        refine wl_iaload (np := 67) dX1_takeOff_66 rfl (nI_succ i ▸ inA_n s4 (by omega) (by decide)) ?_
        refine wl_iastore (np := 68) dX1_takeOff_67 rfl (inA_n s4 (by omega) (by decide)) ?_
        refine inc_2 (np := 71) (v := _ + 1) dX1_takeOff_68 rfl rfl (by decide) rfl ?_
        refine wl_goto (tg := 2) dX1_takeOff_71 rfl ?_
        rw [← nI_succ, nI_clamp (by omega), nI_clamp (by omega)]
        refine cast (congrArg (fun z => Wa mX1_takeOff (0, fun _ => 0) d 0 0 sh.length (PV sh (fun m => m = takeM me q c n)) 2 [.ref q, .int (nI c), .int (nI (i + 1))] [] sh z 0 0) ?_) (ih (i + 1) (by omega) (by omega) (by omega))
        apply mem_ext
        · intro a b
          simp only [gI_uI, shfM, g_def, g_raw]
          clear s0 s1 s2 s3 s4 s5 r0 r1 r2 r3 r4 ih hw2 hw n1
          by_cases h1 : a = q + 1
          · subst h1; grind (splits := 20)
          by_cases h2 : a = q + 2
          · subst h2; grind (splits := 20)
          by_cases h3 : a = q + 3
          · subst h3; grind (splits := 20)
          by_cases h4 : a = q + 4
          · subst h4; grind (splits := 20)
          grind (splits := 20)
        · rfl
  refine CV.mk (L := [.ref q, .int (nI c), .float 0]) (by decide) (Nat.le_of_ble_eq_true rfl) rfl ?_
  refine ld_i1 (np := 1) dX1_takeOff_0 rfl ?_
  refine st_i2 (np := 2) dX1_takeOff_1 rfl (by decide) rfl ?_
  have e0 : shfM me q c c = me := by
    apply mem_ext
    · intro a b
      simp only [shfM, g_def, g_raw]
      rw [if_neg (by omega)]
    · rfl
  have h := key (n + 1) c (by omega) (by omega) (by omega)
  rw [e0] at h
  exact h
set_option maxHeartbeats 4000000 in
set_option maxRecDepth 100000 in
theorem c_payOff {c : Nat} (hq : isP sh me q) (hw : gI me q 5 = nI n) (hn : n ≤ 8) (hc : c < n) (hd : 1 ≤ d) : CV d mX1_payOff sh [.ref q, .int (nI c)] me (fun m => m = payM me q c n) := by
  have hqs := hq
  obtain ⟨s0, s1, s2, s3, s4, s5, r0, r1, r2, r3, r4⟩ := hq
  have e1 : ∀ x, gI (uI me q 6 x) q 5 = nI n := fun x => by rw [gI_uI, if_neg (by omega)]; exact hw
  refine CV.mk (L := [.ref q, .int (nI c)]) (by decide) (Nat.le_of_ble_eq_true rfl) rfl ?_
  refine ld_a0 (np := 1) dX1_payOff_0 rfl ?_
  refine wl_dup (np := 2) dX1_payOff_1 rfl rfl ?_
  refine wl_geti (np := 5) dX1_payOff_2 rfl fl_X1_27 (by decide) (by assumption) ?_
  refine ld_a0 (np := 6) dX1_payOff_5 rfl ?_
  refine wl_getr (np := 9) dX1_payOff_6 rfl fl_X1_15 rfl (by assumption) (by assumption) ?_
  refine ld_i1 (np := 10) dX1_payOff_9 rfl ?_
  refine wl_iaload (np := 11) dX1_payOff_10 rfl (inA_n s2 (by omega) (by decide)) ?_
  refine wl_isub (np := 12) dX1_payOff_11 rfl ?_
  refine wl_puti (np := 15) dX1_payOff_12 rfl fl_X1_27 nf_1_6 rfl (by assumption) ?_
  refine ld_a0 (np := 16) dX1_payOff_15 rfl ?_
  refine ld_i1 (np := 17) dX1_payOff_16 rfl ?_
  refine cvV_1 (np := 20) dX1_payOff_17 rfl lk_X1_63 (by assumption) (Nat.le_of_ble_eq_true rfl) (by omega) (Nat.le_refl _) (Nat.le_refl _) (c_takeOff (hqs.of rfl) (e1 _) hn hc) (fun m_17 h_17 => ?_)
  have q_17 := h_17.symm
  subst q_17
  refine wv_ret dX1_payOff_20 rfl (Nat.le_refl _) (Nat.le_refl _) ?_
  rw [nI_clamp (by omega)]
  rfl
set_option maxHeartbeats 4000000 in
set_option maxRecDepth 100000 in
theorem c_swapItems {a b i j la lb : Nat} (ha : sh[a]? = some (.inr (0, la))) (hb : sh[b]? = some (.inr (0, lb))) (hi : i < la) (hj : j < lb) (hla : la < 2 ^ 31) (hlb : lb < 2 ^ 31) : CV d mX1_swapItems sh [.ref a, .int (nI i), .ref b, .int (nI j)] me (fun m => m = uI (uI me a i (gI me b j)) b j (gI me a i)) := by
  refine CV.mk (L := [.ref a, .int (nI i), .ref b, .int (nI j), .float 0]) (by decide) (Nat.le_of_ble_eq_true rfl) rfl ?_
  refine ld_i1 (np := 1) dX1_swapItems_0 rfl ?_
  refine wl_if_lt (np := 4) (tg := 24) dX1_swapItems_1 rfl rfl (fun c_1 => ?_) (fun c_1 => ?_)
  · exact absurd c_1 (nI_pos (by omega))
  · refine ld_i3 (np := 5) dX1_swapItems_4 rfl ?_
    refine wl_if_lt (np := 8) (tg := 24) dX1_swapItems_5 rfl rfl (fun c_5 => ?_) (fun c_5 => ?_)
    · exact absurd c_5 (nI_pos (by omega))
    · refine ld_a0 (np := 9) dX1_swapItems_8 rfl ?_
      refine ld_i1 (np := 10) dX1_swapItems_9 rfl ?_
      refine wl_iaload (np := 11) dX1_swapItems_10 rfl (inA_n ha hi hla) ?_
      refine st_i4 (np := 13) dX1_swapItems_11 rfl (by decide) rfl ?_
      refine ld_a0 (np := 14) dX1_swapItems_13 rfl ?_
      refine ld_i1 (np := 15) dX1_swapItems_14 rfl ?_
      refine ld_a2 (np := 16) dX1_swapItems_15 rfl ?_
      refine ld_i3 (np := 17) dX1_swapItems_16 rfl ?_
      refine wl_iaload (np := 18) dX1_swapItems_17 rfl (inA_n hb hj hlb) ?_
      refine wl_iastore (np := 19) dX1_swapItems_18 rfl (inA_n ha hi hla) ?_
      refine ld_a2 (np := 20) dX1_swapItems_19 rfl ?_
      refine ld_i3 (np := 21) dX1_swapItems_20 rfl ?_
      refine ld_i4 (np := 23) dX1_swapItems_21 rfl ?_
      refine wl_iastore (np := 24) dX1_swapItems_23 rfl (inA_n hb hj hlb) ?_
      refine wv_ret dX1_swapItems_24 rfl (Nat.le_refl _) (Nat.le_refl _) ?_
      rw [nI_clamp (by omega), nI_clamp (by omega)]
set_option maxHeartbeats 4000000 in
set_option maxRecDepth 100000 in
theorem c_swapOutermost {n2 : Nat} (hq : isP sh me q) (hq2 : isP sh me q2) (hw : gI me q 5 = nI n) (hw2 : gI me q2 5 = nI n2) (hn : n ≤ 8) (hn2 : n2 ≤ 8) (h0 : 0 < n) (h02 : 0 < n2) (hne : q2 + 6 ≤ q ∨ q + 6 ≤ q2) (hd : 1 ≤ d) : CV d mX1_swapOutermost sh [.ref q, .ref q2] me (fun m => m = swapM me q q2 (n - 1) (n2 - 1)) := by
  obtain ⟨s0, s1, s2, s3, s4, s5, r0, r1, r2, r3, r4⟩ := hq
  obtain ⟨t0, t1, t2, t3, t4, t5, u0, u1, u2, u3, u4⟩ := hq2
  have n1 : nI n - 1 = nI (n - 1) := by
    obtain ⟨k, rfl⟩ : ∃ k, n = k + 1 := ⟨n - 1, by omega⟩
    rw [nI_succ, Int32.add_sub_cancel]; rfl
  have n3 : nI n2 - 1 = nI (n2 - 1) := by
    obtain ⟨k, rfl⟩ : ∃ k, n2 = k + 1 := ⟨n2 - 1, by omega⟩
    rw [nI_succ, Int32.add_sub_cancel]; rfl
  have g1 : ∀ (m : Mem) a b x c e y, a ≠ q → c ≠ q → gI m q 5 = nI n → gI (uI (uI m a b x) c e y) q 5 = nI n := fun m a b x c e y h1 h2 h => by
    rw [gI_uI, if_neg (by omega), gI_uI, if_neg (by omega)]; exact h
  have g2 : ∀ (m : Mem) a b x c e y, a ≠ q2 → c ≠ q2 → gI m q2 5 = nI n2 → gI (uI (uI m a b x) c e y) q2 5 = nI n2 := fun m a b x c e y h1 h2 h => by
    rw [gI_uI, if_neg (by omega), gI_uI, if_neg (by omega)]; exact h
  refine CV.mk (L := [.ref q, .ref q2]) (by decide) (Nat.le_of_ble_eq_true rfl) rfl ?_
  refine ld_a0 (np := 1) dX1_swapOutermost_0 rfl ?_
  refine wl_getr (np := 4) dX1_swapOutermost_1 rfl fl_X1_9 rfl (by assumption) (by assumption) ?_
  refine ld_a0 (np := 5) dX1_swapOutermost_4 rfl ?_
  refine wl_geti (np := 8) dX1_swapOutermost_5 rfl fl_X1_40 (by decide) (by assumption) ?_
  refine wl_iconst (np := 9) (v := 1) dX1_swapOutermost_8 rfl (rfl) ?_
  refine wl_isub (np := 10) dX1_swapOutermost_9 rfl ?_
  refine ld_a1 (np := 11) dX1_swapOutermost_10 rfl ?_
  refine wl_getr (np := 14) dX1_swapOutermost_11 rfl fl_X1_9 rfl (by assumption) (by assumption) ?_
  refine ld_a1 (np := 15) dX1_swapOutermost_14 rfl ?_
  refine wl_geti (np := 18) dX1_swapOutermost_15 rfl fl_X1_40 (by decide) (by assumption) ?_
  refine wl_iconst (np := 19) (v := 1) dX1_swapOutermost_18 rfl (rfl) ?_
  refine wl_isub (np := 20) dX1_swapOutermost_19 rfl ?_
  refine cvS_4 (np := 23) dX1_swapOutermost_20 rfl lk_X1_67 (Nat.le_of_ble_eq_true rfl) (by omega) (Nat.le_refl _) (Nat.le_refl _) (by rw [hw, hw2, n1, n3]; exact c_swapItems s1 t1 (by omega) (by omega) (by decide) (by decide)) (fun m_20 h_20 => ?_)
  have q_20 := h_20.symm
  subst q_20
  have a1 := g1 me (q + 1) (n - 1) (gI me (q2 + 1) (n2 - 1)) (q2 + 1) (n2 - 1) (gI me (q + 1) (n - 1)) (by omega) (by omega) hw
  have b1 := g2 me (q + 1) (n - 1) (gI me (q2 + 1) (n2 - 1)) (q2 + 1) (n2 - 1) (gI me (q + 1) (n - 1)) (by omega) (by omega) hw2
  generalize hm1 : uI (uI me (q + 1) (n - 1) (gI me (q2 + 1) (n2 - 1))) (q2 + 1) (n2 - 1) (gI me (q + 1) (n - 1)) = m1 at a1 b1 ⊢
  have p1 : m1.2 = me.2 := by rw [← hm1]; rfl
  refine ld_a0 (np := 24) dX1_swapOutermost_23 rfl ?_
  refine wl_getr (np := 27) dX1_swapOutermost_24 rfl fl_X1_15 rfl (by assumption) (by rw [gR, p1]; assumption) ?_
  refine ld_a0 (np := 28) dX1_swapOutermost_27 rfl ?_
  refine wl_geti (np := 31) dX1_swapOutermost_28 rfl fl_X1_40 (by decide) (by assumption) ?_
  refine wl_iconst (np := 32) (v := 1) dX1_swapOutermost_31 rfl (rfl) ?_
  refine wl_isub (np := 33) dX1_swapOutermost_32 rfl ?_
  refine ld_a1 (np := 34) dX1_swapOutermost_33 rfl ?_
  refine wl_getr (np := 37) dX1_swapOutermost_34 rfl fl_X1_15 rfl (by assumption) (by rw [gR, p1]; assumption) ?_
  refine ld_a1 (np := 38) dX1_swapOutermost_37 rfl ?_
  refine wl_geti (np := 41) dX1_swapOutermost_38 rfl fl_X1_40 (by decide) (by assumption) ?_
  refine wl_iconst (np := 42) (v := 1) dX1_swapOutermost_41 rfl (rfl) ?_
  refine wl_isub (np := 43) dX1_swapOutermost_42 rfl ?_
  refine cvS_4 (np := 46) dX1_swapOutermost_43 rfl lk_X1_67 (Nat.le_of_ble_eq_true rfl) (by omega) (Nat.le_refl _) (Nat.le_refl _) (by rw [a1, b1, n1, n3]; exact c_swapItems s2 t2 (by omega) (by omega) (by decide) (by decide)) (fun m_43 h_43 => ?_)
  have q_43 := h_43.symm
  subst q_43
  have a2 := g1 m1 (q + 2) (n - 1) (gI m1 (q2 + 2) (n2 - 1)) (q2 + 2) (n2 - 1) (gI m1 (q + 2) (n - 1)) (by omega) (by omega) a1
  have b2 := g2 m1 (q + 2) (n - 1) (gI m1 (q2 + 2) (n2 - 1)) (q2 + 2) (n2 - 1) (gI m1 (q + 2) (n - 1)) (by omega) (by omega) b1
  generalize hm2 : uI (uI m1 (q + 2) (n - 1) (gI m1 (q2 + 2) (n2 - 1))) (q2 + 2) (n2 - 1) (gI m1 (q + 2) (n - 1)) = m2 at a2 b2 ⊢
  have p2 : m2.2 = me.2 := by rw [← hm2]; exact p1
  refine ld_a0 (np := 47) dX1_swapOutermost_46 rfl ?_
  refine wl_getr (np := 50) dX1_swapOutermost_47 rfl fl_X1_18 rfl (by assumption) (by rw [gR, p2]; assumption) ?_
  refine ld_a0 (np := 51) dX1_swapOutermost_50 rfl ?_
  refine wl_geti (np := 54) dX1_swapOutermost_51 rfl fl_X1_40 (by decide) (by assumption) ?_
  refine wl_iconst (np := 55) (v := 1) dX1_swapOutermost_54 rfl (rfl) ?_
  refine wl_isub (np := 56) dX1_swapOutermost_55 rfl ?_
  refine ld_a1 (np := 57) dX1_swapOutermost_56 rfl ?_
  refine wl_getr (np := 60) dX1_swapOutermost_57 rfl fl_X1_18 rfl (by assumption) (by rw [gR, p2]; assumption) ?_
  refine ld_a1 (np := 61) dX1_swapOutermost_60 rfl ?_
  refine wl_geti (np := 64) dX1_swapOutermost_61 rfl fl_X1_40 (by decide) (by assumption) ?_
  refine wl_iconst (np := 65) (v := 1) dX1_swapOutermost_64 rfl (rfl) ?_
  refine wl_isub (np := 66) dX1_swapOutermost_65 rfl ?_
  refine cvS_4 (np := 69) dX1_swapOutermost_66 rfl lk_X1_67 (Nat.le_of_ble_eq_true rfl) (by omega) (Nat.le_refl _) (Nat.le_refl _) (by rw [a2, b2, n1, n3]; exact c_swapItems s3 t3 (by omega) (by omega) (by decide) (by decide)) (fun m_66 h_66 => ?_)
  have q_66 := h_66.symm
  subst q_66
  have a3 := g1 m2 (q + 3) (n - 1) (gI m2 (q2 + 3) (n2 - 1)) (q2 + 3) (n2 - 1) (gI m2 (q + 3) (n - 1)) (by omega) (by omega) a2
  have b3 := g2 m2 (q + 3) (n - 1) (gI m2 (q2 + 3) (n2 - 1)) (q2 + 3) (n2 - 1) (gI m2 (q + 3) (n - 1)) (by omega) (by omega) b2
  generalize hm3 : uI (uI m2 (q + 3) (n - 1) (gI m2 (q2 + 3) (n2 - 1))) (q2 + 3) (n2 - 1) (gI m2 (q + 3) (n - 1)) = m3 at a3 b3 ⊢
  have p3 : m3.2 = me.2 := by rw [← hm3]; exact p2
  refine ld_a0 (np := 70) dX1_swapOutermost_69 rfl ?_
  refine wl_getr (np := 73) dX1_swapOutermost_70 rfl fl_X1_21 rfl (by assumption) (by rw [gR, p3]; assumption) ?_
  refine ld_a0 (np := 74) dX1_swapOutermost_73 rfl ?_
  refine wl_geti (np := 77) dX1_swapOutermost_74 rfl fl_X1_40 (by decide) (by assumption) ?_
  refine wl_iconst (np := 78) (v := 1) dX1_swapOutermost_77 rfl (rfl) ?_
  refine wl_isub (np := 79) dX1_swapOutermost_78 rfl ?_
  refine ld_a1 (np := 80) dX1_swapOutermost_79 rfl ?_
  refine wl_getr (np := 83) dX1_swapOutermost_80 rfl fl_X1_21 rfl (by assumption) (by rw [gR, p3]; assumption) ?_
  refine ld_a1 (np := 84) dX1_swapOutermost_83 rfl ?_
  refine wl_geti (np := 87) dX1_swapOutermost_84 rfl fl_X1_40 (by decide) (by assumption) ?_
  refine wl_iconst (np := 88) (v := 1) dX1_swapOutermost_87 rfl (rfl) ?_
  refine wl_isub (np := 89) dX1_swapOutermost_88 rfl ?_
  refine cvS_4 (np := 92) dX1_swapOutermost_89 rfl lk_X1_67 (Nat.le_of_ble_eq_true rfl) (by omega) (Nat.le_refl _) (Nat.le_refl _) (by rw [a3, b3, n1, n3]; exact c_swapItems s4 t4 (by omega) (by omega) (by decide) (by decide)) (fun m_89 h_89 => ?_)
  have q_89 := h_89.symm
  subst q_89
  refine wv_ret dX1_swapOutermost_92 rfl (Nat.le_refl _) (Nat.le_refl _) ?_
  clear s0 s1 s2 s3 s4 s5 r0 r1 r2 r3 r4 t0 t1 t2 t3 t4 t5 u0 u1 u2 u3 u4 a1 a2 a3 b1 b2 b3 g1 g2 hw hw2 n1 n3
  apply mem_ext
  · intro a b
    subst hm3 hm2 hm1
    simp only [gI_uI, swapM, g_def, g_raw]
    by_cases h1 : a = q + 1
    · subst h1; grind (splits := 20)
    by_cases h2 : a = q + 2
    · subst h2; grind (splits := 20)
    by_cases h3 : a = q + 3
    · subst h3; grind (splits := 20)
    by_cases h4 : a = q + 4
    · subst h4; grind (splits := 20)
    by_cases h5 : a = q2 + 1
    · subst h5; grind (splits := 20)
    by_cases h6 : a = q2 + 2
    · subst h6; grind (splits := 20)
    by_cases h7 : a = q2 + 3
    · subst h7; grind (splits := 20)
    by_cases h8 : a = q2 + 4
    · subst h8; grind (splits := 20)
    grind (splits := 20)
  · exact p3
set_option maxHeartbeats 4000000 in
set_option maxRecDepth 100000 in
theorem c_passNight (hq : isP sh me q) (hw : gI me q 5 = nI n) (hn : n ≤ 8) (hl : ∀ c, c < n → ∃ l, l < 5 ∧ gI me (q + 1) c = nI l) (hd : 2 ≤ d) : CV d mX1_passNight sh [.ref q] me (fun m => m = nightM me q n) := by
  obtain ⟨s0, s1, s2, s3, s4, s5, r0, r1, r2, r3, r4⟩ := hq
  have gg : ∀ i a b, a ≠ q + 2 → gI (growM me q i) a b = gI me a b := fun i a b h => by
    simp only [growM, g_def, g_raw]; rw [if_neg (by omega)]
  have g2 : ∀ i, gI (growM me q i) (q + 2) i = gI me (q + 2) i := fun i => by
    simp only [growM, g_def, g_raw]; rw [if_neg (by omega)]
  have key : ∀ fuel i, n - i < fuel → i ≤ n → Wa mX1_passNight (0, fun _ => 0) d 0 0 sh.length (PV sh (fun m => m = nightM me q n)) 4 [.ref q, .int (sumF (taxF me q) i), .int (nI i)] [] sh (growM me q i) 0 0 := by
    intro fuel
    induction fuel with
    | zero => intro i h; omega
    | succ fuel ih =>
      intro i hi hin
      refine ld_i2 (np := 5) dX1_passNight_4 rfl ?_
      refine ld_a0 (np := 6) dX1_passNight_5 rfl ?_
      refine wl_geti (np := 9) dX1_passNight_6 rfl fl_X1_40 (by decide) (by assumption) ?_
      refine wl_icmp_ge (np := 12) (tg := 53) dX1_passNight_9 rfl rfl (fun c_9 => ?_) (fun c_9 => ?_)
      · rw [gg _ _ _ (by omega), hw, nI_le_iff (by omega) (by omega)] at c_9
        refine ld_a0 (np := 54) dX1_passNight_53 rfl ?_
        refine ld_a0 (np := 55) dX1_passNight_54 rfl ?_
        refine wl_geti (np := 58) dX1_passNight_55 rfl fl_X1_27 (by decide) (by assumption) ?_
        refine ld_a0 (np := 59) dX1_passNight_58 rfl ?_
        refine wl_geti (np := 62) dX1_passNight_59 rfl fl_X1_31 (by decide) (by assumption) ?_
        refine ld_i1 (np := 63) dX1_passNight_62 rfl ?_
        refine ciSN_3 (np := 66) dX1_passNight_63 rfl lk_X1_75 (Nat.le_of_ble_eq_true rfl) (by omega) (Nat.le_refl _) (Nat.le_refl _) (c_purseNextDay _ _ _ (by omega)) (fun x_63 m_63 h_63 => ?_)
        obtain ⟨rfl, q_63⟩ := h_63
        have q_63 := q_63.symm
        subst q_63
        refine wl_puti (np := 69) dX1_passNight_66 rfl fl_X1_27 nf_1_6 rfl (by assumption) ?_
        refine wv_ret dX1_passNight_69 rfl (Nat.le_refl _) (Nat.le_refl _) ?_
        rw [gg _ _ _ (by omega), gg _ _ _ (by omega), show i = n by omega]
        rfl
      · rw [gg _ _ _ (by omega), hw, nI_le_iff (by omega) (by omega)] at c_9
        obtain ⟨lq, hlq, el⟩ := hl i (by omega)
        refine ld_a0 (np := 13) dX1_passNight_12 rfl ?_
        refine wl_getr (np := 16) dX1_passNight_13 rfl fl_X1_15 rfl (by assumption) (by assumption) ?_
        refine ld_i2 (np := 17) dX1_passNight_16 rfl ?_
        refine ld_a0 (np := 18) dX1_passNight_17 rfl ?_
        refine wl_getr (np := 21) dX1_passNight_18 rfl fl_X1_15 rfl (by assumption) (by assumption) ?_
        refine ld_i2 (np := 22) dX1_passNight_21 rfl ?_
        refine wl_iaload (np := 23) dX1_passNight_22 rfl (inA_n s2 (by omega) (by decide)) ?_
        refine ld_a0 (np := 24) dX1_passNight_23 rfl ?_
        refine wl_getr (np := 27) dX1_passNight_24 rfl fl_X1_18 rfl (by assumption) (by assumption) ?_
        refine ld_i2 (np := 28) dX1_passNight_27 rfl ?_
        refine wl_iaload (np := 29) dX1_passNight_28 rfl (inA_n s3 (by omega) (by decide)) ?_
        refine ciSN_2 (np := 32) dX1_passNight_29 rfl lk_X1_71 (Nat.le_of_ble_eq_true rfl) (by omega) (Nat.le_refl _) (Nat.le_refl _) (c_amountNextDay _ _ (by omega)) (fun x_29 m_29 h_29 => ?_)
        obtain ⟨rfl, q_29⟩ := h_29
        have q_29 := q_29.symm
        subst q_29
        refine wl_iastore (np := 33) dX1_passNight_32 rfl (inA_n s2 (by omega) (by decide)) ?_
        rw [nI_clamp (by omega), g2, gg _ (q + 3) _ (by omega)]
        have e1 : uI (growM me q i) (q + 2) i (growI (gI me (q + 2) i) (gI me (q + 3) i)) = growM me q (i + 1) := by
          apply mem_ext
          · intro a b
            simp only [gI_uI, growM, g_def, g_raw]
            clear s0 s1 s2 s3 s4 s5 r0 r1 r2 r3 r4 ih gg g2 hw hl
            grind (splits := 20)
          · rfl
        rw [e1]
        have e2 : gI (growM me q (i + 1)) (q + 1) (nI i).toNatClampNeg = nI lq := by rw [nI_clamp (by omega), gg _ _ _ (by omega)]; exact el
        refine ld_i1 (np := 34) dX1_passNight_33 rfl ?_
        refine ld_a0 (np := 35) dX1_passNight_34 rfl ?_
        refine wl_getr (np := 38) dX1_passNight_35 rfl fl_X1_24 rfl (by assumption) (by assumption) ?_
        refine ld_a0 (np := 39) dX1_passNight_38 rfl ?_
        refine wl_getr (np := 42) dX1_passNight_39 rfl fl_X1_9 rfl (by assumption) (by assumption) ?_
        refine ld_i2 (np := 43) dX1_passNight_42 rfl ?_
        refine wl_iaload (np := 44) dX1_passNight_43 rfl (inA_n s1 (by omega) (by decide)) ?_
        refine wl_iaload (np := 45) dX1_passNight_44 rfl (e2 ▸ inA_n s5 hlq (by decide)) ?_
        refine wl_iadd (np := 46) dX1_passNight_45 rfl ?_
        refine st_i1 (np := 47) dX1_passNight_46 rfl (by decide) rfl ?_
        refine inc_2 (np := 50) (v := _ + 1) dX1_passNight_47 rfl rfl (by decide) rfl ?_
        refine wl_goto (tg := 4) dX1_passNight_50 rfl ?_
        rw [gg _ _ _ (by omega), gg _ _ _ (by omega), nI_clamp (by omega), ← nI_succ]
        exact ih (i + 1) (by omega) (by omega)
  refine CV.mk (L := [.ref q, .float 0, .float 0]) (by decide) (Nat.le_of_ble_eq_true rfl) rfl ?_
  refine wl_iconst (np := 1) (v := 0) dX1_passNight_0 rfl (rfl) ?_
  refine st_i1 (np := 2) dX1_passNight_1 rfl (by decide) rfl ?_
  refine wl_iconst (np := 3) (v := 0) dX1_passNight_2 rfl (rfl) ?_
  refine st_i2 (np := 4) dX1_passNight_3 rfl (by decide) rfl ?_
  have e0 : growM me q 0 = me := by
    apply mem_ext
    · intro a b
      simp only [growM, g_def, g_raw]
      rw [if_neg (by omega)]
    · rfl
  have h := key (n + 1) 0 (by omega) (by omega)
  rw [e0] at h
  exact h
set_option maxHeartbeats 4000000 in
set_option maxRecDepth 100000 in
theorem c_isOver (heat : Int32) (hq : isP sh me q) (hw : gI me q 5 = nI n) (hn : n ≤ 8) (hd : 1 ≤ d) : CI d mX1_isOverburdened sh [.ref q, .int heat] me (fun x m => (x = 1 ∧ hotP me q n heat ∨ x = 0 ∧ ¬ hotP me q n heat) ∧ m = me) := by
  have hqs := hq
  obtain ⟨s0, s1, s2, s3, s4, s5, r0, r1, r2, r3, r4⟩ := hq
  refine CI.mk (L := [.ref q, .int heat]) (by decide) (Nat.le_of_ble_eq_true rfl) rfl ?_
  refine ld_a0 (np := 1) dX1_isOverburdened_0 rfl ?_
  refine ciV_0 (np := 4) dX1_isOverburdened_1 rfl lk_X1_79 (by assumption) (Nat.le_of_ble_eq_true rfl) (by omega) (Nat.le_refl _) (Nat.le_refl _) (c_thick hqs hw hn) (fun x_1 m_1 h_1 => ?_)
  obtain ⟨rfl, q_1⟩ := h_1
  have q_1 := q_1.symm
  subst q_1
  refine ld_a0 (np := 5) dX1_isOverburdened_4 rfl ?_
  refine wl_geti (np := 8) dX1_isOverburdened_5 rfl fl_X1_34 (by decide) (by assumption) ?_
  refine ld_i1 (np := 9) dX1_isOverburdened_8 rfl ?_
  refine wl_isub (np := 10) dX1_isOverburdened_9 rfl ?_
  refine wl_iconst (np := 11) (v := 0) dX1_isOverburdened_10 rfl (rfl) ?_
  refine wl_max (np := 14) dX1_isOverburdened_11 rfl lk_X1_83 (Nat.le_of_ble_eq_true rfl) (by omega) (Nat.le_refl _) (Nat.le_refl _) ?_
  refine wl_icmp_le (np := 17) (tg := 21) dX1_isOverburdened_14 rfl rfl (fun c_14 => ?_) (fun c_14 => ?_)
  · refine wl_iconst (np := 22) (v := 0) dX1_isOverburdened_21 rfl (rfl) ?_
    refine wi_ret dX1_isOverburdened_22 rfl (by decide) (Nat.le_refl _) (Nat.le_refl _) ?_
    exact ⟨Or.inr ⟨rfl, Int32.not_lt.mpr c_14⟩, rfl⟩
  · refine wl_iconst (np := 18) (v := 1) dX1_isOverburdened_17 rfl (rfl) ?_
    refine wl_goto (tg := 22) dX1_isOverburdened_18 rfl ?_
    refine wi_ret dX1_isOverburdened_22 rfl (by decide) (Nat.le_refl _) (Nat.le_refl _) ?_
    exact ⟨Or.inl ⟨rfl, Int32.not_le.mp c_14⟩, rfl⟩
end PERSON
end
section
/-! ===== contracts weakened ===== -/
theorem CallsG.mono {d mc ms : Nat} {M : MR} {sh : List Shp} {vs : List Value} {me : Mem} {Q Q' : Post} (h : CallsG d mc ms M sh vs me Q) (hq : ∀ r s m, Q r s m → Q' r s m) : CallsG d mc ms M sh vs me Q' := by
  intro l D cA adr sz p e ha hc hk s m args below hf happ hP hK
  obtain ⟨n, o, h1, h2, h3, ⟨⟨⟨r, sh', me', adr', hv, hqq, hrest⟩, hF⟩, hL⟩⟩ := h l D cA adr sz p e ha hc hk s m args below hf happ hP hK
  exact ⟨n, o, h1, h2, h3, ⟨⟨⟨r, sh', me', adr', hv, hq _ _ _ hqq, hrest⟩, hF⟩, hL⟩⟩
theorem CI.mono {d : Nat} {M : MR} {sh : List Shp} {vs : List Value} {me : Mem} {Q Q' : Int32 → Mem → Prop} (h : CI d M sh vs me Q) (hq : ∀ x m, Q x m → Q' x m) : CI d M sh vs me Q' := CallsG.mono h (fun r s m ⟨x, h1, h2, h3⟩ => ⟨x, h1, h2, hq _ _ h3⟩)
theorem CV.mono {d : Nat} {M : MR} {sh : List Shp} {vs : List Value} {me : Mem} {Q Q' : Mem → Prop} (h : CV d M sh vs me Q) (hq : ∀ m, Q m → Q' m) : CV d M sh vs me Q' := CallsG.mono h (fun r s m ⟨h1, h2, h3⟩ => ⟨h1, h2, hq _ h3⟩)
/-! ===== what is: people, coats, the world ===== -/
/-- a coat: lender, amount, rate, thick -/
abbrev Coat : Type := Int32 × Int32 × Int32 × Int32
/-- one of the people: (purse, income, strength, the day he fell first or -4), coats, taxes by lender -/
abbrev Prs : Type := (Int32 × Int32 × Int32 × Int32) × List Coat × (Nat → Int32)
/-- the world: people, heats, (off, cuts allowed, cuts made), day, wares -/
abbrev Wld : Type := List Prs × (Nat → Int32) × (Int32 × Int32 × Int32) × Nat × List (Int32 × Int32)
def sumL (l : List Int32) : Int32 := l.foldl (fun s x => s + x) 0
theorem foldl_sum (l : List Int32) (s : Int32) : l.foldl (fun s x => s + x) s = s + sumL l := by
  unfold sumL
  induction l generalizing s with
  | nil => simp
  | cons a t ih => simp only [List.foldl_cons]; rw [ih (s + a), ih (0 + a), Int32.zero_add, Int32.add_assoc]
theorem sumF_eq {α : Type} (f : Nat → Int32) (l : List α) (g : α → Int32) (h : ∀ c co, l[c]? = some co → f c = g co) : sumF f l.length = sumL (l.map g) := by
  have key : ∀ k, k ≤ l.length → sumF f k = sumL ((l.take k).map g) := by
    intro k
    induction k with
    | zero => intro _; rfl
    | succ k ih =>
      intro hk
      have hlt : k < l.length := by omega
      show sumF f k + f k = _
      rw [ih (by omega), h k _ (List.getElem?_eq_getElem hlt), List.take_succ, List.getElem?_eq_getElem hlt, List.map_append]
      unfold sumL
      rw [List.foldl_append]
      simp
  rw [key l.length (Nat.le_refl _), List.take_length]
def cLen (P : Prs) : Nat := P.2.1.length
def taxOf (P : Prs) : Int32 := sumL (P.2.1.map (fun co => P.2.2 co.1.toNatClampNeg))
def thickOf (P : Prs) : Int32 := sumL (P.2.1.map (fun co => co.2.2.2))
def growC (co : Coat) : Coat := (co.1, growI co.2.1 co.2.2.1, co.2.2.1, co.2.2.2)
/-- a night but for the heat -/
def restP (P : Prs) : Prs := ((purseI P.1.1 P.1.2.1 (taxOf P), P.1.2.1, P.1.2.2.1, P.1.2.2.2), P.2.1.map growC, P.2.2)
def hotS (P : Prs) (heat : Int32) : Prop := maxI (P.1.2.2.1 - heat) 0 < thickOf P
def fallP (P : Prs) (day : Int32) : Prs := ((0, P.1.2.1, P.1.2.2.1, if P.1.2.2.2 = -4 then day else P.1.2.2.2), P.2.1, P.2.2)
def nightP (P : Prs) (heat day : Int32) : Prs := if maxI ((restP P).1.2.2.1 - heat) 0 < thickOf (restP P) then fallP (restP P) day else restP P
def takeP (P : Prs) (c : Nat) : Prs := (P.1, P.2.1.eraseIdx c, P.2.2)
def putP (P : Prs) (co : Coat) : Prs := (P.1, P.2.1 ++ [co], P.2.2)
def payP (P : Prs) (c : Nat) : Prs := ((P.1.1 - ((P.2.1[c]?).getD (0, 0, 0, 0)).2.1, P.1.2.1, P.1.2.2.1, P.1.2.2.2), P.2.1.eraseIdx c, P.2.2)
/-- the person at q is P -/
def RepP (me : Mem) (q : Nat) (P : Prs) : Prop := gI me q 6 = P.1.1 ∧ gI me q 7 = P.1.2.1 ∧ gI me q 8 = P.1.2.2.1 ∧ gI me q 9 = P.1.2.2.2 ∧ gI me q 5 = nI P.2.1.length ∧ P.2.1.length ≤ 8 ∧
  (∀ c co, P.2.1[c]? = some co → gI me (q + 1) c = co.1 ∧ gI me (q + 2) c = co.2.1 ∧ gI me (q + 3) c = co.2.2.1 ∧ gI me (q + 4) c = co.2.2.2) ∧ (∀ l, l < 5 → gI me (q + 5) l = P.2.2 l)
/-- nothing but the cells lo .. hi - 1 has changed, no reference -/
def Onl (me m : Mem) (lo hi : Nat) : Prop := m.2 = me.2 ∧ ∀ a, ¬ (lo ≤ a ∧ a < hi) → m.1 a = me.1 a
theorem Onl.rf {me : Mem} {lo hi : Nat} : Onl me me lo hi := ⟨rfl, fun _ _ => rfl⟩
theorem Onl.tr {me m m' : Mem} {lo hi : Nat} (h : Onl me m lo hi) (h' : Onl m m' lo hi) : Onl me m' lo hi := ⟨h'.1.trans h.1, fun a ha => (h'.2 a ha).trans (h.2 a ha)⟩
theorem Onl.wd {me m : Mem} {lo hi lo' hi' : Nat} (h : Onl me m lo hi) (h1 : lo' ≤ lo) (h2 : hi ≤ hi') : Onl me m lo' hi' := ⟨h.1, fun a ha => h.2 a (fun q => ha ⟨by omega, by omega⟩)⟩
theorem Onl.g {me m : Mem} {lo hi a b : Nat} (h : Onl me m lo hi) (ha : ¬ (lo ≤ a ∧ a < hi)) : gI m a b = gI me a b := congrFun (h.2 a ha) b
theorem RepP.fr {me m : Mem} {q : Nat} {P : Prs} (h : RepP me q P) (hf : ∀ a, q ≤ a → a < q + 6 → m.1 a = me.1 a) : RepP m q P := by
  have e : ∀ k b, k < 6 → gI m (q + k) b = gI me (q + k) b := fun k b hk => congrFun (hf (q + k) (by omega) (by omega)) b
  obtain ⟨h1, h2, h3, h4, h5, h6, h7, h8⟩ := h
  refine ⟨(e 0 6 (by omega)).trans h1, (e 0 7 (by omega)).trans h2, (e 0 8 (by omega)).trans h3, (e 0 9 (by omega)).trans h4, (e 0 5 (by omega)).trans h5, h6, fun c co hc => ?_, fun l hl => (e 5 l (by omega)).trans (h8 l hl)⟩
  obtain ⟨g1, g2, g3, g4⟩ := h7 c co hc
  exact ⟨(e 1 c (by omega)).trans g1, (e 2 c (by omega)).trans g2, (e 3 c (by omega)).trans g3, (e 4 c (by omega)).trans g4⟩
theorem RepP.lt {me : Mem} {q : Nat} {P : Prs} (h : RepP me q P) {c : Nat} (hc : c < P.2.1.length) : ∃ co, P.2.1[c]? = some co := ⟨_, List.getElem?_eq_getElem hc⟩
/-! the methods' changes, in these words -/
theorem rep_begin (me : Mem) (q : Nat) (p i s : Int32) : RepP (beginM me q p i s) q ((p, i, s, -4), [], fun _ => 0) := by
  refine ⟨?_, ?_, ?_, ?_, ?_, Nat.zero_le _, fun c co hc => by simp at hc, fun l hl => ?_⟩
  · simp [beginM, g_def]
  · simp [beginM, g_def]
  · simp [beginM, g_def]
  · simp [beginM, g_def]
  · simp [beginM, g_def]; rfl
  · simp [beginM, g_def]; intro h; omega
theorem onl_begin (me : Mem) (q : Nat) (p i s : Int32) : Onl me (beginM me q p i s) q (q + 6) := by
  refine ⟨rfl, fun a ha => funext fun b => ?_⟩
  simp only [beginM]
  grind
theorem rep_put {me : Mem} {q : Nat} {P : Prs} (h : RepP me q P) (hn : P.2.1.length < 8) (l a r t : Int32) : RepP (putM me q P.2.1.length l a r t) q (putP P (l, a, r, t)) := by
  obtain ⟨h1, h2, h3, h4, h5, h6, h7, h8⟩ := h
  have g0 : ∀ x, x ≠ 5 → gI (putM me q P.2.1.length l a r t) q x = gI me q x := fun x hx => by
    simp only [putM, gI_uI]; grind
  refine ⟨(g0 6 (by omega)).trans h1, (g0 7 (by omega)).trans h2, (g0 8 (by omega)).trans h3, (g0 9 (by omega)).trans h4, ?_, ?_, fun c co hc => ?_, fun j hj => ?_⟩
  · simp only [putM, gI_uI, putP, List.length_append, List.length_cons, List.length_nil]; simp
  · simp only [putP, List.length_append, List.length_cons, List.length_nil]; omega
  · simp only [putP] at hc
    by_cases hlt : c < P.2.1.length
    · rw [List.getElem?_append_left hlt] at hc
      obtain ⟨g1, g2, g3, g4⟩ := h7 c co hc
      refine ⟨?_, ?_, ?_, ?_⟩ <;> simp only [putM, gI_uI] <;> grind
    · rw [List.getElem?_append_right (by omega)] at hc
      have hz : c - P.2.1.length < 1 := (List.getElem?_eq_some_iff.mp hc).1
      have hce : c = P.2.1.length := by omega
      subst hce
      rw [Nat.sub_self] at hc
      cases hc
      refine ⟨?_, ?_, ?_, ?_⟩ <;> simp only [putM, gI_uI] <;> grind
  · have e : gI (putM me q P.2.1.length l a r t) (q + 5) j = gI me (q + 5) j := by simp only [putM, gI_uI]; grind
    exact e.trans (h8 j hj)
theorem onl_put (me : Mem) (q n : Nat) (l a r t : Int32) : Onl me (putM me q n l a r t) q (q + 6) := by
  refine ⟨rfl, fun x hx => funext fun b => ?_⟩
  show gI (putM me q n l a r t) x b = gI me x b
  simp only [putM, gI_uI]
  grind
theorem onl_take (me : Mem) (q c n : Nat) : Onl me (takeM me q c n) q (q + 6) := by
  refine ⟨rfl, fun x hx => funext fun b => ?_⟩
  show gI (takeM me q c n) x b = gI me x b
  simp only [takeM, gI_uI, shfM, g_def, g_raw]
  grind
theorem rep_take {me : Mem} {q c : Nat} {P : Prs} (h : RepP me q P) (hc : c < P.2.1.length) : RepP (takeM me q c P.2.1.length) q (takeP P c) := by
  obtain ⟨h1, h2, h3, h4, h5, h6, h7, h8⟩ := h
  have g0 : ∀ x, x ≠ 5 → gI (takeM me q c P.2.1.length) q x = gI me q x := fun x hx => by
    simp only [takeM, gI_uI, shfM, g_def, g_raw]; grind
  have hlen : (P.2.1.eraseIdx c).length = P.2.1.length - 1 := by rw [List.length_eraseIdx]; simp [hc]
  refine ⟨(g0 6 (by omega)).trans h1, (g0 7 (by omega)).trans h2, (g0 8 (by omega)).trans h3, (g0 9 (by omega)).trans h4, ?_, ?_, fun k co hk => ?_, fun j hj => ?_⟩
  · simp only [takeM, gI_uI, takeP, hlen]; simp
  · simp only [takeP, hlen]; omega
  · simp only [takeP] at hk
    rw [List.getElem?_eraseIdx] at hk
    have hkl : k < P.2.1.length - 1 := by
      by_cases hkc : k < c
      · omega
      · rw [if_neg hkc] at hk
        have := (List.getElem?_eq_some_iff.mp hk).1
        omega
    by_cases hkc : k < c
    · rw [if_pos hkc] at hk
      obtain ⟨g1, g2, g3, g4⟩ := h7 k co hk
      refine ⟨?_, ?_, ?_, ?_⟩ <;> simp only [takeM, gI_uI, shfM, g_def, g_raw] <;> grind
    · rw [if_neg hkc] at hk
      obtain ⟨g1, g2, g3, g4⟩ := h7 (k + 1) co hk
      refine ⟨?_, ?_, ?_, ?_⟩ <;> simp only [takeM, gI_uI, shfM, g_def, g_raw] <;> grind
  · have e : gI (takeM me q c P.2.1.length) (q + 5) j = gI me (q + 5) j := by simp only [takeM, gI_uI, shfM, g_def, g_raw]; grind
    exact e.trans (h8 j hj)
theorem rep_pay {me : Mem} {q c : Nat} {P : Prs} (h : RepP me q P) (hc : c < P.2.1.length) : RepP (payM me q c P.2.1.length) q (payP P c) := by
  obtain ⟨co, hco⟩ := h.lt hc
  have ha : gI me (q + 2) c = co.2.1 := (h.2.2.2.2.2.2.1 c co hco).2.1
  have h' : RepP (uI me q 6 (gI me q 6 - gI me (q + 2) c)) q ((P.1.1 - co.2.1, P.1.2.1, P.1.2.2.1, P.1.2.2.2), P.2.1, P.2.2) := by
    obtain ⟨h1, h2, h3, h4, h5, h6, h7, h8⟩ := h
    refine ⟨?_, ?_, ?_, ?_, ?_, h6, fun k co' hk => ?_, fun j hj => ?_⟩
    · rw [gI_uI, if_pos (by refine ⟨?_, ?_⟩ <;> first | trivial | rfl | assumption | omega), h1, ha]
    · rw [gI_uI, if_neg (by omega)]; exact h2
    · rw [gI_uI, if_neg (by omega)]; exact h3
    · rw [gI_uI, if_neg (by omega)]; exact h4
    · rw [gI_uI, if_neg (by omega)]; exact h5
    · obtain ⟨g1, g2, g3, g4⟩ := h7 k co' hk
      exact ⟨by rw [gI_uI, if_neg (by omega)]; exact g1, by rw [gI_uI, if_neg (by omega)]; exact g2, by rw [gI_uI, if_neg (by omega)]; exact g3, by rw [gI_uI, if_neg (by omega)]; exact g4⟩
    · rw [gI_uI, if_neg (by omega)]; exact h8 j hj
  have h'' := rep_take h' hc
  have e : payP P c = takeP ((P.1.1 - co.2.1, P.1.2.1, P.1.2.2.1, P.1.2.2.2), P.2.1, P.2.2) c := by
    unfold payP takeP
    rw [hco]
    rfl
  rw [e]
  exact h''
theorem onl_pay (me : Mem) (q c n : Nat) : Onl me (payM me q c n) q (q + 6) := by
  refine Onl.tr (m := uI me q 6 (gI me q 6 - gI me (q + 2) c)) ⟨rfl, fun x hx => funext fun b => ?_⟩ (onl_take _ q c n)
  show gI (uI me q 6 (gI me q 6 - gI me (q + 2) c)) x b = gI me x b
  rw [gI_uI, if_neg (by omega)]
theorem rep_night {me : Mem} {q : Nat} {P : Prs} (h : RepP me q P) (hT0 : ∀ co ∈ P.2.1, ∃ l, l < 5 ∧ co.1 = nI l) : RepP (nightM me q P.2.1.length) q (restP P) := by
  obtain ⟨h1, h2, h3, h4, h5, h6, h7, h8⟩ := h
  have et : sumF (taxF me q) P.2.1.length = sumL (P.2.1.map (fun co => gI me (q + 5) co.1.toNatClampNeg)) := by
    refine sumF_eq _ _ _ (fun c co hc => ?_)
    unfold taxF
    rw [(h7 c co hc).1]
  have hT : ∀ co ∈ P.2.1, gI me (q + 5) co.1.toNatClampNeg = P.2.2 co.1.toNatClampNeg := fun co hco => by
    obtain ⟨l, hl, e⟩ := hT0 co hco
    rw [e, nI_clamp (by omega)]
    exact h8 l hl
  have g0 : ∀ a b, a ≠ q + 2 → (a ≠ q ∨ b ≠ 6) → gI (nightM me q P.2.1.length) a b = gI me a b := fun a b h1 h2 => by
    simp only [nightM, gI_uI, growM, g_def, g_raw]
    rw [if_neg (by omega), if_neg (by omega)]
  refine ⟨?_, (g0 _ _ (by omega) (by omega)).trans h2, (g0 _ _ (by omega) (by omega)).trans h3, (g0 _ _ (by omega) (by omega)).trans h4, ?_, by simpa [restP] using h6, fun k co' hk => ?_, fun j hj => (g0 _ _ (by omega) (by omega)).trans (h8 j hj)⟩
  · simp only [nightM, gI_uI]
    rw [if_pos (by refine ⟨?_, ?_⟩ <;> first | trivial | rfl | assumption | omega), h1, h2, et]
    unfold restP taxOf
    congr 2
    apply List.map_congr_left
    intro co hco
    obtain ⟨c, hcc⟩ := List.getElem?_of_mem hco
    exact hT co hco
  · rw [g0 _ _ (by omega) (by omega), h5]
    simp [restP]
  · simp only [restP, List.getElem?_map] at hk
    cases hc : P.2.1[k]? with
    | none => rw [hc] at hk; cases hk
    | some co =>
      rw [hc] at hk
      cases hk
      have hlt : k < P.2.1.length := (List.getElem?_eq_some_iff.mp hc).1
      obtain ⟨g1, g2, g3, g4⟩ := h7 k co hc
      refine ⟨(g0 _ _ (by omega) (by omega)).trans g1, ?_, (g0 _ _ (by omega) (by omega)).trans g3, (g0 _ _ (by omega) (by omega)).trans g4⟩
      simp only [nightM, gI_uI, growM, g_def, g_raw]
      rw [if_neg (by omega), if_pos (by refine ⟨?_, ?_⟩ <;> first | trivial | rfl | assumption | omega), g2, g3]
      rfl
theorem onl_night (me : Mem) (q n : Nat) : Onl me (nightM me q n) q (q + 6) := by
  refine ⟨rfl, fun x hx => funext fun b => ?_⟩
  show gI (nightM me q n) x b = gI me x b
  simp only [nightM, gI_uI, growM, g_def, g_raw]
  grind
theorem rep_fall {me : Mem} {q : Nat} {P : Prs} (h : RepP me q P) (day : Int32) : RepP (fallM me q day) q (fallP P day) := by
  obtain ⟨h1, h2, h3, h4, h5, h6, h7, h8⟩ := h
  have e : ∀ a b, (a ≠ q ∨ (b ≠ 6 ∧ b ≠ 9)) → gI (fallM me q day) a b = gI me a b := fun a b hab => by
    unfold fallM
    split
    · rw [gI_uI, if_neg (by omega), gI_uI, if_neg (by omega)]
    · rw [gI_uI, if_neg (by omega)]
  refine ⟨?_, (e _ _ (by omega)).trans h2, (e _ _ (by omega)).trans h3, ?_, (e _ _ (by omega)).trans h5, h6, fun k co' hk => ?_, fun j hj => (e _ _ (by omega)).trans (h8 j hj)⟩
  · unfold fallM
    split
    · rw [gI_uI, if_neg (by omega), gI_uI, if_pos (by refine ⟨?_, ?_⟩ <;> first | trivial | rfl | assumption | omega)]; rfl
    · rw [gI_uI, if_pos (by refine ⟨?_, ?_⟩ <;> first | trivial | rfl | assumption | omega)]; rfl
  · unfold fallM fallP
    rw [h4]
    dsimp only
    split
    · rw [gI_uI, if_pos (by refine ⟨?_, ?_⟩ <;> first | trivial | rfl | assumption | omega)]
    · rw [gI_uI, if_neg (by omega)]; exact h4
  · obtain ⟨g1, g2, g3, g4⟩ := h7 k co' hk
    exact ⟨(e _ _ (by omega)).trans g1, (e _ _ (by omega)).trans g2, (e _ _ (by omega)).trans g3, (e _ _ (by omega)).trans g4⟩
theorem onl_fall (me : Mem) (q : Nat) (day : Int32) : Onl me (fallM me q day) q (q + 6) := by
  refine ⟨?_, fun x hx => funext fun b => ?_⟩
  · unfold fallM; split <;> rfl
  · show gI (fallM me q day) x b = gI me x b
    unfold fallM
    split
    · rw [gI_uI, if_neg (by omega), gI_uI, if_neg (by omega)]
    · rw [gI_uI, if_neg (by omega)]
theorem rep_like {me : Mem} {q q2 : Nat} {P : Prs} (h : RepP me q2 P) (hne : q2 + 6 ≤ q ∨ q + 6 ≤ q2) : RepP (likeM me q q2) q P := by
  obtain ⟨h1, h2, h3, h4, h5, h6, h7, h8⟩ := h
  have e0 : ∀ b, 5 ≤ b → b ≤ 9 → gI (likeM me q q2) q b = gI me q2 b := fun b h1 h2 => by
    simp only [likeM, g_def, g_raw]; rw [if_pos (by refine ⟨?_, ?_, ?_⟩ <;> first | trivial | rfl | assumption | omega)]
  have e1 : ∀ k b, 1 ≤ k → k ≤ 4 → b < 8 → gI (likeM me q q2) (q + k) b = gI me (q2 + k) b := fun k b h1 h2 h3 => by
    simp only [likeM, g_def, g_raw]; rw [if_neg (by omega), if_pos (by omega), show q2 + (q + k - q) = q2 + k by omega]
  refine ⟨(e0 6 (by omega) (by omega)).trans h1, (e0 7 (by omega) (by omega)).trans h2, (e0 8 (by omega) (by omega)).trans h3, (e0 9 (by omega) (by omega)).trans h4, (e0 5 (by omega) (by omega)).trans h5, h6, fun c co hc => ?_, fun l hl => ?_⟩
  · have hlt : c < P.2.1.length := (List.getElem?_eq_some_iff.mp hc).1
    obtain ⟨g1, g2, g3, g4⟩ := h7 c co hc
    exact ⟨(e1 1 c (by omega) (by omega) (by omega)).trans g1, (e1 2 c (by omega) (by omega) (by omega)).trans g2, (e1 3 c (by omega) (by omega) (by omega)).trans g3, (e1 4 c (by omega) (by omega) (by omega)).trans g4⟩
  · rw [← h8 l hl]
    simp only [likeM, g_def, g_raw]; rw [if_neg (by omega), if_neg (by omega), if_pos (by refine ⟨?_, ?_⟩ <;> first | trivial | rfl | assumption | omega)]
theorem onl_like (me : Mem) (q q2 : Nat) : Onl me (likeM me q q2) q (q + 6) := by
  refine ⟨rfl, fun x hx => funext fun b => ?_⟩
  simp only [likeM]
  grind
end
section
/-! ===== the world ===== -/
def isW (sh : List Shp) (me : Mem) (w : Nat) : Prop := sh[w]? = some (.inl 5) ∧ sh[w + 1]? = some (.inr (1, 5)) ∧ sh[w + 2]? = some (.inr (0, 12)) ∧ sh[w + 3]? = some (.inr (0, 8)) ∧ sh[w + 4]? = some (.inr (0, 8)) ∧
  gR me w 0 = some (w + 1) ∧ gR me w 1 = some (w + 2) ∧ gR me w 2 = some (w + 3) ∧ gR me w 3 = some (w + 4) ∧ ∀ p, p < 5 → gR me (w + 1) p = some (w + 5 + 6 * p) ∧ isP sh me (w + 5 + 6 * p)
theorem isW.of {sh : List Shp} {me m : Mem} {w : Nat} (h : isW sh me w) (h2 : m.2 = me.2) : isW sh m w := by
  unfold isW at *
  obtain ⟨a1, a2, a3, a4, a5, a6, a7, a8, a9, a10⟩ := h
  refine ⟨a1, a2, a3, a4, a5, ?_, ?_, ?_, ?_, fun p hp => ⟨?_, ((a10 p hp).2).of h2⟩⟩
  all_goals unfold gR at *
  all_goals rw [h2]
  · exact a6
  · exact a7
  · exact a8
  · exact a9
  · exact (a10 p hp).1
def RepPs (me : Mem) (w : Nat) (ps : List Prs) : Prop := ps.length ≤ 5 ∧ ∀ p P, ps[p]? = some P → RepP me (w + 5 + 6 * p) P
def RepW (me : Mem) (w : Nat) (W : Wld) : Prop := RepPs me w W.1 ∧ gI me w 4 = nI W.1.length ∧ (∀ m, m < 12 → gI me (w + 2) m = W.2.1 m) ∧ gI me w 7 = W.2.2.1.1 ∧ gI me w 8 = W.2.2.1.2.1 ∧ gI me w 9 = W.2.2.1.2.2 ∧ gI me w 6 = nI W.2.2.2.1 ∧ W.2.2.2.1 ≤ 359 ∧ gI me w 5 = nI W.2.2.2.2.length ∧ W.2.2.2.2.length ≤ 8 ∧ (∀ k a, W.2.2.2.2[k]? = some a → gI me (w + 3) k = a.1 ∧ gI me (w + 4) k = a.2)
theorem RepW.fr {me m : Mem} {w : Nat} {W : Wld} (h : RepW me w W) (hf : ∀ a, w ≤ a → a < w + 35 → m.1 a = me.1 a) : RepW m w W := by
  have e : ∀ k b, k < 35 → gI m (w + k) b = gI me (w + k) b := fun k b hk => congrFun (hf (w + k) (by omega) (by omega)) b
  obtain ⟨h1, h2, h3, h4, h5, h6, h7, h8, h9, h10, h11⟩ := h
  refine ⟨⟨h1.1, fun p P hp => (h1.2 p P hp).fr (fun a h0 h01 => hf a (by omega) ?_)⟩, (e 0 _ (by omega)).trans h2, fun j hj => (e 2 _ (by omega)).trans (h3 j hj), (e 0 _ (by omega)).trans h4, (e 0 _ (by omega)).trans h5, (e 0 _ (by omega)).trans h6, (e 0 _ (by omega)).trans h7, h8, (e 0 _ (by omega)).trans h9, h10, fun k a hk => ⟨(e 3 _ (by omega)).trans (h11 k a hk).1, (e 4 _ (by omega)).trans (h11 k a hk).2⟩⟩
  have := (List.getElem?_eq_some_iff.mp hp).1
  have := h1.1
  omega
def lenP (P : Prs) : Prop := ∀ co ∈ P.2.1, ∃ l, l < 5 ∧ co.1 = nI l
def lenW (W : Wld) : Prop := ∀ P ∈ W.1, lenP P
/-- the number p is that of one of the people -/
def isPn (ps : List Prs) (p : Int32) : Prop := ∃ k, k < ps.length ∧ p = nI k
/-- c is the number of a coat of his -/
def isCt (ps : List Prs) (p c : Int32) : Prop := ∃ k P j, ps[k]? = some P ∧ p = nI k ∧ j < P.2.1.length ∧ c = nI j
theorem in_iff {n : Nat} (hn : n < 2 ^ 31) (p : Int32) : (0 ≤ p ∧ p ≤ nI n - 1) ↔ ∃ k, k < n ∧ p = nI k := by
  constructor
  · rintro ⟨h1, h2⟩
    obtain ⟨j, hj, rfl⟩ := nI_of (Int32.not_lt.mpr h1)
    refine ⟨j, ?_, rfl⟩
    cases n with
    | zero =>
      exfalso
      have : nI j ≤ (-1 : Int32) := h2
      exact absurd h1 (by
        intro h
        have h3 := Int32.le_trans h h2
        exact absurd h3 (by decide))
    | succ n =>
      rw [nI_pred, nI_leI hj (by omega)] at h2
      omega
  · rintro ⟨k, hk, rfl⟩
    obtain ⟨n, rfl⟩ : ∃ m, n = m + 1 := ⟨n - 1, by omega⟩
    rw [nI_pred]
    exact ⟨nI_pos' (by omega), nI_le (by omega) (by omega)⟩
theorem if_or {P : Prop} [Decidable P] {x : Int32} (h : x = if P then 1 else 0) : x = 1 ∧ P ∨ x = 0 ∧ ¬ P := by
  by_cases hP : P
  · rw [if_pos hP] at h; exact Or.inl ⟨h, hP⟩
  · rw [if_neg hP] at h; exact Or.inr ⟨h, hP⟩
theorem or_nar {P Q : Prop} {x : Int32} (h : x = 1 ∧ P ∨ x = 0 ∧ Q) : narrow .boolean (.int x) = .int x := by
  rcases h with ⟨rfl, -⟩ | ⟨rfl, -⟩ <;> decide
/-! nights -/
def nightWd (W : Wld) : Wld := (W.1.map (fun P => nightP P (W.2.1 ((W.2.2.2.1 + 1) / 30)) (nI (W.2.2.2.1 + 1))), W.2.1, W.2.2.1, W.2.2.2.1 + 1, W.2.2.2.2)
def nightsW : Nat → Wld → Wld
  | 0, W => W
  | k + 1, W => nightsW k (nightWd W)
theorem lenP_rest {P : Prs} (h : lenP P) : lenP (restP P) := by
  intro co hco
  simp only [restP] at hco
  obtain ⟨c0, h0, rfl⟩ := List.mem_map.mp hco
  exact h c0 h0
theorem lenP_night {P : Prs} (h : lenP P) (a b : Int32) : lenP (nightP P a b) := by
  unfold nightP
  split
  · exact lenP_rest h
  · exact lenP_rest h
theorem lenW_night {W : Wld} (h : lenW W) : lenW (nightWd W) := by
  intro P hP
  simp only [nightWd] at hP
  obtain ⟨P0, h0, rfl⟩ := List.mem_map.mp hP
  exact lenP_night (h P0 h0) _ _
theorem hot_iff {me : Mem} {q : Nat} {P : Prs} (h : RepP me q P) (heat : Int32) : hotP me q P.2.1.length heat ↔ maxI (P.1.2.2.1 - heat) 0 < thickOf P := by
  unfold hotP thickOf
  rw [h.2.2.1, sumF_eq (gI me (q + 4)) P.2.1 (fun co => co.2.2.2) (fun c co hc => (h.2.2.2.2.2.2.1 c co hc).2.2.2)]
section WORLD
variable {sh : List Shp} {me : Mem} {d w : Nat} {W : Wld}
set_option maxHeartbeats 4000000 in
set_option maxRecDepth 100000 in
theorem c_hasPerson (p : Int32) (hw : isW sh me w) (hr : RepW me w W) (hd : 1 ≤ d) : CI d mX5_hasPerson sh [.ref w, .int p] me (fun x m => (x = 1 ∧ isPn W.1 p ∨ x = 0 ∧ ¬ isPn W.1 p) ∧ m = me) := by
  obtain ⟨s0, s1, s2, s3, s4, r0, r1, r2, r3, hP⟩ := hw
  refine CI.mk (L := [.ref w, .int p]) (by decide) (Nat.le_of_ble_eq_true rfl) rfl ?_
  refine ld_i1 (np := 1) dX5_hasPerson_0 rfl ?_
  refine wl_iconst (np := 2) (v := 0) dX5_hasPerson_1 rfl (rfl) ?_
  refine ld_a0 (np := 3) dX5_hasPerson_2 rfl ?_
  refine wl_geti (np := 6) dX5_hasPerson_3 rfl fl_X5_28 (by decide) (by assumption) ?_
  refine wl_iconst (np := 7) (v := 1) dX5_hasPerson_6 rfl (rfl) ?_
  refine wl_isub (np := 8) dX5_hasPerson_7 rfl ?_
  refine ciSN_3 (np := 11) dX5_hasPerson_8 rfl lk_X5_57 (Nat.le_of_ble_eq_true rfl) (by omega) (Nat.le_refl _) (Nat.le_refl _) (c_isWithin _ _ _) (fun x_8 m_8 h_8 => ?_)
  obtain ⟨rfl, q_8⟩ := h_8
  have q_8 := q_8.symm
  subst q_8
  refine wi_ret dX5_hasPerson_11 rfl (wi_nar) (Nat.le_refl _) (Nat.le_refl _) ?_
  refine ⟨?_, rfl⟩
  have h := if_or (x := if 0 ≤ p ∧ p ≤ gI me w 4 - 1 then 1 else 0) rfl
  have hl := hr.1.1
  have e : (0 ≤ p ∧ p ≤ gI me w 4 - 1) ↔ isPn W.1 p := by rw [hr.2.1]; exact in_iff (by omega) p
  rcases h with ⟨h1, h2⟩ | ⟨h1, h2⟩
  · exact Or.inl ⟨h1, e.mp h2⟩
  · exact Or.inr ⟨h1, fun q => h2 (e.mpr q)⟩
set_option maxHeartbeats 4000000 in
set_option maxRecDepth 100000 in
theorem c_hasCoat (p c : Int32) (hw : isW sh me w) (hr : RepW me w W) (hd : 2 ≤ d) : CI d mX5_hasCoat sh [.ref w, .int p, .int c] me (fun x m => (x = 1 ∧ isCt W.1 p c ∨ x = 0 ∧ ¬ isCt W.1 p c) ∧ m = me) := by
  have hws := hw
  obtain ⟨s0, s1, s2, s3, s4, r0, r1, r2, r3, hP⟩ := hw
  refine CI.mk (L := [.ref w, .int p, .int c]) (by decide) (Nat.le_of_ble_eq_true rfl) rfl ?_
  refine ld_a0 (np := 1) dX5_hasCoat_0 rfl ?_
  refine ld_i1 (np := 2) dX5_hasCoat_1 rfl ?_
  refine ciV_1 (np := 5) dX5_hasCoat_2 rfl lk_X5_61 (by assumption) (Nat.le_of_ble_eq_true rfl) (by omega) (Nat.le_refl _) (Nat.le_refl _) (c_hasPerson p hws hr (by omega)) (fun x_2 m_2 h_2 => ?_)
  obtain ⟨h2, q2⟩ := h_2
  have q2 := q2.symm
  subst q2
  refine wl_if_eq (np := 8) (tg := 31) dX5_hasCoat_5 rfl rfl (fun c_5 => ?_) (fun c_5 => ?_)
  · refine wl_iconst (np := 32) (v := 0) dX5_hasCoat_31 rfl (rfl) ?_
    refine wi_ret dX5_hasCoat_32 rfl (by decide) (Nat.le_refl _) (Nat.le_refl _) ?_
    refine ⟨Or.inr ⟨rfl, ?_⟩, rfl⟩
    rintro ⟨k, P, j, h3, h4, h5, h6⟩
    rcases h2 with ⟨h7, -⟩ | ⟨h7, h8⟩
    · rw [c_5] at h7; exact absurd h7 (by decide)
    · exact h8 ⟨k, (List.getElem?_eq_some_iff.mp h3).1, h4⟩
  · rcases h2 with ⟨h7, k, hk, rfl⟩ | ⟨h7, h8⟩
    · have hl := hr.1.1
      obtain ⟨g1, g2⟩ := hP k (by omega)
      have sP := g2.1
      obtain ⟨P, hPk⟩ : ∃ P, W.1[k]? = some P := ⟨_, List.getElem?_eq_getElem hk⟩
      have hrP := hr.1.2 k P hPk
      have hlen := hrP.2.2.2.2.2.1
      have e : (0 ≤ c ∧ c ≤ gI me (w + 5 + 6 * k) 5 - 1) ↔ isCt W.1 (nI k) c := by
        rw [hrP.2.2.2.2.1, in_iff (by omega) c]
        constructor
        · rintro ⟨j, hj, rfl⟩
          exact ⟨k, P, j, hPk, rfl, hj, rfl⟩
        · rintro ⟨k', P', j, h3, h4, h5, rfl⟩
          have hk' := (List.getElem?_eq_some_iff.mp h3).1
          rw [nI_eq (by omega) (by omega)] at h4
          subst h4
          rw [hPk] at h3
          cases h3
          exact ⟨j, h5, rfl⟩
      refine ld_i2 (np := 9) dX5_hasCoat_8 rfl ?_
      refine wl_iconst (np := 10) (v := 0) dX5_hasCoat_9 rfl (rfl) ?_
      refine ld_a0 (np := 11) dX5_hasCoat_10 rfl ?_
      refine wl_getr (np := 14) dX5_hasCoat_11 rfl fl_X5_11 rfl (by assumption) (by first | assumption | (rw [nI_clamp (by omega)]; assumption)) ?_
      refine ld_i1 (np := 15) dX5_hasCoat_14 rfl ?_
      refine wl_aaload (np := 16) dX5_hasCoat_15 rfl (by assumption) (by decide) (vp_in_nI (by omega) (by decide)) (by first | assumption | (rw [nI_clamp (by omega)]; assumption)) ?_
      refine wl_geti (np := 19) dX5_hasCoat_16 rfl fl_X5_65 (by decide) (by assumption) ?_
      refine wl_iconst (np := 20) (v := 1) dX5_hasCoat_19 rfl (rfl) ?_
      refine wl_isub (np := 21) dX5_hasCoat_20 rfl ?_
      refine ciSN_3 (np := 24) dX5_hasCoat_21 rfl lk_X5_57 (Nat.le_of_ble_eq_true rfl) (by omega) (Nat.le_refl _) (Nat.le_refl _) (c_isWithin _ _ _) (fun x_21 m_21 h_21 => ?_)
      obtain ⟨rfl, q_21⟩ := h_21
      have q_21 := q_21.symm
      subst q_21
      refine wl_if_eq (np := 27) (tg := 31) dX5_hasCoat_24 rfl rfl (fun c_24 => ?_) (fun c_24 => ?_)
      · refine wl_iconst (np := 32) (v := 0) dX5_hasCoat_31 rfl (rfl) ?_
        refine wi_ret dX5_hasCoat_32 rfl (by decide) (Nat.le_refl _) (Nat.le_refl _) ?_
        refine ⟨Or.inr ⟨rfl, fun q => ?_⟩, rfl⟩
        rw [if_pos (e.mpr q)] at c_24
        exact absurd c_24 (by decide)
      · refine wl_iconst (np := 28) (v := 1) dX5_hasCoat_27 rfl (rfl) ?_
        refine wl_goto (tg := 32) dX5_hasCoat_28 rfl ?_
        refine wi_ret dX5_hasCoat_32 rfl (by decide) (Nat.le_refl _) (Nat.le_refl _) ?_
        refine ⟨Or.inl ⟨rfl, ?_⟩, rfl⟩
        refine e.mp (Classical.byContradiction fun q => ?_)
        rw [if_neg q] at c_24
        exact c_24 rfl
    · exact absurd h7 c_5
set_option maxHeartbeats 4000000 in
set_option maxRecDepth 100000 in
theorem c_coatsOfAll (hw : isW sh me w) (hr : RepW me w W) : CI d mX5_coatsOfAll sh [.ref w] me (fun x m => x = sumL (W.1.map (fun P => nI P.2.1.length)) ∧ m = me) := by
  obtain ⟨s0, s1, s2, s3, s4, r0, r1, r2, r3, hP⟩ := hw
  have hl := hr.1.1
  have hn := hr.2.1
  have hsum : sumF (fun p => gI me (w + 5 + 6 * p) 5) W.1.length = sumL (W.1.map (fun P => nI P.2.1.length)) := sumF_eq _ _ _ (fun p P hp => (hr.1.2 p P hp).2.2.2.2.1)
  have key : ∀ fuel i, W.1.length - i < fuel → i ≤ W.1.length → Wa mX5_coatsOfAll (0, fun _ => 0) d 0 0 sh.length (PI sh (fun x m => x = sumL (W.1.map (fun P => nI P.2.1.length)) ∧ m = me)) 4 [.ref w, .int (sumF (fun p => gI me (w + 5 + 6 * p) 5) i), .int (nI i)] [] sh me 0 0 := by
    intro fuel
    induction fuel with
    | zero => intro i h; omega
    | succ fuel ih =>
      intro i hi hin
      refine ld_i2 (np := 5) dX5_coatsOfAll_4 rfl ?_
      refine ld_a0 (np := 6) dX5_coatsOfAll_5 rfl ?_
      refine wl_geti (np := 9) dX5_coatsOfAll_6 rfl fl_X5_28 (by decide) (by assumption) ?_
      refine wl_icmp_ge (np := 12) (tg := 30) dX5_coatsOfAll_9 rfl rfl (fun c_9 => ?_) (fun c_9 => ?_)
      · refine ld_i1 (np := 31) dX5_coatsOfAll_30 rfl ?_
        refine wi_ret dX5_coatsOfAll_31 rfl (rfl) (Nat.le_refl _) (Nat.le_refl _) ?_
        rw [hn, nI_le_iff (by omega) (by omega)] at c_9
        rw [show i = W.1.length by omega]
        exact ⟨hsum, rfl⟩
      · rw [hn, nI_le_iff (by omega) (by omega)] at c_9
        obtain ⟨g1, g2⟩ := hP i (by omega)
        have sP := g2.1
        refine ld_i1 (np := 13) dX5_coatsOfAll_12 rfl ?_
        refine ld_a0 (np := 14) dX5_coatsOfAll_13 rfl ?_
        refine wl_getr (np := 17) dX5_coatsOfAll_14 rfl fl_X5_11 rfl (by assumption) (by first | assumption | (rw [nI_clamp (by omega)]; assumption)) ?_
        refine ld_i2 (np := 18) dX5_coatsOfAll_17 rfl ?_
        refine wl_aaload (np := 19) dX5_coatsOfAll_18 rfl (by assumption) (by decide) (vp_in_nI (by omega) (by decide)) (by first | assumption | (rw [nI_clamp (by omega)]; assumption)) ?_
        refine wl_geti (np := 22) dX5_coatsOfAll_19 rfl fl_X5_65 (by decide) (by assumption) ?_
        refine wl_iadd (np := 23) dX5_coatsOfAll_22 rfl ?_
        refine st_i1 (np := 24) dX5_coatsOfAll_23 rfl (by decide) rfl ?_
        refine inc_2 (np := 27) (v := _ + 1) dX5_coatsOfAll_24 rfl rfl (by decide) rfl ?_
        refine wl_goto (tg := 4) dX5_coatsOfAll_27 rfl ?_
        rw [← nI_succ]
        exact ih (i + 1) (by omega) (by omega)
  refine CI.mk (L := [.ref w, .float 0, .float 0]) (by decide) (Nat.le_of_ble_eq_true rfl) rfl ?_
  refine wl_iconst (np := 1) (v := 0) dX5_coatsOfAll_0 rfl (rfl) ?_
  refine st_i1 (np := 2) dX5_coatsOfAll_1 rfl (by decide) rfl ?_
  refine wl_iconst (np := 3) (v := 0) dX5_coatsOfAll_2 rfl (rfl) ?_
  refine st_i2 (np := 4) dX5_coatsOfAll_3 rfl (by decide) rfl ?_
  exact key (W.1.length + 1) 0 (by omega) (by omega)
def fellF (f : Nat → Int32) : Nat → Int32
  | 0 => 0
  | p + 1 => if f p = -4 then fellF f p else fellF f p ||| (1 <<< (nI p &&& 31))
set_option maxHeartbeats 4000000 in
set_option maxRecDepth 100000 in
theorem c_fallenOnes (hw : isW sh me w) (hr : RepW me w W) : CI d mX5_fallenOnes sh [.ref w] me (fun x m => x = fellF (fun p => gI me (w + 5 + 6 * p) 9) W.1.length ∧ m = me) := by
  obtain ⟨s0, s1, s2, s3, s4, r0, r1, r2, r3, hP⟩ := hw
  have hl := hr.1.1
  have hn := hr.2.1
  have key : ∀ fuel i, W.1.length - i < fuel → i ≤ W.1.length → Wa mX5_fallenOnes (0, fun _ => 0) d 0 0 sh.length (PI sh (fun x m => x = fellF (fun p => gI me (w + 5 + 6 * p) 9) W.1.length ∧ m = me)) 4 [.ref w, .int (fellF (fun p => gI me (w + 5 + 6 * p) 9) i), .int (nI i)] [] sh me 0 0 := by
    intro fuel
    induction fuel with
    | zero => intro i h; omega
    | succ fuel ih =>
      intro i hi hin
      refine ld_i2 (np := 5) dX5_fallenOnes_4 rfl ?_
      refine ld_a0 (np := 6) dX5_fallenOnes_5 rfl ?_
      refine wl_geti (np := 9) dX5_fallenOnes_6 rfl fl_X5_28 (by decide) (by assumption) ?_
      refine wl_icmp_ge (np := 12) (tg := 38) dX5_fallenOnes_9 rfl rfl (fun c_9 => ?_) (fun c_9 => ?_)
      · refine ld_i1 (np := 39) dX5_fallenOnes_38 rfl ?_
        refine wi_ret dX5_fallenOnes_39 rfl (rfl) (Nat.le_refl _) (Nat.le_refl _) ?_
        rw [hn, nI_le_iff (by omega) (by omega)] at c_9
        rw [show i = W.1.length by omega]
        exact ⟨rfl, rfl⟩
      · rw [hn, nI_le_iff (by omega) (by omega)] at c_9
        obtain ⟨g1, g2⟩ := hP i (by omega)
        have sP := g2.1
        refine ld_a0 (np := 13) dX5_fallenOnes_12 rfl ?_
        refine wl_getr (np := 16) dX5_fallenOnes_13 rfl fl_X5_11 rfl (by assumption) (by first | assumption | (rw [nI_clamp (by omega)]; assumption)) ?_
        refine ld_i2 (np := 17) dX5_fallenOnes_16 rfl ?_
        refine wl_aaload (np := 18) dX5_fallenOnes_17 rfl (by assumption) (by decide) (vp_in_nI (by omega) (by decide)) (by first | assumption | (rw [nI_clamp (by omega)]; assumption)) ?_
        refine wl_geti (np := 21) dX5_fallenOnes_18 rfl fl_X5_68 (by decide) (by assumption) ?_
        refine wl_bipush (np := 23) (v := -4) dX5_fallenOnes_21 rfl (by decide) ?_
        refine wl_icmp_eq (np := 26) (tg := 32) dX5_fallenOnes_23 rfl rfl (fun c_23 => ?_) (fun c_23 => ?_)
        · have e : fellF (fun p => gI me (w + 5 + 6 * p) 9) (i + 1) = fellF (fun p => gI me (w + 5 + 6 * p) 9) i := if_pos c_23
          refine inc_2 (np := 35) (v := _ + 1) dX5_fallenOnes_32 rfl rfl (by decide) rfl ?_
          refine wl_goto (tg := 4) dX5_fallenOnes_35 rfl ?_
          rw [← nI_succ, ← e]
          exact ih (i + 1) (by omega) (by omega)
        · have e : fellF (fun p => gI me (w + 5 + 6 * p) 9) (i + 1) = fellF (fun p => gI me (w + 5 + 6 * p) 9) i ||| (1 <<< (nI i &&& 31)) := if_neg c_23
          refine ld_i1 (np := 27) dX5_fallenOnes_26 rfl ?_
          refine wl_iconst (np := 28) (v := 1) dX5_fallenOnes_27 rfl (rfl) ?_
          refine ld_i2 (np := 29) dX5_fallenOnes_28 rfl ?_
          refine wl_ishl (np := 30) dX5_fallenOnes_29 rfl ?_
          refine wl_ior (np := 31) dX5_fallenOnes_30 rfl ?_
          refine st_i1 (np := 32) dX5_fallenOnes_31 rfl (by decide) rfl ?_
          refine inc_2 (np := 35) (v := _ + 1) dX5_fallenOnes_32 rfl rfl (by decide) rfl ?_
          refine wl_goto (tg := 4) dX5_fallenOnes_35 rfl ?_
          rw [← nI_succ, ← e]
          exact ih (i + 1) (by omega) (by omega)
  refine CI.mk (L := [.ref w, .float 0, .float 0]) (by decide) (Nat.le_of_ble_eq_true rfl) rfl ?_
  refine wl_iconst (np := 1) (v := 0) dX5_fallenOnes_0 rfl (rfl) ?_
  refine st_i1 (np := 2) dX5_fallenOnes_1 rfl (by decide) rfl ?_
  refine wl_iconst (np := 3) (v := 0) dX5_fallenOnes_2 rfl (rfl) ?_
  refine st_i2 (np := 4) dX5_fallenOnes_3 rfl (by decide) rfl ?_
  exact key (W.1.length + 1) 0 (by omega) (by omega)
set_option maxHeartbeats 4000000 in
set_option maxRecDepth 100000 in
theorem c_heatOn {dd : Nat} (hw : isW sh me w) (hdd : dd ≤ 359) (hd : 1 ≤ d) : CI d mX5_heatOn sh [.ref w, .int (nI dd)] me (fun x m => x = gI me (w + 2) (dd / 30) ∧ m = me) := by
  obtain ⟨s0, s1, s2, s3, s4, r0, r1, r2, r3, hP⟩ := hw
  have e : nI dd / 30 = nI (dd / 30) := pk_div (d := 30) (by omega) (by decide) (by decide)
  have e2 : (0 : Int32) ≤ nI (dd / 30) ∧ nI (dd / 30) ≤ 11 := ⟨nI_pos' (by omega), (show nI (dd / 30) ≤ nI 11 from nI_le (by omega) (by decide))⟩
  refine CI.mk (L := [.ref w, .int (nI dd), .float 0]) (by decide) (Nat.le_of_ble_eq_true rfl) rfl ?_
  refine ld_i1 (np := 1) dX5_heatOn_0 rfl ?_
  refine wl_bipush (np := 3) (v := 30) dX5_heatOn_1 rfl (by decide) ?_
  refine wl_idiv (np := 4) dX5_heatOn_3 rfl (by decide) ?_
  refine st_i2 (np := 5) dX5_heatOn_4 rfl (by decide) rfl ?_
  refine ld_i2 (np := 6) dX5_heatOn_5 rfl ?_
  refine wl_iconst (np := 7) (v := 0) dX5_heatOn_6 rfl (rfl) ?_
  refine wl_bipush (np := 9) (v := 11) dX5_heatOn_7 rfl (by decide) ?_
  refine ciSN_3 (np := 12) dX5_heatOn_9 rfl lk_X5_57 (Nat.le_of_ble_eq_true rfl) (by omega) (Nat.le_refl _) (Nat.le_refl _) (c_isWithin _ _ _) (fun x_9 m_9 h_9 => ?_)
  obtain ⟨rfl, q_9⟩ := h_9
  have q_9 := q_9.symm
  subst q_9
  refine wl_if_eq (np := 15) (tg := 24) dX5_heatOn_12 rfl rfl (fun c_12 => ?_) (fun c_12 => ?_)
  · rw [e, if_pos e2] at c_12
    exact absurd c_12 (by decide)
  · rw [e]
    refine ld_a0 (np := 16) dX5_heatOn_15 rfl ?_
    refine wl_getr (np := 19) dX5_heatOn_16 rfl fl_X5_17 rfl (by assumption) (by assumption) ?_
    refine ld_i2 (np := 20) dX5_heatOn_19 rfl ?_
    refine wl_iaload (np := 21) dX5_heatOn_20 rfl (inA_n s2 (by omega) (by decide)) ?_
    refine wl_goto (tg := 25) dX5_heatOn_21 rfl ?_
    refine wi_ret dX5_heatOn_25 rfl (rfl) (Nat.le_refl _) (Nat.le_refl _) ?_
    rw [nI_clamp (by omega)]
    exact ⟨rfl, rfl⟩
end WORLD
end
section
section WORLD2
variable {sh : List Shp} {me : Mem} {d w : Nat} {W : Wld}
theorem mem_of_get {α : Type} {l : List α} {k : Nat} {x : α} (h : l[k]? = some x) : x ∈ l := List.mem_of_getElem? h
set_option maxHeartbeats 4000000 in
set_option maxRecDepth 100000 in
theorem c_W_passNight (hw : isW sh me w) (hr : RepW me w W) (hlen : lenW W) (hday : W.2.2.2.1 < 359) (hd : 3 ≤ d) : CV d mX5_passNight sh [.ref w] me (fun m => RepW m w (nightWd W) ∧ Onl me m w (w + 35)) := by
  have hws := hw
  obtain ⟨s0, s1, s2, s3, s4, r0, r1, r2, r3, hP⟩ := hw
  have hr0 := hr
  obtain ⟨⟨hn5, hps⟩, hn, hh, ho1, ho2, ho3, hdy, hdl, hwn, hw8, hwr⟩ := hr
  have key : ∀ fuel i (m : Mem), W.1.length - i < fuel → i ≤ W.1.length → m.2 = me.2 → (∀ a, ¬ (w ≤ a ∧ a < w + 35) → m.1 a = me.1 a) → (∀ b, b ≠ 6 → gI m w b = gI me w b) → gI m w 6 = nI (W.2.2.2.1 + 1) → (∀ a b, w < a → a < w + 5 → gI m a b = gI me a b) →
      (∀ p P, W.1[p]? = some P → RepP m (w + 5 + 6 * p) (if p < i then nightP P (W.2.1 ((W.2.2.2.1 + 1) / 30)) (nI (W.2.2.2.1 + 1)) else P)) →
      Wa mX5_passNight (0, fun _ => 0) d 0 0 sh.length (PV sh (fun m => RepW m w (nightWd W) ∧ Onl me m w (w + 35))) 12 [.ref w, .int (nI i)] [] sh m 0 0 := by
    intro fuel
    induction fuel with
    | zero => intro i m h; omega
    | succ fuel ih =>
      intro i m hi hin hm2 hout hwb hw6 hmid hpp
      obtain ⟨I1, R1⟩ := m
      obtain rfl : R1 = me.2 := hm2
      refine ld_i1 (np := 13) dX5_passNight_12 rfl ?_
      refine ld_a0 (np := 14) dX5_passNight_13 rfl ?_
      refine wl_geti (np := 17) dX5_passNight_14 rfl fl_X5_28 (by decide) (by assumption) ?_
      refine wl_icmp_ge (np := 20) (tg := 68) dX5_passNight_17 rfl rfl (fun c_17 => ?_) (fun c_17 => ?_)
      · rw [hwb 4 (by omega), hn, nI_le_iff (by omega) (by omega)] at c_17
        have hie : i = W.1.length := by omega
        refine wv_ret dX5_passNight_68 rfl (Nat.le_refl _) (Nat.le_refl _) ?_
        refine ⟨⟨⟨by simpa [nightWd] using hn5, fun p P' hp => ?_⟩, ?_, fun j hj => (hmid _ _ (by omega) (by omega)).trans (hh j hj), (hwb _ (by omega)).trans ho1, (hwb _ (by omega)).trans ho2, (hwb _ (by omega)).trans ho3, hw6, by simp only [nightWd]; omega, (hwb _ (by omega)).trans hwn, hw8, fun k a hk => ⟨(hmid _ _ (by omega) (by omega)).trans (hwr k a hk).1, (hmid _ _ (by omega) (by omega)).trans (hwr k a hk).2⟩⟩, rfl, hout⟩
        · simp only [nightWd, List.getElem?_map] at hp
          cases hq : W.1[p]? with
          | none => rw [hq] at hp; cases hp
          | some P =>
            rw [hq] at hp
            cases hp
            have hlt := (List.getElem?_eq_some_iff.mp hq).1
            have := hpp p P hq
            rw [if_pos (by omega)] at this
            exact this
        · rw [hwb 4 (by omega), hn]; simp [nightWd]
      · rw [hwb 4 (by omega), hn, nI_le_iff (by omega) (by omega)] at c_17
        obtain ⟨g1, g2⟩ := hP i (by omega)
        have sP := g2.1
        obtain ⟨P, hPi⟩ : ∃ P, W.1[i]? = some P := ⟨_, List.getElem?_eq_getElem (by omega)⟩
        have hrP := hpp i P hPi
        rw [if_neg (Nat.lt_irrefl i)] at hrP
        have hlP := hlen P (mem_of_get hPi)
        refine ld_a0 (np := 21) dX5_passNight_20 rfl ?_
        refine wl_getr (np := 24) dX5_passNight_21 rfl fl_X5_11 rfl (by assumption) (by first | assumption | (rw [nI_clamp (by omega)]; assumption)) ?_
        refine ld_i1 (np := 25) dX5_passNight_24 rfl ?_
        refine wl_aaload (np := 26) dX5_passNight_25 rfl (by assumption) (by decide) (vp_in_nI (by omega) (by decide)) (by first | assumption | (rw [nI_clamp (by omega)]; assumption)) ?_
        refine cvV_0 (np := 29) dX5_passNight_26 rfl lk_X5_74 (by assumption) (Nat.le_of_ble_eq_true rfl) (by omega) (Nat.le_refl _) (Nat.le_refl _) (c_passNight (g2.of rfl) hrP.2.2.2.2.1 hrP.2.2.2.2.2.1 (fun c hc => by obtain ⟨co, hco⟩ := hrP.lt hc; rw [(hrP.2.2.2.2.2.2.1 c co hco).1]; exact hlP co (mem_of_get hco)) (by omega)) (fun m_26 h_26 => ?_)
        have hr1 := rep_night hrP hlP
        have ho := onl_night (I1, me.2) (w + 5 + 6 * i) P.2.1.length
        rw [← h_26] at hr1 ho
        clear h_26
        obtain ⟨I2, R2⟩ := m_26
        obtain rfl : R2 = me.2 := ho.1
        have w6 : gI (I2, me.2) w 6 = nI (W.2.2.2.1 + 1) := (ho.g (by omega)).trans hw6
        have hheat : gI (I2, me.2) (w + 2) ((W.2.2.2.1 + 1) / 30) = W.2.1 ((W.2.2.2.1 + 1) / 30) := ((ho.g (by omega)).trans (hmid _ _ (by omega) (by omega))).trans (hh _ (by omega))
        refine ld_a0 (np := 30) dX5_passNight_29 rfl ?_
        refine wl_getr (np := 33) dX5_passNight_30 rfl fl_X5_11 rfl (by assumption) (by first | assumption | (rw [nI_clamp (by omega)]; assumption)) ?_
        refine ld_i1 (np := 34) dX5_passNight_33 rfl ?_
        refine wl_aaload (np := 35) dX5_passNight_34 rfl (by assumption) (by decide) (vp_in_nI (by omega) (by decide)) (by first | assumption | (rw [nI_clamp (by omega)]; assumption)) ?_
        refine ld_a0 (np := 36) dX5_passNight_35 rfl ?_
        refine ld_a0 (np := 37) dX5_passNight_36 rfl ?_
        refine wl_geti (np := 40) dX5_passNight_37 rfl fl_X5_45 (by decide) (by assumption) ?_
        refine ciV_1 (np := 43) dX5_passNight_40 rfl lk_X5_75 (by assumption) (Nat.le_of_ble_eq_true rfl) (by omega) (Nat.le_refl _) (Nat.le_refl _) (by rw [w6]; exact c_heatOn (hws.of rfl) (by omega) (by omega)) (fun x_40 m_40 h_40 => ?_)
        obtain ⟨rfl, q40⟩ := h_40
        have q40 := q40.symm
        subst q40
        rw [hheat]
        refine ciV_1 (np := 46) dX5_passNight_43 rfl lk_X5_79 (by assumption) (Nat.le_of_ble_eq_true rfl) (by omega) (Nat.le_refl _) (Nat.le_refl _) (c_isOver _ (g2.of rfl) hr1.2.2.2.2.1 hr1.2.2.2.2.2.1 (by omega)) (fun x_43 m_43 h_43 => ?_)
        obtain ⟨h43, q43⟩ := h_43
        have q43 := q43.symm
        subst q43
        rw [hot_iff hr1] at h43
        have fin : ∀ m : Mem, m.2 = me.2 → Onl (I2, me.2) m (w + 5 + 6 * i) (w + 5 + 6 * i + 6) → RepP m (w + 5 + 6 * i) (nightP P (W.2.1 ((W.2.2.2.1 + 1) / 30)) (nI (W.2.2.2.1 + 1))) → Wa mX5_passNight (0, fun _ => 0) d 0 0 sh.length (PV sh (fun m => RepW m w (nightWd W) ∧ Onl me m w (w + 35))) 12 [.ref w, .int (nI (i + 1))] [] sh m 0 0 := by
          intro m hm2 hom hrm
          refine ih (i + 1) m (by omega) (by omega) hm2 (fun a ha => ?_) (fun b hb => ?_) ?_ (fun a b ha hb => ?_) (fun p P' hp => ?_)
          · rw [hom.2 a (by omega), ho.2 a (by omega)]; exact hout a ha
          · rw [hom.g (by omega), ho.g (by omega)]; exact hwb b hb
          · rw [hom.g (by omega)]; exact w6
          · rw [hom.g (by omega), ho.g (by omega)]; exact hmid a b ha hb
          · by_cases hpi : p = i
            · subst hpi
              rw [hPi] at hp
              cases hp
              rw [if_pos (by omega)]
              exact hrm
            · have := hpp p P' hp
              have e : (if p < i + 1 then nightP P' (W.2.1 ((W.2.2.2.1 + 1) / 30)) (nI (W.2.2.2.1 + 1)) else P') = (if p < i then nightP P' (W.2.1 ((W.2.2.2.1 + 1) / 30)) (nI (W.2.2.2.1 + 1)) else P') := by
                by_cases hlt : p < i
                · rw [if_pos hlt, if_pos (by omega)]
                · rw [if_neg hlt, if_neg (by omega)]
              rw [e]
              exact this.fr (fun a ha hb => by rw [hom.2 a (by omega), ho.2 a (by omega)])
        refine wl_if_eq (np := 49) (tg := 62) dX5_passNight_46 rfl rfl (fun c_46 => ?_) (fun c_46 => ?_)
        · rcases h43 with ⟨h1, -⟩ | ⟨-, h2⟩
          · rw [c_46] at h1; exact absurd h1 (by decide)
          · refine inc_1 (np := 65) (v := _ + 1) dX5_passNight_62 rfl rfl (by decide) rfl ?_
            refine wl_goto (tg := 12) dX5_passNight_65 rfl ?_
            rw [← nI_succ]
            refine fin (I2, me.2) rfl Onl.rf ?_
            unfold nightP
            rw [if_neg h2]
            exact hr1
        · rcases h43 with ⟨-, h2⟩ | ⟨h1, -⟩
          · refine ld_a0 (np := 50) dX5_passNight_49 rfl ?_
            refine wl_getr (np := 53) dX5_passNight_50 rfl fl_X5_11 rfl (by assumption) (by first | assumption | (rw [nI_clamp (by omega)]; assumption)) ?_
            refine ld_i1 (np := 54) dX5_passNight_53 rfl ?_
            refine wl_aaload (np := 55) dX5_passNight_54 rfl (by assumption) (by decide) (vp_in_nI (by omega) (by decide)) (by first | assumption | (rw [nI_clamp (by omega)]; assumption)) ?_
            refine ld_a0 (np := 56) dX5_passNight_55 rfl ?_
            refine wl_geti (np := 59) dX5_passNight_56 rfl fl_X5_45 (by decide) (by assumption) ?_
            refine cvV_1 (np := 62) dX5_passNight_59 rfl lk_X5_82 (by assumption) (Nat.le_of_ble_eq_true rfl) (by omega) (Nat.le_refl _) (Nat.le_refl _) (c_fall _ (g2.of rfl)) (fun m_59 h_59 => ?_)
            have q_59 := h_59.symm
            subst q_59
            refine inc_1 (np := 65) (v := _ + 1) dX5_passNight_62 rfl rfl (by decide) rfl ?_
            refine wl_goto (tg := 12) dX5_passNight_65 rfl ?_
            rw [← nI_succ, w6]
            refine fin _ (onl_fall _ _ _).1 (onl_fall _ _ _) ?_
            unfold nightP
            rw [if_pos h2]
            exact rep_fall hr1 _
          · exact absurd h1 c_46
  refine CV.mk (L := [.ref w, .float 0]) (by decide) (Nat.le_of_ble_eq_true rfl) rfl ?_
  refine ld_a0 (np := 1) dX5_passNight_0 rfl ?_
  refine wl_dup (np := 2) dX5_passNight_1 rfl rfl ?_
  refine wl_geti (np := 5) dX5_passNight_2 rfl fl_X5_45 (by decide) (by assumption) ?_
  refine wl_iconst (np := 6) (v := 1) dX5_passNight_5 rfl (rfl) ?_
  refine wl_iadd (np := 7) dX5_passNight_6 rfl ?_
  refine wl_puti (np := 10) dX5_passNight_7 rfl fl_X5_45 nf_5_6 rfl (by assumption) ?_
  refine wl_iconst (np := 11) (v := 0) dX5_passNight_10 rfl (rfl) ?_
  refine st_i1 (np := 12) dX5_passNight_11 rfl (by decide) rfl ?_
  rw [hdy, ← nI_succ]
  refine key (W.1.length + 1) 0 _ (by omega) (by omega) rfl (fun a ha => funext fun b => ?_) (fun b hb => ?_) ?_ (fun a b h1 h2 => ?_) (fun p P hp => ?_)
  · show gI (uI me w 6 _) a b = gI me a b
    rw [gI_uI, if_neg (by omega)]
  · rw [gI_uI, if_neg (by omega)]
  · rw [gI_uI]; simp
  · rw [gI_uI, if_neg (by omega)]
  · rw [if_neg (by omega)]
    refine (hps p P hp).fr (fun a h1 h2 => funext fun b => ?_)
    show gI (uI me w 6 _) a b = gI me a b
    rw [gI_uI, if_neg (by omega)]
set_option maxHeartbeats 4000000 in
set_option maxRecDepth 100000 in
theorem c_passUntil {t : Nat} (hw : isW sh me w) (hr : RepW me w W) (hlen : lenW W) (ht : t ≤ 359) (hd : 4 ≤ d) : CV d mX5_passNightsUntil sh [.ref w, .int (nI t)] me (fun m => RepW m w (nightsW (t - W.2.2.2.1) W) ∧ Onl me m w (w + 35)) := by
  have hws := hw
  obtain ⟨s0, s1, s2, s3, s4, r0, r1, r2, r3, hP⟩ := hw
  have hdl := hr.2.2.2.2.2.2.2.1
  have key : ∀ fuel (i : Nat) (m : Mem) (V : Wld), t - i < fuel → i = V.2.2.2.1 → RepW m w V → lenW V → Onl me m w (w + 35) → nightsW (t - i) V = nightsW (t - W.2.2.2.1) W → i ≤ 359 → 
      Wa mX5_passNightsUntil (0, fun _ => 0) d 0 0 sh.length (PV sh (fun m => RepW m w (nightsW (t - W.2.2.2.1) W) ∧ Onl me m w (w + 35))) 5 [.ref w, .int (nI t), .int (nI i)] [] sh m 0 0 := by
    intro fuel
    induction fuel with
    | zero => intro i m V h; omega
    | succ fuel ih =>
      intro i m V hi hiV hrV hlV hO hN hi9
      refine ld_i2 (np := 6) dX5_passNightsUntil_5 rfl ?_
      refine ld_i1 (np := 7) dX5_passNightsUntil_6 rfl ?_
      refine wl_icmp_ge (np := 10) (tg := 20) dX5_passNightsUntil_7 rfl rfl (fun c_7 => ?_) (fun c_7 => ?_)
      · rw [nI_le_iff (by omega) (by omega)] at c_7
        refine wv_ret dX5_passNightsUntil_20 rfl (Nat.le_refl _) (Nat.le_refl _) ?_
        rw [show t - i = 0 by omega] at hN
        rw [← hN]
        exact ⟨hrV, hO⟩
      · rw [nI_le_iff (by omega) (by omega)] at c_7
        refine ld_a0 (np := 11) dX5_passNightsUntil_10 rfl ?_
        refine cvV_0 (np := 14) dX5_passNightsUntil_11 rfl lk_X5_71 (by assumption) (Nat.le_of_ble_eq_true rfl) (by omega) (Nat.le_refl _) (Nat.le_refl _) (c_W_passNight (hws.of hO.1) hrV hlV (by omega) (by omega)) (fun m_11 h_11 => ?_)
        obtain ⟨h1, h2⟩ := h_11
        refine inc_2 (np := 17) (v := _ + 1) dX5_passNightsUntil_14 rfl rfl (by decide) rfl ?_
        refine wl_goto (tg := 5) dX5_passNightsUntil_17 rfl ?_
        rw [← nI_succ]
        refine ih (i + 1) m_11 (nightWd V) (by omega) (by rw [hiV]; rfl) h1 (lenW_night hlV) (hO.tr h2) ?_ (by omega)
        rw [← hN, show t - i = (t - (i + 1)) + 1 by omega]
        rfl
  refine CV.mk (L := [.ref w, .int (nI t), .float 0]) (by decide) (Nat.le_of_ble_eq_true rfl) rfl ?_
  refine ld_a0 (np := 1) dX5_passNightsUntil_0 rfl ?_
  refine wl_geti (np := 4) dX5_passNightsUntil_1 rfl fl_X5_45 (by decide) (by assumption) ?_
  refine st_i2 (np := 5) dX5_passNightsUntil_4 rfl (by decide) rfl ?_
  rw [hr.2.2.2.2.2.2.1]
  exact key (t + 1) W.2.2.2.1 me W (by omega) rfl hr hlen Onl.rf rfl hdl
end WORLD2
end
section
/-! nights keep who there is -/
theorem night_len (P : Prs) (a b : Int32) : (nightP P a b).2.1.length = P.2.1.length := by
  unfold nightP
  split
  · simp [fallP, restP]
  · simp [restP]
theorem nights_facts : ∀ (n : Nat) (W : Wld), (nightsW n W).1.length = W.1.length ∧ (nightsW n W).2.2.2.1 = W.2.2.2.1 + n ∧ (nightsW n W).2.1 = W.2.1 ∧ (nightsW n W).2.2.1 = W.2.2.1 ∧ (nightsW n W).2.2.2.2 = W.2.2.2.2 ∧ (∀ (k : Nat) (P : Prs), W.1[k]? = some P → ∃ P' : Prs, (nightsW n W).1[k]? = some P' ∧ P'.2.1.length = P.2.1.length) ∧ (lenW W → lenW (nightsW n W))
  | 0, W => ⟨rfl, rfl, rfl, rfl, rfl, fun k P h => ⟨P, h, rfl⟩, id⟩
  | n + 1, W => by
    obtain ⟨h1, h2, h3, h4, h5, h6, h7⟩ := nights_facts n (nightWd W)
    refine ⟨h1.trans (by simp [nightWd]), ?_, h3, h4, h5, fun k P hk => ?_, fun h => h7 (lenW_night h)⟩
    · show (nightsW n (nightWd W)).2.2.2.1 = _
      rw [h2]; simp only [nightWd]; omega
    · obtain ⟨P', h8, h9⟩ := h6 k (nightP P (W.2.1 ((W.2.2.2.1 + 1) / 30)) (nI (W.2.2.2.1 + 1))) (by simp only [nightWd, List.getElem?_map, hk]; rfl)
      exact ⟨P', h8, h9.trans (night_len _ _ _)⟩
def wsI (n : Nat) : Int32 := (1 <<< (nI n &&& 31)) - 1
def amtOf (P : Prs) (c : Nat) : Int32 := ((P.2.1[c]?).getD (0, 0, 0, 0)).2.1
def setP (W : Wld) (k : Nat) (P : Prs) : Wld := (W.1.set k P, W.2)
/-- a told payment can be, and what is then -/
def PayR (W : Wld) (dd p c : Int32) (V : Wld) : Prop := ∃ t k j P, dd = nI t ∧ W.2.2.2.1 ≤ t ∧ t ≤ 359 ∧ p = nI k ∧ c = nI j ∧ (nightsW (t - W.2.2.2.1) W).1[k]? = some P ∧ j < P.2.1.length ∧ mayC W.2.2.1.1 (wsI P.2.1.length) (nI j) ∧ ¬ P.1.1 < amtOf P j ∧ V = setP (nightsW (t - W.2.2.2.1) W) k (payP P j)
theorem RepW.set {me m : Mem} {w k : Nat} {W : Wld} {P : Prs} (h : RepW me w W) (hk : k < W.1.length) (hO : Onl me m (w + 5 + 6 * k) (w + 5 + 6 * k + 6)) (hP : RepP m (w + 5 + 6 * k) P) : RepW m w (setP W k P) := by
  obtain ⟨⟨hn5, hps⟩, hn, hh, ho1, ho2, ho3, hdy, hdl, hwn, hw8, hwr⟩ := h
  have e : ∀ j b, j < 5 → gI m (w + j) b = gI me (w + j) b := fun j b hj => hO.g (by omega)
  refine ⟨⟨by simpa [setP] using hn5, fun p P' hp => ?_⟩, (e 0 _ (by omega)).trans (by simpa [setP] using hn), fun j hj => (e 2 _ (by omega)).trans (hh j hj), (e 0 _ (by omega)).trans ho1, (e 0 _ (by omega)).trans ho2, (e 0 _ (by omega)).trans ho3, (e 0 _ (by omega)).trans hdy, hdl, (e 0 _ (by omega)).trans hwn, hw8, fun k a hk => ⟨(e 3 _ (by omega)).trans (hwr k a hk).1, (e 4 _ (by omega)).trans (hwr k a hk).2⟩⟩
  simp only [setP] at hp
  rw [List.getElem?_set] at hp
  by_cases hkp : k = p
  · subst hkp
    rw [if_pos rfl, if_pos hk] at hp
    cases hp
    exact hP
  · rw [if_neg hkp] at hp
    exact (hps p P' hp).fr (fun a ha hb => hO.2 a (by omega))
section WORLD3
variable {sh : List Shp} {me : Mem} {d w : Nat} {W : Wld}
set_option maxHeartbeats 4000000 in
set_option maxRecDepth 100000 in
theorem c_canBePaid (dd p c : Int32) (hw : isW sh me w) (hr : RepW me w W) (hlen : lenW W) (hd : 5 ≤ d) : CI d mX5_canBePaid sh [.ref w, .int dd, .int p, .int c] me (fun x m => (x = 1 ∧ (∃ V, PayR W dd p c V ∧ RepW m w V ∧ lenW V) ∨ x = 0 ∧ ¬ ∃ V, PayR W dd p c V) ∧ Onl me m w (w + 35)) := by
  have hws := hw
  obtain ⟨s0, s1, s2, s3, s4, r0, r1, r2, r3, hP⟩ := hw
  have hl5 := hr.1.1
  have hdy := hr.2.2.2.2.2.2.1
  have hd9 := hr.2.2.2.2.2.2.2.1
  refine CI.mk (L := [.ref w, .int dd, .int p, .int c, .float 0]) (by decide) (Nat.le_of_ble_eq_true rfl) rfl ?_
  refine ld_i1 (np := 1) dX5_canBePaid_0 rfl ?_
  refine ld_a0 (np := 2) dX5_canBePaid_1 rfl ?_
  refine wl_geti (np := 5) dX5_canBePaid_2 rfl fl_X5_45 (by decide) (by assumption) ?_
  refine wl_sipush (np := 8) (v := 359) dX5_canBePaid_5 rfl (by decide) ?_
  refine ciSN_3 (np := 11) dX5_canBePaid_8 rfl lk_X5_57 (Nat.le_of_ble_eq_true rfl) (by omega) (Nat.le_refl _) (Nat.le_refl _) (c_isWithin _ _ _) (fun x_8 m_8 h_8 => ?_)
  obtain ⟨rfl, q_8⟩ := h_8
  have q_8 := q_8.symm
  subst q_8
  refine wl_if_eq (np := 14) (tg := 23) dX5_canBePaid_11 rfl rfl (fun c_11 => ?_) (fun c_11 => ?_)
  · refine wl_iconst (np := 24) (v := 0) dX5_canBePaid_23 rfl (rfl) ?_
    refine wi_ret dX5_canBePaid_24 rfl (by decide) (Nat.le_refl _) (Nat.le_refl _) ?_
    refine ⟨Or.inr ⟨rfl, ?_⟩, Onl.rf⟩
    rintro ⟨V, t, k, j, P, rfl, h1, h2, -⟩
    rw [hdy, if_pos ⟨nI_le h1 (by omega), (show nI t ≤ nI 359 from nI_le h2 (by decide))⟩] at c_11
    exact absurd c_11 (by decide)
  · have hin : gI me w 6 ≤ dd ∧ dd ≤ 359 := Classical.byContradiction fun q => by rw [if_neg q] at c_11; exact c_11 rfl
    rw [hdy] at hin
    obtain ⟨t, ht, rfl⟩ := nI_of2 (x := dd) (M := 359) (n := 359) rfl (Int32.not_lt.mpr (Int32.le_trans (nI_pos' (by omega)) hin.1)) hin.2
    have hdt : W.2.2.2.1 ≤ t := (nI_leI (by omega) (by omega)).mp hin.1
    refine ld_a0 (np := 15) dX5_canBePaid_14 rfl ?_
    refine ld_i2 (np := 16) dX5_canBePaid_15 rfl ?_
    refine ld_i3 (np := 17) dX5_canBePaid_16 rfl ?_
    refine ciV_2 (np := 20) dX5_canBePaid_17 rfl lk_X5_86 (by assumption) (Nat.le_of_ble_eq_true rfl) (by omega) (Nat.le_refl _) (Nat.le_refl _) (c_hasCoat p c hws hr (by omega)) (fun x_17 m_17 h_17 => ?_)
    obtain ⟨h17, q17⟩ := h_17
    have q17 := q17.symm
    subst q17
    obtain ⟨nf1, nf2, nf3, nf4, nf5, nf6, nf7⟩ := nights_facts (t - W.2.2.2.1) W
    refine wl_if_ne (np := 23) (tg := 25) dX5_canBePaid_20 rfl rfl (fun c_20 => ?_) (fun c_20 => ?_)
    · rcases h17 with ⟨-, k, P0, j, hk, rfl, hj, rfl⟩ | ⟨h1, -⟩
      · have hk5 := (List.getElem?_eq_some_iff.mp hk).1
        obtain ⟨P, hPk, hPl⟩ := nf6 k P0 hk
        refine ld_a0 (np := 26) dX5_canBePaid_25 rfl ?_
        refine ld_i1 (np := 27) dX5_canBePaid_26 rfl ?_
        refine cvV_1 (np := 30) dX5_canBePaid_27 rfl lk_X5_90 (by assumption) (Nat.le_of_ble_eq_true rfl) (by omega) (Nat.le_refl _) (Nat.le_refl _) (c_passUntil hws hr hlen ht (by omega)) (fun m_27 h_27 => ?_)
        obtain ⟨hrV, hO⟩ := h_27
        obtain ⟨I1, R1⟩ := m_27
        obtain rfl : R1 = me.2 := hO.1
        obtain ⟨g1, g2⟩ := hP k (by omega)
        have sP := g2.1
        have sA := g2.2.2.1
        have rA := g2.2.2.2.2.2.2.2.1
        have hrP := hrV.1.2 k P hPk
        have hP8 := hrP.2.2.2.2.2.1
        have hjl : j < P.2.1.length := by omega
        obtain ⟨co, hco⟩ := hrP.lt hjl
        have hamt : gI (I1, me.2) (w + 5 + 6 * k + 2) j = amtOf P j := by
          rw [(hrP.2.2.2.2.2.2.1 j co hco).2.1]; unfold amtOf; rw [hco]; rfl
        have hoff : gI (I1, me.2) w 7 = W.2.2.1.1 := by rw [hrV.2.2.2.1, nf4]
        refine ld_a0 (np := 31) dX5_canBePaid_30 rfl ?_
        refine wl_getr (np := 34) dX5_canBePaid_31 rfl fl_X5_11 rfl (by assumption) (by first | assumption | (rw [nI_clamp (by omega)]; assumption)) ?_
        refine ld_i2 (np := 35) dX5_canBePaid_34 rfl ?_
        refine wl_aaload (np := 36) dX5_canBePaid_35 rfl (by assumption) (by decide) (vp_in_nI (by omega) (by decide)) (by first | assumption | (rw [nI_clamp (by omega)]; assumption)) ?_
        refine st_a4 (np := 38) dX5_canBePaid_36 rfl (by decide) rfl ?_
        refine ld_a0 (np := 39) dX5_canBePaid_38 rfl ?_
        refine wl_geti (np := 42) dX5_canBePaid_39 rfl fl_X5_48 (by decide) (by assumption) ?_
        refine ld_a4 (np := 44) dX5_canBePaid_42 rfl ?_
        refine ciV_0 (np := 47) dX5_canBePaid_44 rfl lk_X5_93 (by assumption) (Nat.le_of_ble_eq_true rfl) (by omega) (Nat.le_refl _) (Nat.le_refl _) (c_wornSet (g2.of rfl)) (fun x_44 m_44 h_44 => ?_)
        obtain ⟨rfl, q_44⟩ := h_44
        have q_44 := q_44.symm
        subst q_44
        refine ld_i3 (np := 48) dX5_canBePaid_47 rfl ?_
        refine ciSN_3 (np := 51) dX5_canBePaid_48 rfl lk_X5_97 (Nat.le_of_ble_eq_true rfl) (by omega) (Nat.le_refl _) (Nat.le_refl _) (c_mayComeOff _ _ _) (fun x_48 m_48 h_48 => ?_)
        obtain ⟨h48, q48⟩ := h_48
        have q48 := q48.symm
        subst q48
        rw [hrP.2.2.2.2.1, hoff] at h48
        have fin0 : (¬ mayC W.2.2.1.1 (wsI P.2.1.length) (nI j) ∨ P.1.1 < amtOf P j) → ¬ ∃ V, PayR W (nI t) (nI k) (nI j) V := by
          rintro hno ⟨V, t', k', j', P', e1, e2, e3, e4, e5, e6, e7, e8, e9, e10⟩
          rw [nI_eq (by omega) (by omega)] at e1
          subst e1
          have hk' := (List.getElem?_eq_some_iff.mp e6).1
          rw [nI_eq (by omega) (by omega)] at e4
          subst e4
          rw [hPk] at e6
          cases e6
          rw [nI_eq (by omega) (by omega)] at e5
          subst e5
          exact hno.elim (fun q => q e8) (fun q => e9 q)
        refine wl_if_eq (np := 54) (tg := 69) dX5_canBePaid_51 rfl rfl (fun c_51 => ?_) (fun c_51 => ?_)
        · refine wl_iconst (np := 70) (v := 0) dX5_canBePaid_69 rfl (rfl) ?_
          refine wi_ret dX5_canBePaid_70 rfl (by decide) (Nat.le_refl _) (Nat.le_refl _) ?_
          refine ⟨Or.inr ⟨rfl, fin0 (Or.inl ?_)⟩, hO⟩
          rcases h48 with ⟨h1, -⟩ | ⟨-, h2⟩
          · rw [c_51] at h1; exact absurd h1 (by decide)
          · exact h2
        · rcases h48 with ⟨-, hmay⟩ | ⟨h1, -⟩
          · refine ld_a4 (np := 56) dX5_canBePaid_54 rfl ?_
            refine wl_geti (np := 59) dX5_canBePaid_56 rfl fl_X5_100 (by decide) (by assumption) ?_
            refine ld_a4 (np := 61) dX5_canBePaid_59 rfl ?_
            refine wl_getr (np := 64) dX5_canBePaid_61 rfl fl_X5_103 rfl (by assumption) (by first | assumption | (rw [nI_clamp (by omega)]; assumption)) ?_
            refine ld_i3 (np := 65) dX5_canBePaid_64 rfl ?_
            refine wl_iaload (np := 66) dX5_canBePaid_65 rfl (inA_n sA (by omega) (by decide)) ?_
            refine wl_icmp_ge (np := 69) (tg := 71) dX5_canBePaid_66 rfl rfl (fun c_66 => ?_) (fun c_66 => ?_)
            · rw [nI_clamp (by omega), hamt, hrP.1] at c_66
              refine ld_a4 (np := 73) dX5_canBePaid_71 rfl ?_
              refine ld_i3 (np := 74) dX5_canBePaid_73 rfl ?_
              refine cvV_1 (np := 77) dX5_canBePaid_74 rfl lk_X5_106 (by assumption) (Nat.le_of_ble_eq_true rfl) (by omega) (Nat.le_refl _) (Nat.le_refl _) (c_payOff (g2.of rfl) hrP.2.2.2.2.1 hP8 hjl (by omega)) (fun m_74 h_74 => ?_)
              have q_74 := h_74.symm
              subst q_74
              refine wl_iconst (np := 78) (v := 1) dX5_canBePaid_77 rfl (rfl) ?_
              refine wi_ret dX5_canBePaid_78 rfl (by decide) (Nat.le_refl _) (Nat.le_refl _) ?_
              have hOp := onl_pay (I1, me.2) (w + 5 + 6 * k) j P.2.1.length
              refine ⟨Or.inl ⟨rfl, _, ⟨t, k, j, P, rfl, hdt, ht, rfl, rfl, hPk, hjl, hmay, Int32.not_lt.mpr c_66, rfl⟩, hrV.set (by omega) hOp (rep_pay hrP hjl), ?_⟩, hO.tr (hOp.wd (by omega) (by omega))⟩
              intro P' hP'
              simp only [setP] at hP'
              rcases List.mem_or_eq_of_mem_set hP' with h | rfl
              · exact nf7 hlen P' h
              · intro co' hco'
                simp only [payP] at hco'
                exact nf7 hlen P (mem_of_get hPk) co' (List.mem_of_mem_eraseIdx hco')
            · rw [nI_clamp (by omega), hamt, hrP.1] at c_66
              refine wl_iconst (np := 70) (v := 0) dX5_canBePaid_69 rfl (rfl) ?_
              refine wi_ret dX5_canBePaid_70 rfl (by decide) (Nat.le_refl _) (Nat.le_refl _) ?_
              exact ⟨Or.inr ⟨rfl, fin0 (Or.inr (Int32.not_le.mp c_66))⟩, hO⟩
          · exact absurd h1 c_51
      · exact absurd h1 c_20
    · refine wl_iconst (np := 24) (v := 0) dX5_canBePaid_23 rfl (rfl) ?_
      refine wi_ret dX5_canBePaid_24 rfl (by decide) (Nat.le_refl _) (Nat.le_refl _) ?_
      refine ⟨Or.inr ⟨rfl, ?_⟩, Onl.rf⟩
      rintro ⟨V, t', k', j', P', e1, e2, e3, rfl, rfl, e6, e7, -⟩
      rw [nI_eq (by omega) (by omega)] at e1
      subst e1
      rcases h17 with ⟨h1, -⟩ | ⟨-, h2⟩
      · rw [c_20] at h1; exact absurd h1 (by decide)
      · have hk' := (List.getElem?_eq_some_iff.mp e6).1
        obtain ⟨P0, hP0⟩ : ∃ P, W.1[k']? = some P := ⟨_, List.getElem?_eq_getElem (by omega)⟩
        obtain ⟨P1, h3, h4⟩ := nf6 k' P0 hP0
        rw [e6] at h3
        cases h3
        exact h2 ⟨k', P0, j', hP0, rfl, by omega, rfl⟩
def condSum (set : Int32) (f : Nat → Int32) : Nat → Int32
  | 0 => 0
  | k + 1 => if (set >>> (nI k &&& 31)) &&& 1 = 0 then condSum set f k else condSum set f k + f k
set_option maxHeartbeats 4000000 in
set_option maxRecDepth 100000 in
theorem c_isSet (set th am : Int32) (hw : isW sh me w) (hr : RepW me w W) (hd : 1 ≤ d) : CI d mX5_isSetOfWares sh [.ref w, .int set, .int th, .int am] me (fun x m => (x = 1 ∧ (condSum set (gI me (w + 4)) W.2.2.2.2.length = th ∧ condSum set (gI me (w + 3)) W.2.2.2.2.length = am) ∨ x = 0 ∧ ¬ (condSum set (gI me (w + 4)) W.2.2.2.2.length = th ∧ condSum set (gI me (w + 3)) W.2.2.2.2.length = am)) ∧ m = me) := by
  obtain ⟨s0, s1, s2, s3, s4, r0, r1, r2, r3, hP⟩ := hw
  have hn := hr.2.2.2.2.2.2.2.2.1
  have h8 := hr.2.2.2.2.2.2.2.2.2.1
  generalize hN : W.2.2.2.2.length = N at hn h8 ⊢
  have key : ∀ fuel i, N - i < fuel → i ≤ N → Wa mX5_isSetOfWares (0, fun _ => 0) d 0 0 sh.length (PI sh (fun x m => (x = 1 ∧ (condSum set (gI me (w + 4)) N = th ∧ condSum set (gI me (w + 3)) N = am) ∨ x = 0 ∧ ¬ (condSum set (gI me (w + 4)) N = th ∧ condSum set (gI me (w + 3)) N = am)) ∧ m = me)) 9 [.ref w, .int set, .int th, .int am, .int (condSum set (gI me (w + 4)) i), .int (condSum set (gI me (w + 3)) i), .int (nI i)] [] sh me 0 0 := by
    intro fuel
    induction fuel with
    | zero => intro i h; omega
    | succ fuel ih =>
      intro i hi hin
      refine ld_i6 (np := 11) dX5_isSetOfWares_9 rfl ?_
      refine ld_a0 (np := 12) dX5_isSetOfWares_11 rfl ?_
      refine wl_geti (np := 15) dX5_isSetOfWares_12 rfl fl_X5_42 (by decide) (by assumption) ?_
      refine wl_icmp_ge (np := 18) (tg := 57) dX5_isSetOfWares_15 rfl rfl (fun c_15 => ?_) (fun c_15 => ?_)
      · rw [hn, nI_le_iff (by omega) (by omega)] at c_15
        have hie : i = N := by omega
        subst hie
        refine ld_i4 (np := 59) dX5_isSetOfWares_57 rfl ?_
        refine ld_i2 (np := 60) dX5_isSetOfWares_59 rfl ?_
        refine wl_icmp_ne (np := 63) (tg := 73) dX5_isSetOfWares_60 rfl rfl (fun c_60 => ?_) (fun c_60 => ?_)
        · refine wl_iconst (np := 74) (v := 0) dX5_isSetOfWares_73 rfl (rfl) ?_
          refine wi_ret dX5_isSetOfWares_74 rfl (by decide) (Nat.le_refl _) (Nat.le_refl _) ?_
          exact ⟨Or.inr ⟨rfl, fun q => c_60 q.1⟩, rfl⟩
        · refine ld_i5 (np := 65) dX5_isSetOfWares_63 rfl ?_
          refine ld_i3 (np := 66) dX5_isSetOfWares_65 rfl ?_
          refine wl_icmp_ne (np := 69) (tg := 73) dX5_isSetOfWares_66 rfl rfl (fun c_66 => ?_) (fun c_66 => ?_)
          · refine wl_iconst (np := 74) (v := 0) dX5_isSetOfWares_73 rfl (rfl) ?_
            refine wi_ret dX5_isSetOfWares_74 rfl (by decide) (Nat.le_refl _) (Nat.le_refl _) ?_
            exact ⟨Or.inr ⟨rfl, fun q => c_66 q.2⟩, rfl⟩
          · refine wl_iconst (np := 70) (v := 1) dX5_isSetOfWares_69 rfl (rfl) ?_
            refine wl_goto (tg := 74) dX5_isSetOfWares_70 rfl ?_
            refine wi_ret dX5_isSetOfWares_74 rfl (by decide) (Nat.le_refl _) (Nat.le_refl _) ?_
            exact ⟨Or.inl ⟨rfl, c_60, c_66⟩, rfl⟩
      · rw [hn, nI_le_iff (by omega) (by omega)] at c_15
        refine ld_i1 (np := 19) dX5_isSetOfWares_18 rfl ?_
        refine ld_i6 (np := 21) dX5_isSetOfWares_19 rfl ?_
        refine ciSN_2 (np := 24) dX5_isSetOfWares_21 rfl lk_X5_109 (Nat.le_of_ble_eq_true rfl) (by omega) (Nat.le_refl _) (Nat.le_refl _) (c_isIn _ _) (fun x_21 m_21 h_21 => ?_)
        obtain ⟨rfl, q_21⟩ := h_21
        have q_21 := q_21.symm
        subst q_21
        refine wl_if_eq (np := 27) (tg := 51) dX5_isSetOfWares_24 rfl rfl (fun c_24 => ?_) (fun c_24 => ?_)
        · have hz : (set >>> (nI i &&& 31)) &&& 1 = 0 := Classical.byContradiction fun q => by rw [if_neg q] at c_24; exact absurd c_24 (by decide)
          have e1 : ∀ f, condSum set f (i + 1) = condSum set f i := fun f => if_pos hz
          refine inc_6 (np := 54) (v := _ + 1) dX5_isSetOfWares_51 rfl rfl (by decide) rfl ?_
          refine wl_goto (tg := 9) dX5_isSetOfWares_54 rfl ?_
          rw [← nI_succ, ← e1 (gI me (w + 4)), ← e1 (gI me (w + 3))]
          exact ih (i + 1) (by omega) (by omega)
        · have hz : ¬ (set >>> (nI i &&& 31)) &&& 1 = 0 := fun q => by rw [if_pos q] at c_24; exact c_24 rfl
          have e1 : ∀ f, condSum set f (i + 1) = condSum set f i + f i := fun f => if_neg hz
          refine ld_i4 (np := 29) dX5_isSetOfWares_27 rfl ?_
          refine ld_a0 (np := 30) dX5_isSetOfWares_29 rfl ?_
          refine wl_getr (np := 33) dX5_isSetOfWares_30 rfl fl_X5_24 rfl (by assumption) (by assumption) ?_
          refine ld_i6 (np := 35) dX5_isSetOfWares_33 rfl ?_
          refine wl_iaload (np := 36) dX5_isSetOfWares_35 rfl (inA_n s4 (by omega) (by decide)) ?_
          refine wl_iadd (np := 37) dX5_isSetOfWares_36 rfl ?_
          refine st_i4 (np := 39) dX5_isSetOfWares_37 rfl (by decide) rfl ?_
          refine ld_i5 (np := 41) dX5_isSetOfWares_39 rfl ?_
          refine ld_a0 (np := 42) dX5_isSetOfWares_41 rfl ?_
          refine wl_getr (np := 45) dX5_isSetOfWares_42 rfl fl_X5_21 rfl (by assumption) (by assumption) ?_
          refine ld_i6 (np := 47) dX5_isSetOfWares_45 rfl ?_
          refine wl_iaload (np := 48) dX5_isSetOfWares_47 rfl (inA_n s3 (by omega) (by decide)) ?_
          refine wl_iadd (np := 49) dX5_isSetOfWares_48 rfl ?_
          refine st_i5 (np := 51) dX5_isSetOfWares_49 rfl (by decide) rfl ?_
          refine inc_6 (np := 54) (v := _ + 1) dX5_isSetOfWares_51 rfl rfl (by decide) rfl ?_
          refine wl_goto (tg := 9) dX5_isSetOfWares_54 rfl ?_
          rw [nI_clamp (by omega), ← nI_succ, ← e1 (gI me (w + 4)), ← e1 (gI me (w + 3))]
          exact ih (i + 1) (by omega) (by omega)
  refine CI.mk (L := [.ref w, .int set, .int th, .int am, .float 0, .float 0, .float 0]) (by decide) (Nat.le_of_ble_eq_true rfl) rfl ?_
  refine wl_iconst (np := 1) (v := 0) dX5_isSetOfWares_0 rfl (rfl) ?_
  refine st_i4 (np := 3) dX5_isSetOfWares_1 rfl (by decide) rfl ?_
  refine wl_iconst (np := 4) (v := 0) dX5_isSetOfWares_3 rfl (rfl) ?_
  refine st_i5 (np := 6) dX5_isSetOfWares_4 rfl (by decide) rfl ?_
  refine wl_iconst (np := 7) (v := 0) dX5_isSetOfWares_6 rfl (rfl) ?_
  refine st_i6 (np := 9) dX5_isSetOfWares_7 rfl (by decide) rfl ?_
  exact key (N + 1) 0 (by omega) (by omega)
set_option maxHeartbeats 4000000 in
set_option maxRecDepth 100000 in
theorem c_W_becomeLike {w2 : Nat} (hw : isW sh me w) (hw2 : isW sh me w2) (hr : RepW me w2 W) (hne : w2 + 35 ≤ w ∨ w + 35 ≤ w2) (hd : 4 ≤ d) : CV d mX5_becomeLike sh [.ref w, .ref w2] me (fun m => RepW m w W ∧ Onl me m w (w + 35)) := by
  have hws := hw
  have hws2 := hw2
  obtain ⟨s0, s1, s2, s3, s4, r0, r1, r2, r3, hP⟩ := hw
  obtain ⟨t0, t1, t2, t3, t4, u0, u1, u2, u3, hP2⟩ := hw2
  have hr0 := hr
  obtain ⟨⟨hn5, hps⟩, hn, hh, ho1, ho2, ho3, hdy, hdl, hwn, hw8, hwr⟩ := hr
  have key : ∀ fuel i (m : Mem), W.1.length - i < fuel → i ≤ W.1.length → Onl me m (w + 5) (w + 35) → (∀ p P, p < i → W.1[p]? = some P → RepP m (w + 5 + 6 * p) P) →
      Wa mX5_becomeLike (0, fun _ => 0) d 0 0 sh.length (PV sh (fun m => RepW m w W ∧ Onl me m w (w + 35))) 2 [.ref w, .ref w2, .int (nI i)] [] sh m 0 0 := by
    intro fuel
    induction fuel with
    | zero => intro i m h; omega
    | succ fuel ih =>
      intro i m hi hin hO hpp
      obtain ⟨I1, R1⟩ := m
      obtain rfl : R1 = me.2 := hO.1
      have g2 : ∀ a b, w2 ≤ a → a < w2 + 35 → gI (I1, me.2) a b = gI me a b := fun a b h1 h2 => hO.g (by omega)
      refine ld_i2 (np := 3) dX5_becomeLike_2 rfl ?_
      refine ld_a1 (np := 4) dX5_becomeLike_3 rfl ?_
      refine wl_geti (np := 7) dX5_becomeLike_4 rfl fl_X5_28 (by decide) (by assumption) ?_
      refine wl_icmp_ge (np := 10) (tg := 31) dX5_becomeLike_7 rfl rfl (fun c_7 => ?_) (fun c_7 => ?_)
      · rw [g2 _ _ (by omega) (by omega), hn, nI_le_iff (by omega) (by omega)] at c_7
        refine ld_a1 (np := 32) dX5_becomeLike_31 rfl ?_
        refine wl_getr (np := 35) dX5_becomeLike_32 rfl fl_X5_17 rfl (by assumption) (by assumption) ?_
        refine wl_iconst (np := 36) (v := 0) dX5_becomeLike_35 rfl (rfl) ?_
        refine ld_a0 (np := 37) dX5_becomeLike_36 rfl ?_
        refine wl_getr (np := 40) dX5_becomeLike_37 rfl fl_X5_17 rfl (by assumption) (by assumption) ?_
        refine wl_iconst (np := 41) (v := 0) dX5_becomeLike_40 rfl (rfl) ?_
        refine wl_bipush (np := 43) (v := 12) dX5_becomeLike_41 rfl (by decide) ?_
        refine wl_copy (np := 46) dX5_becomeLike_43 rfl lk_X5_36 (Nat.le_of_ble_eq_true rfl) (by omega) (by assumption) (by assumption) (by decide) (by decide) (by decide) (by decide) (by decide) ?_
        refine ld_a1 (np := 47) dX5_becomeLike_46 rfl ?_
        refine wl_getr (np := 50) dX5_becomeLike_47 rfl fl_X5_21 rfl (by assumption) (by assumption) ?_
        refine wl_iconst (np := 51) (v := 0) dX5_becomeLike_50 rfl (rfl) ?_
        refine ld_a0 (np := 52) dX5_becomeLike_51 rfl ?_
        refine wl_getr (np := 55) dX5_becomeLike_52 rfl fl_X5_21 rfl (by assumption) (by assumption) ?_
        refine wl_iconst (np := 56) (v := 0) dX5_becomeLike_55 rfl (rfl) ?_
        refine wl_bipush (np := 58) (v := 8) dX5_becomeLike_56 rfl (by decide) ?_
        refine wl_copy (np := 61) dX5_becomeLike_58 rfl lk_X5_36 (Nat.le_of_ble_eq_true rfl) (by omega) (by assumption) (by assumption) (by decide) (by decide) (by decide) (by decide) (by decide) ?_
        refine ld_a1 (np := 62) dX5_becomeLike_61 rfl ?_
        refine wl_getr (np := 65) dX5_becomeLike_62 rfl fl_X5_24 rfl (by assumption) (by assumption) ?_
        refine wl_iconst (np := 66) (v := 0) dX5_becomeLike_65 rfl (rfl) ?_
        refine ld_a0 (np := 67) dX5_becomeLike_66 rfl ?_
        refine wl_getr (np := 70) dX5_becomeLike_67 rfl fl_X5_24 rfl (by assumption) (by assumption) ?_
        refine wl_iconst (np := 71) (v := 0) dX5_becomeLike_70 rfl (rfl) ?_
        refine wl_bipush (np := 73) (v := 8) dX5_becomeLike_71 rfl (by decide) ?_
        refine wl_copy (np := 76) dX5_becomeLike_73 rfl lk_X5_36 (Nat.le_of_ble_eq_true rfl) (by omega) (by assumption) (by assumption) (by decide) (by decide) (by decide) (by decide) (by decide) ?_
        refine ld_a0 (np := 77) dX5_becomeLike_76 rfl ?_
        refine ld_a1 (np := 78) dX5_becomeLike_77 rfl ?_
        refine wl_geti (np := 81) dX5_becomeLike_78 rfl fl_X5_28 (by decide) (by assumption) ?_
        refine wl_puti (np := 84) dX5_becomeLike_81 rfl fl_X5_28 nf_5_4 rfl (by assumption) ?_
        refine ld_a0 (np := 85) dX5_becomeLike_84 rfl ?_
        refine ld_a1 (np := 86) dX5_becomeLike_85 rfl ?_
        refine wl_geti (np := 89) dX5_becomeLike_86 rfl fl_X5_42 (by decide) (by assumption) ?_
        refine wl_puti (np := 92) dX5_becomeLike_89 rfl fl_X5_42 nf_5_5 rfl (by assumption) ?_
        refine ld_a0 (np := 93) dX5_becomeLike_92 rfl ?_
        refine ld_a1 (np := 94) dX5_becomeLike_93 rfl ?_
        refine wl_geti (np := 97) dX5_becomeLike_94 rfl fl_X5_45 (by decide) (by assumption) ?_
        refine wl_puti (np := 100) dX5_becomeLike_97 rfl fl_X5_45 nf_5_6 rfl (by assumption) ?_
        refine ld_a0 (np := 101) dX5_becomeLike_100 rfl ?_
        refine ld_a1 (np := 102) dX5_becomeLike_101 rfl ?_
        refine wl_geti (np := 105) dX5_becomeLike_102 rfl fl_X5_48 (by decide) (by assumption) ?_
        refine wl_puti (np := 108) dX5_becomeLike_105 rfl fl_X5_48 nf_5_7 rfl (by assumption) ?_
        refine ld_a0 (np := 109) dX5_becomeLike_108 rfl ?_
        refine ld_a1 (np := 110) dX5_becomeLike_109 rfl ?_
        refine wl_geti (np := 113) dX5_becomeLike_110 rfl fl_X5_51 (by decide) (by assumption) ?_
        refine wl_puti (np := 116) dX5_becomeLike_113 rfl fl_X5_51 nf_5_8 rfl (by assumption) ?_
        refine ld_a0 (np := 117) dX5_becomeLike_116 rfl ?_
        refine ld_a1 (np := 118) dX5_becomeLike_117 rfl ?_
        refine wl_geti (np := 121) dX5_becomeLike_118 rfl fl_X5_54 (by decide) (by assumption) ?_
        refine wl_puti (np := 124) dX5_becomeLike_121 rfl fl_X5_54 nf_5_9 rfl (by assumption) ?_
        refine wv_ret dX5_becomeLike_124 rfl (Nat.le_refl _) (Nat.le_refl _) ?_
        have hfin : ∀ mm : Mem, (∀ a b, gI mm a b = if a = w ∧ 4 ≤ b ∧ b ≤ 9 then gI me w2 b else if a = w + 2 ∧ b < 12 then gI me (w2 + 2) b else if a = w + 3 ∧ b < 8 then gI me (w2 + 3) b else if a = w + 4 ∧ b < 8 then gI me (w2 + 4) b else gI (I1, me.2) a b) → mm.2 = me.2 → RepW mm w W ∧ Onl me mm w (w + 35) := by
          intro mm hmm hm2
          have e4 : ∀ b, 4 ≤ b → b ≤ 9 → gI mm w b = gI me w2 b := fun b h1 h2 => by rw [hmm, if_pos ⟨rfl, h1, h2⟩]
          refine ⟨⟨⟨hn5, fun p P hp => ?_⟩, (e4 _ (by omega) (by omega)).trans hn, fun j hj => ?_, (e4 _ (by omega) (by omega)).trans ho1, (e4 _ (by omega) (by omega)).trans ho2, (e4 _ (by omega) (by omega)).trans ho3, (e4 _ (by omega) (by omega)).trans hdy, hdl, (e4 _ (by omega) (by omega)).trans hwn, hw8, fun k a hk => ?_⟩, hm2, fun a ha => funext fun b => ?_⟩
          · have hlt := (List.getElem?_eq_some_iff.mp hp).1
            refine (hpp p P (by omega) hp).fr (fun a h1 h2 => funext fun b => ?_)
            show gI mm a b = gI (I1, me.2) a b
            rw [hmm, if_neg (by omega), if_neg (by omega), if_neg (by omega), if_neg (by omega)]
          · rw [hmm, if_neg (by omega), if_pos ⟨rfl, hj⟩]; exact hh j hj
          · have hlt := (List.getElem?_eq_some_iff.mp hk).1
            exact ⟨by rw [hmm, if_neg (by omega), if_neg (by omega), if_pos ⟨rfl, by omega⟩]; exact (hwr k a hk).1, by rw [hmm, if_neg (by omega), if_neg (by omega), if_neg (by omega), if_pos ⟨rfl, by omega⟩]; exact (hwr k a hk).2⟩
          · show gI mm a b = gI me a b
            rw [hmm, if_neg (by omega), if_neg (by omega), if_neg (by omega), if_neg (by omega)]
            exact hO.g (by omega)
        refine hfin _ (fun a b => ?_) rfl
        have e0 : (0 : Int32).toNatClampNeg = 0 := rfl
        have e8 : (8 : Int32).toNatClampNeg = 8 := rfl
        have e12 : (12 : Int32).toNatClampNeg = 12 := rfl
        simp only [gI_uI, gI_uA, va_cpy, e0, e8, e12]
        have k2 := g2 w2
        have k3 := g2 (w2 + 2)
        have k4 := g2 (w2 + 3)
        have k5 := g2 (w2 + 4)
        clear hfin ih hpp hO g2 hP hP2 hps hh hwr hws hws2 s0 s1 s2 s3 s4 r0 r1 r2 r3 t0 t1 t2 t3 t4 u0 u1 u2 u3 hr0
        by_cases h1 : a = w
        · subst h1; grind (splits := 30)
        by_cases h2 : a = w + 2
        · subst h2; grind (splits := 30)
        by_cases h3 : a = w + 3
        · subst h3; grind (splits := 30)
        by_cases h4 : a = w + 4
        · subst h4; grind (splits := 30)
        grind (splits := 30)
      · rw [g2 _ _ (by omega) (by omega), hn, nI_le_iff (by omega) (by omega)] at c_7
        obtain ⟨ga, gb⟩ := hP i (by omega)
        obtain ⟨gc, gd⟩ := hP2 i (by omega)
        have sP := gb.1
        obtain ⟨P, hPi⟩ : ∃ P, W.1[i]? = some P := ⟨_, List.getElem?_eq_getElem (by omega)⟩
        refine ld_a0 (np := 11) dX5_becomeLike_10 rfl ?_
        refine wl_getr (np := 14) dX5_becomeLike_11 rfl fl_X5_11 rfl (by assumption) (by first | assumption | (rw [nI_clamp (by omega)]; assumption)) ?_
        refine ld_i2 (np := 15) dX5_becomeLike_14 rfl ?_
        refine wl_aaload (np := 16) dX5_becomeLike_15 rfl (by assumption) (by decide) (vp_in_nI (by omega) (by decide)) (by first | assumption | (rw [nI_clamp (by omega)]; assumption)) ?_
        refine ld_a1 (np := 17) dX5_becomeLike_16 rfl ?_
        refine wl_getr (np := 20) dX5_becomeLike_17 rfl fl_X5_11 rfl (by assumption) (by first | assumption | (rw [nI_clamp (by omega)]; assumption)) ?_
        refine ld_i2 (np := 21) dX5_becomeLike_20 rfl ?_
        refine wl_aaload (np := 22) dX5_becomeLike_21 rfl (by assumption) (by decide) (vp_in_nI (by omega) (by decide)) (by first | assumption | (rw [nI_clamp (by omega)]; assumption)) ?_
        refine cvV_1 (np := 25) dX5_becomeLike_22 rfl lk_X5_32 (by assumption) (Nat.le_of_ble_eq_true rfl) (by omega) (Nat.le_refl _) (Nat.le_refl _) (c_becomeLike (gb.of rfl) (gd.of rfl) (by omega) (by omega)) (fun m_22 h_22 => ?_)
        have q_22 := h_22.symm
        subst q_22
        refine inc_2 (np := 28) (v := _ + 1) dX5_becomeLike_25 rfl rfl (by decide) rfl ?_
        refine wl_goto (tg := 2) dX5_becomeLike_28 rfl ?_
        rw [← nI_succ]
        have hol := onl_like (I1, me.2) (w + 5 + 6 * i) (w2 + 5 + 6 * i)
        refine ih (i + 1) _ (by omega) (by omega) (hO.tr (hol.wd (by omega) (by omega))) (fun p P' hp hp' => ?_)
        by_cases hpi : p = i
        · subst hpi
          rw [hPi] at hp'
          cases hp'
          refine rep_like ((hps p P hPi).fr (fun a h1 h2 => ?_)) (by omega)
          exact hO.2 a (by omega)
        · exact (hpp p P' (by omega) hp').fr (fun a h1 h2 => hol.2 a (by omega))
  refine CV.mk (L := [.ref w, .ref w2, .float 0]) (by decide) (Nat.le_of_ble_eq_true rfl) rfl ?_
  refine wl_iconst (np := 1) (v := 0) dX5_becomeLike_0 rfl (rfl) ?_
  refine st_i2 (np := 2) dX5_becomeLike_1 rfl (by decide) rfl ?_
  exact key (W.1.length + 1) 0 me (by omega) (by omega) Onl.rf (fun p P h => by omega)
end WORLD3
end
section
theorem dX3_init_0 : decode cX3_init 0 = .ok (.aload_n 0, 1) := by decide +kernel
theorem dX3_init_1 : decode cX3_init 1 = .ok (.invokespecial 3, 3) := by decide +kernel
theorem dX3_init_4 : decode cX3_init 4 = .ok (.aload_n 0, 1) := by decide +kernel
theorem dX3_init_5 : decode cX3_init 5 = .ok (.bipush 24, 2) := by decide +kernel
theorem dX3_init_7 : decode cX3_init 7 = .ok (.newarray .int, 2) := by decide +kernel
theorem dX3_init_9 : decode cX3_init 9 = .ok (.putfield 9, 3) := by decide +kernel
theorem dX3_init_12 : decode cX3_init 12 = .ok (.return_, 1) := by decide +kernel
theorem dX3_begin_0 : decode cX3_begin 0 = .ok (.aload_n 0, 1) := by decide +kernel
theorem dX3_begin_1 : decode cX3_begin 1 = .ok (.iconst 1, 1) := by decide +kernel
theorem dX3_begin_2 : decode cX3_begin 2 = .ok (.putfield 15, 3) := by decide +kernel
theorem dX3_begin_5 : decode cX3_begin 5 = .ok (.aload_n 0, 1) := by decide +kernel
theorem dX3_begin_6 : decode cX3_begin 6 = .ok (.iload_n 1, 1) := by decide +kernel
theorem dX3_begin_7 : decode cX3_begin 7 = .ok (.putfield 19, 3) := by decide +kernel
theorem dX3_begin_10 : decode cX3_begin 10 = .ok (.aload_n 0, 1) := by decide +kernel
theorem dX3_begin_11 : decode cX3_begin 11 = .ok (.iload_n 2, 1) := by decide +kernel
theorem dX3_begin_12 : decode cX3_begin 12 = .ok (.putfield 23, 3) := by decide +kernel
theorem dX3_begin_15 : decode cX3_begin 15 = .ok (.aload_n 0, 1) := by decide +kernel
theorem dX3_begin_16 : decode cX3_begin 16 = .ok (.getfield 9, 3) := by decide +kernel
theorem dX3_begin_19 : decode cX3_begin 19 = .ok (.iconst 0, 1) := by decide +kernel
theorem dX3_begin_20 : decode cX3_begin 20 = .ok (.invokestatic 26, 3) := by decide +kernel
theorem dX3_begin_23 : decode cX3_begin 23 = .ok (.return_, 1) := by decide +kernel
theorem dX3_narrowed_0 : decode cX3_narrowed 0 = .ok (.iload_n 0, 1) := by decide +kernel
theorem dX3_narrowed_1 : decode cX3_narrowed 1 = .ok (.ifCond .ne 6, 3) := by decide +kernel
theorem dX3_narrowed_4 : decode cX3_narrowed 4 = .ok (.iload_n 1, 1) := by decide +kernel
theorem dX3_narrowed_5 : decode cX3_narrowed 5 = .ok (.i2b, 1) := by decide +kernel
theorem dX3_narrowed_6 : decode cX3_narrowed 6 = .ok (.ireturn, 1) := by decide +kernel
theorem dX3_narrowed_7 : decode cX3_narrowed 7 = .ok (.iload_n 0, 1) := by decide +kernel
theorem dX3_narrowed_8 : decode cX3_narrowed 8 = .ok (.iconst 1, 1) := by decide +kernel
theorem dX3_narrowed_9 : decode cX3_narrowed 9 = .ok (.if_icmp .ne 8, 3) := by decide +kernel
theorem dX3_narrowed_12 : decode cX3_narrowed 12 = .ok (.iload_n 1, 1) := by decide +kernel
theorem dX3_narrowed_13 : decode cX3_narrowed 13 = .ok (.i2s, 1) := by decide +kernel
theorem dX3_narrowed_14 : decode cX3_narrowed 14 = .ok (.goto 4, 3) := by decide +kernel
theorem dX3_narrowed_17 : decode cX3_narrowed 17 = .ok (.iload_n 1, 1) := by decide +kernel
theorem dX3_narrowed_18 : decode cX3_narrowed 18 = .ok (.ireturn, 1) := by decide +kernel
theorem dX3_hasItems_0 : decode cX3_hasItems 0 = .ok (.iload_n 2, 1) := by decide +kernel
theorem dX3_hasItems_1 : decode cX3_hasItems 1 = .ok (.ifCond .lt 29, 3) := by decide +kernel
theorem dX3_hasItems_4 : decode cX3_hasItems 4 = .ok (.iload_n 1, 1) := by decide +kernel
theorem dX3_hasItems_5 : decode cX3_hasItems 5 = .ok (.ifCond .lt 25, 3) := by decide +kernel
theorem dX3_hasItems_8 : decode cX3_hasItems 8 = .ok (.iload_n 1, 1) := by decide +kernel
theorem dX3_hasItems_9 : decode cX3_hasItems 9 = .ok (.aload_n 0, 1) := by decide +kernel
theorem dX3_hasItems_10 : decode cX3_hasItems 10 = .ok (.getfield 23, 3) := by decide +kernel
theorem dX3_hasItems_13 : decode cX3_hasItems 13 = .ok (.if_icmp .gt 17, 3) := by decide +kernel
theorem dX3_hasItems_16 : decode cX3_hasItems 16 = .ok (.iload_n 2, 1) := by decide +kernel
theorem dX3_hasItems_17 : decode cX3_hasItems 17 = .ok (.aload_n 0, 1) := by decide +kernel
theorem dX3_hasItems_18 : decode cX3_hasItems 18 = .ok (.getfield 23, 3) := by decide +kernel
theorem dX3_hasItems_21 : decode cX3_hasItems 21 = .ok (.iload_n 1, 1) := by decide +kernel
theorem dX3_hasItems_22 : decode cX3_hasItems 22 = .ok (.isub, 1) := by decide +kernel
theorem dX3_hasItems_23 : decode cX3_hasItems 23 = .ok (.if_icmp .gt 7, 3) := by decide +kernel
theorem dX3_hasItems_26 : decode cX3_hasItems 26 = .ok (.iconst 1, 1) := by decide +kernel
theorem dX3_hasItems_27 : decode cX3_hasItems 27 = .ok (.goto 4, 3) := by decide +kernel
theorem dX3_hasItems_30 : decode cX3_hasItems 30 = .ok (.iconst 0, 1) := by decide +kernel
theorem dX3_hasItems_31 : decode cX3_hasItems 31 = .ok (.ireturn, 1) := by decide +kernel
theorem dX3_refusal_0 : decode cX3_refusal 0 = .ok (.aload_n 0, 1) := by decide +kernel
theorem dX3_refusal_1 : decode cX3_refusal 1 = .ok (.getfield 15, 3) := by decide +kernel
theorem dX3_refusal_4 : decode cX3_refusal 4 = .ok (.ifCond .ne 6, 3) := by decide +kernel
theorem dX3_refusal_7 : decode cX3_refusal 7 = .ok (.bipush (-11), 2) := by decide +kernel
theorem dX3_refusal_9 : decode cX3_refusal 9 = .ok (.ireturn, 1) := by decide +kernel
theorem dX3_refusal_10 : decode cX3_refusal 10 = .ok (.aload_n 0, 1) := by decide +kernel
theorem dX3_refusal_11 : decode cX3_refusal 11 = .ok (.getfield 19, 3) := by decide +kernel
theorem dX3_refusal_14 : decode cX3_refusal 14 = .ok (.iload_n 1, 1) := by decide +kernel
theorem dX3_refusal_15 : decode cX3_refusal 15 = .ok (.if_icmp .eq 6, 3) := by decide +kernel
theorem dX3_refusal_18 : decode cX3_refusal 18 = .ok (.bipush (-12), 2) := by decide +kernel
theorem dX3_refusal_20 : decode cX3_refusal 20 = .ok (.ireturn, 1) := by decide +kernel
theorem dX3_refusal_21 : decode cX3_refusal 21 = .ok (.aload_n 0, 1) := by decide +kernel
theorem dX3_refusal_22 : decode cX3_refusal 22 = .ok (.iload_n 2, 1) := by decide +kernel
theorem dX3_refusal_23 : decode cX3_refusal 23 = .ok (.iload_n 3, 1) := by decide +kernel
theorem dX3_refusal_24 : decode cX3_refusal 24 = .ok (.invokevirtual 32, 3) := by decide +kernel
theorem dX3_refusal_27 : decode cX3_refusal 27 = .ok (.ifCond .eq 7, 3) := by decide +kernel
theorem dX3_refusal_30 : decode cX3_refusal 30 = .ok (.iconst 0, 1) := by decide +kernel
theorem dX3_refusal_31 : decode cX3_refusal 31 = .ok (.goto 5, 3) := by decide +kernel
theorem dX3_refusal_34 : decode cX3_refusal 34 = .ok (.bipush (-13), 2) := by decide +kernel
theorem dX3_refusal_36 : decode cX3_refusal 36 = .ok (.ireturn, 1) := by decide +kernel
theorem dX4_init_0 : decode cX4_init 0 = .ok (.aload_n 0, 1) := by decide +kernel
theorem dX4_init_1 : decode cX4_init 1 = .ok (.invokespecial 3, 3) := by decide +kernel
theorem dX4_init_4 : decode cX4_init 4 = .ok (.aload_n 0, 1) := by decide +kernel
theorem dX4_init_5 : decode cX4_init 5 = .ok (.bipush 80, 2) := by decide +kernel
theorem dX4_init_7 : decode cX4_init 7 = .ok (.newarray .int, 2) := by decide +kernel
theorem dX4_init_9 : decode cX4_init 9 = .ok (.putfield 9, 3) := by decide +kernel
theorem dX4_init_12 : decode cX4_init 12 = .ok (.return_, 1) := by decide +kernel
theorem dX4_isPrintable_0 : decode cX4_isPrintable 0 = .ok (.iconst 0, 1) := by decide +kernel
theorem dX4_isPrintable_1 : decode cX4_isPrintable 1 = .ok (.istore_n 3, 1) := by decide +kernel
theorem dX4_isPrintable_2 : decode cX4_isPrintable 2 = .ok (.iload_n 3, 1) := by decide +kernel
theorem dX4_isPrintable_3 : decode cX4_isPrintable 3 = .ok (.iload_n 2, 1) := by decide +kernel
theorem dX4_isPrintable_4 : decode cX4_isPrintable 4 = .ok (.if_icmp .ge 32, 3) := by decide +kernel
theorem dX4_isPrintable_7 : decode cX4_isPrintable 7 = .ok (.lload_n 0, 1) := by decide +kernel
theorem dX4_isPrintable_8 : decode cX4_isPrintable 8 = .ok (.bipush 8, 2) := by decide +kernel
theorem dX4_isPrintable_10 : decode cX4_isPrintable 10 = .ok (.iload_n 3, 1) := by decide +kernel
theorem dX4_isPrintable_11 : decode cX4_isPrintable 11 = .ok (.imul, 1) := by decide +kernel
theorem dX4_isPrintable_12 : decode cX4_isPrintable 12 = .ok (.lshr, 1) := by decide +kernel
theorem dX4_isPrintable_13 : decode cX4_isPrintable 13 = .ok (.ldc2_w 15, 3) := by decide +kernel
theorem dX4_isPrintable_16 : decode cX4_isPrintable 16 = .ok (.land, 1) := by decide +kernel
theorem dX4_isPrintable_17 : decode cX4_isPrintable 17 = .ok (.l2i, 1) := by decide +kernel
theorem dX4_isPrintable_18 : decode cX4_isPrintable 18 = .ok (.bipush 32, 2) := by decide +kernel
theorem dX4_isPrintable_20 : decode cX4_isPrintable 20 = .ok (.bipush 126, 2) := by decide +kernel
theorem dX4_isPrintable_22 : decode cX4_isPrintable 22 = .ok (.invokestatic 17, 3) := by decide +kernel
theorem dX4_isPrintable_25 : decode cX4_isPrintable 25 = .ok (.ifCond .ne 5, 3) := by decide +kernel
theorem dX4_isPrintable_28 : decode cX4_isPrintable 28 = .ok (.iconst 0, 1) := by decide +kernel
theorem dX4_isPrintable_29 : decode cX4_isPrintable 29 = .ok (.ireturn, 1) := by decide +kernel
theorem dX4_isPrintable_30 : decode cX4_isPrintable 30 = .ok (.iinc 3 1, 3) := by decide +kernel
theorem dX4_isPrintable_33 : decode cX4_isPrintable 33 = .ok (.goto (-31), 3) := by decide +kernel
theorem dX4_isPrintable_36 : decode cX4_isPrintable 36 = .ok (.iconst 1, 1) := by decide +kernel
theorem dX4_isPrintable_37 : decode cX4_isPrintable 37 = .ok (.ireturn, 1) := by decide +kernel
theorem dX4_append_0 : decode cX4_append 0 = .ok (.iload_n 3, 1) := by decide +kernel
theorem dX4_append_1 : decode cX4_append 1 = .ok (.iconst 1, 1) := by decide +kernel
theorem dX4_append_2 : decode cX4_append 2 = .ok (.isub, 1) := by decide +kernel
theorem dX4_append_3 : decode cX4_append 3 = .ok (.istore 4, 2) := by decide +kernel
theorem dX4_append_5 : decode cX4_append 5 = .ok (.iload 4, 2) := by decide +kernel
theorem dX4_append_7 : decode cX4_append 7 = .ok (.ifCond .lt 49, 3) := by decide +kernel
theorem dX4_append_10 : decode cX4_append 10 = .ok (.aload_n 0, 1) := by decide +kernel
theorem dX4_append_11 : decode cX4_append 11 = .ok (.getfield 21, 3) := by decide +kernel
theorem dX4_append_14 : decode cX4_append 14 = .ok (.bipush 80, 2) := by decide +kernel
theorem dX4_append_16 : decode cX4_append 16 = .ok (.if_icmp .ge 40, 3) := by decide +kernel
theorem dX4_append_19 : decode cX4_append 19 = .ok (.aload_n 0, 1) := by decide +kernel
theorem dX4_append_20 : decode cX4_append 20 = .ok (.getfield 9, 3) := by decide +kernel
theorem dX4_append_23 : decode cX4_append 23 = .ok (.aload_n 0, 1) := by decide +kernel
theorem dX4_append_24 : decode cX4_append 24 = .ok (.getfield 21, 3) := by decide +kernel
theorem dX4_append_27 : decode cX4_append 27 = .ok (.lload_n 1, 1) := by decide +kernel
theorem dX4_append_28 : decode cX4_append 28 = .ok (.bipush 8, 2) := by decide +kernel
theorem dX4_append_30 : decode cX4_append 30 = .ok (.iload 4, 2) := by decide +kernel
theorem dX4_append_32 : decode cX4_append 32 = .ok (.imul, 1) := by decide +kernel
theorem dX4_append_33 : decode cX4_append 33 = .ok (.lshr, 1) := by decide +kernel
theorem dX4_append_34 : decode cX4_append 34 = .ok (.ldc2_w 15, 3) := by decide +kernel
theorem dX4_append_37 : decode cX4_append 37 = .ok (.land, 1) := by decide +kernel
theorem dX4_append_38 : decode cX4_append 38 = .ok (.l2i, 1) := by decide +kernel
theorem dX4_append_39 : decode cX4_append 39 = .ok (.iastore, 1) := by decide +kernel
theorem dX4_append_40 : decode cX4_append 40 = .ok (.aload_n 0, 1) := by decide +kernel
theorem dX4_append_41 : decode cX4_append 41 = .ok (.dup, 1) := by decide +kernel
theorem dX4_append_42 : decode cX4_append 42 = .ok (.getfield 21, 3) := by decide +kernel
theorem dX4_append_45 : decode cX4_append 45 = .ok (.iconst 1, 1) := by decide +kernel
theorem dX4_append_46 : decode cX4_append 46 = .ok (.iadd, 1) := by decide +kernel
theorem dX4_append_47 : decode cX4_append 47 = .ok (.putfield 21, 3) := by decide +kernel
theorem dX4_append_50 : decode cX4_append 50 = .ok (.iinc 4 (-1), 3) := by decide +kernel
theorem dX4_append_53 : decode cX4_append 53 = .ok (.goto (-48), 3) := by decide +kernel
theorem dX4_append_56 : decode cX4_append 56 = .ok (.return_, 1) := by decide +kernel
theorem dX4_readCoats_0 : decode cX4_readCoats 0 = .ok (.aload_n 0, 1) := by decide +kernel
theorem dX4_readCoats_1 : decode cX4_readCoats 1 = .ok (.iconst 0, 1) := by decide +kernel
theorem dX4_readCoats_2 : decode cX4_readCoats 2 = .ok (.putfield 25, 3) := by decide +kernel
theorem dX4_readCoats_5 : decode cX4_readCoats 5 = .ok (.aload_n 1, 1) := by decide +kernel
theorem dX4_readCoats_6 : decode cX4_readCoats 6 = .ok (.iconst 0, 1) := by decide +kernel
theorem dX4_readCoats_7 : decode cX4_readCoats 7 = .ok (.putfield 28, 3) := by decide +kernel
theorem dX4_readCoats_10 : decode cX4_readCoats 10 = .ok (.iconst 1, 1) := by decide +kernel
theorem dX4_readCoats_11 : decode cX4_readCoats 11 = .ok (.istore_n 2, 1) := by decide +kernel
theorem dX4_readCoats_12 : decode cX4_readCoats 12 = .ok (.iload_n 2, 1) := by decide +kernel
theorem dX4_readCoats_13 : decode cX4_readCoats 13 = .ok (.bipush 6, 2) := by decide +kernel
theorem dX4_readCoats_15 : decode cX4_readCoats 15 = .ok (.if_icmp .gt 50, 3) := by decide +kernel
theorem dX4_readCoats_18 : decode cX4_readCoats 18 = .ok (.aload_n 0, 1) := by decide +kernel
theorem dX4_readCoats_19 : decode cX4_readCoats 19 = .ok (.aload_n 1, 1) := by decide +kernel
theorem dX4_readCoats_20 : decode cX4_readCoats 20 = .ok (.invokevirtual 33, 3) := by decide +kernel
theorem dX4_readCoats_23 : decode cX4_readCoats 23 = .ok (.ifCond .ne 6, 3) := by decide +kernel
theorem dX4_readCoats_26 : decode cX4_readCoats 26 = .ok (.goto 39, 3) := by decide +kernel
theorem dX4_readCoats_29 : decode cX4_readCoats 29 = .ok (.aload_n 0, 1) := by decide +kernel
theorem dX4_readCoats_30 : decode cX4_readCoats 30 = .ok (.invokevirtual 37, 3) := by decide +kernel
theorem dX4_readCoats_33 : decode cX4_readCoats 33 = .ok (.ifCond .ge 8, 3) := by decide +kernel
theorem dX4_readCoats_36 : decode cX4_readCoats 36 = .ok (.aload_n 1, 1) := by decide +kernel
theorem dX4_readCoats_37 : decode cX4_readCoats 37 = .ok (.getfield 28, 3) := by decide +kernel
theorem dX4_readCoats_40 : decode cX4_readCoats 40 = .ok (.ireturn, 1) := by decide +kernel
theorem dX4_readCoats_41 : decode cX4_readCoats 41 = .ok (.iload_n 2, 1) := by decide +kernel
theorem dX4_readCoats_42 : decode cX4_readCoats 42 = .ok (.bipush 6, 2) := by decide +kernel
theorem dX4_readCoats_44 : decode cX4_readCoats 44 = .ok (.if_icmp .eq 21, 3) := by decide +kernel
theorem dX4_readCoats_47 : decode cX4_readCoats 47 = .ok (.aload_n 0, 1) := by decide +kernel
theorem dX4_readCoats_48 : decode cX4_readCoats 48 = .ok (.bipush 59, 2) := by decide +kernel
theorem dX4_readCoats_50 : decode cX4_readCoats 50 = .ok (.invokevirtual 41, 3) := by decide +kernel
theorem dX4_readCoats_53 : decode cX4_readCoats 53 = .ok (.ifCond .ne 6, 3) := by decide +kernel
theorem dX4_readCoats_56 : decode cX4_readCoats 56 = .ok (.goto 9, 3) := by decide +kernel
theorem dX4_readCoats_59 : decode cX4_readCoats 59 = .ok (.iinc 2 1, 3) := by decide +kernel
theorem dX4_readCoats_62 : decode cX4_readCoats 62 = .ok (.goto (-50), 3) := by decide +kernel
theorem dX4_readCoats_65 : decode cX4_readCoats 65 = .ok (.bipush (-20), 2) := by decide +kernel
theorem dX4_readCoats_67 : decode cX4_readCoats 67 = .ok (.aload_n 0, 1) := by decide +kernel
theorem dX4_readCoats_68 : decode cX4_readCoats 68 = .ok (.getfield 25, 3) := by decide +kernel
theorem dX4_readCoats_71 : decode cX4_readCoats 71 = .ok (.isub, 1) := by decide +kernel
theorem dX4_readCoats_72 : decode cX4_readCoats 72 = .ok (.ireturn, 1) := by decide +kernel
theorem dX4_readCoat_0 : decode cX4_readCoat 0 = .ok (.aload_n 0, 1) := by decide +kernel
theorem dX4_readCoat_1 : decode cX4_readCoat 1 = .ok (.invokevirtual 37, 3) := by decide +kernel
theorem dX4_readCoat_4 : decode cX4_readCoat 4 = .ok (.bipush 97, 2) := by decide +kernel
theorem dX4_readCoat_6 : decode cX4_readCoat 6 = .ok (.isub, 1) := by decide +kernel
theorem dX4_readCoat_7 : decode cX4_readCoat 7 = .ok (.istore_n 2, 1) := by decide +kernel
theorem dX4_readCoat_8 : decode cX4_readCoat 8 = .ok (.iload_n 2, 1) := by decide +kernel
theorem dX4_readCoat_9 : decode cX4_readCoat 9 = .ok (.invokestatic 45, 3) := by decide +kernel
theorem dX4_readCoat_12 : decode cX4_readCoat 12 = .ok (.ifCond .ne 5, 3) := by decide +kernel
theorem dX4_readCoat_15 : decode cX4_readCoat 15 = .ok (.iconst 0, 1) := by decide +kernel
theorem dX4_readCoat_16 : decode cX4_readCoat 16 = .ok (.ireturn, 1) := by decide +kernel
theorem dX4_readCoat_17 : decode cX4_readCoat 17 = .ok (.aload_n 0, 1) := by decide +kernel
theorem dX4_readCoat_18 : decode cX4_readCoat 18 = .ok (.dup, 1) := by decide +kernel
theorem dX4_readCoat_19 : decode cX4_readCoat 19 = .ok (.getfield 25, 3) := by decide +kernel
theorem dX4_readCoat_22 : decode cX4_readCoat 22 = .ok (.iconst 1, 1) := by decide +kernel
theorem dX4_readCoat_23 : decode cX4_readCoat 23 = .ok (.iadd, 1) := by decide +kernel
theorem dX4_readCoat_24 : decode cX4_readCoat 24 = .ok (.putfield 25, 3) := by decide +kernel
theorem dX4_readCoat_27 : decode cX4_readCoat 27 = .ok (.aload_n 0, 1) := by decide +kernel
theorem dX4_readCoat_28 : decode cX4_readCoat 28 = .ok (.iconst 1, 1) := by decide +kernel
theorem dX4_readCoat_29 : decode cX4_readCoat 29 = .ok (.sipush 9999, 3) := by decide +kernel
theorem dX4_readCoat_32 : decode cX4_readCoat 32 = .ok (.invokevirtual 48, 3) := by decide +kernel
theorem dX4_readCoat_35 : decode cX4_readCoat 35 = .ok (.istore_n 3, 1) := by decide +kernel
theorem dX4_readCoat_36 : decode cX4_readCoat 36 = .ok (.iload_n 3, 1) := by decide +kernel
theorem dX4_readCoat_37 : decode cX4_readCoat 37 = .ok (.ifCond .ge 5, 3) := by decide +kernel
theorem dX4_readCoat_40 : decode cX4_readCoat 40 = .ok (.iconst 0, 1) := by decide +kernel
theorem dX4_readCoat_41 : decode cX4_readCoat 41 = .ok (.ireturn, 1) := by decide +kernel
theorem dX4_readCoat_42 : decode cX4_readCoat 42 = .ok (.aload_n 0, 1) := by decide +kernel
theorem dX4_readCoat_43 : decode cX4_readCoat 43 = .ok (.bipush 114, 2) := by decide +kernel
theorem dX4_readCoat_45 : decode cX4_readCoat 45 = .ok (.invokevirtual 41, 3) := by decide +kernel
theorem dX4_readCoat_48 : decode cX4_readCoat 48 = .ok (.ifCond .eq 13, 3) := by decide +kernel
theorem dX4_readCoat_51 : decode cX4_readCoat 51 = .ok (.aload_n 0, 1) := by decide +kernel
theorem dX4_readCoat_52 : decode cX4_readCoat 52 = .ok (.iconst 0, 1) := by decide +kernel
theorem dX4_readCoat_53 : decode cX4_readCoat 53 = .ok (.bipush 20, 2) := by decide +kernel
theorem dX4_readCoat_55 : decode cX4_readCoat 55 = .ok (.invokevirtual 48, 3) := by decide +kernel
theorem dX4_readCoat_58 : decode cX4_readCoat 58 = .ok (.goto 4, 3) := by decide +kernel
theorem dX4_readCoat_61 : decode cX4_readCoat 61 = .ok (.iconst 0, 1) := by decide +kernel
theorem dX4_readCoat_62 : decode cX4_readCoat 62 = .ok (.istore 4, 2) := by decide +kernel
theorem dX4_readCoat_64 : decode cX4_readCoat 64 = .ok (.iload 4, 2) := by decide +kernel
theorem dX4_readCoat_66 : decode cX4_readCoat 66 = .ok (.ifCond .ge 5, 3) := by decide +kernel
theorem dX4_readCoat_69 : decode cX4_readCoat 69 = .ok (.iconst 0, 1) := by decide +kernel
theorem dX4_readCoat_70 : decode cX4_readCoat 70 = .ok (.ireturn, 1) := by decide +kernel
theorem dX4_readCoat_71 : decode cX4_readCoat 71 = .ok (.aload_n 0, 1) := by decide +kernel
theorem dX4_readCoat_72 : decode cX4_readCoat 72 = .ok (.bipush 116, 2) := by decide +kernel
theorem dX4_readCoat_74 : decode cX4_readCoat 74 = .ok (.invokevirtual 41, 3) := by decide +kernel
theorem dX4_readCoat_77 : decode cX4_readCoat 77 = .ok (.ifCond .eq 10, 3) := by decide +kernel
theorem dX4_readCoat_80 : decode cX4_readCoat 80 = .ok (.aload_n 0, 1) := by decide +kernel
theorem dX4_readCoat_81 : decode cX4_readCoat 81 = .ok (.invokevirtual 52, 3) := by decide +kernel
theorem dX4_readCoat_84 : decode cX4_readCoat 84 = .ok (.goto 4, 3) := by decide +kernel
theorem dX4_readCoat_87 : decode cX4_readCoat 87 = .ok (.iconst 1, 1) := by decide +kernel
theorem dX4_readCoat_88 : decode cX4_readCoat 88 = .ok (.istore 5, 2) := by decide +kernel
theorem dX4_readCoat_90 : decode cX4_readCoat 90 = .ok (.iload 5, 2) := by decide +kernel
theorem dX4_readCoat_92 : decode cX4_readCoat 92 = .ok (.ifCond .ge 5, 3) := by decide +kernel
theorem dX4_readCoat_95 : decode cX4_readCoat 95 = .ok (.iconst 0, 1) := by decide +kernel
theorem dX4_readCoat_96 : decode cX4_readCoat 96 = .ok (.ireturn, 1) := by decide +kernel
theorem dX4_readCoat_97 : decode cX4_readCoat 97 = .ok (.aload_n 1, 1) := by decide +kernel
theorem dX4_readCoat_98 : decode cX4_readCoat 98 = .ok (.iload_n 2, 1) := by decide +kernel
theorem dX4_readCoat_99 : decode cX4_readCoat 99 = .ok (.iload_n 3, 1) := by decide +kernel
theorem dX4_readCoat_100 : decode cX4_readCoat 100 = .ok (.iload 4, 2) := by decide +kernel
theorem dX4_readCoat_102 : decode cX4_readCoat 102 = .ok (.iload 5, 2) := by decide +kernel
theorem dX4_readCoat_104 : decode cX4_readCoat 104 = .ok (.invokevirtual 55, 3) := by decide +kernel
theorem dX4_readCoat_107 : decode cX4_readCoat 107 = .ok (.iconst 1, 1) := by decide +kernel
theorem dX4_readCoat_108 : decode cX4_readCoat 108 = .ok (.ireturn, 1) := by decide +kernel
theorem dX4_nextByte_0 : decode cX4_nextByte 0 = .ok (.aload_n 0, 1) := by decide +kernel
theorem dX4_nextByte_1 : decode cX4_nextByte 1 = .ok (.getfield 25, 3) := by decide +kernel
theorem dX4_nextByte_4 : decode cX4_nextByte 4 = .ok (.aload_n 0, 1) := by decide +kernel
theorem dX4_nextByte_5 : decode cX4_nextByte 5 = .ok (.getfield 21, 3) := by decide +kernel
theorem dX4_nextByte_8 : decode cX4_nextByte 8 = .ok (.if_icmp .ge 30, 3) := by decide +kernel
theorem dX4_nextByte_11 : decode cX4_nextByte 11 = .ok (.aload_n 0, 1) := by decide +kernel
theorem dX4_nextByte_12 : decode cX4_nextByte 12 = .ok (.getfield 9, 3) := by decide +kernel
theorem dX4_nextByte_15 : decode cX4_nextByte 15 = .ok (.aload_n 0, 1) := by decide +kernel
theorem dX4_nextByte_16 : decode cX4_nextByte 16 = .ok (.getfield 25, 3) := by decide +kernel
theorem dX4_nextByte_19 : decode cX4_nextByte 19 = .ok (.iaload, 1) := by decide +kernel
theorem dX4_nextByte_20 : decode cX4_nextByte 20 = .ok (.bipush 32, 2) := by decide +kernel
theorem dX4_nextByte_22 : decode cX4_nextByte 22 = .ok (.if_icmp .ne 16, 3) := by decide +kernel
theorem dX4_nextByte_25 : decode cX4_nextByte 25 = .ok (.aload_n 0, 1) := by decide +kernel
theorem dX4_nextByte_26 : decode cX4_nextByte 26 = .ok (.dup, 1) := by decide +kernel
theorem dX4_nextByte_27 : decode cX4_nextByte 27 = .ok (.getfield 25, 3) := by decide +kernel
theorem dX4_nextByte_30 : decode cX4_nextByte 30 = .ok (.iconst 1, 1) := by decide +kernel
theorem dX4_nextByte_31 : decode cX4_nextByte 31 = .ok (.iadd, 1) := by decide +kernel
theorem dX4_nextByte_32 : decode cX4_nextByte 32 = .ok (.putfield 25, 3) := by decide +kernel
theorem dX4_nextByte_35 : decode cX4_nextByte 35 = .ok (.goto (-35), 3) := by decide +kernel
theorem dX4_nextByte_38 : decode cX4_nextByte 38 = .ok (.aload_n 0, 1) := by decide +kernel
theorem dX4_nextByte_39 : decode cX4_nextByte 39 = .ok (.getfield 25, 3) := by decide +kernel
theorem dX4_nextByte_42 : decode cX4_nextByte 42 = .ok (.aload_n 0, 1) := by decide +kernel
theorem dX4_nextByte_43 : decode cX4_nextByte 43 = .ok (.getfield 21, 3) := by decide +kernel
theorem dX4_nextByte_46 : decode cX4_nextByte 46 = .ok (.if_icmp .ge 15, 3) := by decide +kernel
theorem dX4_nextByte_49 : decode cX4_nextByte 49 = .ok (.aload_n 0, 1) := by decide +kernel
theorem dX4_nextByte_50 : decode cX4_nextByte 50 = .ok (.getfield 9, 3) := by decide +kernel
theorem dX4_nextByte_53 : decode cX4_nextByte 53 = .ok (.aload_n 0, 1) := by decide +kernel
theorem dX4_nextByte_54 : decode cX4_nextByte 54 = .ok (.getfield 25, 3) := by decide +kernel
theorem dX4_nextByte_57 : decode cX4_nextByte 57 = .ok (.iaload, 1) := by decide +kernel
theorem dX4_nextByte_58 : decode cX4_nextByte 58 = .ok (.goto 4, 3) := by decide +kernel
theorem dX4_nextByte_61 : decode cX4_nextByte 61 = .ok (.iconst (-1), 1) := by decide +kernel
theorem dX4_nextByte_62 : decode cX4_nextByte 62 = .ok (.ireturn, 1) := by decide +kernel
theorem dX4_skipIf_0 : decode cX4_skipIf 0 = .ok (.aload_n 0, 1) := by decide +kernel
theorem dX4_skipIf_1 : decode cX4_skipIf 1 = .ok (.invokevirtual 37, 3) := by decide +kernel
theorem dX4_skipIf_4 : decode cX4_skipIf 4 = .ok (.iload_n 1, 1) := by decide +kernel
theorem dX4_skipIf_5 : decode cX4_skipIf 5 = .ok (.if_icmp .eq 5, 3) := by decide +kernel
theorem dX4_skipIf_8 : decode cX4_skipIf 8 = .ok (.iconst 0, 1) := by decide +kernel
theorem dX4_skipIf_9 : decode cX4_skipIf 9 = .ok (.ireturn, 1) := by decide +kernel
theorem dX4_skipIf_10 : decode cX4_skipIf 10 = .ok (.aload_n 0, 1) := by decide +kernel
theorem dX4_skipIf_11 : decode cX4_skipIf 11 = .ok (.dup, 1) := by decide +kernel
theorem dX4_skipIf_12 : decode cX4_skipIf 12 = .ok (.getfield 25, 3) := by decide +kernel
theorem dX4_skipIf_15 : decode cX4_skipIf 15 = .ok (.iconst 1, 1) := by decide +kernel
theorem dX4_skipIf_16 : decode cX4_skipIf 16 = .ok (.iadd, 1) := by decide +kernel
theorem dX4_skipIf_17 : decode cX4_skipIf 17 = .ok (.putfield 25, 3) := by decide +kernel
theorem dX4_skipIf_20 : decode cX4_skipIf 20 = .ok (.iconst 1, 1) := by decide +kernel
theorem dX4_skipIf_21 : decode cX4_skipIf 21 = .ok (.ireturn, 1) := by decide +kernel
theorem dX4_readNumber_0 : decode cX4_readNumber 0 = .ok (.aload_n 0, 1) := by decide +kernel
theorem dX4_readNumber_1 : decode cX4_readNumber 1 = .ok (.invokevirtual 37, 3) := by decide +kernel
theorem dX4_readNumber_4 : decode cX4_readNumber 4 = .ok (.pop, 1) := by decide +kernel
theorem dX4_readNumber_5 : decode cX4_readNumber 5 = .ok (.aload_n 0, 1) := by decide +kernel
theorem dX4_readNumber_6 : decode cX4_readNumber 6 = .ok (.getfield 25, 3) := by decide +kernel
theorem dX4_readNumber_9 : decode cX4_readNumber 9 = .ok (.istore_n 3, 1) := by decide +kernel
theorem dX4_readNumber_10 : decode cX4_readNumber 10 = .ok (.iconst 0, 1) := by decide +kernel
theorem dX4_readNumber_11 : decode cX4_readNumber 11 = .ok (.istore 4, 2) := by decide +kernel
theorem dX4_readNumber_13 : decode cX4_readNumber 13 = .ok (.aload_n 0, 1) := by decide +kernel
theorem dX4_readNumber_14 : decode cX4_readNumber 14 = .ok (.getfield 25, 3) := by decide +kernel
theorem dX4_readNumber_17 : decode cX4_readNumber 17 = .ok (.aload_n 0, 1) := by decide +kernel
theorem dX4_readNumber_18 : decode cX4_readNumber 18 = .ok (.getfield 21, 3) := by decide +kernel
theorem dX4_readNumber_21 : decode cX4_readNumber 21 = .ok (.if_icmp .ge 60, 3) := by decide +kernel
theorem dX4_readNumber_24 : decode cX4_readNumber 24 = .ok (.aload_n 0, 1) := by decide +kernel
theorem dX4_readNumber_25 : decode cX4_readNumber 25 = .ok (.getfield 9, 3) := by decide +kernel
theorem dX4_readNumber_28 : decode cX4_readNumber 28 = .ok (.aload_n 0, 1) := by decide +kernel
theorem dX4_readNumber_29 : decode cX4_readNumber 29 = .ok (.getfield 25, 3) := by decide +kernel
theorem dX4_readNumber_32 : decode cX4_readNumber 32 = .ok (.iaload, 1) := by decide +kernel
theorem dX4_readNumber_33 : decode cX4_readNumber 33 = .ok (.bipush 48, 2) := by decide +kernel
theorem dX4_readNumber_35 : decode cX4_readNumber 35 = .ok (.bipush 57, 2) := by decide +kernel
theorem dX4_readNumber_37 : decode cX4_readNumber 37 = .ok (.invokestatic 17, 3) := by decide +kernel
theorem dX4_readNumber_40 : decode cX4_readNumber 40 = .ok (.ifCond .eq 41, 3) := by decide +kernel
theorem dX4_readNumber_43 : decode cX4_readNumber 43 = .ok (.iload 4, 2) := by decide +kernel
theorem dX4_readNumber_45 : decode cX4_readNumber 45 = .ok (.bipush 10, 2) := by decide +kernel
theorem dX4_readNumber_47 : decode cX4_readNumber 47 = .ok (.imul, 1) := by decide +kernel
theorem dX4_readNumber_48 : decode cX4_readNumber 48 = .ok (.aload_n 0, 1) := by decide +kernel
theorem dX4_readNumber_49 : decode cX4_readNumber 49 = .ok (.getfield 9, 3) := by decide +kernel
theorem dX4_readNumber_52 : decode cX4_readNumber 52 = .ok (.aload_n 0, 1) := by decide +kernel
theorem dX4_readNumber_53 : decode cX4_readNumber 53 = .ok (.getfield 25, 3) := by decide +kernel
theorem dX4_readNumber_56 : decode cX4_readNumber 56 = .ok (.iaload, 1) := by decide +kernel
theorem dX4_readNumber_57 : decode cX4_readNumber 57 = .ok (.iadd, 1) := by decide +kernel
theorem dX4_readNumber_58 : decode cX4_readNumber 58 = .ok (.bipush 48, 2) := by decide +kernel
theorem dX4_readNumber_60 : decode cX4_readNumber 60 = .ok (.isub, 1) := by decide +kernel
theorem dX4_readNumber_61 : decode cX4_readNumber 61 = .ok (.ldc 59, 2) := by decide +kernel
theorem dX4_readNumber_63 : decode cX4_readNumber 63 = .ok (.invokestatic 60, 3) := by decide +kernel
theorem dX4_readNumber_66 : decode cX4_readNumber 66 = .ok (.istore 4, 2) := by decide +kernel
theorem dX4_readNumber_68 : decode cX4_readNumber 68 = .ok (.aload_n 0, 1) := by decide +kernel
theorem dX4_readNumber_69 : decode cX4_readNumber 69 = .ok (.dup, 1) := by decide +kernel
theorem dX4_readNumber_70 : decode cX4_readNumber 70 = .ok (.getfield 25, 3) := by decide +kernel
theorem dX4_readNumber_73 : decode cX4_readNumber 73 = .ok (.iconst 1, 1) := by decide +kernel
theorem dX4_readNumber_74 : decode cX4_readNumber 74 = .ok (.iadd, 1) := by decide +kernel
theorem dX4_readNumber_75 : decode cX4_readNumber 75 = .ok (.putfield 25, 3) := by decide +kernel
theorem dX4_readNumber_78 : decode cX4_readNumber 78 = .ok (.goto (-65), 3) := by decide +kernel
theorem dX4_readNumber_81 : decode cX4_readNumber 81 = .ok (.aload_n 0, 1) := by decide +kernel
theorem dX4_readNumber_82 : decode cX4_readNumber 82 = .ok (.getfield 25, 3) := by decide +kernel
theorem dX4_readNumber_85 : decode cX4_readNumber 85 = .ok (.iload_n 3, 1) := by decide +kernel
theorem dX4_readNumber_86 : decode cX4_readNumber 86 = .ok (.if_icmp .le 16, 3) := by decide +kernel
theorem dX4_readNumber_89 : decode cX4_readNumber 89 = .ok (.iload 4, 2) := by decide +kernel
theorem dX4_readNumber_91 : decode cX4_readNumber 91 = .ok (.iload_n 1, 1) := by decide +kernel
theorem dX4_readNumber_92 : decode cX4_readNumber 92 = .ok (.iload_n 2, 1) := by decide +kernel
theorem dX4_readNumber_93 : decode cX4_readNumber 93 = .ok (.invokestatic 17, 3) := by decide +kernel
theorem dX4_readNumber_96 : decode cX4_readNumber 96 = .ok (.ifCond .eq 6, 3) := by decide +kernel
theorem dX4_readNumber_99 : decode cX4_readNumber 99 = .ok (.iload 4, 2) := by decide +kernel
theorem dX4_readNumber_101 : decode cX4_readNumber 101 = .ok (.ireturn, 1) := by decide +kernel
theorem dX4_readNumber_102 : decode cX4_readNumber 102 = .ok (.aload_n 0, 1) := by decide +kernel
theorem dX4_readNumber_103 : decode cX4_readNumber 103 = .ok (.iload_n 3, 1) := by decide +kernel
theorem dX4_readNumber_104 : decode cX4_readNumber 104 = .ok (.putfield 25, 3) := by decide +kernel
theorem dX4_readNumber_107 : decode cX4_readNumber 107 = .ok (.iconst (-1), 1) := by decide +kernel
theorem dX4_readNumber_108 : decode cX4_readNumber 108 = .ok (.ireturn, 1) := by decide +kernel
theorem dX4_readDigit_0 : decode cX4_readDigit 0 = .ok (.aload_n 0, 1) := by decide +kernel
theorem dX4_readDigit_1 : decode cX4_readDigit 1 = .ok (.invokevirtual 37, 3) := by decide +kernel
theorem dX4_readDigit_4 : decode cX4_readDigit 4 = .ok (.istore_n 1, 1) := by decide +kernel
theorem dX4_readDigit_5 : decode cX4_readDigit 5 = .ok (.iload_n 1, 1) := by decide +kernel
theorem dX4_readDigit_6 : decode cX4_readDigit 6 = .ok (.bipush 49, 2) := by decide +kernel
theorem dX4_readDigit_8 : decode cX4_readDigit 8 = .ok (.bipush 57, 2) := by decide +kernel
theorem dX4_readDigit_10 : decode cX4_readDigit 10 = .ok (.invokestatic 17, 3) := by decide +kernel
theorem dX4_readDigit_13 : decode cX4_readDigit 13 = .ok (.ifCond .ne 5, 3) := by decide +kernel
theorem dX4_readDigit_16 : decode cX4_readDigit 16 = .ok (.iconst (-1), 1) := by decide +kernel
theorem dX4_readDigit_17 : decode cX4_readDigit 17 = .ok (.ireturn, 1) := by decide +kernel
theorem dX4_readDigit_18 : decode cX4_readDigit 18 = .ok (.aload_n 0, 1) := by decide +kernel
theorem dX4_readDigit_19 : decode cX4_readDigit 19 = .ok (.dup, 1) := by decide +kernel
theorem dX4_readDigit_20 : decode cX4_readDigit 20 = .ok (.getfield 25, 3) := by decide +kernel
theorem dX4_readDigit_23 : decode cX4_readDigit 23 = .ok (.iconst 1, 1) := by decide +kernel
theorem dX4_readDigit_24 : decode cX4_readDigit 24 = .ok (.iadd, 1) := by decide +kernel
theorem dX4_readDigit_25 : decode cX4_readDigit 25 = .ok (.putfield 25, 3) := by decide +kernel
theorem dX4_readDigit_28 : decode cX4_readDigit 28 = .ok (.iload_n 1, 1) := by decide +kernel
theorem dX4_readDigit_29 : decode cX4_readDigit 29 = .ok (.bipush 48, 2) := by decide +kernel
theorem dX4_readDigit_31 : decode cX4_readDigit 31 = .ok (.isub, 1) := by decide +kernel
theorem dX4_readDigit_32 : decode cX4_readDigit 32 = .ok (.ireturn, 1) := by decide +kernel
end
section
/-! ===== sheets ===== -/
/-- a sheet: nothing, or lane, length, items -/
abbrev Sht : Type := Option (Int32 × Nat × (Nat → Int32))
def isS (sh : List Shp) (me : Mem) (s : Nat) : Prop := sh[s]? = some (.inl 3) ∧ sh[s + 1]? = some (.inr (0, 24)) ∧ gR me s 0 = some (s + 1)
theorem isS.of {sh : List Shp} {me m : Mem} {s : Nat} (h : isS sh me s) (h2 : m.2 = me.2) : isS sh m s := by
  unfold isS gR at *
  rw [h2]
  exact h
def RepS (me : Mem) (s : Nat) (S : Sht) : Prop := match S with
  | none => gI me s 1 = 0
  | some (lane, n, f) => gI me s 1 = 1 ∧ gI me s 2 = lane ∧ gI me s 3 = nI n ∧ n ≤ 24 ∧ ∀ i, i < n → gI me (s + 1) i = f i
/-- from item i on n items are there -/
def inS (L : Nat) (i n : Int32) : Prop := ∃ a b, i = nI a ∧ n = nI b ∧ a + b ≤ L
def narS (lane v : Int32) : Int32 := if lane = 0 then v.toInt8.toInt32 else if lane = 1 then v.toInt16.toInt32 else v
def RefR (S : Sht) (lane i n x : Int32) : Prop := match S with
  | none => x = -11
  | some (l, L, _) => (¬ l = lane ∧ x = -12) ∨ (l = lane ∧ inS L i n ∧ x = 0) ∨ (l = lane ∧ ¬ inS L i n ∧ x = -13)
theorem inS_iff {L : Nat} (hL : L ≤ 24) (i n : Int32) : (0 ≤ n ∧ 0 ≤ i ∧ i ≤ nI L ∧ n ≤ nI L - i) ↔ inS L i n := by
  constructor
  · rintro ⟨h1, h2, h3, h4⟩
    obtain ⟨a, ha, rfl⟩ := nI_of (Int32.not_lt.mpr h2)
    obtain ⟨b, hb, rfl⟩ := nI_of (Int32.not_lt.mpr h1)
    rw [nI_leI ha (by omega)] at h3
    rw [pk_sub h3, nI_leI hb (by omega)] at h4
    exact ⟨a, b, rfl, rfl, by omega⟩
  · rintro ⟨a, b, rfl, rfl, h⟩
    exact ⟨nI_pos' (by omega), nI_pos' (by omega), nI_le (by omega) (by omega), by rw [pk_sub (by omega)]; exact nI_le (by omega) (by omega)⟩
section SHEET
variable {sh : List Shp} {me : Mem} {d s : Nat}
set_option maxHeartbeats 4000000 in
set_option maxRecDepth 100000 in
theorem c_S_begin (lane n : Int32) (hq : isS sh me s) (hd : 1 ≤ d) : CV d mX3_begin sh [.ref s, .int lane, .int n] me (fun m => m = uA (uI (uI (uI me s 1 1) s 2 lane) s 3 n) (s + 1) (fillF (gI me (s + 1)) 24 0)) := by
  obtain ⟨s0, s1, r0⟩ := hq
  refine CV.mk (L := [.ref s, .int lane, .int n]) (by decide) (Nat.le_of_ble_eq_true rfl) rfl ?_
  refine ld_a0 (np := 1) dX3_begin_0 rfl ?_
  refine wl_iconst (np := 2) (v := 1) dX3_begin_1 rfl (rfl) ?_
  refine wl_putz (np := 5) dX3_begin_2 rfl fl_X3_15 nf_3_1 rfl (by decide) (by assumption) ?_
  refine ld_a0 (np := 6) dX3_begin_5 rfl ?_
  refine ld_i1 (np := 7) dX3_begin_6 rfl ?_
  refine wl_puti (np := 10) dX3_begin_7 rfl fl_X3_19 nf_3_2 rfl (by assumption) ?_
  refine ld_a0 (np := 11) dX3_begin_10 rfl ?_
  refine ld_i2 (np := 12) dX3_begin_11 rfl ?_
  refine wl_puti (np := 15) dX3_begin_12 rfl fl_X3_23 nf_3_3 rfl (by assumption) ?_
  refine ld_a0 (np := 16) dX3_begin_15 rfl ?_
  refine wl_getr (np := 19) dX3_begin_16 rfl fl_X3_9 rfl (by assumption) (by assumption) ?_
  refine wl_iconst (np := 20) (v := 0) dX3_begin_19 rfl (rfl) ?_
  refine cvS_2 (np := 23) dX3_begin_20 rfl lk_X3_26 (Nat.le_of_ble_eq_true rfl) (by omega) (Nat.le_refl _) (Nat.le_refl _) (c_fill 0 s1 (by decide)) (fun m_20 h_20 => ?_)
  have q_20 := h_20.symm
  subst q_20
  refine wv_ret dX3_begin_23 rfl (Nat.le_refl _) (Nat.le_refl _) ?_
  congr 1
  congr 1
  funext b
  rw [gI_uI, if_neg (by omega), gI_uI, if_neg (by omega), gI_uI, if_neg (by omega)]
theorem rep_S_begin (lane : Int32) {n : Nat} (hn : n ≤ 24) : RepS (uA (uI (uI (uI me s 1 1) s 2 lane) s 3 (nI n)) (s + 1) (fillF (gI me (s + 1)) 24 0)) s (some (lane, n, fun _ => 0)) := by
  refine ⟨?_, ?_, ?_, hn, fun i hi => ?_⟩
  · rw [gI_uA, if_neg (by omega), gI_uI, if_neg (by omega), gI_uI, if_neg (by omega), gI_uI]; simp
  · rw [gI_uA, if_neg (by omega), gI_uI, if_neg (by omega), gI_uI]; simp
  · rw [gI_uA, if_neg (by omega), gI_uI]; simp
  · rw [gI_uA, if_pos rfl]; unfold fillF; rw [if_pos (by omega)]
theorem onl_S_begin (lane n : Int32) : Onl me (uA (uI (uI (uI me s 1 1) s 2 lane) s 3 n) (s + 1) (fillF (gI me (s + 1)) 24 0)) s (s + 2) := by
  refine ⟨rfl, fun a ha => funext fun b => ?_⟩
  show gI (uA (uI (uI (uI me s 1 1) s 2 lane) s 3 n) (s + 1) (fillF (gI me (s + 1)) 24 0)) a b = gI me a b
  rw [gI_uA, if_neg (by omega), gI_uI, if_neg (by omega), gI_uI, if_neg (by omega), gI_uI, if_neg (by omega)]
set_option maxHeartbeats 4000000 in
set_option maxRecDepth 100000 in
theorem c_narrowed (lane v : Int32) : CI d mX3_narrowed sh [.int lane, .int v] me (fun x m => x = narS lane v ∧ m = me) := by
  refine CI.mk (L := [.int lane, .int v]) (by decide) (Nat.le_of_ble_eq_true rfl) rfl ?_
  refine ld_i0 (np := 1) dX3_narrowed_0 rfl ?_
  refine wl_if_ne (np := 4) (tg := 7) dX3_narrowed_1 rfl rfl (fun c_1 => ?_) (fun c_1 => ?_)
  · refine ld_i0 (np := 8) dX3_narrowed_7 rfl ?_
    refine wl_iconst (np := 9) (v := 1) dX3_narrowed_8 rfl (rfl) ?_
    refine wl_icmp_ne (np := 12) (tg := 17) dX3_narrowed_9 rfl rfl (fun c_9 => ?_) (fun c_9 => ?_)
    · refine ld_i1 (np := 18) dX3_narrowed_17 rfl ?_
      refine wi_ret dX3_narrowed_18 rfl (rfl) (Nat.le_refl _) (Nat.le_refl _) ?_
      exact ⟨by unfold narS; rw [if_neg c_1, if_neg c_9], rfl⟩
    · refine ld_i1 (np := 13) dX3_narrowed_12 rfl ?_
      refine wl_i2s (np := 14) dX3_narrowed_13 rfl ?_
      refine wl_goto (tg := 18) dX3_narrowed_14 rfl ?_
      refine wi_ret dX3_narrowed_18 rfl (rfl) (Nat.le_refl _) (Nat.le_refl _) ?_
      exact ⟨by unfold narS; rw [if_neg c_1, if_pos c_9], rfl⟩
  · refine ld_i1 (np := 5) dX3_narrowed_4 rfl ?_
    refine wl_i2b (np := 6) dX3_narrowed_5 rfl ?_
    refine wi_ret dX3_narrowed_6 rfl (rfl) (Nat.le_refl _) (Nat.le_refl _) ?_
    exact ⟨by unfold narS; rw [if_pos c_1], rfl⟩
set_option maxHeartbeats 4000000 in
set_option maxRecDepth 100000 in
theorem c_hasItems {L : Nat} (i n : Int32) (hq : isS sh me s) (hl : gI me s 3 = nI L) (hL : L ≤ 24) : CI d mX3_hasItems sh [.ref s, .int i, .int n] me (fun x m => (x = 1 ∧ inS L i n ∨ x = 0 ∧ ¬ inS L i n) ∧ m = me) := by
  obtain ⟨s0, s1, r0⟩ := hq
  have no : ¬ (0 ≤ n ∧ 0 ≤ i ∧ i ≤ gI me s 3 ∧ n ≤ gI me s 3 - i) → ¬ inS L i n := fun q1 q2 => q1 (by rw [hl]; exact (inS_iff hL i n).mpr q2)
  refine CI.mk (L := [.ref s, .int i, .int n]) (by decide) (Nat.le_of_ble_eq_true rfl) rfl ?_
  refine ld_i2 (np := 1) dX3_hasItems_0 rfl ?_
  refine wl_if_lt (np := 4) (tg := 30) dX3_hasItems_1 rfl rfl (fun c_1 => ?_) (fun c_1 => ?_)
  · refine wl_iconst (np := 31) (v := 0) dX3_hasItems_30 rfl (rfl) ?_
    refine wi_ret dX3_hasItems_31 rfl (by decide) (Nat.le_refl _) (Nat.le_refl _) ?_
    exact ⟨Or.inr ⟨rfl, no (fun q => Int32.not_lt.mpr q.1 c_1)⟩, rfl⟩
  · refine ld_i1 (np := 5) dX3_hasItems_4 rfl ?_
    refine wl_if_lt (np := 8) (tg := 30) dX3_hasItems_5 rfl rfl (fun c_5 => ?_) (fun c_5 => ?_)
    · refine wl_iconst (np := 31) (v := 0) dX3_hasItems_30 rfl (rfl) ?_
      refine wi_ret dX3_hasItems_31 rfl (by decide) (Nat.le_refl _) (Nat.le_refl _) ?_
      exact ⟨Or.inr ⟨rfl, no (fun q => Int32.not_lt.mpr q.2.1 c_5)⟩, rfl⟩
    · refine ld_i1 (np := 9) dX3_hasItems_8 rfl ?_
      refine ld_a0 (np := 10) dX3_hasItems_9 rfl ?_
      refine wl_geti (np := 13) dX3_hasItems_10 rfl fl_X3_23 (by decide) (by assumption) ?_
      refine wl_icmp_gt (np := 16) (tg := 30) dX3_hasItems_13 rfl rfl (fun c_13 => ?_) (fun c_13 => ?_)
      · refine wl_iconst (np := 31) (v := 0) dX3_hasItems_30 rfl (rfl) ?_
        refine wi_ret dX3_hasItems_31 rfl (by decide) (Nat.le_refl _) (Nat.le_refl _) ?_
        exact ⟨Or.inr ⟨rfl, no (fun q => Int32.not_lt.mpr q.2.2.1 c_13)⟩, rfl⟩
      · refine ld_i2 (np := 17) dX3_hasItems_16 rfl ?_
        refine ld_a0 (np := 18) dX3_hasItems_17 rfl ?_
        refine wl_geti (np := 21) dX3_hasItems_18 rfl fl_X3_23 (by decide) (by assumption) ?_
        refine ld_i1 (np := 22) dX3_hasItems_21 rfl ?_
        refine wl_isub (np := 23) dX3_hasItems_22 rfl ?_
        refine wl_icmp_gt (np := 26) (tg := 30) dX3_hasItems_23 rfl rfl (fun c_23 => ?_) (fun c_23 => ?_)
        · refine wl_iconst (np := 31) (v := 0) dX3_hasItems_30 rfl (rfl) ?_
          refine wi_ret dX3_hasItems_31 rfl (by decide) (Nat.le_refl _) (Nat.le_refl _) ?_
          exact ⟨Or.inr ⟨rfl, no (fun q => Int32.not_lt.mpr q.2.2.2 c_23)⟩, rfl⟩
        · refine wl_iconst (np := 27) (v := 1) dX3_hasItems_26 rfl (rfl) ?_
          refine wl_goto (tg := 31) dX3_hasItems_27 rfl ?_
          refine wi_ret dX3_hasItems_31 rfl (by decide) (Nat.le_refl _) (Nat.le_refl _) ?_
          refine ⟨Or.inl ⟨rfl, (inS_iff hL i n).mp ?_⟩, rfl⟩
          rw [← hl]
          exact ⟨Int32.not_lt.mp c_1, Int32.not_lt.mp c_5, Int32.not_lt.mp c_13, Int32.not_lt.mp c_23⟩
set_option maxHeartbeats 4000000 in
set_option maxRecDepth 100000 in
theorem c_refusal {S : Sht} (lane i n : Int32) (hq : isS sh me s) (hr : RepS me s S) (hd : 1 ≤ d) : CI d mX3_refusal sh [.ref s, .int lane, .int i, .int n] me (fun x m => RefR S lane i n x ∧ m = me) := by
  have hqs := hq
  obtain ⟨s0, s1, r0⟩ := hq
  refine CI.mk (L := [.ref s, .int lane, .int i, .int n]) (by decide) (Nat.le_of_ble_eq_true rfl) rfl ?_
  match S, hr with
  | none, hr =>
    have h0 : gI me s 1 = 0 := hr
    refine ld_a0 (np := 1) dX3_refusal_0 rfl ?_
    refine wl_geti (np := 4) dX3_refusal_1 rfl fl_X3_15 (by decide) (by assumption) ?_
    refine wl_if_ne (np := 7) (tg := 10) dX3_refusal_4 rfl rfl (fun c_4 => ?_) (fun c_4 => ?_)
    · exact absurd h0 c_4
    · refine wl_bipush (np := 9) (v := -11) dX3_refusal_7 rfl (by decide) ?_
      refine wi_ret dX3_refusal_9 rfl (rfl) (Nat.le_refl _) (Nat.le_refl _) ?_
      exact ⟨rfl, rfl⟩
  | some (l, L, f), hr =>
    obtain ⟨h1, h2, h3, h4, h5⟩ := hr
    refine ld_a0 (np := 1) dX3_refusal_0 rfl ?_
    refine wl_geti (np := 4) dX3_refusal_1 rfl fl_X3_15 (by decide) (by assumption) ?_
    refine wl_if_ne (np := 7) (tg := 10) dX3_refusal_4 rfl rfl (fun c_4 => ?_) (fun c_4 => ?_)
    · refine ld_a0 (np := 11) dX3_refusal_10 rfl ?_
      refine wl_geti (np := 14) dX3_refusal_11 rfl fl_X3_19 (by decide) (by assumption) ?_
      refine ld_i1 (np := 15) dX3_refusal_14 rfl ?_
      refine wl_icmp_eq (np := 18) (tg := 21) dX3_refusal_15 rfl rfl (fun c_15 => ?_) (fun c_15 => ?_)
      · refine ld_a0 (np := 22) dX3_refusal_21 rfl ?_
        refine ld_i2 (np := 23) dX3_refusal_22 rfl ?_
        refine ld_i3 (np := 24) dX3_refusal_23 rfl ?_
        refine ciV_2 (np := 27) dX3_refusal_24 rfl lk_X3_32 (by assumption) (Nat.le_of_ble_eq_true rfl) (by omega) (Nat.le_refl _) (Nat.le_refl _) (c_hasItems i n hqs h3 h4) (fun x_24 m_24 h_24 => ?_)
        obtain ⟨h24, q24⟩ := h_24
        have q24 := q24.symm
        subst q24
        rw [h2] at c_15
        refine wl_if_eq (np := 30) (tg := 34) dX3_refusal_27 rfl rfl (fun c_27 => ?_) (fun c_27 => ?_)
        · refine wl_bipush (np := 36) (v := -13) dX3_refusal_34 rfl (by decide) ?_
          refine wi_ret dX3_refusal_36 rfl (rfl) (Nat.le_refl _) (Nat.le_refl _) ?_
          refine ⟨Or.inr (Or.inr ⟨c_15, ?_, rfl⟩), rfl⟩
          rcases h24 with ⟨h, -⟩ | ⟨-, h⟩
          · rw [c_27] at h; exact absurd h (by decide)
          · exact h
        · refine wl_iconst (np := 31) (v := 0) dX3_refusal_30 rfl (rfl) ?_
          refine wl_goto (tg := 36) dX3_refusal_31 rfl ?_
          refine wi_ret dX3_refusal_36 rfl (rfl) (Nat.le_refl _) (Nat.le_refl _) ?_
          refine ⟨Or.inr (Or.inl ⟨c_15, ?_, rfl⟩), rfl⟩
          rcases h24 with ⟨-, h⟩ | ⟨h, -⟩
          · exact h
          · exact absurd h c_27
      · rw [h2] at c_15
        refine wl_bipush (np := 20) (v := -12) dX3_refusal_18 rfl (by decide) ?_
        refine wi_ret dX3_refusal_20 rfl (rfl) (Nat.le_refl _) (Nat.le_refl _) ?_
        exact ⟨Or.inl ⟨c_15, rfl⟩, rfl⟩
    · rw [h1] at c_4
      exact absurd c_4 (by decide)
end SHEET
end
section
/-! ===== the tape and its reading ===== -/
def isT (sh : List Shp) (me : Mem) (t : Nat) : Prop := sh[t]? = some (.inl 4) ∧ sh[t + 1]? = some (.inr (0, 80)) ∧ gR me t 0 = some (t + 1)
theorem isT.of {sh : List Shp} {me m : Mem} {t : Nat} (h : isT sh me t) (h2 : m.2 = me.2) : isT sh m t := by
  unfold isT gR at *
  rw [h2]
  exact h
/-- byte k of w -/
def btI (w : Int64) (k : Int32) : Int32 := ((w >>> ((8 * k).toInt64 &&& 63)) &&& 255).toInt32
def prnt (w : Int64) (n : Nat) : Prop := ∀ k, k < n → 32 ≤ btI w (nI k) ∧ btI w (nI k) ≤ 126
def apM (me : Mem) (t len : Nat) (w : Int64) (n j : Nat) : Mem := (fun a b => if a = t + 1 ∧ len ≤ b ∧ b < len + j then btI w (nI (n - 1 - (b - len))) else if a = t ∧ b = 1 then nI (len + j) else me.1 a b, me.2)
def skF (f : Nat → Int32) : Nat → Nat → Nat
  | 0, p => p
  | k + 1, p => if f p = 32 then skF f k (p + 1) else p
/-- the place of the first byte that is no blank, or the end -/
def skB (f : Nat → Int32) (n p : Nat) : Nat := skF f (n - p) p
theorem skF_le (f : Nat → Int32) : ∀ k p, p ≤ skF f k p ∧ skF f k p ≤ p + k
  | 0, p => ⟨Nat.le_refl _, Nat.le_refl _⟩
  | k + 1, p => by
    unfold skF
    split
    · have := skF_le f k (p + 1)
      omega
    · omega
theorem skB_le {f : Nat → Int32} {n p : Nat} (h : p ≤ n) : p ≤ skB f n p ∧ skB f n p ≤ n := by
  have := skF_le f (n - p) p
  unfold skB
  omega
theorem skB_step {f : Nat → Int32} {n p : Nat} (h : p < n) (h2 : f p = 32) : skB f n p = skB f n (p + 1) := by
  unfold skB
  obtain ⟨k, hk⟩ : ∃ k, n - p = k + 1 := ⟨n - p - 1, by omega⟩
  rw [hk, show n - (p + 1) = k by omega]
  exact if_pos h2
theorem skB_stop {f : Nat → Int32} {n p : Nat} (h : n ≤ p ∨ ¬ f p = 32) : skB f n p = p := by
  unfold skB
  cases hk : n - p with
  | zero => rfl
  | succ k =>
    refine if_neg ?_
    rcases h with h | h
    · omega
    · exact h
def nbI (f : Nat → Int32) (n p : Nat) : Int32 := if p < n then f p else -1
def dgF (f : Nat → Int32) : Nat → Nat → Int32 → Nat × Int32
  | 0, p, v => (p, v)
  | k + 1, p, v => if 48 ≤ f p ∧ f p ≤ 57 then dgF f k (p + 1) (minI (v * 10 + f p - 48) 999999) else (p, v)
theorem dgF_le (f : Nat → Int32) : ∀ k p v, p ≤ (dgF f k p v).1 ∧ (dgF f k p v).1 ≤ p + k
  | 0, p, v => ⟨Nat.le_refl _, Nat.le_refl _⟩
  | k + 1, p, v => by
    unfold dgF
    split
    · have := dgF_le f k (p + 1) (minI (v * 10 + f p - 48) 999999)
      omega
    · dsimp only; omega
def numS (f : Nat → Int32) (n p : Nat) (lo hi : Int32) : Nat × Option Int32 :=
  let p1 := skB f n p
  let r := dgF f (n - p1) p1 0
  if p1 < r.1 ∧ lo ≤ r.2 ∧ r.2 ≤ hi then (r.1, some r.2) else (p1, none)
def skS (f : Nat → Int32) (n p : Nat) (c : Int32) : Nat × Bool :=
  let p1 := skB f n p
  if nbI f n p1 = c then (p1 + 1, true) else (p1, false)
def digS (f : Nat → Int32) (n p : Nat) : Nat × Option Int32 :=
  let p1 := skB f n p
  if 49 ≤ nbI f n p1 ∧ nbI f n p1 ≤ 57 then (p1 + 1, some (nbI f n p1 - 48)) else (p1, none)
def opS (b : Bool) (r : Nat × Option Int32) (p : Nat) (v : Int32) : Nat × Option Int32 := if b then r else (p, some v)
def coatS (f : Nat → Int32) (n p : Nat) : Nat × Option Coat :=
  let p1 := skB f n p
  let l := nbI f n p1 - 97
  if 0 ≤ l ∧ l ≤ 4 then
    match numS f n (p1 + 1) 1 9999 with
    | (p2, none) => (p2, none)
    | (p2, some a) =>
      match opS (skS f n p2 114).2 (numS f n (skS f n p2 114).1 0 20) (skS f n p2 114).1 0 with
      | (p4, none) => (p4, none)
      | (p4, some r) =>
        match opS (skS f n p4 116).2 (digS f n (skS f n p4 116).1) (skS f n p4 116).1 1 with
        | (p6, none) => (p6, none)
        | (p6, some th) => (p6, some (l, a, r, th))
  else (p1, none)
def rdS (f : Nat → Int32) (n : Nat) : Nat → Nat → List Coat → Nat ⊕ List Coat
  | 0, p, _ => .inl p
  | k + 1, p, acc => match coatS f n p with
    | (p', none) => .inl p'
    | (p', some co) => if n ≤ skB f n p' then .inr (acc ++ [co]) else if k = 0 then .inl (skB f n p') else
        match skS f n (skB f n p') 59 with
        | (p3, true) => rdS f n k p3 (acc ++ [co])
        | (p3, false) => .inl p3
/-- bytes that can't be taken for the end -/
def okB (f : Nat → Int32) (n : Nat) : Prop := ∀ i, i < n → 32 ≤ f i ∧ f i ≤ 126
theorem skS_le {f : Nat → Int32} {n p : Nat} {c : Int32} (h : p ≤ n) (hc : 0 ≤ c) : (skS f n p c).1 ≤ n := by
  have := skB_le (f := f) h
  unfold skS
  dsimp only
  split
  · rename_i hh
    have : skB f n p < n := Classical.byContradiction fun q => by
      unfold nbI at hh
      rw [if_neg q] at hh
      rw [← hh] at hc
      exact absurd hc (by decide)
    show skB f n p + 1 ≤ n
    omega
  · exact this.2
theorem numS_le {f : Nat → Int32} {n p : Nat} {lo hi : Int32} (h : p ≤ n) : (numS f n p lo hi).1 ≤ n := by
  have h1 := skB_le (f := f) h
  have h2 := dgF_le f (n - skB f n p) (skB f n p) 0
  unfold numS
  dsimp only
  split
  · show (dgF f (n - skB f n p) (skB f n p) 0).1 ≤ n
    omega
  · exact h1.2
theorem digS_le {f : Nat → Int32} {n p : Nat} (h : p ≤ n) : (digS f n p).1 ≤ n := by
  have := skB_le (f := f) h
  unfold digS
  dsimp only
  split
  · rename_i hh
    have : skB f n p < n := Classical.byContradiction fun q => by
      unfold nbI at hh
      rw [if_neg q] at hh
      exact absurd hh.1 (by decide)
    show skB f n p + 1 ≤ n
    omega
  · exact this.2
section TAPE
variable {sh : List Shp} {me : Mem} {d t n p : Nat}
set_option maxHeartbeats 4000000 in
set_option maxRecDepth 100000 in
theorem c_isPrintable (w : Int64) (hn : n ≤ 8) (hd : 1 ≤ d) : CI d mX4_isPrintable sh [.long w, .int (nI n)] me (fun x m => (x = 1 ∧ prnt w n ∨ x = 0 ∧ ¬ prnt w n) ∧ m = me) := by
  have key : ∀ fuel i, n - i < fuel → i ≤ n → prnt w i → Wa mX4_isPrintable (0, fun _ => 0) d 0 0 sh.length (PI sh (fun x m => (x = 1 ∧ prnt w n ∨ x = 0 ∧ ¬ prnt w n) ∧ m = me)) 2 [.long w, .float 0, .int (nI n), .int (nI i)] [] sh me 0 0 := by
    intro fuel
    induction fuel with
    | zero => intro i h; omega
    | succ fuel ih =>
      intro i hi hin hp
      refine ld_i3 (np := 3) dX4_isPrintable_2 rfl ?_
      refine ld_i2 (np := 4) dX4_isPrintable_3 rfl ?_
      refine wl_icmp_ge (np := 7) (tg := 36) dX4_isPrintable_4 rfl rfl (fun c_4 => ?_) (fun c_4 => ?_)
      · rw [nI_le_iff (by omega) (by omega)] at c_4
        refine wl_iconst (np := 37) (v := 1) dX4_isPrintable_36 rfl (rfl) ?_
        refine wi_ret dX4_isPrintable_37 rfl (by decide) (Nat.le_refl _) (Nat.le_refl _) ?_
        rw [show i = n by omega] at hp
        exact ⟨Or.inl ⟨rfl, hp⟩, rfl⟩
      · rw [nI_le_iff (by omega) (by omega)] at c_4
        refine ld_l0 (np := 8) dX4_isPrintable_7 rfl ?_
        refine wl_bipush (np := 10) (v := 8) dX4_isPrintable_8 rfl (by decide) ?_
        refine ld_i3 (np := 11) dX4_isPrintable_10 rfl ?_
        refine wl_imul (np := 12) dX4_isPrintable_11 rfl ?_
        refine wl_lshr (np := 13) dX4_isPrintable_12 rfl ?_
        refine wl_ldc2 (np := 16) dX4_isPrintable_13 rfl wk_X4_15 ?_
        refine wl_land (np := 17) dX4_isPrintable_16 rfl ?_
        refine wl_l2i (np := 18) dX4_isPrintable_17 rfl ?_
        refine wl_bipush (np := 20) (v := 32) dX4_isPrintable_18 rfl (by decide) ?_
        refine wl_bipush (np := 22) (v := 126) dX4_isPrintable_20 rfl (by decide) ?_
        refine ciSN_3 (np := 25) dX4_isPrintable_22 rfl lk_X4_17 (Nat.le_of_ble_eq_true rfl) (by omega) (Nat.le_refl _) (Nat.le_refl _) (c_isWithin _ _ _) (fun x_22 m_22 h_22 => ?_)
        obtain ⟨rfl, q_22⟩ := h_22
        have q_22 := q_22.symm
        subst q_22
        refine wl_if_ne (np := 28) (tg := 30) dX4_isPrintable_25 rfl rfl (fun c_25 => ?_) (fun c_25 => ?_)
        · have hz : 32 ≤ btI w (nI i) ∧ btI w (nI i) ≤ 126 := Classical.byContradiction fun q => c_25 (if_neg q)
          refine inc_3 (np := 33) (v := _ + 1) dX4_isPrintable_30 rfl rfl (by decide) rfl ?_
          refine wl_goto (tg := 2) dX4_isPrintable_33 rfl ?_
          rw [← nI_succ]
          refine ih (i + 1) (by omega) (by omega) (fun k hk => ?_)
          rcases Nat.lt_succ_iff_lt_or_eq.mp hk with h | rfl
          · exact hp k h
          · exact hz
        · have hz : ¬ (32 ≤ btI w (nI i) ∧ btI w (nI i) ≤ 126) := fun q => absurd ((if_pos q).symm.trans c_25) (by decide)
          refine wl_iconst (np := 29) (v := 0) dX4_isPrintable_28 rfl (rfl) ?_
          refine wi_ret dX4_isPrintable_29 rfl (by decide) (Nat.le_refl _) (Nat.le_refl _) ?_
          exact ⟨Or.inr ⟨rfl, fun q => hz (q i (by omega))⟩, rfl⟩
  refine CI.mk (L := [.long w, .float 0, .int (nI n), .float 0]) (by decide) (Nat.le_of_ble_eq_true rfl) rfl ?_
  refine wl_iconst (np := 1) (v := 0) dX4_isPrintable_0 rfl (rfl) ?_
  refine st_i3 (np := 2) dX4_isPrintable_1 rfl (by decide) rfl ?_
  exact key (n + 1) 0 (by omega) (by omega) (fun k h => by omega)
set_option maxHeartbeats 4000000 in
set_option maxRecDepth 100000 in
theorem c_append {len : Nat} (w : Int64) (hq : isT sh me t) (hl : gI me t 1 = nI len) (hln : len + n ≤ 80) : CV d mX4_append sh [.ref t, .long w, .int (nI n)] me (fun m => m = apM me t len w n n) := by
  obtain ⟨s0, s1, r0⟩ := hq
  have hle : ∀ j, gI (apM me t len w n j) t 1 = nI (len + j) := fun j => by
    simp only [apM, g_def]; rw [if_neg (by omega), if_pos (by refine ⟨?_, ?_⟩ <;> first | trivial | rfl)]
  have key : ∀ k j, k + j = n → Wa mX4_append (0, fun _ => 0) d 0 0 sh.length (PV sh (fun m => m = apM me t len w n n)) 5 [.ref t, .long w, .float 0, .int (nI n), .int (nI k - 1)] [] sh (apM me t len w n j) 0 0 := by
    intro k
    induction k with
    | zero =>
      intro j hj
      refine ld_i4 (np := 7) dX4_append_5 rfl ?_
      refine wl_if_lt (np := 10) (tg := 56) dX4_append_7 rfl rfl (fun c_7 => ?_) (fun c_7 => ?_)
      · refine wv_ret dX4_append_56 rfl (Nat.le_refl _) (Nat.le_refl _) ?_
        rw [show j = n by omega]
      · exact absurd (show nI 0 - 1 < 0 by decide) c_7
    | succ k ih =>
      intro j hj
      rw [nI_pred]
      refine ld_i4 (np := 7) dX4_append_5 rfl ?_
      refine wl_if_lt (np := 10) (tg := 56) dX4_append_7 rfl rfl (fun c_7 => ?_) (fun c_7 => ?_)
      · exact absurd c_7 (nI_pos (by omega))
      · refine ld_a0 (np := 11) dX4_append_10 rfl ?_
        refine wl_geti (np := 14) dX4_append_11 rfl fl_X4_21 (by decide) (by assumption) ?_
        refine wl_bipush (np := 16) (v := 80) dX4_append_14 rfl (by decide) ?_
        refine wl_icmp_ge (np := 19) (tg := 56) dX4_append_16 rfl rfl (fun c_16 => ?_) (fun c_16 => ?_)
        · rw [hle] at c_16
          exact absurd c_16 (by rw [show (80 : Int32) = nI 80 from rfl, nI_le_iff (by decide) (by omega)]; omega)
        · have hi : inA sh (t + 1) (gI (apM me t len w n j) t 1) := by rw [hle]; exact inA_n s1 (by omega) (by decide)
          refine ld_a0 (np := 20) dX4_append_19 rfl ?_
          refine wl_getr (np := 23) dX4_append_20 rfl fl_X4_9 rfl (by assumption) (by assumption) ?_
          refine ld_a0 (np := 24) dX4_append_23 rfl ?_
          refine wl_geti (np := 27) dX4_append_24 rfl fl_X4_21 (by decide) (by assumption) ?_
          refine ld_l1 (np := 28) dX4_append_27 rfl ?_
          refine wl_bipush (np := 30) (v := 8) dX4_append_28 rfl (by decide) ?_
          refine ld_i4 (np := 32) dX4_append_30 rfl ?_
          refine wl_imul (np := 33) dX4_append_32 rfl ?_
          refine wl_lshr (np := 34) dX4_append_33 rfl ?_
          refine wl_ldc2 (np := 37) dX4_append_34 rfl wk_X4_15 ?_
          refine wl_land (np := 38) dX4_append_37 rfl ?_
          refine wl_l2i (np := 39) dX4_append_38 rfl ?_
          refine wl_iastore (np := 40) dX4_append_39 rfl (hi) ?_
          refine ld_a0 (np := 41) dX4_append_40 rfl ?_
          refine wl_dup (np := 42) dX4_append_41 rfl rfl ?_
          refine wl_geti (np := 45) dX4_append_42 rfl fl_X4_21 (by decide) (by assumption) ?_
          refine wl_iconst (np := 46) (v := 1) dX4_append_45 rfl (rfl) ?_
          refine wl_iadd (np := 47) dX4_append_46 rfl ?_
          refine wl_puti (np := 50) dX4_append_47 rfl fl_X4_21 nf_4_1 rfl (by assumption) ?_
          refine inc_4 (np := 53) (v := _ + (-1)) dX4_append_50 rfl rfl (by decide) rfl ?_
          refine wl_goto (tg := 5) dX4_append_53 rfl ?_
          rw [hle, nI_clamp (by omega), gI_uI, if_neg (by omega), hle, ← nI_succ, ← Int32.sub_eq_add_neg]
          refine cast (congrArg (fun z => Wa mX4_append (0, fun _ => 0) d 0 0 sh.length (PV sh (fun m => m = apM me t len w n n)) 5 [.ref t, .long w, .float 0, .int (nI n), .int (nI k - 1)] [] sh z 0 0) ?_) (ih (j + 1) (by omega))
          apply mem_ext
          · intro a b
            simp only [gI_uI, apM, g_def, g_raw]
            have e1 : ((w >>> ((8 * nI k).toInt64 &&& 63)) &&& 255).toInt32 = btI w (nI (n - 1 - j)) := by rw [show n - 1 - j = k by omega]; rfl
            rw [e1]
            clear ih hi c_7 c_16 hle s0 s1 r0 hl
            by_cases h1 : a = t + 1
            · subst h1; grind (splits := 20)
            grind (splits := 20)
          · rfl
  refine CV.mk (L := [.ref t, .long w, .float 0, .int (nI n), .float 0]) (by decide) (Nat.le_of_ble_eq_true rfl) rfl ?_
  refine ld_i3 (np := 1) dX4_append_0 rfl ?_
  refine wl_iconst (np := 2) (v := 1) dX4_append_1 rfl (rfl) ?_
  refine wl_isub (np := 3) dX4_append_2 rfl ?_
  refine st_i4 (np := 5) dX4_append_3 rfl (by decide) rfl ?_
  have e0 : apM me t len w n 0 = me := by
    apply mem_ext
    · intro a b
      simp only [apM, g_def, g_raw]
      rw [if_neg (by omega)]
      split
      · rename_i hh
        rw [hh.1, hh.2, hl]; rfl
      · rfl
    · rfl
  have h := key n 0 (by omega)
  rw [e0] at h
  exact h
set_option maxHeartbeats 4000000 in
set_option maxRecDepth 100000 in
theorem c_nextByte (hq : isT sh me t) (hl : gI me t 1 = nI n) (hn : n ≤ 80) (hp : gI me t 2 = nI p) (hpn : p ≤ n) : CI d mX4_nextByte sh [.ref t] me (fun x m => x = nbI (gI me (t + 1)) n (skB (gI me (t + 1)) n p) ∧ m = uI me t 2 (nI (skB (gI me (t + 1)) n p))) := by
  obtain ⟨s0, s1, r0⟩ := hq
  have key : ∀ fuel i (m : Mem), n - i < fuel → i ≤ n → m = uI me t 2 (nI i) → skB (gI me (t + 1)) n i = skB (gI me (t + 1)) n p → Wa mX4_nextByte (0, fun _ => 0) d 0 0 sh.length (PI sh (fun x m => x = nbI (gI me (t + 1)) n (skB (gI me (t + 1)) n p) ∧ m = uI me t 2 (nI (skB (gI me (t + 1)) n p)))) 0 [.ref t] [] sh m 0 0 := by
    intro fuel
    induction fuel with
    | zero => intro i m h; omega
    | succ fuel ih =>
      intro i m hi hin hm hs
      subst hm
      have f1 : gI (uI me t 2 (nI i)) t 1 = nI n := by rw [gI_uI, if_neg (by omega)]; exact hl
      have f2 : gI (uI me t 2 (nI i)) t 2 = nI i := by rw [gI_uI]; simp
      have f3 : ∀ b, gI (uI me t 2 (nI i)) (t + 1) b = gI me (t + 1) b := fun b => by rw [gI_uI, if_neg (by omega)]
      refine ld_a0 (np := 1) dX4_nextByte_0 rfl ?_
      refine wl_geti (np := 4) dX4_nextByte_1 rfl fl_X4_25 (by decide) (by assumption) ?_
      refine ld_a0 (np := 5) dX4_nextByte_4 rfl ?_
      refine wl_geti (np := 8) dX4_nextByte_5 rfl fl_X4_21 (by decide) (by assumption) ?_
      refine wl_icmp_ge (np := 11) (tg := 38) dX4_nextByte_8 rfl rfl (fun c_8 => ?_) (fun c_8 => ?_)
      · rw [f1, f2, nI_le_iff (by omega) (by omega)] at c_8
        have hst : skB (gI me (t + 1)) n i = i := skB_stop (Or.inl c_8)
        refine ld_a0 (np := 39) dX4_nextByte_38 rfl ?_
        refine wl_geti (np := 42) dX4_nextByte_39 rfl fl_X4_25 (by decide) (by assumption) ?_
        refine ld_a0 (np := 43) dX4_nextByte_42 rfl ?_
        refine wl_geti (np := 46) dX4_nextByte_43 rfl fl_X4_21 (by decide) (by assumption) ?_
        refine wl_icmp_ge (np := 49) (tg := 61) dX4_nextByte_46 rfl rfl (fun c_46 => ?_) (fun c_46 => ?_)
        · refine wl_iconst (np := 62) (v := -1) dX4_nextByte_61 rfl (rfl) ?_
          refine wi_ret dX4_nextByte_62 rfl (rfl) (Nat.le_refl _) (Nat.le_refl _) ?_
          rw [← hs, hst]
          exact ⟨by unfold nbI; rw [if_neg (by omega)], rfl⟩
        · rw [f1, f2, nI_le_iff (by omega) (by omega)] at c_46
          omega
      · rw [f1, f2, nI_le_iff (by omega) (by omega)] at c_8
        have hia : inA sh (t + 1) (gI (uI me t 2 (nI i)) t 2) := by rw [f2]; exact inA_n s1 (by omega) (by decide)
        refine ld_a0 (np := 12) dX4_nextByte_11 rfl ?_
        refine wl_getr (np := 15) dX4_nextByte_12 rfl fl_X4_9 rfl (by assumption) (by assumption) ?_
        refine ld_a0 (np := 16) dX4_nextByte_15 rfl ?_
        refine wl_geti (np := 19) dX4_nextByte_16 rfl fl_X4_25 (by decide) (by assumption) ?_
        refine wl_iaload (np := 20) dX4_nextByte_19 rfl (hia) ?_
        refine wl_bipush (np := 22) (v := 32) dX4_nextByte_20 rfl (by decide) ?_
        refine wl_icmp_ne (np := 25) (tg := 38) dX4_nextByte_22 rfl rfl (fun c_22 => ?_) (fun c_22 => ?_)
        · rw [f2, nI_clamp (by omega), f3] at c_22
          have hst : skB (gI me (t + 1)) n i = i := skB_stop (Or.inr c_22)
          refine ld_a0 (np := 39) dX4_nextByte_38 rfl ?_
          refine wl_geti (np := 42) dX4_nextByte_39 rfl fl_X4_25 (by decide) (by assumption) ?_
          refine ld_a0 (np := 43) dX4_nextByte_42 rfl ?_
          refine wl_geti (np := 46) dX4_nextByte_43 rfl fl_X4_21 (by decide) (by assumption) ?_
          refine wl_icmp_ge (np := 49) (tg := 61) dX4_nextByte_46 rfl rfl (fun c_46 => ?_) (fun c_46 => ?_)
          · rw [f1, f2, nI_le_iff (by omega) (by omega)] at c_46
            omega
          · refine ld_a0 (np := 50) dX4_nextByte_49 rfl ?_
            refine wl_getr (np := 53) dX4_nextByte_50 rfl fl_X4_9 rfl (by assumption) (by assumption) ?_
            refine ld_a0 (np := 54) dX4_nextByte_53 rfl ?_
            refine wl_geti (np := 57) dX4_nextByte_54 rfl fl_X4_25 (by decide) (by assumption) ?_
            refine wl_iaload (np := 58) dX4_nextByte_57 rfl (hia) ?_
            refine wl_goto (tg := 62) dX4_nextByte_58 rfl ?_
            refine wi_ret dX4_nextByte_62 rfl (rfl) (Nat.le_refl _) (Nat.le_refl _) ?_
            rw [f2, nI_clamp (by omega), f3, ← hs, hst]
            exact ⟨by unfold nbI; rw [if_pos (by omega)], rfl⟩
        · rw [f2, nI_clamp (by omega), f3] at c_22
          refine ld_a0 (np := 26) dX4_nextByte_25 rfl ?_
          refine wl_dup (np := 27) dX4_nextByte_26 rfl rfl ?_
          refine wl_geti (np := 30) dX4_nextByte_27 rfl fl_X4_25 (by decide) (by assumption) ?_
          refine wl_iconst (np := 31) (v := 1) dX4_nextByte_30 rfl (rfl) ?_
          refine wl_iadd (np := 32) dX4_nextByte_31 rfl ?_
          refine wl_puti (np := 35) dX4_nextByte_32 rfl fl_X4_25 nf_4_2 rfl (by assumption) ?_
          refine wl_goto (tg := 0) dX4_nextByte_35 rfl ?_
          refine ih (i + 1) _ (by omega) (by omega) ?_ ((skB_step (by omega) c_22).symm.trans hs)
          rw [f2, ← nI_succ]
          apply mem_ext
          · intro a b
            simp only [gI_uI]
            by_cases hh : a = t ∧ b = 2
            · rw [if_pos hh, if_pos hh]
            · rw [if_neg hh, if_neg hh, if_neg hh]
          · rfl
  refine CI.mk (L := [.ref t]) (by decide) (Nat.le_of_ble_eq_true rfl) rfl ?_
  refine key (n + 1) p me (by omega) (by omega) ?_ rfl
  apply mem_ext
  · intro a b
    rw [gI_uI]
    split
    · rename_i hh
      rw [hh.1, hh.2, hp]
    · rfl
  · rfl
end TAPE
end
section
theorem uI_uI (me : Mem) (k i : Nat) (x y : Int32) : uI (uI me k i x) k i y = uI me k i y := by
  apply mem_ext
  · intro a b
    simp only [gI_uI]
    by_cases hh : a = k ∧ b = i
    · rw [if_pos hh, if_pos hh]
    · rw [if_neg hh, if_neg hh, if_neg hh]
  · rfl
theorem gI_uI_ne {me : Mem} {k i a : Nat} {x : Int32} (h : a ≠ k) : gI (uI me k i x) a = gI me a := funext fun b => by rw [gI_uI, if_neg (fun q => h q.1)]
theorem gI_uI_self (me : Mem) (k i : Nat) (x : Int32) : gI (uI me k i x) k i = x := by rw [gI_uI, if_pos ⟨rfl, rfl⟩]
theorem gI_uI_nb {me : Mem} {k i a b : Nat} {x : Int32} (h : b ≠ i) : gI (uI me k i x) a b = gI me a b := by rw [gI_uI, if_neg (fun q => h q.2)]
def ovI (o : Option Int32) : Int32 := o.getD (-1)
theorem numS_pos {f : Nat → Int32} {n p : Nat} {lo hi v : Int32} (h : (numS f n p lo hi).2 = some v) : lo ≤ v ∧ v ≤ hi := by
  unfold numS at h
  dsimp only at h
  split at h
  · rename_i hh
    cases h
    exact hh.2
  · cases h
theorem digS_pos {f : Nat → Int32} {n p : Nat} {v : Int32} (h : (digS f n p).2 = some v) : 1 ≤ v ∧ v ≤ 9 := by
  unfold digS at h
  dsimp only at h
  split at h
  · rename_i hh
    cases h
    obtain ⟨h1, h2⟩ := hh
    generalize nbI f n (skB f n p) = y at h1 h2 ⊢
    obtain ⟨j, hj, rfl⟩ := nI_of2 (x := y) (M := 57) (n := 57) rfl (Int32.not_lt.mpr (Int32.le_trans (by decide) h1)) h2
    have h1' : 49 ≤ j := (nI_leI (by decide) (by omega)).mp (show nI 49 ≤ nI j from h1)
    rw [show (48 : Int32) = nI 48 from rfl, pk_sub (by omega)]
    exact ⟨(show nI 1 ≤ _ from nI_le (by omega) (by omega)), (show _ ≤ nI 9 from nI_le (by omega) (by decide))⟩
  · cases h
/-- the coats of one, without the rest of him -/
def RepCs (me : Mem) (q : Nat) (cs : List Coat) : Prop := gI me q 5 = nI cs.length ∧ cs.length ≤ 8 ∧ ∀ c co, cs[c]? = some co → gI me (q + 1) c = co.1 ∧ gI me (q + 2) c = co.2.1 ∧ gI me (q + 3) c = co.2.2.1 ∧ gI me (q + 4) c = co.2.2.2
theorem RepCs.put {me : Mem} {q : Nat} {cs : List Coat} (h : RepCs me q cs) (hn : cs.length < 8) (co : Coat) : RepCs (putM me q cs.length co.1 co.2.1 co.2.2.1 co.2.2.2) q (cs ++ [co]) := by
  obtain ⟨h5, h6, h7⟩ := h
  refine ⟨?_, by simp; omega, fun c co' hc => ?_⟩
  · simp only [putM, List.length_append, List.length_cons, List.length_nil]
    rw [gI_uI_self]
  · by_cases hlt : c < cs.length
    · rw [List.getElem?_append_left hlt] at hc
      obtain ⟨g1, g2, g3, g4⟩ := h7 c co' hc
      refine ⟨?_, ?_, ?_, ?_⟩ <;> simp only [putM, gI_uI] <;> grind
    · rw [List.getElem?_append_right (by omega)] at hc
      have hz : c - cs.length < 1 := (List.getElem?_eq_some_iff.mp hc).1
      have hce : c = cs.length := by omega
      subst hce
      rw [Nat.sub_self] at hc
      cases hc
      refine ⟨?_, ?_, ?_, ?_⟩ <;> simp only [putM, gI_uI] <;> grind
theorem RepCs.fr {me m : Mem} {q : Nat} {cs : List Coat} (h : RepCs me q cs) (hf : ∀ a, q ≤ a → a < q + 6 → m.1 a = me.1 a) : RepCs m q cs := by
  have e : ∀ k b, k < 6 → gI m (q + k) b = gI me (q + k) b := fun k b hk => congrFun (hf (q + k) (by omega) (by omega)) b
  obtain ⟨h5, h6, h7⟩ := h
  refine ⟨(e 0 5 (by omega)).trans h5, h6, fun c co hc => ?_⟩
  obtain ⟨g1, g2, g3, g4⟩ := h7 c co hc
  exact ⟨(e 1 c (by omega)).trans g1, (e 2 c (by omega)).trans g2, (e 3 c (by omega)).trans g3, (e 4 c (by omega)).trans g4⟩
section TAPE2
variable {sh : List Shp} {me : Mem} {d t n p q : Nat}
set_option maxHeartbeats 4000000 in
set_option maxRecDepth 100000 in
theorem c_skipIf (c : Int32) (hq : isT sh me t) (hl : gI me t 1 = nI n) (hn : n ≤ 80) (hp : gI me t 2 = nI p) (hpn : p ≤ n) (hd : 1 ≤ d) : CI d mX4_skipIf sh [.ref t, .int c] me (fun x m => x = (if (skS (gI me (t + 1)) n p c).2 = true then 1 else 0) ∧ m = uI me t 2 (nI (skS (gI me (t + 1)) n p c).1)) := by
  have hqs := hq
  obtain ⟨s0, s1, r0⟩ := hq
  refine CI.mk (L := [.ref t, .int c]) (by decide) (Nat.le_of_ble_eq_true rfl) rfl ?_
  refine ld_a0 (np := 1) dX4_skipIf_0 rfl ?_
  refine ciV_0 (np := 4) dX4_skipIf_1 rfl lk_X4_37 (by assumption) (Nat.le_of_ble_eq_true rfl) (by omega) (Nat.le_refl _) (Nat.le_refl _) (c_nextByte hqs hl hn hp hpn) (fun x_1 m_1 h_1 => ?_)
  obtain ⟨rfl, q_1⟩ := h_1
  have q_1 := q_1.symm
  subst q_1
  refine ld_i1 (np := 5) dX4_skipIf_4 rfl ?_
  refine wl_icmp_eq (np := 8) (tg := 10) dX4_skipIf_5 rfl rfl (fun c_5 => ?_) (fun c_5 => ?_)
  · refine ld_a0 (np := 11) dX4_skipIf_10 rfl ?_
    refine wl_dup (np := 12) dX4_skipIf_11 rfl rfl ?_
    refine wl_geti (np := 15) dX4_skipIf_12 rfl fl_X4_25 (by decide) (by assumption) ?_
    refine wl_iconst (np := 16) (v := 1) dX4_skipIf_15 rfl (rfl) ?_
    refine wl_iadd (np := 17) dX4_skipIf_16 rfl ?_
    refine wl_puti (np := 20) dX4_skipIf_17 rfl fl_X4_25 nf_4_2 rfl (by assumption) ?_
    refine wl_iconst (np := 21) (v := 1) dX4_skipIf_20 rfl (rfl) ?_
    refine wi_ret dX4_skipIf_21 rfl (by decide) (Nat.le_refl _) (Nat.le_refl _) ?_
    rw [gI_uI_self, ← nI_succ, uI_uI]
    unfold skS
    dsimp only
    rw [if_pos c_5]
    exact ⟨rfl, rfl⟩
  · refine wl_iconst (np := 9) (v := 0) dX4_skipIf_8 rfl (rfl) ?_
    refine wi_ret dX4_skipIf_9 rfl (by decide) (Nat.le_refl _) (Nat.le_refl _) ?_
    unfold skS
    dsimp only
    rw [if_neg c_5]
    exact ⟨rfl, rfl⟩
set_option maxHeartbeats 4000000 in
set_option maxRecDepth 100000 in
theorem c_readDigit (hq : isT sh me t) (hl : gI me t 1 = nI n) (hn : n ≤ 80) (hp : gI me t 2 = nI p) (hpn : p ≤ n) (hd : 1 ≤ d) : CI d mX4_readDigit sh [.ref t] me (fun x m => x = ovI (digS (gI me (t + 1)) n p).2 ∧ m = uI me t 2 (nI (digS (gI me (t + 1)) n p).1)) := by
  have hqs := hq
  obtain ⟨s0, s1, r0⟩ := hq
  refine CI.mk (L := [.ref t, .float 0]) (by decide) (Nat.le_of_ble_eq_true rfl) rfl ?_
  refine ld_a0 (np := 1) dX4_readDigit_0 rfl ?_
  refine ciV_0 (np := 4) dX4_readDigit_1 rfl lk_X4_37 (by assumption) (Nat.le_of_ble_eq_true rfl) (by omega) (Nat.le_refl _) (Nat.le_refl _) (c_nextByte hqs hl hn hp hpn) (fun x_1 m_1 h_1 => ?_)
  obtain ⟨rfl, q_1⟩ := h_1
  have q_1 := q_1.symm
  subst q_1
  refine st_i1 (np := 5) dX4_readDigit_4 rfl (by decide) rfl ?_
  refine ld_i1 (np := 6) dX4_readDigit_5 rfl ?_
  refine wl_bipush (np := 8) (v := 49) dX4_readDigit_6 rfl (by decide) ?_
  refine wl_bipush (np := 10) (v := 57) dX4_readDigit_8 rfl (by decide) ?_
  refine ciSN_3 (np := 13) dX4_readDigit_10 rfl lk_X4_17 (Nat.le_of_ble_eq_true rfl) (by omega) (Nat.le_refl _) (Nat.le_refl _) (c_isWithin _ _ _) (fun x_10 m_10 h_10 => ?_)
  obtain ⟨rfl, q_10⟩ := h_10
  have q_10 := q_10.symm
  subst q_10
  refine wl_if_ne (np := 16) (tg := 18) dX4_readDigit_13 rfl rfl (fun c_13 => ?_) (fun c_13 => ?_)
  · have hz : 49 ≤ nbI (gI me (t + 1)) n (skB (gI me (t + 1)) n p) ∧ nbI (gI me (t + 1)) n (skB (gI me (t + 1)) n p) ≤ 57 := Classical.byContradiction fun h => c_13 (if_neg h)
    refine ld_a0 (np := 19) dX4_readDigit_18 rfl ?_
    refine wl_dup (np := 20) dX4_readDigit_19 rfl rfl ?_
    refine wl_geti (np := 23) dX4_readDigit_20 rfl fl_X4_25 (by decide) (by assumption) ?_
    refine wl_iconst (np := 24) (v := 1) dX4_readDigit_23 rfl (rfl) ?_
    refine wl_iadd (np := 25) dX4_readDigit_24 rfl ?_
    refine wl_puti (np := 28) dX4_readDigit_25 rfl fl_X4_25 nf_4_2 rfl (by assumption) ?_
    refine ld_i1 (np := 29) dX4_readDigit_28 rfl ?_
    refine wl_bipush (np := 31) (v := 48) dX4_readDigit_29 rfl (by decide) ?_
    refine wl_isub (np := 32) dX4_readDigit_31 rfl ?_
    refine wi_ret dX4_readDigit_32 rfl (rfl) (Nat.le_refl _) (Nat.le_refl _) ?_
    rw [gI_uI_self, ← nI_succ, uI_uI]
    unfold digS
    dsimp only
    rw [if_pos hz]
    exact ⟨rfl, rfl⟩
  · have hz : ¬ (49 ≤ nbI (gI me (t + 1)) n (skB (gI me (t + 1)) n p) ∧ nbI (gI me (t + 1)) n (skB (gI me (t + 1)) n p) ≤ 57) := fun h => absurd ((if_pos h).symm.trans c_13) (by decide)
    refine wl_iconst (np := 17) (v := -1) dX4_readDigit_16 rfl (rfl) ?_
    refine wi_ret dX4_readDigit_17 rfl (rfl) (Nat.le_refl _) (Nat.le_refl _) ?_
    unfold digS
    dsimp only
    rw [if_neg hz]
    exact ⟨rfl, rfl⟩
set_option maxHeartbeats 4000000 in
set_option maxRecDepth 100000 in
theorem c_readNumber (lo hi : Int32) (hq : isT sh me t) (hl : gI me t 1 = nI n) (hn : n ≤ 80) (hp : gI me t 2 = nI p) (hpn : p ≤ n) (hd : 1 ≤ d) : CI d mX4_readNumber sh [.ref t, .int lo, .int hi] me (fun x m => x = ovI (numS (gI me (t + 1)) n p lo hi).2 ∧ m = uI me t 2 (nI (numS (gI me (t + 1)) n p lo hi).1)) := by
  have hqs := hq
  obtain ⟨s0, s1, r0⟩ := hq
  have hsk := skB_le (f := gI me (t + 1)) hpn
  generalize hp1 : skB (gI me (t + 1)) n p = p1 at hsk
  have key : ∀ fuel i v, n - i < fuel → p1 ≤ i → i ≤ n → dgF (gI me (t + 1)) (n - i) i v = dgF (gI me (t + 1)) (n - p1) p1 0 → Wa mX4_readNumber (0, fun _ => 0) d 0 0 sh.length (PI sh (fun x m => x = ovI (numS (gI me (t + 1)) n p lo hi).2 ∧ m = uI me t 2 (nI (numS (gI me (t + 1)) n p lo hi).1))) 13 [.ref t, .int lo, .int hi, .int (nI p1), .int v] [] sh (uI me t 2 (nI i)) 0 0 := by
    intro fuel
    induction fuel with
    | zero => intro i v h; omega
    | succ fuel ih =>
      intro i v hi1 hpi hin hdg
      have f1 : gI (uI me t 2 (nI i)) t 1 = nI n := by rw [gI_uI_nb (by omega)]; exact hl
      have f2 : gI (uI me t 2 (nI i)) t 2 = nI i := gI_uI_self _ _ _ _
      have f3 : gI (uI me t 2 (nI i)) (t + 1) = gI me (t + 1) := gI_uI_ne (by omega)
      have fin : dgF (gI me (t + 1)) (n - i) i v = (i, v) → Wa mX4_readNumber (0, fun _ => 0) d 0 0 sh.length (PI sh (fun x m => x = ovI (numS (gI me (t + 1)) n p lo hi).2 ∧ m = uI me t 2 (nI (numS (gI me (t + 1)) n p lo hi).1))) 81 [.ref t, .int lo, .int hi, .int (nI p1), .int v] [] sh (uI me t 2 (nI i)) 0 0 := by
        intro hend
        rw [hend] at hdg
        have en : numS (gI me (t + 1)) n p lo hi = if p1 < i ∧ lo ≤ v ∧ v ≤ hi then (i, some v) else (p1, none) := by
          unfold numS
          dsimp only
          rw [hp1, ← hdg]
        rw [en]
        refine ld_a0 (np := 82) dX4_readNumber_81 rfl ?_
        refine wl_geti (np := 85) dX4_readNumber_82 rfl fl_X4_25 (by decide) (by assumption) ?_
        refine ld_i3 (np := 86) dX4_readNumber_85 rfl ?_
        refine wl_icmp_le (np := 89) (tg := 102) dX4_readNumber_86 rfl rfl (fun c_86 => ?_) (fun c_86 => ?_)
        · rw [f2, nI_le_iff (by omega) (by omega)] at c_86
          refine ld_a0 (np := 103) dX4_readNumber_102 rfl ?_
          refine ld_i3 (np := 104) dX4_readNumber_103 rfl ?_
          refine wl_puti (np := 107) dX4_readNumber_104 rfl fl_X4_25 nf_4_2 rfl (by assumption) ?_
          refine wl_iconst (np := 108) (v := -1) dX4_readNumber_107 rfl (rfl) ?_
          refine wi_ret dX4_readNumber_108 rfl (rfl) (Nat.le_refl _) (Nat.le_refl _) ?_
          rw [if_neg (by omega), uI_uI]
          exact ⟨rfl, rfl⟩
        · rw [f2, nI_le_iff (by omega) (by omega)] at c_86
          refine ld_i4 (np := 91) dX4_readNumber_89 rfl ?_
          refine ld_i1 (np := 92) dX4_readNumber_91 rfl ?_
          refine ld_i2 (np := 93) dX4_readNumber_92 rfl ?_
          refine ciSN_3 (np := 96) dX4_readNumber_93 rfl lk_X4_17 (Nat.le_of_ble_eq_true rfl) (by omega) (Nat.le_refl _) (Nat.le_refl _) (c_isWithin _ _ _) (fun x_93 m_93 h_93 => ?_)
          obtain ⟨rfl, q_93⟩ := h_93
          have q_93 := q_93.symm
          subst q_93
          refine wl_if_eq (np := 99) (tg := 102) dX4_readNumber_96 rfl rfl (fun c_96 => ?_) (fun c_96 => ?_)
          · have hz : ¬ (lo ≤ v ∧ v ≤ hi) := fun h => absurd ((if_pos h).symm.trans c_96) (by decide)
            refine ld_a0 (np := 103) dX4_readNumber_102 rfl ?_
            refine ld_i3 (np := 104) dX4_readNumber_103 rfl ?_
            refine wl_puti (np := 107) dX4_readNumber_104 rfl fl_X4_25 nf_4_2 rfl (by assumption) ?_
            refine wl_iconst (np := 108) (v := -1) dX4_readNumber_107 rfl (rfl) ?_
            refine wi_ret dX4_readNumber_108 rfl (rfl) (Nat.le_refl _) (Nat.le_refl _) ?_
            rw [if_neg (fun h => hz h.2), uI_uI]
            exact ⟨rfl, rfl⟩
          · have hz : lo ≤ v ∧ v ≤ hi := Classical.byContradiction fun h => c_96 (if_neg h)
            refine ld_i4 (np := 101) dX4_readNumber_99 rfl ?_
            refine wi_ret dX4_readNumber_101 rfl (rfl) (Nat.le_refl _) (Nat.le_refl _) ?_
            rw [if_pos ⟨by omega, hz⟩]
            exact ⟨rfl, rfl⟩
      refine ld_a0 (np := 14) dX4_readNumber_13 rfl ?_
      refine wl_geti (np := 17) dX4_readNumber_14 rfl fl_X4_25 (by decide) (by assumption) ?_
      refine ld_a0 (np := 18) dX4_readNumber_17 rfl ?_
      refine wl_geti (np := 21) dX4_readNumber_18 rfl fl_X4_21 (by decide) (by assumption) ?_
      refine wl_icmp_ge (np := 24) (tg := 81) dX4_readNumber_21 rfl rfl (fun c_21 => ?_) (fun c_21 => ?_)
      · rw [f1, f2, nI_le_iff (by omega) (by omega)] at c_21
        exact fin (by rw [show n - i = 0 by omega]; rfl)
      · rw [f1, f2, nI_le_iff (by omega) (by omega)] at c_21
        have hia : inA sh (t + 1) (gI (uI me t 2 (nI i)) t 2) := by rw [f2]; exact inA_n s1 (by omega) (by decide)
        obtain ⟨kk, hkk⟩ : ∃ kk, n - i = kk + 1 := ⟨n - i - 1, by omega⟩
        refine ld_a0 (np := 25) dX4_readNumber_24 rfl ?_
        refine wl_getr (np := 28) dX4_readNumber_25 rfl fl_X4_9 rfl (by assumption) (by assumption) ?_
        refine ld_a0 (np := 29) dX4_readNumber_28 rfl ?_
        refine wl_geti (np := 32) dX4_readNumber_29 rfl fl_X4_25 (by decide) (by assumption) ?_
        refine wl_iaload (np := 33) dX4_readNumber_32 rfl (hia) ?_
        refine wl_bipush (np := 35) (v := 48) dX4_readNumber_33 rfl (by decide) ?_
        refine wl_bipush (np := 37) (v := 57) dX4_readNumber_35 rfl (by decide) ?_
        refine ciSN_3 (np := 40) dX4_readNumber_37 rfl lk_X4_17 (Nat.le_of_ble_eq_true rfl) (by omega) (Nat.le_refl _) (Nat.le_refl _) (c_isWithin _ _ _) (fun x_37 m_37 h_37 => ?_)
        obtain ⟨rfl, q_37⟩ := h_37
        have q_37 := q_37.symm
        subst q_37
        refine wl_if_eq (np := 43) (tg := 81) dX4_readNumber_40 rfl rfl (fun c_40 => ?_) (fun c_40 => ?_)
        · rw [f2, nI_clamp (by omega), f3] at c_40
          have hz : ¬ (48 ≤ gI me (t + 1) i ∧ gI me (t + 1) i ≤ 57) := fun h => absurd ((if_pos h).symm.trans c_40) (by decide)
          exact fin (by rw [hkk]; exact if_neg hz)
        · rw [f2, nI_clamp (by omega), f3] at c_40
          have hz : 48 ≤ gI me (t + 1) i ∧ gI me (t + 1) i ≤ 57 := Classical.byContradiction fun h => c_40 (if_neg h)
          refine ld_i4 (np := 45) dX4_readNumber_43 rfl ?_
          refine wl_bipush (np := 47) (v := 10) dX4_readNumber_45 rfl (by decide) ?_
          refine wl_imul (np := 48) dX4_readNumber_47 rfl ?_
          refine ld_a0 (np := 49) dX4_readNumber_48 rfl ?_
          refine wl_getr (np := 52) dX4_readNumber_49 rfl fl_X4_9 rfl (by assumption) (by assumption) ?_
          refine ld_a0 (np := 53) dX4_readNumber_52 rfl ?_
          refine wl_geti (np := 56) dX4_readNumber_53 rfl fl_X4_25 (by decide) (by assumption) ?_
          refine wl_iaload (np := 57) dX4_readNumber_56 rfl (hia) ?_
          refine wl_iadd (np := 58) dX4_readNumber_57 rfl ?_
          refine wl_bipush (np := 60) (v := 48) dX4_readNumber_58 rfl (by decide) ?_
          refine wl_isub (np := 61) dX4_readNumber_60 rfl ?_
          refine wl_ldc (np := 63) dX4_readNumber_61 rfl wk_X4_59 ?_
          refine wl_min (np := 66) dX4_readNumber_63 rfl lk_X4_60 (Nat.le_of_ble_eq_true rfl) (by omega) (Nat.le_refl _) (Nat.le_refl _) ?_
          refine st_i4 (np := 68) dX4_readNumber_66 rfl (by decide) rfl ?_
          refine ld_a0 (np := 69) dX4_readNumber_68 rfl ?_
          refine wl_dup (np := 70) dX4_readNumber_69 rfl rfl ?_
          refine wl_geti (np := 73) dX4_readNumber_70 rfl fl_X4_25 (by decide) (by assumption) ?_
          refine wl_iconst (np := 74) (v := 1) dX4_readNumber_73 rfl (rfl) ?_
          refine wl_iadd (np := 75) dX4_readNumber_74 rfl ?_
          refine wl_puti (np := 78) dX4_readNumber_75 rfl fl_X4_25 nf_4_2 rfl (by assumption) ?_
          refine wl_goto (tg := 13) dX4_readNumber_78 rfl ?_
          rw [f2, nI_clamp (by omega), f3, ← nI_succ, uI_uI]
          refine ih (i + 1) _ (by omega) (by omega) (by omega) ?_
          rw [← hdg, hkk, show n - (i + 1) = kk by omega]
          exact (if_pos hz).symm
  refine CI.mk (L := [.ref t, .int lo, .int hi, .float 0, .float 0]) (by decide) (Nat.le_of_ble_eq_true rfl) rfl ?_
  refine ld_a0 (np := 1) dX4_readNumber_0 rfl ?_
  refine ciV_0 (np := 4) dX4_readNumber_1 rfl lk_X4_37 (by assumption) (Nat.le_of_ble_eq_true rfl) (by omega) (Nat.le_refl _) (Nat.le_refl _) (c_nextByte hqs hl hn hp hpn) (fun x_1 m_1 h_1 => ?_)
  obtain ⟨rfl, q_1⟩ := h_1
  have q_1 := q_1.symm
  subst q_1
  refine wl_pop (np := 5) dX4_readNumber_4 rfl rfl ?_
  refine ld_a0 (np := 6) dX4_readNumber_5 rfl ?_
  refine wl_geti (np := 9) dX4_readNumber_6 rfl fl_X4_25 (by decide) (by assumption) ?_
  refine st_i3 (np := 10) dX4_readNumber_9 rfl (by decide) rfl ?_
  refine wl_iconst (np := 11) (v := 0) dX4_readNumber_10 rfl (rfl) ?_
  refine st_i4 (np := 13) dX4_readNumber_11 rfl (by decide) rfl ?_
  rw [hp1, gI_uI_self]
  exact key (n + 1) p1 0 (by omega) (by omega) (by omega) rfl
end TAPE2
end
section
section TAPE3
variable {sh : List Shp} {me : Mem} {d t n p q : Nat} {cs : List Coat}
/-- what a read of one coat leaves -/
def CoatM (me : Mem) (t q : Nat) (k : Nat) (r : Nat × Option Coat) (x : Int32) (m : Mem) : Prop := match r with
  | (p', none) => x = 0 ∧ m = uI me t 2 (nI p')
  | (p', some co) => x = 1 ∧ m = putM (uI me t 2 (nI p')) q k co.1 co.2.1 co.2.2.1 co.2.2.2
set_option maxHeartbeats 4000000 in
set_option maxRecDepth 100000 in
theorem c_readCoat (hq : isT sh me t) (hs : isP sh me q) (hqt : q + 6 ≤ t) (hl : gI me t 1 = nI n) (hn : n ≤ 80) (hp : gI me t 2 = nI p) (hpn : p ≤ n) (hw : gI me q 5 = nI cs.length) (hc8 : cs.length < 8) (hd : 3 ≤ d) : CI d mX4_readCoat sh [.ref t, .ref q] me (fun x m => CoatM me t q cs.length (coatS (gI me (t + 1)) n p) x m) := by
  have hqs := hq
  have hss := hs
  obtain ⟨s0, s1, r0⟩ := hq
  obtain ⟨z0, z1, z2, z3, z4, z5, y0, y1, y2, y3, y4⟩ := hs
  have f1 : ∀ j, gI (uI me t 2 (nI j)) t 1 = nI n := fun j => by rw [gI_uI_nb (by omega)]; exact hl
  have f2 : ∀ j, gI (uI me t 2 (nI j)) t 2 = nI j := fun j => gI_uI_self _ _ _ _
  have f3 : ∀ j, gI (uI me t 2 (nI j)) (t + 1) = gI me (t + 1) := fun j => gI_uI_ne (by omega)
  have hsk := skB_le (f := gI me (t + 1)) hpn
  generalize hF : gI me (t + 1) = F at f3 hsk ⊢
  refine CI.mk (L := [.ref t, .ref q, .float 0, .float 0, .float 0, .float 0]) (by decide) (Nat.le_of_ble_eq_true rfl) rfl ?_
  -- behind the number of the amount
  have k97 : ∀ (l a r th : Int32) (p6 : Nat), coatS F n p = (p6, some (l, a, r, th)) → Wa mX4_readCoat (0, fun _ => 0) d 0 0 sh.length (PI sh (fun x m => CoatM me t q cs.length (coatS F n p) x m)) 97 [.ref t, .ref q, .int l, .int a, .int r, .int th] [] sh (uI me t 2 (nI p6)) 0 0 := by
    intro l a r th p6 he
    refine ld_a1 (np := 98) dX4_readCoat_97 rfl ?_
    refine ld_i2 (np := 99) dX4_readCoat_98 rfl ?_
    refine ld_i3 (np := 100) dX4_readCoat_99 rfl ?_
    refine ld_i4 (np := 102) dX4_readCoat_100 rfl ?_
    refine ld_i5 (np := 104) dX4_readCoat_102 rfl ?_
    refine cvV_4 (np := 107) dX4_readCoat_104 rfl lk_X4_55 (by assumption) (Nat.le_of_ble_eq_true rfl) (by omega) (Nat.le_refl _) (Nat.le_refl _) (c_putOn l a r th (hss.of rfl) (n := cs.length) (by rw [gI_uI_ne (by omega)]; exact hw) hc8) (fun m_104 h_104 => ?_)
    have q_104 := h_104.symm
    subst q_104
    refine wl_iconst (np := 108) (v := 1) dX4_readCoat_107 rfl (rfl) ?_
    refine wi_ret dX4_readCoat_108 rfl (by decide) (Nat.le_refl _) (Nat.le_refl _) ?_
    rw [he]
    exact ⟨rfl, rfl⟩
  have k88 : ∀ (l a r : Int32) (p4 p6 : Nat) (o : Option Int32), (0 ≤ ovI o ↔ ∃ v, o = some v) → (coatS F n p = match o with | none => (p6, none) | some th => (p6, some (l, a, r, th))) → Wa mX4_readCoat (0, fun _ => 0) d 0 0 sh.length (PI sh (fun x m => CoatM me t q cs.length (coatS F n p) x m)) 88 [.ref t, .ref q, .int l, .int a, .int r, .float 0] [.int (ovI o)] sh (uI me t 2 (nI p6)) 0 0 := by
    intro l a r p4 p6 o ho he
    refine st_i5 (np := 90) dX4_readCoat_88 rfl (by decide) rfl ?_
    refine ld_i5 (np := 92) dX4_readCoat_90 rfl ?_
    refine wl_if_ge (np := 95) (tg := 97) dX4_readCoat_92 rfl rfl (fun c_92 => ?_) (fun c_92 => ?_)
    · obtain ⟨v, rfl⟩ := ho.mp c_92
      exact k97 l a r v p6 he
    · match o, ho, he, c_92 with
      | some v, ho, he, c_92 => exact absurd (ho.mpr ⟨v, rfl⟩) c_92
      | none, ho, he, c_92 =>
        refine wl_iconst (np := 96) (v := 0) dX4_readCoat_95 rfl (rfl) ?_
        refine wi_ret dX4_readCoat_96 rfl (by decide) (Nat.le_refl _) (Nat.le_refl _) ?_
        rw [he]
        exact ⟨rfl, rfl⟩
  have k62 : ∀ (l a : Int32) (p4 : Nat) (o : Option Int32), p4 ≤ n → (0 ≤ ovI o ↔ ∃ v, o = some v) → (coatS F n p = match o with | none => (p4, none) | some r => match opS (skS F n p4 116).2 (digS F n (skS F n p4 116).1) (skS F n p4 116).1 1 with | (p6, none) => (p6, none) | (p6, some th) => (p6, some (l, a, r, th))) → Wa mX4_readCoat (0, fun _ => 0) d 0 0 sh.length (PI sh (fun x m => CoatM me t q cs.length (coatS F n p) x m)) 62 [.ref t, .ref q, .int l, .int a, .float 0, .float 0] [.int (ovI o)] sh (uI me t 2 (nI p4)) 0 0 := by
    intro l a p4 o hp4 ho he
    refine st_i4 (np := 64) dX4_readCoat_62 rfl (by decide) rfl ?_
    refine ld_i4 (np := 66) dX4_readCoat_64 rfl ?_
    refine wl_if_ge (np := 69) (tg := 71) dX4_readCoat_66 rfl rfl (fun c_66 => ?_) (fun c_66 => ?_)
    · obtain ⟨r, rfl⟩ := ho.mp c_66
      have hsl := skS_le (f := F) (n := n) (p := p4) (c := 116) hp4 (by decide)
      refine ld_a0 (np := 72) dX4_readCoat_71 rfl ?_
      refine wl_bipush (np := 74) (v := 116) dX4_readCoat_72 rfl (by decide) ?_
      refine ciV_1 (np := 77) dX4_readCoat_74 rfl lk_X4_41 (by assumption) (Nat.le_of_ble_eq_true rfl) (by omega) (Nat.le_refl _) (Nat.le_refl _) (c_skipIf 116 (hqs.of rfl) (f1 _) hn (f2 _) hp4 (by omega)) (fun x_74 m_74 h_74 => ?_)
      obtain ⟨rfl, q_74⟩ := h_74
      have q_74 := q_74.symm
      subst q_74
      refine wl_if_eq (np := 80) (tg := 87) dX4_readCoat_77 rfl rfl (fun c_77 => ?_) (fun c_77 => ?_)
      · have hb : (skS F n p4 116).2 = false := by
          rw [f3] at c_77
          cases hb : (skS F n p4 116).2 with
          | false => rfl
          | true => rw [hb] at c_77; exact absurd c_77 (by decide)
        refine wl_iconst (np := 88) (v := 1) dX4_readCoat_87 rfl (rfl) ?_
        rw [f3, uI_uI]
        refine k88 l a r p4 _ (some 1) ⟨fun _ => ⟨1, rfl⟩, fun _ => by decide⟩ ?_
        rw [he, hb]
        rfl
      · have hb : (skS F n p4 116).2 = true := by
          rw [f3] at c_77
          cases hb : (skS F n p4 116).2 with
          | true => rfl
          | false => rw [hb] at c_77; exact absurd rfl c_77
        rw [f3, uI_uI]
        refine ld_a0 (np := 81) dX4_readCoat_80 rfl ?_
        refine ciV_0 (np := 84) dX4_readCoat_81 rfl lk_X4_52 (by assumption) (Nat.le_of_ble_eq_true rfl) (by omega) (Nat.le_refl _) (Nat.le_refl _) (c_readDigit (hqs.of rfl) (f1 _) hn (f2 _) hsl (by omega)) (fun x_81 m_81 h_81 => ?_)
        obtain ⟨rfl, q_81⟩ := h_81
        have q_81 := q_81.symm
        subst q_81
        refine wl_goto (tg := 88) dX4_readCoat_84 rfl ?_
        rw [f3, uI_uI]
        have hpos : ∀ v, (digS F n (skS F n p4 116).1).2 = some v → 1 ≤ v ∧ v ≤ 9 := fun v h => digS_pos h
        generalize hD : digS F n (skS F n p4 116).1 = D at hpos ⊢
        obtain ⟨p6, o6⟩ := D
        refine k88 l a r p4 p6 o6 ?_ ?_
        · cases o6 with
          | none => exact ⟨fun h => absurd h (by decide), fun ⟨v, h⟩ => by cases h⟩
          | some v => exact ⟨fun _ => ⟨v, rfl⟩, fun _ => Int32.le_trans (by decide) (hpos v rfl).1⟩
        · rw [he, hb, hD]
          cases o6 <;> rfl
    · match o, ho, he, c_66 with
      | some v, ho, he, c_66 => exact absurd (ho.mpr ⟨v, rfl⟩) c_66
      | none, ho, he, c_66 =>
        refine wl_iconst (np := 70) (v := 0) dX4_readCoat_69 rfl (rfl) ?_
        refine wi_ret dX4_readCoat_70 rfl (by decide) (Nat.le_refl _) (Nat.le_refl _) ?_
        rw [he]
        exact ⟨rfl, rfl⟩
  refine ld_a0 (np := 1) dX4_readCoat_0 rfl ?_
  refine ciV_0 (np := 4) dX4_readCoat_1 rfl lk_X4_37 (by assumption) (Nat.le_of_ble_eq_true rfl) (by omega) (Nat.le_refl _) (Nat.le_refl _) (c_nextByte hqs hl hn hp hpn) (fun x_1 m_1 h_1 => ?_)
  obtain ⟨rfl, q_1⟩ := h_1
  have q_1 := q_1.symm
  subst q_1
  refine wl_bipush (np := 6) (v := 97) dX4_readCoat_4 rfl (by decide) ?_
  refine wl_isub (np := 7) dX4_readCoat_6 rfl ?_
  refine st_i2 (np := 8) dX4_readCoat_7 rfl (by decide) rfl ?_
  refine ld_i2 (np := 9) dX4_readCoat_8 rfl ?_
  refine ciSN_1 (np := 12) dX4_readCoat_9 rfl lk_X4_45 (Nat.le_of_ble_eq_true rfl) (by omega) (Nat.le_refl _) (Nat.le_refl _) (c_isLender _ (by omega)) (fun x_9 m_9 h_9 => ?_)
  obtain ⟨rfl, q_9⟩ := h_9
  have q_9 := q_9.symm
  subst q_9
  refine wl_if_ne (np := 15) (tg := 17) dX4_readCoat_12 rfl rfl (fun c_12 => ?_) (fun c_12 => ?_)
  · rw [hF] at c_12
    have hz : 0 ≤ nbI F n (skB F n p) - 97 ∧ nbI F n (skB F n p) - 97 ≤ 4 := Classical.byContradiction fun h => c_12 (if_neg h)
    have hlt : skB F n p < n := Classical.byContradiction fun h => by
      have : nbI F n (skB F n p) = -1 := if_neg h
      rw [this] at hz
      exact absurd hz.1 (by decide)
    rw [hF]
    refine ld_a0 (np := 18) dX4_readCoat_17 rfl ?_
    refine wl_dup (np := 19) dX4_readCoat_18 rfl rfl ?_
    refine wl_geti (np := 22) dX4_readCoat_19 rfl fl_X4_25 (by decide) (by assumption) ?_
    refine wl_iconst (np := 23) (v := 1) dX4_readCoat_22 rfl (rfl) ?_
    refine wl_iadd (np := 24) dX4_readCoat_23 rfl ?_
    refine wl_puti (np := 27) dX4_readCoat_24 rfl fl_X4_25 nf_4_2 rfl (by assumption) ?_
    rw [f2, ← nI_succ, uI_uI]
    have hnl := numS_le (f := F) (n := n) (p := skB F n p + 1) (lo := 1) (hi := 9999) (by omega)
    refine ld_a0 (np := 28) dX4_readCoat_27 rfl ?_
    refine wl_iconst (np := 29) (v := 1) dX4_readCoat_28 rfl (rfl) ?_
    refine wl_sipush (np := 32) (v := 9999) dX4_readCoat_29 rfl (by decide) ?_
    refine ciV_2 (np := 35) dX4_readCoat_32 rfl lk_X4_48 (by assumption) (Nat.le_of_ble_eq_true rfl) (by omega) (Nat.le_refl _) (Nat.le_refl _) (c_readNumber 1 9999 (hqs.of rfl) (f1 _) hn (f2 _) (by omega) (by omega)) (fun x_32 m_32 h_32 => ?_)
    obtain ⟨rfl, q_32⟩ := h_32
    have q_32 := q_32.symm
    subst q_32
    refine st_i3 (np := 36) dX4_readCoat_35 rfl (by decide) rfl ?_
    refine ld_i3 (np := 37) dX4_readCoat_36 rfl ?_
    refine wl_if_ge (np := 40) (tg := 42) dX4_readCoat_37 rfl rfl (fun c_37 => ?_) (fun c_37 => ?_)
    · rw [f3, uI_uI]
      rw [f3] at c_37
      have hpos : ∀ v, (numS F n (skB F n p + 1) 1 9999).2 = some v → 1 ≤ v ∧ v ≤ 9999 := fun v h => numS_pos h
      have hcs : coatS F n p = match numS F n (skB F n p + 1) 1 9999 with
          | (p2, none) => (p2, none)
          | (p2, some a) =>
            match opS (skS F n p2 114).2 (numS F n (skS F n p2 114).1 0 20) (skS F n p2 114).1 0 with
            | (p4, none) => (p4, none)
            | (p4, some r) =>
              match opS (skS F n p4 116).2 (digS F n (skS F n p4 116).1) (skS F n p4 116).1 1 with
              | (p6, none) => (p6, none)
              | (p6, some th) => (p6, some (nbI F n (skB F n p) - 97, a, r, th)) := by
        conv => lhs; unfold coatS
        exact if_pos hz
      generalize hN : numS F n (skB F n p + 1) 1 9999 = NN at hnl hpos hcs c_37 ⊢
      obtain ⟨p2, o2⟩ := NN
      match o2, hpos, hcs, c_37 with
      | none, hpos, hcs, c_37 => exact absurd c_37 (show ¬ (0 : Int32) ≤ -1 by decide)
      | some a, hpos, hcs, c_37 =>
        have hsl := skS_le (f := F) (n := n) (p := p2) (c := 114) hnl (by decide)
        show Wa _ _ _ _ _ _ _ 42 [.ref t, .ref q, .int (nbI F n (skB F n p) - 97), .int a, .float 0, .float 0] [] sh (uI me t 2 (nI p2)) 0 0
        refine ld_a0 (np := 43) dX4_readCoat_42 rfl ?_
        refine wl_bipush (np := 45) (v := 114) dX4_readCoat_43 rfl (by decide) ?_
        refine ciV_1 (np := 48) dX4_readCoat_45 rfl lk_X4_41 (by assumption) (Nat.le_of_ble_eq_true rfl) (by omega) (Nat.le_refl _) (Nat.le_refl _) (c_skipIf 114 (hqs.of rfl) (f1 _) hn (f2 _) hnl (by omega)) (fun x_45 m_45 h_45 => ?_)
        obtain ⟨rfl, q_45⟩ := h_45
        have q_45 := q_45.symm
        subst q_45
        refine wl_if_eq (np := 51) (tg := 61) dX4_readCoat_48 rfl rfl (fun c_48 => ?_) (fun c_48 => ?_)
        · have hb : (skS F n p2 114).2 = false := by
            rw [f3] at c_48
            cases hb : (skS F n p2 114).2 with
            | false => rfl
            | true => rw [hb] at c_48; exact absurd c_48 (by decide)
          refine wl_iconst (np := 62) (v := 0) dX4_readCoat_61 rfl (rfl) ?_
          rw [f3, uI_uI]
          refine k62 _ a _ (some 0) hsl ⟨fun _ => ⟨0, rfl⟩, fun _ => by decide⟩ ?_
          rw [hcs]
          dsimp only
          rw [hb]
          rfl
        · have hb : (skS F n p2 114).2 = true := by
            rw [f3] at c_48
            cases hb : (skS F n p2 114).2 with
            | true => rfl
            | false => rw [hb] at c_48; exact absurd rfl c_48
          rw [f3, uI_uI]
          refine ld_a0 (np := 52) dX4_readCoat_51 rfl ?_
          refine wl_iconst (np := 53) (v := 0) dX4_readCoat_52 rfl (rfl) ?_
          refine wl_bipush (np := 55) (v := 20) dX4_readCoat_53 rfl (by decide) ?_
          refine ciV_2 (np := 58) dX4_readCoat_55 rfl lk_X4_48 (by assumption) (Nat.le_of_ble_eq_true rfl) (by omega) (Nat.le_refl _) (Nat.le_refl _) (c_readNumber 0 20 (hqs.of rfl) (f1 _) hn (f2 _) hsl (by omega)) (fun x_55 m_55 h_55 => ?_)
          obtain ⟨rfl, q_55⟩ := h_55
          have q_55 := q_55.symm
          subst q_55
          refine wl_goto (tg := 62) dX4_readCoat_58 rfl ?_
          rw [f3, uI_uI]
          have hpos2 : ∀ v, (numS F n (skS F n p2 114).1 0 20).2 = some v → 0 ≤ v ∧ v ≤ 20 := fun v h => numS_pos h
          have hn2 := numS_le (f := F) (n := n) (p := (skS F n p2 114).1) (lo := 0) (hi := 20) hsl
          generalize hD : numS F n (skS F n p2 114).1 0 20 = D at hpos2 hn2 ⊢
          obtain ⟨p4, o4⟩ := D
          refine k62 _ a p4 o4 hn2 ?_ ?_
          · cases o4 with
            | none => exact ⟨fun h => absurd h (by decide), fun ⟨v, h⟩ => by cases h⟩
            | some v => exact ⟨fun _ => ⟨v, rfl⟩, fun _ => (hpos2 v rfl).1⟩
          · rw [hcs]
            dsimp only
            rw [hb, hD]
            cases o4 <;> rfl
    · rw [f3] at c_37
      have hcs : coatS F n p = match numS F n (skB F n p + 1) 1 9999 with
          | (p2, none) => (p2, none)
          | (p2, some a) =>
            match opS (skS F n p2 114).2 (numS F n (skS F n p2 114).1 0 20) (skS F n p2 114).1 0 with
            | (p4, none) => (p4, none)
            | (p4, some r) =>
              match opS (skS F n p4 116).2 (digS F n (skS F n p4 116).1) (skS F n p4 116).1 1 with
              | (p6, none) => (p6, none)
              | (p6, some th) => (p6, some (nbI F n (skB F n p) - 97, a, r, th)) := by
        conv => lhs; unfold coatS
        exact if_pos hz
      have hpos : ∀ v, (numS F n (skB F n p + 1) 1 9999).2 = some v → 1 ≤ v ∧ v ≤ 9999 := fun v h => numS_pos h
      rw [f3, uI_uI]
      generalize hN : numS F n (skB F n p + 1) 1 9999 = NN at hnl hpos hcs c_37 ⊢
      obtain ⟨p2, o2⟩ := NN
      match o2, hpos, hcs, c_37 with
      | some v, hpos, hcs, c_37 => exact absurd (Int32.le_trans (by decide) (hpos v rfl).1) c_37
      | none, hpos, hcs, c_37 =>
        refine wl_iconst (np := 41) (v := 0) dX4_readCoat_40 rfl (rfl) ?_
        refine wi_ret dX4_readCoat_41 rfl (by decide) (Nat.le_refl _) (Nat.le_refl _) ?_
        rw [hcs]
        exact ⟨rfl, rfl⟩
  · rw [hF] at c_12
    have hz : ¬ (0 ≤ nbI F n (skB F n p) - 97 ∧ nbI F n (skB F n p) - 97 ≤ 4) := fun h => absurd ((if_pos h).symm.trans c_12) (by decide)
    have hcs : coatS F n p = (skB F n p, none) := by
      unfold coatS
      exact if_neg hz
    rw [hF]
    refine wl_iconst (np := 16) (v := 0) dX4_readCoat_15 rfl (rfl) ?_
    refine wi_ret dX4_readCoat_16 rfl (by decide) (Nat.le_refl _) (Nat.le_refl _) ?_
    rw [hcs]
    exact ⟨rfl, rfl⟩
set_option maxHeartbeats 4000000 in
set_option maxRecDepth 100000 in
theorem coatS_le {f : Nat → Int32} {n p : Nat} (h : p ≤ n) : (coatS f n p).1 ≤ n := by
  have h0 := skB_le (f := f) h
  unfold coatS
  dsimp only
  split
  · rename_i hz
    have hlt : skB f n p < n := Classical.byContradiction fun h => by
      have : nbI f n (skB f n p) = -1 := if_neg h
      rw [this] at hz
      exact absurd hz.1 (by decide)
    have h1 := numS_le (f := f) (n := n) (p := skB f n p + 1) (lo := 1) (hi := 9999) (by omega)
    generalize numS f n (skB f n p + 1) 1 9999 = N1 at h1
    obtain ⟨p2, o2⟩ := N1
    cases o2 with
    | none => exact h1
    | some a =>
      dsimp only at h1 ⊢
      have h2 := skS_le (f := f) (n := n) (p := p2) (c := 114) h1 (by decide)
      have h3 : (opS (skS f n p2 114).2 (numS f n (skS f n p2 114).1 0 20) (skS f n p2 114).1 0).1 ≤ n := by
        unfold opS
        split
        · exact numS_le h2
        · exact h2
      generalize opS (skS f n p2 114).2 (numS f n (skS f n p2 114).1 0 20) (skS f n p2 114).1 0 = N2 at h3
      obtain ⟨p4, o4⟩ := N2
      cases o4 with
      | none => exact h3
      | some r =>
        dsimp only at h3 ⊢
        have h4 := skS_le (f := f) (n := n) (p := p4) (c := 116) h3 (by decide)
        have h5 : (opS (skS f n p4 116).2 (digS f n (skS f n p4 116).1) (skS f n p4 116).1 1).1 ≤ n := by
          unfold opS
          split
          · exact digS_le h4
          · exact h4
        generalize opS (skS f n p4 116).2 (digS f n (skS f n p4 116).1) (skS f n p4 116).1 1 = N3 at h5
        obtain ⟨p6, o6⟩ := N3
        cases o6 with
        | none => exact h5
        | some th => exact h5
  · exact h0.2
/-- what a read of all coats leaves -/
def CoatsM (me : Mem) (t q : Nat) (r : Nat ⊕ List Coat) (x : Int32) (m : Mem) : Prop := (m.2 = me.2 ∧ ∀ a, ¬ (a = t ∨ (q ≤ a ∧ a < q + 6)) → m.1 a = me.1 a) ∧ (∀ b, b ≠ 2 → gI m t b = gI me t b) ∧ match r with
  | .inl p => x = -20 - nI p
  | .inr l => x = nI l.length ∧ RepCs m q l
set_option maxHeartbeats 4000000 in
set_option maxRecDepth 100000 in
theorem c_readCoats (hq : isT sh me t) (hs : isP sh me q) (hqt : q + 6 ≤ t) (hl : gI me t 1 = nI n) (hn : n ≤ 80) (hok0 : okB (gI me (t + 1)) n) (hd : 4 ≤ d) : CI d mX4_readCoats sh [.ref t, .ref q] me (fun x m => CoatsM me t q (rdS (gI me (t + 1)) n 6 0 []) x m) := by
  have hqs := hq
  have hss := hs
  obtain ⟨s0, s1, r0⟩ := hq
  obtain ⟨z0, z1, z2, z3, z4, z5, y0, y1, y2, y3, y4⟩ := hs
  generalize hF : gI me (t + 1) = F at hok0
  have hok := hok0
  have key : ∀ k (m : Mem) (p : Nat) (acc : List Coat), k ≤ 6 → m.2 = me.2 → (∀ a, ¬ (a = t ∨ (q ≤ a ∧ a < q + 6)) → m.1 a = me.1 a) → (∀ b, b ≠ 2 → gI m t b = gI me t b) → gI m t 2 = nI p → p ≤ n → RepCs m q acc → acc.length + k = 6 → rdS F n k p acc = rdS F n 6 0 [] → 0 < k →
      Wa mX4_readCoats (0, fun _ => 0) d 0 0 sh.length (PI sh (fun x m => CoatsM me t q (rdS F n 6 0 []) x m)) 12 [.ref t, .ref q, .int (nI (7 - k))] [] sh m 0 0 := by
    intro k
    induction k with
    | zero => intro m p acc h1 h2 h3 h4 h5 h6 h7 h8 h9 h10; omega
    | succ k ih =>
      intro m p acc hk6 hm2 hout htb ht2 hpn hacc hlen hrd hk0
      obtain ⟨I1, R1⟩ := m
      obtain rfl : R1 = me.2 := hm2
      have hF1 : gI (I1, me.2) (t + 1) = F := by rw [← hF]; exact hout (t + 1) (by omega)
      have hl1 : gI (I1, me.2) t 1 = nI n := (htb 1 (by omega)).trans hl
      have hcl := coatS_le (f := F) (n := n) hpn
      have endF : ∀ (m' : Mem) (pp : Nat) (L4 : List Value), m'.2 = me.2 → (∀ a, ¬ (a = t ∨ (q ≤ a ∧ a < q + 6)) → m'.1 a = me.1 a) → (∀ b, b ≠ 2 → gI m' t b = gI me t b) → gI m' t 2 = nI pp → rdS F n 6 0 [] = .inl pp → Wa mX4_readCoats (0, fun _ => 0) d 0 0 sh.length (PI sh (fun x m => CoatsM me t q (rdS F n 6 0 []) x m)) 65 (.ref t :: L4) [] sh m' 0 0 := by
        intro m' pp L4 e1 e2 e3 e4 e5
        obtain ⟨I2, R2⟩ := m'
        obtain rfl : R2 = me.2 := e1
        refine wl_bipush (np := 67) (v := -20) dX4_readCoats_65 rfl (by decide) ?_
        refine ld_a0 (np := 68) dX4_readCoats_67 rfl ?_
        refine wl_geti (np := 71) dX4_readCoats_68 rfl fl_X4_25 (by decide) (by assumption) ?_
        refine wl_isub (np := 72) dX4_readCoats_71 rfl ?_
        refine wi_ret dX4_readCoats_72 rfl (rfl) (Nat.le_refl _) (Nat.le_refl _) ?_
        rw [e5, e4]
        exact ⟨⟨rfl, e2⟩, e3, rfl⟩
      refine ld_i2 (np := 13) dX4_readCoats_12 rfl ?_
      refine wl_bipush (np := 15) (v := 6) dX4_readCoats_13 rfl (by decide) ?_
      refine wl_icmp_gt (np := 18) (tg := 65) dX4_readCoats_15 rfl rfl (fun c_15 => ?_) (fun c_15 => ?_)
      · exact absurd c_15 (by rw [show (6 : Int32) = nI 6 from rfl, nI_ltI (by decide) (by omega)]; omega)
      · refine ld_a0 (np := 19) dX4_readCoats_18 rfl ?_
        refine ld_a1 (np := 20) dX4_readCoats_19 rfl ?_
        refine ciV_1 (np := 23) dX4_readCoats_20 rfl lk_X4_33 (by assumption) (Nat.le_of_ble_eq_true rfl) (by omega) (Nat.le_refl _) (Nat.le_refl _) (c_readCoat (cs := acc) (hqs.of rfl) (hss.of rfl) hqt hl1 hn ht2 hpn hacc.1 (by omega) (by omega)) (fun x_20 m_20 h_20 => ?_)
        rw [hF1] at h_20
        have hstep : rdS F n (k + 1) p acc = match coatS F n p with
            | (p', none) => .inl p'
            | (p', some co) => if n ≤ skB F n p' then .inr (acc ++ [co]) else if k = 0 then .inl (skB F n p') else
                match skS F n (skB F n p') 59 with
                | (p3, true) => rdS F n k p3 (acc ++ [co])
                | (p3, false) => .inl p3 := rfl
        rw [hstep] at hrd
        generalize hC : coatS F n p = C1 at h_20 hrd hcl
        obtain ⟨p', o'⟩ := C1
        cases o' with
        | none =>
          obtain ⟨rfl, q20⟩ := h_20
          have q20 := q20.symm
          subst q20
          refine wl_if_ne (np := 26) (tg := 29) dX4_readCoats_23 rfl rfl (fun c_23 => ?_) (fun c_23 => ?_)
          · exact absurd rfl c_23
          · refine wl_goto (tg := 65) dX4_readCoats_26 rfl ?_
            refine endF _ p' _ rfl (fun a ha => ?_) (fun b hb => ?_) (gI_uI_self _ _ _ _) hrd.symm
            · rw [← hout a ha]; exact gI_uI_ne (by omega)
            · rw [gI_uI_nb hb]; exact htb b hb
        | some co =>
          obtain ⟨rfl, q20⟩ := h_20
          have q20 := q20.symm
          subst q20
          dsimp only at hrd hcl
          have hacc2 : RepCs (putM (uI (I1, me.2) t 2 (nI p')) q acc.length co.1 co.2.1 co.2.2.1 co.2.2.2) q (acc ++ [co]) := RepCs.put (hacc.fr (fun a h1 h2 => gI_uI_ne (by omega))) (by omega) co
          have honl := onl_put (uI (I1, me.2) t 2 (nI p')) q acc.length co.1 co.2.1 co.2.2.1 co.2.2.2
          generalize hM : putM (uI (I1, me.2) t 2 (nI p')) q acc.length co.1 co.2.1 co.2.2.1 co.2.2.2 = m2 at hacc2 honl ⊢
          obtain ⟨I2, R2⟩ := m2
          obtain rfl : R2 = me.2 := honl.1
          have o2 : ∀ a, ¬ (a = t ∨ (q ≤ a ∧ a < q + 6)) → I2 a = me.1 a := fun a ha => by
            have e1 : I2 a = (uI (I1, me.2) t 2 (nI p')).1 a := honl.2 a (by omega)
            rw [e1, ← hout a ha]; exact gI_uI_ne (by omega)
          have b2 : ∀ b, b ≠ 2 → gI (I2, me.2) t b = gI me t b := fun b hb => by
            rw [honl.g (by omega), gI_uI_nb hb]; exact htb b hb
          have t2 : gI (I2, me.2) t 2 = nI p' := by rw [honl.g (by omega)]; exact gI_uI_self _ _ _ _
          have hF2 : gI (I2, me.2) (t + 1) = F := by rw [← hF]; exact o2 (t + 1) (by omega)
          have hsk := skB_le (f := F) hcl
          refine wl_if_ne (np := 26) (tg := 29) dX4_readCoats_23 rfl rfl (fun c_23 => ?_) (fun c_23 => ?_)
          · refine ld_a0 (np := 30) dX4_readCoats_29 rfl ?_
            refine ciV_0 (np := 33) dX4_readCoats_30 rfl lk_X4_37 (by assumption) (Nat.le_of_ble_eq_true rfl) (by omega) (Nat.le_refl _) (Nat.le_refl _) (c_nextByte (hqs.of rfl) ((b2 1 (by omega)).trans hl) hn t2 hcl) (fun x_30 m_30 h_30 => ?_)
            obtain ⟨rfl, q_30⟩ := h_30
            have q_30 := q_30.symm
            subst q_30
            refine wl_if_ge (np := 36) (tg := 41) dX4_readCoats_33 rfl rfl (fun c_33 => ?_) (fun c_33 => ?_)
            · rw [hF2] at c_33 ⊢
              have hlt : skB F n p' < n := Classical.byContradiction fun h => by
                have : nbI F n (skB F n p') = -1 := if_neg h
                rw [this] at c_33
                exact absurd c_33 (by decide)
              rw [if_neg (by omega)] at hrd
              have v2 : gI (uI (I2, me.2) t 2 (nI (skB F n p'))) t 2 = nI (skB F n p') := gI_uI_self _ _ _ _
              have w2 : ∀ a, ¬ (a = t ∨ (q ≤ a ∧ a < q + 6)) → (uI (I2, me.2) t 2 (nI (skB F n p'))).1 a = me.1 a := fun a ha => by
                rw [← o2 a ha]; exact gI_uI_ne (by omega)
              have x2 : ∀ b, b ≠ 2 → gI (uI (I2, me.2) t 2 (nI (skB F n p'))) t b = gI me t b := fun b hb => by rw [gI_uI_nb hb]; exact b2 b hb
              refine ld_i2 (np := 42) dX4_readCoats_41 rfl ?_
              refine wl_bipush (np := 44) (v := 6) dX4_readCoats_42 rfl (by decide) ?_
              refine wl_icmp_eq (np := 47) (tg := 65) dX4_readCoats_44 rfl rfl (fun c_44 => ?_) (fun c_44 => ?_)
              · rw [show (6 : Int32) = nI 6 from rfl, nI_eq (by omega) (by decide)] at c_44
                rw [if_pos (by omega)] at hrd
                exact endF _ _ _ rfl w2 x2 v2 hrd.symm
              · rw [show (6 : Int32) = nI 6 from rfl, nI_eq (by omega) (by decide)] at c_44
                rw [if_neg (by omega)] at hrd
                have hF3 : gI (uI (I2, me.2) t 2 (nI (skB F n p'))) (t + 1) = F := by rw [gI_uI_ne (by omega)]; exact hF2
                have hsl := skS_le (f := F) (n := n) (p := skB F n p') (c := 59) (by omega) (by decide)
                refine ld_a0 (np := 48) dX4_readCoats_47 rfl ?_
                refine wl_bipush (np := 50) (v := 59) dX4_readCoats_48 rfl (by decide) ?_
                refine ciV_1 (np := 53) dX4_readCoats_50 rfl lk_X4_41 (by assumption) (Nat.le_of_ble_eq_true rfl) (by omega) (Nat.le_refl _) (Nat.le_refl _) (c_skipIf 59 (hqs.of rfl) ((x2 1 (by omega)).trans hl) hn v2 (by omega) (by omega)) (fun x_50 m_50 h_50 => ?_)
                obtain ⟨rfl, q_50⟩ := h_50
                have q_50 := q_50.symm
                subst q_50
                refine wl_if_ne (np := 56) (tg := 59) dX4_readCoats_53 rfl rfl (fun c_53 => ?_) (fun c_53 => ?_)
                · rw [hF3] at c_53 ⊢
                  have hb : (skS F n (skB F n p') 59).2 = true := by
                    cases hb : (skS F n (skB F n p') 59).2 with
                    | true => rfl
                    | false => rw [hb] at c_53; exact absurd rfl c_53
                  generalize hS : skS F n (skB F n p') 59 = S1 at hrd hb hsl ⊢
                  obtain ⟨p3, b3⟩ := S1
                  dsimp only at hb
                  subst hb
                  rw [uI_uI]
                  refine inc_2 (np := 62) (v := _ + 1) dX4_readCoats_59 rfl rfl (by decide) rfl ?_
                  refine wl_goto (tg := 12) dX4_readCoats_62 rfl ?_
                  rw [← nI_succ, show 7 - (k + 1) + 1 = 7 - k by omega]
                  refine ih _ p3 (acc ++ [co]) (by omega) rfl (fun a ha => ?_) (fun b hb => ?_) (gI_uI_self _ _ _ _) hsl (hacc2.fr (fun a h1 h2 => ?_)) (by simp; omega) hrd (by omega)
                  · rw [← o2 a ha]; exact gI_uI_ne (by omega)
                  · rw [gI_uI_nb hb]; exact b2 b hb
                  · exact gI_uI_ne (by omega)
                · rw [hF3] at c_53 ⊢
                  have hb : (skS F n (skB F n p') 59).2 = false := by
                    cases hb : (skS F n (skB F n p') 59).2 with
                    | false => rfl
                    | true => rw [hb] at c_53; exact absurd c_53 (by decide)
                  generalize hS : skS F n (skB F n p') 59 = S1 at hrd hb hsl ⊢
                  obtain ⟨p3, b3⟩ := S1
                  dsimp only at hb
                  subst hb
                  rw [uI_uI]
                  refine wl_goto (tg := 65) dX4_readCoats_56 rfl ?_
                  refine endF _ p3 _ rfl (fun a ha => ?_) (fun b hb => ?_) (gI_uI_self _ _ _ _) hrd.symm
                  · rw [← o2 a ha]; exact gI_uI_ne (by omega)
                  · rw [gI_uI_nb hb]; exact b2 b hb
            · rw [hF2] at c_33 ⊢
              have hge : n ≤ skB F n p' := Classical.byContradiction fun h => by
                have h4 : nbI F n (skB F n p') = F (skB F n p') := if_pos (by omega)
                rw [h4] at c_33
                exact c_33 (Int32.le_trans (by decide) (hok (skB F n p') (by omega)).1)
              rw [if_pos hge] at hrd
              refine ld_a1 (np := 37) dX4_readCoats_36 rfl ?_
              refine wl_geti (np := 40) dX4_readCoats_37 rfl fl_X4_28 (by decide) (by assumption) ?_
              refine wi_ret dX4_readCoats_40 rfl (rfl) (Nat.le_refl _) (Nat.le_refl _) ?_
              rw [← hrd]
              refine ⟨⟨rfl, fun a ha => ?_⟩, fun b hb => ?_, ?_, ?_⟩
              · rw [← o2 a ha]; exact gI_uI_ne (by omega)
              · rw [gI_uI_nb hb]; exact b2 b hb
              · rw [gI_uI_ne (by omega)]; exact hacc2.1
              · exact hacc2.fr (fun a h1 h2 => gI_uI_ne (by omega))
          · exact absurd c_23 (by decide)
  refine CI.mk (L := [.ref t, .ref q, .float 0]) (by decide) (Nat.le_of_ble_eq_true rfl) rfl ?_
  refine ld_a0 (np := 1) dX4_readCoats_0 rfl ?_
  refine wl_iconst (np := 2) (v := 0) dX4_readCoats_1 rfl (rfl) ?_
  refine wl_puti (np := 5) dX4_readCoats_2 rfl fl_X4_25 nf_4_2 rfl (by assumption) ?_
  refine ld_a1 (np := 6) dX4_readCoats_5 rfl ?_
  refine wl_iconst (np := 7) (v := 0) dX4_readCoats_6 rfl (rfl) ?_
  refine wl_puti (np := 10) dX4_readCoats_7 rfl fl_X4_28 nf_1_5 rfl (by assumption) ?_
  refine wl_iconst (np := 11) (v := 1) dX4_readCoats_10 rfl (rfl) ?_
  refine st_i2 (np := 12) dX4_readCoats_11 rfl (by decide) rfl ?_
  refine key 6 _ 0 [] (by omega) rfl (fun a ha => ?_) (fun b hb => ?_) ?_ (by omega) ⟨gI_uI_self _ _ _ _, by simp, fun c co h => by simp at h⟩ rfl rfl (by omega)
  · exact (gI_uI_ne (by omega)).trans (gI_uI_ne (by omega))
  · rw [gI_uI, if_neg (by omega), gI_uI_nb hb]
  · rw [gI_uI, if_neg (by omega)]; exact gI_uI_self _ _ _ _
end TAPE3
end
section
theorem dX0_init_0 : decode cX0_init 0 = .ok (.aload_n 0, 1) := by decide +kernel
theorem dX0_init_1 : decode cX0_init 1 = .ok (.invokespecial 1, 3) := by decide +kernel
theorem dX0_init_4 : decode cX0_init 4 = .ok (.aload_n 0, 1) := by decide +kernel
theorem dX0_init_5 : decode cX0_init 5 = .ok (.iconst 3, 1) := by decide +kernel
theorem dX0_init_6 : decode cX0_init 6 = .ok (.newarray .int, 2) := by decide +kernel
theorem dX0_init_8 : decode cX0_init 8 = .ok (.putfield 7, 3) := by decide +kernel
theorem dX0_init_11 : decode cX0_init 11 = .ok (.return_, 1) := by decide +kernel
theorem dX0_find_0 : decode cX0_find 0 = .ok (.aload_n 0, 1) := by decide +kernel
theorem dX0_find_1 : decode cX0_find 1 = .ok (.iconst 0, 1) := by decide +kernel
theorem dX0_find_2 : decode cX0_find 2 = .ok (.putfield 13, 3) := by decide +kernel
theorem dX0_find_5 : decode cX0_find 5 = .ok (.aload_n 0, 1) := by decide +kernel
theorem dX0_find_6 : decode cX0_find 6 = .ok (.iconst 0, 1) := by decide +kernel
theorem dX0_find_7 : decode cX0_find 7 = .ok (.putfield 17, 3) := by decide +kernel
theorem dX0_find_10 : decode cX0_find 10 = .ok (.iconst 0, 1) := by decide +kernel
theorem dX0_find_11 : decode cX0_find 11 = .ok (.istore_n 2, 1) := by decide +kernel
theorem dX0_find_12 : decode cX0_find 12 = .ok (.iload_n 2, 1) := by decide +kernel
theorem dX0_find_13 : decode cX0_find 13 = .ok (.aload_n 1, 1) := by decide +kernel
theorem dX0_find_14 : decode cX0_find 14 = .ok (.getfield 20, 3) := by decide +kernel
theorem dX0_find_17 : decode cX0_find 17 = .ok (.if_icmp .ge 51, 3) := by decide +kernel
theorem dX0_find_20 : decode cX0_find 20 = .ok (.iload_n 2, 1) := by decide +kernel
theorem dX0_find_21 : decode cX0_find 21 = .ok (.iconst 1, 1) := by decide +kernel
theorem dX0_find_22 : decode cX0_find 22 = .ok (.iadd, 1) := by decide +kernel
theorem dX0_find_23 : decode cX0_find 23 = .ok (.istore_n 3, 1) := by decide +kernel
theorem dX0_find_24 : decode cX0_find 24 = .ok (.iload_n 3, 1) := by decide +kernel
theorem dX0_find_25 : decode cX0_find 25 = .ok (.aload_n 1, 1) := by decide +kernel
theorem dX0_find_26 : decode cX0_find 26 = .ok (.getfield 20, 3) := by decide +kernel
theorem dX0_find_29 : decode cX0_find 29 = .ok (.if_icmp .ge 33, 3) := by decide +kernel
theorem dX0_find_32 : decode cX0_find 32 = .ok (.aload_n 0, 1) := by decide +kernel
theorem dX0_find_33 : decode cX0_find 33 = .ok (.aload_n 1, 1) := by decide +kernel
theorem dX0_find_34 : decode cX0_find 34 = .ok (.getfield 25, 3) := by decide +kernel
theorem dX0_find_37 : decode cX0_find 37 = .ok (.iload_n 2, 1) := by decide +kernel
theorem dX0_find_38 : decode cX0_find 38 = .ok (.aaload, 1) := by decide +kernel
theorem dX0_find_39 : decode cX0_find 39 = .ok (.aload_n 1, 1) := by decide +kernel
theorem dX0_find_40 : decode cX0_find 40 = .ok (.getfield 25, 3) := by decide +kernel
theorem dX0_find_43 : decode cX0_find 43 = .ok (.iload_n 3, 1) := by decide +kernel
theorem dX0_find_44 : decode cX0_find 44 = .ok (.aaload, 1) := by decide +kernel
theorem dX0_find_45 : decode cX0_find 45 = .ok (.aconst_null, 1) := by decide +kernel
theorem dX0_find_46 : decode cX0_find 46 = .ok (.invokestatic 29, 3) := by decide +kernel
theorem dX0_find_49 : decode cX0_find 49 = .ok (.iconst 2, 1) := by decide +kernel
theorem dX0_find_50 : decode cX0_find 50 = .ok (.iload_n 2, 1) := by decide +kernel
theorem dX0_find_51 : decode cX0_find 51 = .ok (.iload_n 3, 1) := by decide +kernel
theorem dX0_find_52 : decode cX0_find 52 = .ok (.iconst (-1), 1) := by decide +kernel
theorem dX0_find_53 : decode cX0_find 53 = .ok (.invokevirtual 33, 3) := by decide +kernel
theorem dX0_find_56 : decode cX0_find 56 = .ok (.iinc 3 1, 3) := by decide +kernel
theorem dX0_find_59 : decode cX0_find 59 = .ok (.goto (-35), 3) := by decide +kernel
theorem dX0_find_62 : decode cX0_find 62 = .ok (.iinc 2 1, 3) := by decide +kernel
theorem dX0_find_65 : decode cX0_find 65 = .ok (.goto (-53), 3) := by decide +kernel
theorem dX0_find_68 : decode cX0_find 68 = .ok (.iconst 0, 1) := by decide +kernel
theorem dX0_find_69 : decode cX0_find 69 = .ok (.istore_n 2, 1) := by decide +kernel
theorem dX0_find_70 : decode cX0_find 70 = .ok (.iload_n 2, 1) := by decide +kernel
theorem dX0_find_71 : decode cX0_find 71 = .ok (.aload_n 1, 1) := by decide +kernel
theorem dX0_find_72 : decode cX0_find 72 = .ok (.getfield 20, 3) := by decide +kernel
theorem dX0_find_75 : decode cX0_find 75 = .ok (.if_icmp .ge 34, 3) := by decide +kernel
theorem dX0_find_78 : decode cX0_find 78 = .ok (.iload_n 2, 1) := by decide +kernel
theorem dX0_find_79 : decode cX0_find 79 = .ok (.iconst 1, 1) := by decide +kernel
theorem dX0_find_80 : decode cX0_find 80 = .ok (.iadd, 1) := by decide +kernel
theorem dX0_find_81 : decode cX0_find 81 = .ok (.istore_n 3, 1) := by decide +kernel
theorem dX0_find_82 : decode cX0_find 82 = .ok (.iload_n 3, 1) := by decide +kernel
theorem dX0_find_83 : decode cX0_find 83 = .ok (.aload_n 1, 1) := by decide +kernel
theorem dX0_find_84 : decode cX0_find 84 = .ok (.getfield 20, 3) := by decide +kernel
theorem dX0_find_87 : decode cX0_find 87 = .ok (.if_icmp .ge 16, 3) := by decide +kernel
theorem dX0_find_90 : decode cX0_find 90 = .ok (.aload_n 0, 1) := by decide +kernel
theorem dX0_find_91 : decode cX0_find 91 = .ok (.aload_n 1, 1) := by decide +kernel
theorem dX0_find_92 : decode cX0_find 92 = .ok (.iload_n 2, 1) := by decide +kernel
theorem dX0_find_93 : decode cX0_find 93 = .ok (.iload_n 3, 1) := by decide +kernel
theorem dX0_find_94 : decode cX0_find 94 = .ok (.invokevirtual 37, 3) := by decide +kernel
theorem dX0_find_97 : decode cX0_find 97 = .ok (.iinc 3 1, 3) := by decide +kernel
theorem dX0_find_100 : decode cX0_find 100 = .ok (.goto (-18), 3) := by decide +kernel
theorem dX0_find_103 : decode cX0_find 103 = .ok (.iinc 2 1, 3) := by decide +kernel
theorem dX0_find_106 : decode cX0_find 106 = .ok (.goto (-36), 3) := by decide +kernel
theorem dX0_find_109 : decode cX0_find 109 = .ok (.return_, 1) := by decide +kernel
theorem dX0_findThirds_0 : decode cX0_findThirds 0 = .ok (.iload_n 2, 1) := by decide +kernel
theorem dX0_findThirds_1 : decode cX0_findThirds 1 = .ok (.iconst 1, 1) := by decide +kernel
theorem dX0_findThirds_2 : decode cX0_findThirds 2 = .ok (.iadd, 1) := by decide +kernel
theorem dX0_findThirds_3 : decode cX0_findThirds 3 = .ok (.istore 4, 2) := by decide +kernel
theorem dX0_findThirds_5 : decode cX0_findThirds 5 = .ok (.iload 4, 2) := by decide +kernel
theorem dX0_findThirds_7 : decode cX0_findThirds 7 = .ok (.aload_n 1, 1) := by decide +kernel
theorem dX0_findThirds_8 : decode cX0_findThirds 8 = .ok (.getfield 20, 3) := by decide +kernel
theorem dX0_findThirds_11 : decode cX0_findThirds 11 = .ok (.if_icmp .ge 46, 3) := by decide +kernel
theorem dX0_findThirds_14 : decode cX0_findThirds 14 = .ok (.iload 4, 2) := by decide +kernel
theorem dX0_findThirds_16 : decode cX0_findThirds 16 = .ok (.iload_n 3, 1) := by decide +kernel
theorem dX0_findThirds_17 : decode cX0_findThirds 17 = .ok (.if_icmp .eq 34, 3) := by decide +kernel
theorem dX0_findThirds_20 : decode cX0_findThirds 20 = .ok (.aload_n 0, 1) := by decide +kernel
theorem dX0_findThirds_21 : decode cX0_findThirds 21 = .ok (.aload_n 1, 1) := by decide +kernel
theorem dX0_findThirds_22 : decode cX0_findThirds 22 = .ok (.getfield 25, 3) := by decide +kernel
theorem dX0_findThirds_25 : decode cX0_findThirds 25 = .ok (.iload_n 2, 1) := by decide +kernel
theorem dX0_findThirds_26 : decode cX0_findThirds 26 = .ok (.aaload, 1) := by decide +kernel
theorem dX0_findThirds_27 : decode cX0_findThirds 27 = .ok (.aload_n 1, 1) := by decide +kernel
theorem dX0_findThirds_28 : decode cX0_findThirds 28 = .ok (.getfield 25, 3) := by decide +kernel
theorem dX0_findThirds_31 : decode cX0_findThirds 31 = .ok (.iload_n 3, 1) := by decide +kernel
theorem dX0_findThirds_32 : decode cX0_findThirds 32 = .ok (.aaload, 1) := by decide +kernel
theorem dX0_findThirds_33 : decode cX0_findThirds 33 = .ok (.aload_n 1, 1) := by decide +kernel
theorem dX0_findThirds_34 : decode cX0_findThirds 34 = .ok (.getfield 25, 3) := by decide +kernel
theorem dX0_findThirds_37 : decode cX0_findThirds 37 = .ok (.iload 4, 2) := by decide +kernel
theorem dX0_findThirds_39 : decode cX0_findThirds 39 = .ok (.aaload, 1) := by decide +kernel
theorem dX0_findThirds_40 : decode cX0_findThirds 40 = .ok (.invokestatic 29, 3) := by decide +kernel
theorem dX0_findThirds_43 : decode cX0_findThirds 43 = .ok (.iconst 3, 1) := by decide +kernel
theorem dX0_findThirds_44 : decode cX0_findThirds 44 = .ok (.iload_n 2, 1) := by decide +kernel
theorem dX0_findThirds_45 : decode cX0_findThirds 45 = .ok (.iload_n 3, 1) := by decide +kernel
theorem dX0_findThirds_46 : decode cX0_findThirds 46 = .ok (.iload 4, 2) := by decide +kernel
theorem dX0_findThirds_48 : decode cX0_findThirds 48 = .ok (.invokevirtual 33, 3) := by decide +kernel
theorem dX0_findThirds_51 : decode cX0_findThirds 51 = .ok (.iinc 4 1, 3) := by decide +kernel
theorem dX0_findThirds_54 : decode cX0_findThirds 54 = .ok (.goto (-49), 3) := by decide +kernel
theorem dX0_findThirds_57 : decode cX0_findThirds 57 = .ok (.return_, 1) := by decide +kernel
theorem dX0_keepIfBetter_0 : decode cX0_keepIfBetter 0 = .ok (.iload_n 1, 1) := by decide +kernel
theorem dX0_keepIfBetter_1 : decode cX0_keepIfBetter 1 = .ok (.aload_n 0, 1) := by decide +kernel
theorem dX0_keepIfBetter_2 : decode cX0_keepIfBetter 2 = .ok (.getfield 17, 3) := by decide +kernel
theorem dX0_keepIfBetter_5 : decode cX0_keepIfBetter 5 = .ok (.if_icmp .le 36, 3) := by decide +kernel
theorem dX0_keepIfBetter_8 : decode cX0_keepIfBetter 8 = .ok (.aload_n 0, 1) := by decide +kernel
theorem dX0_keepIfBetter_9 : decode cX0_keepIfBetter 9 = .ok (.iload_n 1, 1) := by decide +kernel
theorem dX0_keepIfBetter_10 : decode cX0_keepIfBetter 10 = .ok (.putfield 17, 3) := by decide +kernel
theorem dX0_keepIfBetter_13 : decode cX0_keepIfBetter 13 = .ok (.aload_n 0, 1) := by decide +kernel
theorem dX0_keepIfBetter_14 : decode cX0_keepIfBetter 14 = .ok (.iload_n 2, 1) := by decide +kernel
theorem dX0_keepIfBetter_15 : decode cX0_keepIfBetter 15 = .ok (.putfield 13, 3) := by decide +kernel
theorem dX0_keepIfBetter_18 : decode cX0_keepIfBetter 18 = .ok (.aload_n 0, 1) := by decide +kernel
theorem dX0_keepIfBetter_19 : decode cX0_keepIfBetter 19 = .ok (.getfield 7, 3) := by decide +kernel
theorem dX0_keepIfBetter_22 : decode cX0_keepIfBetter 22 = .ok (.iconst 0, 1) := by decide +kernel
theorem dX0_keepIfBetter_23 : decode cX0_keepIfBetter 23 = .ok (.iload_n 3, 1) := by decide +kernel
theorem dX0_keepIfBetter_24 : decode cX0_keepIfBetter 24 = .ok (.iastore, 1) := by decide +kernel
theorem dX0_keepIfBetter_25 : decode cX0_keepIfBetter 25 = .ok (.aload_n 0, 1) := by decide +kernel
theorem dX0_keepIfBetter_26 : decode cX0_keepIfBetter 26 = .ok (.getfield 7, 3) := by decide +kernel
theorem dX0_keepIfBetter_29 : decode cX0_keepIfBetter 29 = .ok (.iconst 1, 1) := by decide +kernel
theorem dX0_keepIfBetter_30 : decode cX0_keepIfBetter 30 = .ok (.iload 4, 2) := by decide +kernel
theorem dX0_keepIfBetter_32 : decode cX0_keepIfBetter 32 = .ok (.iastore, 1) := by decide +kernel
theorem dX0_keepIfBetter_33 : decode cX0_keepIfBetter 33 = .ok (.aload_n 0, 1) := by decide +kernel
theorem dX0_keepIfBetter_34 : decode cX0_keepIfBetter 34 = .ok (.getfield 7, 3) := by decide +kernel
theorem dX0_keepIfBetter_37 : decode cX0_keepIfBetter 37 = .ok (.iconst 2, 1) := by decide +kernel
theorem dX0_keepIfBetter_38 : decode cX0_keepIfBetter 38 = .ok (.iload 5, 2) := by decide +kernel
theorem dX0_keepIfBetter_40 : decode cX0_keepIfBetter 40 = .ok (.iastore, 1) := by decide +kernel
theorem dX0_keepIfBetter_41 : decode cX0_keepIfBetter 41 = .ok (.return_, 1) := by decide +kernel
theorem dX0_savedBy_0 : decode cX0_savedBy 0 = .ok (.aload_n 1, 1) := by decide +kernel
theorem dX0_savedBy_1 : decode cX0_savedBy 1 = .ok (.aload_n 0, 1) := by decide +kernel
theorem dX0_savedBy_2 : decode cX0_savedBy 2 = .ok (.invokestatic 41, 3) := by decide +kernel
theorem dX0_savedBy_5 : decode cX0_savedBy 5 = .ok (.istore_n 3, 1) := by decide +kernel
theorem dX0_savedBy_6 : decode cX0_savedBy 6 = .ok (.aload_n 2, 1) := by decide +kernel
theorem dX0_savedBy_7 : decode cX0_savedBy 7 = .ok (.ifnonnull 28, 3) := by decide +kernel
theorem dX0_savedBy_10 : decode cX0_savedBy 10 = .ok (.aload_n 0, 1) := by decide +kernel
theorem dX0_savedBy_11 : decode cX0_savedBy 11 = .ok (.aload_n 1, 1) := by decide +kernel
theorem dX0_savedBy_12 : decode cX0_savedBy 12 = .ok (.invokestatic 41, 3) := by decide +kernel
theorem dX0_savedBy_15 : decode cX0_savedBy 15 = .ok (.istore 4, 2) := by decide +kernel
theorem dX0_savedBy_17 : decode cX0_savedBy 17 = .ok (.iload 4, 2) := by decide +kernel
theorem dX0_savedBy_19 : decode cX0_savedBy 19 = .ok (.ifCond .le 14, 3) := by decide +kernel
theorem dX0_savedBy_22 : decode cX0_savedBy 22 = .ok (.iload_n 3, 1) := by decide +kernel
theorem dX0_savedBy_23 : decode cX0_savedBy 23 = .ok (.ifCond .le 10, 3) := by decide +kernel
theorem dX0_savedBy_26 : decode cX0_savedBy 26 = .ok (.iload 4, 2) := by decide +kernel
theorem dX0_savedBy_28 : decode cX0_savedBy 28 = .ok (.iload_n 3, 1) := by decide +kernel
theorem dX0_savedBy_29 : decode cX0_savedBy 29 = .ok (.iadd, 1) := by decide +kernel
theorem dX0_savedBy_30 : decode cX0_savedBy 30 = .ok (.goto 4, 3) := by decide +kernel
theorem dX0_savedBy_33 : decode cX0_savedBy 33 = .ok (.iconst 0, 1) := by decide +kernel
theorem dX0_savedBy_34 : decode cX0_savedBy 34 = .ok (.ireturn, 1) := by decide +kernel
theorem dX0_savedBy_35 : decode cX0_savedBy 35 = .ok (.aload_n 2, 1) := by decide +kernel
theorem dX0_savedBy_36 : decode cX0_savedBy 36 = .ok (.aload_n 1, 1) := by decide +kernel
theorem dX0_savedBy_37 : decode cX0_savedBy 37 = .ok (.invokestatic 41, 3) := by decide +kernel
theorem dX0_savedBy_40 : decode cX0_savedBy 40 = .ok (.istore 4, 2) := by decide +kernel
theorem dX0_savedBy_42 : decode cX0_savedBy 42 = .ok (.aload_n 0, 1) := by decide +kernel
theorem dX0_savedBy_43 : decode cX0_savedBy 43 = .ok (.aload_n 2, 1) := by decide +kernel
theorem dX0_savedBy_44 : decode cX0_savedBy 44 = .ok (.invokestatic 41, 3) := by decide +kernel
theorem dX0_savedBy_47 : decode cX0_savedBy 47 = .ok (.istore 5, 2) := by decide +kernel
theorem dX0_savedBy_49 : decode cX0_savedBy 49 = .ok (.iload 5, 2) := by decide +kernel
theorem dX0_savedBy_51 : decode cX0_savedBy 51 = .ok (.ifCond .le 22, 3) := by decide +kernel
theorem dX0_savedBy_54 : decode cX0_savedBy 54 = .ok (.iload_n 3, 1) := by decide +kernel
theorem dX0_savedBy_55 : decode cX0_savedBy 55 = .ok (.ifCond .le 18, 3) := by decide +kernel
theorem dX0_savedBy_58 : decode cX0_savedBy 58 = .ok (.iload 4, 2) := by decide +kernel
theorem dX0_savedBy_60 : decode cX0_savedBy 60 = .ok (.ifCond .le 13, 3) := by decide +kernel
theorem dX0_savedBy_63 : decode cX0_savedBy 63 = .ok (.iload 5, 2) := by decide +kernel
theorem dX0_savedBy_65 : decode cX0_savedBy 65 = .ok (.iload_n 3, 1) := by decide +kernel
theorem dX0_savedBy_66 : decode cX0_savedBy 66 = .ok (.iadd, 1) := by decide +kernel
theorem dX0_savedBy_67 : decode cX0_savedBy 67 = .ok (.iload 4, 2) := by decide +kernel
theorem dX0_savedBy_69 : decode cX0_savedBy 69 = .ok (.iadd, 1) := by decide +kernel
theorem dX0_savedBy_70 : decode cX0_savedBy 70 = .ok (.goto 4, 3) := by decide +kernel
theorem dX0_savedBy_73 : decode cX0_savedBy 73 = .ok (.iconst 0, 1) := by decide +kernel
theorem dX0_savedBy_74 : decode cX0_savedBy 74 = .ok (.ireturn, 1) := by decide +kernel
theorem dX0_gain_0 : decode cX0_gain 0 = .ok (.aload_n 0, 1) := by decide +kernel
theorem dX0_gain_1 : decode cX0_gain 1 = .ok (.getfield 45, 3) := by decide +kernel
theorem dX0_gain_4 : decode cX0_gain 4 = .ok (.iconst 1, 1) := by decide +kernel
theorem dX0_gain_5 : decode cX0_gain 5 = .ok (.if_icmp .lt 11, 3) := by decide +kernel
theorem dX0_gain_8 : decode cX0_gain 8 = .ok (.aload_n 1, 1) := by decide +kernel
theorem dX0_gain_9 : decode cX0_gain 9 = .ok (.getfield 45, 3) := by decide +kernel
theorem dX0_gain_12 : decode cX0_gain 12 = .ok (.iconst 1, 1) := by decide +kernel
theorem dX0_gain_13 : decode cX0_gain 13 = .ok (.if_icmp .ge 5, 3) := by decide +kernel
theorem dX0_gain_16 : decode cX0_gain 16 = .ok (.iconst 0, 1) := by decide +kernel
theorem dX0_gain_17 : decode cX0_gain 17 = .ok (.ireturn, 1) := by decide +kernel
theorem dX0_gain_18 : decode cX0_gain 18 = .ok (.aload_n 0, 1) := by decide +kernel
theorem dX0_gain_19 : decode cX0_gain 19 = .ok (.getfield 50, 3) := by decide +kernel
theorem dX0_gain_22 : decode cX0_gain 22 = .ok (.aload_n 0, 1) := by decide +kernel
theorem dX0_gain_23 : decode cX0_gain 23 = .ok (.getfield 45, 3) := by decide +kernel
theorem dX0_gain_26 : decode cX0_gain 26 = .ok (.iconst 1, 1) := by decide +kernel
theorem dX0_gain_27 : decode cX0_gain 27 = .ok (.isub, 1) := by decide +kernel
theorem dX0_gain_28 : decode cX0_gain 28 = .ok (.iaload, 1) := by decide +kernel
theorem dX0_gain_29 : decode cX0_gain 29 = .ok (.istore_n 2, 1) := by decide +kernel
theorem dX0_gain_30 : decode cX0_gain 30 = .ok (.aload_n 1, 1) := by decide +kernel
theorem dX0_gain_31 : decode cX0_gain 31 = .ok (.getfield 50, 3) := by decide +kernel
theorem dX0_gain_34 : decode cX0_gain 34 = .ok (.aload_n 1, 1) := by decide +kernel
theorem dX0_gain_35 : decode cX0_gain 35 = .ok (.getfield 45, 3) := by decide +kernel
theorem dX0_gain_38 : decode cX0_gain 38 = .ok (.iconst 1, 1) := by decide +kernel
theorem dX0_gain_39 : decode cX0_gain 39 = .ok (.isub, 1) := by decide +kernel
theorem dX0_gain_40 : decode cX0_gain 40 = .ok (.iaload, 1) := by decide +kernel
theorem dX0_gain_41 : decode cX0_gain 41 = .ok (.istore_n 3, 1) := by decide +kernel
theorem dX0_gain_42 : decode cX0_gain 42 = .ok (.aload_n 0, 1) := by decide +kernel
theorem dX0_gain_43 : decode cX0_gain 43 = .ok (.getfield 53, 3) := by decide +kernel
theorem dX0_gain_46 : decode cX0_gain 46 = .ok (.iload_n 2, 1) := by decide +kernel
theorem dX0_gain_47 : decode cX0_gain 47 = .ok (.iaload, 1) := by decide +kernel
theorem dX0_gain_48 : decode cX0_gain 48 = .ok (.aload_n 0, 1) := by decide +kernel
theorem dX0_gain_49 : decode cX0_gain 49 = .ok (.getfield 53, 3) := by decide +kernel
theorem dX0_gain_52 : decode cX0_gain 52 = .ok (.iload_n 3, 1) := by decide +kernel
theorem dX0_gain_53 : decode cX0_gain 53 = .ok (.iaload, 1) := by decide +kernel
theorem dX0_gain_54 : decode cX0_gain 54 = .ok (.isub, 1) := by decide +kernel
theorem dX0_gain_55 : decode cX0_gain 55 = .ok (.ireturn, 1) := by decide +kernel
theorem dX2_init_0 : decode cX2_init 0 = .ok (.aload_n 0, 1) := by decide +kernel
theorem dX2_init_1 : decode cX2_init 1 = .ok (.invokespecial 3, 3) := by decide +kernel
theorem dX2_init_4 : decode cX2_init 4 = .ok (.aload_n 0, 1) := by decide +kernel
theorem dX2_init_5 : decode cX2_init 5 = .ok (.bipush 7, 2) := by decide +kernel
theorem dX2_init_7 : decode cX2_init 7 = .ok (.bipush 8, 2) := by decide +kernel
theorem dX2_init_9 : decode cX2_init 9 = .ok (.multianewarray 9 2, 4) := by decide +kernel
theorem dX2_init_13 : decode cX2_init 13 = .ok (.putfield 11, 3) := by decide +kernel
theorem dX2_init_16 : decode cX2_init 16 = .ok (.aload_n 0, 1) := by decide +kernel
theorem dX2_init_17 : decode cX2_init 17 = .ok (.bipush 6, 2) := by decide +kernel
theorem dX2_init_19 : decode cX2_init 19 = .ok (.newarray .int, 2) := by decide +kernel
theorem dX2_init_21 : decode cX2_init 21 = .ok (.putfield 16, 3) := by decide +kernel
theorem dX2_init_24 : decode cX2_init 24 = .ok (.aload_n 0, 1) := by decide +kernel
theorem dX2_init_25 : decode cX2_init 25 = .ok (.bipush 6, 2) := by decide +kernel
theorem dX2_init_27 : decode cX2_init 27 = .ok (.newarray .int, 2) := by decide +kernel
theorem dX2_init_29 : decode cX2_init 29 = .ok (.putfield 20, 3) := by decide +kernel
theorem dX2_init_32 : decode cX2_init 32 = .ok (.return_, 1) := by decide +kernel
theorem dX2_plan_0 : decode cX2_plan 0 = .ok (.aload_n 0, 1) := by decide +kernel
theorem dX2_plan_1 : decode cX2_plan 1 = .ok (.aload_n 1, 1) := by decide +kernel
theorem dX2_plan_2 : decode cX2_plan 2 = .ok (.putfield 23, 3) := by decide +kernel
theorem dX2_plan_5 : decode cX2_plan 5 = .ok (.aload_n 0, 1) := by decide +kernel
theorem dX2_plan_6 : decode cX2_plan 6 = .ok (.iload_n 2, 1) := by decide +kernel
theorem dX2_plan_7 : decode cX2_plan 7 = .ok (.putfield 27, 3) := by decide +kernel
theorem dX2_plan_10 : decode cX2_plan 10 = .ok (.aload_n 0, 1) := by decide +kernel
theorem dX2_plan_11 : decode cX2_plan 11 = .ok (.sipush 361, 3) := by decide +kernel
theorem dX2_plan_14 : decode cX2_plan 14 = .ok (.putfield 31, 3) := by decide +kernel
theorem dX2_plan_17 : decode cX2_plan 17 = .ok (.aload_n 0, 1) := by decide +kernel
theorem dX2_plan_18 : decode cX2_plan 18 = .ok (.iconst 0, 1) := by decide +kernel
theorem dX2_plan_19 : decode cX2_plan 19 = .ok (.putfield 34, 3) := by decide +kernel
theorem dX2_plan_22 : decode cX2_plan 22 = .ok (.aload_n 1, 1) := by decide +kernel
theorem dX2_plan_23 : decode cX2_plan 23 = .ok (.getfield 37, 3) := by decide +kernel
theorem dX2_plan_26 : decode cX2_plan 26 = .ok (.iconst 0, 1) := by decide +kernel
theorem dX2_plan_27 : decode cX2_plan 27 = .ok (.aload_n 0, 1) := by decide +kernel
theorem dX2_plan_28 : decode cX2_plan 28 = .ok (.getfield 11, 3) := by decide +kernel
theorem dX2_plan_31 : decode cX2_plan 31 = .ok (.iconst 0, 1) := by decide +kernel
theorem dX2_plan_32 : decode cX2_plan 32 = .ok (.aaload, 1) := by decide +kernel
theorem dX2_plan_33 : decode cX2_plan 33 = .ok (.iconst 0, 1) := by decide +kernel
theorem dX2_plan_34 : decode cX2_plan 34 = .ok (.bipush 8, 2) := by decide +kernel
theorem dX2_plan_36 : decode cX2_plan 36 = .ok (.invokestatic 42, 3) := by decide +kernel
theorem dX2_plan_39 : decode cX2_plan 39 = .ok (.aload_n 0, 1) := by decide +kernel
theorem dX2_plan_40 : decode cX2_plan 40 = .ok (.iconst 0, 1) := by decide +kernel
theorem dX2_plan_41 : decode cX2_plan 41 = .ok (.aload_n 1, 1) := by decide +kernel
theorem dX2_plan_42 : decode cX2_plan 42 = .ok (.invokevirtual 48, 3) := by decide +kernel
theorem dX2_plan_45 : decode cX2_plan 45 = .ok (.iconst 0, 1) := by decide +kernel
theorem dX2_plan_46 : decode cX2_plan 46 = .ok (.aload_n 1, 1) := by decide +kernel
theorem dX2_plan_47 : decode cX2_plan 47 = .ok (.getfield 52, 3) := by decide +kernel
theorem dX2_plan_50 : decode cX2_plan 50 = .ok (.iconst 0, 1) := by decide +kernel
theorem dX2_plan_51 : decode cX2_plan 51 = .ok (.invokevirtual 55, 3) := by decide +kernel
theorem dX2_plan_54 : decode cX2_plan 54 = .ok (.return_, 1) := by decide +kernel
theorem dX2_tryEach_0 : decode cX2_tryEach 0 = .ok (.iload_n 2, 1) := by decide +kernel
theorem dX2_tryEach_1 : decode cX2_tryEach 1 = .ok (.ifCond .ne 12, 3) := by decide +kernel
theorem dX2_tryEach_4 : decode cX2_tryEach 4 = .ok (.aload_n 0, 1) := by decide +kernel
theorem dX2_tryEach_5 : decode cX2_tryEach 5 = .ok (.iload_n 1, 1) := by decide +kernel
theorem dX2_tryEach_6 : decode cX2_tryEach 6 = .ok (.iload_n 3, 1) := by decide +kernel
theorem dX2_tryEach_7 : decode cX2_tryEach 7 = .ok (.iload 5, 2) := by decide +kernel
theorem dX2_tryEach_9 : decode cX2_tryEach 9 = .ok (.invokevirtual 59, 3) := by decide +kernel
theorem dX2_tryEach_12 : decode cX2_tryEach 12 = .ok (.return_, 1) := by decide +kernel
theorem dX2_tryEach_13 : decode cX2_tryEach 13 = .ok (.iload_n 1, 1) := by decide +kernel
theorem dX2_tryEach_14 : decode cX2_tryEach 14 = .ok (.bipush 6, 2) := by decide +kernel
theorem dX2_tryEach_16 : decode cX2_tryEach 16 = .ok (.if_icmp .ge 10, 3) := by decide +kernel
theorem dX2_tryEach_19 : decode cX2_tryEach 19 = .ok (.aload_n 0, 1) := by decide +kernel
theorem dX2_tryEach_20 : decode cX2_tryEach 20 = .ok (.getfield 23, 3) := by decide +kernel
theorem dX2_tryEach_23 : decode cX2_tryEach 23 = .ok (.ifnonnull 4, 3) := by decide +kernel
theorem dX2_tryEach_26 : decode cX2_tryEach 26 = .ok (.return_, 1) := by decide +kernel
theorem dX2_tryEach_27 : decode cX2_tryEach 27 = .ok (.iconst 0, 1) := by decide +kernel
theorem dX2_tryEach_28 : decode cX2_tryEach 28 = .ok (.istore 6, 2) := by decide +kernel
theorem dX2_tryEach_30 : decode cX2_tryEach 30 = .ok (.iload 6, 2) := by decide +kernel
theorem dX2_tryEach_32 : decode cX2_tryEach 32 = .ok (.aload_n 0, 1) := by decide +kernel
theorem dX2_tryEach_33 : decode cX2_tryEach 33 = .ok (.getfield 23, 3) := by decide +kernel
theorem dX2_tryEach_36 : decode cX2_tryEach 36 = .ok (.getfield 63, 3) := by decide +kernel
theorem dX2_tryEach_39 : decode cX2_tryEach 39 = .ok (.if_icmp .ge 50, 3) := by decide +kernel
theorem dX2_tryEach_42 : decode cX2_tryEach 42 = .ok (.iload_n 2, 1) := by decide +kernel
theorem dX2_tryEach_43 : decode cX2_tryEach 43 = .ok (.iload 6, 2) := by decide +kernel
theorem dX2_tryEach_45 : decode cX2_tryEach 45 = .ok (.invokestatic 66, 3) := by decide +kernel
theorem dX2_tryEach_48 : decode cX2_tryEach 48 = .ok (.ifCond .eq 35, 3) := by decide +kernel
theorem dX2_tryEach_51 : decode cX2_tryEach 51 = .ok (.aload_n 0, 1) := by decide +kernel
theorem dX2_tryEach_52 : decode cX2_tryEach 52 = .ok (.getfield 27, 3) := by decide +kernel
theorem dX2_tryEach_55 : decode cX2_tryEach 55 = .ok (.iload_n 2, 1) := by decide +kernel
theorem dX2_tryEach_56 : decode cX2_tryEach 56 = .ok (.iload 6, 2) := by decide +kernel
theorem dX2_tryEach_58 : decode cX2_tryEach 58 = .ok (.invokestatic 70, 3) := by decide +kernel
theorem dX2_tryEach_61 : decode cX2_tryEach 61 = .ok (.ifCond .eq 22, 3) := by decide +kernel
theorem dX2_tryEach_64 : decode cX2_tryEach 64 = .ok (.aload_n 0, 1) := by decide +kernel
theorem dX2_tryEach_65 : decode cX2_tryEach 65 = .ok (.getfield 16, 3) := by decide +kernel
theorem dX2_tryEach_68 : decode cX2_tryEach 68 = .ok (.iload_n 1, 1) := by decide +kernel
theorem dX2_tryEach_69 : decode cX2_tryEach 69 = .ok (.iload 6, 2) := by decide +kernel
theorem dX2_tryEach_71 : decode cX2_tryEach 71 = .ok (.iastore, 1) := by decide +kernel
theorem dX2_tryEach_72 : decode cX2_tryEach 72 = .ok (.aload_n 0, 1) := by decide +kernel
theorem dX2_tryEach_73 : decode cX2_tryEach 73 = .ok (.iload_n 1, 1) := by decide +kernel
theorem dX2_tryEach_74 : decode cX2_tryEach 74 = .ok (.iload_n 2, 1) := by decide +kernel
theorem dX2_tryEach_75 : decode cX2_tryEach 75 = .ok (.iload_n 3, 1) := by decide +kernel
theorem dX2_tryEach_76 : decode cX2_tryEach 76 = .ok (.iload 4, 2) := by decide +kernel
theorem dX2_tryEach_78 : decode cX2_tryEach 78 = .ok (.iload 5, 2) := by decide +kernel
theorem dX2_tryEach_80 : decode cX2_tryEach 80 = .ok (.invokevirtual 74, 3) := by decide +kernel
theorem dX2_tryEach_83 : decode cX2_tryEach 83 = .ok (.iinc 6 1, 3) := by decide +kernel
theorem dX2_tryEach_86 : decode cX2_tryEach 86 = .ok (.goto (-56), 3) := by decide +kernel
theorem dX2_tryEach_89 : decode cX2_tryEach 89 = .ok (.return_, 1) := by decide +kernel
theorem dX2_payNext_0 : decode cX2_payNext 0 = .ok (.aload_n 0, 1) := by decide +kernel
theorem dX2_payNext_1 : decode cX2_payNext 1 = .ok (.getfield 11, 3) := by decide +kernel
theorem dX2_payNext_4 : decode cX2_payNext 4 = .ok (.iload_n 1, 1) := by decide +kernel
theorem dX2_payNext_5 : decode cX2_payNext 5 = .ok (.iconst 1, 1) := by decide +kernel
theorem dX2_payNext_6 : decode cX2_payNext 6 = .ok (.iadd, 1) := by decide +kernel
theorem dX2_payNext_7 : decode cX2_payNext 7 = .ok (.aaload, 1) := by decide +kernel
theorem dX2_payNext_8 : decode cX2_payNext 8 = .ok (.astore 6, 2) := by decide +kernel
theorem dX2_payNext_10 : decode cX2_payNext 10 = .ok (.aload_n 0, 1) := by decide +kernel
theorem dX2_payNext_11 : decode cX2_payNext 11 = .ok (.getfield 11, 3) := by decide +kernel
theorem dX2_payNext_14 : decode cX2_payNext 14 = .ok (.iload_n 1, 1) := by decide +kernel
theorem dX2_payNext_15 : decode cX2_payNext 15 = .ok (.aaload, 1) := by decide +kernel
theorem dX2_payNext_16 : decode cX2_payNext 16 = .ok (.iconst 0, 1) := by decide +kernel
theorem dX2_payNext_17 : decode cX2_payNext 17 = .ok (.aload 6, 2) := by decide +kernel
theorem dX2_payNext_19 : decode cX2_payNext 19 = .ok (.iconst 0, 1) := by decide +kernel
theorem dX2_payNext_20 : decode cX2_payNext 20 = .ok (.bipush 8, 2) := by decide +kernel
theorem dX2_payNext_22 : decode cX2_payNext 22 = .ok (.invokestatic 42, 3) := by decide +kernel
theorem dX2_payNext_25 : decode cX2_payNext 25 = .ok (.aload_n 0, 1) := by decide +kernel
theorem dX2_payNext_26 : decode cX2_payNext 26 = .ok (.getfield 16, 3) := by decide +kernel
theorem dX2_payNext_29 : decode cX2_payNext 29 = .ok (.iload_n 1, 1) := by decide +kernel
theorem dX2_payNext_30 : decode cX2_payNext 30 = .ok (.iaload, 1) := by decide +kernel
theorem dX2_payNext_31 : decode cX2_payNext 31 = .ok (.istore 7, 2) := by decide +kernel
theorem dX2_payNext_33 : decode cX2_payNext 33 = .ok (.aload_n 0, 1) := by decide +kernel
theorem dX2_payNext_34 : decode cX2_payNext 34 = .ok (.iload_n 2, 1) := by decide +kernel
theorem dX2_payNext_35 : decode cX2_payNext 35 = .ok (.invokevirtual 77, 3) := by decide +kernel
theorem dX2_payNext_38 : decode cX2_payNext 38 = .ok (.istore 8, 2) := by decide +kernel
theorem dX2_payNext_40 : decode cX2_payNext 40 = .ok (.aload_n 0, 1) := by decide +kernel
theorem dX2_payNext_41 : decode cX2_payNext 41 = .ok (.getfield 23, 3) := by decide +kernel
theorem dX2_payNext_44 : decode cX2_payNext 44 = .ok (.getfield 81, 3) := by decide +kernel
theorem dX2_payNext_47 : decode cX2_payNext 47 = .ok (.iload 8, 2) := by decide +kernel
theorem dX2_payNext_49 : decode cX2_payNext 49 = .ok (.isub, 1) := by decide +kernel
theorem dX2_payNext_50 : decode cX2_payNext 50 = .ok (.iconst 0, 1) := by decide +kernel
theorem dX2_payNext_51 : decode cX2_payNext 51 = .ok (.invokestatic 84, 3) := by decide +kernel
theorem dX2_payNext_54 : decode cX2_payNext 54 = .ok (.istore 9, 2) := by decide +kernel
theorem dX2_payNext_56 : decode cX2_payNext 56 = .ok (.aload_n 0, 1) := by decide +kernel
theorem dX2_payNext_57 : decode cX2_payNext 57 = .ok (.getfield 31, 3) := by decide +kernel
theorem dX2_payNext_60 : decode cX2_payNext 60 = .ok (.sipush 360, 3) := by decide +kernel
theorem dX2_payNext_63 : decode cX2_payNext 63 = .ok (.invokestatic 90, 3) := by decide +kernel
theorem dX2_payNext_66 : decode cX2_payNext 66 = .ok (.istore 10, 2) := by decide +kernel
theorem dX2_payNext_68 : decode cX2_payNext 68 = .ok (.iload_n 3, 1) := by decide +kernel
theorem dX2_payNext_69 : decode cX2_payNext 69 = .ok (.istore 11, 2) := by decide +kernel
theorem dX2_payNext_71 : decode cX2_payNext 71 = .ok (.iload 4, 2) := by decide +kernel
theorem dX2_payNext_73 : decode cX2_payNext 73 = .ok (.istore 12, 2) := by decide +kernel
theorem dX2_payNext_75 : decode cX2_payNext 75 = .ok (.iload 12, 2) := by decide +kernel
theorem dX2_payNext_77 : decode cX2_payNext 77 = .ok (.aload 6, 2) := by decide +kernel
theorem dX2_payNext_79 : decode cX2_payNext 79 = .ok (.iload 7, 2) := by decide +kernel
theorem dX2_payNext_81 : decode cX2_payNext 81 = .ok (.iaload, 1) := by decide +kernel
theorem dX2_payNext_82 : decode cX2_payNext 82 = .ok (.if_icmp .ge 59, 3) := by decide +kernel
theorem dX2_payNext_85 : decode cX2_payNext 85 = .ok (.iload 11, 2) := by decide +kernel
theorem dX2_payNext_87 : decode cX2_payNext 87 = .ok (.iload 10, 2) := by decide +kernel
theorem dX2_payNext_89 : decode cX2_payNext 89 = .ok (.if_icmp .ge 52, 3) := by decide +kernel
theorem dX2_payNext_92 : decode cX2_payNext 92 = .ok (.iload 12, 2) := by decide +kernel
theorem dX2_payNext_94 : decode cX2_payNext 94 = .ok (.iload 9, 2) := by decide +kernel
theorem dX2_payNext_96 : decode cX2_payNext 96 = .ok (.iload 10, 2) := by decide +kernel
theorem dX2_payNext_98 : decode cX2_payNext 98 = .ok (.iload 11, 2) := by decide +kernel
theorem dX2_payNext_100 : decode cX2_payNext 100 = .ok (.isub, 1) := by decide +kernel
theorem dX2_payNext_101 : decode cX2_payNext 101 = .ok (.imul, 1) := by decide +kernel
theorem dX2_payNext_102 : decode cX2_payNext 102 = .ok (.iadd, 1) := by decide +kernel
theorem dX2_payNext_103 : decode cX2_payNext 103 = .ok (.aload 6, 2) := by decide +kernel
theorem dX2_payNext_105 : decode cX2_payNext 105 = .ok (.iload 7, 2) := by decide +kernel
theorem dX2_payNext_107 : decode cX2_payNext 107 = .ok (.iaload, 1) := by decide +kernel
theorem dX2_payNext_108 : decode cX2_payNext 108 = .ok (.if_icmp .ge 4, 3) := by decide +kernel
theorem dX2_payNext_111 : decode cX2_payNext 111 = .ok (.return_, 1) := by decide +kernel
theorem dX2_payNext_112 : decode cX2_payNext 112 = .ok (.iload 12, 2) := by decide +kernel
theorem dX2_payNext_114 : decode cX2_payNext 114 = .ok (.aload_n 0, 1) := by decide +kernel
theorem dX2_payNext_115 : decode cX2_payNext 115 = .ok (.getfield 23, 3) := by decide +kernel
theorem dX2_payNext_118 : decode cX2_payNext 118 = .ok (.getfield 81, 3) := by decide +kernel
theorem dX2_payNext_121 : decode cX2_payNext 121 = .ok (.iload 8, 2) := by decide +kernel
theorem dX2_payNext_123 : decode cX2_payNext 123 = .ok (.invokestatic 93, 3) := by decide +kernel
theorem dX2_payNext_126 : decode cX2_payNext 126 = .ok (.istore 12, 2) := by decide +kernel
theorem dX2_payNext_128 : decode cX2_payNext 128 = .ok (.aload_n 0, 1) := by decide +kernel
theorem dX2_payNext_129 : decode cX2_payNext 129 = .ok (.aload 6, 2) := by decide +kernel
theorem dX2_payNext_131 : decode cX2_payNext 131 = .ok (.iload_n 2, 1) := by decide +kernel
theorem dX2_payNext_132 : decode cX2_payNext 132 = .ok (.invokevirtual 97, 3) := by decide +kernel
theorem dX2_payNext_135 : decode cX2_payNext 135 = .ok (.iinc 11 1, 3) := by decide +kernel
theorem dX2_payNext_138 : decode cX2_payNext 138 = .ok (.goto (-63), 3) := by decide +kernel
theorem dX2_payNext_141 : decode cX2_payNext 141 = .ok (.aload 6, 2) := by decide +kernel
theorem dX2_payNext_143 : decode cX2_payNext 143 = .ok (.iload 7, 2) := by decide +kernel
theorem dX2_payNext_145 : decode cX2_payNext 145 = .ok (.iaload, 1) := by decide +kernel
theorem dX2_payNext_146 : decode cX2_payNext 146 = .ok (.istore 13, 2) := by decide +kernel
theorem dX2_payNext_148 : decode cX2_payNext 148 = .ok (.iload 12, 2) := by decide +kernel
theorem dX2_payNext_150 : decode cX2_payNext 150 = .ok (.iload 13, 2) := by decide +kernel
theorem dX2_payNext_152 : decode cX2_payNext 152 = .ok (.if_icmp .lt 30, 3) := by decide +kernel
theorem dX2_payNext_155 : decode cX2_payNext 155 = .ok (.aload_n 0, 1) := by decide +kernel
theorem dX2_payNext_156 : decode cX2_payNext 156 = .ok (.iload_n 1, 1) := by decide +kernel
theorem dX2_payNext_157 : decode cX2_payNext 157 = .ok (.iconst 1, 1) := by decide +kernel
theorem dX2_payNext_158 : decode cX2_payNext 158 = .ok (.iadd, 1) := by decide +kernel
theorem dX2_payNext_159 : decode cX2_payNext 159 = .ok (.iload_n 2, 1) := by decide +kernel
theorem dX2_payNext_160 : decode cX2_payNext 160 = .ok (.iconst 1, 1) := by decide +kernel
theorem dX2_payNext_161 : decode cX2_payNext 161 = .ok (.iload 7, 2) := by decide +kernel
theorem dX2_payNext_163 : decode cX2_payNext 163 = .ok (.ishl, 1) := by decide +kernel
theorem dX2_payNext_164 : decode cX2_payNext 164 = .ok (.iconst (-1), 1) := by decide +kernel
theorem dX2_payNext_165 : decode cX2_payNext 165 = .ok (.ixor, 1) := by decide +kernel
theorem dX2_payNext_166 : decode cX2_payNext 166 = .ok (.iand, 1) := by decide +kernel
theorem dX2_payNext_167 : decode cX2_payNext 167 = .ok (.iload 11, 2) := by decide +kernel
theorem dX2_payNext_169 : decode cX2_payNext 169 = .ok (.iload 12, 2) := by decide +kernel
theorem dX2_payNext_171 : decode cX2_payNext 171 = .ok (.iload 13, 2) := by decide +kernel
theorem dX2_payNext_173 : decode cX2_payNext 173 = .ok (.isub, 1) := by decide +kernel
theorem dX2_payNext_174 : decode cX2_payNext 174 = .ok (.iload 5, 2) := by decide +kernel
theorem dX2_payNext_176 : decode cX2_payNext 176 = .ok (.iload 13, 2) := by decide +kernel
theorem dX2_payNext_178 : decode cX2_payNext 178 = .ok (.iadd, 1) := by decide +kernel
theorem dX2_payNext_179 : decode cX2_payNext 179 = .ok (.invokevirtual 55, 3) := by decide +kernel
theorem dX2_payNext_182 : decode cX2_payNext 182 = .ok (.return_, 1) := by decide +kernel
theorem dX2_taxesOf_0 : decode cX2_taxesOf 0 = .ok (.iconst 0, 1) := by decide +kernel
theorem dX2_taxesOf_1 : decode cX2_taxesOf 1 = .ok (.istore_n 2, 1) := by decide +kernel
theorem dX2_taxesOf_2 : decode cX2_taxesOf 2 = .ok (.iconst 0, 1) := by decide +kernel
theorem dX2_taxesOf_3 : decode cX2_taxesOf 3 = .ok (.istore_n 3, 1) := by decide +kernel
theorem dX2_taxesOf_4 : decode cX2_taxesOf 4 = .ok (.iload_n 3, 1) := by decide +kernel
theorem dX2_taxesOf_5 : decode cX2_taxesOf 5 = .ok (.aload_n 0, 1) := by decide +kernel
theorem dX2_taxesOf_6 : decode cX2_taxesOf 6 = .ok (.getfield 23, 3) := by decide +kernel
theorem dX2_taxesOf_9 : decode cX2_taxesOf 9 = .ok (.getfield 63, 3) := by decide +kernel
theorem dX2_taxesOf_12 : decode cX2_taxesOf 12 = .ok (.if_icmp .ge 37, 3) := by decide +kernel
theorem dX2_taxesOf_15 : decode cX2_taxesOf 15 = .ok (.iload_n 1, 1) := by decide +kernel
theorem dX2_taxesOf_16 : decode cX2_taxesOf 16 = .ok (.iload_n 3, 1) := by decide +kernel
theorem dX2_taxesOf_17 : decode cX2_taxesOf 17 = .ok (.invokestatic 66, 3) := by decide +kernel
theorem dX2_taxesOf_20 : decode cX2_taxesOf 20 = .ok (.ifCond .eq 23, 3) := by decide +kernel
theorem dX2_taxesOf_23 : decode cX2_taxesOf 23 = .ok (.iload_n 2, 1) := by decide +kernel
theorem dX2_taxesOf_24 : decode cX2_taxesOf 24 = .ok (.aload_n 0, 1) := by decide +kernel
theorem dX2_taxesOf_25 : decode cX2_taxesOf 25 = .ok (.getfield 23, 3) := by decide +kernel
theorem dX2_taxesOf_28 : decode cX2_taxesOf 28 = .ok (.getfield 101, 3) := by decide +kernel
theorem dX2_taxesOf_31 : decode cX2_taxesOf 31 = .ok (.aload_n 0, 1) := by decide +kernel
theorem dX2_taxesOf_32 : decode cX2_taxesOf 32 = .ok (.getfield 23, 3) := by decide +kernel
theorem dX2_taxesOf_35 : decode cX2_taxesOf 35 = .ok (.getfield 104, 3) := by decide +kernel
theorem dX2_taxesOf_38 : decode cX2_taxesOf 38 = .ok (.iload_n 3, 1) := by decide +kernel
theorem dX2_taxesOf_39 : decode cX2_taxesOf 39 = .ok (.iaload, 1) := by decide +kernel
theorem dX2_taxesOf_40 : decode cX2_taxesOf 40 = .ok (.iaload, 1) := by decide +kernel
theorem dX2_taxesOf_41 : decode cX2_taxesOf 41 = .ok (.iadd, 1) := by decide +kernel
theorem dX2_taxesOf_42 : decode cX2_taxesOf 42 = .ok (.istore_n 2, 1) := by decide +kernel
theorem dX2_taxesOf_43 : decode cX2_taxesOf 43 = .ok (.iinc 3 1, 3) := by decide +kernel
theorem dX2_taxesOf_46 : decode cX2_taxesOf 46 = .ok (.goto (-42), 3) := by decide +kernel
theorem dX2_taxesOf_49 : decode cX2_taxesOf 49 = .ok (.iload_n 2, 1) := by decide +kernel
theorem dX2_taxesOf_50 : decode cX2_taxesOf 50 = .ok (.ireturn, 1) := by decide +kernel
theorem dX2_growAmounts_0 : decode cX2_growAmounts 0 = .ok (.iconst 0, 1) := by decide +kernel
theorem dX2_growAmounts_1 : decode cX2_growAmounts 1 = .ok (.istore_n 3, 1) := by decide +kernel
theorem dX2_growAmounts_2 : decode cX2_growAmounts 2 = .ok (.iload_n 3, 1) := by decide +kernel
theorem dX2_growAmounts_3 : decode cX2_growAmounts 3 = .ok (.aload_n 0, 1) := by decide +kernel
theorem dX2_growAmounts_4 : decode cX2_growAmounts 4 = .ok (.getfield 23, 3) := by decide +kernel
theorem dX2_growAmounts_7 : decode cX2_growAmounts 7 = .ok (.getfield 63, 3) := by decide +kernel
theorem dX2_growAmounts_10 : decode cX2_growAmounts 10 = .ok (.if_icmp .ge 35, 3) := by decide +kernel
theorem dX2_growAmounts_13 : decode cX2_growAmounts 13 = .ok (.iload_n 2, 1) := by decide +kernel
theorem dX2_growAmounts_14 : decode cX2_growAmounts 14 = .ok (.iload_n 3, 1) := by decide +kernel
theorem dX2_growAmounts_15 : decode cX2_growAmounts 15 = .ok (.invokestatic 66, 3) := by decide +kernel
theorem dX2_growAmounts_18 : decode cX2_growAmounts 18 = .ok (.ifCond .eq 21, 3) := by decide +kernel
theorem dX2_growAmounts_21 : decode cX2_growAmounts 21 = .ok (.aload_n 1, 1) := by decide +kernel
theorem dX2_growAmounts_22 : decode cX2_growAmounts 22 = .ok (.iload_n 3, 1) := by decide +kernel
theorem dX2_growAmounts_23 : decode cX2_growAmounts 23 = .ok (.aload_n 1, 1) := by decide +kernel
theorem dX2_growAmounts_24 : decode cX2_growAmounts 24 = .ok (.iload_n 3, 1) := by decide +kernel
theorem dX2_growAmounts_25 : decode cX2_growAmounts 25 = .ok (.iaload, 1) := by decide +kernel
theorem dX2_growAmounts_26 : decode cX2_growAmounts 26 = .ok (.aload_n 0, 1) := by decide +kernel
theorem dX2_growAmounts_27 : decode cX2_growAmounts 27 = .ok (.getfield 23, 3) := by decide +kernel
theorem dX2_growAmounts_30 : decode cX2_growAmounts 30 = .ok (.getfield 107, 3) := by decide +kernel
theorem dX2_growAmounts_33 : decode cX2_growAmounts 33 = .ok (.iload_n 3, 1) := by decide +kernel
theorem dX2_growAmounts_34 : decode cX2_growAmounts 34 = .ok (.iaload, 1) := by decide +kernel
theorem dX2_growAmounts_35 : decode cX2_growAmounts 35 = .ok (.invokestatic 110, 3) := by decide +kernel
theorem dX2_growAmounts_38 : decode cX2_growAmounts 38 = .ok (.iastore, 1) := by decide +kernel
theorem dX2_growAmounts_39 : decode cX2_growAmounts 39 = .ok (.iinc 3 1, 3) := by decide +kernel
theorem dX2_growAmounts_42 : decode cX2_growAmounts 42 = .ok (.goto (-40), 3) := by decide +kernel
theorem dX2_growAmounts_45 : decode cX2_growAmounts 45 = .ok (.return_, 1) := by decide +kernel
theorem dX2_keepIfBetter_0 : decode cX2_keepIfBetter 0 = .ok (.iload_n 2, 1) := by decide +kernel
theorem dX2_keepIfBetter_1 : decode cX2_keepIfBetter 1 = .ok (.aload_n 0, 1) := by decide +kernel
theorem dX2_keepIfBetter_2 : decode cX2_keepIfBetter 2 = .ok (.getfield 31, 3) := by decide +kernel
theorem dX2_keepIfBetter_5 : decode cX2_keepIfBetter 5 = .ok (.if_icmp .lt 19, 3) := by decide +kernel
theorem dX2_keepIfBetter_8 : decode cX2_keepIfBetter 8 = .ok (.iload_n 2, 1) := by decide +kernel
theorem dX2_keepIfBetter_9 : decode cX2_keepIfBetter 9 = .ok (.aload_n 0, 1) := by decide +kernel
theorem dX2_keepIfBetter_10 : decode cX2_keepIfBetter 10 = .ok (.getfield 31, 3) := by decide +kernel
theorem dX2_keepIfBetter_13 : decode cX2_keepIfBetter 13 = .ok (.if_icmp .ne 35, 3) := by decide +kernel
theorem dX2_keepIfBetter_16 : decode cX2_keepIfBetter 16 = .ok (.iload_n 3, 1) := by decide +kernel
theorem dX2_keepIfBetter_17 : decode cX2_keepIfBetter 17 = .ok (.aload_n 0, 1) := by decide +kernel
theorem dX2_keepIfBetter_18 : decode cX2_keepIfBetter 18 = .ok (.getfield 34, 3) := by decide +kernel
theorem dX2_keepIfBetter_21 : decode cX2_keepIfBetter 21 = .ok (.if_icmp .ge 27, 3) := by decide +kernel
theorem dX2_keepIfBetter_24 : decode cX2_keepIfBetter 24 = .ok (.aload_n 0, 1) := by decide +kernel
theorem dX2_keepIfBetter_25 : decode cX2_keepIfBetter 25 = .ok (.iload_n 2, 1) := by decide +kernel
theorem dX2_keepIfBetter_26 : decode cX2_keepIfBetter 26 = .ok (.putfield 31, 3) := by decide +kernel
theorem dX2_keepIfBetter_29 : decode cX2_keepIfBetter 29 = .ok (.aload_n 0, 1) := by decide +kernel
theorem dX2_keepIfBetter_30 : decode cX2_keepIfBetter 30 = .ok (.iload_n 3, 1) := by decide +kernel
theorem dX2_keepIfBetter_31 : decode cX2_keepIfBetter 31 = .ok (.putfield 34, 3) := by decide +kernel
theorem dX2_keepIfBetter_34 : decode cX2_keepIfBetter 34 = .ok (.aload_n 0, 1) := by decide +kernel
theorem dX2_keepIfBetter_35 : decode cX2_keepIfBetter 35 = .ok (.getfield 16, 3) := by decide +kernel
theorem dX2_keepIfBetter_38 : decode cX2_keepIfBetter 38 = .ok (.iconst 0, 1) := by decide +kernel
theorem dX2_keepIfBetter_39 : decode cX2_keepIfBetter 39 = .ok (.aload_n 0, 1) := by decide +kernel
theorem dX2_keepIfBetter_40 : decode cX2_keepIfBetter 40 = .ok (.getfield 20, 3) := by decide +kernel
theorem dX2_keepIfBetter_43 : decode cX2_keepIfBetter 43 = .ok (.iconst 0, 1) := by decide +kernel
theorem dX2_keepIfBetter_44 : decode cX2_keepIfBetter 44 = .ok (.iload_n 1, 1) := by decide +kernel
theorem dX2_keepIfBetter_45 : decode cX2_keepIfBetter 45 = .ok (.invokestatic 42, 3) := by decide +kernel
theorem dX2_keepIfBetter_48 : decode cX2_keepIfBetter 48 = .ok (.return_, 1) := by decide +kernel
end
section
/-! ===== null, and the script, as locals ===== -/
section NULLS
variable {M : MR} {sx : Scr} {d mc ms n0 : Nat} {Q : Post} {pc np tg : Nat} {L st : List Value} {sh : List Shp} {me : Mem} {cs sl : Nat}
theorem wl_aload_nN {i : Nat} {j : Fin 4} (hd : decode M.2.1 pc = .ok (.aload_n j, 1)) (hn : pc + 1 = np) (hj : (j : Nat) = i) (hv : L[i]? = some .null) (k : Wa M sx d mc ms n0 Q np L (.null :: st) sh me cs sl) : Wa M sx d mc ms n0 Q pc L st sh me cs sl := by
  subst hn
  intro l p e R s m args below meth c D cA adr0 A Z C adr H locs ls he hP hD hS hL
  exact lv_aload_nN C.1.1 C.1.2.1 hd hj (hL.get hv (fun h => by cases h)) (k l p e R s m args below meth c D cA adr0 A Z C adr H locs ls he hP hD hS hL)
theorem wl_aload_nS {i z : Nat} {j : Fin 4} (hd : decode M.2.1 pc = .ok (.aload_n j, 1)) (hn : pc + 1 = np) (hj : (j : Nat) = i) (hv : L[i]? = some (.retAddr z)) (k : Wa M sx d mc ms n0 Q np L (.retAddr z :: st) sh me cs sl) : Wa M sx d mc ms n0 Q pc L st sh me cs sl := by
  subst hn
  intro l p e R s m args below meth c D cA adr0 A Z C adr H locs ls he hP hD hS hL
  exact lv_aload_n C.1.1 C.1.2.1 hd hj (hL.get hv (fun h => by cases h)) (k l p e R s m args below meth c D cA adr0 A Z C adr H locs ls he hP hD hS hL)
theorem wl_aloadN {i : Nat} (hd : decode M.2.1 pc = .ok (.aload i, 2)) (hn : pc + 2 = np) (hv : L[i]? = some .null) (k : Wa M sx d mc ms n0 Q np L (.null :: st) sh me cs sl) : Wa M sx d mc ms n0 Q pc L st sh me cs sl := by
  subst hn
  intro l p e R s m args below meth c D cA adr0 A Z C adr H locs ls he hP hD hS hL
  exact lv_aloadN C.1.1 C.1.2.1 hd (hL.get hv (fun h => by cases h)) (k l p e R s m args below meth c D cA adr0 A Z C adr H locs ls he hP hD hS hL)
theorem wl_aloadS {i z : Nat} (hd : decode M.2.1 pc = .ok (.aload i, 2)) (hn : pc + 2 = np) (hv : L[i]? = some (.retAddr z)) (k : Wa M sx d mc ms n0 Q np L (.retAddr z :: st) sh me cs sl) : Wa M sx d mc ms n0 Q pc L st sh me cs sl := by
  subst hn
  intro l p e R s m args below meth c D cA adr0 A Z C adr H locs ls he hP hD hS hL
  exact lv_aload C.1.1 C.1.2.1 hd (hL.get hv (fun h => by cases h)) (k l p e R s m args below meth c D cA adr0 A Z C adr H locs ls he hP hD hS hL)
theorem wl_astore_nN {i : Nat} {j : Fin 4} (hd : decode M.2.1 pc = .ok (.astore_n j, 1)) (hn : pc + 1 = np) (hj : (j : Nat) = i) (hi : i < M.2.2.1) (hp : ∀ w, 0 < i → L[i - 1]? = some w → w.category = 1) (k : Wa M sx d mc ms n0 Q np (L.set i .null) st sh me cs sl) : Wa M sx d mc ms n0 Q pc L (.null :: st) sh me cs sl := by
  subst hn
  intro l p e R s m args below meth c D cA adr0 A Z C adr H locs ls he hP hD hS hL
  exact lv_astore_nN C.1.1 C.1.2.1 hd hj hL.has hi rfl (fun ls' hl' => k l p e R s m args below meth c D cA adr0 A Z C adr H locs ls' he hP hD hS (Lr.set1 (v := .null) hl' hp))
theorem wl_astoreN {i : Nat} (hd : decode M.2.1 pc = .ok (.astore i, 2)) (hn : pc + 2 = np) (hi : i < M.2.2.1) (hp : ∀ w, 0 < i → L[i - 1]? = some w → w.category = 1) (k : Wa M sx d mc ms n0 Q np (L.set i .null) st sh me cs sl) : Wa M sx d mc ms n0 Q pc L (.null :: st) sh me cs sl := by
  subst hn
  intro l p e R s m args below meth c D cA adr0 A Z C adr H locs ls he hP hD hS hL
  exact lv_astoreN C.1.1 C.1.2.1 hd hL.has hi rfl (fun ls' hl' => k l p e R s m args below meth c D cA adr0 A Z C adr H locs ls' he hP hD hS (Lr.set1 (v := .null) hl' hp))
theorem ldN_a0 (hd : decode M.2.1 pc = .ok (.aload_n 0, 1)) (hn : pc + 1 = np) (k : Wa M sx d mc ms n0 Q np (.null :: L) (.null :: st) sh me cs sl) : Wa M sx d mc ms n0 Q pc (.null :: L) st sh me cs sl := wl_aload_nN (i := 0) hd hn rfl rfl k
theorem ldS_a0 {z : Nat} (hd : decode M.2.1 pc = .ok (.aload_n 0, 1)) (hn : pc + 1 = np) (k : Wa M sx d mc ms n0 Q np (.retAddr z :: L) (.retAddr z :: st) sh me cs sl) : Wa M sx d mc ms n0 Q pc (.retAddr z :: L) st sh me cs sl := wl_aload_nS (i := 0) hd hn rfl rfl k
theorem stN_a0 {v : Value} (hd : decode M.2.1 pc = .ok (.astore_n 0, 1)) (hn : pc + 1 = np) (hi : 0 < M.2.2.1) (k : Wa M sx d mc ms n0 Q np (.null :: L) st sh me cs sl) : Wa M sx d mc ms n0 Q pc (v :: L) (.null :: st) sh me cs sl := wl_astore_nN (i := 0) hd hn rfl hi (fun w0 h0 => absurd h0 (Nat.lt_irrefl 0)) k
theorem ldN_a1 {a0 : Value} (hd : decode M.2.1 pc = .ok (.aload_n 1, 1)) (hn : pc + 1 = np) (k : Wa M sx d mc ms n0 Q np (a0 :: .null :: L) (.null :: st) sh me cs sl) : Wa M sx d mc ms n0 Q pc (a0 :: .null :: L) st sh me cs sl := wl_aload_nN (i := 1) hd hn rfl rfl k
theorem ldS_a1 {a0 : Value} {z : Nat} (hd : decode M.2.1 pc = .ok (.aload_n 1, 1)) (hn : pc + 1 = np) (k : Wa M sx d mc ms n0 Q np (a0 :: .retAddr z :: L) (.retAddr z :: st) sh me cs sl) : Wa M sx d mc ms n0 Q pc (a0 :: .retAddr z :: L) st sh me cs sl := wl_aload_nS (i := 1) hd hn rfl rfl k
theorem stN_a1 {a0 : Value} {v : Value} (hd : decode M.2.1 pc = .ok (.astore_n 1, 1)) (hn : pc + 1 = np) (hi : 1 < M.2.2.1) (hp : a0.category = 1) (k : Wa M sx d mc ms n0 Q np (a0 :: .null :: L) st sh me cs sl) : Wa M sx d mc ms n0 Q pc (a0 :: v :: L) (.null :: st) sh me cs sl := wl_astore_nN (i := 1) hd hn rfl hi (fun w0 h0 hw => by cases (Option.some.inj hw); exact hp) k
theorem ldN_a2 {a0 a1 : Value} (hd : decode M.2.1 pc = .ok (.aload_n 2, 1)) (hn : pc + 1 = np) (k : Wa M sx d mc ms n0 Q np (a0 :: a1 :: .null :: L) (.null :: st) sh me cs sl) : Wa M sx d mc ms n0 Q pc (a0 :: a1 :: .null :: L) st sh me cs sl := wl_aload_nN (i := 2) hd hn rfl rfl k
theorem ldS_a2 {a0 a1 : Value} {z : Nat} (hd : decode M.2.1 pc = .ok (.aload_n 2, 1)) (hn : pc + 1 = np) (k : Wa M sx d mc ms n0 Q np (a0 :: a1 :: .retAddr z :: L) (.retAddr z :: st) sh me cs sl) : Wa M sx d mc ms n0 Q pc (a0 :: a1 :: .retAddr z :: L) st sh me cs sl := wl_aload_nS (i := 2) hd hn rfl rfl k
theorem stN_a2 {a0 a1 : Value} {v : Value} (hd : decode M.2.1 pc = .ok (.astore_n 2, 1)) (hn : pc + 1 = np) (hi : 2 < M.2.2.1) (hp : a1.category = 1) (k : Wa M sx d mc ms n0 Q np (a0 :: a1 :: .null :: L) st sh me cs sl) : Wa M sx d mc ms n0 Q pc (a0 :: a1 :: v :: L) (.null :: st) sh me cs sl := wl_astore_nN (i := 2) hd hn rfl hi (fun w0 h0 hw => by cases (Option.some.inj hw); exact hp) k
theorem ldN_a3 {a0 a1 a2 : Value} (hd : decode M.2.1 pc = .ok (.aload_n 3, 1)) (hn : pc + 1 = np) (k : Wa M sx d mc ms n0 Q np (a0 :: a1 :: a2 :: .null :: L) (.null :: st) sh me cs sl) : Wa M sx d mc ms n0 Q pc (a0 :: a1 :: a2 :: .null :: L) st sh me cs sl := wl_aload_nN (i := 3) hd hn rfl rfl k
theorem ldS_a3 {a0 a1 a2 : Value} {z : Nat} (hd : decode M.2.1 pc = .ok (.aload_n 3, 1)) (hn : pc + 1 = np) (k : Wa M sx d mc ms n0 Q np (a0 :: a1 :: a2 :: .retAddr z :: L) (.retAddr z :: st) sh me cs sl) : Wa M sx d mc ms n0 Q pc (a0 :: a1 :: a2 :: .retAddr z :: L) st sh me cs sl := wl_aload_nS (i := 3) hd hn rfl rfl k
theorem stN_a3 {a0 a1 a2 : Value} {v : Value} (hd : decode M.2.1 pc = .ok (.astore_n 3, 1)) (hn : pc + 1 = np) (hi : 3 < M.2.2.1) (hp : a2.category = 1) (k : Wa M sx d mc ms n0 Q np (a0 :: a1 :: a2 :: .null :: L) st sh me cs sl) : Wa M sx d mc ms n0 Q pc (a0 :: a1 :: a2 :: v :: L) (.null :: st) sh me cs sl := wl_astore_nN (i := 3) hd hn rfl hi (fun w0 h0 hw => by cases (Option.some.inj hw); exact hp) k
theorem ldN_a4 {a0 a1 a2 a3 : Value} (hd : decode M.2.1 pc = .ok (.aload 4, 2)) (hn : pc + 2 = np) (k : Wa M sx d mc ms n0 Q np (a0 :: a1 :: a2 :: a3 :: .null :: L) (.null :: st) sh me cs sl) : Wa M sx d mc ms n0 Q pc (a0 :: a1 :: a2 :: a3 :: .null :: L) st sh me cs sl := wl_aloadN (i := 4) hd hn rfl k
theorem ldS_a4 {a0 a1 a2 a3 : Value} {z : Nat} (hd : decode M.2.1 pc = .ok (.aload 4, 2)) (hn : pc + 2 = np) (k : Wa M sx d mc ms n0 Q np (a0 :: a1 :: a2 :: a3 :: .retAddr z :: L) (.retAddr z :: st) sh me cs sl) : Wa M sx d mc ms n0 Q pc (a0 :: a1 :: a2 :: a3 :: .retAddr z :: L) st sh me cs sl := wl_aloadS (i := 4) hd hn rfl k
theorem stN_a4 {a0 a1 a2 a3 : Value} {v : Value} (hd : decode M.2.1 pc = .ok (.astore 4, 2)) (hn : pc + 2 = np) (hi : 4 < M.2.2.1) (hp : a3.category = 1) (k : Wa M sx d mc ms n0 Q np (a0 :: a1 :: a2 :: a3 :: .null :: L) st sh me cs sl) : Wa M sx d mc ms n0 Q pc (a0 :: a1 :: a2 :: a3 :: v :: L) (.null :: st) sh me cs sl := wl_astoreN (i := 4) hd hn hi (fun w0 h0 hw => by cases (Option.some.inj hw); exact hp) k
theorem ldN_a5 {a0 a1 a2 a3 a4 : Value} (hd : decode M.2.1 pc = .ok (.aload 5, 2)) (hn : pc + 2 = np) (k : Wa M sx d mc ms n0 Q np (a0 :: a1 :: a2 :: a3 :: a4 :: .null :: L) (.null :: st) sh me cs sl) : Wa M sx d mc ms n0 Q pc (a0 :: a1 :: a2 :: a3 :: a4 :: .null :: L) st sh me cs sl := wl_aloadN (i := 5) hd hn rfl k
theorem ldS_a5 {a0 a1 a2 a3 a4 : Value} {z : Nat} (hd : decode M.2.1 pc = .ok (.aload 5, 2)) (hn : pc + 2 = np) (k : Wa M sx d mc ms n0 Q np (a0 :: a1 :: a2 :: a3 :: a4 :: .retAddr z :: L) (.retAddr z :: st) sh me cs sl) : Wa M sx d mc ms n0 Q pc (a0 :: a1 :: a2 :: a3 :: a4 :: .retAddr z :: L) st sh me cs sl := wl_aloadS (i := 5) hd hn rfl k
theorem stN_a5 {a0 a1 a2 a3 a4 : Value} {v : Value} (hd : decode M.2.1 pc = .ok (.astore 5, 2)) (hn : pc + 2 = np) (hi : 5 < M.2.2.1) (hp : a4.category = 1) (k : Wa M sx d mc ms n0 Q np (a0 :: a1 :: a2 :: a3 :: a4 :: .null :: L) st sh me cs sl) : Wa M sx d mc ms n0 Q pc (a0 :: a1 :: a2 :: a3 :: a4 :: v :: L) (.null :: st) sh me cs sl := wl_astoreN (i := 5) hd hn hi (fun w0 h0 hw => by cases (Option.some.inj hw); exact hp) k
theorem ldN_a6 {a0 a1 a2 a3 a4 a5 : Value} (hd : decode M.2.1 pc = .ok (.aload 6, 2)) (hn : pc + 2 = np) (k : Wa M sx d mc ms n0 Q np (a0 :: a1 :: a2 :: a3 :: a4 :: a5 :: .null :: L) (.null :: st) sh me cs sl) : Wa M sx d mc ms n0 Q pc (a0 :: a1 :: a2 :: a3 :: a4 :: a5 :: .null :: L) st sh me cs sl := wl_aloadN (i := 6) hd hn rfl k
theorem ldS_a6 {a0 a1 a2 a3 a4 a5 : Value} {z : Nat} (hd : decode M.2.1 pc = .ok (.aload 6, 2)) (hn : pc + 2 = np) (k : Wa M sx d mc ms n0 Q np (a0 :: a1 :: a2 :: a3 :: a4 :: a5 :: .retAddr z :: L) (.retAddr z :: st) sh me cs sl) : Wa M sx d mc ms n0 Q pc (a0 :: a1 :: a2 :: a3 :: a4 :: a5 :: .retAddr z :: L) st sh me cs sl := wl_aloadS (i := 6) hd hn rfl k
theorem stN_a6 {a0 a1 a2 a3 a4 a5 : Value} {v : Value} (hd : decode M.2.1 pc = .ok (.astore 6, 2)) (hn : pc + 2 = np) (hi : 6 < M.2.2.1) (hp : a5.category = 1) (k : Wa M sx d mc ms n0 Q np (a0 :: a1 :: a2 :: a3 :: a4 :: a5 :: .null :: L) st sh me cs sl) : Wa M sx d mc ms n0 Q pc (a0 :: a1 :: a2 :: a3 :: a4 :: a5 :: v :: L) (.null :: st) sh me cs sl := wl_astoreN (i := 6) hd hn hi (fun w0 h0 hw => by cases (Option.some.inj hw); exact hp) k
theorem ldN_a7 {a0 a1 a2 a3 a4 a5 a6 : Value} (hd : decode M.2.1 pc = .ok (.aload 7, 2)) (hn : pc + 2 = np) (k : Wa M sx d mc ms n0 Q np (a0 :: a1 :: a2 :: a3 :: a4 :: a5 :: a6 :: .null :: L) (.null :: st) sh me cs sl) : Wa M sx d mc ms n0 Q pc (a0 :: a1 :: a2 :: a3 :: a4 :: a5 :: a6 :: .null :: L) st sh me cs sl := wl_aloadN (i := 7) hd hn rfl k
theorem ldS_a7 {a0 a1 a2 a3 a4 a5 a6 : Value} {z : Nat} (hd : decode M.2.1 pc = .ok (.aload 7, 2)) (hn : pc + 2 = np) (k : Wa M sx d mc ms n0 Q np (a0 :: a1 :: a2 :: a3 :: a4 :: a5 :: a6 :: .retAddr z :: L) (.retAddr z :: st) sh me cs sl) : Wa M sx d mc ms n0 Q pc (a0 :: a1 :: a2 :: a3 :: a4 :: a5 :: a6 :: .retAddr z :: L) st sh me cs sl := wl_aloadS (i := 7) hd hn rfl k
theorem stN_a7 {a0 a1 a2 a3 a4 a5 a6 : Value} {v : Value} (hd : decode M.2.1 pc = .ok (.astore 7, 2)) (hn : pc + 2 = np) (hi : 7 < M.2.2.1) (hp : a6.category = 1) (k : Wa M sx d mc ms n0 Q np (a0 :: a1 :: a2 :: a3 :: a4 :: a5 :: a6 :: .null :: L) st sh me cs sl) : Wa M sx d mc ms n0 Q pc (a0 :: a1 :: a2 :: a3 :: a4 :: a5 :: a6 :: v :: L) (.null :: st) sh me cs sl := wl_astoreN (i := 7) hd hn hi (fun w0 h0 hw => by cases (Option.some.inj hw); exact hp) k
theorem ldN_a8 {a0 a1 a2 a3 a4 a5 a6 a7 : Value} (hd : decode M.2.1 pc = .ok (.aload 8, 2)) (hn : pc + 2 = np) (k : Wa M sx d mc ms n0 Q np (a0 :: a1 :: a2 :: a3 :: a4 :: a5 :: a6 :: a7 :: .null :: L) (.null :: st) sh me cs sl) : Wa M sx d mc ms n0 Q pc (a0 :: a1 :: a2 :: a3 :: a4 :: a5 :: a6 :: a7 :: .null :: L) st sh me cs sl := wl_aloadN (i := 8) hd hn rfl k
theorem ldS_a8 {a0 a1 a2 a3 a4 a5 a6 a7 : Value} {z : Nat} (hd : decode M.2.1 pc = .ok (.aload 8, 2)) (hn : pc + 2 = np) (k : Wa M sx d mc ms n0 Q np (a0 :: a1 :: a2 :: a3 :: a4 :: a5 :: a6 :: a7 :: .retAddr z :: L) (.retAddr z :: st) sh me cs sl) : Wa M sx d mc ms n0 Q pc (a0 :: a1 :: a2 :: a3 :: a4 :: a5 :: a6 :: a7 :: .retAddr z :: L) st sh me cs sl := wl_aloadS (i := 8) hd hn rfl k
theorem stN_a8 {a0 a1 a2 a3 a4 a5 a6 a7 : Value} {v : Value} (hd : decode M.2.1 pc = .ok (.astore 8, 2)) (hn : pc + 2 = np) (hi : 8 < M.2.2.1) (hp : a7.category = 1) (k : Wa M sx d mc ms n0 Q np (a0 :: a1 :: a2 :: a3 :: a4 :: a5 :: a6 :: a7 :: .null :: L) st sh me cs sl) : Wa M sx d mc ms n0 Q pc (a0 :: a1 :: a2 :: a3 :: a4 :: a5 :: a6 :: a7 :: v :: L) (.null :: st) sh me cs sl := wl_astoreN (i := 8) hd hn hi (fun w0 h0 hw => by cases (Option.some.inj hw); exact hp) k
end NULLS
end
section
/-! ===== rings ===== -/
def isB (sh : List Shp) (me : Mem) (r : Nat) : Prop := sh[r]? = some (.inl 0) ∧ sh[r + 1]? = some (.inr (0, 3)) ∧ gR me r 0 = some (r + 1)
theorem isB.of {sh : List Shp} {me m : Mem} {r : Nat} (h : isB sh me r) (h2 : m.2 = me.2) : isB sh m r := by
  unfold isB gR at *
  rw [h2]
  exact h
def lastL (P : Prs) : Int32 := ((P.2.1[P.2.1.length - 1]?).getD (0, 0, 0, 0)).1
/-- how much less tax T pays for G's outermost coat -/
def gainS (T G : Prs) : Int32 := if T.2.1.length = 0 ∨ G.2.1.length = 0 then 0 else T.2.2 (lastL T).toNatClampNeg - T.2.2 (lastL G).toNatClampNeg
def sav2 (F S : Prs) : Int32 := if 0 < gainS F S ∧ 0 < gainS S F then gainS F S + gainS S F else 0
def sav3 (F S T : Prs) : Int32 := if 0 < gainS F T ∧ 0 < gainS S F ∧ 0 < gainS T S then gainS F T + gainS S F + gainS T S else 0
/-- saved, size, the three -/
abbrev Bst : Type := Int32 × Int32 × Int32 × Int32 × Int32
def RepB (me : Mem) (r : Nat) (B : Bst) : Prop := gI me r 2 = B.1 ∧ gI me r 1 = B.2.1 ∧ (B.2.1 ≠ 0 → gI me (r + 1) 0 = B.2.2.1 ∧ gI me (r + 1) 1 = B.2.2.2.1 ∧ gI me (r + 1) 2 = B.2.2.2.2)
def keepS (B : Bst) (s n a b c : Int32) : Bst := if B.1 < s then (s, n, a, b, c) else B
def keepM (me : Mem) (r : Nat) (s n a b c : Int32) : Mem := if gI me r 2 < s then uI (uI (uI (uI (uI me r 2 s) r 1 n) (r + 1) 0 a) (r + 1) 1 b) (r + 1) 2 c else me
theorem rep_keep {me : Mem} {r : Nat} {B : Bst} (h : RepB me r B) (s n a b c : Int32) : RepB (keepM me r s n a b c) r (keepS B s n a b c) := by
  obtain ⟨h1, h2, h3⟩ := h
  unfold keepM keepS
  rw [h1]
  split
  · refine ⟨?_, ?_, fun _ => ⟨?_, ?_, ?_⟩⟩ <;> simp only [gI_uI] <;> simp
  · exact ⟨h1, h2, h3⟩
theorem onl_keep (me : Mem) (r : Nat) (s n a b c : Int32) : Onl me (keepM me r s n a b c) r (r + 2) := by
  unfold keepM
  split
  · refine ⟨rfl, fun x hx => funext fun y => ?_⟩
    show gI (uI (uI (uI (uI (uI me r 2 s) r 1 n) (r + 1) 0 a) (r + 1) 1 b) (r + 1) 2 c) x y = gI me x y
    rw [gI_uI, if_neg (by omega), gI_uI, if_neg (by omega), gI_uI, if_neg (by omega), gI_uI, if_neg (by omega), gI_uI, if_neg (by omega)]
  · exact Onl.rf
section RING
variable {sh : List Shp} {me : Mem} {d q q2 q3 r : Nat} {P P2 P3 : Prs}
set_option maxHeartbeats 4000000 in
set_option maxRecDepth 100000 in
theorem c_gain (hq : isP sh me q) (hq2 : isP sh me q2) (hP : RepP me q P) (hP2 : RepP me q2 P2) (hl : lenP P) (hl2 : lenP P2) : CI d mX0_gain sh [.ref q, .ref q2] me (fun x m => x = gainS P P2 ∧ m = me) := by
  obtain ⟨s0, s1, s2, s3, s4, s5, r0, r1, r2, r3, r4⟩ := hq
  obtain ⟨t0, t1, t2, t3, t4, t5, u0, u1, u2, u3, u4⟩ := hq2
  have hw := hP.2.2.2.2.1
  have h8 := hP.2.2.2.2.2.1
  have hw2 := hP2.2.2.2.2.1
  have h82 := hP2.2.2.2.2.2.1
  refine CI.mk (L := [.ref q, .ref q2, .float 0, .float 0]) (by decide) (Nat.le_of_ble_eq_true rfl) rfl ?_
  refine ld_a0 (np := 1) dX0_gain_0 rfl ?_
  refine wl_geti (np := 4) dX0_gain_1 rfl fl_X0_45 (by decide) (by assumption) ?_
  refine wl_iconst (np := 5) (v := 1) dX0_gain_4 rfl (rfl) ?_
  refine wl_icmp_lt (np := 8) (tg := 16) dX0_gain_5 rfl rfl (fun c_5 => ?_) (fun c_5 => ?_)
  · rw [hw, show (1 : Int32) = nI 1 from rfl, nI_ltI (by omega) (by decide)] at c_5
    refine wl_iconst (np := 17) (v := 0) dX0_gain_16 rfl (rfl) ?_
    refine wi_ret dX0_gain_17 rfl (rfl) (Nat.le_refl _) (Nat.le_refl _) ?_
    exact ⟨by unfold gainS; rw [if_pos (by omega)], rfl⟩
  · rw [hw, show (1 : Int32) = nI 1 from rfl, nI_ltI (by omega) (by decide)] at c_5
    refine ld_a1 (np := 9) dX0_gain_8 rfl ?_
    refine wl_geti (np := 12) dX0_gain_9 rfl fl_X0_45 (by decide) (by assumption) ?_
    refine wl_iconst (np := 13) (v := 1) dX0_gain_12 rfl (rfl) ?_
    refine wl_icmp_ge (np := 16) (tg := 18) dX0_gain_13 rfl rfl (fun c_13 => ?_) (fun c_13 => ?_)
    · rw [hw2, show (1 : Int32) = nI 1 from rfl, nI_leI (by decide) (by omega)] at c_13
      have e1 : gI me q 5 - 1 = nI (P.2.1.length - 1) := by rw [hw]; exact pk_sub (b := 1) (by omega)
      have e2 : gI me q2 5 - 1 = nI (P2.2.1.length - 1) := by rw [hw2]; exact pk_sub (b := 1) (by omega)
      obtain ⟨co, hco⟩ := hP.lt (c := P.2.1.length - 1) (by omega)
      obtain ⟨co2, hco2⟩ := hP2.lt (c := P2.2.1.length - 1) (by omega)
      obtain ⟨l, hl5, el⟩ := hl co (List.mem_of_getElem? hco)
      obtain ⟨l2, hl52, el2⟩ := hl2 co2 (List.mem_of_getElem? hco2)
      have f1 : gI me (q + 1) (P.2.1.length - 1) = nI l := (hP.2.2.2.2.2.2.1 _ co hco).1.trans el
      have f2 : gI me (q2 + 1) (P2.2.1.length - 1) = nI l2 := (hP2.2.2.2.2.2.2.1 _ co2 hco2).1.trans el2
      refine ld_a0 (np := 19) dX0_gain_18 rfl ?_
      refine wl_getr (np := 22) dX0_gain_19 rfl fl_X0_50 rfl (by assumption) (by assumption) ?_
      refine ld_a0 (np := 23) dX0_gain_22 rfl ?_
      refine wl_geti (np := 26) dX0_gain_23 rfl fl_X0_45 (by decide) (by assumption) ?_
      refine wl_iconst (np := 27) (v := 1) dX0_gain_26 rfl (rfl) ?_
      refine wl_isub (np := 28) dX0_gain_27 rfl ?_
      refine wl_iaload (np := 29) dX0_gain_28 rfl (by rw [e1]; exact inA_n s1 (by omega) (by decide)) ?_
      refine st_i2 (np := 30) dX0_gain_29 rfl (by decide) rfl ?_
      refine ld_a1 (np := 31) dX0_gain_30 rfl ?_
      refine wl_getr (np := 34) dX0_gain_31 rfl fl_X0_50 rfl (by assumption) (by assumption) ?_
      refine ld_a1 (np := 35) dX0_gain_34 rfl ?_
      refine wl_geti (np := 38) dX0_gain_35 rfl fl_X0_45 (by decide) (by assumption) ?_
      refine wl_iconst (np := 39) (v := 1) dX0_gain_38 rfl (rfl) ?_
      refine wl_isub (np := 40) dX0_gain_39 rfl ?_
      refine wl_iaload (np := 41) dX0_gain_40 rfl (by rw [e2]; exact inA_n t1 (by omega) (by decide)) ?_
      refine st_i3 (np := 42) dX0_gain_41 rfl (by decide) rfl ?_
      rw [e1, e2, nI_clamp (by omega), nI_clamp (by omega), f1, f2]
      refine ld_a0 (np := 43) dX0_gain_42 rfl ?_
      refine wl_getr (np := 46) dX0_gain_43 rfl fl_X0_53 rfl (by assumption) (by assumption) ?_
      refine ld_i2 (np := 47) dX0_gain_46 rfl ?_
      refine wl_iaload (np := 48) dX0_gain_47 rfl (inA_n s5 (by omega) (by decide)) ?_
      refine ld_a0 (np := 49) dX0_gain_48 rfl ?_
      refine wl_getr (np := 52) dX0_gain_49 rfl fl_X0_53 rfl (by assumption) (by assumption) ?_
      refine ld_i3 (np := 53) dX0_gain_52 rfl ?_
      refine wl_iaload (np := 54) dX0_gain_53 rfl (inA_n s5 (by omega) (by decide)) ?_
      refine wl_isub (np := 55) dX0_gain_54 rfl ?_
      refine wi_ret dX0_gain_55 rfl (rfl) (Nat.le_refl _) (Nat.le_refl _) ?_
      rw [nI_clamp (by omega), nI_clamp (by omega), hP.2.2.2.2.2.2.2 l hl5, hP.2.2.2.2.2.2.2 l2 hl52]
      refine ⟨?_, rfl⟩
      unfold gainS lastL
      rw [if_neg (by omega), hco, hco2]
      dsimp only [Option.getD_some]
      rw [el, el2, nI_clamp (by omega), nI_clamp (by omega)]
    · rw [hw2, show (1 : Int32) = nI 1 from rfl, nI_leI (by decide) (by omega)] at c_13
      refine wl_iconst (np := 17) (v := 0) dX0_gain_16 rfl (rfl) ?_
      refine wi_ret dX0_gain_17 rfl (rfl) (Nat.le_refl _) (Nat.le_refl _) ?_
      exact ⟨by unfold gainS; rw [if_pos (by omega)], rfl⟩
set_option maxHeartbeats 4000000 in
set_option maxRecDepth 100000 in
theorem c_savedBy2 (hq : isP sh me q) (hq2 : isP sh me q2) (hP : RepP me q P) (hP2 : RepP me q2 P2) (hl : lenP P) (hl2 : lenP P2) (hd : 1 ≤ d) : CI d mX0_savedBy sh [.ref q, .ref q2, .null] me (fun x m => x = sav2 P P2 ∧ m = me) := by
  refine CI.mk (L := [.ref q, .ref q2, .null, .float 0, .float 0, .float 0]) (by decide) (Nat.le_of_ble_eq_true rfl) rfl ?_
  first | refine ld_a1 (np := 1) dX0_savedBy_0 rfl ?_ | refine ldN_a1 (np := 1) dX0_savedBy_0 rfl ?_ | refine ldS_a1 (np := 1) dX0_savedBy_0 rfl ?_
  first | refine ld_a0 (np := 2) dX0_savedBy_1 rfl ?_ | refine ldN_a0 (np := 2) dX0_savedBy_1 rfl ?_ | refine ldS_a0 (np := 2) dX0_savedBy_1 rfl ?_
  refine ciS_2 (np := 5) dX0_savedBy_2 rfl lk_X0_41 (Nat.le_of_ble_eq_true rfl) (by omega) (Nat.le_refl _) (Nat.le_refl _) (c_gain hq2 hq hP2 hP hl2 hl) (fun x_2 m_2 h_2 => ?_)
  obtain ⟨rfl, q_2⟩ := h_2
  have q_2 := q_2.symm
  subst q_2
  refine st_i3 (np := 6) dX0_savedBy_5 rfl (by decide) rfl ?_
  first | refine ld_a2 (np := 7) dX0_savedBy_6 rfl ?_ | refine ldN_a2 (np := 7) dX0_savedBy_6 rfl ?_ | refine ldS_a2 (np := 7) dX0_savedBy_6 rfl ?_
  refine wl_ifnonnullN (np := 10) dX0_savedBy_7 rfl ?_
  first | refine ld_a0 (np := 11) dX0_savedBy_10 rfl ?_ | refine ldN_a0 (np := 11) dX0_savedBy_10 rfl ?_ | refine ldS_a0 (np := 11) dX0_savedBy_10 rfl ?_
  first | refine ld_a1 (np := 12) dX0_savedBy_11 rfl ?_ | refine ldN_a1 (np := 12) dX0_savedBy_11 rfl ?_ | refine ldS_a1 (np := 12) dX0_savedBy_11 rfl ?_
  refine ciS_2 (np := 15) dX0_savedBy_12 rfl lk_X0_41 (Nat.le_of_ble_eq_true rfl) (by omega) (Nat.le_refl _) (Nat.le_refl _) (c_gain hq hq2 hP hP2 hl hl2) (fun x_12 m_12 h_12 => ?_)
  obtain ⟨rfl, q_12⟩ := h_12
  have q_12 := q_12.symm
  subst q_12
  refine st_i4 (np := 17) dX0_savedBy_15 rfl (by decide) rfl ?_
  refine ld_i4 (np := 19) dX0_savedBy_17 rfl ?_
  refine wl_if_le (np := 22) (tg := 33) dX0_savedBy_19 rfl rfl (fun c_19 => ?_) (fun c_19 => ?_)
  · refine wl_iconst (np := 34) (v := 0) dX0_savedBy_33 rfl (rfl) ?_
    refine wi_ret dX0_savedBy_34 rfl (rfl) (Nat.le_refl _) (Nat.le_refl _) ?_
    exact ⟨by unfold sav2; rw [if_neg (fun h => Int32.not_lt.mpr c_19 h.1)], rfl⟩
  · refine ld_i3 (np := 23) dX0_savedBy_22 rfl ?_
    refine wl_if_le (np := 26) (tg := 33) dX0_savedBy_23 rfl rfl (fun c_23 => ?_) (fun c_23 => ?_)
    · refine wl_iconst (np := 34) (v := 0) dX0_savedBy_33 rfl (rfl) ?_
      refine wi_ret dX0_savedBy_34 rfl (rfl) (Nat.le_refl _) (Nat.le_refl _) ?_
      exact ⟨by unfold sav2; rw [if_neg (fun h => Int32.not_lt.mpr c_23 h.2)], rfl⟩
    · refine ld_i4 (np := 28) dX0_savedBy_26 rfl ?_
      refine ld_i3 (np := 29) dX0_savedBy_28 rfl ?_
      refine wl_iadd (np := 30) dX0_savedBy_29 rfl ?_
      refine wl_goto (tg := 34) dX0_savedBy_30 rfl ?_
      refine wi_ret dX0_savedBy_34 rfl (rfl) (Nat.le_refl _) (Nat.le_refl _) ?_
      exact ⟨by unfold sav2; rw [if_pos ⟨Int32.not_le.mp c_19, Int32.not_le.mp c_23⟩], rfl⟩
set_option maxHeartbeats 4000000 in
set_option maxRecDepth 100000 in
theorem c_savedBy3 (hq : isP sh me q) (hq2 : isP sh me q2) (hq3 : isP sh me q3) (hP : RepP me q P) (hP2 : RepP me q2 P2) (hP3 : RepP me q3 P3) (hl : lenP P) (hl2 : lenP P2) (hl3 : lenP P3) (hd : 1 ≤ d) : CI d mX0_savedBy sh [.ref q, .ref q2, .ref q3] me (fun x m => x = sav3 P P2 P3 ∧ m = me) := by
  refine CI.mk (L := [.ref q, .ref q2, .ref q3, .float 0, .float 0, .float 0]) (by decide) (Nat.le_of_ble_eq_true rfl) rfl ?_
  first | refine ld_a1 (np := 1) dX0_savedBy_0 rfl ?_ | refine ldN_a1 (np := 1) dX0_savedBy_0 rfl ?_ | refine ldS_a1 (np := 1) dX0_savedBy_0 rfl ?_
  first | refine ld_a0 (np := 2) dX0_savedBy_1 rfl ?_ | refine ldN_a0 (np := 2) dX0_savedBy_1 rfl ?_ | refine ldS_a0 (np := 2) dX0_savedBy_1 rfl ?_
  refine ciS_2 (np := 5) dX0_savedBy_2 rfl lk_X0_41 (Nat.le_of_ble_eq_true rfl) (by omega) (Nat.le_refl _) (Nat.le_refl _) (c_gain hq2 hq hP2 hP hl2 hl) (fun x_2 m_2 h_2 => ?_)
  obtain ⟨rfl, q_2⟩ := h_2
  have q_2 := q_2.symm
  subst q_2
  refine st_i3 (np := 6) dX0_savedBy_5 rfl (by decide) rfl ?_
  first | refine ld_a2 (np := 7) dX0_savedBy_6 rfl ?_ | refine ldN_a2 (np := 7) dX0_savedBy_6 rfl ?_ | refine ldS_a2 (np := 7) dX0_savedBy_6 rfl ?_
  refine wl_ifnonnull (tg := 35) dX0_savedBy_7 rfl ?_
  first | refine ld_a2 (np := 36) dX0_savedBy_35 rfl ?_ | refine ldN_a2 (np := 36) dX0_savedBy_35 rfl ?_ | refine ldS_a2 (np := 36) dX0_savedBy_35 rfl ?_
  first | refine ld_a1 (np := 37) dX0_savedBy_36 rfl ?_ | refine ldN_a1 (np := 37) dX0_savedBy_36 rfl ?_ | refine ldS_a1 (np := 37) dX0_savedBy_36 rfl ?_
  refine ciS_2 (np := 40) dX0_savedBy_37 rfl lk_X0_41 (Nat.le_of_ble_eq_true rfl) (by omega) (Nat.le_refl _) (Nat.le_refl _) (c_gain hq3 hq2 hP3 hP2 hl3 hl2) (fun x_37 m_37 h_37 => ?_)
  obtain ⟨rfl, q_37⟩ := h_37
  have q_37 := q_37.symm
  subst q_37
  refine st_i4 (np := 42) dX0_savedBy_40 rfl (by decide) rfl ?_
  first | refine ld_a0 (np := 43) dX0_savedBy_42 rfl ?_ | refine ldN_a0 (np := 43) dX0_savedBy_42 rfl ?_ | refine ldS_a0 (np := 43) dX0_savedBy_42 rfl ?_
  first | refine ld_a2 (np := 44) dX0_savedBy_43 rfl ?_ | refine ldN_a2 (np := 44) dX0_savedBy_43 rfl ?_ | refine ldS_a2 (np := 44) dX0_savedBy_43 rfl ?_
  refine ciS_2 (np := 47) dX0_savedBy_44 rfl lk_X0_41 (Nat.le_of_ble_eq_true rfl) (by omega) (Nat.le_refl _) (Nat.le_refl _) (c_gain hq hq3 hP hP3 hl hl3) (fun x_44 m_44 h_44 => ?_)
  obtain ⟨rfl, q_44⟩ := h_44
  have q_44 := q_44.symm
  subst q_44
  refine st_i5 (np := 49) dX0_savedBy_47 rfl (by decide) rfl ?_
  refine ld_i5 (np := 51) dX0_savedBy_49 rfl ?_
  refine wl_if_le (np := 54) (tg := 73) dX0_savedBy_51 rfl rfl (fun c_51 => ?_) (fun c_51 => ?_)
  · refine wl_iconst (np := 74) (v := 0) dX0_savedBy_73 rfl (rfl) ?_
    refine wi_ret dX0_savedBy_74 rfl (rfl) (Nat.le_refl _) (Nat.le_refl _) ?_
    exact ⟨by unfold sav3; rw [if_neg (fun h => Int32.not_lt.mpr c_51 h.1)], rfl⟩
  · refine ld_i3 (np := 55) dX0_savedBy_54 rfl ?_
    refine wl_if_le (np := 58) (tg := 73) dX0_savedBy_55 rfl rfl (fun c_55 => ?_) (fun c_55 => ?_)
    · refine wl_iconst (np := 74) (v := 0) dX0_savedBy_73 rfl (rfl) ?_
      refine wi_ret dX0_savedBy_74 rfl (rfl) (Nat.le_refl _) (Nat.le_refl _) ?_
      exact ⟨by unfold sav3; rw [if_neg (fun h => Int32.not_lt.mpr c_55 h.2.1)], rfl⟩
    · refine ld_i4 (np := 60) dX0_savedBy_58 rfl ?_
      refine wl_if_le (np := 63) (tg := 73) dX0_savedBy_60 rfl rfl (fun c_60 => ?_) (fun c_60 => ?_)
      · refine wl_iconst (np := 74) (v := 0) dX0_savedBy_73 rfl (rfl) ?_
        refine wi_ret dX0_savedBy_74 rfl (rfl) (Nat.le_refl _) (Nat.le_refl _) ?_
        exact ⟨by unfold sav3; rw [if_neg (fun h => Int32.not_lt.mpr c_60 h.2.2)], rfl⟩
      · refine ld_i5 (np := 65) dX0_savedBy_63 rfl ?_
        refine ld_i3 (np := 66) dX0_savedBy_65 rfl ?_
        refine wl_iadd (np := 67) dX0_savedBy_66 rfl ?_
        refine ld_i4 (np := 69) dX0_savedBy_67 rfl ?_
        refine wl_iadd (np := 70) dX0_savedBy_69 rfl ?_
        refine wl_goto (tg := 74) dX0_savedBy_70 rfl ?_
        refine wi_ret dX0_savedBy_74 rfl (rfl) (Nat.le_refl _) (Nat.le_refl _) ?_
        exact ⟨by unfold sav3; rw [if_pos ⟨Int32.not_le.mp c_51, Int32.not_le.mp c_55, Int32.not_le.mp c_60⟩], rfl⟩
set_option maxHeartbeats 4000000 in
set_option maxRecDepth 100000 in
theorem c_B_keep (s n a b c : Int32) (hr : isB sh me r) : CV d mX0_keepIfBetter sh [.ref r, .int s, .int n, .int a, .int b, .int c] me (fun m => m = keepM me r s n a b c) := by
  obtain ⟨s0, s1, r0⟩ := hr
  refine CV.mk (L := [.ref r, .int s, .int n, .int a, .int b, .int c]) (by decide) (Nat.le_of_ble_eq_true rfl) rfl ?_
  refine ld_i1 (np := 1) dX0_keepIfBetter_0 rfl ?_
  refine ld_a0 (np := 2) dX0_keepIfBetter_1 rfl ?_
  refine wl_geti (np := 5) dX0_keepIfBetter_2 rfl fl_X0_17 (by decide) (by assumption) ?_
  refine wl_icmp_le (np := 8) (tg := 41) dX0_keepIfBetter_5 rfl rfl (fun c_5 => ?_) (fun c_5 => ?_)
  · refine wv_ret dX0_keepIfBetter_41 rfl (Nat.le_refl _) (Nat.le_refl _) ?_
    unfold keepM
    rw [if_neg (Int32.not_lt.mpr c_5)]
  · refine ld_a0 (np := 9) dX0_keepIfBetter_8 rfl ?_
    refine ld_i1 (np := 10) dX0_keepIfBetter_9 rfl ?_
    refine wl_puti (np := 13) dX0_keepIfBetter_10 rfl fl_X0_17 nf_0_2 rfl (by assumption) ?_
    refine ld_a0 (np := 14) dX0_keepIfBetter_13 rfl ?_
    refine ld_i2 (np := 15) dX0_keepIfBetter_14 rfl ?_
    refine wl_puti (np := 18) dX0_keepIfBetter_15 rfl fl_X0_13 nf_0_1 rfl (by assumption) ?_
    refine ld_a0 (np := 19) dX0_keepIfBetter_18 rfl ?_
    refine wl_getr (np := 22) dX0_keepIfBetter_19 rfl fl_X0_7 rfl (by assumption) (by assumption) ?_
    refine wl_iconst (np := 23) (v := 0) dX0_keepIfBetter_22 rfl (rfl) ?_
    refine ld_i3 (np := 24) dX0_keepIfBetter_23 rfl ?_
    refine wl_iastore (np := 25) dX0_keepIfBetter_24 rfl (inA_n (i := 0) s1 (by omega) (by decide)) ?_
    refine ld_a0 (np := 26) dX0_keepIfBetter_25 rfl ?_
    refine wl_getr (np := 29) dX0_keepIfBetter_26 rfl fl_X0_7 rfl (by assumption) (by assumption) ?_
    refine wl_iconst (np := 30) (v := 1) dX0_keepIfBetter_29 rfl (rfl) ?_
    refine ld_i4 (np := 32) dX0_keepIfBetter_30 rfl ?_
    refine wl_iastore (np := 33) dX0_keepIfBetter_32 rfl (inA_n (i := 1) s1 (by omega) (by decide)) ?_
    refine ld_a0 (np := 34) dX0_keepIfBetter_33 rfl ?_
    refine wl_getr (np := 37) dX0_keepIfBetter_34 rfl fl_X0_7 rfl (by assumption) (by assumption) ?_
    refine wl_iconst (np := 38) (v := 2) dX0_keepIfBetter_37 rfl (rfl) ?_
    refine ld_i5 (np := 40) dX0_keepIfBetter_38 rfl ?_
    refine wl_iastore (np := 41) dX0_keepIfBetter_40 rfl (inA_n (i := 2) s1 (by omega) (by decide)) ?_
    refine wv_ret dX0_keepIfBetter_41 rfl (Nat.le_refl _) (Nat.le_refl _) ?_
    unfold keepM
    rw [if_pos (Int32.not_le.mp c_5)]
    rfl
end RING
end
section
/-! the best ring: over twos, then over threes, in their order -/
def st2 (ps : List Prs) (a b : Nat) (B : Bst) : Bst := match ps[a]?, ps[b]? with
  | some P, some P2 => keepS B (sav2 P P2) 2 (nI a) (nI b) (-1)
  | _, _ => B
def st3 (ps : List Prs) (a b c : Nat) (B : Bst) : Bst := match ps[a]?, ps[b]?, ps[c]? with
  | some P, some P2, some P3 => keepS B (sav3 P P2 P3) 3 (nI a) (nI b) (nI c)
  | _, _, _ => B
def in2 (ps : List Prs) (a : Nat) : Nat → Nat → Bst → Bst
  | 0, _, B => B
  | k + 1, b, B => in2 ps a k (b + 1) (st2 ps a b B)
def ou2 (ps : List Prs) : Nat → Nat → Bst → Bst
  | 0, _, B => B
  | k + 1, a, B => ou2 ps k (a + 1) (in2 ps a k (a + 1) B)
def in3 (ps : List Prs) (a b : Nat) : Nat → Nat → Bst → Bst
  | 0, _, B => B
  | k + 1, c, B => in3 ps a b k (c + 1) (if c = b then B else st3 ps a b c B)
def mi3 (ps : List Prs) (a K : Nat) : Nat → Nat → Bst → Bst
  | 0, _, B => B
  | k + 1, b, B => mi3 ps a K k (b + 1) (in3 ps a b K (a + 1) B)
def ou3 (ps : List Prs) : Nat → Nat → Bst → Bst
  | 0, _, B => B
  | k + 1, a, B => ou3 ps k (a + 1) (mi3 ps a k k (a + 1) B)
def bestB (ps : List Prs) : Bst := ou3 ps ps.length 0 (ou2 ps ps.length 0 (0, 0, 0, 0, 0))
section RING2
variable {sh : List Shp} {me : Mem} {d r w : Nat} {W : Wld}
set_option maxHeartbeats 4000000 in
set_option maxRecDepth 100000 in
theorem c_findThirds {a b : Nat} {B : Bst} (hr : isB sh me r) (hw : isW sh me w) (hrW : RepW me w W) (hlen : lenW W) (hB : RepB me r B) (hrw : w + 35 ≤ r) (ha : a < W.1.length) (hb : b < W.1.length) (hd : 2 ≤ d) : CV d mX0_findThirds sh [.ref r, .ref w, .int (nI a), .int (nI b)] me (fun m => RepB m r (in3 W.1 a b (W.1.length - (a + 1)) (a + 1) B) ∧ Onl me m r (r + 2)) := by
  have hrs := hr
  have hws := hw
  obtain ⟨z0, z1, zr⟩ := hr
  obtain ⟨s0, s1, s2, s3, s4, r0, r1, r2, r3, hP⟩ := hw
  have hn5 := hrW.1.1
  have key : ∀ fuel c (m : Mem) (B' : Bst), W.1.length - c < fuel → a + 1 ≤ c → c ≤ W.1.length → Onl me m r (r + 2) → RepB m r B' → in3 W.1 a b (W.1.length - c) c B' = in3 W.1 a b (W.1.length - (a + 1)) (a + 1) B →
      Wa mX0_findThirds (0, fun _ => 0) d 0 0 sh.length (PV sh (fun m => RepB m r (in3 W.1 a b (W.1.length - (a + 1)) (a + 1) B) ∧ Onl me m r (r + 2))) 5 [.ref r, .ref w, .int (nI a), .int (nI b), .int (nI c)] [] sh m 0 0 := by
    intro fuel
    induction fuel with
    | zero => intro c m B' h; omega
    | succ fuel ih =>
      intro c m B' hc hac hcn hO hB' hin
      obtain ⟨I1, R1⟩ := m
      obtain rfl : R1 = me.2 := hO.1
      have hrW1 : RepW (I1, me.2) w W := hrW.fr (fun x h1 h2 => hO.2 x (by omega))
      have hn := hrW1.2.1
      refine ld_i4 (np := 7) dX0_findThirds_5 rfl ?_
      refine ld_a1 (np := 8) dX0_findThirds_7 rfl ?_
      refine wl_geti (np := 11) dX0_findThirds_8 rfl fl_X0_20 (by decide) (by assumption) ?_
      refine wl_icmp_ge (np := 14) (tg := 57) dX0_findThirds_11 rfl rfl (fun c_11 => ?_) (fun c_11 => ?_)
      · rw [hn, nI_le_iff (by omega) (by omega)] at c_11
        refine wv_ret dX0_findThirds_57 rfl (Nat.le_refl _) (Nat.le_refl _) ?_
        rw [show W.1.length - c = 0 by omega] at hin
        rw [← hin]
        exact ⟨hB', hO⟩
      · rw [hn, nI_le_iff (by omega) (by omega)] at c_11
        have hstep : in3 W.1 a b (W.1.length - c) c B' = in3 W.1 a b (W.1.length - (c + 1)) (c + 1) (if c = b then B' else st3 W.1 a b c B') := by
          rw [show W.1.length - c = (W.1.length - (c + 1)) + 1 by omega]; rfl
        rw [hstep] at hin
        refine ld_i4 (np := 16) dX0_findThirds_14 rfl ?_
        refine ld_i3 (np := 17) dX0_findThirds_16 rfl ?_
        refine wl_icmp_eq (np := 20) (tg := 51) dX0_findThirds_17 rfl rfl (fun c_17 => ?_) (fun c_17 => ?_)
        · rw [nI_eq (by omega) (by omega)] at c_17
          rw [if_pos c_17] at hin
          refine inc_4 (np := 54) (v := _ + 1) dX0_findThirds_51 rfl rfl (by decide) rfl ?_
          refine wl_goto (tg := 5) dX0_findThirds_54 rfl ?_
          rw [← nI_succ]
          exact ih (c + 1) _ B' (by omega) (by omega) (by omega) hO hB' hin
        · rw [nI_eq (by omega) (by omega)] at c_17
          rw [if_neg c_17] at hin
          obtain ⟨a1, a2⟩ := hP a (by omega)
          obtain ⟨b1, b2⟩ := hP b (by omega)
          obtain ⟨e1, e2⟩ := hP c (by omega)
          obtain ⟨Pa, hPa⟩ : ∃ P, W.1[a]? = some P := ⟨_, List.getElem?_eq_getElem ha⟩
          obtain ⟨Pb, hPb⟩ : ∃ P, W.1[b]? = some P := ⟨_, List.getElem?_eq_getElem hb⟩
          obtain ⟨Pc, hPc⟩ : ∃ P, W.1[c]? = some P := ⟨_, List.getElem?_eq_getElem (by omega)⟩
          refine ld_a0 (np := 21) dX0_findThirds_20 rfl ?_
          refine ld_a1 (np := 22) dX0_findThirds_21 rfl ?_
          refine wl_getr (np := 25) dX0_findThirds_22 rfl fl_X0_25 rfl (by assumption) (by first | assumption | (rw [nI_clamp (by omega)]; assumption)) ?_
          refine ld_i2 (np := 26) dX0_findThirds_25 rfl ?_
          refine wl_aaload (np := 27) dX0_findThirds_26 rfl (by assumption) (by decide) (vp_in_nI (by omega) (by decide)) (by first | assumption | (rw [nI_clamp (by omega)]; assumption)) ?_
          refine ld_a1 (np := 28) dX0_findThirds_27 rfl ?_
          refine wl_getr (np := 31) dX0_findThirds_28 rfl fl_X0_25 rfl (by assumption) (by first | assumption | (rw [nI_clamp (by omega)]; assumption)) ?_
          refine ld_i3 (np := 32) dX0_findThirds_31 rfl ?_
          refine wl_aaload (np := 33) dX0_findThirds_32 rfl (by assumption) (by decide) (vp_in_nI (by omega) (by decide)) (by first | assumption | (rw [nI_clamp (by omega)]; assumption)) ?_
          refine ld_a1 (np := 34) dX0_findThirds_33 rfl ?_
          refine wl_getr (np := 37) dX0_findThirds_34 rfl fl_X0_25 rfl (by assumption) (by first | assumption | (rw [nI_clamp (by omega)]; assumption)) ?_
          refine ld_i4 (np := 39) dX0_findThirds_37 rfl ?_
          refine wl_aaload (np := 40) dX0_findThirds_39 rfl (by assumption) (by decide) (vp_in_nI (by omega) (by decide)) (by first | assumption | (rw [nI_clamp (by omega)]; assumption)) ?_
          refine ciS_3 (np := 43) dX0_findThirds_40 rfl lk_X0_29 (Nat.le_of_ble_eq_true rfl) (by omega) (Nat.le_refl _) (Nat.le_refl _) (c_savedBy3 (a2.of rfl) (b2.of rfl) (e2.of rfl) (hrW1.1.2 a Pa hPa) (hrW1.1.2 b Pb hPb) (hrW1.1.2 c Pc hPc) (hlen Pa (mem_of_get hPa)) (hlen Pb (mem_of_get hPb)) (hlen Pc (mem_of_get hPc)) (by omega)) (fun x_40 m_40 h_40 => ?_)
          obtain ⟨rfl, q_40⟩ := h_40
          have q_40 := q_40.symm
          subst q_40
          refine wl_iconst (np := 44) (v := 3) dX0_findThirds_43 rfl (rfl) ?_
          refine ld_i2 (np := 45) dX0_findThirds_44 rfl ?_
          refine ld_i3 (np := 46) dX0_findThirds_45 rfl ?_
          refine ld_i4 (np := 48) dX0_findThirds_46 rfl ?_
          refine cvV_5 (np := 51) dX0_findThirds_48 rfl lk_X0_33 (by assumption) (Nat.le_of_ble_eq_true rfl) (by omega) (Nat.le_refl _) (Nat.le_refl _) (c_B_keep _ _ _ _ _ (hrs.of rfl)) (fun m_48 h_48 => ?_)
          have q_48 := h_48.symm
          subst q_48
          refine inc_4 (np := 54) (v := _ + 1) dX0_findThirds_51 rfl rfl (by decide) rfl ?_
          refine wl_goto (tg := 5) dX0_findThirds_54 rfl ?_
          rw [← nI_succ]
          have ho := onl_keep (I1, me.2) r (sav3 Pa Pb Pc) 3 (nI a) (nI b) (nI c)
          refine ih (c + 1) _ _ (by omega) (by omega) (by omega) (hO.tr ho) (rep_keep hB' _ _ _ _ _) ?_
          have es : st3 W.1 a b c B' = keepS B' (sav3 Pa Pb Pc) 3 (nI a) (nI b) (nI c) := by unfold st3; rw [hPa, hPb, hPc]
          rw [← es]
          exact hin
  refine CV.mk (L := [.ref r, .ref w, .int (nI a), .int (nI b), .float 0]) (by decide) (Nat.le_of_ble_eq_true rfl) rfl ?_
  refine ld_i2 (np := 1) dX0_findThirds_0 rfl ?_
  refine wl_iconst (np := 2) (v := 1) dX0_findThirds_1 rfl (rfl) ?_
  refine wl_iadd (np := 3) dX0_findThirds_2 rfl ?_
  refine st_i4 (np := 5) dX0_findThirds_3 rfl (by decide) rfl ?_
  rw [← nI_succ]
  exact key (W.1.length + 1) (a + 1) me B (by omega) (by omega) (by omega) Onl.rf hB rfl
set_option maxHeartbeats 4000000 in
set_option maxRecDepth 100000 in
theorem c_find (hr : isB sh me r) (hw : isW sh me w) (hrW : RepW me w W) (hlen : lenW W) (hrw : w + 35 ≤ r) (hd : 3 ≤ d) : CV d mX0_find sh [.ref r, .ref w] me (fun m => RepB m r (bestB W.1) ∧ Onl me m r (r + 2)) := by
  have hrs := hr
  have hws := hw
  obtain ⟨z0, z1, zr⟩ := hr
  obtain ⟨s0, s1, s2, s3, s4, r0, r1, r2, r3, hP⟩ := hw
  have hn5 := hrW.1.1
  have key4 : ∀ fuel a b (m : Mem) (B' : Bst), W.1.length - b < fuel → a < W.1.length → a + 1 ≤ b → b ≤ W.1.length → Onl me m r (r + 2) → RepB m r B' → ou3 W.1 (W.1.length - (a + 1)) (a + 1) (mi3 W.1 a (W.1.length - (a + 1)) (W.1.length - b) b B') = bestB W.1 →
      (∀ (m : Mem) (B' : Bst), Onl me m r (r + 2) → RepB m r B' → ou3 W.1 (W.1.length - (a + 1)) (a + 1) B' = bestB W.1 → Wa mX0_find (0, fun _ => 0) d 0 0 sh.length (PV sh (fun m => RepB m r (bestB W.1) ∧ Onl me m r (r + 2))) 103 [.ref r, .ref w, .int (nI a), .int (nI W.1.length)] [] sh m 0 0) →
      Wa mX0_find (0, fun _ => 0) d 0 0 sh.length (PV sh (fun m => RepB m r (bestB W.1) ∧ Onl me m r (r + 2))) 82 [.ref r, .ref w, .int (nI a), .int (nI b)] [] sh m 0 0 := by
    intro fuel
    induction fuel with
    | zero => intro a b m B' h; omega
    | succ fuel ih =>
      intro a b m B' hf ha hab hbn hO hB' hin kk
      obtain ⟨I1, R1⟩ := m
      obtain rfl : R1 = me.2 := hO.1
      have hrW1 : RepW (I1, me.2) w W := hrW.fr (fun x h1 h2 => hO.2 x (by omega))
      have hn := hrW1.2.1
      refine ld_i3 (np := 83) dX0_find_82 rfl ?_
      refine ld_a1 (np := 84) dX0_find_83 rfl ?_
      refine wl_geti (np := 87) dX0_find_84 rfl fl_X0_20 (by decide) (by assumption) ?_
      refine wl_icmp_ge (np := 90) (tg := 103) dX0_find_87 rfl rfl (fun c_87 => ?_) (fun c_87 => ?_)
      · rw [hn, nI_le_iff (by omega) (by omega)] at c_87
        have hbe : b = W.1.length := by omega
        subst hbe
        rw [Nat.sub_self] at hin
        exact kk _ B' hO hB' hin
      · rw [hn, nI_le_iff (by omega) (by omega)] at c_87
        refine ld_a0 (np := 91) dX0_find_90 rfl ?_
        refine ld_a1 (np := 92) dX0_find_91 rfl ?_
        refine ld_i2 (np := 93) dX0_find_92 rfl ?_
        refine ld_i3 (np := 94) dX0_find_93 rfl ?_
        refine cvV_3 (np := 97) dX0_find_94 rfl lk_X0_37 (by assumption) (Nat.le_of_ble_eq_true rfl) (by omega) (Nat.le_refl _) (Nat.le_refl _) (c_findThirds (hrs.of rfl) (hws.of rfl) hrW1 hlen hB' hrw ha (by omega) (by omega)) (fun m_94 h_94 => ?_)
        obtain ⟨h1, h2⟩ := h_94
        refine inc_3 (np := 100) (v := _ + 1) dX0_find_97 rfl rfl (by decide) rfl ?_
        refine wl_goto (tg := 82) dX0_find_100 rfl ?_
        rw [← nI_succ]
        refine ih a (b + 1) m_94 _ (by omega) ha (by omega) (by omega) (hO.tr h2) h1 ?_ kk
        rw [← hin, show W.1.length - b = (W.1.length - (b + 1)) + 1 by omega]
        rfl
  have key3 : ∀ fuel a (x3 : Value) (m : Mem) (B' : Bst), W.1.length - a < fuel → a ≤ W.1.length → Onl me m r (r + 2) → RepB m r B' → ou3 W.1 (W.1.length - a) a B' = bestB W.1 →
      Wa mX0_find (0, fun _ => 0) d 0 0 sh.length (PV sh (fun m => RepB m r (bestB W.1) ∧ Onl me m r (r + 2))) 70 [.ref r, .ref w, .int (nI a), x3] [] sh m 0 0 := by
    intro fuel
    induction fuel with
    | zero => intro a x3 m B' h; omega
    | succ fuel ih =>
      intro a x3 m B' hf ha hO hB' hin
      obtain ⟨I1, R1⟩ := m
      obtain rfl : R1 = me.2 := hO.1
      have hrW1 : RepW (I1, me.2) w W := hrW.fr (fun x h1 h2 => hO.2 x (by omega))
      have hn := hrW1.2.1
      refine ld_i2 (np := 71) dX0_find_70 rfl ?_
      refine ld_a1 (np := 72) dX0_find_71 rfl ?_
      refine wl_geti (np := 75) dX0_find_72 rfl fl_X0_20 (by decide) (by assumption) ?_
      refine wl_icmp_ge (np := 78) (tg := 109) dX0_find_75 rfl rfl (fun c_75 => ?_) (fun c_75 => ?_)
      · rw [hn, nI_le_iff (by omega) (by omega)] at c_75
        refine wv_ret dX0_find_109 rfl (Nat.le_refl _) (Nat.le_refl _) ?_
        rw [show W.1.length - a = 0 by omega] at hin
        rw [← hin]
        exact ⟨hB', hO⟩
      · rw [hn, nI_le_iff (by omega) (by omega)] at c_75
        refine ld_i2 (np := 79) dX0_find_78 rfl ?_
        refine wl_iconst (np := 80) (v := 1) dX0_find_79 rfl (rfl) ?_
        refine wl_iadd (np := 81) dX0_find_80 rfl ?_
        refine st_i3 (np := 82) dX0_find_81 rfl (by decide) rfl ?_
        rw [← nI_succ]
        refine key4 (W.1.length + 1) a (a + 1) _ B' (by omega) (by omega) (by omega) (by omega) hO hB' ?_ (fun m2 B2 hO2 hB2 hin2 => ?_)
        · rw [← hin, show W.1.length - a = (W.1.length - (a + 1)) + 1 by omega]; rfl
        · refine inc_2 (np := 106) (v := _ + 1) dX0_find_103 rfl rfl (by decide) rfl ?_
          refine wl_goto (tg := 70) dX0_find_106 rfl ?_
          rw [← nI_succ]
          exact ih (a + 1) _ m2 B2 (by omega) (by omega) hO2 hB2 hin2
  have key2 : ∀ fuel a b (m : Mem) (B' : Bst), W.1.length - b < fuel → a < W.1.length → a + 1 ≤ b → b ≤ W.1.length → Onl me m r (r + 2) → RepB m r B' → ou3 W.1 W.1.length 0 (ou2 W.1 (W.1.length - (a + 1)) (a + 1) (in2 W.1 a (W.1.length - b) b B')) = bestB W.1 →
      (∀ (m : Mem) (B' : Bst), Onl me m r (r + 2) → RepB m r B' → ou3 W.1 W.1.length 0 (ou2 W.1 (W.1.length - (a + 1)) (a + 1) B') = bestB W.1 → Wa mX0_find (0, fun _ => 0) d 0 0 sh.length (PV sh (fun m => RepB m r (bestB W.1) ∧ Onl me m r (r + 2))) 62 [.ref r, .ref w, .int (nI a), .int (nI W.1.length)] [] sh m 0 0) →
      Wa mX0_find (0, fun _ => 0) d 0 0 sh.length (PV sh (fun m => RepB m r (bestB W.1) ∧ Onl me m r (r + 2))) 24 [.ref r, .ref w, .int (nI a), .int (nI b)] [] sh m 0 0 := by
    intro fuel
    induction fuel with
    | zero => intro a b m B' h; omega
    | succ fuel ih =>
      intro a b m B' hf ha hab hbn hO hB' hin kk
      obtain ⟨I1, R1⟩ := m
      obtain rfl : R1 = me.2 := hO.1
      have hrW1 : RepW (I1, me.2) w W := hrW.fr (fun x h1 h2 => hO.2 x (by omega))
      have hn := hrW1.2.1
      refine ld_i3 (np := 25) dX0_find_24 rfl ?_
      refine ld_a1 (np := 26) dX0_find_25 rfl ?_
      refine wl_geti (np := 29) dX0_find_26 rfl fl_X0_20 (by decide) (by assumption) ?_
      refine wl_icmp_ge (np := 32) (tg := 62) dX0_find_29 rfl rfl (fun c_29 => ?_) (fun c_29 => ?_)
      · rw [hn, nI_le_iff (by omega) (by omega)] at c_29
        have hbe : b = W.1.length := by omega
        subst hbe
        rw [Nat.sub_self] at hin
        exact kk _ B' hO hB' hin
      · rw [hn, nI_le_iff (by omega) (by omega)] at c_29
        obtain ⟨a1, a2⟩ := hP a (by omega)
        obtain ⟨b1, b2⟩ := hP b (by omega)
        obtain ⟨Pa, hPa⟩ : ∃ P, W.1[a]? = some P := ⟨_, List.getElem?_eq_getElem ha⟩
        obtain ⟨Pb, hPb⟩ : ∃ P, W.1[b]? = some P := ⟨_, List.getElem?_eq_getElem (by omega)⟩
        refine ld_a0 (np := 33) dX0_find_32 rfl ?_
        refine ld_a1 (np := 34) dX0_find_33 rfl ?_
        refine wl_getr (np := 37) dX0_find_34 rfl fl_X0_25 rfl (by assumption) (by first | assumption | (rw [nI_clamp (by omega)]; assumption)) ?_
        refine ld_i2 (np := 38) dX0_find_37 rfl ?_
        refine wl_aaload (np := 39) dX0_find_38 rfl (by assumption) (by decide) (vp_in_nI (by omega) (by decide)) (by first | assumption | (rw [nI_clamp (by omega)]; assumption)) ?_
        refine ld_a1 (np := 40) dX0_find_39 rfl ?_
        refine wl_getr (np := 43) dX0_find_40 rfl fl_X0_25 rfl (by assumption) (by first | assumption | (rw [nI_clamp (by omega)]; assumption)) ?_
        refine ld_i3 (np := 44) dX0_find_43 rfl ?_
        refine wl_aaload (np := 45) dX0_find_44 rfl (by assumption) (by decide) (vp_in_nI (by omega) (by decide)) (by first | assumption | (rw [nI_clamp (by omega)]; assumption)) ?_
        refine wl_null (np := 46) dX0_find_45 rfl ?_
        refine ciS_3 (np := 49) dX0_find_46 rfl lk_X0_29 (Nat.le_of_ble_eq_true rfl) (by omega) (Nat.le_refl _) (Nat.le_refl _) (c_savedBy2 (a2.of rfl) (b2.of rfl) (hrW1.1.2 a Pa hPa) (hrW1.1.2 b Pb hPb) (hlen Pa (mem_of_get hPa)) (hlen Pb (mem_of_get hPb)) (by omega)) (fun x_46 m_46 h_46 => ?_)
        obtain ⟨rfl, q_46⟩ := h_46
        have q_46 := q_46.symm
        subst q_46
        refine wl_iconst (np := 50) (v := 2) dX0_find_49 rfl (rfl) ?_
        refine ld_i2 (np := 51) dX0_find_50 rfl ?_
        refine ld_i3 (np := 52) dX0_find_51 rfl ?_
        refine wl_iconst (np := 53) (v := -1) dX0_find_52 rfl (rfl) ?_
        refine cvV_5 (np := 56) dX0_find_53 rfl lk_X0_33 (by assumption) (Nat.le_of_ble_eq_true rfl) (by omega) (Nat.le_refl _) (Nat.le_refl _) (c_B_keep _ _ _ _ _ (hrs.of rfl)) (fun m_53 h_53 => ?_)
        have q_53 := h_53.symm
        subst q_53
        refine inc_3 (np := 59) (v := _ + 1) dX0_find_56 rfl rfl (by decide) rfl ?_
        refine wl_goto (tg := 24) dX0_find_59 rfl ?_
        rw [← nI_succ]
        have ho := onl_keep (I1, me.2) r (sav2 Pa Pb) 2 (nI a) (nI b) (-1)
        refine ih a (b + 1) _ _ (by omega) ha (by omega) (by omega) (hO.tr ho) (rep_keep hB' _ _ _ _ _) ?_ kk
        have es : st2 W.1 a b B' = keepS B' (sav2 Pa Pb) 2 (nI a) (nI b) (-1) := by unfold st2; rw [hPa, hPb]
        rw [← es, ← hin, show W.1.length - b = (W.1.length - (b + 1)) + 1 by omega]
        rfl
  have key1 : ∀ fuel a (x3 : Value) (m : Mem) (B' : Bst), W.1.length - a < fuel → a ≤ W.1.length → Onl me m r (r + 2) → RepB m r B' → ou3 W.1 W.1.length 0 (ou2 W.1 (W.1.length - a) a B') = bestB W.1 →
      Wa mX0_find (0, fun _ => 0) d 0 0 sh.length (PV sh (fun m => RepB m r (bestB W.1) ∧ Onl me m r (r + 2))) 12 [.ref r, .ref w, .int (nI a), x3] [] sh m 0 0 := by
    intro fuel
    induction fuel with
    | zero => intro a x3 m B' h; omega
    | succ fuel ih =>
      intro a x3 m B' hf ha hO hB' hin
      obtain ⟨I1, R1⟩ := m
      obtain rfl : R1 = me.2 := hO.1
      have hrW1 : RepW (I1, me.2) w W := hrW.fr (fun x h1 h2 => hO.2 x (by omega))
      have hn := hrW1.2.1
      refine ld_i2 (np := 13) dX0_find_12 rfl ?_
      refine ld_a1 (np := 14) dX0_find_13 rfl ?_
      refine wl_geti (np := 17) dX0_find_14 rfl fl_X0_20 (by decide) (by assumption) ?_
      refine wl_icmp_ge (np := 20) (tg := 68) dX0_find_17 rfl rfl (fun c_17 => ?_) (fun c_17 => ?_)
      · rw [hn, nI_le_iff (by omega) (by omega)] at c_17
        rw [show W.1.length - a = 0 by omega] at hin
        refine wl_iconst (np := 69) (v := 0) dX0_find_68 rfl (rfl) ?_
        refine st_i2 (np := 70) dX0_find_69 rfl (by decide) rfl ?_
        exact key3 (W.1.length + 1) 0 _ _ B' (by omega) (by omega) hO hB' hin
      · rw [hn, nI_le_iff (by omega) (by omega)] at c_17
        refine ld_i2 (np := 21) dX0_find_20 rfl ?_
        refine wl_iconst (np := 22) (v := 1) dX0_find_21 rfl (rfl) ?_
        refine wl_iadd (np := 23) dX0_find_22 rfl ?_
        refine st_i3 (np := 24) dX0_find_23 rfl (by decide) rfl ?_
        rw [← nI_succ]
        refine key2 (W.1.length + 1) a (a + 1) _ B' (by omega) (by omega) (by omega) (by omega) hO hB' ?_ (fun m2 B2 hO2 hB2 hin2 => ?_)
        · rw [← hin, show W.1.length - a = (W.1.length - (a + 1)) + 1 by omega]; rfl
        · refine inc_2 (np := 65) (v := _ + 1) dX0_find_62 rfl rfl (by decide) rfl ?_
          refine wl_goto (tg := 12) dX0_find_65 rfl ?_
          rw [← nI_succ]
          exact ih (a + 1) _ m2 B2 (by omega) (by omega) hO2 hB2 hin2
  refine CV.mk (L := [.ref r, .ref w, .float 0, .float 0]) (by decide) (Nat.le_of_ble_eq_true rfl) rfl ?_
  refine ld_a0 (np := 1) dX0_find_0 rfl ?_
  refine wl_iconst (np := 2) (v := 0) dX0_find_1 rfl (rfl) ?_
  refine wl_puti (np := 5) dX0_find_2 rfl fl_X0_13 nf_0_1 rfl (by assumption) ?_
  refine ld_a0 (np := 6) dX0_find_5 rfl ?_
  refine wl_iconst (np := 7) (v := 0) dX0_find_6 rfl (rfl) ?_
  refine wl_puti (np := 10) dX0_find_7 rfl fl_X0_17 nf_0_2 rfl (by assumption) ?_
  refine wl_iconst (np := 11) (v := 0) dX0_find_10 rfl (rfl) ?_
  refine st_i2 (np := 12) dX0_find_11 rfl (by decide) rfl ?_
  refine key1 (W.1.length + 1) 0 _ _ (0, 0, 0, 0, 0) (by omega) (by omega) ⟨rfl, fun x hx => ?_⟩ ⟨gI_uI_self _ _ _ _, ?_, fun h => absurd rfl h⟩ rfl
  · exact (gI_uI_ne (by omega)).trans (gI_uI_ne (by omega))
  · rw [gI_uI_nb (by omega)]; exact gI_uI_self _ _ _ _
end RING2
end
section
/-! ===== numbers within bounds ===== -/
theorem ti_add {a b : Int32} (h1 : -2 ^ 31 ≤ a.toInt + b.toInt) (h2 : a.toInt + b.toInt < 2 ^ 31) : (a + b).toInt = a.toInt + b.toInt := by
  rw [Int32.toInt_add]
  exact Int.bmod_eq_of_le (by omega) (by omega)
theorem ti_sub {a b : Int32} (h1 : -2 ^ 31 ≤ a.toInt - b.toInt) (h2 : a.toInt - b.toInt < 2 ^ 31) : (a - b).toInt = a.toInt - b.toInt := by
  rw [Int32.toInt_sub]
  exact Int.bmod_eq_of_le (by omega) (by omega)
theorem ti_mul {a b : Int32} (h1 : -2 ^ 31 ≤ a.toInt * b.toInt) (h2 : a.toInt * b.toInt < 2 ^ 31) : (a * b).toInt = a.toInt * b.toInt := by
  rw [Int32.toInt_mul]
  exact Int.bmod_eq_of_le (by omega) (by omega)
theorem ti_min (x y : Int32) : (minI x y).toInt = min x.toInt y.toInt := by
  unfold minI
  split
  · rename_i h
    have := Int32.lt_iff_toInt_lt.mp h
    omega
  · rename_i h
    have : ¬ y.toInt < x.toInt := fun q => h (Int32.lt_iff_toInt_lt.mpr q)
    omega
theorem ti_max (x y : Int32) : (maxI x y).toInt = max x.toInt y.toInt := by
  unfold maxI
  split
  · rename_i h
    have := Int32.lt_iff_toInt_lt.mp h
    omega
  · rename_i h
    have : ¬ x.toInt < y.toInt := fun q => h (Int32.lt_iff_toInt_lt.mpr q)
    omega
theorem ti_purse {p i t : Int32} (hp0 : 0 ≤ p.toInt) (hp1 : p.toInt ≤ 999999) (hi0 : 0 ≤ i.toInt) (hi1 : i.toInt ≤ 99) (ht0 : 0 ≤ t.toInt) (ht1 : t.toInt ≤ 1000) : (purseI p i t).toInt = max (min (p.toInt + i.toInt) 999999 - t.toInt) 0 := by
  unfold purseI
  have e9 : (999999 : Int32).toInt = 999999 := rfl
  have e0 : (0 : Int32).toInt = 0 := rfl
  have h1 : (p + i).toInt = p.toInt + i.toInt := ti_add (by omega) (by omega)
  have h2 : (minI (p + i) 999999).toInt = min (p.toInt + i.toInt) 999999 := by rw [ti_min, h1, e9]
  rw [ti_max, ti_sub (by rw [h2]; omega) (by rw [h2]; omega), h2, e0]
theorem ti_grow {a r : Int32} (ha0 : 0 ≤ a.toInt) (ha1 : a.toInt ≤ 999999) (hr0 : 0 ≤ r.toInt) (hr1 : r.toInt ≤ 20) : a.toInt ≤ (growI a r).toInt ∧ (growI a r).toInt ≤ 999999 := by
  unfold growI
  have e9 : (999999 : Int32).toInt = 999999 := rfl
  have hm0 : 0 ≤ a.toInt * r.toInt := Int.mul_nonneg ha0 hr0
  have hm1 : a.toInt * r.toInt ≤ 999999 * 20 := Int.mul_le_mul ha1 hr1 hr0 (by omega)
  have h1 : (a * r).toInt = a.toInt * r.toInt := ti_mul (by omega) (by omega)
  obtain ⟨j, hj, ej⟩ := nI_of (x := a * r) (fun q => by have := Int32.lt_iff_toInt_lt.mp q; rw [h1] at this; have e0 : (0 : Int32).toInt = 0 := rfl; omega)
  have hd : a * r / 100 = nI (j / 100) := by rw [ej]; exact pk_div (d := 100) hj (by decide) (by decide)
  have hjt : (j : Int) = a.toInt * r.toInt := by rw [← h1, ej, nI_toInt hj]
  have h2 : (a * r / 100).toInt = ((j / 100 : Nat) : Int) := by rw [hd, nI_toInt (by omega)]
  have h3 : (a + a * r / 100).toInt = a.toInt + ((j / 100 : Nat) : Int) := by rw [ti_add (by rw [h2]; omega) (by rw [h2]; omega), h2]
  rw [ti_min, h3, e9]
  omega
/-! ===== the best order: words ===== -/
def outN (m c : Nat) : Bool := m / 2 ^ (c + 1) == 0
def innN (m c : Nat) : Bool := m % 2 ^ c == 0
def mayN (off : Int32) (m c : Nat) : Bool := if off = 0 then outN m c else if off = 1 then innN m c else (!(innN m c) || outN m c)
/-- the coats that may be next, in their order -/
def nexts (off : Int32) (m : Nat) : List Nat := (List.range 6).filter (fun c => m.testBit c && mayN off m c)
/-- all orders of the coats of the set that the law lets, as rows in their order -/
def comp (off : Int32) : Nat → Nat → List (List Nat)
  | 0, _ => [[]]
  | k + 1, m => (nexts off m).flatMap (fun c => (comp off k (m - 2 ^ c)).map (fun o => c :: o))
def growN (r : Nat → Int32) (n m : Nat) (A : Nat → Int32) : Nat → Int32 := fun c => if c < n ∧ m.testBit c = true then growI (A c) (r c) else A c
def taxN (t : Nat → Int32) (n m : Nat) : Int32 := condSum (nI m) t n
def waitU (r t : Nat → Int32) (inc : Int32) (n m c : Nat) : Nat → Nat → Int32 → (Nat → Int32) → Option (Nat × Int32 × (Nat → Int32))
  | 0, day, p, A => if p < A c then none else some (day, p, A)
  | k + 1, day, p, A => if p < A c then waitU r t inc n m c k (day + 1) (purseI p inc (taxN t n m)) (growN r n m A) else some (day, p, A)
def sim (r t : Nat → Int32) (inc : Int32) (n : Nat) : List Nat → Nat → Nat → Int32 → (Nat → Int32) → Int32 → Option (Nat × Int32)
  | [], _, day, _, _, pd => some (day, pd)
  | c :: o, m, day, p, A, pd => match waitU r t inc n m c (360 - day) day p A with
    | none => none
    | some (d', p', A') => sim r t inc n o (m - 2 ^ c) d' (p' - A' c) A' (pd + A' c)
/-- days, paid, order -/
abbrev Bpl : Type := Nat × Int32 × List Nat
def keepB (B : Bpl) (dy : Nat) (pd : Int32) (o : List Nat) : Bpl := if dy < B.1 ∨ (dy = B.1 ∧ pd < B.2.1) then (dy, pd, o) else B
def stepB (pre : List Nat) (res : List Nat → Option (Nat × Int32)) (B : Bpl) (o : List Nat) : Bpl := match res o with
  | none => B
  | some (dy, pd) => keepB B dy pd (pre ++ o)
def foldB (pre : List Nat) (res : List Nat → Option (Nat × Int32)) (B : Bpl) (l : List (List Nat)) : Bpl := l.foldl (stepB pre res) B
theorem waitU_day (r t : Nat → Int32) (inc : Int32) (n m c : Nat) : ∀ k day p A d' p' A', waitU r t inc n m c k day p A = some (d', p', A') → day ≤ d' ∧ d' ≤ day + k ∧ ¬ p' < A' c ∧ (p < A c → day < d')
  | 0, day, p, A, d', p', A', h => by
    unfold waitU at h
    split at h
    · cases h
    · rename_i hn
      cases h
      exact ⟨Nat.le_refl _, Nat.le_refl _, hn, fun q => absurd q hn⟩
  | k + 1, day, p, A, d', p', A', h => by
    unfold waitU at h
    split at h
    · have := waitU_day r t inc n m c k _ _ _ _ _ _ h
      exact ⟨by omega, by omega, this.2.2.1, fun _ => by omega⟩
    · rename_i hn
      cases h
      exact ⟨Nat.le_refl _, by omega, hn, fun q => absurd q hn⟩
theorem sim_day (r t : Nat → Int32) (inc : Int32) (n : Nat) : ∀ o m day p A pd dy pd', day ≤ 360 → sim r t inc n o m day p A pd = some (dy, pd') → day ≤ dy ∧ dy ≤ 360
  | [], m, day, p, A, pd, dy, pd', h0, h => by
    unfold sim at h
    cases h
    exact ⟨Nat.le_refl _, h0⟩
  | c :: o, m, day, p, A, pd, dy, pd', h0, h => by
    unfold sim at h
    cases hw : waitU r t inc n m c (360 - day) day p A with
    | none => rw [hw] at h; cases h
    | some x =>
      obtain ⟨d', p', A'⟩ := x
      rw [hw] at h
      have h1 := waitU_day r t inc n m c _ _ _ _ _ _ _ hw
      have := sim_day r t inc n o _ d' _ _ _ dy pd' (by omega) h
      omega
theorem foldB_noop {pre : List Nat} {res : List Nat → Option (Nat × Int32)} {B : Bpl} {l : List (List Nat)} (h : ∀ o, o ∈ l → stepB pre res B o = B) : foldB pre res B l = B := by
  unfold foldB
  induction l with
  | nil => rfl
  | cons o l ih => rw [List.foldl_cons, h o List.mem_cons_self]; exact ih (fun o' ho' => h o' (List.mem_cons_of_mem _ ho'))
/-- bounds of what a plan starts with -/
def okD (r t : Nat → Int32) (inc : Int32) (n : Nat) : Prop := (0 ≤ inc.toInt ∧ inc.toInt ≤ 99) ∧ ∀ c, c < n → (0 ≤ (t c).toInt ∧ (t c).toInt ≤ 9) ∧ (0 ≤ (r c).toInt ∧ (r c).toInt ≤ 20)
def okA (A : Nat → Int32) (n : Nat) : Prop := ∀ c, c < n → 0 ≤ (A c).toInt ∧ (A c).toInt ≤ 999999
def okp (p : Int32) : Prop := 0 ≤ p.toInt ∧ p.toInt ≤ 999999
theorem tax_b {r t : Nat → Int32} {inc : Int32} {n : Nat} (h : okD r t inc n) (hn : n ≤ 8) (set : Int32) : ∀ k, k ≤ n → 0 ≤ (condSum set t k).toInt ∧ (condSum set t k).toInt ≤ 9 * k
  | 0, _ => ⟨(show (0 : Int) ≤ (0 : Int32).toInt by decide), (show (0 : Int32).toInt ≤ 9 * ((0 : Nat) : Int) by decide)⟩
  | k + 1, hk => by
    have ih := tax_b h hn set k (by omega)
    have ht := (h.2 k (by omega)).1
    unfold condSum
    split
    · omega
    · rw [ti_add (by omega) (by omega)]
      omega
theorem okp_purse {r t : Nat → Int32} {inc p : Int32} {n m : Nat} (h : okD r t inc n) (hn : n ≤ 8) (hp : okp p) : okp (purseI p inc (taxN t n m)) ∧ (purseI p inc (taxN t n m)).toInt ≤ p.toInt + max (inc.toInt - (taxN t n m).toInt) 0 := by
  have h1 := tax_b h hn (nI m) n (Nat.le_refl _)
  have h2 := ti_purse (p := p) (i := inc) (t := taxN t n m) hp.1 hp.2 h.1.1 h.1.2 h1.1 (by unfold taxN; omega)
  unfold okp
  have hp1 := hp.1
  have hp2 := hp.2
  have hi1 := h.1.1
  have h11 : 0 ≤ (taxN t n m).toInt := h1.1
  rw [h2]
  omega
theorem okA_grow {r t : Nat → Int32} {inc : Int32} {n m : Nat} {A : Nat → Int32} (h : okD r t inc n) (hA : okA A n) : okA (growN r n m A) n ∧ ∀ c, c < n → (A c).toInt ≤ (growN r n m A c).toInt := by
  have key : ∀ c, c < n → 0 ≤ (growN r n m A c).toInt ∧ (growN r n m A c).toInt ≤ 999999 ∧ (A c).toInt ≤ (growN r n m A c).toInt := by
    intro c hc
    have h1 := hA c hc
    unfold growN
    split
    · have h2 := ti_grow h1.1 h1.2 (h.2 c hc).2.1 (h.2 c hc).2.2
      omega
    · omega
  exact ⟨fun c hc => ⟨(key c hc).1, (key c hc).2.1⟩, fun c hc => (key c hc).2.2⟩
/-- what all the nights can't bring is not worth the wait -/
theorem wait_late {r t : Nat → Int32} {inc : Int32} {n m c : Nat} (h : okD r t inc n) (hn : n ≤ 8) (hc : c < n) : ∀ (k day : Nat) (p : Int32) (A : Nat → Int32) (L d' : Nat) (p' : Int32) (A' : Nat → Int32), okp p → okA A n → p.toInt + max (inc.toInt - (taxN t n m).toInt) 0 * ((L - day : Nat) : Int) < (A c).toInt → waitU r t inc n m c k day p A = some (d', p', A') → L < d'
  | 0, day, p, A, L, d', p', A', hp, hA, hlt, hw => by
    have h0 : 0 ≤ max (inc.toInt - (taxN t n m).toInt) 0 * ((L - day : Nat) : Int) := Int.mul_nonneg (by omega) (by omega)
    have hlt2 : p < A c := Int32.lt_iff_toInt_lt.mpr (by omega)
    unfold waitU at hw
    rw [if_pos hlt2] at hw
    cases hw
  | k + 1, day, p, A, L, d', p', A', hp, hA, hlt, hw => by
    have h0 : 0 ≤ max (inc.toInt - (taxN t n m).toInt) 0 * ((L - day : Nat) : Int) := Int.mul_nonneg (by omega) (by omega)
    have hlt2 : p < A c := Int32.lt_iff_toInt_lt.mpr (by omega)
    have hd := waitU_day r t inc n m c _ _ _ _ _ _ _ hw
    unfold waitU at hw
    rw [if_pos hlt2] at hw
    by_cases hL : L ≤ day
    · have := hd.2.2.2 hlt2
      omega
    · obtain ⟨q1, q2⟩ := okp_purse (m := m) h hn hp
      obtain ⟨g1, g2⟩ := okA_grow (m := m) h hA
      have g3 := g2 c hc
      refine wait_late h hn hc k (day + 1) _ _ L d' p' A' q1 g1 ?_ hw
      have e : ((L - day : Nat) : Int) = ((L - (day + 1) : Nat) : Int) + 1 := by omega
      rw [e, Int.mul_add, Int.mul_one] at hlt
      omega
end
section
/-! bits of small sets -/
theorem bit_all : ∀ m, m < 64 → ∀ c, c < 6 → (((nI m >>> (nI c &&& 31)) &&& 1 = 0) ↔ m.testBit c = false) := by decide +kernel
theorem inn_all : ∀ m, m < 64 → ∀ c, c < 6 → ((nI m &&& ((1 <<< (nI c &&& 31)) - 1) = 0) ↔ innN m c = true) := by decide +kernel
theorem out_all : ∀ m, m < 64 → ∀ c, c < 6 → ((nI m >>> ((nI c + 1) &&& 31) = 0) ↔ outN m c = true) := by decide +kernel
theorem rem_all : ∀ m, m < 64 → ∀ c, c < 6 → m.testBit c = true → nI m &&& ((1 <<< (nI c &&& 31)) ^^^ (-1)) = nI (m - 2 ^ c) := by decide +kernel
theorem ws_all : ∀ n, n ≤ 8 → wsI n = nI (2 ^ n - 1) := by decide +kernel
theorem may_iff {off : Int32} {m c : Nat} (hm : m < 64) (hc : c < 6) : mayC off (nI m) (nI c) ↔ mayN off m c = true := by
  have h1 := inn_all m hm c hc
  have h2 := out_all m hm c hc
  unfold mayC mayN innerC outerC
  by_cases h0 : off = 0
  · rw [if_pos h0, if_pos h0]; exact h2
  · rw [if_neg h0, if_neg h0]
    by_cases h3 : off = 1
    · rw [if_pos h3, if_pos h3]; exact h1
    · rw [if_neg h3, if_neg h3, h1, h2]
      cases innN m c <;> cases outN m c <;> simp
def isPl (sh : List Shp) (me : Mem) (pl : Nat) : Prop := sh[pl]? = some (.inl 2) ∧ sh[pl + 1]? = some (.inr (3, 7)) ∧ (∀ i, i < 7 → sh[pl + 2 + i]? = some (.inr (0, 8))) ∧ sh[pl + 9]? = some (.inr (0, 6)) ∧ sh[pl + 10]? = some (.inr (0, 6)) ∧ gR me pl 0 = some (pl + 1) ∧ gR me pl 1 = some (pl + 9) ∧ gR me pl 2 = some (pl + 10) ∧ ∀ i, i < 7 → gR me (pl + 1) i = some (pl + 2 + i)
theorem isPl.of {sh : List Shp} {me m : Mem} {pl : Nat} (h : isPl sh me pl) (h2 : m.2 = me.2) : isPl sh m pl := by
  unfold isPl gR at *
  rw [h2]
  exact h
def grM (me : Mem) (q a : Nat) (set : Int32) (i : Nat) : Mem := (fun x b => if x = a ∧ b < i ∧ ¬ ((set >>> (nI b &&& 31)) &&& 1 = 0) then growI (me.1 a b) (me.1 (q + 3) b) else me.1 x b, me.2)
section PLAN1
variable {sh : List Shp} {me : Mem} {d q pl n : Nat}
set_option maxHeartbeats 4000000 in
set_option maxRecDepth 100000 in
theorem c_taxesOf (set : Int32) (hpl : isPl sh me pl) (hwho : gR me pl 3 = some q) (hq : isP sh me q) (hw : gI me q 5 = nI n) (hn : n ≤ 8) (hl : ∀ c, c < n → ∃ l, l < 5 ∧ gI me (q + 1) c = nI l) (hd : 1 ≤ d) : CI d mX2_taxesOf sh [.ref pl, .int set] me (fun x m => x = condSum set (taxF me q) n ∧ m = me) := by
  obtain ⟨p0, p1, p2, p3, p4, u0, u1, u2, u3⟩ := hpl
  obtain ⟨s0, s1, s2, s3, s4, s5, r0, r1, r2, r3, r4⟩ := hq
  have key : ∀ fuel i, n - i < fuel → i ≤ n → Wa mX2_taxesOf (0, fun _ => 0) d 0 0 sh.length (PI sh (fun x m => x = condSum set (taxF me q) n ∧ m = me)) 4 [.ref pl, .int set, .int (condSum set (taxF me q) i), .int (nI i)] [] sh me 0 0 := by
    intro fuel
    induction fuel with
    | zero => intro i h; omega
    | succ fuel ih =>
      intro i hi hin
      refine ld_i3 (np := 5) dX2_taxesOf_4 rfl ?_
      refine ld_a0 (np := 6) dX2_taxesOf_5 rfl ?_
      refine wl_getr (np := 9) dX2_taxesOf_6 rfl fl_X2_23 rfl (by assumption) (by assumption) ?_
      refine wl_geti (np := 12) dX2_taxesOf_9 rfl fl_X2_63 (by decide) (by assumption) ?_
      refine wl_icmp_ge (np := 15) (tg := 49) dX2_taxesOf_12 rfl rfl (fun c_12 => ?_) (fun c_12 => ?_)
      · rw [hw, nI_le_iff (by omega) (by omega)] at c_12
        refine ld_i2 (np := 50) dX2_taxesOf_49 rfl ?_
        refine wi_ret dX2_taxesOf_50 rfl (rfl) (Nat.le_refl _) (Nat.le_refl _) ?_
        rw [show i = n by omega]
        exact ⟨rfl, rfl⟩
      · rw [hw, nI_le_iff (by omega) (by omega)] at c_12
        refine ld_i1 (np := 16) dX2_taxesOf_15 rfl ?_
        refine ld_i3 (np := 17) dX2_taxesOf_16 rfl ?_
        refine ciSN_2 (np := 20) dX2_taxesOf_17 rfl lk_X2_66 (Nat.le_of_ble_eq_true rfl) (by omega) (Nat.le_refl _) (Nat.le_refl _) (c_isIn _ _) (fun x_17 m_17 h_17 => ?_)
        obtain ⟨rfl, q_17⟩ := h_17
        have q_17 := q_17.symm
        subst q_17
        refine wl_if_eq (np := 23) (tg := 43) dX2_taxesOf_20 rfl rfl (fun c_20 => ?_) (fun c_20 => ?_)
        · have hz : (set >>> (nI i &&& 31)) &&& 1 = 0 := Classical.byContradiction fun h => by rw [if_neg h] at c_20; exact absurd c_20 (by decide)
          have e1 : condSum set (taxF me q) (i + 1) = condSum set (taxF me q) i := if_pos hz
          refine inc_3 (np := 46) (v := _ + 1) dX2_taxesOf_43 rfl rfl (by decide) rfl ?_
          refine wl_goto (tg := 4) dX2_taxesOf_46 rfl ?_
          rw [← nI_succ, ← e1]
          exact ih (i + 1) (by omega) (by omega)
        · have hz : ¬ (set >>> (nI i &&& 31)) &&& 1 = 0 := fun h => by rw [if_pos h] at c_20; exact c_20 rfl
          have e1 : condSum set (taxF me q) (i + 1) = condSum set (taxF me q) i + taxF me q i := if_neg hz
          obtain ⟨l, hl5, el⟩ := hl i (by omega)
          have e2 : gI me (q + 1) (nI i).toNatClampNeg = nI l := by rw [nI_clamp (by omega)]; exact el
          refine ld_i2 (np := 24) dX2_taxesOf_23 rfl ?_
          refine ld_a0 (np := 25) dX2_taxesOf_24 rfl ?_
          refine wl_getr (np := 28) dX2_taxesOf_25 rfl fl_X2_23 rfl (by assumption) (by assumption) ?_
          refine wl_getr (np := 31) dX2_taxesOf_28 rfl fl_X2_101 rfl (by assumption) (by assumption) ?_
          refine ld_a0 (np := 32) dX2_taxesOf_31 rfl ?_
          refine wl_getr (np := 35) dX2_taxesOf_32 rfl fl_X2_23 rfl (by assumption) (by assumption) ?_
          refine wl_getr (np := 38) dX2_taxesOf_35 rfl fl_X2_104 rfl (by assumption) (by assumption) ?_
          refine ld_i3 (np := 39) dX2_taxesOf_38 rfl ?_
          refine wl_iaload (np := 40) dX2_taxesOf_39 rfl (inA_n s1 (by omega) (by decide)) ?_
          refine wl_iaload (np := 41) dX2_taxesOf_40 rfl (e2 ▸ inA_n s5 hl5 (by decide)) ?_
          refine wl_iadd (np := 42) dX2_taxesOf_41 rfl ?_
          refine st_i2 (np := 43) dX2_taxesOf_42 rfl (by decide) rfl ?_
          refine inc_3 (np := 46) (v := _ + 1) dX2_taxesOf_43 rfl rfl (by decide) rfl ?_
          refine wl_goto (tg := 4) dX2_taxesOf_46 rfl ?_
          rw [nI_clamp (by omega), ← nI_succ]
          have e3 : condSum set (taxF me q) i + gI me (q + 5) (gI me (q + 1) i).toNatClampNeg = condSum set (taxF me q) (i + 1) := e1.symm
          rw [e3]
          exact ih (i + 1) (by omega) (by omega)
  refine CI.mk (L := [.ref pl, .int set, .float 0, .float 0]) (by decide) (Nat.le_of_ble_eq_true rfl) rfl ?_
  refine wl_iconst (np := 1) (v := 0) dX2_taxesOf_0 rfl (rfl) ?_
  refine st_i2 (np := 2) dX2_taxesOf_1 rfl (by decide) rfl ?_
  refine wl_iconst (np := 3) (v := 0) dX2_taxesOf_2 rfl (rfl) ?_
  refine st_i3 (np := 4) dX2_taxesOf_3 rfl (by decide) rfl ?_
  exact key (n + 1) 0 (by omega) (by omega)
set_option maxHeartbeats 4000000 in
set_option maxRecDepth 100000 in
theorem c_growAmounts {a : Nat} (set : Int32) (hpl : isPl sh me pl) (hwho : gR me pl 3 = some q) (hq : isP sh me q) (ha : sh[a]? = some (.inr (0, 8))) (hqa : q + 6 ≤ a) (hw : gI me q 5 = nI n) (hn : n ≤ 8) (hd : 2 ≤ d) : CV d mX2_growAmounts sh [.ref pl, .ref a, .int set] me (fun m => m = grM me q a set n) := by
  obtain ⟨p0, p1, p2, p3, p4, u0, u1, u2, u3⟩ := hpl
  obtain ⟨s0, s1, s2, s3, s4, s5, r0, r1, r2, r3, r4⟩ := hq
  have gg : ∀ i x b, x ≠ a → gI (grM me q a set i) x b = gI me x b := fun i x b h => by
    simp only [grM, g_def, g_raw]; rw [if_neg (fun hh => h hh.1)]
  have ga : ∀ i, gI (grM me q a set i) a i = gI me a i := fun i => by
    simp only [grM, g_def, g_raw]; rw [if_neg (fun hh => Nat.lt_irrefl i hh.2.1)]
  have key : ∀ fuel i, n - i < fuel → i ≤ n → Wa mX2_growAmounts (0, fun _ => 0) d 0 0 sh.length (PV sh (fun m => m = grM me q a set n)) 2 [.ref pl, .ref a, .int set, .int (nI i)] [] sh (grM me q a set i) 0 0 := by
    intro fuel
    induction fuel with
    | zero => intro i h; omega
    | succ fuel ih =>
      intro i hi hin
      refine ld_i3 (np := 3) dX2_growAmounts_2 rfl ?_
      refine ld_a0 (np := 4) dX2_growAmounts_3 rfl ?_
      refine wl_getr (np := 7) dX2_growAmounts_4 rfl fl_X2_23 rfl (by assumption) (by assumption) ?_
      refine wl_geti (np := 10) dX2_growAmounts_7 rfl fl_X2_63 (by decide) (by assumption) ?_
      refine wl_icmp_ge (np := 13) (tg := 45) dX2_growAmounts_10 rfl rfl (fun c_10 => ?_) (fun c_10 => ?_)
      · rw [gg _ _ _ (by omega), hw, nI_le_iff (by omega) (by omega)] at c_10
        refine wv_ret dX2_growAmounts_45 rfl (Nat.le_refl _) (Nat.le_refl _) ?_
        rw [show i = n by omega]
      · rw [gg _ _ _ (by omega), hw, nI_le_iff (by omega) (by omega)] at c_10
        refine ld_i2 (np := 14) dX2_growAmounts_13 rfl ?_
        refine ld_i3 (np := 15) dX2_growAmounts_14 rfl ?_
        refine ciSN_2 (np := 18) dX2_growAmounts_15 rfl lk_X2_66 (Nat.le_of_ble_eq_true rfl) (by omega) (Nat.le_refl _) (Nat.le_refl _) (c_isIn _ _) (fun x_15 m_15 h_15 => ?_)
        obtain ⟨rfl, q_15⟩ := h_15
        have q_15 := q_15.symm
        subst q_15
        refine wl_if_eq (np := 21) (tg := 39) dX2_growAmounts_18 rfl rfl (fun c_18 => ?_) (fun c_18 => ?_)
        · have hz : (set >>> (nI i &&& 31)) &&& 1 = 0 := Classical.byContradiction fun h => by rw [if_neg h] at c_18; exact absurd c_18 (by decide)
          have e1 : grM me q a set (i + 1) = grM me q a set i := by
            apply mem_ext
            · intro x b
              simp only [grM, g_def, g_raw]
              by_cases hx : x = a
              · by_cases hb : b = i
                · subst hb
                  rw [if_neg (fun hh => hh.2.2 hz), if_neg (fun hh => hh.2.2 hz)]
                · by_cases hlt : b < i
                  · simp only [hx, hlt, show b < i + 1 by omega]
                  · rw [if_neg (fun hh => by omega), if_neg (fun hh => hlt hh.2.1)]
              · rw [if_neg (fun hh => hx hh.1), if_neg (fun hh => hx hh.1)]
            · rfl
          refine inc_3 (np := 42) (v := _ + 1) dX2_growAmounts_39 rfl rfl (by decide) rfl ?_
          refine wl_goto (tg := 2) dX2_growAmounts_42 rfl ?_
          rw [← nI_succ, ← e1]
          exact ih (i + 1) (by omega) (by omega)
        · have hz : ¬ (set >>> (nI i &&& 31)) &&& 1 = 0 := fun h => by rw [if_pos h] at c_18; exact c_18 rfl
          refine ld_a1 (np := 22) dX2_growAmounts_21 rfl ?_
          refine ld_i3 (np := 23) dX2_growAmounts_22 rfl ?_
          refine ld_a1 (np := 24) dX2_growAmounts_23 rfl ?_
          refine ld_i3 (np := 25) dX2_growAmounts_24 rfl ?_
          refine wl_iaload (np := 26) dX2_growAmounts_25 rfl (inA_n ha (by omega) (by decide)) ?_
          refine ld_a0 (np := 27) dX2_growAmounts_26 rfl ?_
          refine wl_getr (np := 30) dX2_growAmounts_27 rfl fl_X2_23 rfl (by assumption) (by assumption) ?_
          refine wl_getr (np := 33) dX2_growAmounts_30 rfl fl_X2_107 rfl (by assumption) (by assumption) ?_
          refine ld_i3 (np := 34) dX2_growAmounts_33 rfl ?_
          refine wl_iaload (np := 35) dX2_growAmounts_34 rfl (inA_n s3 (by omega) (by decide)) ?_
          refine ciSN_2 (np := 38) dX2_growAmounts_35 rfl lk_X2_110 (Nat.le_of_ble_eq_true rfl) (by omega) (Nat.le_refl _) (Nat.le_refl _) (c_amountNextDay _ _ (by omega)) (fun x_35 m_35 h_35 => ?_)
          obtain ⟨rfl, q_35⟩ := h_35
          have q_35 := q_35.symm
          subst q_35
          refine wl_iastore (np := 39) dX2_growAmounts_38 rfl (inA_n ha (by omega) (by decide)) ?_
          refine inc_3 (np := 42) (v := _ + 1) dX2_growAmounts_39 rfl rfl (by decide) rfl ?_
          refine wl_goto (tg := 2) dX2_growAmounts_42 rfl ?_
          rw [nI_clamp (by omega), ga, gg _ _ _ (by omega), ← nI_succ]
          have e1 : uI (grM me q a set i) a i (growI (gI me a i) (gI me (q + 3) i)) = grM me q a set (i + 1) := by
            apply mem_ext
            · intro x b
              simp only [gI_uI, grM, g_def, g_raw]
              by_cases hx : x = a
              · by_cases hb : b = i
                · subst hb
                  rw [if_pos ⟨hx, rfl⟩, if_pos ⟨hx, by omega, hz⟩]
                · rw [if_neg (fun hh => hb hh.2)]
                  by_cases hlt : b < i
                  · simp only [hx, hlt, show b < i + 1 by omega]
                  · rw [if_neg (fun hh => hlt hh.2.1), if_neg (fun hh => by omega)]
              · rw [if_neg (fun hh => hx hh.1), if_neg (fun hh => hx hh.1), if_neg (fun hh => hx hh.1)]
            · rfl
          rw [e1]
          exact ih (i + 1) (by omega) (by omega)
  refine CV.mk (L := [.ref pl, .ref a, .int set, .float 0]) (by decide) (Nat.le_of_ble_eq_true rfl) rfl ?_
  refine wl_iconst (np := 1) (v := 0) dX2_growAmounts_0 rfl (rfl) ?_
  refine st_i3 (np := 2) dX2_growAmounts_1 rfl (by decide) rfl ?_
  have e0 : grM me q a set 0 = me := by
    apply mem_ext
    · intro x b
      simp only [grM, g_def, g_raw]
      rw [if_neg (fun hh => by omega)]
    · rfl
  have h := key (n + 1) 0 (by omega) (by omega)
  rw [e0] at h
  exact h
def keepPM (me : Mem) (pl k : Nat) (dy pd : Int32) : Mem := uA (uI (uI me pl 5 dy) pl 6 pd) (pl + 10) (va_cpy (gI me (pl + 9)) (gI me (pl + 10)) 0 0 k)
set_option maxHeartbeats 4000000 in
set_option maxRecDepth 100000 in
theorem c_P_keep {k : Nat} (dy pd : Int32) (hpl : isPl sh me pl) (hk : k ≤ 6) (hd : 2 ≤ d) : CV d mX2_keepIfBetter sh [.ref pl, .int (nI k), .int dy, .int pd] me (fun m => m = if dy < gI me pl 5 ∨ (dy = gI me pl 5 ∧ pd < gI me pl 6) then keepPM me pl k dy pd else me) := by
  obtain ⟨p0, p1, p2, p3, p4, u0, u1, u2, u3⟩ := hpl
  refine CV.mk (L := [.ref pl, .int (nI k), .int dy, .int pd]) (by decide) (Nat.le_of_ble_eq_true rfl) rfl ?_
  have k24 : (dy < gI me pl 5 ∨ (dy = gI me pl 5 ∧ pd < gI me pl 6)) → Wa mX2_keepIfBetter (0, fun _ => 0) d 0 0 sh.length (PV sh (fun m => m = if dy < gI me pl 5 ∨ (dy = gI me pl 5 ∧ pd < gI me pl 6) then keepPM me pl k dy pd else me)) 24 [.ref pl, .int (nI k), .int dy, .int pd] [] sh me 0 0 := by
    intro hh
    refine ld_a0 (np := 25) dX2_keepIfBetter_24 rfl ?_
    refine ld_i2 (np := 26) dX2_keepIfBetter_25 rfl ?_
    refine wl_puti (np := 29) dX2_keepIfBetter_26 rfl fl_X2_31 nf_2_5 rfl (by assumption) ?_
    refine ld_a0 (np := 30) dX2_keepIfBetter_29 rfl ?_
    refine ld_i3 (np := 31) dX2_keepIfBetter_30 rfl ?_
    refine wl_puti (np := 34) dX2_keepIfBetter_31 rfl fl_X2_34 nf_2_6 rfl (by assumption) ?_
    refine ld_a0 (np := 35) dX2_keepIfBetter_34 rfl ?_
    refine wl_getr (np := 38) dX2_keepIfBetter_35 rfl fl_X2_16 rfl (by assumption) (by assumption) ?_
    refine wl_iconst (np := 39) (v := 0) dX2_keepIfBetter_38 rfl (rfl) ?_
    refine ld_a0 (np := 40) dX2_keepIfBetter_39 rfl ?_
    refine wl_getr (np := 43) dX2_keepIfBetter_40 rfl fl_X2_20 rfl (by assumption) (by assumption) ?_
    refine wl_iconst (np := 44) (v := 0) dX2_keepIfBetter_43 rfl (rfl) ?_
    refine ld_i1 (np := 45) dX2_keepIfBetter_44 rfl ?_
    refine wl_copy (np := 48) dX2_keepIfBetter_45 rfl lk_X2_42 (Nat.le_of_ble_eq_true rfl) (by omega) (by assumption) (by assumption) (by decide) (by decide) (nI_pos (by omega)) (by rw [nI_clamp (by omega)]; show 0 + k ≤ 6; omega) (by rw [nI_clamp (by omega)]; show 0 + k ≤ 6; omega) ?_
    refine wv_ret dX2_keepIfBetter_48 rfl (Nat.le_refl _) (Nat.le_refl _) ?_
    rw [if_pos hh, nI_clamp (by omega)]
    unfold keepPM
    have e1 : gI (uI (uI me pl 5 dy) pl 6 pd) (pl + 9) = gI me (pl + 9) := (gI_uI_ne (by omega)).trans (gI_uI_ne (by omega))
    have e2 : gI (uI (uI me pl 5 dy) pl 6 pd) (pl + 10) = gI me (pl + 10) := (gI_uI_ne (by omega)).trans (gI_uI_ne (by omega))
    rw [e1, e2]
    rfl
  refine ld_i2 (np := 1) dX2_keepIfBetter_0 rfl ?_
  refine ld_a0 (np := 2) dX2_keepIfBetter_1 rfl ?_
  refine wl_geti (np := 5) dX2_keepIfBetter_2 rfl fl_X2_31 (by decide) (by assumption) ?_
  refine wl_icmp_lt (np := 8) (tg := 24) dX2_keepIfBetter_5 rfl rfl (fun c_5 => ?_) (fun c_5 => ?_)
  · exact k24 (Or.inl c_5)
  · refine ld_i2 (np := 9) dX2_keepIfBetter_8 rfl ?_
    refine ld_a0 (np := 10) dX2_keepIfBetter_9 rfl ?_
    refine wl_geti (np := 13) dX2_keepIfBetter_10 rfl fl_X2_31 (by decide) (by assumption) ?_
    refine wl_icmp_ne (np := 16) (tg := 48) dX2_keepIfBetter_13 rfl rfl (fun c_13 => ?_) (fun c_13 => ?_)
    · refine wv_ret dX2_keepIfBetter_48 rfl (Nat.le_refl _) (Nat.le_refl _) ?_
      rw [if_neg (fun hh => hh.elim (fun q => c_5 q) (fun q => c_13 q.1))]
    · refine ld_i3 (np := 17) dX2_keepIfBetter_16 rfl ?_
      refine ld_a0 (np := 18) dX2_keepIfBetter_17 rfl ?_
      refine wl_geti (np := 21) dX2_keepIfBetter_18 rfl fl_X2_34 (by decide) (by assumption) ?_
      refine wl_icmp_ge (np := 24) (tg := 48) dX2_keepIfBetter_21 rfl rfl (fun c_21 => ?_) (fun c_21 => ?_)
      · refine wv_ret dX2_keepIfBetter_48 rfl (Nat.le_refl _) (Nat.le_refl _) ?_
        rw [if_neg (fun hh => hh.elim (fun q => c_5 q) (fun q => Int32.not_lt.mpr c_21 q.2))]
      · exact k24 (Or.inr ⟨c_13, Int32.not_le.mp c_21⟩)
end PLAN1
end
section
theorem condSum_congr {set : Int32} {f g : Nat → Int32} : ∀ n, (∀ c, c < n → f c = g c) → condSum set f n = condSum set g n
  | 0, _ => rfl
  | n + 1, h => by
    unfold condSum
    rw [condSum_congr n (fun c hc => h c (by omega)), h n (by omega)]
/-- what a plan stands on: the planner, whose person, his rates and taxes -/
def PlS (sh : List Shp) (m : Mem) (pl q n : Nat) (off inc : Int32) (r t : Nat → Int32) : Prop :=
  isPl sh m pl ∧ gR m pl 3 = some q ∧ isP sh m q ∧ gI m q 5 = nI n ∧ gI m q 7 = inc ∧ gI m pl 4 = off ∧ (∀ c, c < n → gI m (q + 3) c = r c) ∧ (∀ c, c < n → taxF m q c = t c) ∧ (∀ c, c < n → ∃ l, l < 5 ∧ gI m (q + 1) c = nI l)
theorem PlS.fr {sh : List Shp} {m m' : Mem} {pl q n : Nat} {off inc : Int32} {r t : Nat → Int32} (h : PlS sh m pl q n off inc r t) (hq : q + 6 ≤ pl) (hO : Onl m m' pl (pl + 11)) (ho : gI m' pl 4 = gI m pl 4) : PlS sh m' pl q n off inc r t := by
  obtain ⟨h1, h2, h3, h4, h5, h6, h7, h8, h9⟩ := h
  have e : ∀ k b, k < 6 → gI m' (q + k) b = gI m (q + k) b := fun k b hk => hO.g (by omega)
  refine ⟨h1.of hO.1, by unfold gR at *; rw [hO.1]; exact h2, h3.of hO.1, (e 0 _ (by omega)).trans h4, (e 0 _ (by omega)).trans h5, ho.trans h6, fun c hc => (e 3 _ (by omega)).trans (h7 c hc), fun c hc => ?_, fun c hc => ?_⟩
  · rw [← h8 c hc]
    unfold taxF
    rw [e 1 c (by omega), e 5 _ (by omega)]
  · rw [e 1 c (by omega)]; exact h9 c hc
def RepBest (m : Mem) (pl : Nat) (B : Bpl) : Prop := gI m pl 5 = nI B.1 ∧ B.1 ≤ 361 ∧ gI m pl 6 = B.2.1 ∧ (B.1 ≤ 360 → B.2.2.length ≤ 6 ∧ ∀ i o, B.2.2[i]? = some o → gI m (pl + 10) i = nI o)
def PlPost (m m' : Mem) (pl dO dA : Nat) (B : Bpl) : Prop := Onl m m' pl (pl + 11) ∧ gI m' pl 4 = gI m pl 4 ∧ RepBest m' pl B ∧ (∀ i, i < dO → gI m' (pl + 9) i = gI m (pl + 9) i) ∧ (∀ j, j ≤ dA → gI m' (pl + 2 + j) = gI m (pl + 2 + j))
theorem foldB_app (pre : List Nat) (res : List Nat → Option (Nat × Int32)) (B : Bpl) (l1 l2 : List (List Nat)) : foldB pre res B (l1 ++ l2) = foldB pre res (foldB pre res B l1) l2 := by
  unfold foldB; rw [List.foldl_append]
theorem foldB_map (pre : List Nat) (res : List Nat → Option (Nat × Int32)) (c : Nat) (l : List (List Nat)) : ∀ B, foldB pre res B (l.map (fun o => c :: o)) = foldB (pre ++ [c]) (fun o => res (c :: o)) B l := by
  unfold foldB
  induction l with
  | nil => intro B; rfl
  | cons o l ih =>
    intro B
    rw [List.map_cons, List.foldl_cons, List.foldl_cons, ih]
    congr 1
    unfold stepB
    dsimp only
    cases res (c :: o) with
    | none => rfl
    | some x => simp only [List.append_assoc, List.singleton_append]
theorem min_nI {a : Nat} (h : a ≤ 361) : minI (nI a) 360 = nI (min a 360) := by
  unfold minI
  show (if nI 360 < nI a then nI 360 else nI a) = _
  by_cases hl : 360 < a
  · rw [if_pos (show nI 360 < nI a from (nI_ltI (by decide) (by omega)).mpr hl), show min a 360 = 360 by omega]
  · rw [if_neg (fun q => hl ((nI_ltI (by decide) (by omega)).mp (show nI 360 < nI a from q))), show min a 360 = a by omega]
def cntB (m : Nat) : Nat := ((List.range 6).filter (fun c => m.testBit c)).length
theorem cnt_rem : ∀ m, m < 64 → ∀ c, c < 6 → m.testBit c = true → cntB (m - 2 ^ c) + 1 = cntB m ∧ m - 2 ^ c < 64 ∧ (∀ e, e < 6 → (m - 2 ^ c).testBit e = true → m.testBit e = true) := by decide +kernel
theorem cnt_zero : ∀ m, m < 64 → (cntB m = 0 ↔ m = 0) := by decide +kernel
section PLAN2
variable {sh : List Shp} {d pl q n : Nat} {off inc : Int32} {r t : Nat → Int32}
/-- the contract of tryEach with k coats left -/
def TryC (sh : List Shp) (pl q n : Nat) (off inc : Int32) (r t : Nat → Int32) (k : Nat) : Prop :=
  ∀ (d mask day : Nat) (p pd : Int32) (A : Nat → Int32) (B : Bpl) (pre : List Nat) (m : Mem), 2 * k + 3 ≤ d → PlS sh m pl q n off inc r t → mask < 64 → (∀ c, c < 6 → mask.testBit c = true → c < n) → cntB mask = k → pre.length + k = n → day ≤ 360 → okp p → okA A n → (∀ i o, pre[i]? = some o → gI m (pl + 9) i = nI o) → (∀ c, c < 8 → gI m (pl + 2 + pre.length) c = A c) → RepBest m pl B →
    CV d mX2_tryEach sh [.ref pl, .int (nI pre.length), .int (nI mask), .int (nI day), .int p, .int pd] m (fun m' => PlPost m m' pl pre.length pre.length (foldB pre (fun o => sim r t inc n o mask day p A pd) B (comp off k mask)))
set_option maxHeartbeats 4000000 in
set_option maxRecDepth 100000 in
theorem c_payNext {k : Nat} (hT : TryC sh pl q n off inc r t k) (hqp : q + 6 ≤ pl) (hn6 : n ≤ 6) (hD : okD r t inc n) {mask day c : Nat} {p pd : Int32} {A : Nat → Int32} {B : Bpl} {pre : List Nat} {m : Mem} (hd : 2 * k + 4 ≤ d) (hS : PlS sh m pl q n off inc r t) (hm : mask < 64) (hbits : ∀ c, c < 6 → mask.testBit c = true → c < n) (hcnt : cntB mask = k + 1) (hpre : pre.length + (k + 1) = n) (hday : day ≤ 360) (hp : okp p) (hA : okA A n)
    (hord : ∀ i o, pre[i]? = some o → gI m (pl + 9) i = nI o) (hoc : gI m (pl + 9) pre.length = nI c) (hc : mask.testBit c = true) (hc6 : c < 6) (ham : ∀ c, c < 8 → gI m (pl + 2 + pre.length) c = A c) (hB : RepBest m pl B) :
    CV d mX2_payNext sh [.ref pl, .int (nI pre.length), .int (nI mask), .int (nI day), .int p, .int pd] m (fun m' => PlPost m m' pl (pre.length + 1) pre.length (foldB pre (fun o => sim r t inc n o mask day p A pd) B ((comp off k (mask - 2 ^ c)).map (fun o => c :: o)))) := by
  have hS0 := hS
  have hcn := hbits c hc6 hc
  obtain ⟨hpl, hwho, hq, hw, hinc, hoff, hrr, htt, hll⟩ := hS
  have hpls := hpl
  have hqs := hq
  obtain ⟨p0, p1, p2, p3, p4, u0, u1, u2, u3⟩ := hpl
  obtain ⟨s0, s1, s2, s3, s4, s5, r0, r1, r2, r3, r4⟩ := hq
  have sA0 := p2 pre.length (by omega)
  have sA1 := p2 (pre.length + 1) (by omega)
  rw [foldB_map]
  generalize hTG : foldB (pre ++ [c]) (fun o => sim r t inc n (c :: o) mask day p A pd) B (comp off k (mask - 2 ^ c)) = TG
  have hB1 := hB.1
  have hB2 := hB.2.1
  -- nothing comes of it
  have noop : ∀ (w : Nat) (h : Int32) (A' : Nat → Int32), waitU r t inc n mask c (360 - w) w h A' = waitU r t inc n mask c (360 - day) day p A → (∀ d' p' A2, waitU r t inc n mask c (360 - w) w h A' = some (d', p', A2) → min B.1 360 < d') → TG = B := by
    intro w h A' he hlate
    rw [← hTG]
    refine foldB_noop (fun o ho => ?_)
    unfold stepB
    dsimp only
    cases hsim : sim r t inc n (c :: o) mask day p A pd with
    | none => rfl
    | some x =>
      obtain ⟨dy, pd'⟩ := x
      dsimp only
      have hs := hsim
      unfold sim at hs
      cases hwt : waitU r t inc n mask c (360 - day) day p A with
      | none => rw [hwt] at hs; cases hs
      | some y =>
        obtain ⟨d', p', A2⟩ := y
        rw [hwt] at hs
        have h1 := hlate d' p' A2 (he.trans hwt)
        have h2 := waitU_day r t inc n mask c _ _ _ _ _ _ _ hwt
        have h3 := sim_day r t inc n o _ d' _ _ _ dy pd' (by omega) hs
        unfold keepB
        rw [if_neg (by omega)]
  -- the loop
  have key : ∀ fuel (w : Nat) (h : Int32) (A' : Nat → Int32) (mm : Mem), min B.1 360 - w < fuel → w ≤ 360 → okp h → okA A' n → waitU r t inc n mask c (360 - w) w h A' = waitU r t inc n mask c (360 - day) day p A → Onl m mm pl (pl + 11) → gI mm pl = gI m pl → gI mm (pl + 9) = gI m (pl + 9) → gI mm (pl + 10) = gI m (pl + 10) → (∀ j, j ≤ pre.length → gI mm (pl + 2 + j) = gI m (pl + 2 + j)) → (∀ e, e < 8 → gI mm (pl + 2 + (pre.length + 1)) e = A' e) →
      Wa mX2_payNext (0, fun _ => 0) d 0 0 sh.length (PV sh (fun m' => PlPost m m' pl (pre.length + 1) pre.length TG)) 75 [.ref pl, .int (nI pre.length), .int (nI mask), .int (nI day), .int p, .int pd, .ref (pl + 2 + (pre.length + 1)), .int (nI c), .int (taxN t n mask), .int (maxI (inc - taxN t n mask) 0), .int (nI (min B.1 360)), .int (nI w), .int h, .float 0] [] sh mm 0 0 := by
    intro fuel
    induction fuel with
    | zero => intro w h A' mm hf; omega
    | succ fuel ih =>
      intro w h A' mm hf hw0 hh hA' he hO hpe hoe hbe hje hae
      obtain ⟨I1, R1⟩ := mm
      obtain rfl : R1 = m.2 := hO.1
      have hBm : RepBest (I1, m.2) pl B := by
        obtain ⟨b1, b2, b3, b4⟩ := hB
        exact ⟨(congrFun hpe 5).trans b1, b2, (congrFun hpe 6).trans b3, fun h => ⟨(b4 h).1, fun i o ho => (congrFun hbe i).trans ((b4 h).2 i o ho)⟩⟩
      have post0 : TG = B → PlPost m (I1, m.2) pl (pre.length + 1) pre.length TG := fun hTB => ⟨hO, congrFun hpe 4, hTB ▸ hBm, fun i _ => congrFun hoe i, hje⟩
      have hac : gI (I1, m.2) (pl + 2 + (pre.length + 1)) (nI c).toNatClampNeg = A' c := by rw [nI_clamp (by omega)]; exact hae c (by omega)
      have ia : inA sh (pl + 2 + (pre.length + 1)) (nI c) := inA_n sA1 (by omega) (by decide)
      have k141 : (¬ h < A' c ∨ min B.1 360 ≤ w) → Wa mX2_payNext (0, fun _ => 0) d 0 0 sh.length (PV sh (fun m' => PlPost m m' pl (pre.length + 1) pre.length TG)) 141 [.ref pl, .int (nI pre.length), .int (nI mask), .int (nI day), .int p, .int pd, .ref (pl + 2 + (pre.length + 1)), .int (nI c), .int (taxN t n mask), .int (maxI (inc - taxN t n mask) 0), .int (nI (min B.1 360)), .int (nI w), .int h, .float 0] [] sh (I1, m.2) 0 0 := by
        intro hcase
        refine ld_a6 (np := 143) dX2_payNext_141 rfl ?_
        refine ld_i7 (np := 145) dX2_payNext_143 rfl ?_
        refine wl_iaload (np := 146) dX2_payNext_145 rfl (ia) ?_
        refine st_i13 (np := 148) dX2_payNext_146 rfl (by decide) rfl ?_
        rw [hac]
        refine ld_i12 (np := 150) dX2_payNext_148 rfl ?_
        refine ld_i13 (np := 152) dX2_payNext_150 rfl ?_
        refine wl_icmp_lt (np := 155) (tg := 182) dX2_payNext_152 rfl rfl (fun c_152 => ?_) (fun c_152 => ?_)
        · refine wv_ret dX2_payNext_182 rfl (Nat.le_refl _) (Nat.le_refl _) ?_
          refine post0 (noop w h A' he (fun d' p' A2 hwt => ?_))
          have h2 := waitU_day r t inc n mask c _ _ _ _ _ _ _ hwt
          have h3 := h2.2.2.2 c_152
          rcases hcase with h4 | h4
          · exact absurd c_152 h4
          · omega
        · have hwt : waitU r t inc n mask c (360 - w) w h A' = some (w, h, A') := by
            cases 360 - w with
            | zero => exact if_neg c_152
            | succ k => exact if_neg c_152
          have hcr := cnt_rem mask hm c hc6 hc
          have hlt : (A' c).toInt ≤ h.toInt := by
            have : ¬ h.toInt < (A' c).toInt := fun q => c_152 (Int32.lt_iff_toInt_lt.mpr q)
            omega
          have hokp : okp (h - A' c) := by
            unfold okp at hh ⊢
            have := hA' c hcn
            rw [ti_sub (by omega) (by omega)]
            omega
          have hSm : PlS sh (I1, m.2) pl q n off inc r t := hS0.fr hqp hO (congrFun hpe 4)
          have hsub : sim r t inc n = sim r t inc n := rfl
          have hTG2 : TG = foldB (pre ++ [c]) (fun o => sim r t inc n o (mask - 2 ^ c) w (h - A' c) A' (pd + A' c)) B (comp off k (mask - 2 ^ c)) := by
            rw [← hTG]
            congr 1
            funext o
            conv => lhs; unfold sim
            rw [← he, hwt]
          have hlen : (pre ++ [c]).length = pre.length + 1 := by simp
          have hcall := hT (d - 1) (mask - 2 ^ c) w (h - A' c) (pd + A' c) A' B (pre ++ [c]) (I1, m.2) (by omega) hSm hcr.2.1 (fun e he6 hb => hbits e he6 (hcr.2.2 e he6 hb)) (by omega) (by omega) hw0 hokp hA' (fun i o ho => ?_) (fun e he8 => by rw [hlen]; exact hae e he8) hBm
          · rw [hlen, nI_succ] at hcall
            refine ld_a0 (np := 156) dX2_payNext_155 rfl ?_
            refine ld_i1 (np := 157) dX2_payNext_156 rfl ?_
            refine wl_iconst (np := 158) (v := 1) dX2_payNext_157 rfl (rfl) ?_
            refine wl_iadd (np := 159) dX2_payNext_158 rfl ?_
            refine ld_i2 (np := 160) dX2_payNext_159 rfl ?_
            refine wl_iconst (np := 161) (v := 1) dX2_payNext_160 rfl (rfl) ?_
            refine ld_i7 (np := 163) dX2_payNext_161 rfl ?_
            refine wl_ishl (np := 164) dX2_payNext_163 rfl ?_
            refine wl_iconst (np := 165) (v := -1) dX2_payNext_164 rfl (rfl) ?_
            refine wl_ixor (np := 166) dX2_payNext_165 rfl ?_
            refine wl_iand (np := 167) dX2_payNext_166 rfl ?_
            refine ld_i11 (np := 169) dX2_payNext_167 rfl ?_
            refine ld_i12 (np := 171) dX2_payNext_169 rfl ?_
            refine ld_i13 (np := 173) dX2_payNext_171 rfl ?_
            refine wl_isub (np := 174) dX2_payNext_173 rfl ?_
            refine ld_i5 (np := 176) dX2_payNext_174 rfl ?_
            refine ld_i13 (np := 178) dX2_payNext_176 rfl ?_
            refine wl_iadd (np := 179) dX2_payNext_178 rfl ?_
            refine cvV_5 (np := 182) dX2_payNext_179 rfl lk_X2_55 (by assumption) (Nat.le_of_ble_eq_true rfl) (by omega) (Nat.le_refl _) (Nat.le_refl _) (by rw [rem_all mask hm c hc6 hc]; exact hcall) (fun m_179 h_179 => ?_)
            obtain ⟨e1, e2, e3, e4, e5⟩ := h_179
            refine wv_ret dX2_payNext_182 rfl (Nat.le_refl _) (Nat.le_refl _) ?_
            rw [hTG2]
            refine ⟨hO.tr e1, e2.trans (congrFun hpe 4), e3, fun i hi => (e4 i hi).trans (congrFun hoe i), fun j hj => (e5 j (by omega)).trans (hje j hj)⟩
          · rw [congrFun hoe i]
            by_cases hi : i < pre.length
            · rw [List.getElem?_append_left hi] at ho
              exact hord i o ho
            · rw [List.getElem?_append_right (by omega)] at ho
              have hz : i - pre.length < 1 := (List.getElem?_eq_some_iff.mp ho).1
              have hie : i = pre.length := by omega
              subst hie
              rw [Nat.sub_self] at ho
              cases ho
              exact hoc
      refine ld_i12 (np := 77) dX2_payNext_75 rfl ?_
      refine ld_a6 (np := 79) dX2_payNext_77 rfl ?_
      refine ld_i7 (np := 81) dX2_payNext_79 rfl ?_
      refine wl_iaload (np := 82) dX2_payNext_81 rfl (ia) ?_
      refine wl_icmp_ge (np := 85) (tg := 141) dX2_payNext_82 rfl rfl (fun c_82 => ?_) (fun c_82 => ?_)
      · rw [hac] at c_82
        exact k141 (Or.inl (Int32.not_lt.mpr c_82))
      · rw [hac] at c_82
        have hlt : h < A' c := Int32.not_le.mp c_82
        refine ld_i11 (np := 87) dX2_payNext_85 rfl ?_
        refine ld_i10 (np := 89) dX2_payNext_87 rfl ?_
        refine wl_icmp_ge (np := 92) (tg := 141) dX2_payNext_89 rfl rfl (fun c_89 => ?_) (fun c_89 => ?_)
        · rw [nI_le_iff (by omega) (by omega)] at c_89
          exact k141 (Or.inr c_89)
        · rw [nI_le_iff (by omega) (by omega)] at c_89
          have hb := tax_b hD (by omega) (nI mask) n (Nat.le_refl _)
          have hg : (maxI (inc - taxN t n mask) 0).toInt = max (inc.toInt - (taxN t n mask).toInt) 0 := by
            have h1 := hD.1
            have e0 : (0 : Int32).toInt = 0 := rfl
            have hb2 : 0 ≤ (taxN t n mask).toInt ∧ (taxN t n mask).toInt ≤ 9 * n := hb
            rw [ti_max, ti_sub (by omega) (by omega), e0]
          have hgb : 0 ≤ (maxI (inc - taxN t n mask) 0).toInt ∧ (maxI (inc - taxN t n mask) 0).toInt ≤ 99 := by
            have h1 := hD.1
            have hb2 : 0 ≤ (taxN t n mask).toInt ∧ (taxN t n mask).toInt ≤ 9 * n := hb
            rw [hg]
            omega
          have esub : nI (min B.1 360) - nI w = nI (min B.1 360 - w) := pk_sub (by omega)
          have emul : (maxI (inc - taxN t n mask) 0 * nI (min B.1 360 - w)).toInt = max (inc.toInt - (taxN t n mask).toInt) 0 * ((min B.1 360 - w : Nat) : Int) := by
            have e1 : (nI (min B.1 360 - w)).toInt = ((min B.1 360 - w : Nat) : Int) := nI_toInt (by omega)
            have hm1 : (maxI (inc - taxN t n mask) 0).toInt * (nI (min B.1 360 - w)).toInt ≤ 99 * 360 := by
              rw [e1]
              exact Int.mul_le_mul hgb.2 (by omega) (by omega) (by omega)
            have hm0 : 0 ≤ (maxI (inc - taxN t n mask) 0).toInt * (nI (min B.1 360 - w)).toInt := Int.mul_nonneg hgb.1 (by rw [e1]; omega)
            rw [ti_mul (by omega) (by omega), e1, hg]
          have emb : 0 ≤ (maxI (inc - taxN t n mask) 0 * nI (min B.1 360 - w)).toInt ∧ (maxI (inc - taxN t n mask) 0 * nI (min B.1 360 - w)).toInt ≤ 99 * 360 := by
            rw [emul, ← hg]
            exact ⟨Int.mul_nonneg hgb.1 (by omega), Int.mul_le_mul hgb.2 (by omega) (by omega) (by omega)⟩
          refine ld_i12 (np := 94) dX2_payNext_92 rfl ?_
          refine ld_i9 (np := 96) dX2_payNext_94 rfl ?_
          refine ld_i10 (np := 98) dX2_payNext_96 rfl ?_
          refine ld_i11 (np := 100) dX2_payNext_98 rfl ?_
          refine wl_isub (np := 101) dX2_payNext_100 rfl ?_
          refine wl_imul (np := 102) dX2_payNext_101 rfl ?_
          refine wl_iadd (np := 103) dX2_payNext_102 rfl ?_
          refine ld_a6 (np := 105) dX2_payNext_103 rfl ?_
          refine ld_i7 (np := 107) dX2_payNext_105 rfl ?_
          refine wl_iaload (np := 108) dX2_payNext_107 rfl (ia) ?_
          refine wl_icmp_ge (np := 111) (tg := 112) dX2_payNext_108 rfl rfl (fun c_108 => ?_) (fun c_108 => ?_)
          · -- goes on
            have hSm : PlS sh (I1, m.2) pl q n off inc r t := hS0.fr hqp hO (congrFun hpe 4)
            have hin2 := hSm.2.2.2.2.1
            obtain ⟨q1, q2⟩ := okp_purse (m := mask) hD (by omega) hh
            obtain ⟨g1, g2⟩ := okA_grow (m := mask) hD hA'
            refine ld_i12 (np := 114) dX2_payNext_112 rfl ?_
            refine ld_a0 (np := 115) dX2_payNext_114 rfl ?_
            refine wl_getr (np := 118) dX2_payNext_115 rfl fl_X2_23 rfl (by assumption) (by assumption) ?_
            refine wl_geti (np := 121) dX2_payNext_118 rfl fl_X2_81 (by decide) (by assumption) ?_
            refine ld_i8 (np := 123) dX2_payNext_121 rfl ?_
            refine ciSN_3 (np := 126) dX2_payNext_123 rfl lk_X2_93 (Nat.le_of_ble_eq_true rfl) (by omega) (Nat.le_refl _) (Nat.le_refl _) (c_purseNextDay _ _ _ (by omega)) (fun x_123 m_123 h_123 => ?_)
            obtain ⟨rfl, q_123⟩ := h_123
            have q_123 := q_123.symm
            subst q_123
            refine st_i12 (np := 128) dX2_payNext_126 rfl (by decide) rfl ?_
            refine ld_a0 (np := 129) dX2_payNext_128 rfl ?_
            refine ld_a6 (np := 131) dX2_payNext_129 rfl ?_
            refine ld_i2 (np := 132) dX2_payNext_131 rfl ?_
            refine cvV_2 (np := 135) dX2_payNext_132 rfl lk_X2_97 (by assumption) (Nat.le_of_ble_eq_true rfl) (by omega) (Nat.le_refl _) (Nat.le_refl _) (c_growAmounts (nI mask) hSm.1 hSm.2.1 hSm.2.2.1 sA1 (by omega) hSm.2.2.2.1 (by omega) (by omega)) (fun m_132 h_132 => ?_)
            have q_132 := h_132.symm
            subst q_132
            refine inc_11 (np := 138) (v := _ + 1) dX2_payNext_135 rfl rfl (by decide) rfl ?_
            refine wl_goto (tg := 75) dX2_payNext_138 rfl ?_
            rw [hin2, ← nI_succ]
            have gne : ∀ x, x ≠ pl + 2 + (pre.length + 1) → gI (grM (I1, m.2) q (pl + 2 + (pre.length + 1)) (nI mask) n) x = gI (I1, m.2) x := fun x hx => by
              funext b
              simp only [grM, g_def, g_raw]
              rw [if_neg (fun hh => hx hh.1)]
            refine ih (w + 1) _ (growN r n mask A') _ (by omega) (by omega) q1 g1 ?_ ⟨rfl, fun x hx => ?_⟩ ((gne _ (by omega)).trans hpe) ((gne _ (by omega)).trans hoe) ((gne _ (by omega)).trans hbe) (fun j hj => (gne _ (by omega)).trans (hje j hj)) (fun e he8 => ?_)
            · rw [← he, show 360 - w = (360 - (w + 1)) + 1 by omega]
              exact (if_pos hlt).symm
            · exact (gne x (by omega)).trans (hO.2 x hx)
            · simp only [grM, g_def, g_raw]
              unfold growN
              by_cases hen : e < n
              · have hbt := bit_all mask hm e (by omega)
                by_cases htb : mask.testBit e = true
                · rw [if_pos ⟨by first | trivial | rfl, hen, fun q => by rw [hbt.mp q] at htb; cases htb⟩, if_pos ⟨hen, htb⟩, show I1 (pl + 2 + (pre.length + 1)) e = A' e from hae e he8, show I1 (q + 3) e = r e from hSm.2.2.2.2.2.2.1 e hen]
                · rw [if_neg (fun hh => hh.2.2 (hbt.mpr (by simpa using htb))), if_neg (fun hh => htb hh.2)]
                  exact hae e he8
              · rw [if_neg (fun hh => hen hh.2.1), if_neg (fun hh => hen hh.1)]
                exact hae e he8
          · -- gives up
            rw [hac, esub] at c_108
            refine wv_ret dX2_payNext_111 rfl (Nat.le_refl _) (Nat.le_refl _) ?_
            refine post0 (noop w h A' he (fun d' p' A2 hwt => ?_))
            have hlt2 := Int32.lt_iff_toInt_lt.mp (Int32.not_le.mp c_108)
            have hh1 := hh.1
            have hh2 := hh.2
            rw [ti_add (by omega) (by omega), emul] at hlt2
            exact wait_late hD (by omega) hcn _ w h A' (min B.1 360) d' p' A2 hh hA' hlt2 hwt
  refine CV.mk (L := [.ref pl, .int (nI pre.length), .int (nI mask), .int (nI day), .int p, .int pd, .float 0, .float 0, .float 0, .float 0, .float 0, .float 0, .float 0, .float 0]) (by decide) (Nat.le_of_ble_eq_true rfl) rfl ?_
  refine ld_a0 (np := 1) dX2_payNext_0 rfl ?_
  refine wl_getr (np := 4) dX2_payNext_1 rfl fl_X2_11 rfl (by assumption) (by first | assumption | (rw [← nI_succ, nI_clamp (by omega)]; exact u3 _ (by omega)) | (rw [nI_clamp (by omega)]; exact u3 _ (by omega))) ?_
  refine ld_i1 (np := 5) dX2_payNext_4 rfl ?_
  refine wl_iconst (np := 6) (v := 1) dX2_payNext_5 rfl (rfl) ?_
  refine wl_iadd (np := 7) dX2_payNext_6 rfl ?_
  refine wl_aaload (np := 8) dX2_payNext_7 rfl (by assumption) (by decide) (nI_succ pre.length ▸ vp_in_nI (by omega) (by decide)) (by first | assumption | (rw [← nI_succ, nI_clamp (by omega)]; exact u3 _ (by omega)) | (rw [nI_clamp (by omega)]; exact u3 _ (by omega))) ?_
  refine st_a6 (np := 10) dX2_payNext_8 rfl (by decide) rfl ?_
  refine ld_a0 (np := 11) dX2_payNext_10 rfl ?_
  refine wl_getr (np := 14) dX2_payNext_11 rfl fl_X2_11 rfl (by assumption) (by first | assumption | (rw [← nI_succ, nI_clamp (by omega)]; exact u3 _ (by omega)) | (rw [nI_clamp (by omega)]; exact u3 _ (by omega))) ?_
  refine ld_i1 (np := 15) dX2_payNext_14 rfl ?_
  refine wl_aaload (np := 16) dX2_payNext_15 rfl (by assumption) (by decide) (vp_in_nI (by omega) (by decide)) (by first | assumption | (rw [← nI_succ, nI_clamp (by omega)]; exact u3 _ (by omega)) | (rw [nI_clamp (by omega)]; exact u3 _ (by omega))) ?_
  refine wl_iconst (np := 17) (v := 0) dX2_payNext_16 rfl (rfl) ?_
  refine ld_a6 (np := 19) dX2_payNext_17 rfl ?_
  refine wl_iconst (np := 20) (v := 0) dX2_payNext_19 rfl (rfl) ?_
  refine wl_bipush (np := 22) (v := 8) dX2_payNext_20 rfl (by decide) ?_
  refine wl_copy (np := 25) dX2_payNext_22 rfl lk_X2_42 (Nat.le_of_ble_eq_true rfl) (by omega) (by assumption) (by assumption) (by decide) (by decide) (by decide) (Nat.le_of_ble_eq_true rfl) (Nat.le_of_ble_eq_true rfl) ?_
  have mne : ∀ x, x ≠ pl + 2 + (pre.length + 1) → gI (uA m (pl + 2 + (pre.length + 1)) (va_cpy (gI m (pl + 2 + pre.length)) (gI m (pl + 2 + (pre.length + 1))) (0 : Int32).toNatClampNeg (0 : Int32).toNatClampNeg (8 : Int32).toNatClampNeg)) x = gI m x := fun x hx => by
    funext b
    rw [gI_uA, if_neg hx]
  have mae : ∀ e, e < 8 → gI (uA m (pl + 2 + (pre.length + 1)) (va_cpy (gI m (pl + 2 + pre.length)) (gI m (pl + 2 + (pre.length + 1))) (0 : Int32).toNatClampNeg (0 : Int32).toNatClampNeg (8 : Int32).toNatClampNeg)) (pl + 2 + (pre.length + 1)) e = A e := fun e he => by
    rw [gI_uA, if_pos rfl]
    have e0 : (0 : Int32).toNatClampNeg = 0 := rfl
    have e8 : (8 : Int32).toNatClampNeg = 8 := rfl
    unfold va_cpy
    rw [e0, e8, if_pos (by omega), Nat.zero_add, Nat.sub_zero]
    exact ham e he
  have mO : Onl m (uA m (pl + 2 + (pre.length + 1)) (va_cpy (gI m (pl + 2 + pre.length)) (gI m (pl + 2 + (pre.length + 1))) (0 : Int32).toNatClampNeg (0 : Int32).toNatClampNeg (8 : Int32).toNatClampNeg)) pl (pl + 11) := ⟨rfl, fun x hx => mne x (by omega)⟩
  generalize hM1 : uA m (pl + 2 + (pre.length + 1)) (va_cpy (gI m (pl + 2 + pre.length)) (gI m (pl + 2 + (pre.length + 1))) (0 : Int32).toNatClampNeg (0 : Int32).toNatClampNeg (8 : Int32).toNatClampNeg) = m1 at mne mae mO ⊢
  obtain ⟨I1, R1⟩ := m1
  obtain rfl : R1 = m.2 := mO.1
  have hSm : PlS sh (I1, m.2) pl q n off inc r t := hS0.fr hqp mO (congrFun (mne pl (by omega)) 4)
  have hoc1 : gI (I1, m.2) (pl + 9) (nI pre.length).toNatClampNeg = nI c := by rw [nI_clamp (by omega), congrFun (mne (pl + 9) (by omega))]; exact hoc
  refine ld_a0 (np := 26) dX2_payNext_25 rfl ?_
  refine wl_getr (np := 29) dX2_payNext_26 rfl fl_X2_16 rfl (by assumption) (by assumption) ?_
  refine ld_i1 (np := 30) dX2_payNext_29 rfl ?_
  refine wl_iaload (np := 31) dX2_payNext_30 rfl (inA_n p3 (by omega) (by decide)) ?_
  refine st_i7 (np := 33) dX2_payNext_31 rfl (by decide) rfl ?_
  refine ld_a0 (np := 34) dX2_payNext_33 rfl ?_
  refine ld_i2 (np := 35) dX2_payNext_34 rfl ?_
  refine ciV_1 (np := 38) dX2_payNext_35 rfl lk_X2_77 (by assumption) (Nat.le_of_ble_eq_true rfl) (by omega) (Nat.le_refl _) (Nat.le_refl _) (c_taxesOf (nI mask) hSm.1 hSm.2.1 hSm.2.2.1 hSm.2.2.2.1 (by omega) hSm.2.2.2.2.2.2.2.2 (by omega)) (fun x_35 m_35 h_35 => ?_)
  obtain ⟨rfl, q_35⟩ := h_35
  have q_35 := q_35.symm
  subst q_35
  refine st_i8 (np := 40) dX2_payNext_38 rfl (by decide) rfl ?_
  refine ld_a0 (np := 41) dX2_payNext_40 rfl ?_
  refine wl_getr (np := 44) dX2_payNext_41 rfl fl_X2_23 rfl (by assumption) (by assumption) ?_
  refine wl_geti (np := 47) dX2_payNext_44 rfl fl_X2_81 (by decide) (by assumption) ?_
  refine ld_i8 (np := 49) dX2_payNext_47 rfl ?_
  refine wl_isub (np := 50) dX2_payNext_49 rfl ?_
  refine wl_iconst (np := 51) (v := 0) dX2_payNext_50 rfl (rfl) ?_
  refine wl_max (np := 54) dX2_payNext_51 rfl lk_X2_84 (Nat.le_of_ble_eq_true rfl) (by omega) (Nat.le_refl _) (Nat.le_refl _) ?_
  refine st_i9 (np := 56) dX2_payNext_54 rfl (by decide) rfl ?_
  refine ld_a0 (np := 57) dX2_payNext_56 rfl ?_
  refine wl_geti (np := 60) dX2_payNext_57 rfl fl_X2_31 (by decide) (by assumption) ?_
  refine wl_sipush (np := 63) (v := 360) dX2_payNext_60 rfl (by decide) ?_
  refine wl_min (np := 66) dX2_payNext_63 rfl lk_X2_90 (Nat.le_of_ble_eq_true rfl) (by omega) (Nat.le_refl _) (Nat.le_refl _) ?_
  refine st_i10 (np := 68) dX2_payNext_66 rfl (by decide) rfl ?_
  refine ld_i3 (np := 69) dX2_payNext_68 rfl ?_
  refine st_i11 (np := 71) dX2_payNext_69 rfl (by decide) rfl ?_
  refine ld_i4 (np := 73) dX2_payNext_71 rfl ?_
  refine st_i12 (np := 75) dX2_payNext_73 rfl (by decide) rfl ?_
  rw [hoc1, condSum_congr n hSm.2.2.2.2.2.2.2.1, hSm.2.2.2.2.1, congrFun (mne pl (by omega)) 5, hB1]
  have hmn := min_nI hB2
  unfold minI at hmn
  rw [hmn]
  exact key 400 day p A _ (by omega) hday hp hA rfl mO (mne pl (by omega)) (mne _ (by omega)) (mne _ (by omega)) (fun j hj => mne _ (by omega)) mae
end PLAN2
end
section
def nxF (off : Int32) (m c : Nat) : List Nat := (List.range' c (6 - c)).filter (fun c => m.testBit c && mayN off m c)
theorem nxF_0 (off : Int32) (m : Nat) : nxF off m 0 = nexts off m := rfl
theorem nxF_step {off : Int32} {m c : Nat} (hc : c < 6) : nxF off m c = if (m.testBit c && mayN off m c) = true then c :: nxF off m (c + 1) else nxF off m (c + 1) := by
  unfold nxF
  rw [show 6 - c = (6 - (c + 1)) + 1 by omega, List.range'_succ, List.filter_cons]
theorem nxF_end {off : Int32} {m n c : Nat} (hb : ∀ c, c < 6 → m.testBit c = true → c < n) (hc : n ≤ c) : nxF off m c = [] := by
  unfold nxF
  rw [List.filter_eq_nil_iff]
  intro e he
  rw [List.mem_range'_1] at he
  intro q
  simp only [Bool.and_eq_true] at q
  have := hb e (by omega) q.1
  omega
section PLAN3
variable {sh : List Shp} {pl q n : Nat} {off inc : Int32} {r t : Nat → Int32}
set_option maxHeartbeats 4000000 in
set_option maxRecDepth 100000 in
theorem c_tryEach (hqp : q + 6 ≤ pl) (hn6 : n ≤ 6) (hD : okD r t inc n) : ∀ k, TryC sh pl q n off inc r t k := by
  intro k
  induction k with
  | zero =>
    intro d mask day p pd A B pre m hd hS hm hbits hcnt hpre hday hp hA hord ham hB
    have hm0 : mask = 0 := (cnt_zero mask hm).mp hcnt
    subst hm0
    obtain ⟨hpl, hwho, hq, hw, hinc, hoff, hrr, htt, hll⟩ := hS
    have hpls := hpl
    obtain ⟨p0, p1, p2, p3, p4, u0, u1, u2, u3⟩ := hpl
    refine CV.mk (L := [.ref pl, .int (nI pre.length), .int (nI 0), .int (nI day), .int p, .int pd, .float 0]) (by decide) (Nat.le_of_ble_eq_true rfl) rfl ?_
    refine ld_i2 (np := 1) dX2_tryEach_0 rfl ?_
    refine wl_if_ne (np := 4) (tg := 13) dX2_tryEach_1 rfl rfl (fun c_1 => ?_) (fun c_1 => ?_)
    · exact absurd rfl c_1
    · refine ld_a0 (np := 5) dX2_tryEach_4 rfl ?_
      refine ld_i1 (np := 6) dX2_tryEach_5 rfl ?_
      refine ld_i3 (np := 7) dX2_tryEach_6 rfl ?_
      refine ld_i5 (np := 9) dX2_tryEach_7 rfl ?_
      refine cvV_3 (np := 12) dX2_tryEach_9 rfl lk_X2_59 (by assumption) (Nat.le_of_ble_eq_true rfl) (by omega) (Nat.le_refl _) (Nat.le_refl _) (c_P_keep (k := pre.length) (nI day) pd hpls (by omega) (by omega)) (fun m_9 h_9 => ?_)
      have hfold : foldB pre (fun o => sim r t inc n o 0 day p A pd) B (comp off 0 0) = keepB B day pd (pre ++ []) := rfl
      obtain ⟨b1, b2, b3, b4⟩ := hB
      have hcond : (nI day < gI m pl 5 ∨ (nI day = gI m pl 5 ∧ pd < gI m pl 6)) ↔ (day < B.1 ∨ (day = B.1 ∧ pd < B.2.1)) := by
        rw [b1, b3, nI_ltI (by omega) (by omega), nI_eq (by omega) (by omega)]
      refine wv_ret dX2_tryEach_12 rfl (Nat.le_refl _) (Nat.le_refl _) ?_
      rw [hfold, List.append_nil, h_9]
      unfold keepB
      by_cases hh : day < B.1 ∨ (day = B.1 ∧ pd < B.2.1)
      · rw [if_pos hh, if_pos (hcond.mpr hh)]
        have e0 : ∀ x, x ≠ pl → x ≠ pl + 10 → gI (keepPM m pl pre.length (nI day) pd) x = gI m x := fun x h1 h2 => by
          funext b
          unfold keepPM
          rw [gI_uA, if_neg h2, gI_uI_ne h1, gI_uI_ne h1]
        refine ⟨⟨rfl, fun x hx => e0 x (by omega) (by omega)⟩, ?_, ⟨?_, by dsimp only; omega, ?_, fun _ => ⟨by dsimp only; omega, fun i o ho => ?_⟩⟩, fun i hi => congrFun (e0 _ (by omega) (by omega)) i, fun j hj => e0 _ (by omega) (by omega)⟩
        · unfold keepPM; rw [gI_uA, if_neg (by omega), gI_uI_nb (by omega), gI_uI_nb (by omega)]
        · unfold keepPM; rw [gI_uA, if_neg (by omega), gI_uI_nb (by omega), gI_uI_self]
        · unfold keepPM; rw [gI_uA, if_neg (by omega), gI_uI_self]
        · have hi : i < pre.length := (List.getElem?_eq_some_iff.mp ho).1
          unfold keepPM
          rw [gI_uA, if_pos rfl]
          unfold va_cpy
          rw [if_pos (by omega), Nat.zero_add, Nat.sub_zero]
          exact hord i o ho
      · rw [if_neg hh, if_neg (fun q => hh (hcond.mp q))]
        exact ⟨Onl.rf, rfl, ⟨b1, b2, b3, b4⟩, fun _ _ => rfl, fun _ _ => rfl⟩
  | succ k ihk =>
    intro d mask day p pd A B pre m hd hS hm hbits hcnt hpre hday hp hA hord ham hB
    have hm0 : mask ≠ 0 := fun q => by rw [(cnt_zero mask hm).mpr q] at hcnt; omega
    have hS0 := hS
    obtain ⟨hpl, hwho, hq, hw, hinc, hoff, hrr, htt, hll⟩ := hS
    obtain ⟨p0, p1, p2, p3, p4, u0, u1, u2, u3⟩ := hpl
    have sP := hq.1
    generalize hTG : foldB pre (fun o => sim r t inc n o mask day p A pd) B (comp off (k + 1) mask) = TG
    have key : ∀ fuel c (mm : Mem) (B' : Bpl), n - c < fuel → c ≤ n → PlPost m mm pl pre.length pre.length B' → foldB pre (fun o => sim r t inc n o mask day p A pd) B' ((nxF off mask c).flatMap (fun c => (comp off k (mask - 2 ^ c)).map (fun o => c :: o))) = TG →
        Wa mX2_tryEach (0, fun _ => 0) d 0 0 sh.length (PV sh (fun m' => PlPost m m' pl pre.length pre.length TG)) 30 [.ref pl, .int (nI pre.length), .int (nI mask), .int (nI day), .int p, .int pd, .int (nI c)] [] sh mm 0 0 := by
      intro fuel
      induction fuel with
      | zero => intro c mm B' hf; omega
      | succ fuel ih =>
        intro c mm B' hf hcn hpost hfo
        obtain ⟨hO, ho4, hBm, hor, hje⟩ := id hpost
        obtain ⟨I1, R1⟩ := mm
        obtain rfl : R1 = m.2 := hO.1
        have hSm : PlS sh (I1, m.2) pl q n off inc r t := hS0.fr hqp hO ho4
        have hw1 := hSm.2.2.2.1
        have ho1 := hSm.2.2.2.2.2.1
        refine ld_i6 (np := 32) dX2_tryEach_30 rfl ?_
        refine ld_a0 (np := 33) dX2_tryEach_32 rfl ?_
        refine wl_getr (np := 36) dX2_tryEach_33 rfl fl_X2_23 rfl (by assumption) (by assumption) ?_
        refine wl_geti (np := 39) dX2_tryEach_36 rfl fl_X2_63 (by decide) (by assumption) ?_
        refine wl_icmp_ge (np := 42) (tg := 89) dX2_tryEach_39 rfl rfl (fun c_39 => ?_) (fun c_39 => ?_)
        · rw [hw1, nI_le_iff (by omega) (by omega)] at c_39
          refine wv_ret dX2_tryEach_89 rfl (Nat.le_refl _) (Nat.le_refl _) ?_
          rw [nxF_end hbits c_39] at hfo
          have : B' = TG := hfo
          rw [← this]
          exact hpost
        · rw [hw1, nI_le_iff (by omega) (by omega)] at c_39
          rw [nxF_step (by omega)] at hfo
          have skip : ¬ (mask.testBit c && mayN off mask c) = true → Wa mX2_tryEach (0, fun _ => 0) d 0 0 sh.length (PV sh (fun m' => PlPost m m' pl pre.length pre.length TG)) 83 [.ref pl, .int (nI pre.length), .int (nI mask), .int (nI day), .int p, .int pd, .int (nI c)] [] sh (I1, m.2) 0 0 := by
            intro hno
            rw [if_neg hno] at hfo
            refine inc_6 (np := 86) (v := _ + 1) dX2_tryEach_83 rfl rfl (by decide) rfl ?_
            refine wl_goto (tg := 30) dX2_tryEach_86 rfl ?_
            rw [← nI_succ]
            exact ih (c + 1) _ B' (by omega) (by omega) hpost hfo
          refine ld_i2 (np := 43) dX2_tryEach_42 rfl ?_
          refine ld_i6 (np := 45) dX2_tryEach_43 rfl ?_
          refine ciSN_2 (np := 48) dX2_tryEach_45 rfl lk_X2_66 (Nat.le_of_ble_eq_true rfl) (by omega) (Nat.le_refl _) (Nat.le_refl _) (c_isIn _ _) (fun x_45 m_45 h_45 => ?_)
          obtain ⟨rfl, q_45⟩ := h_45
          have q_45 := q_45.symm
          subst q_45
          refine wl_if_eq (np := 51) (tg := 83) dX2_tryEach_48 rfl rfl (fun c_48 => ?_) (fun c_48 => ?_)
          · have hz : (nI mask >>> (nI c &&& 31)) &&& 1 = 0 := Classical.byContradiction fun h => by rw [if_neg h] at c_48; exact absurd c_48 (by decide)
            refine skip (fun q => ?_)
            rw [(bit_all mask hm c (by omega)).mp hz] at q
            simp at q
          · have hz : ¬ (nI mask >>> (nI c &&& 31)) &&& 1 = 0 := fun h => by rw [if_pos h] at c_48; exact c_48 rfl
            have htb : mask.testBit c = true := by
              cases hb : mask.testBit c with
              | true => rfl
              | false => exact absurd ((bit_all mask hm c (by omega)).mpr hb) hz
            refine ld_a0 (np := 52) dX2_tryEach_51 rfl ?_
            refine wl_geti (np := 55) dX2_tryEach_52 rfl fl_X2_27 (by decide) (by assumption) ?_
            refine ld_i2 (np := 56) dX2_tryEach_55 rfl ?_
            refine ld_i6 (np := 58) dX2_tryEach_56 rfl ?_
            refine ciSN_3 (np := 61) dX2_tryEach_58 rfl lk_X2_70 (Nat.le_of_ble_eq_true rfl) (by omega) (Nat.le_refl _) (Nat.le_refl _) (c_mayComeOff _ _ _) (fun x_58 m_58 h_58 => ?_)
            obtain ⟨h58, q58⟩ := h_58
            have q58 := q58.symm
            subst q58
            rw [ho1, may_iff hm (by omega)] at h58
            refine wl_if_eq (np := 64) (tg := 83) dX2_tryEach_61 rfl rfl (fun c_61 => ?_) (fun c_61 => ?_)
            · refine skip (fun q => ?_)
              simp only [Bool.and_eq_true] at q
              rcases h58 with ⟨h1, -⟩ | ⟨-, h2⟩
              · rw [c_61] at h1; exact absurd h1 (by decide)
              · exact h2 q.2
            · rcases h58 with ⟨-, hmay⟩ | ⟨h1, -⟩
              · rw [if_pos (by simp only [htb, hmay, Bool.and_self]), List.flatMap_cons, foldB_app] at hfo
                have une : ∀ x, x ≠ pl + 9 → gI (uI (I1, m.2) (pl + 9) pre.length (nI c)) x = gI (I1, m.2) x := fun x hx => gI_uI_ne hx
                have hO2 : Onl (I1, m.2) (uI (I1, m.2) (pl + 9) pre.length (nI c)) pl (pl + 11) := ⟨rfl, fun x hx => une x (by omega)⟩
                have hSm2 : PlS sh (uI (I1, m.2) (pl + 9) pre.length (nI c)) pl q n off inc r t := hSm.fr hqp hO2 (congrFun (une pl (by omega)) 4)
                have hord2 : ∀ i, i < pre.length → gI (uI (I1, m.2) (pl + 9) pre.length (nI c)) (pl + 9) i = gI (I1, m.2) (pl + 9) i := fun i hi => gI_uI_nb (by omega)
                have hB2 : RepBest (uI (I1, m.2) (pl + 9) pre.length (nI c)) pl B' := by
                  obtain ⟨b1, b2, b3, b4⟩ := hBm
                  exact ⟨(congrFun (une pl (by omega)) 5).trans b1, b2, (congrFun (une pl (by omega)) 6).trans b3, fun h => ⟨(b4 h).1, fun i o ho => (congrFun (une _ (by omega)) i).trans ((b4 h).2 i o ho)⟩⟩
                refine ld_a0 (np := 65) dX2_tryEach_64 rfl ?_
                refine wl_getr (np := 68) dX2_tryEach_65 rfl fl_X2_16 rfl (by assumption) (by assumption) ?_
                refine ld_i1 (np := 69) dX2_tryEach_68 rfl ?_
                refine ld_i6 (np := 71) dX2_tryEach_69 rfl ?_
                refine wl_iastore (np := 72) dX2_tryEach_71 rfl (inA_n p3 (by omega) (by decide)) ?_
                rw [nI_clamp (by omega)]
                refine ld_a0 (np := 73) dX2_tryEach_72 rfl ?_
                refine ld_i1 (np := 74) dX2_tryEach_73 rfl ?_
                refine ld_i2 (np := 75) dX2_tryEach_74 rfl ?_
                refine ld_i3 (np := 76) dX2_tryEach_75 rfl ?_
                refine ld_i4 (np := 78) dX2_tryEach_76 rfl ?_
                refine ld_i5 (np := 80) dX2_tryEach_78 rfl ?_
                refine cvV_5 (np := 83) dX2_tryEach_80 rfl lk_X2_74 (by assumption) (Nat.le_of_ble_eq_true rfl) (by omega) (Nat.le_refl _) (Nat.le_refl _) (c_payNext ihk hqp hn6 hD (c := c) (by omega) hSm2 hm hbits hcnt (by omega) hday hp hA (fun i o ho => (hord2 i (List.getElem?_eq_some_iff.mp ho).1).trans ((hor i (List.getElem?_eq_some_iff.mp ho).1).trans (hord i o ho))) (gI_uI_self _ _ _ _) htb (by omega) (fun e he => (congrFun (une _ (by omega)) e).trans ((congrFun (hje _ (Nat.le_refl _)) e).trans (ham e he))) hB2) (fun m_80 h_80 => ?_)
                obtain ⟨e1, e2, e3, e4, e5⟩ := h_80
                refine inc_6 (np := 86) (v := _ + 1) dX2_tryEach_83 rfl rfl (by decide) rfl ?_
                refine wl_goto (tg := 30) dX2_tryEach_86 rfl ?_
                rw [← nI_succ]
                refine ih (c + 1) _ _ (by omega) (by omega) ⟨hO.tr (hO2.tr e1), (e2.trans (congrFun (une pl (by omega)) 4)).trans ho4, e3, fun i hi => (e4 i (by omega)).trans ((hord2 i hi).trans (hor i hi)), fun j hj => (e5 j hj).trans ((une _ (by omega)).trans (hje j hj))⟩ hfo
              · exact absurd h1 c_61
    refine CV.mk (L := [.ref pl, .int (nI pre.length), .int (nI mask), .int (nI day), .int p, .int pd, .float 0]) (by decide) (Nat.le_of_ble_eq_true rfl) rfl ?_
    refine ld_i2 (np := 1) dX2_tryEach_0 rfl ?_
    refine wl_if_ne (np := 4) (tg := 13) dX2_tryEach_1 rfl rfl (fun c_1 => ?_) (fun c_1 => ?_)
    · refine ld_i1 (np := 14) dX2_tryEach_13 rfl ?_
      refine wl_bipush (np := 16) (v := 6) dX2_tryEach_14 rfl (by decide) ?_
      refine wl_icmp_ge (np := 19) (tg := 26) dX2_tryEach_16 rfl rfl (fun c_16 => ?_) (fun c_16 => ?_)
      · rw [show (6 : Int32) = nI 6 from rfl, nI_le_iff (by decide) (by omega)] at c_16
        omega
      · refine ld_a0 (np := 20) dX2_tryEach_19 rfl ?_
        refine wl_getr (np := 23) dX2_tryEach_20 rfl fl_X2_23 rfl (by assumption) (by assumption) ?_
        refine wl_ifnonnull (tg := 27) dX2_tryEach_23 rfl ?_
        refine wl_iconst (np := 28) (v := 0) dX2_tryEach_27 rfl (rfl) ?_
        refine st_i6 (np := 30) dX2_tryEach_28 rfl (by decide) rfl ?_
        exact key (n + 1) 0 m B (by omega) (by omega) ⟨Onl.rf, rfl, hB, fun _ _ => rfl, fun _ _ => rfl⟩ hTG
    · exact absurd c_1 (nI_ne0 (by omega) (by omega))
end PLAN3
end
section
/-- the best order of one at q: days, paid, order -/
def planM (me : Mem) (q n : Nat) (off : Int32) : Bpl := foldB [] (fun o => sim (gI me (q + 3)) (taxF me q) (gI me q 7) n o (2 ^ n - 1) 0 (gI me q 6) (gI me (q + 2)) 0) (361, 0, []) (comp off n (2 ^ n - 1))
theorem full_facts : ∀ n, n ≤ 6 → 2 ^ n - 1 < 64 ∧ cntB (2 ^ n - 1) = n ∧ ∀ c, c < 6 → (2 ^ n - 1).testBit c = true → c < n := by decide +kernel
section PLAN4
variable {sh : List Shp} {me : Mem} {d pl q n : Nat}
set_option maxHeartbeats 4000000 in
set_option maxRecDepth 100000 in
theorem c_plan (off : Int32) (hpl : isPl sh me pl) (hq : isP sh me q) (hqp : q + 6 ≤ pl) (hw : gI me q 5 = nI n) (hn6 : n ≤ 6) (hl : ∀ c, c < n → ∃ l, l < 5 ∧ gI me (q + 1) c = nI l) (hD : okD (gI me (q + 3)) (taxF me q) (gI me q 7) n) (hp : okp (gI me q 6)) (hA : okA (gI me (q + 2)) n) (hd : 17 ≤ d) :
    CV d mX2_plan sh [.ref pl, .ref q, .int off] me (fun m => (m.2 = (uR me pl 3 (some q)).2 ∧ ∀ a, ¬ (pl ≤ a ∧ a < pl + 11) → m.1 a = me.1 a) ∧ RepBest m pl (planM me q n off)) := by
  have hpls := hpl
  have hqs := hq
  obtain ⟨p0, p1, p2, p3, p4, u0, u1, u2, u3⟩ := hpl
  obtain ⟨s0, s1, s2, s3, s4, s5, r0, r1, r2, r3, r4⟩ := hq
  have sA0 := p2 0 (by omega)
  have v0 : gR (uR me pl 3 (some q)) pl 0 = some (pl + 1) := by rw [gR_uR, if_neg (by omega)]; exact u0
  have v1 : gR (uR me pl 3 (some q)) pl 1 = some (pl + 9) := by rw [gR_uR, if_neg (by omega)]; exact u1
  have v2 : gR (uR me pl 3 (some q)) pl 2 = some (pl + 10) := by rw [gR_uR, if_neg (by omega)]; exact u2
  have v3 : ∀ i, i < 7 → gR (uR me pl 3 (some q)) (pl + 1) i = some (pl + 2 + i) := fun i hi => by rw [gR_uR, if_neg (by omega)]; exact u3 i hi
  have v4 : gR (uR me pl 3 (some q)) pl 3 = some q := by rw [gR_uR, if_pos ⟨rfl, rfl⟩]
  have w0 : gR (uR me pl 3 (some q)) q 0 = some (q + 1) := by rw [gR_uR, if_neg (by omega)]; exact r0
  have w1 : gR (uR me pl 3 (some q)) q 1 = some (q + 2) := by rw [gR_uR, if_neg (by omega)]; exact r1
  have w2 : gR (uR me pl 3 (some q)) q 2 = some (q + 3) := by rw [gR_uR, if_neg (by omega)]; exact r2
  have w3 : gR (uR me pl 3 (some q)) q 3 = some (q + 4) := by rw [gR_uR, if_neg (by omega)]; exact r3
  have w4 : gR (uR me pl 3 (some q)) q 4 = some (q + 5) := by rw [gR_uR, if_neg (by omega)]; exact r4
  have hplR : isPl sh (uR me pl 3 (some q)) pl := ⟨p0, p1, p2, p3, p4, v0, v1, v2, v3⟩
  have hqR : isP sh (uR me pl 3 (some q)) q := ⟨s0, s1, s2, s3, s4, s5, w0, w1, w2, w3, w4⟩
  have v30 : gR (uR me pl 3 (some q)) (pl + 1) (0 : Int32).toNatClampNeg = some (pl + 2 + 0) := v3 0 (by omega)
  refine CV.mk (L := [.ref pl, .ref q, .int off]) (by decide) (Nat.le_of_ble_eq_true rfl) rfl ?_
  refine ld_a0 (np := 1) dX2_plan_0 rfl ?_
  refine ld_a1 (np := 2) dX2_plan_1 rfl ?_
  refine wl_putr (np := 5) dX2_plan_2 rfl fl_X2_23 nf_2_3 rfl (by assumption) ?_
  refine ld_a0 (np := 6) dX2_plan_5 rfl ?_
  refine ld_i2 (np := 7) dX2_plan_6 rfl ?_
  refine wl_puti (np := 10) dX2_plan_7 rfl fl_X2_27 nf_2_4 rfl (by assumption) ?_
  refine ld_a0 (np := 11) dX2_plan_10 rfl ?_
  refine wl_sipush (np := 14) (v := 361) dX2_plan_11 rfl (by decide) ?_
  refine wl_puti (np := 17) dX2_plan_14 rfl fl_X2_31 nf_2_5 rfl (by assumption) ?_
  refine ld_a0 (np := 18) dX2_plan_17 rfl ?_
  refine wl_iconst (np := 19) (v := 0) dX2_plan_18 rfl (rfl) ?_
  refine wl_puti (np := 22) dX2_plan_19 rfl fl_X2_34 nf_2_6 rfl (by assumption) ?_
  refine ld_a1 (np := 23) dX2_plan_22 rfl ?_
  refine wl_getr (np := 26) dX2_plan_23 rfl fl_X2_37 rfl (by assumption) (by assumption) ?_
  refine wl_iconst (np := 27) (v := 0) dX2_plan_26 rfl (rfl) ?_
  refine ld_a0 (np := 28) dX2_plan_27 rfl ?_
  refine wl_getr (np := 31) dX2_plan_28 rfl fl_X2_11 rfl (by assumption) (by assumption) ?_
  refine wl_iconst (np := 32) (v := 0) dX2_plan_31 rfl (rfl) ?_
  refine wl_aaload (np := 33) dX2_plan_32 rfl (by assumption) (by decide) (vp_in_nI (n := 0) (by omega) (by decide)) (by assumption) ?_
  refine wl_iconst (np := 34) (v := 0) dX2_plan_33 rfl (rfl) ?_
  refine wl_bipush (np := 36) (v := 8) dX2_plan_34 rfl (by decide) ?_
  refine wl_copy (np := 39) dX2_plan_36 rfl lk_X2_42 (Nat.le_of_ble_eq_true rfl) (by omega) (by assumption) (by assumption) (by decide) (by decide) (by decide) (Nat.le_of_ble_eq_true rfl) (Nat.le_of_ble_eq_true rfl) ?_
  have mne : ∀ x, x ≠ pl → x ≠ pl + 2 + 0 → gI (uA (uI (uI (uI (uR me pl 3 (some q)) pl 4 off) pl 5 361) pl 6 0) (pl + 2 + 0) (va_cpy (gI (uI (uI (uI (uR me pl 3 (some q)) pl 4 off) pl 5 361) pl 6 0) (q + 2)) (gI (uI (uI (uI (uR me pl 3 (some q)) pl 4 off) pl 5 361) pl 6 0) (pl + 2 + 0)) (0 : Int32).toNatClampNeg (0 : Int32).toNatClampNeg (8 : Int32).toNatClampNeg)) x = gI me x := fun x h1 h2 => by
    funext b
    rw [gI_uA, if_neg h2, gI_uI_ne h1, gI_uI_ne h1, gI_uI_ne h1]
    rfl
  have mae : ∀ e, e < 8 → gI (uA (uI (uI (uI (uR me pl 3 (some q)) pl 4 off) pl 5 361) pl 6 0) (pl + 2 + 0) (va_cpy (gI (uI (uI (uI (uR me pl 3 (some q)) pl 4 off) pl 5 361) pl 6 0) (q + 2)) (gI (uI (uI (uI (uR me pl 3 (some q)) pl 4 off) pl 5 361) pl 6 0) (pl + 2 + 0)) (0 : Int32).toNatClampNeg (0 : Int32).toNatClampNeg (8 : Int32).toNatClampNeg)) (pl + 2 + 0) e = gI me (q + 2) e := fun e he => by
    rw [gI_uA, if_pos rfl]
    have e0 : (0 : Int32).toNatClampNeg = 0 := rfl
    have e8 : (8 : Int32).toNatClampNeg = 8 := rfl
    unfold va_cpy
    rw [e0, e8, if_pos (by omega), Nat.zero_add, Nat.sub_zero, gI_uI_ne (by omega), gI_uI_ne (by omega), gI_uI_ne (by omega)]
    rfl
  have m4 : gI (uA (uI (uI (uI (uR me pl 3 (some q)) pl 4 off) pl 5 361) pl 6 0) (pl + 2 + 0) (va_cpy (gI (uI (uI (uI (uR me pl 3 (some q)) pl 4 off) pl 5 361) pl 6 0) (q + 2)) (gI (uI (uI (uI (uR me pl 3 (some q)) pl 4 off) pl 5 361) pl 6 0) (pl + 2 + 0)) (0 : Int32).toNatClampNeg (0 : Int32).toNatClampNeg (8 : Int32).toNatClampNeg)) pl 4 = off := by
    rw [gI_uA, if_neg (by omega), gI_uI_nb (by omega), gI_uI_nb (by omega), gI_uI_self]
  have m5 : gI (uA (uI (uI (uI (uR me pl 3 (some q)) pl 4 off) pl 5 361) pl 6 0) (pl + 2 + 0) (va_cpy (gI (uI (uI (uI (uR me pl 3 (some q)) pl 4 off) pl 5 361) pl 6 0) (q + 2)) (gI (uI (uI (uI (uR me pl 3 (some q)) pl 4 off) pl 5 361) pl 6 0) (pl + 2 + 0)) (0 : Int32).toNatClampNeg (0 : Int32).toNatClampNeg (8 : Int32).toNatClampNeg)) pl 5 = nI 361 := by
    rw [gI_uA, if_neg (by omega), gI_uI_nb (by omega), gI_uI_self]; rfl
  have m6 : gI (uA (uI (uI (uI (uR me pl 3 (some q)) pl 4 off) pl 5 361) pl 6 0) (pl + 2 + 0) (va_cpy (gI (uI (uI (uI (uR me pl 3 (some q)) pl 4 off) pl 5 361) pl 6 0) (q + 2)) (gI (uI (uI (uI (uR me pl 3 (some q)) pl 4 off) pl 5 361) pl 6 0) (pl + 2 + 0)) (0 : Int32).toNatClampNeg (0 : Int32).toNatClampNeg (8 : Int32).toNatClampNeg)) pl 6 = 0 := by
    rw [gI_uA, if_neg (by omega), gI_uI_self]
  have mR : (uA (uI (uI (uI (uR me pl 3 (some q)) pl 4 off) pl 5 361) pl 6 0) (pl + 2 + 0) (va_cpy (gI (uI (uI (uI (uR me pl 3 (some q)) pl 4 off) pl 5 361) pl 6 0) (q + 2)) (gI (uI (uI (uI (uR me pl 3 (some q)) pl 4 off) pl 5 361) pl 6 0) (pl + 2 + 0)) (0 : Int32).toNatClampNeg (0 : Int32).toNatClampNeg (8 : Int32).toNatClampNeg)).2 = (uR me pl 3 (some q)).2 := rfl
  generalize hM1 : uA (uI (uI (uI (uR me pl 3 (some q)) pl 4 off) pl 5 361) pl 6 0) (pl + 2 + 0) (va_cpy (gI (uI (uI (uI (uR me pl 3 (some q)) pl 4 off) pl 5 361) pl 6 0) (q + 2)) (gI (uI (uI (uI (uR me pl 3 (some q)) pl 4 off) pl 5 361) pl 6 0) (pl + 2 + 0)) (0 : Int32).toNatClampNeg (0 : Int32).toNatClampNeg (8 : Int32).toNatClampNeg) = m1 at mne mae m4 m5 m6 mR ⊢
  clear hM1
  obtain ⟨I1, R1⟩ := m1
  obtain rfl : R1 = (uR me pl 3 (some q)).2 := mR
  have gq : ∀ k, k < 6 → gI (I1, (uR me pl 3 (some q)).2) (q + k) = gI me (q + k) := fun k hk => mne _ (by omega) (by omega)
  have htx : taxF (I1, (uR me pl 3 (some q)).2) q = taxF me q := by
    funext c
    unfold taxF
    rw [gq 1 (by omega), gq 5 (by omega)]
  have hSm : PlS sh (I1, (uR me pl 3 (some q)).2) pl q n off (gI me q 7) (gI me (q + 3)) (taxF me q) := by
    refine ⟨hplR.of rfl, v4, hqR.of rfl, (congrFun (gq 0 (by omega)) 5).trans hw, congrFun (gq 0 (by omega)) 7, m4, fun c hc => congrFun (gq 3 (by omega)) c, fun c hc => by rw [htx], fun c hc => by rw [gq 1 (by omega)]; exact hl c hc⟩
  obtain ⟨f1, f2, f3⟩ := full_facts n hn6
  have hcall := c_tryEach hqp hn6 hD n (d - 1) (2 ^ n - 1) 0 (gI me q 6) 0 (gI me (q + 2)) (361, 0, []) [] (I1, (uR me pl 3 (some q)).2) (by omega) hSm f1 f3 f2 (by simp) (by omega) hp hA (fun i o ho => by simp at ho) (fun c hc => mae c hc) ⟨m5, by dsimp only; omega, m6, fun h => by dsimp only at h; omega⟩
  have hq5 : gI (I1, (uR me pl 3 (some q)).2) q 5 = nI n := hSm.2.2.2.1
  have hq6 : gI (I1, (uR me pl 3 (some q)).2) q 6 = gI me q 6 := congrFun (gq 0 (by omega)) 6
  refine ld_a0 (np := 40) dX2_plan_39 rfl ?_
  refine wl_iconst (np := 41) (v := 0) dX2_plan_40 rfl (rfl) ?_
  refine ld_a1 (np := 42) dX2_plan_41 rfl ?_
  refine ciV_0 (np := 45) dX2_plan_42 rfl lk_X2_48 (by assumption) (Nat.le_of_ble_eq_true rfl) (by omega) (Nat.le_refl _) (Nat.le_refl _) (c_wornSet (hqR.of rfl)) (fun x_42 m_42 h_42 => ?_)
  obtain ⟨rfl, q_42⟩ := h_42
  have q_42 := q_42.symm
  subst q_42
  refine wl_iconst (np := 46) (v := 0) dX2_plan_45 rfl (rfl) ?_
  refine ld_a1 (np := 47) dX2_plan_46 rfl ?_
  refine wl_geti (np := 50) dX2_plan_47 rfl fl_X2_52 (by decide) (by assumption) ?_
  refine wl_iconst (np := 51) (v := 0) dX2_plan_50 rfl (rfl) ?_
  refine cvV_5 (np := 54) dX2_plan_51 rfl lk_X2_55 (by assumption) (Nat.le_of_ble_eq_true rfl) (by omega) (Nat.le_refl _) (Nat.le_refl _) (by rw [hq5, hq6]; have hws := ws_all n (by omega); unfold wsI at hws; rw [hws]; exact hcall) (fun m_51 h_51 => ?_)
  obtain ⟨e1, e2, e3, e4, e5⟩ := h_51
  refine wv_ret dX2_plan_54 rfl (Nat.le_refl _) (Nat.le_refl _) ?_
  refine ⟨⟨e1.1, fun a ha => ?_⟩, e3⟩
  exact (e1.2 a ha).trans (mne a (by omega) (by omega))
end PLAN4
end
section
theorem dX6_person_0 : decode cX6_person 0 = .ok (.iload_n 1, 1) := by decide +kernel
theorem dX6_person_1 : decode cX6_person 1 = .ok (.iconst 0, 1) := by decide +kernel
theorem dX6_person_2 : decode cX6_person 2 = .ok (.sipush 9999, 3) := by decide +kernel
theorem dX6_person_5 : decode cX6_person 5 = .ok (.invokestatic 61, 3) := by decide +kernel
theorem dX6_person_8 : decode cX6_person 8 = .ok (.ifCond .eq 23, 3) := by decide +kernel
theorem dX6_person_11 : decode cX6_person 11 = .ok (.iload_n 2, 1) := by decide +kernel
theorem dX6_person_12 : decode cX6_person 12 = .ok (.iconst 0, 1) := by decide +kernel
theorem dX6_person_13 : decode cX6_person 13 = .ok (.bipush 99, 2) := by decide +kernel
theorem dX6_person_15 : decode cX6_person 15 = .ok (.invokestatic 61, 3) := by decide +kernel
theorem dX6_person_18 : decode cX6_person 18 = .ok (.ifCond .eq 13, 3) := by decide +kernel
theorem dX6_person_21 : decode cX6_person 21 = .ok (.iload_n 3, 1) := by decide +kernel
theorem dX6_person_22 : decode cX6_person 22 = .ok (.iconst 1, 1) := by decide +kernel
theorem dX6_person_23 : decode cX6_person 23 = .ok (.bipush 60, 2) := by decide +kernel
theorem dX6_person_25 : decode cX6_person 25 = .ok (.invokestatic 61, 3) := by decide +kernel
theorem dX6_person_28 : decode cX6_person 28 = .ok (.ifCond .ne 5, 3) := by decide +kernel
theorem dX6_person_31 : decode cX6_person 31 = .ok (.iconst (-1), 1) := by decide +kernel
theorem dX6_person_32 : decode cX6_person 32 = .ok (.ireturn, 1) := by decide +kernel
theorem dX6_person_33 : decode cX6_person 33 = .ok (.aload_n 0, 1) := by decide +kernel
theorem dX6_person_34 : decode cX6_person 34 = .ok (.getfield 10, 3) := by decide +kernel
theorem dX6_person_37 : decode cX6_person 37 = .ok (.getfield 65, 3) := by decide +kernel
theorem dX6_person_40 : decode cX6_person 40 = .ok (.iconst 5, 1) := by decide +kernel
theorem dX6_person_41 : decode cX6_person 41 = .ok (.if_icmp .lt 6, 3) := by decide +kernel
theorem dX6_person_44 : decode cX6_person 44 = .ok (.bipush (-3), 2) := by decide +kernel
theorem dX6_person_46 : decode cX6_person 46 = .ok (.ireturn, 1) := by decide +kernel
theorem dX6_person_47 : decode cX6_person 47 = .ok (.aload_n 0, 1) := by decide +kernel
theorem dX6_person_48 : decode cX6_person 48 = .ok (.getfield 10, 3) := by decide +kernel
theorem dX6_person_51 : decode cX6_person 51 = .ok (.getfield 69, 3) := by decide +kernel
theorem dX6_person_54 : decode cX6_person 54 = .ok (.aload_n 0, 1) := by decide +kernel
theorem dX6_person_55 : decode cX6_person 55 = .ok (.getfield 10, 3) := by decide +kernel
theorem dX6_person_58 : decode cX6_person 58 = .ok (.getfield 65, 3) := by decide +kernel
theorem dX6_person_61 : decode cX6_person 61 = .ok (.aaload, 1) := by decide +kernel
theorem dX6_person_62 : decode cX6_person 62 = .ok (.iload_n 1, 1) := by decide +kernel
theorem dX6_person_63 : decode cX6_person 63 = .ok (.iload_n 2, 1) := by decide +kernel
theorem dX6_person_64 : decode cX6_person 64 = .ok (.iload_n 3, 1) := by decide +kernel
theorem dX6_person_65 : decode cX6_person 65 = .ok (.invokevirtual 73, 3) := by decide +kernel
theorem dX6_person_68 : decode cX6_person 68 = .ok (.aload_n 0, 1) := by decide +kernel
theorem dX6_person_69 : decode cX6_person 69 = .ok (.getfield 10, 3) := by decide +kernel
theorem dX6_person_72 : decode cX6_person 72 = .ok (.dup, 1) := by decide +kernel
theorem dX6_person_73 : decode cX6_person 73 = .ok (.getfield 65, 3) := by decide +kernel
theorem dX6_person_76 : decode cX6_person 76 = .ok (.iconst 1, 1) := by decide +kernel
theorem dX6_person_77 : decode cX6_person 77 = .ok (.iadd, 1) := by decide +kernel
theorem dX6_person_78 : decode cX6_person 78 = .ok (.putfield 65, 3) := by decide +kernel
theorem dX6_person_81 : decode cX6_person 81 = .ok (.aload_n 0, 1) := by decide +kernel
theorem dX6_person_82 : decode cX6_person 82 = .ok (.getfield 10, 3) := by decide +kernel
theorem dX6_person_85 : decode cX6_person 85 = .ok (.getfield 65, 3) := by decide +kernel
theorem dX6_person_88 : decode cX6_person 88 = .ok (.iconst 1, 1) := by decide +kernel
theorem dX6_person_89 : decode cX6_person 89 = .ok (.isub, 1) := by decide +kernel
theorem dX6_person_90 : decode cX6_person 90 = .ok (.ireturn, 1) := by decide +kernel
theorem dX6_of_0 : decode cX6_of 0 = .ok (.aload_n 0, 1) := by decide +kernel
theorem dX6_of_1 : decode cX6_of 1 = .ok (.getfield 10, 3) := by decide +kernel
theorem dX6_of_4 : decode cX6_of 4 = .ok (.iload_n 1, 1) := by decide +kernel
theorem dX6_of_5 : decode cX6_of 5 = .ok (.invokevirtual 77, 3) := by decide +kernel
theorem dX6_of_8 : decode cX6_of 8 = .ok (.ifCond .ne 5, 3) := by decide +kernel
theorem dX6_of_11 : decode cX6_of 11 = .ok (.iconst (-1), 1) := by decide +kernel
theorem dX6_of_12 : decode cX6_of 12 = .ok (.ireturn, 1) := by decide +kernel
theorem dX6_of_13 : decode cX6_of 13 = .ok (.aload_n 0, 1) := by decide +kernel
theorem dX6_of_14 : decode cX6_of 14 = .ok (.getfield 10, 3) := by decide +kernel
theorem dX6_of_17 : decode cX6_of 17 = .ok (.getfield 69, 3) := by decide +kernel
theorem dX6_of_20 : decode cX6_of 20 = .ok (.iload_n 1, 1) := by decide +kernel
theorem dX6_of_21 : decode cX6_of 21 = .ok (.aaload, 1) := by decide +kernel
theorem dX6_of_22 : decode cX6_of 22 = .ok (.astore_n 3, 1) := by decide +kernel
theorem dX6_of_23 : decode cX6_of 23 = .ok (.iload_n 2, 1) := by decide +kernel
theorem dX6_of_24 : decode cX6_of 24 = .ok (.tableswitch 84 0 6 #[44, 49, 54, 59, 64, 69, 79], 44) := by decide +kernel
theorem dX6_of_68 : decode cX6_of 68 = .ok (.aload_n 3, 1) := by decide +kernel
theorem dX6_of_69 : decode cX6_of 69 = .ok (.getfield 81, 3) := by decide +kernel
theorem dX6_of_72 : decode cX6_of 72 = .ok (.ireturn, 1) := by decide +kernel
theorem dX6_of_73 : decode cX6_of 73 = .ok (.aload_n 3, 1) := by decide +kernel
theorem dX6_of_74 : decode cX6_of 74 = .ok (.getfield 84, 3) := by decide +kernel
theorem dX6_of_77 : decode cX6_of 77 = .ok (.ireturn, 1) := by decide +kernel
theorem dX6_of_78 : decode cX6_of 78 = .ok (.aload_n 3, 1) := by decide +kernel
theorem dX6_of_79 : decode cX6_of 79 = .ok (.getfield 87, 3) := by decide +kernel
theorem dX6_of_82 : decode cX6_of 82 = .ok (.ireturn, 1) := by decide +kernel
theorem dX6_of_83 : decode cX6_of 83 = .ok (.aload_n 3, 1) := by decide +kernel
theorem dX6_of_84 : decode cX6_of 84 = .ok (.getfield 90, 3) := by decide +kernel
theorem dX6_of_87 : decode cX6_of 87 = .ok (.ireturn, 1) := by decide +kernel
theorem dX6_of_88 : decode cX6_of 88 = .ok (.aload_n 3, 1) := by decide +kernel
theorem dX6_of_89 : decode cX6_of 89 = .ok (.invokevirtual 93, 3) := by decide +kernel
theorem dX6_of_92 : decode cX6_of 92 = .ok (.ireturn, 1) := by decide +kernel
theorem dX6_of_93 : decode cX6_of 93 = .ok (.aload_n 3, 1) := by decide +kernel
theorem dX6_of_94 : decode cX6_of 94 = .ok (.invokevirtual 97, 3) := by decide +kernel
theorem dX6_of_97 : decode cX6_of 97 = .ok (.ldc 100, 2) := by decide +kernel
theorem dX6_of_99 : decode cX6_of 99 = .ok (.invokestatic 101, 3) := by decide +kernel
theorem dX6_of_102 : decode cX6_of 102 = .ok (.ireturn, 1) := by decide +kernel
theorem dX6_of_103 : decode cX6_of 103 = .ok (.aload_n 3, 1) := by decide +kernel
theorem dX6_of_104 : decode cX6_of 104 = .ok (.getfield 107, 3) := by decide +kernel
theorem dX6_of_107 : decode cX6_of 107 = .ok (.ireturn, 1) := by decide +kernel
theorem dX6_of_108 : decode cX6_of 108 = .ok (.iconst (-1), 1) := by decide +kernel
theorem dX6_of_109 : decode cX6_of 109 = .ok (.ireturn, 1) := by decide +kernel
theorem dX6_coat_0 : decode cX6_coat 0 = .ok (.aload_n 0, 1) := by decide +kernel
theorem dX6_coat_1 : decode cX6_coat 1 = .ok (.getfield 10, 3) := by decide +kernel
theorem dX6_coat_4 : decode cX6_coat 4 = .ok (.iload_n 1, 1) := by decide +kernel
theorem dX6_coat_5 : decode cX6_coat 5 = .ok (.iload_n 2, 1) := by decide +kernel
theorem dX6_coat_6 : decode cX6_coat 6 = .ok (.invokevirtual 110, 3) := by decide +kernel
theorem dX6_coat_9 : decode cX6_coat 9 = .ok (.ifCond .ne 5, 3) := by decide +kernel
theorem dX6_coat_12 : decode cX6_coat 12 = .ok (.iconst (-1), 1) := by decide +kernel
theorem dX6_coat_13 : decode cX6_coat 13 = .ok (.ireturn, 1) := by decide +kernel
theorem dX6_coat_14 : decode cX6_coat 14 = .ok (.aload_n 0, 1) := by decide +kernel
theorem dX6_coat_15 : decode cX6_coat 15 = .ok (.getfield 10, 3) := by decide +kernel
theorem dX6_coat_18 : decode cX6_coat 18 = .ok (.getfield 69, 3) := by decide +kernel
theorem dX6_coat_21 : decode cX6_coat 21 = .ok (.iload_n 1, 1) := by decide +kernel
theorem dX6_coat_22 : decode cX6_coat 22 = .ok (.aaload, 1) := by decide +kernel
theorem dX6_coat_23 : decode cX6_coat 23 = .ok (.astore 4, 2) := by decide +kernel
theorem dX6_coat_25 : decode cX6_coat 25 = .ok (.iload_n 3, 1) := by decide +kernel
theorem dX6_coat_26 : decode cX6_coat 26 = .ok (.tableswitch 62 0 3 #[30, 38, 46, 54], 30) := by decide +kernel
theorem dX6_coat_56 : decode cX6_coat 56 = .ok (.aload 4, 2) := by decide +kernel
theorem dX6_coat_58 : decode cX6_coat 58 = .ok (.getfield 114, 3) := by decide +kernel
theorem dX6_coat_61 : decode cX6_coat 61 = .ok (.iload_n 2, 1) := by decide +kernel
theorem dX6_coat_62 : decode cX6_coat 62 = .ok (.iaload, 1) := by decide +kernel
theorem dX6_coat_63 : decode cX6_coat 63 = .ok (.ireturn, 1) := by decide +kernel
theorem dX6_coat_64 : decode cX6_coat 64 = .ok (.aload 4, 2) := by decide +kernel
theorem dX6_coat_66 : decode cX6_coat 66 = .ok (.getfield 118, 3) := by decide +kernel
theorem dX6_coat_69 : decode cX6_coat 69 = .ok (.iload_n 2, 1) := by decide +kernel
theorem dX6_coat_70 : decode cX6_coat 70 = .ok (.iaload, 1) := by decide +kernel
theorem dX6_coat_71 : decode cX6_coat 71 = .ok (.ireturn, 1) := by decide +kernel
theorem dX6_coat_72 : decode cX6_coat 72 = .ok (.aload 4, 2) := by decide +kernel
theorem dX6_coat_74 : decode cX6_coat 74 = .ok (.getfield 121, 3) := by decide +kernel
theorem dX6_coat_77 : decode cX6_coat 77 = .ok (.iload_n 2, 1) := by decide +kernel
theorem dX6_coat_78 : decode cX6_coat 78 = .ok (.iaload, 1) := by decide +kernel
theorem dX6_coat_79 : decode cX6_coat 79 = .ok (.ireturn, 1) := by decide +kernel
theorem dX6_coat_80 : decode cX6_coat 80 = .ok (.aload 4, 2) := by decide +kernel
theorem dX6_coat_82 : decode cX6_coat 82 = .ok (.getfield 124, 3) := by decide +kernel
theorem dX6_coat_85 : decode cX6_coat 85 = .ok (.iload_n 2, 1) := by decide +kernel
theorem dX6_coat_86 : decode cX6_coat 86 = .ok (.iaload, 1) := by decide +kernel
theorem dX6_coat_87 : decode cX6_coat 87 = .ok (.ireturn, 1) := by decide +kernel
theorem dX6_coat_88 : decode cX6_coat 88 = .ok (.iconst (-1), 1) := by decide +kernel
theorem dX6_coat_89 : decode cX6_coat 89 = .ok (.ireturn, 1) := by decide +kernel
theorem dX6_tax_0 : decode cX6_tax 0 = .ok (.aload_n 0, 1) := by decide +kernel
theorem dX6_tax_1 : decode cX6_tax 1 = .ok (.getfield 10, 3) := by decide +kernel
theorem dX6_tax_4 : decode cX6_tax 4 = .ok (.iload_n 1, 1) := by decide +kernel
theorem dX6_tax_5 : decode cX6_tax 5 = .ok (.invokevirtual 77, 3) := by decide +kernel
theorem dX6_tax_8 : decode cX6_tax 8 = .ok (.ifCond .eq 20, 3) := by decide +kernel
theorem dX6_tax_11 : decode cX6_tax 11 = .ok (.iload_n 2, 1) := by decide +kernel
theorem dX6_tax_12 : decode cX6_tax 12 = .ok (.invokestatic 127, 3) := by decide +kernel
theorem dX6_tax_15 : decode cX6_tax 15 = .ok (.ifCond .eq 13, 3) := by decide +kernel
theorem dX6_tax_18 : decode cX6_tax 18 = .ok (.iload_n 3, 1) := by decide +kernel
theorem dX6_tax_19 : decode cX6_tax 19 = .ok (.iconst 0, 1) := by decide +kernel
theorem dX6_tax_20 : decode cX6_tax 20 = .ok (.bipush 9, 2) := by decide +kernel
theorem dX6_tax_22 : decode cX6_tax 22 = .ok (.invokestatic 61, 3) := by decide +kernel
theorem dX6_tax_25 : decode cX6_tax 25 = .ok (.ifCond .ne 5, 3) := by decide +kernel
theorem dX6_tax_28 : decode cX6_tax 28 = .ok (.iconst (-1), 1) := by decide +kernel
theorem dX6_tax_29 : decode cX6_tax 29 = .ok (.ireturn, 1) := by decide +kernel
theorem dX6_tax_30 : decode cX6_tax 30 = .ok (.aload_n 0, 1) := by decide +kernel
theorem dX6_tax_31 : decode cX6_tax 31 = .ok (.getfield 10, 3) := by decide +kernel
theorem dX6_tax_34 : decode cX6_tax 34 = .ok (.getfield 69, 3) := by decide +kernel
theorem dX6_tax_37 : decode cX6_tax 37 = .ok (.iload_n 1, 1) := by decide +kernel
theorem dX6_tax_38 : decode cX6_tax 38 = .ok (.aaload, 1) := by decide +kernel
theorem dX6_tax_39 : decode cX6_tax 39 = .ok (.getfield 130, 3) := by decide +kernel
theorem dX6_tax_42 : decode cX6_tax 42 = .ok (.astore 4, 2) := by decide +kernel
theorem dX6_tax_44 : decode cX6_tax 44 = .ok (.aload 4, 2) := by decide +kernel
theorem dX6_tax_46 : decode cX6_tax 46 = .ok (.iload_n 2, 1) := by decide +kernel
theorem dX6_tax_47 : decode cX6_tax 47 = .ok (.iaload, 1) := by decide +kernel
theorem dX6_tax_48 : decode cX6_tax 48 = .ok (.istore 5, 2) := by decide +kernel
theorem dX6_tax_50 : decode cX6_tax 50 = .ok (.aload 4, 2) := by decide +kernel
theorem dX6_tax_52 : decode cX6_tax 52 = .ok (.iload_n 2, 1) := by decide +kernel
theorem dX6_tax_53 : decode cX6_tax 53 = .ok (.iload_n 3, 1) := by decide +kernel
theorem dX6_tax_54 : decode cX6_tax 54 = .ok (.iastore, 1) := by decide +kernel
theorem dX6_tax_55 : decode cX6_tax 55 = .ok (.iload 5, 2) := by decide +kernel
theorem dX6_tax_57 : decode cX6_tax 57 = .ok (.ireturn, 1) := by decide +kernel
theorem dX6_heat_0 : decode cX6_heat 0 = .ok (.iload_n 1, 1) := by decide +kernel
theorem dX6_heat_1 : decode cX6_heat 1 = .ok (.iconst 0, 1) := by decide +kernel
theorem dX6_heat_2 : decode cX6_heat 2 = .ok (.bipush 11, 2) := by decide +kernel
theorem dX6_heat_4 : decode cX6_heat 4 = .ok (.invokestatic 61, 3) := by decide +kernel
theorem dX6_heat_7 : decode cX6_heat 7 = .ok (.ifCond .eq 13, 3) := by decide +kernel
theorem dX6_heat_10 : decode cX6_heat 10 = .ok (.iload_n 2, 1) := by decide +kernel
theorem dX6_heat_11 : decode cX6_heat 11 = .ok (.iconst 0, 1) := by decide +kernel
theorem dX6_heat_12 : decode cX6_heat 12 = .ok (.bipush 40, 2) := by decide +kernel
theorem dX6_heat_14 : decode cX6_heat 14 = .ok (.invokestatic 61, 3) := by decide +kernel
theorem dX6_heat_17 : decode cX6_heat 17 = .ok (.ifCond .ne 5, 3) := by decide +kernel
theorem dX6_heat_20 : decode cX6_heat 20 = .ok (.iconst (-1), 1) := by decide +kernel
theorem dX6_heat_21 : decode cX6_heat 21 = .ok (.ireturn, 1) := by decide +kernel
theorem dX6_heat_22 : decode cX6_heat 22 = .ok (.aload_n 0, 1) := by decide +kernel
theorem dX6_heat_23 : decode cX6_heat 23 = .ok (.getfield 10, 3) := by decide +kernel
theorem dX6_heat_26 : decode cX6_heat 26 = .ok (.getfield 133, 3) := by decide +kernel
theorem dX6_heat_29 : decode cX6_heat 29 = .ok (.iload_n 1, 1) := by decide +kernel
theorem dX6_heat_30 : decode cX6_heat 30 = .ok (.iaload, 1) := by decide +kernel
theorem dX6_heat_31 : decode cX6_heat 31 = .ok (.istore_n 3, 1) := by decide +kernel
theorem dX6_heat_32 : decode cX6_heat 32 = .ok (.aload_n 0, 1) := by decide +kernel
theorem dX6_heat_33 : decode cX6_heat 33 = .ok (.getfield 10, 3) := by decide +kernel
theorem dX6_heat_36 : decode cX6_heat 36 = .ok (.getfield 133, 3) := by decide +kernel
theorem dX6_heat_39 : decode cX6_heat 39 = .ok (.iload_n 1, 1) := by decide +kernel
theorem dX6_heat_40 : decode cX6_heat 40 = .ok (.iload_n 2, 1) := by decide +kernel
theorem dX6_heat_41 : decode cX6_heat 41 = .ok (.iastore, 1) := by decide +kernel
theorem dX6_heat_42 : decode cX6_heat 42 = .ok (.iload_n 3, 1) := by decide +kernel
theorem dX6_heat_43 : decode cX6_heat 43 = .ok (.ireturn, 1) := by decide +kernel
theorem dX6_rule_0 : decode cX6_rule 0 = .ok (.iload_n 1, 1) := by decide +kernel
theorem dX6_rule_1 : decode cX6_rule 1 = .ok (.ifCond .ne 30, 3) := by decide +kernel
theorem dX6_rule_4 : decode cX6_rule 4 = .ok (.iload_n 2, 1) := by decide +kernel
theorem dX6_rule_5 : decode cX6_rule 5 = .ok (.iconst 0, 1) := by decide +kernel
theorem dX6_rule_6 : decode cX6_rule 6 = .ok (.iconst 2, 1) := by decide +kernel
theorem dX6_rule_7 : decode cX6_rule 7 = .ok (.invokestatic 61, 3) := by decide +kernel
theorem dX6_rule_10 : decode cX6_rule 10 = .ok (.ifCond .eq 21, 3) := by decide +kernel
theorem dX6_rule_13 : decode cX6_rule 13 = .ok (.aload_n 0, 1) := by decide +kernel
theorem dX6_rule_14 : decode cX6_rule 14 = .ok (.getfield 10, 3) := by decide +kernel
theorem dX6_rule_17 : decode cX6_rule 17 = .ok (.getfield 136, 3) := by decide +kernel
theorem dX6_rule_20 : decode cX6_rule 20 = .ok (.istore_n 3, 1) := by decide +kernel
theorem dX6_rule_21 : decode cX6_rule 21 = .ok (.aload_n 0, 1) := by decide +kernel
theorem dX6_rule_22 : decode cX6_rule 22 = .ok (.getfield 10, 3) := by decide +kernel
theorem dX6_rule_25 : decode cX6_rule 25 = .ok (.iload_n 2, 1) := by decide +kernel
theorem dX6_rule_26 : decode cX6_rule 26 = .ok (.putfield 136, 3) := by decide +kernel
theorem dX6_rule_29 : decode cX6_rule 29 = .ok (.iload_n 3, 1) := by decide +kernel
theorem dX6_rule_30 : decode cX6_rule 30 = .ok (.ireturn, 1) := by decide +kernel
theorem dX6_rule_31 : decode cX6_rule 31 = .ok (.iload_n 1, 1) := by decide +kernel
theorem dX6_rule_32 : decode cX6_rule 32 = .ok (.iconst 1, 1) := by decide +kernel
theorem dX6_rule_33 : decode cX6_rule 33 = .ok (.if_icmp .ne 31, 3) := by decide +kernel
theorem dX6_rule_36 : decode cX6_rule 36 = .ok (.iload_n 2, 1) := by decide +kernel
theorem dX6_rule_37 : decode cX6_rule 37 = .ok (.iconst 0, 1) := by decide +kernel
theorem dX6_rule_38 : decode cX6_rule 38 = .ok (.bipush 9, 2) := by decide +kernel
theorem dX6_rule_40 : decode cX6_rule 40 = .ok (.invokestatic 61, 3) := by decide +kernel
theorem dX6_rule_43 : decode cX6_rule 43 = .ok (.ifCond .eq 21, 3) := by decide +kernel
theorem dX6_rule_46 : decode cX6_rule 46 = .ok (.aload_n 0, 1) := by decide +kernel
theorem dX6_rule_47 : decode cX6_rule 47 = .ok (.getfield 10, 3) := by decide +kernel
theorem dX6_rule_50 : decode cX6_rule 50 = .ok (.getfield 139, 3) := by decide +kernel
theorem dX6_rule_53 : decode cX6_rule 53 = .ok (.istore_n 3, 1) := by decide +kernel
theorem dX6_rule_54 : decode cX6_rule 54 = .ok (.aload_n 0, 1) := by decide +kernel
theorem dX6_rule_55 : decode cX6_rule 55 = .ok (.getfield 10, 3) := by decide +kernel
theorem dX6_rule_58 : decode cX6_rule 58 = .ok (.iload_n 2, 1) := by decide +kernel
theorem dX6_rule_59 : decode cX6_rule 59 = .ok (.putfield 139, 3) := by decide +kernel
theorem dX6_rule_62 : decode cX6_rule 62 = .ok (.iload_n 3, 1) := by decide +kernel
theorem dX6_rule_63 : decode cX6_rule 63 = .ok (.ireturn, 1) := by decide +kernel
theorem dX6_rule_64 : decode cX6_rule 64 = .ok (.iconst (-1), 1) := by decide +kernel
theorem dX6_rule_65 : decode cX6_rule 65 = .ok (.ireturn, 1) := by decide +kernel
theorem dX6_type_0 : decode cX6_type 0 = .ok (.iload_n 3, 1) := by decide +kernel
theorem dX6_type_1 : decode cX6_type 1 = .ok (.iconst 1, 1) := by decide +kernel
theorem dX6_type_2 : decode cX6_type 2 = .ok (.bipush 8, 2) := by decide +kernel
theorem dX6_type_4 : decode cX6_type 4 = .ok (.invokestatic 61, 3) := by decide +kernel
theorem dX6_type_7 : decode cX6_type 7 = .ok (.ifCond .eq 11, 3) := by decide +kernel
theorem dX6_type_10 : decode cX6_type 10 = .ok (.lload_n 1, 1) := by decide +kernel
theorem dX6_type_11 : decode cX6_type 11 = .ok (.iload_n 3, 1) := by decide +kernel
theorem dX6_type_12 : decode cX6_type 12 = .ok (.invokestatic 142, 3) := by decide +kernel
theorem dX6_type_15 : decode cX6_type 15 = .ok (.ifCond .ne 5, 3) := by decide +kernel
theorem dX6_type_18 : decode cX6_type 18 = .ok (.iconst (-1), 1) := by decide +kernel
theorem dX6_type_19 : decode cX6_type 19 = .ok (.ireturn, 1) := by decide +kernel
theorem dX6_type_20 : decode cX6_type 20 = .ok (.aload_n 0, 1) := by decide +kernel
theorem dX6_type_21 : decode cX6_type 21 = .ok (.getfield 46, 3) := by decide +kernel
theorem dX6_type_24 : decode cX6_type 24 = .ok (.getfield 146, 3) := by decide +kernel
theorem dX6_type_27 : decode cX6_type 27 = .ok (.iload_n 3, 1) := by decide +kernel
theorem dX6_type_28 : decode cX6_type 28 = .ok (.iadd, 1) := by decide +kernel
theorem dX6_type_29 : decode cX6_type 29 = .ok (.bipush 80, 2) := by decide +kernel
theorem dX6_type_31 : decode cX6_type 31 = .ok (.if_icmp .le 6, 3) := by decide +kernel
theorem dX6_type_34 : decode cX6_type 34 = .ok (.bipush (-3), 2) := by decide +kernel
theorem dX6_type_36 : decode cX6_type 36 = .ok (.ireturn, 1) := by decide +kernel
theorem dX6_type_37 : decode cX6_type 37 = .ok (.aload_n 0, 1) := by decide +kernel
theorem dX6_type_38 : decode cX6_type 38 = .ok (.getfield 46, 3) := by decide +kernel
theorem dX6_type_41 : decode cX6_type 41 = .ok (.lload_n 1, 1) := by decide +kernel
theorem dX6_type_42 : decode cX6_type 42 = .ok (.iload_n 3, 1) := by decide +kernel
theorem dX6_type_43 : decode cX6_type 43 = .ok (.invokevirtual 149, 3) := by decide +kernel
theorem dX6_type_46 : decode cX6_type 46 = .ok (.aload_n 0, 1) := by decide +kernel
theorem dX6_type_47 : decode cX6_type 47 = .ok (.getfield 46, 3) := by decide +kernel
theorem dX6_type_50 : decode cX6_type 50 = .ok (.getfield 146, 3) := by decide +kernel
theorem dX6_type_53 : decode cX6_type 53 = .ok (.ireturn, 1) := by decide +kernel
theorem dX6_coats_0 : decode cX6_coats 0 = .ok (.aload_n 0, 1) := by decide +kernel
theorem dX6_coats_1 : decode cX6_coats 1 = .ok (.getfield 10, 3) := by decide +kernel
theorem dX6_coats_4 : decode cX6_coats 4 = .ok (.iload_n 1, 1) := by decide +kernel
theorem dX6_coats_5 : decode cX6_coats 5 = .ok (.invokevirtual 77, 3) := by decide +kernel
theorem dX6_coats_8 : decode cX6_coats 8 = .ok (.ifCond .ne 5, 3) := by decide +kernel
theorem dX6_coats_11 : decode cX6_coats 11 = .ok (.iconst (-1), 1) := by decide +kernel
theorem dX6_coats_12 : decode cX6_coats 12 = .ok (.ireturn, 1) := by decide +kernel
theorem dX6_coats_13 : decode cX6_coats 13 = .ok (.aload_n 0, 1) := by decide +kernel
theorem dX6_coats_14 : decode cX6_coats 14 = .ok (.getfield 46, 3) := by decide +kernel
theorem dX6_coats_17 : decode cX6_coats 17 = .ok (.aload_n 0, 1) := by decide +kernel
theorem dX6_coats_18 : decode cX6_coats 18 = .ok (.getfield 25, 3) := by decide +kernel
theorem dX6_coats_21 : decode cX6_coats 21 = .ok (.invokevirtual 153, 3) := by decide +kernel
theorem dX6_coats_24 : decode cX6_coats 24 = .ok (.istore_n 2, 1) := by decide +kernel
theorem dX6_coats_25 : decode cX6_coats 25 = .ok (.aload_n 0, 1) := by decide +kernel
theorem dX6_coats_26 : decode cX6_coats 26 = .ok (.getfield 46, 3) := by decide +kernel
theorem dX6_coats_29 : decode cX6_coats 29 = .ok (.iconst 0, 1) := by decide +kernel
theorem dX6_coats_30 : decode cX6_coats 30 = .ok (.putfield 146, 3) := by decide +kernel
theorem dX6_coats_33 : decode cX6_coats 33 = .ok (.iload_n 2, 1) := by decide +kernel
theorem dX6_coats_34 : decode cX6_coats 34 = .ok (.ifCond .lt 19, 3) := by decide +kernel
theorem dX6_coats_37 : decode cX6_coats 37 = .ok (.aload_n 0, 1) := by decide +kernel
theorem dX6_coats_38 : decode cX6_coats 38 = .ok (.getfield 10, 3) := by decide +kernel
theorem dX6_coats_41 : decode cX6_coats 41 = .ok (.getfield 69, 3) := by decide +kernel
theorem dX6_coats_44 : decode cX6_coats 44 = .ok (.iload_n 1, 1) := by decide +kernel
theorem dX6_coats_45 : decode cX6_coats 45 = .ok (.aaload, 1) := by decide +kernel
theorem dX6_coats_46 : decode cX6_coats 46 = .ok (.aload_n 0, 1) := by decide +kernel
theorem dX6_coats_47 : decode cX6_coats 47 = .ok (.getfield 25, 3) := by decide +kernel
theorem dX6_coats_50 : decode cX6_coats 50 = .ok (.invokevirtual 157, 3) := by decide +kernel
theorem dX6_coats_53 : decode cX6_coats 53 = .ok (.iload_n 2, 1) := by decide +kernel
theorem dX6_coats_54 : decode cX6_coats 54 = .ok (.ireturn, 1) := by decide +kernel
theorem dX6_count_0 : decode cX6_count 0 = .ok (.iload_n 1, 1) := by decide +kernel
theorem dX6_count_1 : decode cX6_count 1 = .ok (.tableswitch 87 0 5 #[39, 47, 55, 63, 71, 79], 39) := by decide +kernel
theorem dX6_count_40 : decode cX6_count 40 = .ok (.aload_n 0, 1) := by decide +kernel
theorem dX6_count_41 : decode cX6_count 41 = .ok (.getfield 10, 3) := by decide +kernel
theorem dX6_count_44 : decode cX6_count 44 = .ok (.getfield 65, 3) := by decide +kernel
theorem dX6_count_47 : decode cX6_count 47 = .ok (.ireturn, 1) := by decide +kernel
theorem dX6_count_48 : decode cX6_count 48 = .ok (.aload_n 0, 1) := by decide +kernel
theorem dX6_count_49 : decode cX6_count 49 = .ok (.getfield 10, 3) := by decide +kernel
theorem dX6_count_52 : decode cX6_count 52 = .ok (.getfield 161, 3) := by decide +kernel
theorem dX6_count_55 : decode cX6_count 55 = .ok (.ireturn, 1) := by decide +kernel
theorem dX6_count_56 : decode cX6_count 56 = .ok (.aload_n 0, 1) := by decide +kernel
theorem dX6_count_57 : decode cX6_count 57 = .ok (.getfield 10, 3) := by decide +kernel
theorem dX6_count_60 : decode cX6_count 60 = .ok (.invokevirtual 164, 3) := by decide +kernel
theorem dX6_count_63 : decode cX6_count 63 = .ok (.ireturn, 1) := by decide +kernel
theorem dX6_count_64 : decode cX6_count 64 = .ok (.aload_n 0, 1) := by decide +kernel
theorem dX6_count_65 : decode cX6_count 65 = .ok (.getfield 10, 3) := by decide +kernel
theorem dX6_count_68 : decode cX6_count 68 = .ok (.invokevirtual 167, 3) := by decide +kernel
theorem dX6_count_71 : decode cX6_count 71 = .ok (.ireturn, 1) := by decide +kernel
theorem dX6_count_72 : decode cX6_count 72 = .ok (.aload_n 0, 1) := by decide +kernel
theorem dX6_count_73 : decode cX6_count 73 = .ok (.getfield 10, 3) := by decide +kernel
theorem dX6_count_76 : decode cX6_count 76 = .ok (.getfield 170, 3) := by decide +kernel
theorem dX6_count_79 : decode cX6_count 79 = .ok (.ireturn, 1) := by decide +kernel
theorem dX6_count_80 : decode cX6_count 80 = .ok (.aload_n 0, 1) := by decide +kernel
theorem dX6_count_81 : decode cX6_count 81 = .ok (.getfield 10, 3) := by decide +kernel
theorem dX6_count_84 : decode cX6_count 84 = .ok (.getfield 173, 3) := by decide +kernel
theorem dX6_count_87 : decode cX6_count 87 = .ok (.ireturn, 1) := by decide +kernel
theorem dX6_count_88 : decode cX6_count 88 = .ok (.iconst (-1), 1) := by decide +kernel
theorem dX6_count_89 : decode cX6_count 89 = .ok (.ireturn, 1) := by decide +kernel
theorem dX6_take_0 : decode cX6_take 0 = .ok (.aload_n 0, 1) := by decide +kernel
theorem dX6_take_1 : decode cX6_take 1 = .ok (.getfield 10, 3) := by decide +kernel
theorem dX6_take_4 : decode cX6_take 4 = .ok (.iload_n 1, 1) := by decide +kernel
theorem dX6_take_5 : decode cX6_take 5 = .ok (.invokevirtual 77, 3) := by decide +kernel
theorem dX6_take_8 : decode cX6_take 8 = .ok (.ifCond .eq 43, 3) := by decide +kernel
theorem dX6_take_11 : decode cX6_take 11 = .ok (.iload_n 2, 1) := by decide +kernel
theorem dX6_take_12 : decode cX6_take 12 = .ok (.invokestatic 127, 3) := by decide +kernel
theorem dX6_take_15 : decode cX6_take 15 = .ok (.ifCond .eq 36, 3) := by decide +kernel
theorem dX6_take_18 : decode cX6_take 18 = .ok (.iload_n 3, 1) := by decide +kernel
theorem dX6_take_19 : decode cX6_take 19 = .ok (.iconst 1, 1) := by decide +kernel
theorem dX6_take_20 : decode cX6_take 20 = .ok (.sipush 9999, 3) := by decide +kernel
theorem dX6_take_23 : decode cX6_take 23 = .ok (.invokestatic 61, 3) := by decide +kernel
theorem dX6_take_26 : decode cX6_take 26 = .ok (.ifCond .eq 25, 3) := by decide +kernel
theorem dX6_take_29 : decode cX6_take 29 = .ok (.iload 4, 2) := by decide +kernel
theorem dX6_take_31 : decode cX6_take 31 = .ok (.iconst 0, 1) := by decide +kernel
theorem dX6_take_32 : decode cX6_take 32 = .ok (.bipush 20, 2) := by decide +kernel
theorem dX6_take_34 : decode cX6_take 34 = .ok (.invokestatic 61, 3) := by decide +kernel
theorem dX6_take_37 : decode cX6_take 37 = .ok (.ifCond .eq 14, 3) := by decide +kernel
theorem dX6_take_40 : decode cX6_take 40 = .ok (.iload 5, 2) := by decide +kernel
theorem dX6_take_42 : decode cX6_take 42 = .ok (.iconst 1, 1) := by decide +kernel
theorem dX6_take_43 : decode cX6_take 43 = .ok (.bipush 9, 2) := by decide +kernel
theorem dX6_take_45 : decode cX6_take 45 = .ok (.invokestatic 61, 3) := by decide +kernel
theorem dX6_take_48 : decode cX6_take 48 = .ok (.ifCond .ne 5, 3) := by decide +kernel
theorem dX6_take_51 : decode cX6_take 51 = .ok (.iconst (-1), 1) := by decide +kernel
theorem dX6_take_52 : decode cX6_take 52 = .ok (.ireturn, 1) := by decide +kernel
theorem dX6_take_53 : decode cX6_take 53 = .ok (.aload_n 0, 1) := by decide +kernel
theorem dX6_take_54 : decode cX6_take 54 = .ok (.getfield 10, 3) := by decide +kernel
theorem dX6_take_57 : decode cX6_take 57 = .ok (.getfield 69, 3) := by decide +kernel
theorem dX6_take_60 : decode cX6_take 60 = .ok (.iload_n 1, 1) := by decide +kernel
theorem dX6_take_61 : decode cX6_take 61 = .ok (.aaload, 1) := by decide +kernel
theorem dX6_take_62 : decode cX6_take 62 = .ok (.astore 6, 2) := by decide +kernel
theorem dX6_take_64 : decode cX6_take 64 = .ok (.aload 6, 2) := by decide +kernel
theorem dX6_take_66 : decode cX6_take 66 = .ok (.getfield 90, 3) := by decide +kernel
theorem dX6_take_69 : decode cX6_take 69 = .ok (.bipush 8, 2) := by decide +kernel
theorem dX6_take_71 : decode cX6_take 71 = .ok (.if_icmp .lt 6, 3) := by decide +kernel
theorem dX6_take_74 : decode cX6_take 74 = .ok (.bipush (-3), 2) := by decide +kernel
theorem dX6_take_76 : decode cX6_take 76 = .ok (.ireturn, 1) := by decide +kernel
theorem dX6_take_77 : decode cX6_take 77 = .ok (.aload 6, 2) := by decide +kernel
theorem dX6_take_79 : decode cX6_take 79 = .ok (.iload_n 2, 1) := by decide +kernel
theorem dX6_take_80 : decode cX6_take 80 = .ok (.iload_n 3, 1) := by decide +kernel
theorem dX6_take_81 : decode cX6_take 81 = .ok (.iload 4, 2) := by decide +kernel
theorem dX6_take_83 : decode cX6_take 83 = .ok (.iload 5, 2) := by decide +kernel
theorem dX6_take_85 : decode cX6_take 85 = .ok (.invokevirtual 176, 3) := by decide +kernel
theorem dX6_take_88 : decode cX6_take 88 = .ok (.aload 6, 2) := by decide +kernel
theorem dX6_take_90 : decode cX6_take 90 = .ok (.aload 6, 2) := by decide +kernel
theorem dX6_take_92 : decode cX6_take 92 = .ok (.getfield 81, 3) := by decide +kernel
theorem dX6_take_95 : decode cX6_take 95 = .ok (.iload_n 3, 1) := by decide +kernel
theorem dX6_take_96 : decode cX6_take 96 = .ok (.iadd, 1) := by decide +kernel
theorem dX6_take_97 : decode cX6_take 97 = .ok (.ldc 180, 2) := by decide +kernel
theorem dX6_take_99 : decode cX6_take 99 = .ok (.invokestatic 101, 3) := by decide +kernel
theorem dX6_take_102 : decode cX6_take 102 = .ok (.putfield 81, 3) := by decide +kernel
theorem dX6_take_105 : decode cX6_take 105 = .ok (.aload 6, 2) := by decide +kernel
theorem dX6_take_107 : decode cX6_take 107 = .ok (.getfield 90, 3) := by decide +kernel
theorem dX6_take_110 : decode cX6_take 110 = .ok (.ireturn, 1) := by decide +kernel
theorem dX6_pay_0 : decode cX6_pay 0 = .ok (.aload_n 0, 1) := by decide +kernel
theorem dX6_pay_1 : decode cX6_pay 1 = .ok (.getfield 10, 3) := by decide +kernel
theorem dX6_pay_4 : decode cX6_pay 4 = .ok (.iload_n 1, 1) := by decide +kernel
theorem dX6_pay_5 : decode cX6_pay 5 = .ok (.iload_n 2, 1) := by decide +kernel
theorem dX6_pay_6 : decode cX6_pay 6 = .ok (.invokevirtual 110, 3) := by decide +kernel
theorem dX6_pay_9 : decode cX6_pay 9 = .ok (.ifCond .ne 5, 3) := by decide +kernel
theorem dX6_pay_12 : decode cX6_pay 12 = .ok (.iconst (-1), 1) := by decide +kernel
theorem dX6_pay_13 : decode cX6_pay 13 = .ok (.ireturn, 1) := by decide +kernel
theorem dX6_pay_14 : decode cX6_pay 14 = .ok (.aload_n 0, 1) := by decide +kernel
theorem dX6_pay_15 : decode cX6_pay 15 = .ok (.getfield 10, 3) := by decide +kernel
theorem dX6_pay_18 : decode cX6_pay 18 = .ok (.getfield 69, 3) := by decide +kernel
theorem dX6_pay_21 : decode cX6_pay 21 = .ok (.iload_n 1, 1) := by decide +kernel
theorem dX6_pay_22 : decode cX6_pay 22 = .ok (.aaload, 1) := by decide +kernel
theorem dX6_pay_23 : decode cX6_pay 23 = .ok (.astore_n 3, 1) := by decide +kernel
theorem dX6_pay_24 : decode cX6_pay 24 = .ok (.aload_n 0, 1) := by decide +kernel
theorem dX6_pay_25 : decode cX6_pay 25 = .ok (.getfield 10, 3) := by decide +kernel
theorem dX6_pay_28 : decode cX6_pay 28 = .ok (.getfield 136, 3) := by decide +kernel
theorem dX6_pay_31 : decode cX6_pay 31 = .ok (.aload_n 3, 1) := by decide +kernel
theorem dX6_pay_32 : decode cX6_pay 32 = .ok (.invokevirtual 181, 3) := by decide +kernel
theorem dX6_pay_35 : decode cX6_pay 35 = .ok (.iload_n 2, 1) := by decide +kernel
theorem dX6_pay_36 : decode cX6_pay 36 = .ok (.invokestatic 184, 3) := by decide +kernel
theorem dX6_pay_39 : decode cX6_pay 39 = .ok (.ifCond .ne 6, 3) := by decide +kernel
theorem dX6_pay_42 : decode cX6_pay 42 = .ok (.bipush (-2), 2) := by decide +kernel
theorem dX6_pay_44 : decode cX6_pay 44 = .ok (.ireturn, 1) := by decide +kernel
theorem dX6_pay_45 : decode cX6_pay 45 = .ok (.aload_n 3, 1) := by decide +kernel
theorem dX6_pay_46 : decode cX6_pay 46 = .ok (.getfield 81, 3) := by decide +kernel
theorem dX6_pay_49 : decode cX6_pay 49 = .ok (.aload_n 3, 1) := by decide +kernel
theorem dX6_pay_50 : decode cX6_pay 50 = .ok (.getfield 118, 3) := by decide +kernel
theorem dX6_pay_53 : decode cX6_pay 53 = .ok (.iload_n 2, 1) := by decide +kernel
theorem dX6_pay_54 : decode cX6_pay 54 = .ok (.iaload, 1) := by decide +kernel
theorem dX6_pay_55 : decode cX6_pay 55 = .ok (.if_icmp .ge 6, 3) := by decide +kernel
theorem dX6_pay_58 : decode cX6_pay 58 = .ok (.bipush (-4), 2) := by decide +kernel
theorem dX6_pay_60 : decode cX6_pay 60 = .ok (.ireturn, 1) := by decide +kernel
theorem dX6_pay_61 : decode cX6_pay 61 = .ok (.aload_n 3, 1) := by decide +kernel
theorem dX6_pay_62 : decode cX6_pay 62 = .ok (.iload_n 2, 1) := by decide +kernel
theorem dX6_pay_63 : decode cX6_pay 63 = .ok (.invokevirtual 187, 3) := by decide +kernel
theorem dX6_pay_66 : decode cX6_pay 66 = .ok (.aload_n 3, 1) := by decide +kernel
theorem dX6_pay_67 : decode cX6_pay 67 = .ok (.getfield 90, 3) := by decide +kernel
theorem dX6_pay_70 : decode cX6_pay 70 = .ok (.ireturn, 1) := by decide +kernel
theorem dX6_nights_0 : decode cX6_nights 0 = .ok (.iload_n 1, 1) := by decide +kernel
theorem dX6_nights_1 : decode cX6_nights 1 = .ok (.iconst 1, 1) := by decide +kernel
theorem dX6_nights_2 : decode cX6_nights 2 = .ok (.bipush 60, 2) := by decide +kernel
theorem dX6_nights_4 : decode cX6_nights 4 = .ok (.invokestatic 61, 3) := by decide +kernel
theorem dX6_nights_7 : decode cX6_nights 7 = .ok (.ifCond .ne 5, 3) := by decide +kernel
theorem dX6_nights_10 : decode cX6_nights 10 = .ok (.iconst (-1), 1) := by decide +kernel
theorem dX6_nights_11 : decode cX6_nights 11 = .ok (.ireturn, 1) := by decide +kernel
theorem dX6_nights_12 : decode cX6_nights 12 = .ok (.aload_n 0, 1) := by decide +kernel
theorem dX6_nights_13 : decode cX6_nights 13 = .ok (.getfield 10, 3) := by decide +kernel
theorem dX6_nights_16 : decode cX6_nights 16 = .ok (.getfield 161, 3) := by decide +kernel
theorem dX6_nights_19 : decode cX6_nights 19 = .ok (.iload_n 1, 1) := by decide +kernel
theorem dX6_nights_20 : decode cX6_nights 20 = .ok (.iadd, 1) := by decide +kernel
theorem dX6_nights_21 : decode cX6_nights 21 = .ok (.sipush 359, 3) := by decide +kernel
theorem dX6_nights_24 : decode cX6_nights 24 = .ok (.if_icmp .le 6, 3) := by decide +kernel
theorem dX6_nights_27 : decode cX6_nights 27 = .ok (.bipush (-3), 2) := by decide +kernel
theorem dX6_nights_29 : decode cX6_nights 29 = .ok (.ireturn, 1) := by decide +kernel
theorem dX6_nights_30 : decode cX6_nights 30 = .ok (.aload_n 0, 1) := by decide +kernel
theorem dX6_nights_31 : decode cX6_nights 31 = .ok (.getfield 10, 3) := by decide +kernel
theorem dX6_nights_34 : decode cX6_nights 34 = .ok (.aload_n 0, 1) := by decide +kernel
theorem dX6_nights_35 : decode cX6_nights 35 = .ok (.getfield 10, 3) := by decide +kernel
theorem dX6_nights_38 : decode cX6_nights 38 = .ok (.getfield 161, 3) := by decide +kernel
theorem dX6_nights_41 : decode cX6_nights 41 = .ok (.iload_n 1, 1) := by decide +kernel
theorem dX6_nights_42 : decode cX6_nights 42 = .ok (.iadd, 1) := by decide +kernel
theorem dX6_nights_43 : decode cX6_nights 43 = .ok (.invokevirtual 191, 3) := by decide +kernel
theorem dX6_nights_46 : decode cX6_nights 46 = .ok (.aload_n 0, 1) := by decide +kernel
theorem dX6_nights_47 : decode cX6_nights 47 = .ok (.getfield 10, 3) := by decide +kernel
theorem dX6_nights_50 : decode cX6_nights 50 = .ok (.getfield 161, 3) := by decide +kernel
theorem dX6_nights_53 : decode cX6_nights 53 = .ok (.ireturn, 1) := by decide +kernel
theorem dX6_cut_0 : decode cX6_cut 0 = .ok (.aload_n 0, 1) := by decide +kernel
theorem dX6_cut_1 : decode cX6_cut 1 = .ok (.getfield 10, 3) := by decide +kernel
theorem dX6_cut_4 : decode cX6_cut 4 = .ok (.iload_n 1, 1) := by decide +kernel
theorem dX6_cut_5 : decode cX6_cut 5 = .ok (.iload_n 2, 1) := by decide +kernel
theorem dX6_cut_6 : decode cX6_cut 6 = .ok (.invokevirtual 110, 3) := by decide +kernel
theorem dX6_cut_9 : decode cX6_cut 9 = .ok (.ifCond .ne 5, 3) := by decide +kernel
theorem dX6_cut_12 : decode cX6_cut 12 = .ok (.iconst (-1), 1) := by decide +kernel
theorem dX6_cut_13 : decode cX6_cut 13 = .ok (.ireturn, 1) := by decide +kernel
theorem dX6_cut_14 : decode cX6_cut 14 = .ok (.aload_n 0, 1) := by decide +kernel
theorem dX6_cut_15 : decode cX6_cut 15 = .ok (.getfield 10, 3) := by decide +kernel
theorem dX6_cut_18 : decode cX6_cut 18 = .ok (.getfield 69, 3) := by decide +kernel
theorem dX6_cut_21 : decode cX6_cut 21 = .ok (.iload_n 1, 1) := by decide +kernel
theorem dX6_cut_22 : decode cX6_cut 22 = .ok (.aaload, 1) := by decide +kernel
theorem dX6_cut_23 : decode cX6_cut 23 = .ok (.astore_n 3, 1) := by decide +kernel
theorem dX6_cut_24 : decode cX6_cut 24 = .ok (.aload_n 3, 1) := by decide +kernel
theorem dX6_cut_25 : decode cX6_cut 25 = .ok (.iload_n 2, 1) := by decide +kernel
theorem dX6_cut_26 : decode cX6_cut 26 = .ok (.invokevirtual 194, 3) := by decide +kernel
theorem dX6_cut_29 : decode cX6_cut 29 = .ok (.ifCond .ne 6, 3) := by decide +kernel
theorem dX6_cut_32 : decode cX6_cut 32 = .ok (.bipush (-2), 2) := by decide +kernel
theorem dX6_cut_34 : decode cX6_cut 34 = .ok (.ireturn, 1) := by decide +kernel
theorem dX6_cut_35 : decode cX6_cut 35 = .ok (.aload_n 0, 1) := by decide +kernel
theorem dX6_cut_36 : decode cX6_cut 36 = .ok (.getfield 10, 3) := by decide +kernel
theorem dX6_cut_39 : decode cX6_cut 39 = .ok (.getfield 170, 3) := by decide +kernel
theorem dX6_cut_42 : decode cX6_cut 42 = .ok (.aload_n 0, 1) := by decide +kernel
theorem dX6_cut_43 : decode cX6_cut 43 = .ok (.getfield 10, 3) := by decide +kernel
theorem dX6_cut_46 : decode cX6_cut 46 = .ok (.getfield 139, 3) := by decide +kernel
theorem dX6_cut_49 : decode cX6_cut 49 = .ok (.if_icmp .lt 6, 3) := by decide +kernel
theorem dX6_cut_52 : decode cX6_cut 52 = .ok (.bipush (-4), 2) := by decide +kernel
theorem dX6_cut_54 : decode cX6_cut 54 = .ok (.ireturn, 1) := by decide +kernel
theorem dX6_cut_55 : decode cX6_cut 55 = .ok (.aload_n 3, 1) := by decide +kernel
theorem dX6_cut_56 : decode cX6_cut 56 = .ok (.iload_n 2, 1) := by decide +kernel
theorem dX6_cut_57 : decode cX6_cut 57 = .ok (.invokevirtual 197, 3) := by decide +kernel
theorem dX6_cut_60 : decode cX6_cut 60 = .ok (.aload_n 0, 1) := by decide +kernel
theorem dX6_cut_61 : decode cX6_cut 61 = .ok (.getfield 10, 3) := by decide +kernel
theorem dX6_cut_64 : decode cX6_cut 64 = .ok (.dup, 1) := by decide +kernel
theorem dX6_cut_65 : decode cX6_cut 65 = .ok (.getfield 170, 3) := by decide +kernel
theorem dX6_cut_68 : decode cX6_cut 68 = .ok (.iconst 1, 1) := by decide +kernel
theorem dX6_cut_69 : decode cX6_cut 69 = .ok (.iadd, 1) := by decide +kernel
theorem dX6_cut_70 : decode cX6_cut 70 = .ok (.putfield 170, 3) := by decide +kernel
theorem dX6_cut_73 : decode cX6_cut 73 = .ok (.aload_n 3, 1) := by decide +kernel
theorem dX6_cut_74 : decode cX6_cut 74 = .ok (.getfield 90, 3) := by decide +kernel
theorem dX6_cut_77 : decode cX6_cut 77 = .ok (.ireturn, 1) := by decide +kernel
theorem dX6_ring_0 : decode cX6_ring 0 = .ok (.aload_n 0, 1) := by decide +kernel
theorem dX6_ring_1 : decode cX6_ring 1 = .ok (.getfield 10, 3) := by decide +kernel
theorem dX6_ring_4 : decode cX6_ring 4 = .ok (.iload_n 1, 1) := by decide +kernel
theorem dX6_ring_5 : decode cX6_ring 5 = .ok (.invokevirtual 77, 3) := by decide +kernel
theorem dX6_ring_8 : decode cX6_ring 8 = .ok (.ifCond .eq 19, 3) := by decide +kernel
theorem dX6_ring_11 : decode cX6_ring 11 = .ok (.aload_n 0, 1) := by decide +kernel
theorem dX6_ring_12 : decode cX6_ring 12 = .ok (.getfield 10, 3) := by decide +kernel
theorem dX6_ring_15 : decode cX6_ring 15 = .ok (.iload_n 2, 1) := by decide +kernel
theorem dX6_ring_16 : decode cX6_ring 16 = .ok (.invokevirtual 77, 3) := by decide +kernel
theorem dX6_ring_19 : decode cX6_ring 19 = .ok (.ifCond .eq 8, 3) := by decide +kernel
theorem dX6_ring_22 : decode cX6_ring 22 = .ok (.iload_n 1, 1) := by decide +kernel
theorem dX6_ring_23 : decode cX6_ring 23 = .ok (.iload_n 2, 1) := by decide +kernel
theorem dX6_ring_24 : decode cX6_ring 24 = .ok (.if_icmp .ne 5, 3) := by decide +kernel
theorem dX6_ring_27 : decode cX6_ring 27 = .ok (.iconst (-1), 1) := by decide +kernel
theorem dX6_ring_28 : decode cX6_ring 28 = .ok (.ireturn, 1) := by decide +kernel
theorem dX6_ring_29 : decode cX6_ring 29 = .ok (.iload_n 3, 1) := by decide +kernel
theorem dX6_ring_30 : decode cX6_ring 30 = .ok (.iconst (-1), 1) := by decide +kernel
theorem dX6_ring_31 : decode cX6_ring 31 = .ok (.if_icmp .eq 7, 3) := by decide +kernel
theorem dX6_ring_34 : decode cX6_ring 34 = .ok (.iconst 1, 1) := by decide +kernel
theorem dX6_ring_35 : decode cX6_ring 35 = .ok (.goto 4, 3) := by decide +kernel
theorem dX6_ring_38 : decode cX6_ring 38 = .ok (.iconst 0, 1) := by decide +kernel
theorem dX6_ring_39 : decode cX6_ring 39 = .ok (.istore 4, 2) := by decide +kernel
theorem dX6_ring_41 : decode cX6_ring 41 = .ok (.iload 4, 2) := by decide +kernel
theorem dX6_ring_43 : decode cX6_ring 43 = .ok (.ifCond .eq 26, 3) := by decide +kernel
theorem dX6_ring_46 : decode cX6_ring 46 = .ok (.aload_n 0, 1) := by decide +kernel
theorem dX6_ring_47 : decode cX6_ring 47 = .ok (.getfield 10, 3) := by decide +kernel
theorem dX6_ring_50 : decode cX6_ring 50 = .ok (.iload_n 3, 1) := by decide +kernel
theorem dX6_ring_51 : decode cX6_ring 51 = .ok (.invokevirtual 77, 3) := by decide +kernel
theorem dX6_ring_54 : decode cX6_ring 54 = .ok (.ifCond .eq 13, 3) := by decide +kernel
theorem dX6_ring_57 : decode cX6_ring 57 = .ok (.iload_n 1, 1) := by decide +kernel
theorem dX6_ring_58 : decode cX6_ring 58 = .ok (.iload_n 3, 1) := by decide +kernel
theorem dX6_ring_59 : decode cX6_ring 59 = .ok (.if_icmp .eq 8, 3) := by decide +kernel
theorem dX6_ring_62 : decode cX6_ring 62 = .ok (.iload_n 2, 1) := by decide +kernel
theorem dX6_ring_63 : decode cX6_ring 63 = .ok (.iload_n 3, 1) := by decide +kernel
theorem dX6_ring_64 : decode cX6_ring 64 = .ok (.if_icmp .ne 5, 3) := by decide +kernel
theorem dX6_ring_67 : decode cX6_ring 67 = .ok (.iconst (-1), 1) := by decide +kernel
theorem dX6_ring_68 : decode cX6_ring 68 = .ok (.ireturn, 1) := by decide +kernel
theorem dX6_ring_69 : decode cX6_ring 69 = .ok (.aload_n 0, 1) := by decide +kernel
theorem dX6_ring_70 : decode cX6_ring 70 = .ok (.getfield 10, 3) := by decide +kernel
theorem dX6_ring_73 : decode cX6_ring 73 = .ok (.getfield 69, 3) := by decide +kernel
theorem dX6_ring_76 : decode cX6_ring 76 = .ok (.iload_n 1, 1) := by decide +kernel
theorem dX6_ring_77 : decode cX6_ring 77 = .ok (.aaload, 1) := by decide +kernel
theorem dX6_ring_78 : decode cX6_ring 78 = .ok (.astore 5, 2) := by decide +kernel
theorem dX6_ring_80 : decode cX6_ring 80 = .ok (.aload_n 0, 1) := by decide +kernel
theorem dX6_ring_81 : decode cX6_ring 81 = .ok (.getfield 10, 3) := by decide +kernel
theorem dX6_ring_84 : decode cX6_ring 84 = .ok (.getfield 69, 3) := by decide +kernel
theorem dX6_ring_87 : decode cX6_ring 87 = .ok (.iload_n 2, 1) := by decide +kernel
theorem dX6_ring_88 : decode cX6_ring 88 = .ok (.aaload, 1) := by decide +kernel
theorem dX6_ring_89 : decode cX6_ring 89 = .ok (.astore 6, 2) := by decide +kernel
theorem dX6_ring_91 : decode cX6_ring 91 = .ok (.iload 4, 2) := by decide +kernel
theorem dX6_ring_93 : decode cX6_ring 93 = .ok (.ifCond .eq 15, 3) := by decide +kernel
theorem dX6_ring_96 : decode cX6_ring 96 = .ok (.aload_n 0, 1) := by decide +kernel
theorem dX6_ring_97 : decode cX6_ring 97 = .ok (.getfield 10, 3) := by decide +kernel
theorem dX6_ring_100 : decode cX6_ring 100 = .ok (.getfield 69, 3) := by decide +kernel
theorem dX6_ring_103 : decode cX6_ring 103 = .ok (.iload_n 3, 1) := by decide +kernel
theorem dX6_ring_104 : decode cX6_ring 104 = .ok (.aaload, 1) := by decide +kernel
theorem dX6_ring_105 : decode cX6_ring 105 = .ok (.goto 4, 3) := by decide +kernel
theorem dX6_ring_108 : decode cX6_ring 108 = .ok (.aconst_null, 1) := by decide +kernel
theorem dX6_ring_109 : decode cX6_ring 109 = .ok (.astore 7, 2) := by decide +kernel
theorem dX6_ring_111 : decode cX6_ring 111 = .ok (.aload 5, 2) := by decide +kernel
theorem dX6_ring_113 : decode cX6_ring 113 = .ok (.getfield 90, 3) := by decide +kernel
theorem dX6_ring_116 : decode cX6_ring 116 = .ok (.ifCond .eq 24, 3) := by decide +kernel
theorem dX6_ring_119 : decode cX6_ring 119 = .ok (.aload 6, 2) := by decide +kernel
theorem dX6_ring_121 : decode cX6_ring 121 = .ok (.getfield 90, 3) := by decide +kernel
theorem dX6_ring_124 : decode cX6_ring 124 = .ok (.ifCond .eq 16, 3) := by decide +kernel
theorem dX6_ring_127 : decode cX6_ring 127 = .ok (.aload 7, 2) := by decide +kernel
theorem dX6_ring_129 : decode cX6_ring 129 = .ok (.ifnull 14, 3) := by decide +kernel
theorem dX6_ring_132 : decode cX6_ring 132 = .ok (.aload 7, 2) := by decide +kernel
theorem dX6_ring_134 : decode cX6_ring 134 = .ok (.getfield 90, 3) := by decide +kernel
theorem dX6_ring_137 : decode cX6_ring 137 = .ok (.ifCond .ne 6, 3) := by decide +kernel
theorem dX6_ring_140 : decode cX6_ring 140 = .ok (.bipush (-2), 2) := by decide +kernel
theorem dX6_ring_142 : decode cX6_ring 142 = .ok (.ireturn, 1) := by decide +kernel
theorem dX6_ring_143 : decode cX6_ring 143 = .ok (.aload 5, 2) := by decide +kernel
theorem dX6_ring_145 : decode cX6_ring 145 = .ok (.aload 6, 2) := by decide +kernel
theorem dX6_ring_147 : decode cX6_ring 147 = .ok (.aload 7, 2) := by decide +kernel
theorem dX6_ring_149 : decode cX6_ring 149 = .ok (.invokestatic 200, 3) := by decide +kernel
theorem dX6_ring_152 : decode cX6_ring 152 = .ok (.istore 8, 2) := by decide +kernel
theorem dX6_ring_154 : decode cX6_ring 154 = .ok (.iload 8, 2) := by decide +kernel
theorem dX6_ring_156 : decode cX6_ring 156 = .ok (.ifCond .ne 6, 3) := by decide +kernel
theorem dX6_ring_159 : decode cX6_ring 159 = .ok (.bipush (-4), 2) := by decide +kernel
theorem dX6_ring_161 : decode cX6_ring 161 = .ok (.ireturn, 1) := by decide +kernel
theorem dX6_ring_162 : decode cX6_ring 162 = .ok (.aload 5, 2) := by decide +kernel
theorem dX6_ring_164 : decode cX6_ring 164 = .ok (.aload 6, 2) := by decide +kernel
theorem dX6_ring_166 : decode cX6_ring 166 = .ok (.invokevirtual 204, 3) := by decide +kernel
theorem dX6_ring_169 : decode cX6_ring 169 = .ok (.aload 7, 2) := by decide +kernel
theorem dX6_ring_171 : decode cX6_ring 171 = .ok (.ifnull 10, 3) := by decide +kernel
theorem dX6_ring_174 : decode cX6_ring 174 = .ok (.aload 5, 2) := by decide +kernel
theorem dX6_ring_176 : decode cX6_ring 176 = .ok (.aload 7, 2) := by decide +kernel
theorem dX6_ring_178 : decode cX6_ring 178 = .ok (.invokevirtual 204, 3) := by decide +kernel
theorem dX6_ring_181 : decode cX6_ring 181 = .ok (.iload 8, 2) := by decide +kernel
theorem dX6_ring_183 : decode cX6_ring 183 = .ok (.ireturn, 1) := by decide +kernel
theorem dX6_rings_0 : decode cX6_rings 0 = .ok (.iload_n 1, 1) := by decide +kernel
theorem dX6_rings_1 : decode cX6_rings 1 = .ok (.iconst (-1), 1) := by decide +kernel
theorem dX6_rings_2 : decode cX6_rings 2 = .ok (.iconst 2, 1) := by decide +kernel
theorem dX6_rings_3 : decode cX6_rings 3 = .ok (.invokestatic 61, 3) := by decide +kernel
theorem dX6_rings_6 : decode cX6_rings 6 = .ok (.ifCond .ne 5, 3) := by decide +kernel
theorem dX6_rings_9 : decode cX6_rings 9 = .ok (.iconst (-1), 1) := by decide +kernel
theorem dX6_rings_10 : decode cX6_rings 10 = .ok (.ireturn, 1) := by decide +kernel
theorem dX6_rings_11 : decode cX6_rings 11 = .ok (.aload_n 0, 1) := by decide +kernel
theorem dX6_rings_12 : decode cX6_rings 12 = .ok (.getfield 39, 3) := by decide +kernel
theorem dX6_rings_15 : decode cX6_rings 15 = .ok (.aload_n 0, 1) := by decide +kernel
theorem dX6_rings_16 : decode cX6_rings 16 = .ok (.getfield 10, 3) := by decide +kernel
theorem dX6_rings_19 : decode cX6_rings 19 = .ok (.invokevirtual 207, 3) := by decide +kernel
theorem dX6_rings_22 : decode cX6_rings 22 = .ok (.iload_n 1, 1) := by decide +kernel
theorem dX6_rings_23 : decode cX6_rings 23 = .ok (.aload_n 0, 1) := by decide +kernel
theorem dX6_rings_24 : decode cX6_rings 24 = .ok (.getfield 39, 3) := by decide +kernel
theorem dX6_rings_27 : decode cX6_rings 27 = .ok (.getfield 211, 3) := by decide +kernel
theorem dX6_rings_30 : decode cX6_rings 30 = .ok (.if_icmp .lt 6, 3) := by decide +kernel
theorem dX6_rings_33 : decode cX6_rings 33 = .ok (.bipush (-4), 2) := by decide +kernel
theorem dX6_rings_35 : decode cX6_rings 35 = .ok (.ireturn, 1) := by decide +kernel
theorem dX6_rings_36 : decode cX6_rings 36 = .ok (.iload_n 1, 1) := by decide +kernel
theorem dX6_rings_37 : decode cX6_rings 37 = .ok (.ifCond .lt 13, 3) := by decide +kernel
theorem dX6_rings_40 : decode cX6_rings 40 = .ok (.aload_n 0, 1) := by decide +kernel
theorem dX6_rings_41 : decode cX6_rings 41 = .ok (.getfield 39, 3) := by decide +kernel
theorem dX6_rings_44 : decode cX6_rings 44 = .ok (.getfield 214, 3) := by decide +kernel
theorem dX6_rings_47 : decode cX6_rings 47 = .ok (.iload_n 1, 1) := by decide +kernel
theorem dX6_rings_48 : decode cX6_rings 48 = .ok (.iaload, 1) := by decide +kernel
theorem dX6_rings_49 : decode cX6_rings 49 = .ok (.ireturn, 1) := by decide +kernel
theorem dX6_rings_50 : decode cX6_rings 50 = .ok (.aload_n 0, 1) := by decide +kernel
theorem dX6_rings_51 : decode cX6_rings 51 = .ok (.getfield 39, 3) := by decide +kernel
theorem dX6_rings_54 : decode cX6_rings 54 = .ok (.getfield 211, 3) := by decide +kernel
theorem dX6_rings_57 : decode cX6_rings 57 = .ok (.ifCond .ne 8, 3) := by decide +kernel
theorem dX6_rings_60 : decode cX6_rings 60 = .ok (.bipush (-4), 2) := by decide +kernel
theorem dX6_rings_62 : decode cX6_rings 62 = .ok (.goto 10, 3) := by decide +kernel
theorem dX6_rings_65 : decode cX6_rings 65 = .ok (.aload_n 0, 1) := by decide +kernel
theorem dX6_rings_66 : decode cX6_rings 66 = .ok (.getfield 39, 3) := by decide +kernel
theorem dX6_rings_69 : decode cX6_rings 69 = .ok (.getfield 217, 3) := by decide +kernel
theorem dX6_rings_72 : decode cX6_rings 72 = .ok (.ireturn, 1) := by decide +kernel
theorem dX6_owed_0 : decode cX6_owed 0 = .ok (.iload_n 1, 1) := by decide +kernel
theorem dX6_owed_1 : decode cX6_owed 1 = .ok (.invokestatic 127, 3) := by decide +kernel
theorem dX6_owed_4 : decode cX6_owed 4 = .ok (.ifCond .ne 5, 3) := by decide +kernel
theorem dX6_owed_7 : decode cX6_owed 7 = .ok (.iconst (-1), 1) := by decide +kernel
theorem dX6_owed_8 : decode cX6_owed 8 = .ok (.ireturn, 1) := by decide +kernel
theorem dX6_owed_9 : decode cX6_owed 9 = .ok (.iconst 0, 1) := by decide +kernel
theorem dX6_owed_10 : decode cX6_owed 10 = .ok (.istore_n 2, 1) := by decide +kernel
theorem dX6_owed_11 : decode cX6_owed 11 = .ok (.iconst 0, 1) := by decide +kernel
theorem dX6_owed_12 : decode cX6_owed 12 = .ok (.istore_n 3, 1) := by decide +kernel
theorem dX6_owed_13 : decode cX6_owed 13 = .ok (.iload_n 3, 1) := by decide +kernel
theorem dX6_owed_14 : decode cX6_owed 14 = .ok (.aload_n 0, 1) := by decide +kernel
theorem dX6_owed_15 : decode cX6_owed 15 = .ok (.getfield 10, 3) := by decide +kernel
theorem dX6_owed_18 : decode cX6_owed 18 = .ok (.getfield 65, 3) := by decide +kernel
theorem dX6_owed_21 : decode cX6_owed 21 = .ok (.if_icmp .ge 25, 3) := by decide +kernel
theorem dX6_owed_24 : decode cX6_owed 24 = .ok (.iload_n 2, 1) := by decide +kernel
theorem dX6_owed_25 : decode cX6_owed 25 = .ok (.aload_n 0, 1) := by decide +kernel
theorem dX6_owed_26 : decode cX6_owed 26 = .ok (.getfield 10, 3) := by decide +kernel
theorem dX6_owed_29 : decode cX6_owed 29 = .ok (.getfield 69, 3) := by decide +kernel
theorem dX6_owed_32 : decode cX6_owed 32 = .ok (.iload_n 3, 1) := by decide +kernel
theorem dX6_owed_33 : decode cX6_owed 33 = .ok (.aaload, 1) := by decide +kernel
theorem dX6_owed_34 : decode cX6_owed 34 = .ok (.iload_n 1, 1) := by decide +kernel
theorem dX6_owed_35 : decode cX6_owed 35 = .ok (.invokevirtual 220, 3) := by decide +kernel
theorem dX6_owed_38 : decode cX6_owed 38 = .ok (.iadd, 1) := by decide +kernel
theorem dX6_owed_39 : decode cX6_owed 39 = .ok (.istore_n 2, 1) := by decide +kernel
theorem dX6_owed_40 : decode cX6_owed 40 = .ok (.iinc 3 1, 3) := by decide +kernel
theorem dX6_owed_43 : decode cX6_owed 43 = .ok (.goto (-30), 3) := by decide +kernel
theorem dX6_owed_46 : decode cX6_owed 46 = .ok (.iload_n 2, 1) := by decide +kernel
theorem dX6_owed_47 : decode cX6_owed 47 = .ok (.ldc 100, 2) := by decide +kernel
theorem dX6_owed_49 : decode cX6_owed 49 = .ok (.invokestatic 101, 3) := by decide +kernel
theorem dX6_owed_52 : decode cX6_owed 52 = .ok (.ireturn, 1) := by decide +kernel
theorem dX6_free_0 : decode cX6_free 0 = .ok (.aload_n 0, 1) := by decide +kernel
theorem dX6_free_1 : decode cX6_free 1 = .ok (.getfield 10, 3) := by decide +kernel
theorem dX6_free_4 : decode cX6_free 4 = .ok (.iload_n 1, 1) := by decide +kernel
theorem dX6_free_5 : decode cX6_free 5 = .ok (.invokevirtual 77, 3) := by decide +kernel
theorem dX6_free_8 : decode cX6_free 8 = .ok (.ifCond .eq 13, 3) := by decide +kernel
theorem dX6_free_11 : decode cX6_free 11 = .ok (.iload_n 2, 1) := by decide +kernel
theorem dX6_free_12 : decode cX6_free 12 = .ok (.iconst 0, 1) := by decide +kernel
theorem dX6_free_13 : decode cX6_free 13 = .ok (.bipush 7, 2) := by decide +kernel
theorem dX6_free_15 : decode cX6_free 15 = .ok (.invokestatic 61, 3) := by decide +kernel
theorem dX6_free_18 : decode cX6_free 18 = .ok (.ifCond .ne 5, 3) := by decide +kernel
theorem dX6_free_21 : decode cX6_free 21 = .ok (.iconst (-1), 1) := by decide +kernel
theorem dX6_free_22 : decode cX6_free 22 = .ok (.ireturn, 1) := by decide +kernel
theorem dX6_free_23 : decode cX6_free 23 = .ok (.aload_n 0, 1) := by decide +kernel
theorem dX6_free_24 : decode cX6_free 24 = .ok (.getfield 10, 3) := by decide +kernel
theorem dX6_free_27 : decode cX6_free 27 = .ok (.getfield 69, 3) := by decide +kernel
theorem dX6_free_30 : decode cX6_free 30 = .ok (.iload_n 1, 1) := by decide +kernel
theorem dX6_free_31 : decode cX6_free 31 = .ok (.aaload, 1) := by decide +kernel
theorem dX6_free_32 : decode cX6_free 32 = .ok (.astore_n 3, 1) := by decide +kernel
theorem dX6_free_33 : decode cX6_free 33 = .ok (.aload_n 3, 1) := by decide +kernel
theorem dX6_free_34 : decode cX6_free 34 = .ok (.getfield 90, 3) := by decide +kernel
theorem dX6_free_37 : decode cX6_free 37 = .ok (.bipush 6, 2) := by decide +kernel
theorem dX6_free_39 : decode cX6_free 39 = .ok (.if_icmp .le 6, 3) := by decide +kernel
theorem dX6_free_42 : decode cX6_free 42 = .ok (.bipush (-3), 2) := by decide +kernel
theorem dX6_free_44 : decode cX6_free 44 = .ok (.ireturn, 1) := by decide +kernel
theorem dX6_free_45 : decode cX6_free 45 = .ok (.aload_n 0, 1) := by decide +kernel
theorem dX6_free_46 : decode cX6_free 46 = .ok (.getfield 32, 3) := by decide +kernel
theorem dX6_free_49 : decode cX6_free 49 = .ok (.aload_n 3, 1) := by decide +kernel
theorem dX6_free_50 : decode cX6_free 50 = .ok (.aload_n 0, 1) := by decide +kernel
theorem dX6_free_51 : decode cX6_free 51 = .ok (.getfield 10, 3) := by decide +kernel
theorem dX6_free_54 : decode cX6_free 54 = .ok (.getfield 136, 3) := by decide +kernel
theorem dX6_free_57 : decode cX6_free 57 = .ok (.invokevirtual 224, 3) := by decide +kernel
theorem dX6_free_60 : decode cX6_free 60 = .ok (.aload_n 0, 1) := by decide +kernel
theorem dX6_free_61 : decode cX6_free 61 = .ok (.getfield 32, 3) := by decide +kernel
theorem dX6_free_64 : decode cX6_free 64 = .ok (.getfield 228, 3) := by decide +kernel
theorem dX6_free_67 : decode cX6_free 67 = .ok (.sipush 360, 3) := by decide +kernel
theorem dX6_free_70 : decode cX6_free 70 = .ok (.if_icmp .le 6, 3) := by decide +kernel
theorem dX6_free_73 : decode cX6_free 73 = .ok (.bipush (-4), 2) := by decide +kernel
theorem dX6_free_75 : decode cX6_free 75 = .ok (.ireturn, 1) := by decide +kernel
theorem dX6_free_76 : decode cX6_free 76 = .ok (.iload_n 2, 1) := by decide +kernel
theorem dX6_free_77 : decode cX6_free 77 = .ok (.ifCond .ne 11, 3) := by decide +kernel
theorem dX6_free_80 : decode cX6_free 80 = .ok (.aload_n 0, 1) := by decide +kernel
theorem dX6_free_81 : decode cX6_free 81 = .ok (.getfield 32, 3) := by decide +kernel
theorem dX6_free_84 : decode cX6_free 84 = .ok (.getfield 228, 3) := by decide +kernel
theorem dX6_free_87 : decode cX6_free 87 = .ok (.ireturn, 1) := by decide +kernel
theorem dX6_free_88 : decode cX6_free 88 = .ok (.iload_n 2, 1) := by decide +kernel
theorem dX6_free_89 : decode cX6_free 89 = .ok (.iconst 1, 1) := by decide +kernel
theorem dX6_free_90 : decode cX6_free 90 = .ok (.if_icmp .ne 11, 3) := by decide +kernel
theorem dX6_free_93 : decode cX6_free 93 = .ok (.aload_n 0, 1) := by decide +kernel
theorem dX6_free_94 : decode cX6_free 94 = .ok (.getfield 32, 3) := by decide +kernel
theorem dX6_free_97 : decode cX6_free 97 = .ok (.getfield 231, 3) := by decide +kernel
theorem dX6_free_100 : decode cX6_free 100 = .ok (.ireturn, 1) := by decide +kernel
theorem dX6_free_101 : decode cX6_free 101 = .ok (.iload_n 2, 1) := by decide +kernel
theorem dX6_free_102 : decode cX6_free 102 = .ok (.iconst 2, 1) := by decide +kernel
theorem dX6_free_103 : decode cX6_free 103 = .ok (.isub, 1) := by decide +kernel
theorem dX6_free_104 : decode cX6_free 104 = .ok (.aload_n 3, 1) := by decide +kernel
theorem dX6_free_105 : decode cX6_free 105 = .ok (.getfield 90, 3) := by decide +kernel
theorem dX6_free_108 : decode cX6_free 108 = .ok (.if_icmp .ge 17, 3) := by decide +kernel
theorem dX6_free_111 : decode cX6_free 111 = .ok (.aload_n 0, 1) := by decide +kernel
theorem dX6_free_112 : decode cX6_free 112 = .ok (.getfield 32, 3) := by decide +kernel
theorem dX6_free_115 : decode cX6_free 115 = .ok (.getfield 234, 3) := by decide +kernel
theorem dX6_free_118 : decode cX6_free 118 = .ok (.iload_n 2, 1) := by decide +kernel
theorem dX6_free_119 : decode cX6_free 119 = .ok (.iconst 2, 1) := by decide +kernel
theorem dX6_free_120 : decode cX6_free 120 = .ok (.isub, 1) := by decide +kernel
theorem dX6_free_121 : decode cX6_free 121 = .ok (.iaload, 1) := by decide +kernel
theorem dX6_free_122 : decode cX6_free 122 = .ok (.goto 5, 3) := by decide +kernel
theorem dX6_free_125 : decode cX6_free 125 = .ok (.bipush (-4), 2) := by decide +kernel
theorem dX6_free_127 : decode cX6_free 127 = .ok (.ireturn, 1) := by decide +kernel
theorem dX6_saves_0 : decode cX6_saves 0 = .ok (.aload_n 0, 1) := by decide +kernel
theorem dX6_saves_1 : decode cX6_saves 1 = .ok (.getfield 10, 3) := by decide +kernel
theorem dX6_saves_4 : decode cX6_saves 4 = .ok (.iload_n 1, 1) := by decide +kernel
theorem dX6_saves_5 : decode cX6_saves 5 = .ok (.iload_n 2, 1) := by decide +kernel
theorem dX6_saves_6 : decode cX6_saves 6 = .ok (.invokevirtual 110, 3) := by decide +kernel
theorem dX6_saves_9 : decode cX6_saves 9 = .ok (.ifCond .ne 5, 3) := by decide +kernel
theorem dX6_saves_12 : decode cX6_saves 12 = .ok (.iconst (-1), 1) := by decide +kernel
theorem dX6_saves_13 : decode cX6_saves 13 = .ok (.ireturn, 1) := by decide +kernel
theorem dX6_saves_14 : decode cX6_saves 14 = .ok (.aload_n 0, 1) := by decide +kernel
theorem dX6_saves_15 : decode cX6_saves 15 = .ok (.getfield 10, 3) := by decide +kernel
theorem dX6_saves_18 : decode cX6_saves 18 = .ok (.getfield 69, 3) := by decide +kernel
theorem dX6_saves_21 : decode cX6_saves 21 = .ok (.iload_n 1, 1) := by decide +kernel
theorem dX6_saves_22 : decode cX6_saves 22 = .ok (.aaload, 1) := by decide +kernel
theorem dX6_saves_23 : decode cX6_saves 23 = .ok (.astore_n 3, 1) := by decide +kernel
theorem dX6_saves_24 : decode cX6_saves 24 = .ok (.aload_n 3, 1) := by decide +kernel
theorem dX6_saves_25 : decode cX6_saves 25 = .ok (.getfield 90, 3) := by decide +kernel
theorem dX6_saves_28 : decode cX6_saves 28 = .ok (.bipush 6, 2) := by decide +kernel
theorem dX6_saves_30 : decode cX6_saves 30 = .ok (.if_icmp .le 6, 3) := by decide +kernel
theorem dX6_saves_33 : decode cX6_saves 33 = .ok (.bipush (-3), 2) := by decide +kernel
theorem dX6_saves_35 : decode cX6_saves 35 = .ok (.ireturn, 1) := by decide +kernel
theorem dX6_saves_36 : decode cX6_saves 36 = .ok (.aload_n 3, 1) := by decide +kernel
theorem dX6_saves_37 : decode cX6_saves 37 = .ok (.iload_n 2, 1) := by decide +kernel
theorem dX6_saves_38 : decode cX6_saves 38 = .ok (.invokevirtual 194, 3) := by decide +kernel
theorem dX6_saves_41 : decode cX6_saves 41 = .ok (.ifCond .ne 6, 3) := by decide +kernel
theorem dX6_saves_44 : decode cX6_saves 44 = .ok (.bipush (-2), 2) := by decide +kernel
theorem dX6_saves_46 : decode cX6_saves 46 = .ok (.ireturn, 1) := by decide +kernel
theorem dX6_saves_47 : decode cX6_saves 47 = .ok (.aload_n 0, 1) := by decide +kernel
theorem dX6_saves_48 : decode cX6_saves 48 = .ok (.getfield 32, 3) := by decide +kernel
theorem dX6_saves_51 : decode cX6_saves 51 = .ok (.aload_n 3, 1) := by decide +kernel
theorem dX6_saves_52 : decode cX6_saves 52 = .ok (.aload_n 0, 1) := by decide +kernel
theorem dX6_saves_53 : decode cX6_saves 53 = .ok (.getfield 10, 3) := by decide +kernel
theorem dX6_saves_56 : decode cX6_saves 56 = .ok (.getfield 136, 3) := by decide +kernel
theorem dX6_saves_59 : decode cX6_saves 59 = .ok (.invokevirtual 224, 3) := by decide +kernel
theorem dX6_saves_62 : decode cX6_saves 62 = .ok (.aload_n 0, 1) := by decide +kernel
theorem dX6_saves_63 : decode cX6_saves 63 = .ok (.getfield 32, 3) := by decide +kernel
theorem dX6_saves_66 : decode cX6_saves 66 = .ok (.getfield 228, 3) := by decide +kernel
theorem dX6_saves_69 : decode cX6_saves 69 = .ok (.istore 4, 2) := by decide +kernel
theorem dX6_saves_71 : decode cX6_saves 71 = .ok (.aload_n 0, 1) := by decide +kernel
theorem dX6_saves_72 : decode cX6_saves 72 = .ok (.getfield 25, 3) := by decide +kernel
theorem dX6_saves_75 : decode cX6_saves 75 = .ok (.aload_n 3, 1) := by decide +kernel
theorem dX6_saves_76 : decode cX6_saves 76 = .ok (.invokevirtual 237, 3) := by decide +kernel
theorem dX6_saves_79 : decode cX6_saves 79 = .ok (.aload_n 0, 1) := by decide +kernel
theorem dX6_saves_80 : decode cX6_saves 80 = .ok (.getfield 25, 3) := by decide +kernel
theorem dX6_saves_83 : decode cX6_saves 83 = .ok (.iload_n 2, 1) := by decide +kernel
theorem dX6_saves_84 : decode cX6_saves 84 = .ok (.invokevirtual 197, 3) := by decide +kernel
theorem dX6_saves_87 : decode cX6_saves 87 = .ok (.aload_n 0, 1) := by decide +kernel
theorem dX6_saves_88 : decode cX6_saves 88 = .ok (.getfield 32, 3) := by decide +kernel
theorem dX6_saves_91 : decode cX6_saves 91 = .ok (.aload_n 0, 1) := by decide +kernel
theorem dX6_saves_92 : decode cX6_saves 92 = .ok (.getfield 25, 3) := by decide +kernel
theorem dX6_saves_95 : decode cX6_saves 95 = .ok (.aload_n 0, 1) := by decide +kernel
theorem dX6_saves_96 : decode cX6_saves 96 = .ok (.getfield 10, 3) := by decide +kernel
theorem dX6_saves_99 : decode cX6_saves 99 = .ok (.getfield 136, 3) := by decide +kernel
theorem dX6_saves_102 : decode cX6_saves 102 = .ok (.invokevirtual 224, 3) := by decide +kernel
theorem dX6_saves_105 : decode cX6_saves 105 = .ok (.iload 4, 2) := by decide +kernel
theorem dX6_saves_107 : decode cX6_saves 107 = .ok (.aload_n 0, 1) := by decide +kernel
theorem dX6_saves_108 : decode cX6_saves 108 = .ok (.getfield 32, 3) := by decide +kernel
theorem dX6_saves_111 : decode cX6_saves 111 = .ok (.getfield 228, 3) := by decide +kernel
theorem dX6_saves_114 : decode cX6_saves 114 = .ok (.isub, 1) := by decide +kernel
theorem dX6_saves_115 : decode cX6_saves 115 = .ok (.ireturn, 1) := by decide +kernel
theorem dX6_bears_0 : decode cX6_bears 0 = .ok (.aload_n 0, 1) := by decide +kernel
theorem dX6_bears_1 : decode cX6_bears 1 = .ok (.getfield 10, 3) := by decide +kernel
theorem dX6_bears_4 : decode cX6_bears 4 = .ok (.iload_n 1, 1) := by decide +kernel
theorem dX6_bears_5 : decode cX6_bears 5 = .ok (.invokevirtual 77, 3) := by decide +kernel
theorem dX6_bears_8 : decode cX6_bears 8 = .ok (.ifCond .ne 5, 3) := by decide +kernel
theorem dX6_bears_11 : decode cX6_bears 11 = .ok (.iconst (-1), 1) := by decide +kernel
theorem dX6_bears_12 : decode cX6_bears 12 = .ok (.ireturn, 1) := by decide +kernel
theorem dX6_bears_13 : decode cX6_bears 13 = .ok (.aload_n 0, 1) := by decide +kernel
theorem dX6_bears_14 : decode cX6_bears 14 = .ok (.getfield 10, 3) := by decide +kernel
theorem dX6_bears_17 : decode cX6_bears 17 = .ok (.getfield 69, 3) := by decide +kernel
theorem dX6_bears_20 : decode cX6_bears 20 = .ok (.iload_n 1, 1) := by decide +kernel
theorem dX6_bears_21 : decode cX6_bears 21 = .ok (.aaload, 1) := by decide +kernel
theorem dX6_bears_22 : decode cX6_bears 22 = .ok (.astore_n 2, 1) := by decide +kernel
theorem dX6_bears_23 : decode cX6_bears 23 = .ok (.aload_n 0, 1) := by decide +kernel
theorem dX6_bears_24 : decode cX6_bears 24 = .ok (.getfield 10, 3) := by decide +kernel
theorem dX6_bears_27 : decode cX6_bears 27 = .ok (.getfield 161, 3) := by decide +kernel
theorem dX6_bears_30 : decode cX6_bears 30 = .ok (.iconst 1, 1) := by decide +kernel
theorem dX6_bears_31 : decode cX6_bears 31 = .ok (.iadd, 1) := by decide +kernel
theorem dX6_bears_32 : decode cX6_bears 32 = .ok (.istore_n 3, 1) := by decide +kernel
theorem dX6_bears_33 : decode cX6_bears 33 = .ok (.iload_n 3, 1) := by decide +kernel
theorem dX6_bears_34 : decode cX6_bears 34 = .ok (.sipush 359, 3) := by decide +kernel
theorem dX6_bears_37 : decode cX6_bears 37 = .ok (.if_icmp .gt 34, 3) := by decide +kernel
theorem dX6_bears_40 : decode cX6_bears 40 = .ok (.aload_n 2, 1) := by decide +kernel
theorem dX6_bears_41 : decode cX6_bears 41 = .ok (.aload_n 0, 1) := by decide +kernel
theorem dX6_bears_42 : decode cX6_bears 42 = .ok (.getfield 10, 3) := by decide +kernel
theorem dX6_bears_45 : decode cX6_bears 45 = .ok (.iload_n 3, 1) := by decide +kernel
theorem dX6_bears_46 : decode cX6_bears 46 = .ok (.invokevirtual 240, 3) := by decide +kernel
theorem dX6_bears_49 : decode cX6_bears 49 = .ok (.invokevirtual 243, 3) := by decide +kernel
theorem dX6_bears_52 : decode cX6_bears 52 = .ok (.ifCond .eq 13, 3) := by decide +kernel
theorem dX6_bears_55 : decode cX6_bears 55 = .ok (.iload_n 3, 1) := by decide +kernel
theorem dX6_bears_56 : decode cX6_bears 56 = .ok (.aload_n 0, 1) := by decide +kernel
theorem dX6_bears_57 : decode cX6_bears 57 = .ok (.getfield 10, 3) := by decide +kernel
theorem dX6_bears_60 : decode cX6_bears 60 = .ok (.getfield 161, 3) := by decide +kernel
theorem dX6_bears_63 : decode cX6_bears 63 = .ok (.isub, 1) := by decide +kernel
theorem dX6_bears_64 : decode cX6_bears 64 = .ok (.ireturn, 1) := by decide +kernel
theorem dX6_bears_65 : decode cX6_bears 65 = .ok (.iinc 3 1, 3) := by decide +kernel
theorem dX6_bears_68 : decode cX6_bears 68 = .ok (.goto (-35), 3) := by decide +kernel
theorem dX6_bears_71 : decode cX6_bears 71 = .ok (.bipush (-4), 2) := by decide +kernel
theorem dX6_bears_73 : decode cX6_bears 73 = .ok (.ireturn, 1) := by decide +kernel
theorem dX6_ware_0 : decode cX6_ware 0 = .ok (.iload_n 1, 1) := by decide +kernel
theorem dX6_ware_1 : decode cX6_ware 1 = .ok (.iconst 1, 1) := by decide +kernel
theorem dX6_ware_2 : decode cX6_ware 2 = .ok (.sipush 9999, 3) := by decide +kernel
theorem dX6_ware_5 : decode cX6_ware 5 = .ok (.invokestatic 61, 3) := by decide +kernel
theorem dX6_ware_8 : decode cX6_ware 8 = .ok (.ifCond .eq 13, 3) := by decide +kernel
theorem dX6_ware_11 : decode cX6_ware 11 = .ok (.iload_n 2, 1) := by decide +kernel
theorem dX6_ware_12 : decode cX6_ware 12 = .ok (.iconst 1, 1) := by decide +kernel
theorem dX6_ware_13 : decode cX6_ware 13 = .ok (.bipush 9, 2) := by decide +kernel
theorem dX6_ware_15 : decode cX6_ware 15 = .ok (.invokestatic 61, 3) := by decide +kernel
theorem dX6_ware_18 : decode cX6_ware 18 = .ok (.ifCond .ne 5, 3) := by decide +kernel
theorem dX6_ware_21 : decode cX6_ware 21 = .ok (.iconst (-1), 1) := by decide +kernel
theorem dX6_ware_22 : decode cX6_ware 22 = .ok (.ireturn, 1) := by decide +kernel
theorem dX6_ware_23 : decode cX6_ware 23 = .ok (.aload_n 0, 1) := by decide +kernel
theorem dX6_ware_24 : decode cX6_ware 24 = .ok (.getfield 10, 3) := by decide +kernel
theorem dX6_ware_27 : decode cX6_ware 27 = .ok (.getfield 173, 3) := by decide +kernel
theorem dX6_ware_30 : decode cX6_ware 30 = .ok (.bipush 8, 2) := by decide +kernel
theorem dX6_ware_32 : decode cX6_ware 32 = .ok (.if_icmp .lt 6, 3) := by decide +kernel
theorem dX6_ware_35 : decode cX6_ware 35 = .ok (.bipush (-3), 2) := by decide +kernel
theorem dX6_ware_37 : decode cX6_ware 37 = .ok (.ireturn, 1) := by decide +kernel
theorem dX6_ware_38 : decode cX6_ware 38 = .ok (.aload_n 0, 1) := by decide +kernel
theorem dX6_ware_39 : decode cX6_ware 39 = .ok (.getfield 10, 3) := by decide +kernel
theorem dX6_ware_42 : decode cX6_ware 42 = .ok (.getfield 246, 3) := by decide +kernel
theorem dX6_ware_45 : decode cX6_ware 45 = .ok (.aload_n 0, 1) := by decide +kernel
theorem dX6_ware_46 : decode cX6_ware 46 = .ok (.getfield 10, 3) := by decide +kernel
theorem dX6_ware_49 : decode cX6_ware 49 = .ok (.getfield 173, 3) := by decide +kernel
theorem dX6_ware_52 : decode cX6_ware 52 = .ok (.iload_n 1, 1) := by decide +kernel
theorem dX6_ware_53 : decode cX6_ware 53 = .ok (.iastore, 1) := by decide +kernel
theorem dX6_ware_54 : decode cX6_ware 54 = .ok (.aload_n 0, 1) := by decide +kernel
theorem dX6_ware_55 : decode cX6_ware 55 = .ok (.getfield 10, 3) := by decide +kernel
theorem dX6_ware_58 : decode cX6_ware 58 = .ok (.getfield 249, 3) := by decide +kernel
theorem dX6_ware_61 : decode cX6_ware 61 = .ok (.aload_n 0, 1) := by decide +kernel
theorem dX6_ware_62 : decode cX6_ware 62 = .ok (.getfield 10, 3) := by decide +kernel
theorem dX6_ware_65 : decode cX6_ware 65 = .ok (.getfield 173, 3) := by decide +kernel
theorem dX6_ware_68 : decode cX6_ware 68 = .ok (.iload_n 2, 1) := by decide +kernel
theorem dX6_ware_69 : decode cX6_ware 69 = .ok (.iastore, 1) := by decide +kernel
theorem dX6_ware_70 : decode cX6_ware 70 = .ok (.aload_n 0, 1) := by decide +kernel
theorem dX6_ware_71 : decode cX6_ware 71 = .ok (.getfield 10, 3) := by decide +kernel
theorem dX6_ware_74 : decode cX6_ware 74 = .ok (.dup, 1) := by decide +kernel
theorem dX6_ware_75 : decode cX6_ware 75 = .ok (.getfield 173, 3) := by decide +kernel
theorem dX6_ware_78 : decode cX6_ware 78 = .ok (.iconst 1, 1) := by decide +kernel
theorem dX6_ware_79 : decode cX6_ware 79 = .ok (.iadd, 1) := by decide +kernel
theorem dX6_ware_80 : decode cX6_ware 80 = .ok (.putfield 173, 3) := by decide +kernel
theorem dX6_ware_83 : decode cX6_ware 83 = .ok (.aload_n 0, 1) := by decide +kernel
theorem dX6_ware_84 : decode cX6_ware 84 = .ok (.getfield 10, 3) := by decide +kernel
theorem dX6_ware_87 : decode cX6_ware 87 = .ok (.getfield 173, 3) := by decide +kernel
theorem dX6_ware_90 : decode cX6_ware 90 = .ok (.iconst 1, 1) := by decide +kernel
theorem dX6_ware_91 : decode cX6_ware 91 = .ok (.isub, 1) := by decide +kernel
theorem dX6_ware_92 : decode cX6_ware 92 = .ok (.ireturn, 1) := by decide +kernel
theorem dX6_under_0 : decode cX6_under 0 = .ok (.iload_n 1, 1) := by decide +kernel
theorem dX6_under_1 : decode cX6_under 1 = .ok (.iconst 0, 1) := by decide +kernel
theorem dX6_under_2 : decode cX6_under 2 = .ok (.aload_n 0, 1) := by decide +kernel
theorem dX6_under_3 : decode cX6_under 3 = .ok (.getfield 10, 3) := by decide +kernel
theorem dX6_under_6 : decode cX6_under 6 = .ok (.getfield 173, 3) := by decide +kernel
theorem dX6_under_9 : decode cX6_under 9 = .ok (.iconst 1, 1) := by decide +kernel
theorem dX6_under_10 : decode cX6_under 10 = .ok (.isub, 1) := by decide +kernel
theorem dX6_under_11 : decode cX6_under 11 = .ok (.invokestatic 61, 3) := by decide +kernel
theorem dX6_under_14 : decode cX6_under 14 = .ok (.ifCond .eq 33, 3) := by decide +kernel
theorem dX6_under_17 : decode cX6_under 17 = .ok (.iload_n 2, 1) := by decide +kernel
theorem dX6_under_18 : decode cX6_under 18 = .ok (.iconst 1, 1) := by decide +kernel
theorem dX6_under_19 : decode cX6_under 19 = .ok (.bipush 99, 2) := by decide +kernel
theorem dX6_under_21 : decode cX6_under 21 = .ok (.invokestatic 61, 3) := by decide +kernel
theorem dX6_under_24 : decode cX6_under 24 = .ok (.ifCond .eq 23, 3) := by decide +kernel
theorem dX6_under_27 : decode cX6_under 27 = .ok (.iload_n 3, 1) := by decide +kernel
theorem dX6_under_28 : decode cX6_under 28 = .ok (.iconst 1, 1) := by decide +kernel
theorem dX6_under_29 : decode cX6_under 29 = .ok (.ldc 252, 2) := by decide +kernel
theorem dX6_under_31 : decode cX6_under 31 = .ok (.invokestatic 61, 3) := by decide +kernel
theorem dX6_under_34 : decode cX6_under 34 = .ok (.ifCond .eq 13, 3) := by decide +kernel
theorem dX6_under_37 : decode cX6_under 37 = .ok (.iload 4, 2) := by decide +kernel
theorem dX6_under_39 : decode cX6_under 39 = .ok (.iconst 0, 1) := by decide +kernel
theorem dX6_under_40 : decode cX6_under 40 = .ok (.iconst 1, 1) := by decide +kernel
theorem dX6_under_41 : decode cX6_under 41 = .ok (.invokestatic 61, 3) := by decide +kernel
theorem dX6_under_44 : decode cX6_under 44 = .ok (.ifCond .ne 5, 3) := by decide +kernel
theorem dX6_under_47 : decode cX6_under 47 = .ok (.iconst (-1), 1) := by decide +kernel
theorem dX6_under_48 : decode cX6_under 48 = .ok (.ireturn, 1) := by decide +kernel
theorem dX6_under_49 : decode cX6_under 49 = .ok (.iconst 0, 1) := by decide +kernel
theorem dX6_under_50 : decode cX6_under 50 = .ok (.istore 5, 2) := by decide +kernel
theorem dX6_under_52 : decode cX6_under 52 = .ok (.bipush (-4), 2) := by decide +kernel
theorem dX6_under_54 : decode cX6_under 54 = .ok (.istore 6, 2) := by decide +kernel
theorem dX6_under_56 : decode cX6_under 56 = .ok (.iconst 1, 1) := by decide +kernel
theorem dX6_under_57 : decode cX6_under 57 = .ok (.aload_n 0, 1) := by decide +kernel
theorem dX6_under_58 : decode cX6_under 58 = .ok (.getfield 10, 3) := by decide +kernel
theorem dX6_under_61 : decode cX6_under 61 = .ok (.getfield 173, 3) := by decide +kernel
theorem dX6_under_64 : decode cX6_under 64 = .ok (.ishl, 1) := by decide +kernel
theorem dX6_under_65 : decode cX6_under 65 = .ok (.iconst 1, 1) := by decide +kernel
theorem dX6_under_66 : decode cX6_under 66 = .ok (.isub, 1) := by decide +kernel
theorem dX6_under_67 : decode cX6_under 67 = .ok (.istore 7, 2) := by decide +kernel
theorem dX6_under_69 : decode cX6_under 69 = .ok (.iload 7, 2) := by decide +kernel
theorem dX6_under_71 : decode cX6_under 71 = .ok (.ifCond .le 39, 3) := by decide +kernel
theorem dX6_under_74 : decode cX6_under 74 = .ok (.iload 7, 2) := by decide +kernel
theorem dX6_under_76 : decode cX6_under 76 = .ok (.iload_n 1, 1) := by decide +kernel
theorem dX6_under_77 : decode cX6_under 77 = .ok (.invokestatic 253, 3) := by decide +kernel
theorem dX6_under_80 : decode cX6_under 80 = .ok (.ifCond .eq 24, 3) := by decide +kernel
theorem dX6_under_83 : decode cX6_under 83 = .ok (.aload_n 0, 1) := by decide +kernel
theorem dX6_under_84 : decode cX6_under 84 = .ok (.getfield 10, 3) := by decide +kernel
theorem dX6_under_87 : decode cX6_under 87 = .ok (.iload 7, 2) := by decide +kernel
theorem dX6_under_89 : decode cX6_under 89 = .ok (.iload_n 2, 1) := by decide +kernel
theorem dX6_under_90 : decode cX6_under 90 = .ok (.iload_n 3, 1) := by decide +kernel
theorem dX6_under_91 : decode cX6_under 91 = .ok (.invokevirtual 256, 3) := by decide +kernel
theorem dX6_under_94 : decode cX6_under 94 = .ok (.ifCond .eq 10, 3) := by decide +kernel
theorem dX6_under_97 : decode cX6_under 97 = .ok (.iinc 5 1, 3) := by decide +kernel
theorem dX6_under_100 : decode cX6_under 100 = .ok (.iload 7, 2) := by decide +kernel
theorem dX6_under_102 : decode cX6_under 102 = .ok (.istore 6, 2) := by decide +kernel
theorem dX6_under_104 : decode cX6_under 104 = .ok (.iinc 7 (-1), 3) := by decide +kernel
theorem dX6_under_107 : decode cX6_under 107 = .ok (.goto (-38), 3) := by decide +kernel
theorem dX6_under_110 : decode cX6_under 110 = .ok (.iload 4, 2) := by decide +kernel
theorem dX6_under_112 : decode cX6_under 112 = .ok (.ifCond .ne 8, 3) := by decide +kernel
theorem dX6_under_115 : decode cX6_under 115 = .ok (.iload 5, 2) := by decide +kernel
theorem dX6_under_117 : decode cX6_under 117 = .ok (.goto 5, 3) := by decide +kernel
theorem dX6_under_120 : decode cX6_under 120 = .ok (.iload 6, 2) := by decide +kernel
theorem dX6_under_122 : decode cX6_under 122 = .ok (.ireturn, 1) := by decide +kernel
theorem dX6_image_0 : decode cX6_image 0 = .ok (.aload_n 0, 1) := by decide +kernel
theorem dX6_image_1 : decode cX6_image 1 = .ok (.getfield 16, 3) := by decide +kernel
theorem dX6_image_4 : decode cX6_image 4 = .ok (.aload_n 0, 1) := by decide +kernel
theorem dX6_image_5 : decode cX6_image 5 = .ok (.getfield 10, 3) := by decide +kernel
theorem dX6_image_8 : decode cX6_image 8 = .ok (.invokevirtual 259, 3) := by decide +kernel
theorem dX6_image_11 : decode cX6_image 11 = .ok (.aload_n 0, 1) := by decide +kernel
theorem dX6_image_12 : decode cX6_image 12 = .ok (.iconst 1, 1) := by decide +kernel
theorem dX6_image_13 : decode cX6_image 13 = .ok (.putfield 57, 3) := by decide +kernel
theorem dX6_image_16 : decode cX6_image 16 = .ok (.iconst 1, 1) := by decide +kernel
theorem dX6_image_17 : decode cX6_image 17 = .ok (.ireturn, 1) := by decide +kernel
theorem dX6_restore_0 : decode cX6_restore 0 = .ok (.aload_n 0, 1) := by decide +kernel
theorem dX6_restore_1 : decode cX6_restore 1 = .ok (.getfield 57, 3) := by decide +kernel
theorem dX6_restore_4 : decode cX6_restore 4 = .ok (.ifCond .ne 6, 3) := by decide +kernel
theorem dX6_restore_7 : decode cX6_restore 7 = .ok (.bipush (-4), 2) := by decide +kernel
theorem dX6_restore_9 : decode cX6_restore 9 = .ok (.ireturn, 1) := by decide +kernel
theorem dX6_restore_10 : decode cX6_restore 10 = .ok (.aload_n 0, 1) := by decide +kernel
theorem dX6_restore_11 : decode cX6_restore 11 = .ok (.getfield 10, 3) := by decide +kernel
theorem dX6_restore_14 : decode cX6_restore 14 = .ok (.aload_n 0, 1) := by decide +kernel
theorem dX6_restore_15 : decode cX6_restore 15 = .ok (.getfield 16, 3) := by decide +kernel
theorem dX6_restore_18 : decode cX6_restore 18 = .ok (.invokevirtual 259, 3) := by decide +kernel
theorem dX6_restore_21 : decode cX6_restore 21 = .ok (.iconst 1, 1) := by decide +kernel
theorem dX6_restore_22 : decode cX6_restore 22 = .ok (.ireturn, 1) := by decide +kernel
theorem dX6_judged_0 : decode cX6_judged 0 = .ok (.iload_n 1, 1) := by decide +kernel
theorem dX6_judged_1 : decode cX6_judged 1 = .ok (.invokestatic 261, 3) := by decide +kernel
theorem dX6_judged_4 : decode cX6_judged 4 = .ok (.ifCond .eq 21, 3) := by decide +kernel
theorem dX6_judged_7 : decode cX6_judged 7 = .ok (.iload_n 2, 1) := by decide +kernel
theorem dX6_judged_8 : decode cX6_judged 8 = .ok (.invokestatic 264, 3) := by decide +kernel
theorem dX6_judged_11 : decode cX6_judged 11 = .ok (.ifCond .eq 14, 3) := by decide +kernel
theorem dX6_judged_14 : decode cX6_judged 14 = .ok (.iload 4, 2) := by decide +kernel
theorem dX6_judged_16 : decode cX6_judged 16 = .ok (.iconst 1, 1) := by decide +kernel
theorem dX6_judged_17 : decode cX6_judged 17 = .ok (.bipush 8, 2) := by decide +kernel
theorem dX6_judged_19 : decode cX6_judged 19 = .ok (.invokestatic 61, 3) := by decide +kernel
theorem dX6_judged_22 : decode cX6_judged 22 = .ok (.ifCond .ne 5, 3) := by decide +kernel
theorem dX6_judged_25 : decode cX6_judged 25 = .ok (.iconst (-1), 1) := by decide +kernel
theorem dX6_judged_26 : decode cX6_judged 26 = .ok (.ireturn, 1) := by decide +kernel
theorem dX6_judged_27 : decode cX6_judged 27 = .ok (.aload_n 0, 1) := by decide +kernel
theorem dX6_judged_28 : decode cX6_judged 28 = .ok (.getfield 52, 3) := by decide +kernel
theorem dX6_judged_31 : decode cX6_judged 31 = .ok (.iload_n 1, 1) := by decide +kernel
theorem dX6_judged_32 : decode cX6_judged 32 = .ok (.aaload, 1) := by decide +kernel
theorem dX6_judged_33 : decode cX6_judged 33 = .ok (.astore 5, 2) := by decide +kernel
theorem dX6_judged_35 : decode cX6_judged 35 = .ok (.aload 5, 2) := by decide +kernel
theorem dX6_judged_37 : decode cX6_judged 37 = .ok (.iload_n 2, 1) := by decide +kernel
theorem dX6_judged_38 : decode cX6_judged 38 = .ok (.iload_n 3, 1) := by decide +kernel
theorem dX6_judged_39 : decode cX6_judged 39 = .ok (.iconst 3, 1) := by decide +kernel
theorem dX6_judged_40 : decode cX6_judged 40 = .ok (.iload 4, 2) := by decide +kernel
theorem dX6_judged_42 : decode cX6_judged 42 = .ok (.imul, 1) := by decide +kernel
theorem dX6_judged_43 : decode cX6_judged 43 = .ok (.invokevirtual 267, 3) := by decide +kernel
theorem dX6_judged_46 : decode cX6_judged 46 = .ok (.istore 6, 2) := by decide +kernel
theorem dX6_judged_48 : decode cX6_judged 48 = .ok (.iload 6, 2) := by decide +kernel
theorem dX6_judged_50 : decode cX6_judged 50 = .ok (.ifCond .eq 6, 3) := by decide +kernel
theorem dX6_judged_53 : decode cX6_judged 53 = .ok (.iload 6, 2) := by decide +kernel
theorem dX6_judged_55 : decode cX6_judged 55 = .ok (.ireturn, 1) := by decide +kernel
theorem dX6_judged_56 : decode cX6_judged 56 = .ok (.aload_n 0, 1) := by decide +kernel
theorem dX6_judged_57 : decode cX6_judged 57 = .ok (.getfield 19, 3) := by decide +kernel
theorem dX6_judged_60 : decode cX6_judged 60 = .ok (.aload_n 0, 1) := by decide +kernel
theorem dX6_judged_61 : decode cX6_judged 61 = .ok (.getfield 10, 3) := by decide +kernel
theorem dX6_judged_64 : decode cX6_judged 64 = .ok (.invokevirtual 259, 3) := by decide +kernel
theorem dX6_judged_67 : decode cX6_judged 67 = .ok (.iconst 0, 1) := by decide +kernel
theorem dX6_judged_68 : decode cX6_judged 68 = .ok (.istore 7, 2) := by decide +kernel
theorem dX6_judged_70 : decode cX6_judged 70 = .ok (.iload 7, 2) := by decide +kernel
theorem dX6_judged_72 : decode cX6_judged 72 = .ok (.iload 4, 2) := by decide +kernel
theorem dX6_judged_74 : decode cX6_judged 74 = .ok (.if_icmp .ge 58, 3) := by decide +kernel
theorem dX6_judged_77 : decode cX6_judged 77 = .ok (.iload_n 3, 1) := by decide +kernel
theorem dX6_judged_78 : decode cX6_judged 78 = .ok (.iconst 3, 1) := by decide +kernel
theorem dX6_judged_79 : decode cX6_judged 79 = .ok (.iload 7, 2) := by decide +kernel
theorem dX6_judged_81 : decode cX6_judged 81 = .ok (.imul, 1) := by decide +kernel
theorem dX6_judged_82 : decode cX6_judged 82 = .ok (.iadd, 1) := by decide +kernel
theorem dX6_judged_83 : decode cX6_judged 83 = .ok (.istore 8, 2) := by decide +kernel
theorem dX6_judged_85 : decode cX6_judged 85 = .ok (.aload_n 0, 1) := by decide +kernel
theorem dX6_judged_86 : decode cX6_judged 86 = .ok (.getfield 19, 3) := by decide +kernel
theorem dX6_judged_89 : decode cX6_judged 89 = .ok (.aload 5, 2) := by decide +kernel
theorem dX6_judged_91 : decode cX6_judged 91 = .ok (.getfield 271, 3) := by decide +kernel
theorem dX6_judged_94 : decode cX6_judged 94 = .ok (.iload 8, 2) := by decide +kernel
theorem dX6_judged_96 : decode cX6_judged 96 = .ok (.iaload, 1) := by decide +kernel
theorem dX6_judged_97 : decode cX6_judged 97 = .ok (.aload 5, 2) := by decide +kernel
theorem dX6_judged_99 : decode cX6_judged 99 = .ok (.getfield 271, 3) := by decide +kernel
theorem dX6_judged_102 : decode cX6_judged 102 = .ok (.iload 8, 2) := by decide +kernel
theorem dX6_judged_104 : decode cX6_judged 104 = .ok (.iconst 1, 1) := by decide +kernel
theorem dX6_judged_105 : decode cX6_judged 105 = .ok (.iadd, 1) := by decide +kernel
theorem dX6_judged_106 : decode cX6_judged 106 = .ok (.iaload, 1) := by decide +kernel
theorem dX6_judged_107 : decode cX6_judged 107 = .ok (.aload 5, 2) := by decide +kernel
theorem dX6_judged_109 : decode cX6_judged 109 = .ok (.getfield 271, 3) := by decide +kernel
theorem dX6_judged_112 : decode cX6_judged 112 = .ok (.iload 8, 2) := by decide +kernel
theorem dX6_judged_114 : decode cX6_judged 114 = .ok (.iconst 2, 1) := by decide +kernel
theorem dX6_judged_115 : decode cX6_judged 115 = .ok (.iadd, 1) := by decide +kernel
theorem dX6_judged_116 : decode cX6_judged 116 = .ok (.iaload, 1) := by decide +kernel
theorem dX6_judged_117 : decode cX6_judged 117 = .ok (.invokevirtual 274, 3) := by decide +kernel
theorem dX6_judged_120 : decode cX6_judged 120 = .ok (.ifCond .ne 6, 3) := by decide +kernel
theorem dX6_judged_123 : decode cX6_judged 123 = .ok (.iload 7, 2) := by decide +kernel
theorem dX6_judged_125 : decode cX6_judged 125 = .ok (.ireturn, 1) := by decide +kernel
theorem dX6_judged_126 : decode cX6_judged 126 = .ok (.iinc 7 1, 3) := by decide +kernel
theorem dX6_judged_129 : decode cX6_judged 129 = .ok (.goto (-59), 3) := by decide +kernel
theorem dX6_judged_132 : decode cX6_judged 132 = .ok (.bipush (-4), 2) := by decide +kernel
theorem dX6_judged_134 : decode cX6_judged 134 = .ok (.ireturn, 1) := by decide +kernel
theorem dX6_sheet_0 : decode cX6_sheet 0 = .ok (.iload_n 1, 1) := by decide +kernel
theorem dX6_sheet_1 : decode cX6_sheet 1 = .ok (.invokestatic 261, 3) := by decide +kernel
theorem dX6_sheet_4 : decode cX6_sheet 4 = .ok (.ifCond .eq 16, 3) := by decide +kernel
theorem dX6_sheet_7 : decode cX6_sheet 7 = .ok (.iload_n 2, 1) := by decide +kernel
theorem dX6_sheet_8 : decode cX6_sheet 8 = .ok (.invokestatic 264, 3) := by decide +kernel
theorem dX6_sheet_11 : decode cX6_sheet 11 = .ok (.ifCond .eq 9, 3) := by decide +kernel
theorem dX6_sheet_14 : decode cX6_sheet 14 = .ok (.iload_n 3, 1) := by decide +kernel
theorem dX6_sheet_15 : decode cX6_sheet 15 = .ok (.bipush 24, 2) := by decide +kernel
theorem dX6_sheet_17 : decode cX6_sheet 17 = .ok (.if_icmp .le 5, 3) := by decide +kernel
theorem dX6_sheet_20 : decode cX6_sheet 20 = .ok (.iconst (-1), 1) := by decide +kernel
theorem dX6_sheet_21 : decode cX6_sheet 21 = .ok (.ireturn, 1) := by decide +kernel
theorem dX6_sheet_22 : decode cX6_sheet 22 = .ok (.iload_n 3, 1) := by decide +kernel
theorem dX6_sheet_23 : decode cX6_sheet 23 = .ok (.ifCond .ge 6, 3) := by decide +kernel
theorem dX6_sheet_26 : decode cX6_sheet 26 = .ok (.bipush (-14), 2) := by decide +kernel
theorem dX6_sheet_28 : decode cX6_sheet 28 = .ok (.ireturn, 1) := by decide +kernel
theorem dX6_sheet_29 : decode cX6_sheet 29 = .ok (.aload_n 0, 1) := by decide +kernel
theorem dX6_sheet_30 : decode cX6_sheet 30 = .ok (.getfield 52, 3) := by decide +kernel
theorem dX6_sheet_33 : decode cX6_sheet 33 = .ok (.iload_n 1, 1) := by decide +kernel
theorem dX6_sheet_34 : decode cX6_sheet 34 = .ok (.aaload, 1) := by decide +kernel
theorem dX6_sheet_35 : decode cX6_sheet 35 = .ok (.iload_n 2, 1) := by decide +kernel
theorem dX6_sheet_36 : decode cX6_sheet 36 = .ok (.iload_n 3, 1) := by decide +kernel
theorem dX6_sheet_37 : decode cX6_sheet 37 = .ok (.invokevirtual 277, 3) := by decide +kernel
theorem dX6_sheet_40 : decode cX6_sheet 40 = .ok (.iload_n 3, 1) := by decide +kernel
theorem dX6_sheet_41 : decode cX6_sheet 41 = .ok (.ireturn, 1) := by decide +kernel
theorem dX6_drop_0 : decode cX6_drop 0 = .ok (.iload_n 1, 1) := by decide +kernel
theorem dX6_drop_1 : decode cX6_drop 1 = .ok (.invokestatic 261, 3) := by decide +kernel
theorem dX6_drop_4 : decode cX6_drop 4 = .ok (.ifCond .ne 5, 3) := by decide +kernel
theorem dX6_drop_7 : decode cX6_drop 7 = .ok (.iconst (-1), 1) := by decide +kernel
theorem dX6_drop_8 : decode cX6_drop 8 = .ok (.ireturn, 1) := by decide +kernel
theorem dX6_drop_9 : decode cX6_drop 9 = .ok (.aload_n 0, 1) := by decide +kernel
theorem dX6_drop_10 : decode cX6_drop 10 = .ok (.getfield 52, 3) := by decide +kernel
theorem dX6_drop_13 : decode cX6_drop 13 = .ok (.iload_n 1, 1) := by decide +kernel
theorem dX6_drop_14 : decode cX6_drop 14 = .ok (.aaload, 1) := by decide +kernel
theorem dX6_drop_15 : decode cX6_drop 15 = .ok (.astore_n 2, 1) := by decide +kernel
theorem dX6_drop_16 : decode cX6_drop 16 = .ok (.aload_n 2, 1) := by decide +kernel
theorem dX6_drop_17 : decode cX6_drop 17 = .ok (.getfield 280, 3) := by decide +kernel
theorem dX6_drop_20 : decode cX6_drop 20 = .ok (.ifCond .ne 6, 3) := by decide +kernel
theorem dX6_drop_23 : decode cX6_drop 23 = .ok (.bipush (-11), 2) := by decide +kernel
theorem dX6_drop_25 : decode cX6_drop 25 = .ok (.ireturn, 1) := by decide +kernel
theorem dX6_drop_26 : decode cX6_drop 26 = .ok (.aload_n 2, 1) := by decide +kernel
theorem dX6_drop_27 : decode cX6_drop 27 = .ok (.iconst 0, 1) := by decide +kernel
theorem dX6_drop_28 : decode cX6_drop 28 = .ok (.putfield 280, 3) := by decide +kernel
theorem dX6_drop_31 : decode cX6_drop 31 = .ok (.aload_n 2, 1) := by decide +kernel
theorem dX6_drop_32 : decode cX6_drop 32 = .ok (.getfield 283, 3) := by decide +kernel
theorem dX6_drop_35 : decode cX6_drop 35 = .ok (.ireturn, 1) := by decide +kernel
theorem dX6_item_0 : decode cX6_item 0 = .ok (.iload_n 1, 1) := by decide +kernel
theorem dX6_item_1 : decode cX6_item 1 = .ok (.invokestatic 261, 3) := by decide +kernel
theorem dX6_item_4 : decode cX6_item 4 = .ok (.ifCond .eq 10, 3) := by decide +kernel
theorem dX6_item_7 : decode cX6_item 7 = .ok (.iload_n 2, 1) := by decide +kernel
theorem dX6_item_8 : decode cX6_item 8 = .ok (.invokestatic 264, 3) := by decide +kernel
theorem dX6_item_11 : decode cX6_item 11 = .ok (.ifCond .ne 5, 3) := by decide +kernel
theorem dX6_item_14 : decode cX6_item 14 = .ok (.iconst (-1), 1) := by decide +kernel
theorem dX6_item_15 : decode cX6_item 15 = .ok (.ireturn, 1) := by decide +kernel
theorem dX6_item_16 : decode cX6_item 16 = .ok (.aload_n 0, 1) := by decide +kernel
theorem dX6_item_17 : decode cX6_item 17 = .ok (.getfield 52, 3) := by decide +kernel
theorem dX6_item_20 : decode cX6_item 20 = .ok (.iload_n 1, 1) := by decide +kernel
theorem dX6_item_21 : decode cX6_item 21 = .ok (.aaload, 1) := by decide +kernel
theorem dX6_item_22 : decode cX6_item 22 = .ok (.astore 5, 2) := by decide +kernel
theorem dX6_item_24 : decode cX6_item 24 = .ok (.aload 5, 2) := by decide +kernel
theorem dX6_item_26 : decode cX6_item 26 = .ok (.iload_n 2, 1) := by decide +kernel
theorem dX6_item_27 : decode cX6_item 27 = .ok (.iload_n 3, 1) := by decide +kernel
theorem dX6_item_28 : decode cX6_item 28 = .ok (.iconst 1, 1) := by decide +kernel
theorem dX6_item_29 : decode cX6_item 29 = .ok (.invokevirtual 267, 3) := by decide +kernel
theorem dX6_item_32 : decode cX6_item 32 = .ok (.istore 6, 2) := by decide +kernel
theorem dX6_item_34 : decode cX6_item 34 = .ok (.iload 6, 2) := by decide +kernel
theorem dX6_item_36 : decode cX6_item 36 = .ok (.ifCond .eq 6, 3) := by decide +kernel
theorem dX6_item_39 : decode cX6_item 39 = .ok (.iload 6, 2) := by decide +kernel
theorem dX6_item_41 : decode cX6_item 41 = .ok (.ireturn, 1) := by decide +kernel
theorem dX6_item_42 : decode cX6_item 42 = .ok (.aload 5, 2) := by decide +kernel
theorem dX6_item_44 : decode cX6_item 44 = .ok (.getfield 271, 3) := by decide +kernel
theorem dX6_item_47 : decode cX6_item 47 = .ok (.iload_n 3, 1) := by decide +kernel
theorem dX6_item_48 : decode cX6_item 48 = .ok (.iload_n 2, 1) := by decide +kernel
theorem dX6_item_49 : decode cX6_item 49 = .ok (.iload 4, 2) := by decide +kernel
theorem dX6_item_51 : decode cX6_item 51 = .ok (.invokestatic 284, 3) := by decide +kernel
theorem dX6_item_54 : decode cX6_item 54 = .ok (.iastore, 1) := by decide +kernel
theorem dX6_item_55 : decode cX6_item 55 = .ok (.iconst 1, 1) := by decide +kernel
theorem dX6_item_56 : decode cX6_item 56 = .ok (.ireturn, 1) := by decide +kernel
theorem dX6_copy_0 : decode cX6_copy 0 = .ok (.iload_n 1, 1) := by decide +kernel
theorem dX6_copy_1 : decode cX6_copy 1 = .ok (.invokestatic 261, 3) := by decide +kernel
theorem dX6_copy_4 : decode cX6_copy 4 = .ok (.ifCond .eq 10, 3) := by decide +kernel
theorem dX6_copy_7 : decode cX6_copy 7 = .ok (.iload_n 3, 1) := by decide +kernel
theorem dX6_copy_8 : decode cX6_copy 8 = .ok (.invokestatic 261, 3) := by decide +kernel
theorem dX6_copy_11 : decode cX6_copy 11 = .ok (.ifCond .ne 5, 3) := by decide +kernel
theorem dX6_copy_14 : decode cX6_copy 14 = .ok (.iconst (-1), 1) := by decide +kernel
theorem dX6_copy_15 : decode cX6_copy 15 = .ok (.ireturn, 1) := by decide +kernel
theorem dX6_copy_16 : decode cX6_copy 16 = .ok (.aload_n 0, 1) := by decide +kernel
theorem dX6_copy_17 : decode cX6_copy 17 = .ok (.getfield 52, 3) := by decide +kernel
theorem dX6_copy_20 : decode cX6_copy 20 = .ok (.iload_n 1, 1) := by decide +kernel
theorem dX6_copy_21 : decode cX6_copy 21 = .ok (.aaload, 1) := by decide +kernel
theorem dX6_copy_22 : decode cX6_copy 22 = .ok (.astore 6, 2) := by decide +kernel
theorem dX6_copy_24 : decode cX6_copy 24 = .ok (.aload_n 0, 1) := by decide +kernel
theorem dX6_copy_25 : decode cX6_copy 25 = .ok (.getfield 52, 3) := by decide +kernel
theorem dX6_copy_28 : decode cX6_copy 28 = .ok (.iload_n 3, 1) := by decide +kernel
theorem dX6_copy_29 : decode cX6_copy 29 = .ok (.aaload, 1) := by decide +kernel
theorem dX6_copy_30 : decode cX6_copy 30 = .ok (.astore 7, 2) := by decide +kernel
theorem dX6_copy_32 : decode cX6_copy 32 = .ok (.aload 6, 2) := by decide +kernel
theorem dX6_copy_34 : decode cX6_copy 34 = .ok (.getfield 280, 3) := by decide +kernel
theorem dX6_copy_37 : decode cX6_copy 37 = .ok (.ifCond .eq 11, 3) := by decide +kernel
theorem dX6_copy_40 : decode cX6_copy 40 = .ok (.aload 7, 2) := by decide +kernel
theorem dX6_copy_42 : decode cX6_copy 42 = .ok (.getfield 280, 3) := by decide +kernel
theorem dX6_copy_45 : decode cX6_copy 45 = .ok (.ifCond .ne 6, 3) := by decide +kernel
theorem dX6_copy_48 : decode cX6_copy 48 = .ok (.bipush (-11), 2) := by decide +kernel
theorem dX6_copy_50 : decode cX6_copy 50 = .ok (.ireturn, 1) := by decide +kernel
theorem dX6_copy_51 : decode cX6_copy 51 = .ok (.aload 6, 2) := by decide +kernel
theorem dX6_copy_53 : decode cX6_copy 53 = .ok (.getfield 287, 3) := by decide +kernel
theorem dX6_copy_56 : decode cX6_copy 56 = .ok (.aload 7, 2) := by decide +kernel
theorem dX6_copy_58 : decode cX6_copy 58 = .ok (.getfield 287, 3) := by decide +kernel
theorem dX6_copy_61 : decode cX6_copy 61 = .ok (.if_icmp .eq 6, 3) := by decide +kernel
theorem dX6_copy_64 : decode cX6_copy 64 = .ok (.bipush (-12), 2) := by decide +kernel
theorem dX6_copy_66 : decode cX6_copy 66 = .ok (.ireturn, 1) := by decide +kernel
theorem dX6_copy_67 : decode cX6_copy 67 = .ok (.aload 6, 2) := by decide +kernel
theorem dX6_copy_69 : decode cX6_copy 69 = .ok (.iload_n 2, 1) := by decide +kernel
theorem dX6_copy_70 : decode cX6_copy 70 = .ok (.iload 5, 2) := by decide +kernel
theorem dX6_copy_72 : decode cX6_copy 72 = .ok (.invokevirtual 290, 3) := by decide +kernel
theorem dX6_copy_75 : decode cX6_copy 75 = .ok (.ifCond .eq 15, 3) := by decide +kernel
theorem dX6_copy_78 : decode cX6_copy 78 = .ok (.aload 7, 2) := by decide +kernel
theorem dX6_copy_80 : decode cX6_copy 80 = .ok (.iload 4, 2) := by decide +kernel
theorem dX6_copy_82 : decode cX6_copy 82 = .ok (.iload 5, 2) := by decide +kernel
theorem dX6_copy_84 : decode cX6_copy 84 = .ok (.invokevirtual 290, 3) := by decide +kernel
theorem dX6_copy_87 : decode cX6_copy 87 = .ok (.ifCond .ne 6, 3) := by decide +kernel
theorem dX6_copy_90 : decode cX6_copy 90 = .ok (.bipush (-13), 2) := by decide +kernel
theorem dX6_copy_92 : decode cX6_copy 92 = .ok (.ireturn, 1) := by decide +kernel
theorem dX6_copy_93 : decode cX6_copy 93 = .ok (.aload 6, 2) := by decide +kernel
theorem dX6_copy_95 : decode cX6_copy 95 = .ok (.getfield 271, 3) := by decide +kernel
theorem dX6_copy_98 : decode cX6_copy 98 = .ok (.iload_n 2, 1) := by decide +kernel
theorem dX6_copy_99 : decode cX6_copy 99 = .ok (.aload 7, 2) := by decide +kernel
theorem dX6_copy_101 : decode cX6_copy 101 = .ok (.getfield 271, 3) := by decide +kernel
theorem dX6_copy_104 : decode cX6_copy 104 = .ok (.iload 4, 2) := by decide +kernel
theorem dX6_copy_106 : decode cX6_copy 106 = .ok (.iload 5, 2) := by decide +kernel
theorem dX6_copy_108 : decode cX6_copy 108 = .ok (.invokestatic 293, 3) := by decide +kernel
theorem dX6_copy_111 : decode cX6_copy 111 = .ok (.iload 5, 2) := by decide +kernel
theorem dX6_copy_113 : decode cX6_copy 113 = .ok (.ireturn, 1) := by decide +kernel
end
section
/-! ===== all that the class holds ===== -/
/-- the world, the image, the tape, the sheets -/
abbrev St : Type := Wld × Option Wld × (Nat × (Nat → Int32)) × (Nat → Sht)
noncomputable def cif {α : Type} (P : Prop) (a b : α) : α := @ite α P (Classical.propDecidable P) a b
theorem cif_t {α : Type} {P : Prop} {a b : α} (h : P) : cif P a b = a := if_pos h
theorem cif_f {α : Type} {P : Prop} {a b : α} (h : ¬ P) : cif P a b = b := if_neg h
abbrev inR (v a b : Int32) : Prop := a ≤ v ∧ v ≤ b
def getP (ps : List Prs) (p : Int32) : Prs := (ps[p.toNatClampNeg]?).getD ((0, 0, 0, 0), [], fun _ => 0)
theorem getP_nI {ps : List Prs} {k : Nat} {P : Prs} (h : ps[k]? = some P) (hk : k < 2 ^ 31) : getP ps (nI k) = P := by
  unfold getP
  rw [nI_clamp hk, h]
  rfl
/-- where the class's things lie; all references but whose plan is made -/
def FixC (sh : List Shp) (me : Mem) : Prop := sh[0]? = some (.inl 6) ∧ (gR me 0 0 = some 1 ∧ gR me 0 1 = some 36 ∧ gR me 0 2 = some 71 ∧ gR me 0 3 = some 106 ∧ gR me 0 4 = some 112 ∧ gR me 0 5 = some 123 ∧ gR me 0 6 = some 125 ∧ gR me 0 7 = some 127) ∧
  (isW sh me 1 ∧ isW sh me 36 ∧ isW sh me 71 ∧ isP sh me 106 ∧ isPl sh me 112 ∧ isB sh me 123 ∧ isT sh me 125) ∧ sh[127]? = some (.inr (2, 4)) ∧ ∀ k, k < 4 → gR me 127 k = some (128 + 2 * k) ∧ isS sh me (128 + 2 * k)
def RfK (me m : Mem) : Prop := ∀ a b, (a ≠ 112 ∨ b ≠ 3) → gR m a b = gR me a b
theorem RfK.of {me m : Mem} (h : m.2 = me.2) : RfK me m := fun a b _ => by unfold gR; rw [h]
theorem RfK.tr {me m m' : Mem} (h : RfK me m) (h' : RfK m m') : RfK me m' := fun a b hab => (h' a b hab).trans (h a b hab)
theorem FixC.of {sh : List Shp} {me m : Mem} (h : FixC sh me) (hk : RfK me m) : FixC sh m := by
  have pP : ∀ q, q ≠ 112 → isP sh me q → isP sh m q := fun q hq hp => by
    obtain ⟨s0, s1, s2, s3, s4, s5, r0, r1, r2, r3, r4⟩ := hp
    exact ⟨s0, s1, s2, s3, s4, s5, (hk _ _ (Or.inl hq)).trans r0, (hk _ _ (Or.inl hq)).trans r1, (hk _ _ (Or.inl hq)).trans r2, (hk _ _ (Or.inl hq)).trans r3, (hk _ _ (Or.inl hq)).trans r4⟩
  have pW : ∀ w, w < 80 → isW sh me w → isW sh m w := fun w hw hp => by
    obtain ⟨a1, a2, a3, a4, a5, a6, a7, a8, a9, a10⟩ := hp
    exact ⟨a1, a2, a3, a4, a5, (hk _ _ (by omega)).trans a6, (hk _ _ (by omega)).trans a7, (hk _ _ (by omega)).trans a8, (hk _ _ (by omega)).trans a9, fun p hp5 => ⟨(hk _ _ (by omega)).trans (a10 p hp5).1, pP _ (by omega) (a10 p hp5).2⟩⟩
  obtain ⟨h0, ⟨g0, g1, g2, g3, g4, g5, g6, g7⟩, ⟨w1, w2, w3, p1, l1, b1, t1⟩, hs, hss⟩ := h
  refine ⟨h0, ⟨(hk _ _ (by omega)).trans g0, (hk _ _ (by omega)).trans g1, (hk _ _ (by omega)).trans g2, (hk _ _ (by omega)).trans g3, (hk _ _ (by omega)).trans g4, (hk _ _ (by omega)).trans g5, (hk _ _ (by omega)).trans g6, (hk _ _ (by omega)).trans g7⟩, ⟨pW _ (by omega) w1, pW _ (by omega) w2, pW _ (by omega) w3, pP _ (by omega) p1, ?_, ⟨b1.1, b1.2.1, (hk _ _ (by omega)).trans b1.2.2⟩, ⟨t1.1, t1.2.1, (hk _ _ (by omega)).trans t1.2.2⟩⟩, hs, fun k hk4 => ⟨(hk _ _ (by omega)).trans (hss k hk4).1, (hss k hk4).2.1, (hss k hk4).2.2.1, (hk _ _ (by omega)).trans (hss k hk4).2.2.2⟩⟩
  obtain ⟨p0, p1, p2, p3, p4, u0, u1, u2, u3⟩ := l1
  exact ⟨p0, p1, p2, p3, p4, (hk _ _ (by omega)).trans u0, (hk _ _ (by omega)).trans u1, (hk _ _ (by omega)).trans u2, fun i hi => (hk _ _ (by omega)).trans (u3 i hi)⟩
def RepC (me : Mem) (S : St) : Prop := RepW me 1 S.1 ∧ (match S.2.1 with | none => gI me 0 8 = 0 | some V => gI me 0 8 = 1 ∧ RepW me 36 V) ∧ (gI me 125 1 = nI S.2.2.1.1 ∧ S.2.2.1.1 ≤ 80 ∧ ∀ i, i < S.2.2.1.1 → gI me 126 i = S.2.2.1.2 i) ∧ ∀ k, k < 4 → RepS me (128 + 2 * k) (S.2.2.2 k)
/-- behind a call: what is, where it lies, and what isn't the class's as it was -/
def GoodC (sh : List Shp) (me m : Mem) (S : St) : Prop := RepC m S ∧ FixC sh m ∧ RfK me m ∧ ∀ a, 136 ≤ a → m.1 a = me.1 a
theorem RepS.fr {me m : Mem} {s : Nat} {S : Sht} (h : RepS me s S) (hf : ∀ a, s ≤ a → a < s + 2 → m.1 a = me.1 a) : RepS m s S := by
  have e0 : ∀ b, gI m s b = gI me s b := fun b => congrFun (hf s (by omega) (by omega)) b
  have e1 : ∀ b, gI m (s + 1) b = gI me (s + 1) b := fun b => congrFun (hf (s + 1) (by omega) (by omega)) b
  match S, h with
  | none, h => exact (e0 1).trans h
  | some (l, n, f), h =>
    obtain ⟨h1, h2, h3, h4, h5⟩ := h
    exact ⟨(e0 1).trans h1, (e0 2).trans h2, (e0 3).trans h3, h4, fun i hi => (e1 i).trans (h5 i hi)⟩
/-- only the world's own cells, or those of no lasting meaning, have changed -/
theorem GoodC.w {sh : List Shp} {me m : Mem} {S : St} {W' : Wld} (hF : FixC sh me) (hR : RepC me S) (hk : RfK me m) (hm : ∀ a, ¬ (1 ≤ a ∧ a < 36) → ¬ (71 ≤ a ∧ a < 125) → m.1 a = me.1 a) (hW : RepW m 1 W') : GoodC sh me m (W', S.2) := by
  obtain ⟨h1, h2, ⟨h3, h4, h5⟩, h6⟩ := hR
  refine ⟨⟨hW, ?_, ⟨(congrFun (hm 125 (by omega) (by omega)) 1).trans h3, h4, fun i hi => (congrFun (hm 126 (by omega) (by omega)) i).trans (h5 i hi)⟩, fun k hk4 => (h6 k hk4).fr (fun a ha hb => hm a (by omega) (by omega))⟩, hF.of hk, hk, fun a ha => hm a (by omega) (by omega)⟩
  have e0 : gI m 0 8 = gI me 0 8 := congrFun (hm 0 (by omega) (by omega)) 8
  dsimp only
  cases hI : S.2.1 with
  | none => rw [hI] at h2; exact e0.trans h2
  | some V => rw [hI] at h2; exact ⟨e0.trans h2.1, h2.2.fr (fun a ha hb => hm a (by omega) (by omega))⟩
theorem GoodC.same {sh : List Shp} {me : Mem} {S : St} (hF : FixC sh me) (hR : RepC me S) : GoodC sh me me S := ⟨hR, hF, RfK.of rfl, fun _ _ => rfl⟩
/-! ===== what each call answers, and what is then ===== -/
def setPs (S : St) (ps : List Prs) : St := ((ps, S.1.2), S.2)
noncomputable def sp_person (S : St) (pu inc str : Int32) : Int32 × St := cif (inR pu 0 9999 ∧ inR inc 0 99 ∧ inR str 1 60) (if 5 ≤ S.1.1.length then (-3, S) else (nI S.1.1.length, setPs S (S.1.1 ++ [((pu, inc, str, -4), [], fun _ => 0)]))) (-1, S)
def ofS (P : Prs) (w : Int32) : Int32 := if w = 0 then P.1.1 else if w = 1 then P.1.2.1 else if w = 2 then P.1.2.2.1 else if w = 3 then nI P.2.1.length else if w = 4 then thickOf P else if w = 5 then minI (sumL (P.2.1.map (fun co => co.2.1))) 9999999 else if w = 6 then P.1.2.2.2 else -1
noncomputable def sp_of (S : St) (p w : Int32) : Int32 × St := cif (isPn S.1.1 p) (ofS (getP S.1.1 p) w, S) (-1, S)
def coS (co : Coat) (w : Int32) : Int32 := if w = 0 then co.1 else if w = 1 then co.2.1 else if w = 2 then co.2.2.1 else if w = 3 then co.2.2.2 else -1
def getC (P : Prs) (c : Int32) : Coat := (P.2.1[c.toNatClampNeg]?).getD (0, 0, 0, 0)
noncomputable def sp_coat (S : St) (p c w : Int32) : Int32 × St := cif (isCt S.1.1 p c) (coS (getC (getP S.1.1 p) c) w, S) (-1, S)
def taxP (P : Prs) (l : Nat) (v : Int32) : Prs := (P.1, P.2.1, fun j => if j = l then v else P.2.2 j)
noncomputable def sp_tax (S : St) (p l v : Int32) : Int32 × St := cif (isPn S.1.1 p ∧ inR l 0 4 ∧ inR v 0 9) ((getP S.1.1 p).2.2 l.toNatClampNeg, setPs S (S.1.1.set p.toNatClampNeg (taxP (getP S.1.1 p) l.toNatClampNeg v))) (-1, S)
noncomputable def sp_heat (S : St) (mo v : Int32) : Int32 × St := cif (inR mo 0 11 ∧ inR v 0 40) (S.1.2.1 mo.toNatClampNeg, ((S.1.1, (fun j => if j = mo.toNatClampNeg then v else S.1.2.1 j), S.1.2.2), S.2)) (-1, S)
noncomputable def sp_rule (S : St) (w v : Int32) : Int32 × St := cif (w = 0 ∧ inR v 0 2) (S.1.2.2.1.1, ((S.1.1, S.1.2.1, (v, S.1.2.2.1.2), S.1.2.2.2), S.2)) (cif (w = 1 ∧ inR v 0 9) (S.1.2.2.1.2.1, ((S.1.1, S.1.2.1, (S.1.2.2.1.1, v, S.1.2.2.1.2.2), S.1.2.2.2), S.2)) (-1, S))
noncomputable def sp_type (S : St) (w : Int64) (n : Int32) : Int32 × St := cif (inR n 1 8 ∧ prnt w n.toNatClampNeg) (if 80 < S.2.2.1.1 + n.toNatClampNeg then (-3, S) else (nI (S.2.2.1.1 + n.toNatClampNeg), (S.1, S.2.1, (S.2.2.1.1 + n.toNatClampNeg, fun i => if i < S.2.2.1.1 then S.2.2.1.2 i else btI w (nI (n.toNatClampNeg - 1 - (i - S.2.2.1.1)))), S.2.2.2))) (-1, S)
noncomputable def sp_coats (S : St) (p : Int32) : Int32 × St := cif (isPn S.1.1 p) (match rdS S.2.2.1.2 S.2.2.1.1 6 0 [] with
  | .inl k => (-20 - nI k, (S.1, S.2.1, (0, S.2.2.1.2), S.2.2.2))
  | .inr l => (nI l.length, ((S.1.1.set p.toNatClampNeg ((getP S.1.1 p).1, l, (getP S.1.1 p).2.2), S.1.2), S.2.1, (0, S.2.2.1.2), S.2.2.2))) (-1, S)
def fellS (ps : List Prs) : Int32 := fellF (fun p => ((ps[p]?).getD ((0, 0, 0, 0), [], fun _ => 0)).1.2.2.2) ps.length
def cntS (W : Wld) (w : Int32) : Int32 := if w = 0 then nI W.1.length else if w = 1 then nI W.2.2.2.1 else if w = 2 then sumL (W.1.map (fun P => nI P.2.1.length)) else if w = 3 then fellS W.1 else if w = 4 then W.2.2.1.2.2 else if w = 5 then nI W.2.2.2.2.length else -1
def sp_count (S : St) (w : Int32) : Int32 × St := (cntS S.1 w, S)
noncomputable def sp_take (S : St) (p l a r t : Int32) : Int32 × St := cif (isPn S.1.1 p ∧ inR l 0 4 ∧ inR a 1 9999 ∧ inR r 0 20 ∧ inR t 1 9) (if 8 ≤ (getP S.1.1 p).2.1.length then (-3, S) else (nI ((getP S.1.1 p).2.1.length + 1), setPs S (S.1.1.set p.toNatClampNeg ((minI ((getP S.1.1 p).1.1 + a) 999999, (getP S.1.1 p).1.2), (getP S.1.1 p).2.1 ++ [(l, a, r, t)], (getP S.1.1 p).2.2)))) (-1, S)
noncomputable def sp_pay (S : St) (p c : Int32) : Int32 × St := cif (isCt S.1.1 p c) (cif (mayC S.1.2.2.1.1 (wsI (getP S.1.1 p).2.1.length) c) (cif ((getP S.1.1 p).1.1 < (getC (getP S.1.1 p) c).2.1) (-4, S) (nI ((getP S.1.1 p).2.1.length - 1), setPs S (S.1.1.set p.toNatClampNeg (payP (getP S.1.1 p) c.toNatClampNeg)))) (-2, S)) (-1, S)
noncomputable def sp_nights (S : St) (n : Int32) : Int32 × St := cif (inR n 1 60) (if 359 < S.1.2.2.2.1 + n.toNatClampNeg then (-3, S) else (nI (S.1.2.2.2.1 + n.toNatClampNeg), (nightsW n.toNatClampNeg S.1, S.2))) (-1, S)
noncomputable def sp_cut (S : St) (p c : Int32) : Int32 × St := cif (isCt S.1.1 p c) (cif (0 < c ∧ c < nI (getP S.1.1 p).2.1.length - 1) (cif (S.1.2.2.1.2.2 < S.1.2.2.1.2.1) (nI ((getP S.1.1 p).2.1.length - 1), ((S.1.1.set p.toNatClampNeg (takeP (getP S.1.1 p) c.toNatClampNeg), S.1.2.1, (S.1.2.2.1.1, S.1.2.2.1.2.1, S.1.2.2.1.2.2 + 1), S.1.2.2.2), S.2)) (-4, S)) (-2, S)) (-1, S)
end
section
theorem if0 {P : Prop} [Decidable P] (h : (if P then (1 : Int32) else 0) = 0) : ¬ P := fun q => by rw [if_pos q] at h; exact absurd h (by decide)
theorem if1 {P : Prop} [Decidable P] (h : ¬ (if P then (1 : Int32) else 0) = 0) : P := Classical.byContradiction fun q => h (if_neg q)
theorem or0 {P : Prop} {x : Int32} (h : x = 1 ∧ P ∨ x = 0 ∧ ¬ P) (hx : x = 0) : ¬ P := by
  rcases h with ⟨h1, -⟩ | ⟨-, h2⟩
  · rw [hx] at h1; exact absurd h1 (by decide)
  · exact h2
theorem or1 {P : Prop} {x : Int32} (h : x = 1 ∧ P ∨ x = 0 ∧ ¬ P) (hx : ¬ x = 0) : P := by
  rcases h with ⟨-, h2⟩ | ⟨h1, -⟩
  · exact h2
  · exact absurd h1 hx
def okPr (k day : Nat) (P : Prs) : Prop := (0 ≤ P.1.1.toInt ∧ P.1.1.toInt ≤ 10000 * k + 99 * day) ∧ (0 ≤ P.1.2.1.toInt ∧ P.1.2.1.toInt ≤ 99) ∧ (P.1.2.2.2 = -4 ∨ 0 ≤ P.1.2.2.2.toInt) ∧ (∀ co ∈ P.2.1, (∃ l, l < 5 ∧ co.1 = nI l) ∧ (0 ≤ co.2.1.toInt ∧ co.2.1.toInt ≤ 999999) ∧ (0 ≤ co.2.2.1.toInt ∧ co.2.2.1.toInt ≤ 20)) ∧ ∀ l, l < 5 → 0 ≤ (P.2.2 l).toInt ∧ (P.2.2 l).toInt ≤ 9
def wfW (k : Nat) (W : Wld) : Prop := (∀ P ∈ W.1, okPr k W.2.2.2.1 P) ∧ W.2.2.2.1 ≤ 359 ∧ W.1.length ≤ 5
def WfS (k : Nat) (S : St) : Prop := wfW k S.1 ∧ (∀ V, S.2.1 = some V → wfW k V) ∧ okB S.2.2.1.2 S.2.2.1.1
theorem wfW.len {k : Nat} {W : Wld} (h : wfW k W) : lenW W := fun P hP co hco => ((h.1 P hP).2.2.2.1 co hco).1
theorem RepW.g4 {me m : Mem} {w : Nat} {W : Wld} {ps : List Prs} (h : RepW me w W) (hps : RepPs m w ps) (hl : gI m w 4 = nI ps.length) (hb : ∀ b, b ≠ 4 → gI m w b = gI me w b) (hm : ∀ a b, w < a → a < w + 5 → gI m a b = gI me a b) : RepW m w (ps, W.2) := by
  obtain ⟨h1, h2, h3, h4, h5, h6, h7, h8, h9, h10, h11⟩ := h
  exact ⟨hps, hl, fun j hj => (hm _ _ (by omega) (by omega)).trans (h3 j hj), (hb _ (by omega)).trans h4, (hb _ (by omega)).trans h5, (hb _ (by omega)).trans h6, (hb _ (by omega)).trans h7, h8, (hb _ (by omega)).trans h9, h10, fun k a hk => ⟨(hm _ _ (by omega) (by omega)).trans (h11 k a hk).1, (hm _ _ (by omega) (by omega)).trans (h11 k a hk).2⟩⟩
section DC1
variable {sh : List Shp} {me : Mem} {d : Nat} {S : St}
set_option maxHeartbeats 4000000 in
set_option maxRecDepth 100000 in
theorem c_dc_person (pu inc str : Int32) (hF : FixC sh me) (hR : RepC me S) (hd : 2 ≤ d) : CI d mX6_person sh [.ref 0, .int pu, .int inc, .int str] me (fun x m => x = (sp_person S pu inc str).1 ∧ GoodC sh me m (sp_person S pu inc str).2) := by
  have hFs := hF
  obtain ⟨z0, ⟨g0, g1, g2, g3, g4, g5, g6, g7⟩, ⟨w1, w2, w3, pp1, l1, b1, t1⟩, zs, zss⟩ := hF
  have hw1 := w1
  obtain ⟨s0, s1, s2, s3, s4, r0, r1, r2, r3, hP⟩ := w1
  have hn := hR.1.2.1
  have hn5 := hR.1.1.1
  refine CI.mk (L := [.ref 0, .int pu, .int inc, .int str]) (by decide) (Nat.le_of_ble_eq_true rfl) rfl ?_
  have bad : ¬ (inR pu 0 9999 ∧ inR inc 0 99 ∧ inR str 1 60) → ∀ L4, Wa mX6_person (0, fun _ => 0) d 0 0 sh.length (PI sh (fun x m => x = (sp_person S pu inc str).1 ∧ GoodC sh me m (sp_person S pu inc str).2)) 31 L4 [] sh me 0 0 := by
    intro hb L4
    unfold sp_person
    rw [cif_f hb]
    refine wl_iconst (np := 32) (v := -1) dX6_person_31 rfl (rfl) ?_
    refine wi_ret dX6_person_32 rfl (rfl) (Nat.le_refl _) (Nat.le_refl _) ?_
    exact ⟨rfl, GoodC.same hFs hR⟩
  refine ld_i1 (np := 1) dX6_person_0 rfl ?_
  refine wl_iconst (np := 2) (v := 0) dX6_person_1 rfl (rfl) ?_
  refine wl_sipush (np := 5) (v := 9999) dX6_person_2 rfl (by decide) ?_
  refine ciS_3 (np := 8) dX6_person_5 rfl lk_X6_61 (Nat.le_of_ble_eq_true rfl) (by omega) (Nat.le_refl _) (Nat.le_refl _) (c_isWithin _ _ _) (fun x_5 m_5 h_5 => ?_)
  obtain ⟨rfl, q_5⟩ := h_5
  have q_5 := q_5.symm
  subst q_5
  refine wl_if_eq (np := 11) (tg := 31) dX6_person_8 rfl rfl (fun c_8 => ?_) (fun c_8 => ?_)
  · exact bad (fun h => if0 c_8 h.1) _
  · refine ld_i2 (np := 12) dX6_person_11 rfl ?_
    refine wl_iconst (np := 13) (v := 0) dX6_person_12 rfl (rfl) ?_
    refine wl_bipush (np := 15) (v := 99) dX6_person_13 rfl (by decide) ?_
    refine ciS_3 (np := 18) dX6_person_15 rfl lk_X6_61 (Nat.le_of_ble_eq_true rfl) (by omega) (Nat.le_refl _) (Nat.le_refl _) (c_isWithin _ _ _) (fun x_15 m_15 h_15 => ?_)
    obtain ⟨rfl, q_15⟩ := h_15
    have q_15 := q_15.symm
    subst q_15
    refine wl_if_eq (np := 21) (tg := 31) dX6_person_18 rfl rfl (fun c_18 => ?_) (fun c_18 => ?_)
    · exact bad (fun h => if0 c_18 h.2.1) _
    · refine ld_i3 (np := 22) dX6_person_21 rfl ?_
      refine wl_iconst (np := 23) (v := 1) dX6_person_22 rfl (rfl) ?_
      refine wl_bipush (np := 25) (v := 60) dX6_person_23 rfl (by decide) ?_
      refine ciS_3 (np := 28) dX6_person_25 rfl lk_X6_61 (Nat.le_of_ble_eq_true rfl) (by omega) (Nat.le_refl _) (Nat.le_refl _) (c_isWithin _ _ _) (fun x_25 m_25 h_25 => ?_)
      obtain ⟨rfl, q_25⟩ := h_25
      have q_25 := q_25.symm
      subst q_25
      refine wl_if_ne (np := 31) (tg := 33) dX6_person_28 rfl rfl (fun c_28 => ?_) (fun c_28 => ?_)
      · have hgood : inR pu 0 9999 ∧ inR inc 0 99 ∧ inR str 1 60 := ⟨if1 c_8, if1 c_18, if1 c_28⟩
        unfold sp_person
        rw [cif_t hgood]
        refine ld_a0 (np := 34) dX6_person_33 rfl ?_
        refine wl_getr (np := 37) dX6_person_34 rfl fl_X6_10 rfl (by assumption) (by assumption) ?_
        refine wl_geti (np := 40) dX6_person_37 rfl fl_X6_65 (by decide) (by assumption) ?_
        refine wl_iconst (np := 41) (v := 5) dX6_person_40 rfl (rfl) ?_
        refine wl_icmp_lt (np := 44) (tg := 47) dX6_person_41 rfl rfl (fun c_41 => ?_) (fun c_41 => ?_)
        · rw [hn, show (5 : Int32) = nI 5 from rfl, nI_ltI (by omega) (by decide)] at c_41
          rw [if_neg (by omega)]
          obtain ⟨ga, gb⟩ := hP S.1.1.length (by omega)
          have sP := gb.1
          refine ld_a0 (np := 48) dX6_person_47 rfl ?_
          refine wl_getr (np := 51) dX6_person_48 rfl fl_X6_10 rfl (by assumption) (by first | assumption | (rw [hn, nI_clamp (by omega)]; assumption)) ?_
          refine wl_getr (np := 54) dX6_person_51 rfl fl_X6_69 rfl (by assumption) (by first | assumption | (rw [hn, nI_clamp (by omega)]; assumption)) ?_
          refine ld_a0 (np := 55) dX6_person_54 rfl ?_
          refine wl_getr (np := 58) dX6_person_55 rfl fl_X6_10 rfl (by assumption) (by first | assumption | (rw [hn, nI_clamp (by omega)]; assumption)) ?_
          refine wl_geti (np := 61) dX6_person_58 rfl fl_X6_65 (by decide) (by assumption) ?_
          refine wl_aaload (np := 62) dX6_person_61 rfl (by assumption) (by decide) (by rw [hn]; exact vp_in_nI (by omega) (by decide)) (by first | assumption | (rw [hn, nI_clamp (by omega)]; assumption)) ?_
          refine ld_i1 (np := 63) dX6_person_62 rfl ?_
          refine ld_i2 (np := 64) dX6_person_63 rfl ?_
          refine ld_i3 (np := 65) dX6_person_64 rfl ?_
          refine cvV_3 (np := 68) dX6_person_65 rfl lk_X6_73 (by assumption) (Nat.le_of_ble_eq_true rfl) (by omega) (Nat.le_refl _) (Nat.le_refl _) (c_begin pu inc str gb (by omega)) (fun m_65 h_65 => ?_)
          have q_65 := h_65.symm
          subst q_65
          refine ld_a0 (np := 69) dX6_person_68 rfl ?_
          refine wl_getr (np := 72) dX6_person_69 rfl fl_X6_10 rfl (by assumption) (by first | assumption | (rw [hn, nI_clamp (by omega)]; assumption)) ?_
          refine wl_dup (np := 73) dX6_person_72 rfl rfl ?_
          refine wl_geti (np := 76) dX6_person_73 rfl fl_X6_65 (by decide) (by assumption) ?_
          refine wl_iconst (np := 77) (v := 1) dX6_person_76 rfl (rfl) ?_
          refine wl_iadd (np := 78) dX6_person_77 rfl ?_
          refine wl_puti (np := 81) dX6_person_78 rfl fl_X6_65 nf_5_4 rfl (by assumption) ?_
          refine ld_a0 (np := 82) dX6_person_81 rfl ?_
          refine wl_getr (np := 85) dX6_person_82 rfl fl_X6_10 rfl (by assumption) (by first | assumption | (rw [hn, nI_clamp (by omega)]; assumption)) ?_
          refine wl_geti (np := 88) dX6_person_85 rfl fl_X6_65 (by decide) (by assumption) ?_
          refine wl_iconst (np := 89) (v := 1) dX6_person_88 rfl (rfl) ?_
          refine wl_isub (np := 90) dX6_person_89 rfl ?_
          refine wi_ret dX6_person_90 rfl (rfl) (Nat.le_refl _) (Nat.le_refl _) ?_
          have ho := onl_begin me (1 + 5 + 6 * S.1.1.length) pu inc str
          have hb := rep_begin me (1 + 5 + 6 * S.1.1.length) pu inc str
          generalize hM : beginM me (1 + 5 + 6 * S.1.1.length) pu inc str = m1 at ho hb ⊢
          have e4 : gI m1 1 4 = nI S.1.1.length := (ho.g (by omega)).trans hn
          rw [e4, ← nI_succ, gI_uI_self, nI_pred]
          refine ⟨rfl, ?_⟩
          have hOm : Onl me (uI m1 1 4 (nI (S.1.1.length + 1))) 1 36 := (ho.wd (by omega) (by omega)).tr ⟨rfl, fun a ha => gI_uI_ne (by omega)⟩
          refine GoodC.w hFs hR (RfK.of hOm.1) (fun a h1 h2 => hOm.2 a (by omega)) (hR.1.g4 ⟨by simp; omega, fun p P hp => ?_⟩ ?_ (fun b hb4 => ?_) (fun a b h1 h2 => ?_))
          · by_cases hlt : p < S.1.1.length
            · rw [List.getElem?_append_left hlt] at hp
              exact (hR.1.1.2 p P hp).fr (fun a ha hb => (gI_uI_ne (by omega)).trans (ho.2 a (by omega)))
            · rw [List.getElem?_append_right (by omega)] at hp
              have hz : p - S.1.1.length < 1 := (List.getElem?_eq_some_iff.mp hp).1
              have hpe : p = S.1.1.length := by omega
              subst hpe
              rw [Nat.sub_self] at hp
              cases hp
              exact hb.fr (fun a ha hb => gI_uI_ne (by omega))
          · rw [gI_uI_self]; simp
          · rw [gI_uI_nb hb4]; exact ho.g (by omega)
          · rw [gI_uI_ne (by omega)]; exact ho.g (by omega)
        · rw [hn, show (5 : Int32) = nI 5 from rfl, nI_ltI (by omega) (by decide)] at c_41
          rw [if_pos (by omega)]
          refine wl_bipush (np := 46) (v := -3) dX6_person_44 rfl (by decide) ?_
          refine wi_ret dX6_person_46 rfl (rfl) (Nat.le_refl _) (Nat.le_refl _) ?_
          exact ⟨rfl, GoodC.same hFs hR⟩
      · exact bad (fun h => if0 c_28 h.2.2) _
theorem sw_cases {x : Int32} (n : Nat) (h : n < 100) : (x.toInt < 0 ∨ (n : Int) < x.toInt) ∨ ∃ j, j ≤ n ∧ x = nI j := by
  by_cases h1 : x.toInt < 0 ∨ (n : Int) < x.toInt
  · exact Or.inl h1
  · refine Or.inr ?_
    obtain ⟨j, hj, rfl⟩ := nI_of (x := x) (fun q => h1 (Or.inl (by have := Int32.lt_iff_toInt_lt.mp q; have e0 : (0 : Int32).toInt = 0 := rfl; omega)))
    rw [nI_toInt hj] at h1
    exact ⟨j, by omega, rfl⟩
theorem sw_ne {x : Int32} {n : Nat} (hn : n < 100) (h : x.toInt < 0 ∨ (n : Int) < x.toInt) : ∀ j, j ≤ n → ¬ x = nI j := by
  intro j hj q
  rw [q, nI_toInt (by omega)] at h
  omega
set_option maxHeartbeats 4000000 in
set_option maxRecDepth 100000 in
theorem c_dc_of (p w : Int32) (hF : FixC sh me) (hR : RepC me S) (hd : 2 ≤ d) : CI d mX6_of sh [.ref 0, .int p, .int w] me (fun x m => x = (sp_of S p w).1 ∧ GoodC sh me m (sp_of S p w).2) := by
  have hFs := hF
  obtain ⟨z0, ⟨g0, g1, g2, g3, g4, g5, g6, g7⟩, ⟨w1, w2, w3, pp1, l1, b1, t1⟩, zs, zss⟩ := hF
  have hw1 := w1
  obtain ⟨s0, s1, s2, s3, s4, r0, r1, r2, r3, hP⟩ := w1
  have hn5 := hR.1.1.1
  refine CI.mk (L := [.ref 0, .int p, .int w, .float 0]) (by decide) (Nat.le_of_ble_eq_true rfl) rfl ?_
  refine ld_a0 (np := 1) dX6_of_0 rfl ?_
  refine wl_getr (np := 4) dX6_of_1 rfl fl_X6_10 rfl (by assumption) (by assumption) ?_
  refine ld_i1 (np := 5) dX6_of_4 rfl ?_
  refine ciV_1 (np := 8) dX6_of_5 rfl lk_X6_77 (by assumption) (Nat.le_of_ble_eq_true rfl) (by omega) (Nat.le_refl _) (Nat.le_refl _) (c_hasPerson p hw1 hR.1 (by omega)) (fun x_5 m_5 h_5 => ?_)
  obtain ⟨h5, q5⟩ := h_5
  have q5 := q5.symm
  subst q5
  refine wl_if_ne (np := 11) (tg := 13) dX6_of_8 rfl rfl (fun c_8 => ?_) (fun c_8 => ?_)
  · obtain ⟨k, hk, rfl⟩ := or1 h5 c_8
    obtain ⟨P, hPk⟩ : ∃ P, S.1.1[k]? = some P := ⟨_, List.getElem?_eq_getElem hk⟩
    have hrP := hR.1.1.2 k P hPk
    obtain ⟨ga, gb⟩ := hP k (by omega)
    have gb0 := gb
    obtain ⟨t0, t1', t2, t3, t4, t5, u0, u1, u2, u3, u4⟩ := gb0
    have hsp : sp_of S (nI k) w = (ofS P w, S) := by unfold sp_of; rw [cif_t ⟨k, hk, rfl⟩, getP_nI hPk (by omega)]
    rw [hsp]
    refine ld_a0 (np := 14) dX6_of_13 rfl ?_
    refine wl_getr (np := 17) dX6_of_14 rfl fl_X6_10 rfl (by assumption) (by first | assumption | (rw [nI_clamp (by omega)]; assumption)) ?_
    refine wl_getr (np := 20) dX6_of_17 rfl fl_X6_69 rfl (by assumption) (by first | assumption | (rw [nI_clamp (by omega)]; assumption)) ?_
    refine ld_i1 (np := 21) dX6_of_20 rfl ?_
    refine wl_aaload (np := 22) dX6_of_21 rfl (by assumption) (by decide) (vp_in_nI (by omega) (by decide)) (by first | assumption | (rw [nI_clamp (by omega)]; assumption)) ?_
    refine st_a3 (np := 23) dX6_of_22 rfl (by decide) rfl ?_
    refine ld_i2 (np := 24) dX6_of_23 rfl ?_
    rcases sw_cases (x := w) 6 (by decide) with hout | ⟨j, hj, rfl⟩
    · refine wl_tswO (tg := 108) dX6_of_24 hout rfl ?_
      have hne := sw_ne (by decide) hout
      refine wl_iconst (np := 109) (v := -1) dX6_of_108 rfl (rfl) ?_
      refine wi_ret dX6_of_109 rfl (rfl) (Nat.le_refl _) (Nat.le_refl _) ?_
      refine ⟨?_, GoodC.same hFs hR⟩
      unfold ofS
      rw [if_neg (show ¬ w = 0 from hne 0 (by omega)), if_neg (show ¬ w = 1 from hne 1 (by omega)), if_neg (show ¬ w = 2 from hne 2 (by omega)), if_neg (show ¬ w = 3 from hne 3 (by omega)), if_neg (show ¬ w = 4 from hne 4 (by omega)), if_neg (show ¬ w = 5 from hne 5 (by omega)), if_neg (show ¬ w = 6 from hne 6 (by omega))]
    · have hsum5 : sumF (gI me (1 + 5 + 6 * k + 2)) P.2.1.length = sumL (P.2.1.map (fun co => co.2.1)) := sumF_eq _ _ _ (fun c co hc => (hrP.2.2.2.2.2.2.1 c co hc).2.1)
      have hsum4 : sumF (gI me (1 + 5 + 6 * k + 4)) P.2.1.length = thickOf P := sumF_eq _ _ _ (fun c co hc => (hrP.2.2.2.2.2.2.1 c co hc).2.2.2)
      match j, hj with
      | 0, _ =>
        refine wl_tswI (tg := 68) (off := 44) dX6_of_24 (by decide) (by decide) (by decide) rfl ?_
        refine ld_a3 (np := 69) dX6_of_68 rfl ?_
        refine wl_geti (np := 72) dX6_of_69 rfl fl_X6_81 (by decide) (by assumption) ?_
        refine wi_ret dX6_of_72 rfl (rfl) (Nat.le_refl _) (Nat.le_refl _) ?_
        exact ⟨hrP.1, GoodC.same hFs hR⟩
      | 1, _ =>
        refine wl_tswI (tg := 73) (off := 49) dX6_of_24 (by decide) (by decide) (by decide) rfl ?_
        refine ld_a3 (np := 74) dX6_of_73 rfl ?_
        refine wl_geti (np := 77) dX6_of_74 rfl fl_X6_84 (by decide) (by assumption) ?_
        refine wi_ret dX6_of_77 rfl (rfl) (Nat.le_refl _) (Nat.le_refl _) ?_
        exact ⟨hrP.2.1, GoodC.same hFs hR⟩
      | 2, _ =>
        refine wl_tswI (tg := 78) (off := 54) dX6_of_24 (by decide) (by decide) (by decide) rfl ?_
        refine ld_a3 (np := 79) dX6_of_78 rfl ?_
        refine wl_geti (np := 82) dX6_of_79 rfl fl_X6_87 (by decide) (by assumption) ?_
        refine wi_ret dX6_of_82 rfl (rfl) (Nat.le_refl _) (Nat.le_refl _) ?_
        exact ⟨hrP.2.2.1, GoodC.same hFs hR⟩
      | 3, _ =>
        refine wl_tswI (tg := 83) (off := 59) dX6_of_24 (by decide) (by decide) (by decide) rfl ?_
        refine ld_a3 (np := 84) dX6_of_83 rfl ?_
        refine wl_geti (np := 87) dX6_of_84 rfl fl_X6_90 (by decide) (by assumption) ?_
        refine wi_ret dX6_of_87 rfl (rfl) (Nat.le_refl _) (Nat.le_refl _) ?_
        exact ⟨hrP.2.2.2.2.1, GoodC.same hFs hR⟩
      | 4, _ =>
        refine wl_tswI (tg := 88) (off := 64) dX6_of_24 (by decide) (by decide) (by decide) rfl ?_
        refine ld_a3 (np := 89) dX6_of_88 rfl ?_
        refine ciV_0 (np := 92) dX6_of_89 rfl lk_X6_93 (by assumption) (Nat.le_of_ble_eq_true rfl) (by omega) (Nat.le_refl _) (Nat.le_refl _) (c_thick gb hrP.2.2.2.2.1 hrP.2.2.2.2.2.1) (fun x_89 m_89 h_89 => ?_)
        obtain ⟨rfl, q_89⟩ := h_89
        have q_89 := q_89.symm
        subst q_89
        refine wi_ret dX6_of_92 rfl (rfl) (Nat.le_refl _) (Nat.le_refl _) ?_
        exact ⟨hsum4, GoodC.same hFs hR⟩
      | 5, _ =>
        refine wl_tswI (tg := 93) (off := 69) dX6_of_24 (by decide) (by decide) (by decide) rfl ?_
        refine ld_a3 (np := 94) dX6_of_93 rfl ?_
        refine ciV_0 (np := 97) dX6_of_94 rfl lk_X6_97 (by assumption) (Nat.le_of_ble_eq_true rfl) (by omega) (Nat.le_refl _) (Nat.le_refl _) (c_amounts gb hrP.2.2.2.2.1 hrP.2.2.2.2.2.1) (fun x_94 m_94 h_94 => ?_)
        obtain ⟨rfl, q_94⟩ := h_94
        have q_94 := q_94.symm
        subst q_94
        refine wl_ldc (np := 99) dX6_of_97 rfl wk_X6_100 ?_
        refine wl_min (np := 102) dX6_of_99 rfl lk_X6_101 (Nat.le_of_ble_eq_true rfl) (by omega) (Nat.le_refl _) (Nat.le_refl _) ?_
        refine wi_ret dX6_of_102 rfl (rfl) (Nat.le_refl _) (Nat.le_refl _) ?_
        refine ⟨?_, GoodC.same hFs hR⟩
        rw [hsum5]
        rfl
      | 6, _ =>
        refine wl_tswI (tg := 103) (off := 79) dX6_of_24 (by decide) (by decide) (by decide) rfl ?_
        refine ld_a3 (np := 104) dX6_of_103 rfl ?_
        refine wl_geti (np := 107) dX6_of_104 rfl fl_X6_107 (by decide) (by assumption) ?_
        refine wi_ret dX6_of_107 rfl (rfl) (Nat.le_refl _) (Nat.le_refl _) ?_
        exact ⟨hrP.2.2.2.1, GoodC.same hFs hR⟩
  · unfold sp_of
    rw [cif_f (or0 h5 c_8)]
    refine wl_iconst (np := 12) (v := -1) dX6_of_11 rfl (rfl) ?_
    refine wi_ret dX6_of_12 rfl (rfl) (Nat.le_refl _) (Nat.le_refl _) ?_
    exact ⟨rfl, GoodC.same hFs hR⟩
set_option maxHeartbeats 4000000 in
set_option maxRecDepth 100000 in
theorem c_dc_coat (p c w : Int32) (hF : FixC sh me) (hR : RepC me S) (hd : 3 ≤ d) : CI d mX6_coat sh [.ref 0, .int p, .int c, .int w] me (fun x m => x = (sp_coat S p c w).1 ∧ GoodC sh me m (sp_coat S p c w).2) := by
  have hFs := hF
  obtain ⟨z0, ⟨g0, g1, g2, g3, g4, g5, g6, g7⟩, ⟨w1, w2, w3, pp1, l1, b1, t1⟩, zs, zss⟩ := hF
  have hw1 := w1
  obtain ⟨s0, s1, s2, s3, s4, r0, r1, r2, r3, hP⟩ := w1
  have hn5 := hR.1.1.1
  refine CI.mk (L := [.ref 0, .int p, .int c, .int w, .float 0]) (by decide) (Nat.le_of_ble_eq_true rfl) rfl ?_
  refine ld_a0 (np := 1) dX6_coat_0 rfl ?_
  refine wl_getr (np := 4) dX6_coat_1 rfl fl_X6_10 rfl (by assumption) (by assumption) ?_
  refine ld_i1 (np := 5) dX6_coat_4 rfl ?_
  refine ld_i2 (np := 6) dX6_coat_5 rfl ?_
  refine ciV_2 (np := 9) dX6_coat_6 rfl lk_X6_110 (by assumption) (Nat.le_of_ble_eq_true rfl) (by omega) (Nat.le_refl _) (Nat.le_refl _) (c_hasCoat p c hw1 hR.1 (by omega)) (fun x_6 m_6 h_6 => ?_)
  obtain ⟨h6, q6⟩ := h_6
  have q6 := q6.symm
  subst q6
  refine wl_if_ne (np := 12) (tg := 14) dX6_coat_9 rfl rfl (fun c_9 => ?_) (fun c_9 => ?_)
  · have hct := or1 h6 c_9
    obtain ⟨k, P, j, hPk, rfl, hj, rfl⟩ := or1 h6 c_9
    have hk := (List.getElem?_eq_some_iff.mp hPk).1
    have hrP := hR.1.1.2 k P hPk
    have h8 := hrP.2.2.2.2.2.1
    obtain ⟨ga, gb⟩ := hP k (by omega)
    obtain ⟨t0, t1', t2, t3, t4, t5, u0, u1, u2, u3, u4⟩ := gb
    obtain ⟨co, hco⟩ := hrP.lt hj
    obtain ⟨e1, e2, e3, e4⟩ := hrP.2.2.2.2.2.2.1 j co hco
    have hsp : sp_coat S (nI k) (nI j) w = (coS co w, S) := by
      unfold sp_coat
      rw [cif_t hct, getP_nI hPk (by omega)]
      unfold getC
      rw [nI_clamp (by omega), hco]
      rfl
    rw [hsp]
    refine ld_a0 (np := 15) dX6_coat_14 rfl ?_
    refine wl_getr (np := 18) dX6_coat_15 rfl fl_X6_10 rfl (by assumption) (by first | assumption | (rw [nI_clamp (by omega)]; assumption)) ?_
    refine wl_getr (np := 21) dX6_coat_18 rfl fl_X6_69 rfl (by assumption) (by first | assumption | (rw [nI_clamp (by omega)]; assumption)) ?_
    refine ld_i1 (np := 22) dX6_coat_21 rfl ?_
    refine wl_aaload (np := 23) dX6_coat_22 rfl (by assumption) (by decide) (vp_in_nI (by omega) (by decide)) (by first | assumption | (rw [nI_clamp (by omega)]; assumption)) ?_
    refine st_a4 (np := 25) dX6_coat_23 rfl (by decide) rfl ?_
    refine ld_i3 (np := 26) dX6_coat_25 rfl ?_
    rcases sw_cases (x := w) 3 (by decide) with hout | ⟨i, hi, rfl⟩
    · refine wl_tswO (tg := 88) dX6_coat_26 hout rfl ?_
      have hne := sw_ne (by decide) hout
      refine wl_iconst (np := 89) (v := -1) dX6_coat_88 rfl (rfl) ?_
      refine wi_ret dX6_coat_89 rfl (rfl) (Nat.le_refl _) (Nat.le_refl _) ?_
      refine ⟨?_, GoodC.same hFs hR⟩
      unfold coS
      rw [if_neg (show ¬ w = 0 from hne 0 (by omega)), if_neg (show ¬ w = 1 from hne 1 (by omega)), if_neg (show ¬ w = 2 from hne 2 (by omega)), if_neg (show ¬ w = 3 from hne 3 (by omega))]
    · match i, hi with
      | 0, _ =>
        refine wl_tswI (tg := 56) (off := 30) dX6_coat_26 (by decide) (by decide) (by decide) rfl ?_
        refine ld_a4 (np := 58) dX6_coat_56 rfl ?_
        refine wl_getr (np := 61) dX6_coat_58 rfl fl_X6_114 rfl (by assumption) (by assumption) ?_
        refine ld_i2 (np := 62) dX6_coat_61 rfl ?_
        refine wl_iaload (np := 63) dX6_coat_62 rfl (inA_n t1' (by omega) (by decide)) ?_
        refine wi_ret dX6_coat_63 rfl (rfl) (Nat.le_refl _) (Nat.le_refl _) ?_
        rw [nI_clamp (by omega)]
        exact ⟨e1, GoodC.same hFs hR⟩
      | 1, _ =>
        refine wl_tswI (tg := 64) (off := 38) dX6_coat_26 (by decide) (by decide) (by decide) rfl ?_
        refine ld_a4 (np := 66) dX6_coat_64 rfl ?_
        refine wl_getr (np := 69) dX6_coat_66 rfl fl_X6_118 rfl (by assumption) (by assumption) ?_
        refine ld_i2 (np := 70) dX6_coat_69 rfl ?_
        refine wl_iaload (np := 71) dX6_coat_70 rfl (inA_n t2 (by omega) (by decide)) ?_
        refine wi_ret dX6_coat_71 rfl (rfl) (Nat.le_refl _) (Nat.le_refl _) ?_
        rw [nI_clamp (by omega)]
        exact ⟨e2, GoodC.same hFs hR⟩
      | 2, _ =>
        refine wl_tswI (tg := 72) (off := 46) dX6_coat_26 (by decide) (by decide) (by decide) rfl ?_
        refine ld_a4 (np := 74) dX6_coat_72 rfl ?_
        refine wl_getr (np := 77) dX6_coat_74 rfl fl_X6_121 rfl (by assumption) (by assumption) ?_
        refine ld_i2 (np := 78) dX6_coat_77 rfl ?_
        refine wl_iaload (np := 79) dX6_coat_78 rfl (inA_n t3 (by omega) (by decide)) ?_
        refine wi_ret dX6_coat_79 rfl (rfl) (Nat.le_refl _) (Nat.le_refl _) ?_
        rw [nI_clamp (by omega)]
        exact ⟨e3, GoodC.same hFs hR⟩
      | 3, _ =>
        refine wl_tswI (tg := 80) (off := 54) dX6_coat_26 (by decide) (by decide) (by decide) rfl ?_
        refine ld_a4 (np := 82) dX6_coat_80 rfl ?_
        refine wl_getr (np := 85) dX6_coat_82 rfl fl_X6_124 rfl (by assumption) (by assumption) ?_
        refine ld_i2 (np := 86) dX6_coat_85 rfl ?_
        refine wl_iaload (np := 87) dX6_coat_86 rfl (inA_n t4 (by omega) (by decide)) ?_
        refine wi_ret dX6_coat_87 rfl (rfl) (Nat.le_refl _) (Nat.le_refl _) ?_
        rw [nI_clamp (by omega)]
        exact ⟨e4, GoodC.same hFs hR⟩
  · unfold sp_coat
    rw [cif_f (or0 h6 c_9)]
    refine wl_iconst (np := 13) (v := -1) dX6_coat_12 rfl (rfl) ?_
    refine wi_ret dX6_coat_13 rfl (rfl) (Nat.le_refl _) (Nat.le_refl _) ?_
    exact ⟨rfl, GoodC.same hFs hR⟩
end DC1
end
section
theorem zz_last : True := trivial
end
