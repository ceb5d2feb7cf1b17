section
-- ===== PART A: goes FIRST, ahead of the names: the tables' words, and 'selects' of the private methods out of them =====
/-- a private method of a class that the tables say can be made, by its rows of tables_1 -/
def lw_okq (q : MethodName × Nat) : Prop := (q.1.cls ≠ "java/lang/invoke/MethodHandle" ∧ q.1.cls ≠ "java/lang/invoke/VarHandle") ∧ Cond.instantiable q.1.cls q.2 ∈ tables_1 ∧ Cond.privateMethod q.1 ∈ tables_1 ∧ Cond.instanceMethod q.1 ∈ tables_1
theorem lw_p0 : lw_okq (⟨"GridRows$Code", "registerOf", "(II)I"⟩, 3) := ⟨⟨by decide +kernel, by decide +kernel⟩, List.mem_of_getElem? (i := 32) (by decide +kernel), List.mem_of_getElem? (i := 282) (by decide +kernel), List.mem_of_getElem? (i := 283) (by decide +kernel)⟩
theorem lw_p1 : lw_okq (⟨"GridRows", "isState", "(I)Z"⟩, 7) := ⟨⟨by decide +kernel, by decide +kernel⟩, List.mem_of_getElem? (i := 18) (by decide +kernel), List.mem_of_getElem? (i := 347) (by decide +kernel), List.mem_of_getElem? (i := 348) (by decide +kernel)⟩
theorem lw_p2 : lw_okq (⟨"GridRows", "seekNearest", "()I"⟩, 7) := ⟨⟨by decide +kernel, by decide +kernel⟩, List.mem_of_getElem? (i := 18) (by decide +kernel), List.mem_of_getElem? (i := 366) (by decide +kernel), List.mem_of_getElem? (i := 367) (by decide +kernel)⟩
theorem lw_p3 : lw_okq (⟨"GridRows$Search", "weigh", "(LGridRows$Places;I)V"⟩, 4) := ⟨⟨by decide +kernel, by decide +kernel⟩, List.mem_of_getElem? (i := 147) (by decide +kernel), List.mem_of_getElem? (i := 374) (by decide +kernel), List.mem_of_getElem? (i := 375) (by decide +kernel)⟩
theorem lw_p4 : lw_okq (⟨"GridRows$Search", "choose", "(IIII)V"⟩, 4) := ⟨⟨by decide +kernel, by decide +kernel⟩, List.mem_of_getElem? (i := 147) (by decide +kernel), List.mem_of_getElem? (i := 378) (by decide +kernel), List.mem_of_getElem? (i := 379) (by decide +kernel)⟩
theorem lw_p5 : lw_okq (⟨"GridRows$Search", "reckon", "(LGridRows$Code;II)V"⟩, 4) := ⟨⟨by decide +kernel, by decide +kernel⟩, List.mem_of_getElem? (i := 147) (by decide +kernel), List.mem_of_getElem? (i := 389) (by decide +kernel), List.mem_of_getElem? (i := 390) (by decide +kernel)⟩
theorem lw_p6 : lw_okq (⟨"GridRows$Search", "restBy", "(LGridRows$Code;III)I"⟩, 4) := ⟨⟨by decide +kernel, by decide +kernel⟩, List.mem_of_getElem? (i := 147) (by decide +kernel), List.mem_of_getElem? (i := 394) (by decide +kernel), List.mem_of_getElem? (i := 395) (by decide +kernel)⟩
theorem lw_p7 : lw_okq (⟨"GridRows$Search", "walk", "(LGridRows$Code;I)V"⟩, 4) := ⟨⟨by decide +kernel, by decide +kernel⟩, List.mem_of_getElem? (i := 147) (by decide +kernel), List.mem_of_getElem? (i := 403) (by decide +kernel), List.mem_of_getElem? (i := 404) (by decide +kernel)⟩
theorem lw_p8 : lw_okq (⟨"GridRows", "countUnlike", "()I"⟩, 7) := ⟨⟨by decide +kernel, by decide +kernel⟩, List.mem_of_getElem? (i := 18) (by decide +kernel), List.mem_of_getElem? (i := 409) (by decide +kernel), List.mem_of_getElem? (i := 410) (by decide +kernel)⟩
theorem lw_p9 : lw_okq (⟨"GridRows$Parting", "fillGaps", "()V"⟩, 3) := ⟨⟨by decide +kernel, by decide +kernel⟩, List.mem_of_getElem? (i := 170) (by decide +kernel), List.mem_of_getElem? (i := 427) (by decide +kernel), List.mem_of_getElem? (i := 428) (by decide +kernel)⟩
theorem lw_p10 : lw_okq (⟨"GridRows$Parting", "part", "(LGridRows$Code;)V"⟩, 3) := ⟨⟨by decide +kernel, by decide +kernel⟩, List.mem_of_getElem? (i := 170) (by decide +kernel), List.mem_of_getElem? (i := 431) (by decide +kernel), List.mem_of_getElem? (i := 432) (by decide +kernel)⟩
theorem lw_p11 : lw_okq (⟨"GridRows$Parting", "gapOfSteps", "(LGridRows$Code;IIII)I"⟩, 3) := ⟨⟨by decide +kernel, by decide +kernel⟩, List.mem_of_getElem? (i := 170) (by decide +kernel), List.mem_of_getElem? (i := 440) (by decide +kernel), List.mem_of_getElem? (i := 441) (by decide +kernel)⟩
theorem lw_p12 : lw_okq (⟨"GridRows$Parting", "advance", "(LGridRows$Code;I)I"⟩, 3) := ⟨⟨by decide +kernel, by decide +kernel⟩, List.mem_of_getElem? (i := 170) (by decide +kernel), List.mem_of_getElem? (i := 445) (by decide +kernel), List.mem_of_getElem? (i := 446) (by decide +kernel)⟩
theorem lw_p13 : lw_okq (⟨"GridRows$Parting", "advancePair", "(LGridRows$Code;II)I"⟩, 3) := ⟨⟨by decide +kernel, by decide +kernel⟩, List.mem_of_getElem? (i := 170) (by decide +kernel), List.mem_of_getElem? (i := 449) (by decide +kernel), List.mem_of_getElem? (i := 450) (by decide +kernel)⟩
theorem lw_p14 : lw_okq (⟨"GridRows$Turning", "carryOn", "(LGridRows$Code;I)Z"⟩, 2) := ⟨⟨by decide +kernel, by decide +kernel⟩, List.mem_of_getElem? (i := 186) (by decide +kernel), List.mem_of_getElem? (i := 460) (by decide +kernel), List.mem_of_getElem? (i := 461) (by decide +kernel)⟩
theorem lw_p15 : lw_okq (⟨"GridRows$Turning", "mark", "(II)V"⟩, 2) := ⟨⟨by decide +kernel, by decide +kernel⟩, List.mem_of_getElem? (i := 186) (by decide +kernel), List.mem_of_getElem? (i := 478) (by decide +kernel), List.mem_of_getElem? (i := 479) (by decide +kernel)⟩
def lw_privs_1 : List (MethodName × Nat) := [(⟨"GridRows$Code", "registerOf", "(II)I"⟩, 3), (⟨"GridRows", "isState", "(I)Z"⟩, 7), (⟨"GridRows", "seekNearest", "()I"⟩, 7), (⟨"GridRows$Search", "weigh", "(LGridRows$Places;I)V"⟩, 4), (⟨"GridRows$Search", "choose", "(IIII)V"⟩, 4), (⟨"GridRows$Search", "reckon", "(LGridRows$Code;II)V"⟩, 4), (⟨"GridRows$Search", "restBy", "(LGridRows$Code;III)I"⟩, 4), (⟨"GridRows$Search", "walk", "(LGridRows$Code;I)V"⟩, 4), (⟨"GridRows", "countUnlike", "()I"⟩, 7), (⟨"GridRows$Parting", "fillGaps", "()V"⟩, 3), (⟨"GridRows$Parting", "part", "(LGridRows$Code;)V"⟩, 3), (⟨"GridRows$Parting", "gapOfSteps", "(LGridRows$Code;IIII)I"⟩, 3), (⟨"GridRows$Parting", "advance", "(LGridRows$Code;I)I"⟩, 3), (⟨"GridRows$Parting", "advancePair", "(LGridRows$Code;II)I"⟩, 3), (⟨"GridRows$Turning", "carryOn", "(LGridRows$Code;I)Z"⟩, 2), (⟨"GridRows$Turning", "mark", "(II)V"⟩, 2)]
theorem lw_r1 : ∀ q ∈ lw_privs_1, lw_okq q := List.forall_mem_cons.mpr ⟨lw_p0, List.forall_mem_cons.mpr ⟨lw_p1, List.forall_mem_cons.mpr ⟨lw_p2, List.forall_mem_cons.mpr ⟨lw_p3, List.forall_mem_cons.mpr ⟨lw_p4, List.forall_mem_cons.mpr ⟨lw_p5, List.forall_mem_cons.mpr ⟨lw_p6, List.forall_mem_cons.mpr ⟨lw_p7, List.forall_mem_cons.mpr ⟨lw_p8, List.forall_mem_cons.mpr ⟨lw_p9, List.forall_mem_cons.mpr ⟨lw_p10, List.forall_mem_cons.mpr ⟨lw_p11, List.forall_mem_cons.mpr ⟨lw_p12, List.forall_mem_cons.mpr ⟨lw_p13, List.forall_mem_cons.mpr ⟨lw_p14, List.forall_mem_cons.mpr ⟨lw_p15, fun _ h => absurd h List.not_mem_nil⟩⟩⟩⟩⟩⟩⟩⟩⟩⟩⟩⟩⟩⟩⟩⟩
theorem lw_p16 : lw_okq (⟨"GridRows", "countSigns", "()I"⟩, 7) := ⟨⟨by decide +kernel, by decide +kernel⟩, List.mem_of_getElem? (i := 18) (by decide +kernel), List.mem_of_getElem? (i := 482) (by decide +kernel), List.mem_of_getElem? (i := 483) (by decide +kernel)⟩
theorem lw_p17 : lw_okq (⟨"GridRowsModel", "notes", "()V"⟩, 13) := ⟨⟨by decide +kernel, by decide +kernel⟩, List.mem_of_getElem? (i := 577) (by decide +kernel), List.mem_of_getElem? (i := 631) (by decide +kernel), List.mem_of_getElem? (i := 632) (by decide +kernel)⟩
theorem lw_p18 : lw_okq (⟨"GridRowsModel", "manyStates", "()I"⟩, 13) := ⟨⟨by decide +kernel, by decide +kernel⟩, List.mem_of_getElem? (i := 577) (by decide +kernel), List.mem_of_getElem? (i := 635) (by decide +kernel), List.mem_of_getElem? (i := 636) (by decide +kernel)⟩
theorem lw_p19 : lw_okq (⟨"GridRowsModel", "sends", "(II)V"⟩, 13) := ⟨⟨by decide +kernel, by decide +kernel⟩, List.mem_of_getElem? (i := 577) (by decide +kernel), List.mem_of_getElem? (i := 644) (by decide +kernel), List.mem_of_getElem? (i := 645) (by decide +kernel)⟩
theorem lw_p20 : lw_okq (⟨"GridRowsModel", "pointSent", "(I)I"⟩, 13) := ⟨⟨by decide +kernel, by decide +kernel⟩, List.mem_of_getElem? (i := 577) (by decide +kernel), List.mem_of_getElem? (i := 648) (by decide +kernel), List.mem_of_getElem? (i := 649) (by decide +kernel)⟩
theorem lw_p21 : lw_okq (⟨"GridRowsModel", "stateBehind", "(I)I"⟩, 13) := ⟨⟨by decide +kernel, by decide +kernel⟩, List.mem_of_getElem? (i := 577) (by decide +kernel), List.mem_of_getElem? (i := 652) (by decide +kernel), List.mem_of_getElem? (i := 653) (by decide +kernel)⟩
theorem lw_p22 : lw_okq (⟨"GridRowsModel", "stateBy", "(II)I"⟩, 13) := ⟨⟨by decide +kernel, by decide +kernel⟩, List.mem_of_getElem? (i := 577) (by decide +kernel), List.mem_of_getElem? (i := 656) (by decide +kernel), List.mem_of_getElem? (i := 657) (by decide +kernel)⟩
theorem lw_p23 : lw_okq (⟨"GridRowsModel", "familyBy", "(II)I"⟩, 13) := ⟨⟨by decide +kernel, by decide +kernel⟩, List.mem_of_getElem? (i := 577) (by decide +kernel), List.mem_of_getElem? (i := 660) (by decide +kernel), List.mem_of_getElem? (i := 661) (by decide +kernel)⟩
theorem lw_p24 : lw_okq (⟨"GridRowsModel", "hears", "(II)V"⟩, 13) := ⟨⟨by decide +kernel, by decide +kernel⟩, List.mem_of_getElem? (i := 577) (by decide +kernel), List.mem_of_getElem? (i := 677) (by decide +kernel), List.mem_of_getElem? (i := 678) (by decide +kernel)⟩
theorem lw_p25 : lw_okq (⟨"GridRowsModel", "isState", "(I)Z"⟩, 13) := ⟨⟨by decide +kernel, by decide +kernel⟩, List.mem_of_getElem? (i := 577) (by decide +kernel), List.mem_of_getElem? (i := 708) (by decide +kernel), List.mem_of_getElem? (i := 709) (by decide +kernel)⟩
theorem lw_p26 : lw_okq (⟨"GridRowsModel", "finds", "(II)I"⟩, 13) := ⟨⟨by decide +kernel, by decide +kernel⟩, List.mem_of_getElem? (i := 577) (by decide +kernel), List.mem_of_getElem? (i := 722) (by decide +kernel), List.mem_of_getElem? (i := 723) (by decide +kernel)⟩
theorem lw_p27 : lw_okq (⟨"GridRowsModel", "costFrom", "(IIII)I"⟩, 13) := ⟨⟨by decide +kernel, by decide +kernel⟩, List.mem_of_getElem? (i := 577) (by decide +kernel), List.mem_of_getElem? (i := 727) (by decide +kernel), List.mem_of_getElem? (i := 728) (by decide +kernel)⟩
theorem lw_p28 : lw_okq (⟨"GridRowsModel", "costAt", "(II)I"⟩, 13) := ⟨⟨by decide +kernel, by decide +kernel⟩, List.mem_of_getElem? (i := 577) (by decide +kernel), List.mem_of_getElem? (i := 731) (by decide +kernel), List.mem_of_getElem? (i := 732) (by decide +kernel)⟩
theorem lw_p29 : lw_okq (⟨"GridRowsModel", "errors", "()I"⟩, 13) := ⟨⟨by decide +kernel, by decide +kernel⟩, List.mem_of_getElem? (i := 577) (by decide +kernel), List.mem_of_getElem? (i := 738) (by decide +kernel), List.mem_of_getElem? (i := 739) (by decide +kernel)⟩
theorem lw_p30 : lw_okq (⟨"GridRowsModel", "pointOf", "(I)I"⟩, 13) := ⟨⟨by decide +kernel, by decide +kernel⟩, List.mem_of_getElem? (i := 577) (by decide +kernel), List.mem_of_getElem? (i := 742) (by decide +kernel), List.mem_of_getElem? (i := 743) (by decide +kernel)⟩
theorem lw_p31 : lw_okq (⟨"GridRowsModel", "free", "()I"⟩, 13) := ⟨⟨by decide +kernel, by decide +kernel⟩, List.mem_of_getElem? (i := 577) (by decide +kernel), List.mem_of_getElem? (i := 746) (by decide +kernel), List.mem_of_getElem? (i := 747) (by decide +kernel)⟩
def lw_privs_2 : List (MethodName × Nat) := [(⟨"GridRows", "countSigns", "()I"⟩, 7), (⟨"GridRowsModel", "notes", "()V"⟩, 13), (⟨"GridRowsModel", "manyStates", "()I"⟩, 13), (⟨"GridRowsModel", "sends", "(II)V"⟩, 13), (⟨"GridRowsModel", "pointSent", "(I)I"⟩, 13), (⟨"GridRowsModel", "stateBehind", "(I)I"⟩, 13), (⟨"GridRowsModel", "stateBy", "(II)I"⟩, 13), (⟨"GridRowsModel", "familyBy", "(II)I"⟩, 13), (⟨"GridRowsModel", "hears", "(II)V"⟩, 13), (⟨"GridRowsModel", "isState", "(I)Z"⟩, 13), (⟨"GridRowsModel", "finds", "(II)I"⟩, 13), (⟨"GridRowsModel", "costFrom", "(IIII)I"⟩, 13), (⟨"GridRowsModel", "costAt", "(II)I"⟩, 13), (⟨"GridRowsModel", "errors", "()I"⟩, 13), (⟨"GridRowsModel", "pointOf", "(I)I"⟩, 13), (⟨"GridRowsModel", "free", "()I"⟩, 13)]
theorem lw_r2 : ∀ q ∈ lw_privs_2, lw_okq q := List.forall_mem_cons.mpr ⟨lw_p16, List.forall_mem_cons.mpr ⟨lw_p17, List.forall_mem_cons.mpr ⟨lw_p18, List.forall_mem_cons.mpr ⟨lw_p19, List.forall_mem_cons.mpr ⟨lw_p20, List.forall_mem_cons.mpr ⟨lw_p21, List.forall_mem_cons.mpr ⟨lw_p22, List.forall_mem_cons.mpr ⟨lw_p23, List.forall_mem_cons.mpr ⟨lw_p24, List.forall_mem_cons.mpr ⟨lw_p25, List.forall_mem_cons.mpr ⟨lw_p26, List.forall_mem_cons.mpr ⟨lw_p27, List.forall_mem_cons.mpr ⟨lw_p28, List.forall_mem_cons.mpr ⟨lw_p29, List.forall_mem_cons.mpr ⟨lw_p30, List.forall_mem_cons.mpr ⟨lw_p31, fun _ h => absurd h List.not_mem_nil⟩⟩⟩⟩⟩⟩⟩⟩⟩⟩⟩⟩⟩⟩⟩⟩
theorem lw_p32 : lw_okq (⟨"GridRowsModel", "apartBy", "(IIII)I"⟩, 13) := ⟨⟨by decide +kernel, by decide +kernel⟩, List.mem_of_getElem? (i := 577) (by decide +kernel), List.mem_of_getElem? (i := 753) (by decide +kernel), List.mem_of_getElem? (i := 754) (by decide +kernel)⟩
theorem lw_p33 : lw_okq (⟨"GridRowsModel", "isTurning", "()Z"⟩, 13) := ⟨⟨by decide +kernel, by decide +kernel⟩, List.mem_of_getElem? (i := 577) (by decide +kernel), List.mem_of_getElem? (i := 757) (by decide +kernel), List.mem_of_getElem? (i := 758) (by decide +kernel)⟩
theorem lw_p34 : lw_okq (⟨"GridRowsModel", "signs", "()I"⟩, 13) := ⟨⟨by decide +kernel, by decide +kernel⟩, List.mem_of_getElem? (i := 577) (by decide +kernel), List.mem_of_getElem? (i := 767) (by decide +kernel), List.mem_of_getElem? (i := 768) (by decide +kernel)⟩
def lw_privs_3 : List (MethodName × Nat) := [(⟨"GridRowsModel", "apartBy", "(IIII)I"⟩, 13), (⟨"GridRowsModel", "isTurning", "()Z"⟩, 13), (⟨"GridRowsModel", "signs", "()I"⟩, 13)]
theorem lw_r3 : ∀ q ∈ lw_privs_3, lw_okq q := List.forall_mem_cons.mpr ⟨lw_p32, List.forall_mem_cons.mpr ⟨lw_p33, List.forall_mem_cons.mpr ⟨lw_p34, fun _ h => absurd h List.not_mem_nil⟩⟩⟩
def lw_privs : List (MethodName × Nat) := lw_privs_1 ++ (lw_privs_2 ++ (lw_privs_3))
def lw_tbl : List Cond := k2_sels lw_privs ++ tables_1
theorem lw_privs_ok : ∀ q ∈ lw_privs, lw_okq q := by
  show ∀ q ∈ lw_privs_1 ++ (lw_privs_2 ++ (lw_privs_3)), lw_okq q
  exact List.forall_mem_append.mpr ⟨lw_r1, List.forall_mem_append.mpr ⟨lw_r2, lw_r3⟩⟩
end
section
def RX0 : String := "GridRows$Code"
def TX0 : u_T := fun k => match k with
  | 0 => ("GridRows$Code", "memory", "I", false)
  | 1 => ("GridRows$Code", "ruleG", "I", false)
  | _ => ("GridRows$Code", "ruleH", "I", false)
def tyX0 : Nat → FieldType := fun k => match k with
  | 0 => .int
  | 1 => .int
  | _ => .int
abbrev wsX00 : List Cond := u_ws RX0 TX0 3
theorem nmX0 : ∀ a, a < 3 → ∀ b, b < 3 → a ≠ b → (TX0 a).2.1 ≠ (TX0 b).2.1 := by decide +kernel
theorem tyX0_ok : ∀ k, k < 3 → parseFieldDescriptor (TX0 k).2.2.1 = some (tyX0 k) := by decide +kernel
abbrev cX0_init : ByteArray := prog_2_method_1_code
def yX0_init : MethodName := ⟨RX0, "<init>", "()V"⟩
abbrev cX0_set : ByteArray := prog_2_method_2_code
def yX0_set : MethodName := ⟨RX0, "set", "(III)V"⟩
abbrev cX0_states : ByteArray := prog_2_method_3_code
def yX0_states : MethodName := ⟨RX0, "states", "()I"⟩
abbrev cX0_familyFrom : ByteArray := prog_2_method_4_code
def yX0_familyFrom : MethodName := ⟨RX0, "familyFrom", "(II)I"⟩
abbrev cX0_stateAfter : ByteArray := prog_2_method_5_code
def yX0_stateAfter : MethodName := ⟨RX0, "stateAfter", "(II)I"⟩
abbrev cX0_registerOf : ByteArray := prog_2_method_6_code
def yX0_registerOf : MethodName := ⟨RX0, "registerOf", "(II)I"⟩
def RX1 : String := "GridRows$Grid"
def TX1 : u_T := fun k => match k with
  | _ => ("", "", "", false)
def tyX1 : Nat → FieldType := fun k => match k with
  | _ => .int
abbrev wsX10 : List Cond := u_ws RX1 TX1 0
theorem nmX1 : ∀ a, a < 0 → ∀ b, b < 0 → a ≠ b → (TX1 a).2.1 ≠ (TX1 b).2.1 := by decide +kernel
theorem tyX1_ok : ∀ k, k < 0 → parseFieldDescriptor (TX1 k).2.2.1 = some (tyX1 k) := by decide +kernel
abbrev cX1_xOf : ByteArray := prog_3_method_2_code
def yX1_xOf : MethodName := ⟨RX1, "xOf", "(I)I"⟩
abbrev cX1_yOf : ByteArray := prog_3_method_3_code
def yX1_yOf : MethodName := ⟨RX1, "yOf", "(I)I"⟩
abbrev cX1_familyOf : ByteArray := prog_3_method_4_code
def yX1_familyOf : MethodName := ⟨RX1, "familyOf", "(I)I"⟩
abbrev cX1_rankOf : ByteArray := prog_3_method_5_code
def yX1_rankOf : MethodName := ⟨RX1, "rankOf", "(I)I"⟩
abbrev cX1_pointOf : ByteArray := prog_3_method_6_code
def yX1_pointOf : MethodName := ⟨RX1, "pointOf", "(II)I"⟩
abbrev cX1_turnOf : ByteArray := prog_3_method_7_code
def yX1_turnOf : MethodName := ⟨RX1, "turnOf", "(I)I"⟩
abbrev cX1_turnOfFamily : ByteArray := prog_3_method_8_code
def yX1_turnOfFamily : MethodName := ⟨RX1, "turnOfFamily", "(I)I"⟩
abbrev cX1_farFrom : ByteArray := prog_3_method_9_code
def yX1_farFrom : MethodName := ⟨RX1, "farFrom", "(III)I"⟩
abbrev cX1_pointAt : ByteArray := prog_3_method_10_code
def yX1_pointAt : MethodName := ⟨RX1, "pointAt", "(II)I"⟩
abbrev cX1_gapOf : ByteArray := prog_3_method_11_code
def yX1_gapOf : MethodName := ⟨RX1, "gapOf", "(II)I"⟩
def RX2 : String := "GridRows$Lots"
def TX2 : u_T := fun k => match k with
  | _ => ("GridRows$Lots", "x", "J", false)
def tyX2 : Nat → FieldType := fun k => match k with
  | _ => .long
abbrev wsX20 : List Cond := u_ws RX2 TX2 1
theorem nmX2 : ∀ a, a < 1 → ∀ b, b < 1 → a ≠ b → (TX2 a).2.1 ≠ (TX2 b).2.1 := by decide +kernel
theorem tyX2_ok : ∀ k, k < 1 → parseFieldDescriptor (TX2 k).2.2.1 = some (tyX2 k) := by decide +kernel
abbrev cX2_init : ByteArray := prog_4_method_1_code
def yX2_init : MethodName := ⟨RX2, "<init>", "(I)V"⟩
abbrev cX2_draw : ByteArray := prog_4_method_2_code
def yX2_draw : MethodName := ⟨RX2, "draw", "(I)I"⟩
def RX3 : String := "GridRows$Moment"
def TX3 : u_T := fun k => match k with
  | 0 => ("GridRows$Moment", "code", "LGridRows$Code;", true)
  | 1 => ("GridRows$Moment", "row", "LGridRows$Row;", true)
  | 2 => ("GridRows$Moment", "places", "LGridRows$Places;", true)
  | _ => ("GridRows$Moment", "ending", "I", false)
def tyX3 : Nat → FieldType := fun k => match k with
  | 0 => .object "GridRows$Code"
  | 1 => .object "GridRows$Row"
  | 2 => .object "GridRows$Places"
  | _ => .int
abbrev wsX30 : List Cond := u_ws RX3 TX3 4
theorem nmX3 : ∀ a, a < 4 → ∀ b, b < 4 → a ≠ b → (TX3 a).2.1 ≠ (TX3 b).2.1 := by decide +kernel
theorem tyX3_ok : ∀ k, k < 4 → parseFieldDescriptor (TX3 k).2.2.1 = some (tyX3 k) := by decide +kernel
abbrev cX3_init : ByteArray := prog_5_method_1_code
def yX3_init : MethodName := ⟨RX3, "<init>", "()V"⟩
abbrev cX3_clear : ByteArray := prog_5_method_2_code
def yX3_clear : MethodName := ⟨RX3, "clear", "()V"⟩
abbrev cX3_become : ByteArray := prog_5_method_3_code
def yX3_become : MethodName := ⟨RX3, "become", "(LGridRows$Moment;)V"⟩
def RX4 : String := "GridRows$Parting"
def TX4 : u_T := fun k => match k with
  | 0 => ("GridRows$Parting", "gaps", "[I", true)
  | 1 => ("GridRows$Parting", "sums", "[I", true)
  | _ => ("GridRows$Parting", "laterSums", "[I", true)
def tyX4 : Nat → FieldType := fun k => match k with
  | 0 => .array .int
  | 1 => .array .int
  | _ => .array .int
abbrev wsX40 : List Cond := u_ws RX4 TX4 3
theorem nmX4 : ∀ a, a < 3 → ∀ b, b < 3 → a ≠ b → (TX4 a).2.1 ≠ (TX4 b).2.1 := by decide +kernel
theorem tyX4_ok : ∀ k, k < 3 → parseFieldDescriptor (TX4 k).2.2.1 = some (tyX4 k) := by decide +kernel
abbrev cX4_init : ByteArray := prog_6_method_1_code
def yX4_init : MethodName := ⟨RX4, "<init>", "()V"⟩
abbrev cX4_leastSum : ByteArray := prog_6_method_2_code
def yX4_leastSum : MethodName := ⟨RX4, "leastSum", "(LGridRows$Code;)I"⟩
abbrev cX4_fillGaps : ByteArray := prog_6_method_3_code
def yX4_fillGaps : MethodName := ⟨RX4, "fillGaps", "()V"⟩
abbrev cX4_part : ByteArray := prog_6_method_4_code
def yX4_part : MethodName := ⟨RX4, "part", "(LGridRows$Code;)V"⟩
abbrev cX4_advance : ByteArray := prog_6_method_5_code
def yX4_advance : MethodName := ⟨RX4, "advance", "(LGridRows$Code;I)I"⟩
abbrev cX4_advancePair : ByteArray := prog_6_method_6_code
def yX4_advancePair : MethodName := ⟨RX4, "advancePair", "(LGridRows$Code;II)I"⟩
abbrev cX4_gapOfSteps : ByteArray := prog_6_method_7_code
def yX4_gapOfSteps : MethodName := ⟨RX4, "gapOfSteps", "(LGridRows$Code;IIII)I"⟩
def RX5 : String := "GridRows$Past"
def TX5 : u_T := fun k => match k with
  | 0 => ("GridRows$Past", "count", "I", false)
  | 1 => ("GridRows$Past", "oldest", "I", false)
  | _ => ("GridRows$Past", "ring", "[LGridRows$Moment;", true)
def tyX5 : Nat → FieldType := fun k => match k with
  | 0 => .int
  | 1 => .int
  | _ => .array (.object "GridRows$Moment")
abbrev wsX50 : List Cond := u_ws RX5 TX5 3
theorem nmX5 : ∀ a, a < 3 → ∀ b, b < 3 → a ≠ b → (TX5 a).2.1 ≠ (TX5 b).2.1 := by decide +kernel
theorem tyX5_ok : ∀ k, k < 3 → parseFieldDescriptor (TX5 k).2.2.1 = some (tyX5 k) := by decide +kernel
abbrev cX5_init : ByteArray := prog_7_method_1_code
def yX5_init : MethodName := ⟨RX5, "<init>", "()V"⟩
abbrev cX5_push : ByteArray := prog_7_method_2_code
def yX5_push : MethodName := ⟨RX5, "push", "(LGridRows$Moment;)V"⟩
abbrev cX5_popInto : ByteArray := prog_7_method_3_code
def yX5_popInto : MethodName := ⟨RX5, "popInto", "(LGridRows$Moment;)V"⟩
abbrev cX5_forget : ByteArray := prog_7_method_4_code
def yX5_forget : MethodName := ⟨RX5, "forget", "()V"⟩
def RX6 : String := "GridRows$Places"
def TX6 : u_T := fun k => match k with
  | 0 => ("GridRows$Places", "count", "I", false)
  | 1 => ("GridRows$Places", "xs", "[I", true)
  | _ => ("GridRows$Places", "ys", "[I", true)
def tyX6 : Nat → FieldType := fun k => match k with
  | 0 => .int
  | 1 => .array .int
  | _ => .array .int
abbrev wsX60 : List Cond := u_ws RX6 TX6 3
theorem nmX6 : ∀ a, a < 3 → ∀ b, b < 3 → a ≠ b → (TX6 a).2.1 ≠ (TX6 b).2.1 := by decide +kernel
theorem tyX6_ok : ∀ k, k < 3 → parseFieldDescriptor (TX6 k).2.2.1 = some (tyX6 k) := by decide +kernel
abbrev cX6_init : ByteArray := prog_8_method_1_code
def yX6_init : MethodName := ⟨RX6, "<init>", "()V"⟩
abbrev cX6_isFull : ByteArray := prog_8_method_2_code
def yX6_isFull : MethodName := ⟨RX6, "isFull", "()Z"⟩
abbrev cX6_append : ByteArray := prog_8_method_3_code
def yX6_append : MethodName := ⟨RX6, "append", "(II)V"⟩
abbrev cX6_become : ByteArray := prog_8_method_4_code
def yX6_become : MethodName := ⟨RX6, "become", "(LGridRows$Places;)V"⟩
def RX7 : String := "GridRows$Row"
def TX7 : u_T := fun k => match k with
  | 0 => ("GridRows$Row", "count", "I", false)
  | 1 => ("GridRows$Row", "bits", "[I", true)
  | 2 => ("GridRows$Row", "choices", "[I", true)
  | 3 => ("GridRows$Row", "points", "[I", true)
  | _ => ("GridRows$Row", "states", "[I", true)
def tyX7 : Nat → FieldType := fun k => match k with
  | 0 => .int
  | 1 => .array .int
  | 2 => .array .int
  | 3 => .array .int
  | _ => .array .int
abbrev wsX70 : List Cond := u_ws RX7 TX7 5
theorem nmX7 : ∀ a, a < 5 → ∀ b, b < 5 → a ≠ b → (TX7 a).2.1 ≠ (TX7 b).2.1 := by decide +kernel
theorem tyX7_ok : ∀ k, k < 5 → parseFieldDescriptor (TX7 k).2.2.1 = some (tyX7 k) := by decide +kernel
abbrev cX7_init : ByteArray := prog_9_method_1_code
def yX7_init : MethodName := ⟨RX7, "<init>", "()V"⟩
abbrev cX7_isFull : ByteArray := prog_9_method_2_code
def yX7_isFull : MethodName := ⟨RX7, "isFull", "()Z"⟩
abbrev cX7_lastState : ByteArray := prog_9_method_3_code
def yX7_lastState : MethodName := ⟨RX7, "lastState", "()I"⟩
abbrev cX7_append : ByteArray := prog_9_method_4_code
def yX7_append : MethodName := ⟨RX7, "append", "(LGridRows$Code;II)I"⟩
abbrev cX7_partOf : ByteArray := prog_9_method_5_code
def yX7_partOf : MethodName := ⟨RX7, "partOf", "(II)I"⟩
abbrev cX7_become : ByteArray := prog_9_method_6_code
def yX7_become : MethodName := ⟨RX7, "become", "(LGridRows$Row;)V"⟩
def RX8 : String := "GridRows$Search"
def TX8 : u_T := fun k => match k with
  | 0 => ("GridRows$Search", "row", "LGridRows$Row;", true)
  | 1 => ("GridRows$Search", "choices", "[I", true)
  | 2 => ("GridRows$Search", "tolls", "[I", true)
  | _ => ("GridRows$Search", "rest", "[I", true)
def tyX8 : Nat → FieldType := fun k => match k with
  | 0 => .object "GridRows$Row"
  | 1 => .array .int
  | 2 => .array .int
  | _ => .array .int
abbrev wsX80 : List Cond := u_ws RX8 TX8 4
theorem nmX8 : ∀ a, a < 4 → ∀ b, b < 4 → a ≠ b → (TX8 a).2.1 ≠ (TX8 b).2.1 := by decide +kernel
theorem tyX8_ok : ∀ k, k < 4 → parseFieldDescriptor (TX8 k).2.2.1 = some (tyX8 k) := by decide +kernel
abbrev cX8_init : ByteArray := prog_10_method_1_code
def yX8_init : MethodName := ⟨RX8, "<init>", "()V"⟩
abbrev cX8_seek : ByteArray := prog_10_method_2_code
def yX8_seek : MethodName := ⟨RX8, "seek", "(LGridRows$Moment;II)I"⟩
abbrev cX8_weigh : ByteArray := prog_10_method_3_code
def yX8_weigh : MethodName := ⟨RX8, "weigh", "(LGridRows$Places;I)V"⟩
abbrev cX8_choose : ByteArray := prog_10_method_4_code
def yX8_choose : MethodName := ⟨RX8, "choose", "(IIII)V"⟩
abbrev cX8_reckon : ByteArray := prog_10_method_5_code
def yX8_reckon : MethodName := ⟨RX8, "reckon", "(LGridRows$Code;II)V"⟩
abbrev cX8_restBy : ByteArray := prog_10_method_6_code
def yX8_restBy : MethodName := ⟨RX8, "restBy", "(LGridRows$Code;III)I"⟩
abbrev cX8_walk : ByteArray := prog_10_method_7_code
def yX8_walk : MethodName := ⟨RX8, "walk", "(LGridRows$Code;I)V"⟩
def RX9 : String := "GridRows$Turning"
def TX9 : u_T := fun k => match k with
  | 0 => ("GridRows$Turning", "reached", "[I", true)
  | _ => ("GridRows$Turning", "grown", "Z", false)
def tyX9 : Nat → FieldType := fun k => match k with
  | 0 => .array .int
  | _ => .boolean
abbrev wsX90 : List Cond := u_ws RX9 TX9 2
theorem nmX9 : ∀ a, a < 2 → ∀ b, b < 2 → a ≠ b → (TX9 a).2.1 ≠ (TX9 b).2.1 := by decide +kernel
theorem tyX9_ok : ∀ k, k < 2 → parseFieldDescriptor (TX9 k).2.2.1 = some (tyX9 k) := by decide +kernel
abbrev cX9_init : ByteArray := prog_11_method_1_code
def yX9_init : MethodName := ⟨RX9, "<init>", "()V"⟩
abbrev cX9_holdsFor : ByteArray := prog_11_method_2_code
def yX9_holdsFor : MethodName := ⟨RX9, "holdsFor", "(LGridRows$Code;)Z"⟩
abbrev cX9_carryOn : ByteArray := prog_11_method_3_code
def yX9_carryOn : MethodName := ⟨RX9, "carryOn", "(LGridRows$Code;I)Z"⟩
abbrev cX9_mark : ByteArray := prog_11_method_4_code
def yX9_mark : MethodName := ⟨RX9, "mark", "(II)V"⟩
abbrev cX9_follow : ByteArray := prog_11_method_5_code
def yX9_follow : MethodName := ⟨RX9, "follow", "(LGridRows$Code;II)I"⟩
def RX10 : String := "GridRows"
def TX10 : u_T := fun k => match k with
  | 0 => ("GridRows", "now", "LGridRows$Moment;", true)
  | 1 => ("GridRows", "past", "LGridRows$Past;", true)
  | 2 => ("GridRows", "images", "[LGridRows$Moment;", true)
  | 3 => ("GridRows", "kept", "[Z", true)
  | 4 => ("GridRows", "search", "LGridRows$Search;", true)
  | 5 => ("GridRows", "parting", "LGridRows$Parting;", true)
  | _ => ("GridRows", "turning", "LGridRows$Turning;", true)
def tyX10 : Nat → FieldType := fun k => match k with
  | 0 => .object "GridRows$Moment"
  | 1 => .object "GridRows$Past"
  | 2 => .array (.object "GridRows$Moment")
  | 3 => .array .boolean
  | 4 => .object "GridRows$Search"
  | 5 => .object "GridRows$Parting"
  | _ => .object "GridRows$Turning"
abbrev wsX100 : List Cond := u_ws RX10 TX10 7
theorem nmX10 : ∀ a, a < 7 → ∀ b, b < 7 → a ≠ b → (TX10 a).2.1 ≠ (TX10 b).2.1 := by decide +kernel
theorem tyX10_ok : ∀ k, k < 7 → parseFieldDescriptor (TX10 k).2.2.1 = some (tyX10 k) := by decide +kernel
abbrev cX10_init : ByteArray := prog_1_method_1_code
def yX10_init : MethodName := ⟨RX10, "<init>", "()V"⟩
abbrev cX10_code : ByteArray := prog_1_method_2_code
def yX10_code : MethodName := ⟨RX10, "code", "(III)I"⟩
abbrev cX10_send : ByteArray := prog_1_method_3_code
def yX10_send : MethodName := ⟨RX10, "send", "(II)I"⟩
abbrev cX10_hear : ByteArray := prog_1_method_4_code
def yX10_hear : MethodName := ⟨RX10, "hear", "(II)I"⟩
abbrev cX10_drift : ByteArray := prog_1_method_5_code
def yX10_drift : MethodName := ⟨RX10, "drift", "(II)I"⟩
abbrev cX10_wipe : ByteArray := prog_1_method_6_code
def yX10_wipe : MethodName := ⟨RX10, "wipe", "()I"⟩
abbrev cX10_end : ByteArray := prog_1_method_7_code
def yX10_end : MethodName := ⟨RX10, "end", "(I)I"⟩
abbrev cX10_undo : ByteArray := prog_1_method_8_code
def yX10_undo : MethodName := ⟨RX10, "undo", "()I"⟩
abbrev cX10_told : ByteArray := prog_1_method_9_code
def yX10_told : MethodName := ⟨RX10, "told", "(I)I"⟩
abbrev cX10_point : ByteArray := prog_1_method_10_code
def yX10_point : MethodName := ⟨RX10, "point", "(II)I"⟩
abbrev cX10_member : ByteArray := prog_1_method_11_code
def yX10_member : MethodName := ⟨RX10, "member", "(II)I"⟩
abbrev cX10_apart : ByteArray := prog_1_method_12_code
def yX10_apart : MethodName := ⟨RX10, "apart", "(II)I"⟩
abbrev cX10_distance : ByteArray := prog_1_method_13_code
def yX10_distance : MethodName := ⟨RX10, "distance", "(II)I"⟩
abbrev cX10_turned : ByteArray := prog_1_method_14_code
def yX10_turned : MethodName := ⟨RX10, "turned", "(I)I"⟩
abbrev cX10_next : ByteArray := prog_1_method_15_code
def yX10_next : MethodName := ⟨RX10, "next", "(III)I"⟩
abbrev cX10_sent : ByteArray := prog_1_method_16_code
def yX10_sent : MethodName := ⟨RX10, "sent", "(II)I"⟩
abbrev cX10_heard : ByteArray := prog_1_method_17_code
def yX10_heard : MethodName := ⟨RX10, "heard", "(II)I"⟩
abbrev cX10_nearest : ByteArray := prog_1_method_18_code
def yX10_nearest : MethodName := ⟨RX10, "nearest", "(II)I"⟩
abbrev cX10_ahead : ByteArray := prog_1_method_19_code
def yX10_ahead : MethodName := ⟨RX10, "ahead", "(II)I"⟩
abbrev cX10_decided : ByteArray := prog_1_method_20_code
def yX10_decided : MethodName := ⟨RX10, "decided", "(II)I"⟩
abbrev cX10_cost : ByteArray := prog_1_method_21_code
def yX10_cost : MethodName := ⟨RX10, "cost", "()I"⟩
abbrev cX10_sign : ByteArray := prog_1_method_22_code
def yX10_sign : MethodName := ⟨RX10, "sign", "(I)I"⟩
abbrev cX10_keep : ByteArray := prog_1_method_23_code
def yX10_keep : MethodName := ⟨RX10, "keep", "(I)I"⟩
abbrev cX10_goBack : ByteArray := prog_1_method_24_code
def yX10_goBack : MethodName := ⟨RX10, "goBack", "(I)I"⟩
abbrev cX10_isOutside : ByteArray := prog_1_method_25_code
def yX10_isOutside : MethodName := ⟨RX10, "isOutside", "(III)Z"⟩
abbrev cX10_isPoint : ByteArray := prog_1_method_26_code
def yX10_isPoint : MethodName := ⟨RX10, "isPoint", "(I)Z"⟩
abbrev cX10_isFamily : ByteArray := prog_1_method_27_code
def yX10_isFamily : MethodName := ⟨RX10, "isFamily", "(I)Z"⟩
abbrev cX10_isState : ByteArray := prog_1_method_28_code
def yX10_isState : MethodName := ⟨RX10, "isState", "(I)Z"⟩
abbrev cX10_seekNearest : ByteArray := prog_1_method_29_code
def yX10_seekNearest : MethodName := ⟨RX10, "seekNearest", "()I"⟩
abbrev cX10_countUnlike : ByteArray := prog_1_method_30_code
def yX10_countUnlike : MethodName := ⟨RX10, "countUnlike", "()I"⟩
abbrev cX10_countSigns : ByteArray := prog_1_method_31_code
def yX10_countSigns : MethodName := ⟨RX10, "countSigns", "()I"⟩
def RX11 : String := "GridRowsModel"
def TX11 : u_T := fun k => match k with
  | 0 => ("GridRowsModel", "now", "[I", true)
  | 1 => ("GridRowsModel", "past", "[I", true)
  | 2 => ("GridRowsModel", "acts", "I", false)
  | 3 => ("GridRowsModel", "images", "[I", true)
  | 4 => ("GridRowsModel", "kept", "[Z", true)
  | 5 => ("GridRowsModel", "least", "[I", true)
  | 6 => ("GridRowsModel", "bits", "[I", true)
  | 7 => ("GridRowsModel", "choices", "[I", true)
  | 8 => ("GridRowsModel", "states", "[I", true)
  | 9 => ("GridRowsModel", "pairs", "[I", true)
  | 10 => ("GridRowsModel", "next", "[I", true)
  | 11 => ("GridRowsModel", "seen", "[Z", true)
  | _ => ("GridRowsModel", "heap", "[I", true)
def tyX11 : Nat → FieldType := fun k => match k with
  | 0 => .array .int
  | 1 => .array .int
  | 2 => .int
  | 3 => .array .int
  | 4 => .array .boolean
  | 5 => .array .int
  | 6 => .array .int
  | 7 => .array .int
  | 8 => .array .int
  | 9 => .array .int
  | 10 => .array .int
  | 11 => .array .boolean
  | _ => .array .int
abbrev wsX110 : List Cond := u_ws RX11 TX11 13
theorem nmX11 : ∀ a, a < 13 → ∀ b, b < 13 → a ≠ b → (TX11 a).2.1 ≠ (TX11 b).2.1 := by decide +kernel
theorem tyX11_ok : ∀ k, k < 13 → parseFieldDescriptor (TX11 k).2.2.1 = some (tyX11 k) := by decide +kernel
abbrev cX11_init : ByteArray := prog_13_method_1_code
def yX11_init : MethodName := ⟨RX11, "<init>", "()V"⟩
abbrev cX11_in : ByteArray := prog_13_method_3_code
def yX11_in : MethodName := ⟨RX11, "in", "(III)Z"⟩
abbrev cX11_xOf : ByteArray := prog_13_method_4_code
def yX11_xOf : MethodName := ⟨RX11, "xOf", "(I)I"⟩
abbrev cX11_yOf : ByteArray := prog_13_method_5_code
def yX11_yOf : MethodName := ⟨RX11, "yOf", "(I)I"⟩
abbrev cX11_familyOf : ByteArray := prog_13_method_6_code
def yX11_familyOf : MethodName := ⟨RX11, "familyOf", "(I)I"⟩
abbrev cX11_turn : ByteArray := prog_13_method_7_code
def yX11_turn : MethodName := ⟨RX11, "turn", "(I)I"⟩
abbrev cX11_memberOf : ByteArray := prog_13_method_8_code
def yX11_memberOf : MethodName := ⟨RX11, "memberOf", "(II)I"⟩
abbrev cX11_orderOf : ByteArray := prog_13_method_9_code
def yX11_orderOf : MethodName := ⟨RX11, "orderOf", "(I)I"⟩
abbrev cX11_far : ByteArray := prog_13_method_10_code
def yX11_far : MethodName := ⟨RX11, "far", "(III)I"⟩
abbrev cX11_apartOf : ByteArray := prog_13_method_11_code
def yX11_apartOf : MethodName := ⟨RX11, "apartOf", "(II)I"⟩
abbrev cX11_turnedFamily : ByteArray := prog_13_method_12_code
def yX11_turnedFamily : MethodName := ⟨RX11, "turnedFamily", "(I)I"⟩
abbrev cX11_isPoint : ByteArray := prog_13_method_13_code
def yX11_isPoint : MethodName := ⟨RX11, "isPoint", "(I)Z"⟩
abbrev cX11_isFamily : ByteArray := prog_13_method_14_code
def yX11_isFamily : MethodName := ⟨RX11, "isFamily", "(I)Z"⟩
abbrev cX11_manyStates : ByteArray := prog_13_method_15_code
def yX11_manyStates : MethodName := ⟨RX11, "manyStates", "()I"⟩
abbrev cX11_isState : ByteArray := prog_13_method_16_code
def yX11_isState : MethodName := ⟨RX11, "isState", "(I)Z"⟩
abbrev cX11_odd : ByteArray := prog_13_method_17_code
def yX11_odd : MethodName := ⟨RX11, "odd", "(I)I"⟩
abbrev cX11_familyBy : ByteArray := prog_13_method_18_code
def yX11_familyBy : MethodName := ⟨RX11, "familyBy", "(II)I"⟩
abbrev cX11_stateBy : ByteArray := prog_13_method_19_code
def yX11_stateBy : MethodName := ⟨RX11, "stateBy", "(II)I"⟩
abbrev cX11_notes : ByteArray := prog_13_method_20_code
def yX11_notes : MethodName := ⟨RX11, "notes", "()V"⟩
abbrev cX11_code : ByteArray := prog_13_method_21_code
def yX11_code : MethodName := ⟨RX11, "code", "(III)I"⟩
abbrev cX11_stateBehind : ByteArray := prog_13_method_22_code
def yX11_stateBehind : MethodName := ⟨RX11, "stateBehind", "(I)I"⟩
abbrev cX11_pointSent : ByteArray := prog_13_method_23_code
def yX11_pointSent : MethodName := ⟨RX11, "pointSent", "(I)I"⟩
abbrev cX11_sends : ByteArray := prog_13_method_24_code
def yX11_sends : MethodName := ⟨RX11, "sends", "(II)V"⟩
abbrev cX11_hears : ByteArray := prog_13_method_25_code
def yX11_hears : MethodName := ⟨RX11, "hears", "(II)V"⟩
abbrev cX11_send : ByteArray := prog_13_method_26_code
def yX11_send : MethodName := ⟨RX11, "send", "(II)I"⟩
abbrev cX11_hear : ByteArray := prog_13_method_27_code
def yX11_hear : MethodName := ⟨RX11, "hear", "(II)I"⟩
abbrev cX11_drawn : ByteArray := prog_13_method_28_code
def yX11_drawn : MethodName := ⟨RX11, "drawn", "(J)J"⟩
abbrev cX11_drift : ByteArray := prog_13_method_29_code
def yX11_drift : MethodName := ⟨RX11, "drift", "(II)I"⟩
abbrev cX11_wipe : ByteArray := prog_13_method_30_code
def yX11_wipe : MethodName := ⟨RX11, "wipe", "()I"⟩
abbrev cX11_end : ByteArray := prog_13_method_31_code
def yX11_end : MethodName := ⟨RX11, "end", "(I)I"⟩
abbrev cX11_undo : ByteArray := prog_13_method_32_code
def yX11_undo : MethodName := ⟨RX11, "undo", "()I"⟩
abbrev cX11_costAt : ByteArray := prog_13_method_33_code
def yX11_costAt : MethodName := ⟨RX11, "costAt", "(II)I"⟩
abbrev cX11_costFrom : ByteArray := prog_13_method_34_code
def yX11_costFrom : MethodName := ⟨RX11, "costFrom", "(IIII)I"⟩
abbrev cX11_finds : ByteArray := prog_13_method_35_code
def yX11_finds : MethodName := ⟨RX11, "finds", "(II)I"⟩
abbrev cX11_pointOf : ByteArray := prog_13_method_36_code
def yX11_pointOf : MethodName := ⟨RX11, "pointOf", "(I)I"⟩
abbrev cX11_errors : ByteArray := prog_13_method_37_code
def yX11_errors : MethodName := ⟨RX11, "errors", "()I"⟩
abbrev cX11_signs : ByteArray := prog_13_method_38_code
def yX11_signs : MethodName := ⟨RX11, "signs", "()I"⟩
abbrev cX11_apartBy : ByteArray := prog_13_method_39_code
def yX11_apartBy : MethodName := ⟨RX11, "apartBy", "(IIII)I"⟩
abbrev cX11_free : ByteArray := prog_13_method_40_code
def yX11_free : MethodName := ⟨RX11, "free", "()I"⟩
abbrev cX11_isTurning : ByteArray := prog_13_method_41_code
def yX11_isTurning : MethodName := ⟨RX11, "isTurning", "()Z"⟩
abbrev cX11_told : ByteArray := prog_13_method_42_code
def yX11_told : MethodName := ⟨RX11, "told", "(I)I"⟩
abbrev cX11_point : ByteArray := prog_13_method_43_code
def yX11_point : MethodName := ⟨RX11, "point", "(II)I"⟩
abbrev cX11_member : ByteArray := prog_13_method_44_code
def yX11_member : MethodName := ⟨RX11, "member", "(II)I"⟩
abbrev cX11_apart : ByteArray := prog_13_method_45_code
def yX11_apart : MethodName := ⟨RX11, "apart", "(II)I"⟩
abbrev cX11_distance : ByteArray := prog_13_method_46_code
def yX11_distance : MethodName := ⟨RX11, "distance", "(II)I"⟩
abbrev cX11_turned : ByteArray := prog_13_method_47_code
def yX11_turned : MethodName := ⟨RX11, "turned", "(I)I"⟩
abbrev cX11_next : ByteArray := prog_13_method_48_code
def yX11_next : MethodName := ⟨RX11, "next", "(III)I"⟩
abbrev cX11_sent : ByteArray := prog_13_method_49_code
def yX11_sent : MethodName := ⟨RX11, "sent", "(II)I"⟩
abbrev cX11_heard : ByteArray := prog_13_method_50_code
def yX11_heard : MethodName := ⟨RX11, "heard", "(II)I"⟩
abbrev cX11_nearest : ByteArray := prog_13_method_51_code
def yX11_nearest : MethodName := ⟨RX11, "nearest", "(II)I"⟩
abbrev cX11_ahead : ByteArray := prog_13_method_52_code
def yX11_ahead : MethodName := ⟨RX11, "ahead", "(II)I"⟩
abbrev cX11_decided : ByteArray := prog_13_method_53_code
def yX11_decided : MethodName := ⟨RX11, "decided", "(II)I"⟩
abbrev cX11_cost : ByteArray := prog_13_method_54_code
def yX11_cost : MethodName := ⟨RX11, "cost", "()I"⟩
abbrev cX11_sign : ByteArray := prog_13_method_55_code
def yX11_sign : MethodName := ⟨RX11, "sign", "(I)I"⟩
abbrev cX11_keep : ByteArray := prog_13_method_56_code
def yX11_keep : MethodName := ⟨RX11, "keep", "(I)I"⟩
abbrev cX11_goBack : ByteArray := prog_13_method_57_code
def yX11_goBack : MethodName := ⟨RX11, "goBack", "(I)I"⟩
def RJ6 : String := "java/lang/Integer"
def TJ6 : u_T := fun k => match k with
  | _ => ("", "", "", false)
def tyJ6 : Nat → FieldType := fun k => match k with
  | _ => .int
abbrev wsJ60 : List Cond := u_ws RJ6 TJ6 0
theorem nmJ6 : ∀ a, a < 0 → ∀ b, b < 0 → a ≠ b → (TJ6 a).2.1 ≠ (TJ6 b).2.1 := by decide +kernel
theorem tyJ6_ok : ∀ k, k < 0 → parseFieldDescriptor (TJ6 k).2.2.1 = some (tyJ6 k) := by decide +kernel
abbrev cJ6_bitCount_0f7a4 : ByteArray := prog_14_method_49_code
def yJ6_bitCount_0f7a4 : MethodName := ⟨RJ6, "bitCount", "(I)I"⟩
def RJ9 : String := "java/lang/Math"
def TJ9 : u_T := fun k => match k with
  | _ => ("", "", "", false)
def tyJ9 : Nat → FieldType := fun k => match k with
  | _ => .int
abbrev wsJ90 : List Cond := u_ws RJ9 TJ9 0
theorem nmJ9 : ∀ a, a < 0 → ∀ b, b < 0 → a ≠ b → (TJ9 a).2.1 ≠ (TJ9 b).2.1 := by decide +kernel
theorem tyJ9_ok : ∀ k, k < 0 → parseFieldDescriptor (TJ9 k).2.2.1 = some (tyJ9 k) := by decide +kernel
abbrev cJ9_min_7cf53 : ByteArray := prog_15_method_69_code
def yJ9_min_7cf53 : MethodName := ⟨RJ9, "min", "(II)I"⟩
def RJ10 : String := "java/lang/System"
def TJ10 : u_T := fun k => match k with
  | _ => ("", "", "", false)
def tyJ10 : Nat → FieldType := fun k => match k with
  | _ => .int
abbrev wsJ100 : List Cond := u_ws RJ10 TJ10 0
theorem nmJ10 : ∀ a, a < 0 → ∀ b, b < 0 → a ≠ b → (TJ10 a).2.1 ≠ (TJ10 b).2.1 := by decide +kernel
theorem tyJ10_ok : ∀ k, k < 0 → parseFieldDescriptor (TJ10 k).2.2.1 = some (tyJ10 k) := by decide +kernel
def RJ7 : String := "java/util/Arrays"
def TJ7 : u_T := fun k => match k with
  | _ => ("", "", "", false)
def tyJ7 : Nat → FieldType := fun k => match k with
  | _ => .int
abbrev wsJ70 : List Cond := u_ws RJ7 TJ7 0
theorem nmJ7 : ∀ a, a < 0 → ∀ b, b < 0 → a ≠ b → (TJ7 a).2.1 ≠ (TJ7 b).2.1 := by decide +kernel
theorem tyJ7_ok : ∀ k, k < 0 → parseFieldDescriptor (TJ7 k).2.2.1 = some (tyJ7 k) := by decide +kernel
abbrev cJ7_fill_53178 : ByteArray := prog_17_method_103_code
def yJ7_fill_53178 : MethodName := ⟨RJ7, "fill", "([II)V"⟩
def RL : String := "GridRowsLaw"
abbrev cL_law : ByteArray := code
def yL_law : MethodName := ⟨RL, "law", "([I)Z"⟩
abbrev vwCl : List vw_C := [(RX0, TX0, 3), (RX2, TX2, 1), (RX3, TX3, 4), (RX4, TX4, 3), (RX5, TX5, 3), (RX6, TX6, 3), (RX7, TX7, 5), (RX8, TX8, 4), (RX9, TX9, 2), (RX10, TX10, 7), (RX11, TX11, 13)]
end
section
theorem dX0_init_0 : decode cX0_init 0 = .ok (.aload_n 0, 1) := by decide +kernel
theorem dX0_init_1 : decode cX0_init 1 = .ok (.invokespecial 1, 3) := by decide +kernel
theorem dX0_init_4 : decode cX0_init 4 = .ok (.aload_n 0, 1) := by decide +kernel
theorem dX0_init_5 : decode cX0_init 5 = .ok (.iconst 2, 1) := by decide +kernel
theorem dX0_init_6 : decode cX0_init 6 = .ok (.iconst 5, 1) := by decide +kernel
theorem dX0_init_7 : decode cX0_init 7 = .ok (.iconst 2, 1) := by decide +kernel
theorem dX0_init_8 : decode cX0_init 8 = .ok (.invokevirtual 7, 3) := by decide +kernel
theorem dX0_init_11 : decode cX0_init 11 = .ok (.return_, 1) := by decide +kernel
theorem dX0_set_0 : decode cX0_set 0 = .ok (.aload_n 0, 1) := by decide +kernel
theorem dX0_set_1 : decode cX0_set 1 = .ok (.iload_n 1, 1) := by decide +kernel
theorem dX0_set_2 : decode cX0_set 2 = .ok (.putfield 13, 3) := by decide +kernel
theorem dX0_set_5 : decode cX0_set 5 = .ok (.aload_n 0, 1) := by decide +kernel
theorem dX0_set_6 : decode cX0_set 6 = .ok (.iload_n 2, 1) := by decide +kernel
theorem dX0_set_7 : decode cX0_set 7 = .ok (.putfield 17, 3) := by decide +kernel
theorem dX0_set_10 : decode cX0_set 10 = .ok (.aload_n 0, 1) := by decide +kernel
theorem dX0_set_11 : decode cX0_set 11 = .ok (.iload_n 3, 1) := by decide +kernel
theorem dX0_set_12 : decode cX0_set 12 = .ok (.putfield 20, 3) := by decide +kernel
theorem dX0_set_15 : decode cX0_set 15 = .ok (.return_, 1) := by decide +kernel
theorem dX0_states_0 : decode cX0_states 0 = .ok (.iconst 1, 1) := by decide +kernel
theorem dX0_states_1 : decode cX0_states 1 = .ok (.aload_n 0, 1) := by decide +kernel
theorem dX0_states_2 : decode cX0_states 2 = .ok (.getfield 13, 3) := by decide +kernel
theorem dX0_states_5 : decode cX0_states 5 = .ok (.ishl, 1) := by decide +kernel
theorem dX0_states_6 : decode cX0_states 6 = .ok (.ireturn, 1) := by decide +kernel
theorem dX0_familyFrom_0 : decode cX0_familyFrom 0 = .ok (.aload_n 0, 1) := by decide +kernel
theorem dX0_familyFrom_1 : decode cX0_familyFrom 1 = .ok (.iload_n 1, 1) := by decide +kernel
theorem dX0_familyFrom_2 : decode cX0_familyFrom 2 = .ok (.iload_n 2, 1) := by decide +kernel
theorem dX0_familyFrom_3 : decode cX0_familyFrom 3 = .ok (.invokevirtual 23, 3) := by decide +kernel
theorem dX0_familyFrom_6 : decode cX0_familyFrom 6 = .ok (.istore_n 3, 1) := by decide +kernel
theorem dX0_familyFrom_7 : decode cX0_familyFrom 7 = .ok (.iconst 2, 1) := by decide +kernel
theorem dX0_familyFrom_8 : decode cX0_familyFrom 8 = .ok (.iload_n 3, 1) := by decide +kernel
theorem dX0_familyFrom_9 : decode cX0_familyFrom 9 = .ok (.aload_n 0, 1) := by decide +kernel
theorem dX0_familyFrom_10 : decode cX0_familyFrom 10 = .ok (.getfield 17, 3) := by decide +kernel
theorem dX0_familyFrom_13 : decode cX0_familyFrom 13 = .ok (.iand, 1) := by decide +kernel
theorem dX0_familyFrom_14 : decode cX0_familyFrom 14 = .ok (.invokestatic 27, 3) := by decide +kernel
theorem dX0_familyFrom_17 : decode cX0_familyFrom 17 = .ok (.iconst 2, 1) := by decide +kernel
theorem dX0_familyFrom_18 : decode cX0_familyFrom 18 = .ok (.irem, 1) := by decide +kernel
theorem dX0_familyFrom_19 : decode cX0_familyFrom 19 = .ok (.imul, 1) := by decide +kernel
theorem dX0_familyFrom_20 : decode cX0_familyFrom 20 = .ok (.iload_n 3, 1) := by decide +kernel
theorem dX0_familyFrom_21 : decode cX0_familyFrom 21 = .ok (.aload_n 0, 1) := by decide +kernel
theorem dX0_familyFrom_22 : decode cX0_familyFrom 22 = .ok (.getfield 20, 3) := by decide +kernel
theorem dX0_familyFrom_25 : decode cX0_familyFrom 25 = .ok (.iand, 1) := by decide +kernel
theorem dX0_familyFrom_26 : decode cX0_familyFrom 26 = .ok (.invokestatic 27, 3) := by decide +kernel
theorem dX0_familyFrom_29 : decode cX0_familyFrom 29 = .ok (.iconst 2, 1) := by decide +kernel
theorem dX0_familyFrom_30 : decode cX0_familyFrom 30 = .ok (.irem, 1) := by decide +kernel
theorem dX0_familyFrom_31 : decode cX0_familyFrom 31 = .ok (.iadd, 1) := by decide +kernel
theorem dX0_familyFrom_32 : decode cX0_familyFrom 32 = .ok (.ireturn, 1) := by decide +kernel
theorem dX0_stateAfter_0 : decode cX0_stateAfter 0 = .ok (.aload_n 0, 1) := by decide +kernel
theorem dX0_stateAfter_1 : decode cX0_stateAfter 1 = .ok (.iload_n 1, 1) := by decide +kernel
theorem dX0_stateAfter_2 : decode cX0_stateAfter 2 = .ok (.iload_n 2, 1) := by decide +kernel
theorem dX0_stateAfter_3 : decode cX0_stateAfter 3 = .ok (.invokevirtual 23, 3) := by decide +kernel
theorem dX0_stateAfter_6 : decode cX0_stateAfter 6 = .ok (.iconst 2, 1) := by decide +kernel
theorem dX0_stateAfter_7 : decode cX0_stateAfter 7 = .ok (.idiv, 1) := by decide +kernel
theorem dX0_stateAfter_8 : decode cX0_stateAfter 8 = .ok (.ireturn, 1) := by decide +kernel
theorem dX0_registerOf_0 : decode cX0_registerOf 0 = .ok (.iload_n 2, 1) := by decide +kernel
theorem dX0_registerOf_1 : decode cX0_registerOf 1 = .ok (.aload_n 0, 1) := by decide +kernel
theorem dX0_registerOf_2 : decode cX0_registerOf 2 = .ok (.getfield 13, 3) := by decide +kernel
theorem dX0_registerOf_5 : decode cX0_registerOf 5 = .ok (.ishl, 1) := by decide +kernel
theorem dX0_registerOf_6 : decode cX0_registerOf 6 = .ok (.iload_n 1, 1) := by decide +kernel
theorem dX0_registerOf_7 : decode cX0_registerOf 7 = .ok (.iadd, 1) := by decide +kernel
theorem dX0_registerOf_8 : decode cX0_registerOf 8 = .ok (.ireturn, 1) := by decide +kernel
end
section
theorem dX1_xOf_0 : decode cX1_xOf 0 = .ok (.bipush 20, 2) := by decide +kernel
theorem dX1_xOf_2 : decode cX1_xOf 2 = .ok (.iload_n 0, 1) := by decide +kernel
theorem dX1_xOf_3 : decode cX1_xOf 3 = .ok (.iconst 4, 1) := by decide +kernel
theorem dX1_xOf_4 : decode cX1_xOf 4 = .ok (.idiv, 1) := by decide +kernel
theorem dX1_xOf_5 : decode cX1_xOf 5 = .ok (.imul, 1) := by decide +kernel
theorem dX1_xOf_6 : decode cX1_xOf 6 = .ok (.bipush 30, 2) := by decide +kernel
theorem dX1_xOf_8 : decode cX1_xOf 8 = .ok (.isub, 1) := by decide +kernel
theorem dX1_xOf_9 : decode cX1_xOf 9 = .ok (.ireturn, 1) := by decide +kernel
theorem dX1_yOf_0 : decode cX1_yOf 0 = .ok (.bipush 20, 2) := by decide +kernel
theorem dX1_yOf_2 : decode cX1_yOf 2 = .ok (.iload_n 0, 1) := by decide +kernel
theorem dX1_yOf_3 : decode cX1_yOf 3 = .ok (.iconst 4, 1) := by decide +kernel
theorem dX1_yOf_4 : decode cX1_yOf 4 = .ok (.irem, 1) := by decide +kernel
theorem dX1_yOf_5 : decode cX1_yOf 5 = .ok (.imul, 1) := by decide +kernel
theorem dX1_yOf_6 : decode cX1_yOf 6 = .ok (.bipush 30, 2) := by decide +kernel
theorem dX1_yOf_8 : decode cX1_yOf 8 = .ok (.isub, 1) := by decide +kernel
theorem dX1_yOf_9 : decode cX1_yOf 9 = .ok (.ireturn, 1) := by decide +kernel
theorem dX1_familyOf_0 : decode cX1_familyOf 0 = .ok (.iload_n 0, 1) := by decide +kernel
theorem dX1_familyOf_1 : decode cX1_familyOf 1 = .ok (.iconst 4, 1) := by decide +kernel
theorem dX1_familyOf_2 : decode cX1_familyOf 2 = .ok (.idiv, 1) := by decide +kernel
theorem dX1_familyOf_3 : decode cX1_familyOf 3 = .ok (.istore_n 1, 1) := by decide +kernel
theorem dX1_familyOf_4 : decode cX1_familyOf 4 = .ok (.iload_n 0, 1) := by decide +kernel
theorem dX1_familyOf_5 : decode cX1_familyOf 5 = .ok (.iconst 4, 1) := by decide +kernel
theorem dX1_familyOf_6 : decode cX1_familyOf 6 = .ok (.irem, 1) := by decide +kernel
theorem dX1_familyOf_7 : decode cX1_familyOf 7 = .ok (.istore_n 2, 1) := by decide +kernel
theorem dX1_familyOf_8 : decode cX1_familyOf 8 = .ok (.iconst 2, 1) := by decide +kernel
theorem dX1_familyOf_9 : decode cX1_familyOf 9 = .ok (.iload_n 1, 1) := by decide +kernel
theorem dX1_familyOf_10 : decode cX1_familyOf 10 = .ok (.iload_n 2, 1) := by decide +kernel
theorem dX1_familyOf_11 : decode cX1_familyOf 11 = .ok (.iadd, 1) := by decide +kernel
theorem dX1_familyOf_12 : decode cX1_familyOf 12 = .ok (.iconst 2, 1) := by decide +kernel
theorem dX1_familyOf_13 : decode cX1_familyOf 13 = .ok (.irem, 1) := by decide +kernel
theorem dX1_familyOf_14 : decode cX1_familyOf 14 = .ok (.imul, 1) := by decide +kernel
theorem dX1_familyOf_15 : decode cX1_familyOf 15 = .ok (.iload_n 2, 1) := by decide +kernel
theorem dX1_familyOf_16 : decode cX1_familyOf 16 = .ok (.iconst 2, 1) := by decide +kernel
theorem dX1_familyOf_17 : decode cX1_familyOf 17 = .ok (.irem, 1) := by decide +kernel
theorem dX1_familyOf_18 : decode cX1_familyOf 18 = .ok (.iadd, 1) := by decide +kernel
theorem dX1_familyOf_19 : decode cX1_familyOf 19 = .ok (.ireturn, 1) := by decide +kernel
theorem dX1_rankOf_0 : decode cX1_rankOf 0 = .ok (.iload_n 0, 1) := by decide +kernel
theorem dX1_rankOf_1 : decode cX1_rankOf 1 = .ok (.iconst 4, 1) := by decide +kernel
theorem dX1_rankOf_2 : decode cX1_rankOf 2 = .ok (.idiv, 1) := by decide +kernel
theorem dX1_rankOf_3 : decode cX1_rankOf 3 = .ok (.istore_n 1, 1) := by decide +kernel
theorem dX1_rankOf_4 : decode cX1_rankOf 4 = .ok (.iload_n 0, 1) := by decide +kernel
theorem dX1_rankOf_5 : decode cX1_rankOf 5 = .ok (.iconst 4, 1) := by decide +kernel
theorem dX1_rankOf_6 : decode cX1_rankOf 6 = .ok (.irem, 1) := by decide +kernel
theorem dX1_rankOf_7 : decode cX1_rankOf 7 = .ok (.istore_n 2, 1) := by decide +kernel
theorem dX1_rankOf_8 : decode cX1_rankOf 8 = .ok (.iconst 2, 1) := by decide +kernel
theorem dX1_rankOf_9 : decode cX1_rankOf 9 = .ok (.iload_n 1, 1) := by decide +kernel
theorem dX1_rankOf_10 : decode cX1_rankOf 10 = .ok (.iconst 2, 1) := by decide +kernel
theorem dX1_rankOf_11 : decode cX1_rankOf 11 = .ok (.idiv, 1) := by decide +kernel
theorem dX1_rankOf_12 : decode cX1_rankOf 12 = .ok (.imul, 1) := by decide +kernel
theorem dX1_rankOf_13 : decode cX1_rankOf 13 = .ok (.iload_n 2, 1) := by decide +kernel
theorem dX1_rankOf_14 : decode cX1_rankOf 14 = .ok (.iconst 2, 1) := by decide +kernel
theorem dX1_rankOf_15 : decode cX1_rankOf 15 = .ok (.idiv, 1) := by decide +kernel
theorem dX1_rankOf_16 : decode cX1_rankOf 16 = .ok (.iadd, 1) := by decide +kernel
theorem dX1_rankOf_17 : decode cX1_rankOf 17 = .ok (.ireturn, 1) := by decide +kernel
theorem dX1_pointOf_0 : decode cX1_pointOf 0 = .ok (.iload_n 0, 1) := by decide +kernel
theorem dX1_pointOf_1 : decode cX1_pointOf 1 = .ok (.iconst 2, 1) := by decide +kernel
theorem dX1_pointOf_2 : decode cX1_pointOf 2 = .ok (.irem, 1) := by decide +kernel
theorem dX1_pointOf_3 : decode cX1_pointOf 3 = .ok (.istore_n 2, 1) := by decide +kernel
theorem dX1_pointOf_4 : decode cX1_pointOf 4 = .ok (.iload_n 0, 1) := by decide +kernel
theorem dX1_pointOf_5 : decode cX1_pointOf 5 = .ok (.iconst 2, 1) := by decide +kernel
theorem dX1_pointOf_6 : decode cX1_pointOf 6 = .ok (.idiv, 1) := by decide +kernel
theorem dX1_pointOf_7 : decode cX1_pointOf 7 = .ok (.iload_n 2, 1) := by decide +kernel
theorem dX1_pointOf_8 : decode cX1_pointOf 8 = .ok (.iadd, 1) := by decide +kernel
theorem dX1_pointOf_9 : decode cX1_pointOf 9 = .ok (.iconst 2, 1) := by decide +kernel
theorem dX1_pointOf_10 : decode cX1_pointOf 10 = .ok (.irem, 1) := by decide +kernel
theorem dX1_pointOf_11 : decode cX1_pointOf 11 = .ok (.istore_n 3, 1) := by decide +kernel
theorem dX1_pointOf_12 : decode cX1_pointOf 12 = .ok (.iload_n 3, 1) := by decide +kernel
theorem dX1_pointOf_13 : decode cX1_pointOf 13 = .ok (.iconst 2, 1) := by decide +kernel
theorem dX1_pointOf_14 : decode cX1_pointOf 14 = .ok (.iload_n 1, 1) := by decide +kernel
theorem dX1_pointOf_15 : decode cX1_pointOf 15 = .ok (.iconst 2, 1) := by decide +kernel
theorem dX1_pointOf_16 : decode cX1_pointOf 16 = .ok (.idiv, 1) := by decide +kernel
theorem dX1_pointOf_17 : decode cX1_pointOf 17 = .ok (.imul, 1) := by decide +kernel
theorem dX1_pointOf_18 : decode cX1_pointOf 18 = .ok (.iadd, 1) := by decide +kernel
theorem dX1_pointOf_19 : decode cX1_pointOf 19 = .ok (.istore 4, 2) := by decide +kernel
theorem dX1_pointOf_21 : decode cX1_pointOf 21 = .ok (.iload_n 2, 1) := by decide +kernel
theorem dX1_pointOf_22 : decode cX1_pointOf 22 = .ok (.iconst 2, 1) := by decide +kernel
theorem dX1_pointOf_23 : decode cX1_pointOf 23 = .ok (.iload_n 1, 1) := by decide +kernel
theorem dX1_pointOf_24 : decode cX1_pointOf 24 = .ok (.iconst 2, 1) := by decide +kernel
theorem dX1_pointOf_25 : decode cX1_pointOf 25 = .ok (.irem, 1) := by decide +kernel
theorem dX1_pointOf_26 : decode cX1_pointOf 26 = .ok (.imul, 1) := by decide +kernel
theorem dX1_pointOf_27 : decode cX1_pointOf 27 = .ok (.iadd, 1) := by decide +kernel
theorem dX1_pointOf_28 : decode cX1_pointOf 28 = .ok (.istore 5, 2) := by decide +kernel
theorem dX1_pointOf_30 : decode cX1_pointOf 30 = .ok (.iconst 4, 1) := by decide +kernel
theorem dX1_pointOf_31 : decode cX1_pointOf 31 = .ok (.iload 4, 2) := by decide +kernel
theorem dX1_pointOf_33 : decode cX1_pointOf 33 = .ok (.imul, 1) := by decide +kernel
theorem dX1_pointOf_34 : decode cX1_pointOf 34 = .ok (.iload 5, 2) := by decide +kernel
theorem dX1_pointOf_36 : decode cX1_pointOf 36 = .ok (.iadd, 1) := by decide +kernel
theorem dX1_pointOf_37 : decode cX1_pointOf 37 = .ok (.ireturn, 1) := by decide +kernel
theorem dX1_turnOf_0 : decode cX1_turnOf 0 = .ok (.iconst 4, 1) := by decide +kernel
theorem dX1_turnOf_1 : decode cX1_turnOf 1 = .ok (.iconst 3, 1) := by decide +kernel
theorem dX1_turnOf_2 : decode cX1_turnOf 2 = .ok (.iload_n 0, 1) := by decide +kernel
theorem dX1_turnOf_3 : decode cX1_turnOf 3 = .ok (.iconst 4, 1) := by decide +kernel
theorem dX1_turnOf_4 : decode cX1_turnOf 4 = .ok (.irem, 1) := by decide +kernel
theorem dX1_turnOf_5 : decode cX1_turnOf 5 = .ok (.isub, 1) := by decide +kernel
theorem dX1_turnOf_6 : decode cX1_turnOf 6 = .ok (.imul, 1) := by decide +kernel
theorem dX1_turnOf_7 : decode cX1_turnOf 7 = .ok (.iload_n 0, 1) := by decide +kernel
theorem dX1_turnOf_8 : decode cX1_turnOf 8 = .ok (.iconst 4, 1) := by decide +kernel
theorem dX1_turnOf_9 : decode cX1_turnOf 9 = .ok (.idiv, 1) := by decide +kernel
theorem dX1_turnOf_10 : decode cX1_turnOf 10 = .ok (.iadd, 1) := by decide +kernel
theorem dX1_turnOf_11 : decode cX1_turnOf 11 = .ok (.ireturn, 1) := by decide +kernel
theorem dX1_turnOfFamily_0 : decode cX1_turnOfFamily 0 = .ok (.iload_n 0, 1) := by decide +kernel
theorem dX1_turnOfFamily_1 : decode cX1_turnOfFamily 1 = .ok (.iconst 0, 1) := by decide +kernel
theorem dX1_turnOfFamily_2 : decode cX1_turnOfFamily 2 = .ok (.invokestatic 9, 3) := by decide +kernel
theorem dX1_turnOfFamily_5 : decode cX1_turnOfFamily 5 = .ok (.invokestatic 15, 3) := by decide +kernel
theorem dX1_turnOfFamily_8 : decode cX1_turnOfFamily 8 = .ok (.invokestatic 19, 3) := by decide +kernel
theorem dX1_turnOfFamily_11 : decode cX1_turnOfFamily 11 = .ok (.ireturn, 1) := by decide +kernel
theorem dX1_farFrom_0 : decode cX1_farFrom 0 = .ok (.iload_n 0, 1) := by decide +kernel
theorem dX1_farFrom_1 : decode cX1_farFrom 1 = .ok (.invokestatic 22, 3) := by decide +kernel
theorem dX1_farFrom_4 : decode cX1_farFrom 4 = .ok (.iload_n 1, 1) := by decide +kernel
theorem dX1_farFrom_5 : decode cX1_farFrom 5 = .ok (.isub, 1) := by decide +kernel
theorem dX1_farFrom_6 : decode cX1_farFrom 6 = .ok (.istore_n 3, 1) := by decide +kernel
theorem dX1_farFrom_7 : decode cX1_farFrom 7 = .ok (.iload_n 0, 1) := by decide +kernel
theorem dX1_farFrom_8 : decode cX1_farFrom 8 = .ok (.invokestatic 25, 3) := by decide +kernel
theorem dX1_farFrom_11 : decode cX1_farFrom 11 = .ok (.iload_n 2, 1) := by decide +kernel
theorem dX1_farFrom_12 : decode cX1_farFrom 12 = .ok (.isub, 1) := by decide +kernel
theorem dX1_farFrom_13 : decode cX1_farFrom 13 = .ok (.istore 4, 2) := by decide +kernel
theorem dX1_farFrom_15 : decode cX1_farFrom 15 = .ok (.iload_n 3, 1) := by decide +kernel
theorem dX1_farFrom_16 : decode cX1_farFrom 16 = .ok (.iload_n 3, 1) := by decide +kernel
theorem dX1_farFrom_17 : decode cX1_farFrom 17 = .ok (.imul, 1) := by decide +kernel
theorem dX1_farFrom_18 : decode cX1_farFrom 18 = .ok (.iload 4, 2) := by decide +kernel
theorem dX1_farFrom_20 : decode cX1_farFrom 20 = .ok (.iload 4, 2) := by decide +kernel
theorem dX1_farFrom_22 : decode cX1_farFrom 22 = .ok (.imul, 1) := by decide +kernel
theorem dX1_farFrom_23 : decode cX1_farFrom 23 = .ok (.iadd, 1) := by decide +kernel
theorem dX1_farFrom_24 : decode cX1_farFrom 24 = .ok (.ireturn, 1) := by decide +kernel
theorem dX1_pointAt_0 : decode cX1_pointAt 0 = .ok (.iconst 0, 1) := by decide +kernel
theorem dX1_pointAt_1 : decode cX1_pointAt 1 = .ok (.istore_n 2, 1) := by decide +kernel
theorem dX1_pointAt_2 : decode cX1_pointAt 2 = .ok (.iconst 1, 1) := by decide +kernel
theorem dX1_pointAt_3 : decode cX1_pointAt 3 = .ok (.istore_n 3, 1) := by decide +kernel
theorem dX1_pointAt_4 : decode cX1_pointAt 4 = .ok (.iload_n 3, 1) := by decide +kernel
theorem dX1_pointAt_5 : decode cX1_pointAt 5 = .ok (.bipush 16, 2) := by decide +kernel
theorem dX1_pointAt_7 : decode cX1_pointAt 7 = .ok (.if_icmp .ge 26, 3) := by decide +kernel
theorem dX1_pointAt_10 : decode cX1_pointAt 10 = .ok (.iload_n 3, 1) := by decide +kernel
theorem dX1_pointAt_11 : decode cX1_pointAt 11 = .ok (.iload_n 0, 1) := by decide +kernel
theorem dX1_pointAt_12 : decode cX1_pointAt 12 = .ok (.iload_n 1, 1) := by decide +kernel
theorem dX1_pointAt_13 : decode cX1_pointAt 13 = .ok (.invokestatic 28, 3) := by decide +kernel
theorem dX1_pointAt_16 : decode cX1_pointAt 16 = .ok (.iload_n 2, 1) := by decide +kernel
theorem dX1_pointAt_17 : decode cX1_pointAt 17 = .ok (.iload_n 0, 1) := by decide +kernel
theorem dX1_pointAt_18 : decode cX1_pointAt 18 = .ok (.iload_n 1, 1) := by decide +kernel
theorem dX1_pointAt_19 : decode cX1_pointAt 19 = .ok (.invokestatic 28, 3) := by decide +kernel
theorem dX1_pointAt_22 : decode cX1_pointAt 22 = .ok (.if_icmp .ge 5, 3) := by decide +kernel
theorem dX1_pointAt_25 : decode cX1_pointAt 25 = .ok (.iload_n 3, 1) := by decide +kernel
theorem dX1_pointAt_26 : decode cX1_pointAt 26 = .ok (.istore_n 2, 1) := by decide +kernel
theorem dX1_pointAt_27 : decode cX1_pointAt 27 = .ok (.iinc 3 1, 3) := by decide +kernel
theorem dX1_pointAt_30 : decode cX1_pointAt 30 = .ok (.goto (-26), 3) := by decide +kernel
theorem dX1_pointAt_33 : decode cX1_pointAt 33 = .ok (.iload_n 2, 1) := by decide +kernel
theorem dX1_pointAt_34 : decode cX1_pointAt 34 = .ok (.ireturn, 1) := by decide +kernel
theorem dX1_gapOf_0 : decode cX1_gapOf 0 = .ok (.ldc 32, 2) := by decide +kernel
theorem dX1_gapOf_2 : decode cX1_gapOf 2 = .ok (.istore_n 2, 1) := by decide +kernel
theorem dX1_gapOf_3 : decode cX1_gapOf 3 = .ok (.iconst 0, 1) := by decide +kernel
theorem dX1_gapOf_4 : decode cX1_gapOf 4 = .ok (.istore_n 3, 1) := by decide +kernel
theorem dX1_gapOf_5 : decode cX1_gapOf 5 = .ok (.iload_n 3, 1) := by decide +kernel
theorem dX1_gapOf_6 : decode cX1_gapOf 6 = .ok (.iconst 4, 1) := by decide +kernel
theorem dX1_gapOf_7 : decode cX1_gapOf 7 = .ok (.if_icmp .ge 66, 3) := by decide +kernel
theorem dX1_gapOf_10 : decode cX1_gapOf 10 = .ok (.iconst 0, 1) := by decide +kernel
theorem dX1_gapOf_11 : decode cX1_gapOf 11 = .ok (.istore 4, 2) := by decide +kernel
theorem dX1_gapOf_13 : decode cX1_gapOf 13 = .ok (.iload 4, 2) := by decide +kernel
theorem dX1_gapOf_15 : decode cX1_gapOf 15 = .ok (.iconst 4, 1) := by decide +kernel
theorem dX1_gapOf_16 : decode cX1_gapOf 16 = .ok (.if_icmp .ge 51, 3) := by decide +kernel
theorem dX1_gapOf_19 : decode cX1_gapOf 19 = .ok (.iload_n 0, 1) := by decide +kernel
theorem dX1_gapOf_20 : decode cX1_gapOf 20 = .ok (.iload_n 3, 1) := by decide +kernel
theorem dX1_gapOf_21 : decode cX1_gapOf 21 = .ok (.invokestatic 9, 3) := by decide +kernel
theorem dX1_gapOf_24 : decode cX1_gapOf 24 = .ok (.istore 5, 2) := by decide +kernel
theorem dX1_gapOf_26 : decode cX1_gapOf 26 = .ok (.iload_n 1, 1) := by decide +kernel
theorem dX1_gapOf_27 : decode cX1_gapOf 27 = .ok (.iload 4, 2) := by decide +kernel
theorem dX1_gapOf_29 : decode cX1_gapOf 29 = .ok (.invokestatic 9, 3) := by decide +kernel
theorem dX1_gapOf_32 : decode cX1_gapOf 32 = .ok (.istore 6, 2) := by decide +kernel
theorem dX1_gapOf_34 : decode cX1_gapOf 34 = .ok (.iload 5, 2) := by decide +kernel
theorem dX1_gapOf_36 : decode cX1_gapOf 36 = .ok (.iload 6, 2) := by decide +kernel
theorem dX1_gapOf_38 : decode cX1_gapOf 38 = .ok (.if_icmp .eq 23, 3) := by decide +kernel
theorem dX1_gapOf_41 : decode cX1_gapOf 41 = .ok (.iload_n 2, 1) := by decide +kernel
theorem dX1_gapOf_42 : decode cX1_gapOf 42 = .ok (.iload 5, 2) := by decide +kernel
theorem dX1_gapOf_44 : decode cX1_gapOf 44 = .ok (.iload 6, 2) := by decide +kernel
theorem dX1_gapOf_46 : decode cX1_gapOf 46 = .ok (.invokestatic 22, 3) := by decide +kernel
theorem dX1_gapOf_49 : decode cX1_gapOf 49 = .ok (.iload 6, 2) := by decide +kernel
theorem dX1_gapOf_51 : decode cX1_gapOf 51 = .ok (.invokestatic 25, 3) := by decide +kernel
theorem dX1_gapOf_54 : decode cX1_gapOf 54 = .ok (.invokestatic 28, 3) := by decide +kernel
theorem dX1_gapOf_57 : decode cX1_gapOf 57 = .ok (.invokestatic 33, 3) := by decide +kernel
theorem dX1_gapOf_60 : decode cX1_gapOf 60 = .ok (.istore_n 2, 1) := by decide +kernel
theorem dX1_gapOf_61 : decode cX1_gapOf 61 = .ok (.iinc 4 1, 3) := by decide +kernel
theorem dX1_gapOf_64 : decode cX1_gapOf 64 = .ok (.goto (-51), 3) := by decide +kernel
theorem dX1_gapOf_67 : decode cX1_gapOf 67 = .ok (.iinc 3 1, 3) := by decide +kernel
theorem dX1_gapOf_70 : decode cX1_gapOf 70 = .ok (.goto (-65), 3) := by decide +kernel
theorem dX1_gapOf_73 : decode cX1_gapOf 73 = .ok (.iload_n 2, 1) := by decide +kernel
theorem dX1_gapOf_74 : decode cX1_gapOf 74 = .ok (.ireturn, 1) := by decide +kernel
end
section
theorem dX2_init_0 : decode cX2_init 0 = .ok (.aload_n 0, 1) := by decide +kernel
theorem dX2_init_1 : decode cX2_init 1 = .ok (.invokespecial 1, 3) := by decide +kernel
theorem dX2_init_4 : decode cX2_init 4 = .ok (.aload_n 0, 1) := by decide +kernel
theorem dX2_init_5 : decode cX2_init 5 = .ok (.iload_n 1, 1) := by decide +kernel
theorem dX2_init_6 : decode cX2_init 6 = .ok (.i2l, 1) := by decide +kernel
theorem dX2_init_7 : decode cX2_init 7 = .ok (.putfield 7, 3) := by decide +kernel
theorem dX2_init_10 : decode cX2_init 10 = .ok (.return_, 1) := by decide +kernel
theorem dX2_draw_0 : decode cX2_draw 0 = .ok (.aload_n 0, 1) := by decide +kernel
theorem dX2_draw_1 : decode cX2_draw 1 = .ok (.aload_n 0, 1) := by decide +kernel
theorem dX2_draw_2 : decode cX2_draw 2 = .ok (.getfield 7, 3) := by decide +kernel
theorem dX2_draw_5 : decode cX2_draw 5 = .ok (.ldc2_w 13, 3) := by decide +kernel
theorem dX2_draw_8 : decode cX2_draw 8 = .ok (.lmul, 1) := by decide +kernel
theorem dX2_draw_9 : decode cX2_draw 9 = .ok (.ldc2_w 15, 3) := by decide +kernel
theorem dX2_draw_12 : decode cX2_draw 12 = .ok (.lrem, 1) := by decide +kernel
theorem dX2_draw_13 : decode cX2_draw 13 = .ok (.putfield 7, 3) := by decide +kernel
theorem dX2_draw_16 : decode cX2_draw 16 = .ok (.iload_n 1, 1) := by decide +kernel
theorem dX2_draw_17 : decode cX2_draw 17 = .ok (.iconst 1, 1) := by decide +kernel
theorem dX2_draw_18 : decode cX2_draw 18 = .ok (.if_icmp .ge 7, 3) := by decide +kernel
theorem dX2_draw_21 : decode cX2_draw 21 = .ok (.iconst 0, 1) := by decide +kernel
theorem dX2_draw_22 : decode cX2_draw 22 = .ok (.goto 11, 3) := by decide +kernel
theorem dX2_draw_25 : decode cX2_draw 25 = .ok (.aload_n 0, 1) := by decide +kernel
theorem dX2_draw_26 : decode cX2_draw 26 = .ok (.getfield 7, 3) := by decide +kernel
theorem dX2_draw_29 : decode cX2_draw 29 = .ok (.iload_n 1, 1) := by decide +kernel
theorem dX2_draw_30 : decode cX2_draw 30 = .ok (.i2l, 1) := by decide +kernel
theorem dX2_draw_31 : decode cX2_draw 31 = .ok (.lrem, 1) := by decide +kernel
theorem dX2_draw_32 : decode cX2_draw 32 = .ok (.l2i, 1) := by decide +kernel
theorem dX2_draw_33 : decode cX2_draw 33 = .ok (.ireturn, 1) := by decide +kernel
end
section
theorem dX3_init_0 : decode cX3_init 0 = .ok (.aload_n 0, 1) := by decide +kernel
theorem dX3_init_1 : decode cX3_init 1 = .ok (.invokespecial 3, 3) := by decide +kernel
theorem dX3_init_4 : decode cX3_init 4 = .ok (.aload_n 0, 1) := by decide +kernel
theorem dX3_init_5 : decode cX3_init 5 = .ok (.new 9, 3) := by decide +kernel
theorem dX3_init_8 : decode cX3_init 8 = .ok (.dup, 1) := by decide +kernel
theorem dX3_init_9 : decode cX3_init 9 = .ok (.invokespecial 11, 3) := by decide +kernel
theorem dX3_init_12 : decode cX3_init 12 = .ok (.putfield 12, 3) := by decide +kernel
theorem dX3_init_15 : decode cX3_init 15 = .ok (.aload_n 0, 1) := by decide +kernel
theorem dX3_init_16 : decode cX3_init 16 = .ok (.new 18, 3) := by decide +kernel
theorem dX3_init_19 : decode cX3_init 19 = .ok (.dup, 1) := by decide +kernel
theorem dX3_init_20 : decode cX3_init 20 = .ok (.invokespecial 20, 3) := by decide +kernel
theorem dX3_init_23 : decode cX3_init 23 = .ok (.putfield 21, 3) := by decide +kernel
theorem dX3_init_26 : decode cX3_init 26 = .ok (.aload_n 0, 1) := by decide +kernel
theorem dX3_init_27 : decode cX3_init 27 = .ok (.new 25, 3) := by decide +kernel
theorem dX3_init_30 : decode cX3_init 30 = .ok (.dup, 1) := by decide +kernel
theorem dX3_init_31 : decode cX3_init 31 = .ok (.invokespecial 27, 3) := by decide +kernel
theorem dX3_init_34 : decode cX3_init 34 = .ok (.putfield 28, 3) := by decide +kernel
theorem dX3_init_37 : decode cX3_init 37 = .ok (.aload_n 0, 1) := by decide +kernel
theorem dX3_init_38 : decode cX3_init 38 = .ok (.iconst (-1), 1) := by decide +kernel
theorem dX3_init_39 : decode cX3_init 39 = .ok (.putfield 32, 3) := by decide +kernel
theorem dX3_init_42 : decode cX3_init 42 = .ok (.return_, 1) := by decide +kernel
theorem dX3_clear_0 : decode cX3_clear 0 = .ok (.aload_n 0, 1) := by decide +kernel
theorem dX3_clear_1 : decode cX3_clear 1 = .ok (.getfield 21, 3) := by decide +kernel
theorem dX3_clear_4 : decode cX3_clear 4 = .ok (.iconst 0, 1) := by decide +kernel
theorem dX3_clear_5 : decode cX3_clear 5 = .ok (.putfield 36, 3) := by decide +kernel
theorem dX3_clear_8 : decode cX3_clear 8 = .ok (.aload_n 0, 1) := by decide +kernel
theorem dX3_clear_9 : decode cX3_clear 9 = .ok (.getfield 28, 3) := by decide +kernel
theorem dX3_clear_12 : decode cX3_clear 12 = .ok (.iconst 0, 1) := by decide +kernel
theorem dX3_clear_13 : decode cX3_clear 13 = .ok (.putfield 39, 3) := by decide +kernel
theorem dX3_clear_16 : decode cX3_clear 16 = .ok (.return_, 1) := by decide +kernel
theorem dX3_become_0 : decode cX3_become 0 = .ok (.aload_n 0, 1) := by decide +kernel
theorem dX3_become_1 : decode cX3_become 1 = .ok (.getfield 12, 3) := by decide +kernel
theorem dX3_become_4 : decode cX3_become 4 = .ok (.aload_n 1, 1) := by decide +kernel
theorem dX3_become_5 : decode cX3_become 5 = .ok (.getfield 12, 3) := by decide +kernel
theorem dX3_become_8 : decode cX3_become 8 = .ok (.getfield 40, 3) := by decide +kernel
theorem dX3_become_11 : decode cX3_become 11 = .ok (.aload_n 1, 1) := by decide +kernel
theorem dX3_become_12 : decode cX3_become 12 = .ok (.getfield 12, 3) := by decide +kernel
theorem dX3_become_15 : decode cX3_become 15 = .ok (.getfield 43, 3) := by decide +kernel
theorem dX3_become_18 : decode cX3_become 18 = .ok (.aload_n 1, 1) := by decide +kernel
theorem dX3_become_19 : decode cX3_become 19 = .ok (.getfield 12, 3) := by decide +kernel
theorem dX3_become_22 : decode cX3_become 22 = .ok (.getfield 46, 3) := by decide +kernel
theorem dX3_become_25 : decode cX3_become 25 = .ok (.invokevirtual 49, 3) := by decide +kernel
theorem dX3_become_28 : decode cX3_become 28 = .ok (.aload_n 0, 1) := by decide +kernel
theorem dX3_become_29 : decode cX3_become 29 = .ok (.getfield 21, 3) := by decide +kernel
theorem dX3_become_32 : decode cX3_become 32 = .ok (.aload_n 1, 1) := by decide +kernel
theorem dX3_become_33 : decode cX3_become 33 = .ok (.getfield 21, 3) := by decide +kernel
theorem dX3_become_36 : decode cX3_become 36 = .ok (.invokevirtual 53, 3) := by decide +kernel
theorem dX3_become_39 : decode cX3_become 39 = .ok (.aload_n 0, 1) := by decide +kernel
theorem dX3_become_40 : decode cX3_become 40 = .ok (.getfield 28, 3) := by decide +kernel
theorem dX3_become_43 : decode cX3_become 43 = .ok (.aload_n 1, 1) := by decide +kernel
theorem dX3_become_44 : decode cX3_become 44 = .ok (.getfield 28, 3) := by decide +kernel
theorem dX3_become_47 : decode cX3_become 47 = .ok (.invokevirtual 57, 3) := by decide +kernel
theorem dX3_become_50 : decode cX3_become 50 = .ok (.aload_n 0, 1) := by decide +kernel
theorem dX3_become_51 : decode cX3_become 51 = .ok (.aload_n 1, 1) := by decide +kernel
theorem dX3_become_52 : decode cX3_become 52 = .ok (.getfield 32, 3) := by decide +kernel
theorem dX3_become_55 : decode cX3_become 55 = .ok (.putfield 32, 3) := by decide +kernel
theorem dX3_become_58 : decode cX3_become 58 = .ok (.return_, 1) := by decide +kernel
end
section
theorem dX4_init_0 : decode cX4_init 0 = .ok (.aload_n 0, 1) := by decide +kernel
theorem dX4_init_1 : decode cX4_init 1 = .ok (.invokespecial 3, 3) := by decide +kernel
theorem dX4_init_4 : decode cX4_init 4 = .ok (.aload_n 0, 1) := by decide +kernel
theorem dX4_init_5 : decode cX4_init 5 = .ok (.bipush 16, 2) := by decide +kernel
theorem dX4_init_7 : decode cX4_init 7 = .ok (.newarray .int, 2) := by decide +kernel
theorem dX4_init_9 : decode cX4_init 9 = .ok (.putfield 9, 3) := by decide +kernel
theorem dX4_init_12 : decode cX4_init 12 = .ok (.aload_n 0, 1) := by decide +kernel
theorem dX4_init_13 : decode cX4_init 13 = .ok (.bipush 64, 2) := by decide +kernel
theorem dX4_init_15 : decode cX4_init 15 = .ok (.newarray .int, 2) := by decide +kernel
theorem dX4_init_17 : decode cX4_init 17 = .ok (.putfield 15, 3) := by decide +kernel
theorem dX4_init_20 : decode cX4_init 20 = .ok (.aload_n 0, 1) := by decide +kernel
theorem dX4_init_21 : decode cX4_init 21 = .ok (.bipush 64, 2) := by decide +kernel
theorem dX4_init_23 : decode cX4_init 23 = .ok (.newarray .int, 2) := by decide +kernel
theorem dX4_init_25 : decode cX4_init 25 = .ok (.putfield 18, 3) := by decide +kernel
theorem dX4_init_28 : decode cX4_init 28 = .ok (.return_, 1) := by decide +kernel
theorem dX4_leastSum_0 : decode cX4_leastSum 0 = .ok (.ldc 21, 2) := by decide +kernel
theorem dX4_leastSum_2 : decode cX4_leastSum 2 = .ok (.istore_n 2, 1) := by decide +kernel
theorem dX4_leastSum_3 : decode cX4_leastSum 3 = .ok (.iconst 0, 1) := by decide +kernel
theorem dX4_leastSum_4 : decode cX4_leastSum 4 = .ok (.istore_n 3, 1) := by decide +kernel
theorem dX4_leastSum_5 : decode cX4_leastSum 5 = .ok (.iload_n 3, 1) := by decide +kernel
theorem dX4_leastSum_6 : decode cX4_leastSum 6 = .ok (.iconst 4, 1) := by decide +kernel
theorem dX4_leastSum_7 : decode cX4_leastSum 7 = .ok (.if_icmp .ge 19, 3) := by decide +kernel
theorem dX4_leastSum_10 : decode cX4_leastSum 10 = .ok (.iload_n 2, 1) := by decide +kernel
theorem dX4_leastSum_11 : decode cX4_leastSum 11 = .ok (.iload_n 3, 1) := by decide +kernel
theorem dX4_leastSum_12 : decode cX4_leastSum 12 = .ok (.iload_n 3, 1) := by decide +kernel
theorem dX4_leastSum_13 : decode cX4_leastSum 13 = .ok (.invokestatic 22, 3) := by decide +kernel
theorem dX4_leastSum_16 : decode cX4_leastSum 16 = .ok (.invokestatic 28, 3) := by decide +kernel
theorem dX4_leastSum_19 : decode cX4_leastSum 19 = .ok (.istore_n 2, 1) := by decide +kernel
theorem dX4_leastSum_20 : decode cX4_leastSum 20 = .ok (.iinc 3 1, 3) := by decide +kernel
theorem dX4_leastSum_23 : decode cX4_leastSum 23 = .ok (.goto (-18), 3) := by decide +kernel
theorem dX4_leastSum_26 : decode cX4_leastSum 26 = .ok (.aload_n 0, 1) := by decide +kernel
theorem dX4_leastSum_27 : decode cX4_leastSum 27 = .ok (.invokevirtual 33, 3) := by decide +kernel
theorem dX4_leastSum_30 : decode cX4_leastSum 30 = .ok (.aload_n 0, 1) := by decide +kernel
theorem dX4_leastSum_31 : decode cX4_leastSum 31 = .ok (.aload_n 1, 1) := by decide +kernel
theorem dX4_leastSum_32 : decode cX4_leastSum 32 = .ok (.invokevirtual 36, 3) := by decide +kernel
theorem dX4_leastSum_35 : decode cX4_leastSum 35 = .ok (.iconst 2, 1) := by decide +kernel
theorem dX4_leastSum_36 : decode cX4_leastSum 36 = .ok (.istore_n 3, 1) := by decide +kernel
theorem dX4_leastSum_37 : decode cX4_leastSum 37 = .ok (.iload_n 3, 1) := by decide +kernel
theorem dX4_leastSum_38 : decode cX4_leastSum 38 = .ok (.bipush 30, 2) := by decide +kernel
theorem dX4_leastSum_40 : decode cX4_leastSum 40 = .ok (.if_icmp .gt 16, 3) := by decide +kernel
theorem dX4_leastSum_43 : decode cX4_leastSum 43 = .ok (.aload_n 0, 1) := by decide +kernel
theorem dX4_leastSum_44 : decode cX4_leastSum 44 = .ok (.aload_n 1, 1) := by decide +kernel
theorem dX4_leastSum_45 : decode cX4_leastSum 45 = .ok (.iload_n 2, 1) := by decide +kernel
theorem dX4_leastSum_46 : decode cX4_leastSum 46 = .ok (.invokevirtual 40, 3) := by decide +kernel
theorem dX4_leastSum_49 : decode cX4_leastSum 49 = .ok (.istore_n 2, 1) := by decide +kernel
theorem dX4_leastSum_50 : decode cX4_leastSum 50 = .ok (.iinc 3 1, 3) := by decide +kernel
theorem dX4_leastSum_53 : decode cX4_leastSum 53 = .ok (.goto (-16), 3) := by decide +kernel
theorem dX4_leastSum_56 : decode cX4_leastSum 56 = .ok (.iload_n 2, 1) := by decide +kernel
theorem dX4_leastSum_57 : decode cX4_leastSum 57 = .ok (.ireturn, 1) := by decide +kernel
theorem dX4_fillGaps_0 : decode cX4_fillGaps 0 = .ok (.iconst 0, 1) := by decide +kernel
theorem dX4_fillGaps_1 : decode cX4_fillGaps 1 = .ok (.istore_n 1, 1) := by decide +kernel
theorem dX4_fillGaps_2 : decode cX4_fillGaps 2 = .ok (.iload_n 1, 1) := by decide +kernel
theorem dX4_fillGaps_3 : decode cX4_fillGaps 3 = .ok (.iconst 4, 1) := by decide +kernel
theorem dX4_fillGaps_4 : decode cX4_fillGaps 4 = .ok (.if_icmp .ge 46, 3) := by decide +kernel
theorem dX4_fillGaps_7 : decode cX4_fillGaps 7 = .ok (.iconst 0, 1) := by decide +kernel
theorem dX4_fillGaps_8 : decode cX4_fillGaps 8 = .ok (.istore_n 2, 1) := by decide +kernel
theorem dX4_fillGaps_9 : decode cX4_fillGaps 9 = .ok (.iload_n 2, 1) := by decide +kernel
theorem dX4_fillGaps_10 : decode cX4_fillGaps 10 = .ok (.iconst 4, 1) := by decide +kernel
theorem dX4_fillGaps_11 : decode cX4_fillGaps 11 = .ok (.if_icmp .ge 33, 3) := by decide +kernel
theorem dX4_fillGaps_14 : decode cX4_fillGaps 14 = .ok (.aload_n 0, 1) := by decide +kernel
theorem dX4_fillGaps_15 : decode cX4_fillGaps 15 = .ok (.getfield 9, 3) := by decide +kernel
theorem dX4_fillGaps_18 : decode cX4_fillGaps 18 = .ok (.iload_n 1, 1) := by decide +kernel
theorem dX4_fillGaps_19 : decode cX4_fillGaps 19 = .ok (.iconst 4, 1) := by decide +kernel
theorem dX4_fillGaps_20 : decode cX4_fillGaps 20 = .ok (.imul, 1) := by decide +kernel
theorem dX4_fillGaps_21 : decode cX4_fillGaps 21 = .ok (.iload_n 2, 1) := by decide +kernel
theorem dX4_fillGaps_22 : decode cX4_fillGaps 22 = .ok (.iadd, 1) := by decide +kernel
theorem dX4_fillGaps_23 : decode cX4_fillGaps 23 = .ok (.iload_n 1, 1) := by decide +kernel
theorem dX4_fillGaps_24 : decode cX4_fillGaps 24 = .ok (.iload_n 2, 1) := by decide +kernel
theorem dX4_fillGaps_25 : decode cX4_fillGaps 25 = .ok (.if_icmp .ne 7, 3) := by decide +kernel
theorem dX4_fillGaps_28 : decode cX4_fillGaps 28 = .ok (.iconst 0, 1) := by decide +kernel
theorem dX4_fillGaps_29 : decode cX4_fillGaps 29 = .ok (.goto 8, 3) := by decide +kernel
theorem dX4_fillGaps_32 : decode cX4_fillGaps 32 = .ok (.iload_n 1, 1) := by decide +kernel
theorem dX4_fillGaps_33 : decode cX4_fillGaps 33 = .ok (.iload_n 2, 1) := by decide +kernel
theorem dX4_fillGaps_34 : decode cX4_fillGaps 34 = .ok (.invokestatic 22, 3) := by decide +kernel
theorem dX4_fillGaps_37 : decode cX4_fillGaps 37 = .ok (.iastore, 1) := by decide +kernel
theorem dX4_fillGaps_38 : decode cX4_fillGaps 38 = .ok (.iinc 2 1, 3) := by decide +kernel
theorem dX4_fillGaps_41 : decode cX4_fillGaps 41 = .ok (.goto (-32), 3) := by decide +kernel
theorem dX4_fillGaps_44 : decode cX4_fillGaps 44 = .ok (.iinc 1 1, 3) := by decide +kernel
theorem dX4_fillGaps_47 : decode cX4_fillGaps 47 = .ok (.goto (-45), 3) := by decide +kernel
theorem dX4_fillGaps_50 : decode cX4_fillGaps 50 = .ok (.return_, 1) := by decide +kernel
theorem dX4_part_0 : decode cX4_part 0 = .ok (.aload_n 0, 1) := by decide +kernel
theorem dX4_part_1 : decode cX4_part 1 = .ok (.getfield 15, 3) := by decide +kernel
theorem dX4_part_4 : decode cX4_part 4 = .ok (.ldc 21, 2) := by decide +kernel
theorem dX4_part_6 : decode cX4_part 6 = .ok (.invokestatic 44, 3) := by decide +kernel
theorem dX4_part_9 : decode cX4_part 9 = .ok (.iconst 0, 1) := by decide +kernel
theorem dX4_part_10 : decode cX4_part 10 = .ok (.istore_n 2, 1) := by decide +kernel
theorem dX4_part_11 : decode cX4_part 11 = .ok (.iload_n 2, 1) := by decide +kernel
theorem dX4_part_12 : decode cX4_part 12 = .ok (.aload_n 1, 1) := by decide +kernel
theorem dX4_part_13 : decode cX4_part 13 = .ok (.invokevirtual 50, 3) := by decide +kernel
theorem dX4_part_16 : decode cX4_part 16 = .ok (.if_icmp .ge 50, 3) := by decide +kernel
theorem dX4_part_19 : decode cX4_part 19 = .ok (.aload_n 1, 1) := by decide +kernel
theorem dX4_part_20 : decode cX4_part 20 = .ok (.iload_n 2, 1) := by decide +kernel
theorem dX4_part_21 : decode cX4_part 21 = .ok (.iconst 0, 1) := by decide +kernel
theorem dX4_part_22 : decode cX4_part 22 = .ok (.invokevirtual 56, 3) := by decide +kernel
theorem dX4_part_25 : decode cX4_part 25 = .ok (.bipush 8, 2) := by decide +kernel
theorem dX4_part_27 : decode cX4_part 27 = .ok (.imul, 1) := by decide +kernel
theorem dX4_part_28 : decode cX4_part 28 = .ok (.aload_n 1, 1) := by decide +kernel
theorem dX4_part_29 : decode cX4_part 29 = .ok (.iload_n 2, 1) := by decide +kernel
theorem dX4_part_30 : decode cX4_part 30 = .ok (.iconst 1, 1) := by decide +kernel
theorem dX4_part_31 : decode cX4_part 31 = .ok (.invokevirtual 56, 3) := by decide +kernel
theorem dX4_part_34 : decode cX4_part 34 = .ok (.iadd, 1) := by decide +kernel
theorem dX4_part_35 : decode cX4_part 35 = .ok (.istore_n 3, 1) := by decide +kernel
theorem dX4_part_36 : decode cX4_part 36 = .ok (.aload_n 0, 1) := by decide +kernel
theorem dX4_part_37 : decode cX4_part 37 = .ok (.getfield 15, 3) := by decide +kernel
theorem dX4_part_40 : decode cX4_part 40 = .ok (.iload_n 3, 1) := by decide +kernel
theorem dX4_part_41 : decode cX4_part 41 = .ok (.aload_n 0, 1) := by decide +kernel
theorem dX4_part_42 : decode cX4_part 42 = .ok (.getfield 15, 3) := by decide +kernel
theorem dX4_part_45 : decode cX4_part 45 = .ok (.iload_n 3, 1) := by decide +kernel
theorem dX4_part_46 : decode cX4_part 46 = .ok (.iaload, 1) := by decide +kernel
theorem dX4_part_47 : decode cX4_part 47 = .ok (.aload_n 0, 1) := by decide +kernel
theorem dX4_part_48 : decode cX4_part 48 = .ok (.aload_n 1, 1) := by decide +kernel
theorem dX4_part_49 : decode cX4_part 49 = .ok (.iload_n 2, 1) := by decide +kernel
theorem dX4_part_50 : decode cX4_part 50 = .ok (.iconst 0, 1) := by decide +kernel
theorem dX4_part_51 : decode cX4_part 51 = .ok (.iload_n 2, 1) := by decide +kernel
theorem dX4_part_52 : decode cX4_part 52 = .ok (.iconst 1, 1) := by decide +kernel
theorem dX4_part_53 : decode cX4_part 53 = .ok (.invokevirtual 59, 3) := by decide +kernel
theorem dX4_part_56 : decode cX4_part 56 = .ok (.invokestatic 28, 3) := by decide +kernel
theorem dX4_part_59 : decode cX4_part 59 = .ok (.iastore, 1) := by decide +kernel
theorem dX4_part_60 : decode cX4_part 60 = .ok (.iinc 2 1, 3) := by decide +kernel
theorem dX4_part_63 : decode cX4_part 63 = .ok (.goto (-52), 3) := by decide +kernel
theorem dX4_part_66 : decode cX4_part 66 = .ok (.return_, 1) := by decide +kernel
theorem dX4_advance_0 : decode cX4_advance 0 = .ok (.aload_n 0, 1) := by decide +kernel
theorem dX4_advance_1 : decode cX4_advance 1 = .ok (.getfield 18, 3) := by decide +kernel
theorem dX4_advance_4 : decode cX4_advance 4 = .ok (.ldc 21, 2) := by decide +kernel
theorem dX4_advance_6 : decode cX4_advance 6 = .ok (.invokestatic 44, 3) := by decide +kernel
theorem dX4_advance_9 : decode cX4_advance 9 = .ok (.iload_n 2, 1) := by decide +kernel
theorem dX4_advance_10 : decode cX4_advance 10 = .ok (.istore_n 3, 1) := by decide +kernel
theorem dX4_advance_11 : decode cX4_advance 11 = .ok (.iconst 0, 1) := by decide +kernel
theorem dX4_advance_12 : decode cX4_advance 12 = .ok (.istore 4, 2) := by decide +kernel
theorem dX4_advance_14 : decode cX4_advance 14 = .ok (.iload 4, 2) := by decide +kernel
theorem dX4_advance_16 : decode cX4_advance 16 = .ok (.aload_n 1, 1) := by decide +kernel
theorem dX4_advance_17 : decode cX4_advance 17 = .ok (.invokevirtual 50, 3) := by decide +kernel
theorem dX4_advance_20 : decode cX4_advance 20 = .ok (.if_icmp .ge 58, 3) := by decide +kernel
theorem dX4_advance_23 : decode cX4_advance 23 = .ok (.iconst 0, 1) := by decide +kernel
theorem dX4_advance_24 : decode cX4_advance 24 = .ok (.istore 5, 2) := by decide +kernel
theorem dX4_advance_26 : decode cX4_advance 26 = .ok (.iload 5, 2) := by decide +kernel
theorem dX4_advance_28 : decode cX4_advance 28 = .ok (.aload_n 1, 1) := by decide +kernel
theorem dX4_advance_29 : decode cX4_advance 29 = .ok (.invokevirtual 50, 3) := by decide +kernel
theorem dX4_advance_32 : decode cX4_advance 32 = .ok (.if_icmp .ge 40, 3) := by decide +kernel
theorem dX4_advance_35 : decode cX4_advance 35 = .ok (.aload_n 0, 1) := by decide +kernel
theorem dX4_advance_36 : decode cX4_advance 36 = .ok (.getfield 15, 3) := by decide +kernel
theorem dX4_advance_39 : decode cX4_advance 39 = .ok (.iload 4, 2) := by decide +kernel
theorem dX4_advance_41 : decode cX4_advance 41 = .ok (.bipush 8, 2) := by decide +kernel
theorem dX4_advance_43 : decode cX4_advance 43 = .ok (.imul, 1) := by decide +kernel
theorem dX4_advance_44 : decode cX4_advance 44 = .ok (.iload 5, 2) := by decide +kernel
theorem dX4_advance_46 : decode cX4_advance 46 = .ok (.iadd, 1) := by decide +kernel
theorem dX4_advance_47 : decode cX4_advance 47 = .ok (.iaload, 1) := by decide +kernel
theorem dX4_advance_48 : decode cX4_advance 48 = .ok (.iload_n 3, 1) := by decide +kernel
theorem dX4_advance_49 : decode cX4_advance 49 = .ok (.if_icmp .ge 17, 3) := by decide +kernel
theorem dX4_advance_52 : decode cX4_advance 52 = .ok (.iload_n 3, 1) := by decide +kernel
theorem dX4_advance_53 : decode cX4_advance 53 = .ok (.aload_n 0, 1) := by decide +kernel
theorem dX4_advance_54 : decode cX4_advance 54 = .ok (.aload_n 1, 1) := by decide +kernel
theorem dX4_advance_55 : decode cX4_advance 55 = .ok (.iload 4, 2) := by decide +kernel
theorem dX4_advance_57 : decode cX4_advance 57 = .ok (.iload 5, 2) := by decide +kernel
theorem dX4_advance_59 : decode cX4_advance 59 = .ok (.invokevirtual 63, 3) := by decide +kernel
theorem dX4_advance_62 : decode cX4_advance 62 = .ok (.invokestatic 28, 3) := by decide +kernel
theorem dX4_advance_65 : decode cX4_advance 65 = .ok (.istore_n 3, 1) := by decide +kernel
theorem dX4_advance_66 : decode cX4_advance 66 = .ok (.iinc 5 1, 3) := by decide +kernel
theorem dX4_advance_69 : decode cX4_advance 69 = .ok (.goto (-43), 3) := by decide +kernel
theorem dX4_advance_72 : decode cX4_advance 72 = .ok (.iinc 4 1, 3) := by decide +kernel
theorem dX4_advance_75 : decode cX4_advance 75 = .ok (.goto (-61), 3) := by decide +kernel
theorem dX4_advance_78 : decode cX4_advance 78 = .ok (.aload_n 0, 1) := by decide +kernel
theorem dX4_advance_79 : decode cX4_advance 79 = .ok (.getfield 18, 3) := by decide +kernel
theorem dX4_advance_82 : decode cX4_advance 82 = .ok (.iconst 0, 1) := by decide +kernel
theorem dX4_advance_83 : decode cX4_advance 83 = .ok (.aload_n 0, 1) := by decide +kernel
theorem dX4_advance_84 : decode cX4_advance 84 = .ok (.getfield 15, 3) := by decide +kernel
theorem dX4_advance_87 : decode cX4_advance 87 = .ok (.iconst 0, 1) := by decide +kernel
theorem dX4_advance_88 : decode cX4_advance 88 = .ok (.aload_n 0, 1) := by decide +kernel
theorem dX4_advance_89 : decode cX4_advance 89 = .ok (.getfield 15, 3) := by decide +kernel
theorem dX4_advance_92 : decode cX4_advance 92 = .ok (.arraylength, 1) := by decide +kernel
theorem dX4_advance_93 : decode cX4_advance 93 = .ok (.invokestatic 67, 3) := by decide +kernel
theorem dX4_advance_96 : decode cX4_advance 96 = .ok (.iload_n 3, 1) := by decide +kernel
theorem dX4_advance_97 : decode cX4_advance 97 = .ok (.ireturn, 1) := by decide +kernel
theorem dX4_advancePair_0 : decode cX4_advancePair 0 = .ok (.ldc 21, 2) := by decide +kernel
theorem dX4_advancePair_2 : decode cX4_advancePair 2 = .ok (.istore 4, 2) := by decide +kernel
theorem dX4_advancePair_4 : decode cX4_advancePair 4 = .ok (.iconst 0, 1) := by decide +kernel
theorem dX4_advancePair_5 : decode cX4_advancePair 5 = .ok (.istore 5, 2) := by decide +kernel
theorem dX4_advancePair_7 : decode cX4_advancePair 7 = .ok (.iload 5, 2) := by decide +kernel
theorem dX4_advancePair_9 : decode cX4_advancePair 9 = .ok (.iconst 2, 1) := by decide +kernel
theorem dX4_advancePair_10 : decode cX4_advancePair 10 = .ok (.if_icmp .ge 115, 3) := by decide +kernel
theorem dX4_advancePair_13 : decode cX4_advancePair 13 = .ok (.iconst 0, 1) := by decide +kernel
theorem dX4_advancePair_14 : decode cX4_advancePair 14 = .ok (.istore 6, 2) := by decide +kernel
theorem dX4_advancePair_16 : decode cX4_advancePair 16 = .ok (.iload 6, 2) := by decide +kernel
theorem dX4_advancePair_18 : decode cX4_advancePair 18 = .ok (.iconst 2, 1) := by decide +kernel
theorem dX4_advancePair_19 : decode cX4_advancePair 19 = .ok (.if_icmp .ge 100, 3) := by decide +kernel
theorem dX4_advancePair_22 : decode cX4_advancePair 22 = .ok (.aload_n 0, 1) := by decide +kernel
theorem dX4_advancePair_23 : decode cX4_advancePair 23 = .ok (.getfield 15, 3) := by decide +kernel
theorem dX4_advancePair_26 : decode cX4_advancePair 26 = .ok (.iload_n 2, 1) := by decide +kernel
theorem dX4_advancePair_27 : decode cX4_advancePair 27 = .ok (.bipush 8, 2) := by decide +kernel
theorem dX4_advancePair_29 : decode cX4_advancePair 29 = .ok (.imul, 1) := by decide +kernel
theorem dX4_advancePair_30 : decode cX4_advancePair 30 = .ok (.iload_n 3, 1) := by decide +kernel
theorem dX4_advancePair_31 : decode cX4_advancePair 31 = .ok (.iadd, 1) := by decide +kernel
theorem dX4_advancePair_32 : decode cX4_advancePair 32 = .ok (.iaload, 1) := by decide +kernel
theorem dX4_advancePair_33 : decode cX4_advancePair 33 = .ok (.aload_n 0, 1) := by decide +kernel
theorem dX4_advancePair_34 : decode cX4_advancePair 34 = .ok (.aload_n 1, 1) := by decide +kernel
theorem dX4_advancePair_35 : decode cX4_advancePair 35 = .ok (.iload_n 2, 1) := by decide +kernel
theorem dX4_advancePair_36 : decode cX4_advancePair 36 = .ok (.iload 5, 2) := by decide +kernel
theorem dX4_advancePair_38 : decode cX4_advancePair 38 = .ok (.iload_n 3, 1) := by decide +kernel
theorem dX4_advancePair_39 : decode cX4_advancePair 39 = .ok (.iload 6, 2) := by decide +kernel
theorem dX4_advancePair_41 : decode cX4_advancePair 41 = .ok (.invokevirtual 59, 3) := by decide +kernel
theorem dX4_advancePair_44 : decode cX4_advancePair 44 = .ok (.iadd, 1) := by decide +kernel
theorem dX4_advancePair_45 : decode cX4_advancePair 45 = .ok (.istore 7, 2) := by decide +kernel
theorem dX4_advancePair_47 : decode cX4_advancePair 47 = .ok (.aload_n 1, 1) := by decide +kernel
theorem dX4_advancePair_48 : decode cX4_advancePair 48 = .ok (.iload_n 2, 1) := by decide +kernel
theorem dX4_advancePair_49 : decode cX4_advancePair 49 = .ok (.iload 5, 2) := by decide +kernel
theorem dX4_advancePair_51 : decode cX4_advancePair 51 = .ok (.invokevirtual 56, 3) := by decide +kernel
theorem dX4_advancePair_54 : decode cX4_advancePair 54 = .ok (.istore 8, 2) := by decide +kernel
theorem dX4_advancePair_56 : decode cX4_advancePair 56 = .ok (.aload_n 1, 1) := by decide +kernel
theorem dX4_advancePair_57 : decode cX4_advancePair 57 = .ok (.iload_n 3, 1) := by decide +kernel
theorem dX4_advancePair_58 : decode cX4_advancePair 58 = .ok (.iload 6, 2) := by decide +kernel
theorem dX4_advancePair_60 : decode cX4_advancePair 60 = .ok (.invokevirtual 56, 3) := by decide +kernel
theorem dX4_advancePair_63 : decode cX4_advancePair 63 = .ok (.istore 9, 2) := by decide +kernel
theorem dX4_advancePair_65 : decode cX4_advancePair 65 = .ok (.iload 8, 2) := by decide +kernel
theorem dX4_advancePair_67 : decode cX4_advancePair 67 = .ok (.iload 9, 2) := by decide +kernel
theorem dX4_advancePair_69 : decode cX4_advancePair 69 = .ok (.if_icmp .ne 15, 3) := by decide +kernel
theorem dX4_advancePair_72 : decode cX4_advancePair 72 = .ok (.iload 4, 2) := by decide +kernel
theorem dX4_advancePair_74 : decode cX4_advancePair 74 = .ok (.iload 7, 2) := by decide +kernel
theorem dX4_advancePair_76 : decode cX4_advancePair 76 = .ok (.invokestatic 28, 3) := by decide +kernel
theorem dX4_advancePair_79 : decode cX4_advancePair 79 = .ok (.istore 4, 2) := by decide +kernel
theorem dX4_advancePair_81 : decode cX4_advancePair 81 = .ok (.goto 32, 3) := by decide +kernel
theorem dX4_advancePair_84 : decode cX4_advancePair 84 = .ok (.iload 8, 2) := by decide +kernel
theorem dX4_advancePair_86 : decode cX4_advancePair 86 = .ok (.bipush 8, 2) := by decide +kernel
theorem dX4_advancePair_88 : decode cX4_advancePair 88 = .ok (.imul, 1) := by decide +kernel
theorem dX4_advancePair_89 : decode cX4_advancePair 89 = .ok (.iload 9, 2) := by decide +kernel
theorem dX4_advancePair_91 : decode cX4_advancePair 91 = .ok (.iadd, 1) := by decide +kernel
theorem dX4_advancePair_92 : decode cX4_advancePair 92 = .ok (.istore 10, 2) := by decide +kernel
theorem dX4_advancePair_94 : decode cX4_advancePair 94 = .ok (.aload_n 0, 1) := by decide +kernel
theorem dX4_advancePair_95 : decode cX4_advancePair 95 = .ok (.getfield 18, 3) := by decide +kernel
theorem dX4_advancePair_98 : decode cX4_advancePair 98 = .ok (.iload 10, 2) := by decide +kernel
theorem dX4_advancePair_100 : decode cX4_advancePair 100 = .ok (.aload_n 0, 1) := by decide +kernel
theorem dX4_advancePair_101 : decode cX4_advancePair 101 = .ok (.getfield 18, 3) := by decide +kernel
theorem dX4_advancePair_104 : decode cX4_advancePair 104 = .ok (.iload 10, 2) := by decide +kernel
theorem dX4_advancePair_106 : decode cX4_advancePair 106 = .ok (.iaload, 1) := by decide +kernel
theorem dX4_advancePair_107 : decode cX4_advancePair 107 = .ok (.iload 7, 2) := by decide +kernel
theorem dX4_advancePair_109 : decode cX4_advancePair 109 = .ok (.invokestatic 28, 3) := by decide +kernel
theorem dX4_advancePair_112 : decode cX4_advancePair 112 = .ok (.iastore, 1) := by decide +kernel
theorem dX4_advancePair_113 : decode cX4_advancePair 113 = .ok (.iinc 6 1, 3) := by decide +kernel
theorem dX4_advancePair_116 : decode cX4_advancePair 116 = .ok (.goto (-100), 3) := by decide +kernel
theorem dX4_advancePair_119 : decode cX4_advancePair 119 = .ok (.iinc 5 1, 3) := by decide +kernel
theorem dX4_advancePair_122 : decode cX4_advancePair 122 = .ok (.goto (-115), 3) := by decide +kernel
theorem dX4_advancePair_125 : decode cX4_advancePair 125 = .ok (.iload 4, 2) := by decide +kernel
theorem dX4_advancePair_127 : decode cX4_advancePair 127 = .ok (.ireturn, 1) := by decide +kernel
theorem dX4_gapOfSteps_0 : decode cX4_gapOfSteps 0 = .ok (.aload_n 0, 1) := by decide +kernel
theorem dX4_gapOfSteps_1 : decode cX4_gapOfSteps 1 = .ok (.getfield 9, 3) := by decide +kernel
theorem dX4_gapOfSteps_4 : decode cX4_gapOfSteps 4 = .ok (.aload_n 1, 1) := by decide +kernel
theorem dX4_gapOfSteps_5 : decode cX4_gapOfSteps 5 = .ok (.iload_n 2, 1) := by decide +kernel
theorem dX4_gapOfSteps_6 : decode cX4_gapOfSteps 6 = .ok (.iload_n 3, 1) := by decide +kernel
theorem dX4_gapOfSteps_7 : decode cX4_gapOfSteps 7 = .ok (.invokevirtual 73, 3) := by decide +kernel
theorem dX4_gapOfSteps_10 : decode cX4_gapOfSteps 10 = .ok (.iconst 4, 1) := by decide +kernel
theorem dX4_gapOfSteps_11 : decode cX4_gapOfSteps 11 = .ok (.imul, 1) := by decide +kernel
theorem dX4_gapOfSteps_12 : decode cX4_gapOfSteps 12 = .ok (.aload_n 1, 1) := by decide +kernel
theorem dX4_gapOfSteps_13 : decode cX4_gapOfSteps 13 = .ok (.iload 4, 2) := by decide +kernel
theorem dX4_gapOfSteps_15 : decode cX4_gapOfSteps 15 = .ok (.iload 5, 2) := by decide +kernel
theorem dX4_gapOfSteps_17 : decode cX4_gapOfSteps 17 = .ok (.invokevirtual 73, 3) := by decide +kernel
theorem dX4_gapOfSteps_20 : decode cX4_gapOfSteps 20 = .ok (.iadd, 1) := by decide +kernel
theorem dX4_gapOfSteps_21 : decode cX4_gapOfSteps 21 = .ok (.iaload, 1) := by decide +kernel
theorem dX4_gapOfSteps_22 : decode cX4_gapOfSteps 22 = .ok (.ireturn, 1) := by decide +kernel
end
section
theorem dX5_init_0 : decode cX5_init 0 = .ok (.aload_n 0, 1) := by decide +kernel
theorem dX5_init_1 : decode cX5_init 1 = .ok (.invokespecial 3, 3) := by decide +kernel
theorem dX5_init_4 : decode cX5_init 4 = .ok (.aload_n 0, 1) := by decide +kernel
theorem dX5_init_5 : decode cX5_init 5 = .ok (.bipush 8, 2) := by decide +kernel
theorem dX5_init_7 : decode cX5_init 7 = .ok (.anewarray 9, 3) := by decide +kernel
theorem dX5_init_10 : decode cX5_init 10 = .ok (.putfield 11, 3) := by decide +kernel
theorem dX5_init_13 : decode cX5_init 13 = .ok (.iconst 0, 1) := by decide +kernel
theorem dX5_init_14 : decode cX5_init 14 = .ok (.istore_n 1, 1) := by decide +kernel
theorem dX5_init_15 : decode cX5_init 15 = .ok (.iload_n 1, 1) := by decide +kernel
theorem dX5_init_16 : decode cX5_init 16 = .ok (.bipush 8, 2) := by decide +kernel
theorem dX5_init_18 : decode cX5_init 18 = .ok (.if_icmp .ge 22, 3) := by decide +kernel
theorem dX5_init_21 : decode cX5_init 21 = .ok (.aload_n 0, 1) := by decide +kernel
theorem dX5_init_22 : decode cX5_init 22 = .ok (.getfield 11, 3) := by decide +kernel
theorem dX5_init_25 : decode cX5_init 25 = .ok (.iload_n 1, 1) := by decide +kernel
theorem dX5_init_26 : decode cX5_init 26 = .ok (.new 9, 3) := by decide +kernel
theorem dX5_init_29 : decode cX5_init 29 = .ok (.dup, 1) := by decide +kernel
theorem dX5_init_30 : decode cX5_init 30 = .ok (.invokespecial 17, 3) := by decide +kernel
theorem dX5_init_33 : decode cX5_init 33 = .ok (.aastore, 1) := by decide +kernel
theorem dX5_init_34 : decode cX5_init 34 = .ok (.iinc 1 1, 3) := by decide +kernel
theorem dX5_init_37 : decode cX5_init 37 = .ok (.goto (-22), 3) := by decide +kernel
theorem dX5_init_40 : decode cX5_init 40 = .ok (.return_, 1) := by decide +kernel
theorem dX5_push_0 : decode cX5_push 0 = .ok (.aload_n 0, 1) := by decide +kernel
theorem dX5_push_1 : decode cX5_push 1 = .ok (.getfield 11, 3) := by decide +kernel
theorem dX5_push_4 : decode cX5_push 4 = .ok (.aload_n 0, 1) := by decide +kernel
theorem dX5_push_5 : decode cX5_push 5 = .ok (.getfield 18, 3) := by decide +kernel
theorem dX5_push_8 : decode cX5_push 8 = .ok (.aload_n 0, 1) := by decide +kernel
theorem dX5_push_9 : decode cX5_push 9 = .ok (.getfield 22, 3) := by decide +kernel
theorem dX5_push_12 : decode cX5_push 12 = .ok (.iadd, 1) := by decide +kernel
theorem dX5_push_13 : decode cX5_push 13 = .ok (.bipush 8, 2) := by decide +kernel
theorem dX5_push_15 : decode cX5_push 15 = .ok (.irem, 1) := by decide +kernel
theorem dX5_push_16 : decode cX5_push 16 = .ok (.aaload, 1) := by decide +kernel
theorem dX5_push_17 : decode cX5_push 17 = .ok (.aload_n 1, 1) := by decide +kernel
theorem dX5_push_18 : decode cX5_push 18 = .ok (.invokevirtual 25, 3) := by decide +kernel
theorem dX5_push_21 : decode cX5_push 21 = .ok (.aload_n 0, 1) := by decide +kernel
theorem dX5_push_22 : decode cX5_push 22 = .ok (.getfield 22, 3) := by decide +kernel
theorem dX5_push_25 : decode cX5_push 25 = .ok (.bipush 8, 2) := by decide +kernel
theorem dX5_push_27 : decode cX5_push 27 = .ok (.if_icmp .ge 16, 3) := by decide +kernel
theorem dX5_push_30 : decode cX5_push 30 = .ok (.aload_n 0, 1) := by decide +kernel
theorem dX5_push_31 : decode cX5_push 31 = .ok (.dup, 1) := by decide +kernel
theorem dX5_push_32 : decode cX5_push 32 = .ok (.getfield 22, 3) := by decide +kernel
theorem dX5_push_35 : decode cX5_push 35 = .ok (.iconst 1, 1) := by decide +kernel
theorem dX5_push_36 : decode cX5_push 36 = .ok (.iadd, 1) := by decide +kernel
theorem dX5_push_37 : decode cX5_push 37 = .ok (.putfield 22, 3) := by decide +kernel
theorem dX5_push_40 : decode cX5_push 40 = .ok (.goto 16, 3) := by decide +kernel
theorem dX5_push_43 : decode cX5_push 43 = .ok (.aload_n 0, 1) := by decide +kernel
theorem dX5_push_44 : decode cX5_push 44 = .ok (.aload_n 0, 1) := by decide +kernel
theorem dX5_push_45 : decode cX5_push 45 = .ok (.getfield 18, 3) := by decide +kernel
theorem dX5_push_48 : decode cX5_push 48 = .ok (.iconst 1, 1) := by decide +kernel
theorem dX5_push_49 : decode cX5_push 49 = .ok (.iadd, 1) := by decide +kernel
theorem dX5_push_50 : decode cX5_push 50 = .ok (.bipush 8, 2) := by decide +kernel
theorem dX5_push_52 : decode cX5_push 52 = .ok (.irem, 1) := by decide +kernel
theorem dX5_push_53 : decode cX5_push 53 = .ok (.putfield 18, 3) := by decide +kernel
theorem dX5_push_56 : decode cX5_push 56 = .ok (.return_, 1) := by decide +kernel
theorem dX5_popInto_0 : decode cX5_popInto 0 = .ok (.aload_n 0, 1) := by decide +kernel
theorem dX5_popInto_1 : decode cX5_popInto 1 = .ok (.getfield 22, 3) := by decide +kernel
theorem dX5_popInto_4 : decode cX5_popInto 4 = .ok (.ifCond .ne 4, 3) := by decide +kernel
theorem dX5_popInto_7 : decode cX5_popInto 7 = .ok (.return_, 1) := by decide +kernel
theorem dX5_popInto_8 : decode cX5_popInto 8 = .ok (.aload_n 0, 1) := by decide +kernel
theorem dX5_popInto_9 : decode cX5_popInto 9 = .ok (.dup, 1) := by decide +kernel
theorem dX5_popInto_10 : decode cX5_popInto 10 = .ok (.getfield 22, 3) := by decide +kernel
theorem dX5_popInto_13 : decode cX5_popInto 13 = .ok (.iconst 1, 1) := by decide +kernel
theorem dX5_popInto_14 : decode cX5_popInto 14 = .ok (.isub, 1) := by decide +kernel
theorem dX5_popInto_15 : decode cX5_popInto 15 = .ok (.putfield 22, 3) := by decide +kernel
theorem dX5_popInto_18 : decode cX5_popInto 18 = .ok (.aload_n 1, 1) := by decide +kernel
theorem dX5_popInto_19 : decode cX5_popInto 19 = .ok (.aload_n 0, 1) := by decide +kernel
theorem dX5_popInto_20 : decode cX5_popInto 20 = .ok (.getfield 11, 3) := by decide +kernel
theorem dX5_popInto_23 : decode cX5_popInto 23 = .ok (.aload_n 0, 1) := by decide +kernel
theorem dX5_popInto_24 : decode cX5_popInto 24 = .ok (.getfield 18, 3) := by decide +kernel
theorem dX5_popInto_27 : decode cX5_popInto 27 = .ok (.aload_n 0, 1) := by decide +kernel
theorem dX5_popInto_28 : decode cX5_popInto 28 = .ok (.getfield 22, 3) := by decide +kernel
theorem dX5_popInto_31 : decode cX5_popInto 31 = .ok (.iadd, 1) := by decide +kernel
theorem dX5_popInto_32 : decode cX5_popInto 32 = .ok (.bipush 8, 2) := by decide +kernel
theorem dX5_popInto_34 : decode cX5_popInto 34 = .ok (.irem, 1) := by decide +kernel
theorem dX5_popInto_35 : decode cX5_popInto 35 = .ok (.aaload, 1) := by decide +kernel
theorem dX5_popInto_36 : decode cX5_popInto 36 = .ok (.invokevirtual 25, 3) := by decide +kernel
theorem dX5_popInto_39 : decode cX5_popInto 39 = .ok (.return_, 1) := by decide +kernel
theorem dX5_forget_0 : decode cX5_forget 0 = .ok (.aload_n 0, 1) := by decide +kernel
theorem dX5_forget_1 : decode cX5_forget 1 = .ok (.iconst 0, 1) := by decide +kernel
theorem dX5_forget_2 : decode cX5_forget 2 = .ok (.putfield 22, 3) := by decide +kernel
theorem dX5_forget_5 : decode cX5_forget 5 = .ok (.return_, 1) := by decide +kernel
end
section
theorem dX6_init_0 : decode cX6_init 0 = .ok (.aload_n 0, 1) := by decide +kernel
theorem dX6_init_1 : decode cX6_init 1 = .ok (.invokespecial 3, 3) := by decide +kernel
theorem dX6_init_4 : decode cX6_init 4 = .ok (.aload_n 0, 1) := by decide +kernel
theorem dX6_init_5 : decode cX6_init 5 = .ok (.bipush 24, 2) := by decide +kernel
theorem dX6_init_7 : decode cX6_init 7 = .ok (.newarray .int, 2) := by decide +kernel
theorem dX6_init_9 : decode cX6_init 9 = .ok (.putfield 9, 3) := by decide +kernel
theorem dX6_init_12 : decode cX6_init 12 = .ok (.aload_n 0, 1) := by decide +kernel
theorem dX6_init_13 : decode cX6_init 13 = .ok (.bipush 24, 2) := by decide +kernel
theorem dX6_init_15 : decode cX6_init 15 = .ok (.newarray .int, 2) := by decide +kernel
theorem dX6_init_17 : decode cX6_init 17 = .ok (.putfield 15, 3) := by decide +kernel
theorem dX6_init_20 : decode cX6_init 20 = .ok (.return_, 1) := by decide +kernel
theorem dX6_isFull_0 : decode cX6_isFull 0 = .ok (.aload_n 0, 1) := by decide +kernel
theorem dX6_isFull_1 : decode cX6_isFull 1 = .ok (.getfield 18, 3) := by decide +kernel
theorem dX6_isFull_4 : decode cX6_isFull 4 = .ok (.bipush 24, 2) := by decide +kernel
theorem dX6_isFull_6 : decode cX6_isFull 6 = .ok (.if_icmp .lt 7, 3) := by decide +kernel
theorem dX6_isFull_9 : decode cX6_isFull 9 = .ok (.iconst 1, 1) := by decide +kernel
theorem dX6_isFull_10 : decode cX6_isFull 10 = .ok (.goto 4, 3) := by decide +kernel
theorem dX6_isFull_13 : decode cX6_isFull 13 = .ok (.iconst 0, 1) := by decide +kernel
theorem dX6_isFull_14 : decode cX6_isFull 14 = .ok (.ireturn, 1) := by decide +kernel
theorem dX6_append_0 : decode cX6_append 0 = .ok (.aload_n 0, 1) := by decide +kernel
theorem dX6_append_1 : decode cX6_append 1 = .ok (.invokevirtual 22, 3) := by decide +kernel
theorem dX6_append_4 : decode cX6_append 4 = .ok (.ifCond .eq 4, 3) := by decide +kernel
theorem dX6_append_7 : decode cX6_append 7 = .ok (.return_, 1) := by decide +kernel
theorem dX6_append_8 : decode cX6_append 8 = .ok (.aload_n 0, 1) := by decide +kernel
theorem dX6_append_9 : decode cX6_append 9 = .ok (.getfield 9, 3) := by decide +kernel
theorem dX6_append_12 : decode cX6_append 12 = .ok (.aload_n 0, 1) := by decide +kernel
theorem dX6_append_13 : decode cX6_append 13 = .ok (.getfield 18, 3) := by decide +kernel
theorem dX6_append_16 : decode cX6_append 16 = .ok (.iload_n 1, 1) := by decide +kernel
theorem dX6_append_17 : decode cX6_append 17 = .ok (.iastore, 1) := by decide +kernel
theorem dX6_append_18 : decode cX6_append 18 = .ok (.aload_n 0, 1) := by decide +kernel
theorem dX6_append_19 : decode cX6_append 19 = .ok (.getfield 15, 3) := by decide +kernel
theorem dX6_append_22 : decode cX6_append 22 = .ok (.aload_n 0, 1) := by decide +kernel
theorem dX6_append_23 : decode cX6_append 23 = .ok (.getfield 18, 3) := by decide +kernel
theorem dX6_append_26 : decode cX6_append 26 = .ok (.iload_n 2, 1) := by decide +kernel
theorem dX6_append_27 : decode cX6_append 27 = .ok (.iastore, 1) := by decide +kernel
theorem dX6_append_28 : decode cX6_append 28 = .ok (.aload_n 0, 1) := by decide +kernel
theorem dX6_append_29 : decode cX6_append 29 = .ok (.dup, 1) := by decide +kernel
theorem dX6_append_30 : decode cX6_append 30 = .ok (.getfield 18, 3) := by decide +kernel
theorem dX6_append_33 : decode cX6_append 33 = .ok (.iconst 1, 1) := by decide +kernel
theorem dX6_append_34 : decode cX6_append 34 = .ok (.iadd, 1) := by decide +kernel
theorem dX6_append_35 : decode cX6_append 35 = .ok (.putfield 18, 3) := by decide +kernel
theorem dX6_append_38 : decode cX6_append 38 = .ok (.return_, 1) := by decide +kernel
theorem dX6_become_0 : decode cX6_become 0 = .ok (.aload_n 0, 1) := by decide +kernel
theorem dX6_become_1 : decode cX6_become 1 = .ok (.aload_n 1, 1) := by decide +kernel
theorem dX6_become_2 : decode cX6_become 2 = .ok (.getfield 18, 3) := by decide +kernel
theorem dX6_become_5 : decode cX6_become 5 = .ok (.putfield 18, 3) := by decide +kernel
theorem dX6_become_8 : decode cX6_become 8 = .ok (.aload_n 1, 1) := by decide +kernel
theorem dX6_become_9 : decode cX6_become 9 = .ok (.getfield 9, 3) := by decide +kernel
theorem dX6_become_12 : decode cX6_become 12 = .ok (.iconst 0, 1) := by decide +kernel
theorem dX6_become_13 : decode cX6_become 13 = .ok (.aload_n 0, 1) := by decide +kernel
theorem dX6_become_14 : decode cX6_become 14 = .ok (.getfield 9, 3) := by decide +kernel
theorem dX6_become_17 : decode cX6_become 17 = .ok (.iconst 0, 1) := by decide +kernel
theorem dX6_become_18 : decode cX6_become 18 = .ok (.aload_n 0, 1) := by decide +kernel
theorem dX6_become_19 : decode cX6_become 19 = .ok (.getfield 18, 3) := by decide +kernel
theorem dX6_become_22 : decode cX6_become 22 = .ok (.invokestatic 26, 3) := by decide +kernel
theorem dX6_become_25 : decode cX6_become 25 = .ok (.aload_n 1, 1) := by decide +kernel
theorem dX6_become_26 : decode cX6_become 26 = .ok (.getfield 15, 3) := by decide +kernel
theorem dX6_become_29 : decode cX6_become 29 = .ok (.iconst 0, 1) := by decide +kernel
theorem dX6_become_30 : decode cX6_become 30 = .ok (.aload_n 0, 1) := by decide +kernel
theorem dX6_become_31 : decode cX6_become 31 = .ok (.getfield 15, 3) := by decide +kernel
theorem dX6_become_34 : decode cX6_become 34 = .ok (.iconst 0, 1) := by decide +kernel
theorem dX6_become_35 : decode cX6_become 35 = .ok (.aload_n 0, 1) := by decide +kernel
theorem dX6_become_36 : decode cX6_become 36 = .ok (.getfield 18, 3) := by decide +kernel
theorem dX6_become_39 : decode cX6_become 39 = .ok (.invokestatic 26, 3) := by decide +kernel
theorem dX6_become_42 : decode cX6_become 42 = .ok (.return_, 1) := by decide +kernel
end
section
theorem dX7_init_0 : decode cX7_init 0 = .ok (.aload_n 0, 1) := by decide +kernel
theorem dX7_init_1 : decode cX7_init 1 = .ok (.invokespecial 3, 3) := by decide +kernel
theorem dX7_init_4 : decode cX7_init 4 = .ok (.aload_n 0, 1) := by decide +kernel
theorem dX7_init_5 : decode cX7_init 5 = .ok (.bipush 24, 2) := by decide +kernel
theorem dX7_init_7 : decode cX7_init 7 = .ok (.newarray .int, 2) := by decide +kernel
theorem dX7_init_9 : decode cX7_init 9 = .ok (.putfield 9, 3) := by decide +kernel
theorem dX7_init_12 : decode cX7_init 12 = .ok (.aload_n 0, 1) := by decide +kernel
theorem dX7_init_13 : decode cX7_init 13 = .ok (.bipush 24, 2) := by decide +kernel
theorem dX7_init_15 : decode cX7_init 15 = .ok (.newarray .int, 2) := by decide +kernel
theorem dX7_init_17 : decode cX7_init 17 = .ok (.putfield 15, 3) := by decide +kernel
theorem dX7_init_20 : decode cX7_init 20 = .ok (.aload_n 0, 1) := by decide +kernel
theorem dX7_init_21 : decode cX7_init 21 = .ok (.bipush 24, 2) := by decide +kernel
theorem dX7_init_23 : decode cX7_init 23 = .ok (.newarray .int, 2) := by decide +kernel
theorem dX7_init_25 : decode cX7_init 25 = .ok (.putfield 18, 3) := by decide +kernel
theorem dX7_init_28 : decode cX7_init 28 = .ok (.aload_n 0, 1) := by decide +kernel
theorem dX7_init_29 : decode cX7_init 29 = .ok (.bipush 24, 2) := by decide +kernel
theorem dX7_init_31 : decode cX7_init 31 = .ok (.newarray .int, 2) := by decide +kernel
theorem dX7_init_33 : decode cX7_init 33 = .ok (.putfield 21, 3) := by decide +kernel
theorem dX7_init_36 : decode cX7_init 36 = .ok (.return_, 1) := by decide +kernel
theorem dX7_isFull_0 : decode cX7_isFull 0 = .ok (.aload_n 0, 1) := by decide +kernel
theorem dX7_isFull_1 : decode cX7_isFull 1 = .ok (.getfield 24, 3) := by decide +kernel
theorem dX7_isFull_4 : decode cX7_isFull 4 = .ok (.bipush 24, 2) := by decide +kernel
theorem dX7_isFull_6 : decode cX7_isFull 6 = .ok (.if_icmp .lt 7, 3) := by decide +kernel
theorem dX7_isFull_9 : decode cX7_isFull 9 = .ok (.iconst 1, 1) := by decide +kernel
theorem dX7_isFull_10 : decode cX7_isFull 10 = .ok (.goto 4, 3) := by decide +kernel
theorem dX7_isFull_13 : decode cX7_isFull 13 = .ok (.iconst 0, 1) := by decide +kernel
theorem dX7_isFull_14 : decode cX7_isFull 14 = .ok (.ireturn, 1) := by decide +kernel
theorem dX7_lastState_0 : decode cX7_lastState 0 = .ok (.aload_n 0, 1) := by decide +kernel
theorem dX7_lastState_1 : decode cX7_lastState 1 = .ok (.getfield 24, 3) := by decide +kernel
theorem dX7_lastState_4 : decode cX7_lastState 4 = .ok (.ifCond .ne 7, 3) := by decide +kernel
theorem dX7_lastState_7 : decode cX7_lastState 7 = .ok (.iconst 0, 1) := by decide +kernel
theorem dX7_lastState_8 : decode cX7_lastState 8 = .ok (.goto 14, 3) := by decide +kernel
theorem dX7_lastState_11 : decode cX7_lastState 11 = .ok (.aload_n 0, 1) := by decide +kernel
theorem dX7_lastState_12 : decode cX7_lastState 12 = .ok (.getfield 21, 3) := by decide +kernel
theorem dX7_lastState_15 : decode cX7_lastState 15 = .ok (.aload_n 0, 1) := by decide +kernel
theorem dX7_lastState_16 : decode cX7_lastState 16 = .ok (.getfield 24, 3) := by decide +kernel
theorem dX7_lastState_19 : decode cX7_lastState 19 = .ok (.iconst 1, 1) := by decide +kernel
theorem dX7_lastState_20 : decode cX7_lastState 20 = .ok (.isub, 1) := by decide +kernel
theorem dX7_lastState_21 : decode cX7_lastState 21 = .ok (.iaload, 1) := by decide +kernel
theorem dX7_lastState_22 : decode cX7_lastState 22 = .ok (.ireturn, 1) := by decide +kernel
theorem dX7_append_0 : decode cX7_append 0 = .ok (.aload_n 0, 1) := by decide +kernel
theorem dX7_append_1 : decode cX7_append 1 = .ok (.invokevirtual 28, 3) := by decide +kernel
theorem dX7_append_4 : decode cX7_append 4 = .ok (.ifCond .eq 6, 3) := by decide +kernel
theorem dX7_append_7 : decode cX7_append 7 = .ok (.ldc 32, 2) := by decide +kernel
theorem dX7_append_9 : decode cX7_append 9 = .ok (.ireturn, 1) := by decide +kernel
theorem dX7_append_10 : decode cX7_append 10 = .ok (.aload_n 0, 1) := by decide +kernel
theorem dX7_append_11 : decode cX7_append 11 = .ok (.invokevirtual 33, 3) := by decide +kernel
theorem dX7_append_14 : decode cX7_append 14 = .ok (.istore 4, 2) := by decide +kernel
theorem dX7_append_16 : decode cX7_append 16 = .ok (.aload_n 1, 1) := by decide +kernel
theorem dX7_append_17 : decode cX7_append 17 = .ok (.iload 4, 2) := by decide +kernel
theorem dX7_append_19 : decode cX7_append 19 = .ok (.iload_n 2, 1) := by decide +kernel
theorem dX7_append_20 : decode cX7_append 20 = .ok (.invokevirtual 37, 3) := by decide +kernel
theorem dX7_append_23 : decode cX7_append 23 = .ok (.iload_n 3, 1) := by decide +kernel
theorem dX7_append_24 : decode cX7_append 24 = .ok (.invokestatic 43, 3) := by decide +kernel
theorem dX7_append_27 : decode cX7_append 27 = .ok (.istore 5, 2) := by decide +kernel
theorem dX7_append_29 : decode cX7_append 29 = .ok (.aload_n 0, 1) := by decide +kernel
theorem dX7_append_30 : decode cX7_append 30 = .ok (.getfield 9, 3) := by decide +kernel
theorem dX7_append_33 : decode cX7_append 33 = .ok (.aload_n 0, 1) := by decide +kernel
theorem dX7_append_34 : decode cX7_append 34 = .ok (.getfield 24, 3) := by decide +kernel
theorem dX7_append_37 : decode cX7_append 37 = .ok (.iload_n 2, 1) := by decide +kernel
theorem dX7_append_38 : decode cX7_append 38 = .ok (.iastore, 1) := by decide +kernel
theorem dX7_append_39 : decode cX7_append 39 = .ok (.aload_n 0, 1) := by decide +kernel
theorem dX7_append_40 : decode cX7_append 40 = .ok (.getfield 15, 3) := by decide +kernel
theorem dX7_append_43 : decode cX7_append 43 = .ok (.aload_n 0, 1) := by decide +kernel
theorem dX7_append_44 : decode cX7_append 44 = .ok (.getfield 24, 3) := by decide +kernel
theorem dX7_append_47 : decode cX7_append 47 = .ok (.iload_n 3, 1) := by decide +kernel
theorem dX7_append_48 : decode cX7_append 48 = .ok (.iastore, 1) := by decide +kernel
theorem dX7_append_49 : decode cX7_append 49 = .ok (.aload_n 0, 1) := by decide +kernel
theorem dX7_append_50 : decode cX7_append 50 = .ok (.getfield 18, 3) := by decide +kernel
theorem dX7_append_53 : decode cX7_append 53 = .ok (.aload_n 0, 1) := by decide +kernel
theorem dX7_append_54 : decode cX7_append 54 = .ok (.getfield 24, 3) := by decide +kernel
theorem dX7_append_57 : decode cX7_append 57 = .ok (.iload 5, 2) := by decide +kernel
theorem dX7_append_59 : decode cX7_append 59 = .ok (.iastore, 1) := by decide +kernel
theorem dX7_append_60 : decode cX7_append 60 = .ok (.aload_n 0, 1) := by decide +kernel
theorem dX7_append_61 : decode cX7_append 61 = .ok (.getfield 21, 3) := by decide +kernel
theorem dX7_append_64 : decode cX7_append 64 = .ok (.aload_n 0, 1) := by decide +kernel
theorem dX7_append_65 : decode cX7_append 65 = .ok (.getfield 24, 3) := by decide +kernel
theorem dX7_append_68 : decode cX7_append 68 = .ok (.aload_n 1, 1) := by decide +kernel
theorem dX7_append_69 : decode cX7_append 69 = .ok (.iload 4, 2) := by decide +kernel
theorem dX7_append_71 : decode cX7_append 71 = .ok (.iload_n 2, 1) := by decide +kernel
theorem dX7_append_72 : decode cX7_append 72 = .ok (.invokevirtual 48, 3) := by decide +kernel
theorem dX7_append_75 : decode cX7_append 75 = .ok (.iastore, 1) := by decide +kernel
theorem dX7_append_76 : decode cX7_append 76 = .ok (.aload_n 0, 1) := by decide +kernel
theorem dX7_append_77 : decode cX7_append 77 = .ok (.dup, 1) := by decide +kernel
theorem dX7_append_78 : decode cX7_append 78 = .ok (.getfield 24, 3) := by decide +kernel
theorem dX7_append_81 : decode cX7_append 81 = .ok (.iconst 1, 1) := by decide +kernel
theorem dX7_append_82 : decode cX7_append 82 = .ok (.iadd, 1) := by decide +kernel
theorem dX7_append_83 : decode cX7_append 83 = .ok (.putfield 24, 3) := by decide +kernel
theorem dX7_append_86 : decode cX7_append 86 = .ok (.iload 5, 2) := by decide +kernel
theorem dX7_append_88 : decode cX7_append 88 = .ok (.ireturn, 1) := by decide +kernel
theorem dX7_partOf_0 : decode cX7_partOf 0 = .ok (.iload_n 2, 1) := by decide +kernel
theorem dX7_partOf_1 : decode cX7_partOf 1 = .ok (.tableswitch 59 0 3 #[31, 38, 45, 52], 31) := by decide +kernel
theorem dX7_partOf_32 : decode cX7_partOf 32 = .ok (.aload_n 0, 1) := by decide +kernel
theorem dX7_partOf_33 : decode cX7_partOf 33 = .ok (.getfield 9, 3) := by decide +kernel
theorem dX7_partOf_36 : decode cX7_partOf 36 = .ok (.iload_n 1, 1) := by decide +kernel
theorem dX7_partOf_37 : decode cX7_partOf 37 = .ok (.iaload, 1) := by decide +kernel
theorem dX7_partOf_38 : decode cX7_partOf 38 = .ok (.ireturn, 1) := by decide +kernel
theorem dX7_partOf_39 : decode cX7_partOf 39 = .ok (.aload_n 0, 1) := by decide +kernel
theorem dX7_partOf_40 : decode cX7_partOf 40 = .ok (.getfield 15, 3) := by decide +kernel
theorem dX7_partOf_43 : decode cX7_partOf 43 = .ok (.iload_n 1, 1) := by decide +kernel
theorem dX7_partOf_44 : decode cX7_partOf 44 = .ok (.iaload, 1) := by decide +kernel
theorem dX7_partOf_45 : decode cX7_partOf 45 = .ok (.ireturn, 1) := by decide +kernel
theorem dX7_partOf_46 : decode cX7_partOf 46 = .ok (.aload_n 0, 1) := by decide +kernel
theorem dX7_partOf_47 : decode cX7_partOf 47 = .ok (.getfield 18, 3) := by decide +kernel
theorem dX7_partOf_50 : decode cX7_partOf 50 = .ok (.iload_n 1, 1) := by decide +kernel
theorem dX7_partOf_51 : decode cX7_partOf 51 = .ok (.iaload, 1) := by decide +kernel
theorem dX7_partOf_52 : decode cX7_partOf 52 = .ok (.ireturn, 1) := by decide +kernel
theorem dX7_partOf_53 : decode cX7_partOf 53 = .ok (.aload_n 0, 1) := by decide +kernel
theorem dX7_partOf_54 : decode cX7_partOf 54 = .ok (.getfield 21, 3) := by decide +kernel
theorem dX7_partOf_57 : decode cX7_partOf 57 = .ok (.iload_n 1, 1) := by decide +kernel
theorem dX7_partOf_58 : decode cX7_partOf 58 = .ok (.iaload, 1) := by decide +kernel
theorem dX7_partOf_59 : decode cX7_partOf 59 = .ok (.ireturn, 1) := by decide +kernel
theorem dX7_partOf_60 : decode cX7_partOf 60 = .ok (.ldc 51, 2) := by decide +kernel
theorem dX7_partOf_62 : decode cX7_partOf 62 = .ok (.ireturn, 1) := by decide +kernel
theorem dX7_become_0 : decode cX7_become 0 = .ok (.aload_n 0, 1) := by decide +kernel
theorem dX7_become_1 : decode cX7_become 1 = .ok (.aload_n 1, 1) := by decide +kernel
theorem dX7_become_2 : decode cX7_become 2 = .ok (.getfield 24, 3) := by decide +kernel
theorem dX7_become_5 : decode cX7_become 5 = .ok (.putfield 24, 3) := by decide +kernel
theorem dX7_become_8 : decode cX7_become 8 = .ok (.aload_n 1, 1) := by decide +kernel
theorem dX7_become_9 : decode cX7_become 9 = .ok (.getfield 9, 3) := by decide +kernel
theorem dX7_become_12 : decode cX7_become 12 = .ok (.iconst 0, 1) := by decide +kernel
theorem dX7_become_13 : decode cX7_become 13 = .ok (.aload_n 0, 1) := by decide +kernel
theorem dX7_become_14 : decode cX7_become 14 = .ok (.getfield 9, 3) := by decide +kernel
theorem dX7_become_17 : decode cX7_become 17 = .ok (.iconst 0, 1) := by decide +kernel
theorem dX7_become_18 : decode cX7_become 18 = .ok (.aload_n 0, 1) := by decide +kernel
theorem dX7_become_19 : decode cX7_become 19 = .ok (.getfield 24, 3) := by decide +kernel
theorem dX7_become_22 : decode cX7_become 22 = .ok (.invokestatic 52, 3) := by decide +kernel
theorem dX7_become_25 : decode cX7_become 25 = .ok (.aload_n 1, 1) := by decide +kernel
theorem dX7_become_26 : decode cX7_become 26 = .ok (.getfield 15, 3) := by decide +kernel
theorem dX7_become_29 : decode cX7_become 29 = .ok (.iconst 0, 1) := by decide +kernel
theorem dX7_become_30 : decode cX7_become 30 = .ok (.aload_n 0, 1) := by decide +kernel
theorem dX7_become_31 : decode cX7_become 31 = .ok (.getfield 15, 3) := by decide +kernel
theorem dX7_become_34 : decode cX7_become 34 = .ok (.iconst 0, 1) := by decide +kernel
theorem dX7_become_35 : decode cX7_become 35 = .ok (.aload_n 0, 1) := by decide +kernel
theorem dX7_become_36 : decode cX7_become 36 = .ok (.getfield 24, 3) := by decide +kernel
theorem dX7_become_39 : decode cX7_become 39 = .ok (.invokestatic 52, 3) := by decide +kernel
theorem dX7_become_42 : decode cX7_become 42 = .ok (.aload_n 1, 1) := by decide +kernel
theorem dX7_become_43 : decode cX7_become 43 = .ok (.getfield 18, 3) := by decide +kernel
theorem dX7_become_46 : decode cX7_become 46 = .ok (.iconst 0, 1) := by decide +kernel
theorem dX7_become_47 : decode cX7_become 47 = .ok (.aload_n 0, 1) := by decide +kernel
theorem dX7_become_48 : decode cX7_become 48 = .ok (.getfield 18, 3) := by decide +kernel
theorem dX7_become_51 : decode cX7_become 51 = .ok (.iconst 0, 1) := by decide +kernel
theorem dX7_become_52 : decode cX7_become 52 = .ok (.aload_n 0, 1) := by decide +kernel
theorem dX7_become_53 : decode cX7_become 53 = .ok (.getfield 24, 3) := by decide +kernel
theorem dX7_become_56 : decode cX7_become 56 = .ok (.invokestatic 52, 3) := by decide +kernel
theorem dX7_become_59 : decode cX7_become 59 = .ok (.aload_n 1, 1) := by decide +kernel
theorem dX7_become_60 : decode cX7_become 60 = .ok (.getfield 21, 3) := by decide +kernel
theorem dX7_become_63 : decode cX7_become 63 = .ok (.iconst 0, 1) := by decide +kernel
theorem dX7_become_64 : decode cX7_become 64 = .ok (.aload_n 0, 1) := by decide +kernel
theorem dX7_become_65 : decode cX7_become 65 = .ok (.getfield 21, 3) := by decide +kernel
theorem dX7_become_68 : decode cX7_become 68 = .ok (.iconst 0, 1) := by decide +kernel
theorem dX7_become_69 : decode cX7_become 69 = .ok (.aload_n 0, 1) := by decide +kernel
theorem dX7_become_70 : decode cX7_become 70 = .ok (.getfield 24, 3) := by decide +kernel
theorem dX7_become_73 : decode cX7_become 73 = .ok (.invokestatic 52, 3) := by decide +kernel
theorem dX7_become_76 : decode cX7_become 76 = .ok (.return_, 1) := by decide +kernel
end
section
theorem dX8_init_0 : decode cX8_init 0 = .ok (.aload_n 0, 1) := by decide +kernel
theorem dX8_init_1 : decode cX8_init 1 = .ok (.invokespecial 3, 3) := by decide +kernel
theorem dX8_init_4 : decode cX8_init 4 = .ok (.aload_n 0, 1) := by decide +kernel
theorem dX8_init_5 : decode cX8_init 5 = .ok (.new 9, 3) := by decide +kernel
theorem dX8_init_8 : decode cX8_init 8 = .ok (.dup, 1) := by decide +kernel
theorem dX8_init_9 : decode cX8_init 9 = .ok (.invokespecial 11, 3) := by decide +kernel
theorem dX8_init_12 : decode cX8_init 12 = .ok (.putfield 12, 3) := by decide +kernel
theorem dX8_init_15 : decode cX8_init 15 = .ok (.aload_n 0, 1) := by decide +kernel
theorem dX8_init_16 : decode cX8_init 16 = .ok (.bipush 96, 2) := by decide +kernel
theorem dX8_init_18 : decode cX8_init 18 = .ok (.newarray .int, 2) := by decide +kernel
theorem dX8_init_20 : decode cX8_init 20 = .ok (.putfield 18, 3) := by decide +kernel
theorem dX8_init_23 : decode cX8_init 23 = .ok (.aload_n 0, 1) := by decide +kernel
theorem dX8_init_24 : decode cX8_init 24 = .ok (.bipush 96, 2) := by decide +kernel
theorem dX8_init_26 : decode cX8_init 26 = .ok (.newarray .int, 2) := by decide +kernel
theorem dX8_init_28 : decode cX8_init 28 = .ok (.putfield 22, 3) := by decide +kernel
theorem dX8_init_31 : decode cX8_init 31 = .ok (.aload_n 0, 1) := by decide +kernel
theorem dX8_init_32 : decode cX8_init 32 = .ok (.sipush 200, 3) := by decide +kernel
theorem dX8_init_35 : decode cX8_init 35 = .ok (.newarray .int, 2) := by decide +kernel
theorem dX8_init_37 : decode cX8_init 37 = .ok (.putfield 25, 3) := by decide +kernel
theorem dX8_init_40 : decode cX8_init 40 = .ok (.return_, 1) := by decide +kernel
theorem dX8_seek_0 : decode cX8_seek 0 = .ok (.aload_n 0, 1) := by decide +kernel
theorem dX8_seek_1 : decode cX8_seek 1 = .ok (.aload_n 1, 1) := by decide +kernel
theorem dX8_seek_2 : decode cX8_seek 2 = .ok (.getfield 28, 3) := by decide +kernel
theorem dX8_seek_5 : decode cX8_seek 5 = .ok (.iload_n 2, 1) := by decide +kernel
theorem dX8_seek_6 : decode cX8_seek 6 = .ok (.invokevirtual 34, 3) := by decide +kernel
theorem dX8_seek_9 : decode cX8_seek 9 = .ok (.aload_n 0, 1) := by decide +kernel
theorem dX8_seek_10 : decode cX8_seek 10 = .ok (.aload_n 1, 1) := by decide +kernel
theorem dX8_seek_11 : decode cX8_seek 11 = .ok (.getfield 38, 3) := by decide +kernel
theorem dX8_seek_14 : decode cX8_seek 14 = .ok (.iload_n 2, 1) := by decide +kernel
theorem dX8_seek_15 : decode cX8_seek 15 = .ok (.iload_n 3, 1) := by decide +kernel
theorem dX8_seek_16 : decode cX8_seek 16 = .ok (.invokevirtual 42, 3) := by decide +kernel
theorem dX8_seek_19 : decode cX8_seek 19 = .ok (.aload_n 0, 1) := by decide +kernel
theorem dX8_seek_20 : decode cX8_seek 20 = .ok (.getfield 12, 3) := by decide +kernel
theorem dX8_seek_23 : decode cX8_seek 23 = .ok (.iconst 0, 1) := by decide +kernel
theorem dX8_seek_24 : decode cX8_seek 24 = .ok (.putfield 46, 3) := by decide +kernel
theorem dX8_seek_27 : decode cX8_seek 27 = .ok (.aload_n 0, 1) := by decide +kernel
theorem dX8_seek_28 : decode cX8_seek 28 = .ok (.getfield 25, 3) := by decide +kernel
theorem dX8_seek_31 : decode cX8_seek 31 = .ok (.iconst 0, 1) := by decide +kernel
theorem dX8_seek_32 : decode cX8_seek 32 = .ok (.iaload, 1) := by decide +kernel
theorem dX8_seek_33 : decode cX8_seek 33 = .ok (.ldc 50, 2) := by decide +kernel
theorem dX8_seek_35 : decode cX8_seek 35 = .ok (.if_icmp .ge 12, 3) := by decide +kernel
theorem dX8_seek_38 : decode cX8_seek 38 = .ok (.aload_n 0, 1) := by decide +kernel
theorem dX8_seek_39 : decode cX8_seek 39 = .ok (.aload_n 1, 1) := by decide +kernel
theorem dX8_seek_40 : decode cX8_seek 40 = .ok (.getfield 38, 3) := by decide +kernel
theorem dX8_seek_43 : decode cX8_seek 43 = .ok (.iload_n 2, 1) := by decide +kernel
theorem dX8_seek_44 : decode cX8_seek 44 = .ok (.invokevirtual 51, 3) := by decide +kernel
theorem dX8_seek_47 : decode cX8_seek 47 = .ok (.aload_n 0, 1) := by decide +kernel
theorem dX8_seek_48 : decode cX8_seek 48 = .ok (.getfield 25, 3) := by decide +kernel
theorem dX8_seek_51 : decode cX8_seek 51 = .ok (.iconst 0, 1) := by decide +kernel
theorem dX8_seek_52 : decode cX8_seek 52 = .ok (.iaload, 1) := by decide +kernel
theorem dX8_seek_53 : decode cX8_seek 53 = .ok (.ireturn, 1) := by decide +kernel
theorem dX8_weigh_0 : decode cX8_weigh 0 = .ok (.iconst 0, 1) := by decide +kernel
theorem dX8_weigh_1 : decode cX8_weigh 1 = .ok (.istore_n 3, 1) := by decide +kernel
theorem dX8_weigh_2 : decode cX8_weigh 2 = .ok (.iload_n 3, 1) := by decide +kernel
theorem dX8_weigh_3 : decode cX8_weigh 3 = .ok (.iload_n 2, 1) := by decide +kernel
theorem dX8_weigh_4 : decode cX8_weigh 4 = .ok (.if_icmp .ge 43, 3) := by decide +kernel
theorem dX8_weigh_7 : decode cX8_weigh 7 = .ok (.iconst 0, 1) := by decide +kernel
theorem dX8_weigh_8 : decode cX8_weigh 8 = .ok (.istore 4, 2) := by decide +kernel
theorem dX8_weigh_10 : decode cX8_weigh 10 = .ok (.iload 4, 2) := by decide +kernel
theorem dX8_weigh_12 : decode cX8_weigh 12 = .ok (.iconst 4, 1) := by decide +kernel
theorem dX8_weigh_13 : decode cX8_weigh 13 = .ok (.if_icmp .ge 28, 3) := by decide +kernel
theorem dX8_weigh_16 : decode cX8_weigh 16 = .ok (.aload_n 0, 1) := by decide +kernel
theorem dX8_weigh_17 : decode cX8_weigh 17 = .ok (.iload_n 3, 1) := by decide +kernel
theorem dX8_weigh_18 : decode cX8_weigh 18 = .ok (.iload 4, 2) := by decide +kernel
theorem dX8_weigh_20 : decode cX8_weigh 20 = .ok (.aload_n 1, 1) := by decide +kernel
theorem dX8_weigh_21 : decode cX8_weigh 21 = .ok (.getfield 55, 3) := by decide +kernel
theorem dX8_weigh_24 : decode cX8_weigh 24 = .ok (.iload_n 3, 1) := by decide +kernel
theorem dX8_weigh_25 : decode cX8_weigh 25 = .ok (.iaload, 1) := by decide +kernel
theorem dX8_weigh_26 : decode cX8_weigh 26 = .ok (.aload_n 1, 1) := by decide +kernel
theorem dX8_weigh_27 : decode cX8_weigh 27 = .ok (.getfield 60, 3) := by decide +kernel
theorem dX8_weigh_30 : decode cX8_weigh 30 = .ok (.iload_n 3, 1) := by decide +kernel
theorem dX8_weigh_31 : decode cX8_weigh 31 = .ok (.iaload, 1) := by decide +kernel
theorem dX8_weigh_32 : decode cX8_weigh 32 = .ok (.invokevirtual 63, 3) := by decide +kernel
theorem dX8_weigh_35 : decode cX8_weigh 35 = .ok (.iinc 4 1, 3) := by decide +kernel
theorem dX8_weigh_38 : decode cX8_weigh 38 = .ok (.goto (-28), 3) := by decide +kernel
theorem dX8_weigh_41 : decode cX8_weigh 41 = .ok (.iinc 3 1, 3) := by decide +kernel
theorem dX8_weigh_44 : decode cX8_weigh 44 = .ok (.goto (-42), 3) := by decide +kernel
theorem dX8_weigh_47 : decode cX8_weigh 47 = .ok (.return_, 1) := by decide +kernel
theorem dX8_choose_0 : decode cX8_choose 0 = .ok (.iload_n 1, 1) := by decide +kernel
theorem dX8_choose_1 : decode cX8_choose 1 = .ok (.iconst 4, 1) := by decide +kernel
theorem dX8_choose_2 : decode cX8_choose 2 = .ok (.imul, 1) := by decide +kernel
theorem dX8_choose_3 : decode cX8_choose 3 = .ok (.iload_n 2, 1) := by decide +kernel
theorem dX8_choose_4 : decode cX8_choose 4 = .ok (.iadd, 1) := by decide +kernel
theorem dX8_choose_5 : decode cX8_choose 5 = .ok (.istore 5, 2) := by decide +kernel
theorem dX8_choose_7 : decode cX8_choose 7 = .ok (.aload_n 0, 1) := by decide +kernel
theorem dX8_choose_8 : decode cX8_choose 8 = .ok (.getfield 22, 3) := by decide +kernel
theorem dX8_choose_11 : decode cX8_choose 11 = .ok (.iload 5, 2) := by decide +kernel
theorem dX8_choose_13 : decode cX8_choose 13 = .ok (.ldc 50, 2) := by decide +kernel
theorem dX8_choose_15 : decode cX8_choose 15 = .ok (.iastore, 1) := by decide +kernel
theorem dX8_choose_16 : decode cX8_choose 16 = .ok (.iconst 0, 1) := by decide +kernel
theorem dX8_choose_17 : decode cX8_choose 17 = .ok (.istore 6, 2) := by decide +kernel
theorem dX8_choose_19 : decode cX8_choose 19 = .ok (.iload 6, 2) := by decide +kernel
theorem dX8_choose_21 : decode cX8_choose 21 = .ok (.iconst 4, 1) := by decide +kernel
theorem dX8_choose_22 : decode cX8_choose 22 = .ok (.if_icmp .ge 53, 3) := by decide +kernel
theorem dX8_choose_25 : decode cX8_choose 25 = .ok (.iload_n 2, 1) := by decide +kernel
theorem dX8_choose_26 : decode cX8_choose 26 = .ok (.iload 6, 2) := by decide +kernel
theorem dX8_choose_28 : decode cX8_choose 28 = .ok (.invokestatic 67, 3) := by decide +kernel
theorem dX8_choose_31 : decode cX8_choose 31 = .ok (.iload_n 3, 1) := by decide +kernel
theorem dX8_choose_32 : decode cX8_choose 32 = .ok (.iload 4, 2) := by decide +kernel
theorem dX8_choose_34 : decode cX8_choose 34 = .ok (.invokestatic 73, 3) := by decide +kernel
theorem dX8_choose_37 : decode cX8_choose 37 = .ok (.istore 7, 2) := by decide +kernel
theorem dX8_choose_39 : decode cX8_choose 39 = .ok (.iload 7, 2) := by decide +kernel
theorem dX8_choose_41 : decode cX8_choose 41 = .ok (.aload_n 0, 1) := by decide +kernel
theorem dX8_choose_42 : decode cX8_choose 42 = .ok (.getfield 22, 3) := by decide +kernel
theorem dX8_choose_45 : decode cX8_choose 45 = .ok (.iload 5, 2) := by decide +kernel
theorem dX8_choose_47 : decode cX8_choose 47 = .ok (.iaload, 1) := by decide +kernel
theorem dX8_choose_48 : decode cX8_choose 48 = .ok (.if_icmp .ge 21, 3) := by decide +kernel
theorem dX8_choose_51 : decode cX8_choose 51 = .ok (.aload_n 0, 1) := by decide +kernel
theorem dX8_choose_52 : decode cX8_choose 52 = .ok (.getfield 22, 3) := by decide +kernel
theorem dX8_choose_55 : decode cX8_choose 55 = .ok (.iload 5, 2) := by decide +kernel
theorem dX8_choose_57 : decode cX8_choose 57 = .ok (.iload 7, 2) := by decide +kernel
theorem dX8_choose_59 : decode cX8_choose 59 = .ok (.iastore, 1) := by decide +kernel
theorem dX8_choose_60 : decode cX8_choose 60 = .ok (.aload_n 0, 1) := by decide +kernel
theorem dX8_choose_61 : decode cX8_choose 61 = .ok (.getfield 18, 3) := by decide +kernel
theorem dX8_choose_64 : decode cX8_choose 64 = .ok (.iload 5, 2) := by decide +kernel
theorem dX8_choose_66 : decode cX8_choose 66 = .ok (.iload 6, 2) := by decide +kernel
theorem dX8_choose_68 : decode cX8_choose 68 = .ok (.iastore, 1) := by decide +kernel
theorem dX8_choose_69 : decode cX8_choose 69 = .ok (.iinc 6 1, 3) := by decide +kernel
theorem dX8_choose_72 : decode cX8_choose 72 = .ok (.goto (-53), 3) := by decide +kernel
theorem dX8_choose_75 : decode cX8_choose 75 = .ok (.return_, 1) := by decide +kernel
theorem dX8_reckon_0 : decode cX8_reckon 0 = .ok (.iconst 0, 1) := by decide +kernel
theorem dX8_reckon_1 : decode cX8_reckon 1 = .ok (.istore 4, 2) := by decide +kernel
theorem dX8_reckon_3 : decode cX8_reckon 3 = .ok (.iload 4, 2) := by decide +kernel
theorem dX8_reckon_5 : decode cX8_reckon 5 = .ok (.bipush 8, 2) := by decide +kernel
theorem dX8_reckon_7 : decode cX8_reckon 7 = .ok (.if_icmp .ge 38, 3) := by decide +kernel
theorem dX8_reckon_10 : decode cX8_reckon 10 = .ok (.aload_n 0, 1) := by decide +kernel
theorem dX8_reckon_11 : decode cX8_reckon 11 = .ok (.getfield 25, 3) := by decide +kernel
theorem dX8_reckon_14 : decode cX8_reckon 14 = .ok (.iload_n 2, 1) := by decide +kernel
theorem dX8_reckon_15 : decode cX8_reckon 15 = .ok (.bipush 8, 2) := by decide +kernel
theorem dX8_reckon_17 : decode cX8_reckon 17 = .ok (.imul, 1) := by decide +kernel
theorem dX8_reckon_18 : decode cX8_reckon 18 = .ok (.iload 4, 2) := by decide +kernel
theorem dX8_reckon_20 : decode cX8_reckon 20 = .ok (.iadd, 1) := by decide +kernel
theorem dX8_reckon_21 : decode cX8_reckon 21 = .ok (.iload_n 3, 1) := by decide +kernel
theorem dX8_reckon_22 : decode cX8_reckon 22 = .ok (.iconst (-1), 1) := by decide +kernel
theorem dX8_reckon_23 : decode cX8_reckon 23 = .ok (.if_icmp .eq 9, 3) := by decide +kernel
theorem dX8_reckon_26 : decode cX8_reckon 26 = .ok (.iload_n 3, 1) := by decide +kernel
theorem dX8_reckon_27 : decode cX8_reckon 27 = .ok (.iload 4, 2) := by decide +kernel
theorem dX8_reckon_29 : decode cX8_reckon 29 = .ok (.if_icmp .ne 7, 3) := by decide +kernel
theorem dX8_reckon_32 : decode cX8_reckon 32 = .ok (.iconst 0, 1) := by decide +kernel
theorem dX8_reckon_33 : decode cX8_reckon 33 = .ok (.goto 5, 3) := by decide +kernel
theorem dX8_reckon_36 : decode cX8_reckon 36 = .ok (.ldc 50, 2) := by decide +kernel
theorem dX8_reckon_38 : decode cX8_reckon 38 = .ok (.iastore, 1) := by decide +kernel
theorem dX8_reckon_39 : decode cX8_reckon 39 = .ok (.iinc 4 1, 3) := by decide +kernel
theorem dX8_reckon_42 : decode cX8_reckon 42 = .ok (.goto (-39), 3) := by decide +kernel
theorem dX8_reckon_45 : decode cX8_reckon 45 = .ok (.iload_n 2, 1) := by decide +kernel
theorem dX8_reckon_46 : decode cX8_reckon 46 = .ok (.iconst 1, 1) := by decide +kernel
theorem dX8_reckon_47 : decode cX8_reckon 47 = .ok (.isub, 1) := by decide +kernel
theorem dX8_reckon_48 : decode cX8_reckon 48 = .ok (.istore 4, 2) := by decide +kernel
theorem dX8_reckon_50 : decode cX8_reckon 50 = .ok (.iload 4, 2) := by decide +kernel
theorem dX8_reckon_52 : decode cX8_reckon 52 = .ok (.ifCond .lt 63, 3) := by decide +kernel
theorem dX8_reckon_55 : decode cX8_reckon 55 = .ok (.iconst 0, 1) := by decide +kernel
theorem dX8_reckon_56 : decode cX8_reckon 56 = .ok (.istore 5, 2) := by decide +kernel
theorem dX8_reckon_58 : decode cX8_reckon 58 = .ok (.iload 5, 2) := by decide +kernel
theorem dX8_reckon_60 : decode cX8_reckon 60 = .ok (.aload_n 1, 1) := by decide +kernel
theorem dX8_reckon_61 : decode cX8_reckon 61 = .ok (.invokevirtual 77, 3) := by decide +kernel
theorem dX8_reckon_64 : decode cX8_reckon 64 = .ok (.if_icmp .ge 45, 3) := by decide +kernel
theorem dX8_reckon_67 : decode cX8_reckon 67 = .ok (.aload_n 0, 1) := by decide +kernel
theorem dX8_reckon_68 : decode cX8_reckon 68 = .ok (.getfield 25, 3) := by decide +kernel
theorem dX8_reckon_71 : decode cX8_reckon 71 = .ok (.iload 4, 2) := by decide +kernel
theorem dX8_reckon_73 : decode cX8_reckon 73 = .ok (.bipush 8, 2) := by decide +kernel
theorem dX8_reckon_75 : decode cX8_reckon 75 = .ok (.imul, 1) := by decide +kernel
theorem dX8_reckon_76 : decode cX8_reckon 76 = .ok (.iload 5, 2) := by decide +kernel
theorem dX8_reckon_78 : decode cX8_reckon 78 = .ok (.iadd, 1) := by decide +kernel
theorem dX8_reckon_79 : decode cX8_reckon 79 = .ok (.aload_n 0, 1) := by decide +kernel
theorem dX8_reckon_80 : decode cX8_reckon 80 = .ok (.aload_n 1, 1) := by decide +kernel
theorem dX8_reckon_81 : decode cX8_reckon 81 = .ok (.iload 4, 2) := by decide +kernel
theorem dX8_reckon_83 : decode cX8_reckon 83 = .ok (.iload 5, 2) := by decide +kernel
theorem dX8_reckon_85 : decode cX8_reckon 85 = .ok (.iconst 0, 1) := by decide +kernel
theorem dX8_reckon_86 : decode cX8_reckon 86 = .ok (.invokevirtual 83, 3) := by decide +kernel
theorem dX8_reckon_89 : decode cX8_reckon 89 = .ok (.aload_n 0, 1) := by decide +kernel
theorem dX8_reckon_90 : decode cX8_reckon 90 = .ok (.aload_n 1, 1) := by decide +kernel
theorem dX8_reckon_91 : decode cX8_reckon 91 = .ok (.iload 4, 2) := by decide +kernel
theorem dX8_reckon_93 : decode cX8_reckon 93 = .ok (.iload 5, 2) := by decide +kernel
theorem dX8_reckon_95 : decode cX8_reckon 95 = .ok (.iconst 1, 1) := by decide +kernel
theorem dX8_reckon_96 : decode cX8_reckon 96 = .ok (.invokevirtual 83, 3) := by decide +kernel
theorem dX8_reckon_99 : decode cX8_reckon 99 = .ok (.invokestatic 87, 3) := by decide +kernel
theorem dX8_reckon_102 : decode cX8_reckon 102 = .ok (.iastore, 1) := by decide +kernel
theorem dX8_reckon_103 : decode cX8_reckon 103 = .ok (.iinc 5 1, 3) := by decide +kernel
theorem dX8_reckon_106 : decode cX8_reckon 106 = .ok (.goto (-48), 3) := by decide +kernel
theorem dX8_reckon_109 : decode cX8_reckon 109 = .ok (.iinc 4 (-1), 3) := by decide +kernel
theorem dX8_reckon_112 : decode cX8_reckon 112 = .ok (.goto (-62), 3) := by decide +kernel
theorem dX8_reckon_115 : decode cX8_reckon 115 = .ok (.return_, 1) := by decide +kernel
theorem dX8_restBy_0 : decode cX8_restBy 0 = .ok (.aload_n 0, 1) := by decide +kernel
theorem dX8_restBy_1 : decode cX8_restBy 1 = .ok (.getfield 25, 3) := by decide +kernel
theorem dX8_restBy_4 : decode cX8_restBy 4 = .ok (.iload_n 2, 1) := by decide +kernel
theorem dX8_restBy_5 : decode cX8_restBy 5 = .ok (.iconst 1, 1) := by decide +kernel
theorem dX8_restBy_6 : decode cX8_restBy 6 = .ok (.iadd, 1) := by decide +kernel
theorem dX8_restBy_7 : decode cX8_restBy 7 = .ok (.bipush 8, 2) := by decide +kernel
theorem dX8_restBy_9 : decode cX8_restBy 9 = .ok (.imul, 1) := by decide +kernel
theorem dX8_restBy_10 : decode cX8_restBy 10 = .ok (.aload_n 1, 1) := by decide +kernel
theorem dX8_restBy_11 : decode cX8_restBy 11 = .ok (.iload_n 3, 1) := by decide +kernel
theorem dX8_restBy_12 : decode cX8_restBy 12 = .ok (.iload 4, 2) := by decide +kernel
theorem dX8_restBy_14 : decode cX8_restBy 14 = .ok (.invokevirtual 92, 3) := by decide +kernel
theorem dX8_restBy_17 : decode cX8_restBy 17 = .ok (.iadd, 1) := by decide +kernel
theorem dX8_restBy_18 : decode cX8_restBy 18 = .ok (.iaload, 1) := by decide +kernel
theorem dX8_restBy_19 : decode cX8_restBy 19 = .ok (.istore 5, 2) := by decide +kernel
theorem dX8_restBy_21 : decode cX8_restBy 21 = .ok (.iload 5, 2) := by decide +kernel
theorem dX8_restBy_23 : decode cX8_restBy 23 = .ok (.ldc 50, 2) := by decide +kernel
theorem dX8_restBy_25 : decode cX8_restBy 25 = .ok (.if_icmp .ne 6, 3) := by decide +kernel
theorem dX8_restBy_28 : decode cX8_restBy 28 = .ok (.ldc 50, 2) := by decide +kernel
theorem dX8_restBy_30 : decode cX8_restBy 30 = .ok (.ireturn, 1) := by decide +kernel
theorem dX8_restBy_31 : decode cX8_restBy 31 = .ok (.iload 5, 2) := by decide +kernel
theorem dX8_restBy_33 : decode cX8_restBy 33 = .ok (.aload_n 0, 1) := by decide +kernel
theorem dX8_restBy_34 : decode cX8_restBy 34 = .ok (.getfield 22, 3) := by decide +kernel
theorem dX8_restBy_37 : decode cX8_restBy 37 = .ok (.iload_n 2, 1) := by decide +kernel
theorem dX8_restBy_38 : decode cX8_restBy 38 = .ok (.iconst 4, 1) := by decide +kernel
theorem dX8_restBy_39 : decode cX8_restBy 39 = .ok (.imul, 1) := by decide +kernel
theorem dX8_restBy_40 : decode cX8_restBy 40 = .ok (.aload_n 1, 1) := by decide +kernel
theorem dX8_restBy_41 : decode cX8_restBy 41 = .ok (.iload_n 3, 1) := by decide +kernel
theorem dX8_restBy_42 : decode cX8_restBy 42 = .ok (.iload 4, 2) := by decide +kernel
theorem dX8_restBy_44 : decode cX8_restBy 44 = .ok (.invokevirtual 95, 3) := by decide +kernel
theorem dX8_restBy_47 : decode cX8_restBy 47 = .ok (.iadd, 1) := by decide +kernel
theorem dX8_restBy_48 : decode cX8_restBy 48 = .ok (.iaload, 1) := by decide +kernel
theorem dX8_restBy_49 : decode cX8_restBy 49 = .ok (.iadd, 1) := by decide +kernel
theorem dX8_restBy_50 : decode cX8_restBy 50 = .ok (.ireturn, 1) := by decide +kernel
theorem dX8_walk_0 : decode cX8_walk 0 = .ok (.iconst 0, 1) := by decide +kernel
theorem dX8_walk_1 : decode cX8_walk 1 = .ok (.istore_n 3, 1) := by decide +kernel
theorem dX8_walk_2 : decode cX8_walk 2 = .ok (.iload_n 3, 1) := by decide +kernel
theorem dX8_walk_3 : decode cX8_walk 3 = .ok (.iload_n 2, 1) := by decide +kernel
theorem dX8_walk_4 : decode cX8_walk 4 = .ok (.if_icmp .ge 74, 3) := by decide +kernel
theorem dX8_walk_7 : decode cX8_walk 7 = .ok (.aload_n 0, 1) := by decide +kernel
theorem dX8_walk_8 : decode cX8_walk 8 = .ok (.getfield 12, 3) := by decide +kernel
theorem dX8_walk_11 : decode cX8_walk 11 = .ok (.invokevirtual 98, 3) := by decide +kernel
theorem dX8_walk_14 : decode cX8_walk 14 = .ok (.istore 4, 2) := by decide +kernel
theorem dX8_walk_16 : decode cX8_walk 16 = .ok (.aload_n 0, 1) := by decide +kernel
theorem dX8_walk_17 : decode cX8_walk 17 = .ok (.aload_n 1, 1) := by decide +kernel
theorem dX8_walk_18 : decode cX8_walk 18 = .ok (.iload_n 3, 1) := by decide +kernel
theorem dX8_walk_19 : decode cX8_walk 19 = .ok (.iload 4, 2) := by decide +kernel
theorem dX8_walk_21 : decode cX8_walk 21 = .ok (.iconst 0, 1) := by decide +kernel
theorem dX8_walk_22 : decode cX8_walk 22 = .ok (.invokevirtual 83, 3) := by decide +kernel
theorem dX8_walk_25 : decode cX8_walk 25 = .ok (.aload_n 0, 1) := by decide +kernel
theorem dX8_walk_26 : decode cX8_walk 26 = .ok (.aload_n 1, 1) := by decide +kernel
theorem dX8_walk_27 : decode cX8_walk 27 = .ok (.iload_n 3, 1) := by decide +kernel
theorem dX8_walk_28 : decode cX8_walk 28 = .ok (.iload 4, 2) := by decide +kernel
theorem dX8_walk_30 : decode cX8_walk 30 = .ok (.iconst 1, 1) := by decide +kernel
theorem dX8_walk_31 : decode cX8_walk 31 = .ok (.invokevirtual 83, 3) := by decide +kernel
theorem dX8_walk_34 : decode cX8_walk 34 = .ok (.if_icmp .gt 7, 3) := by decide +kernel
theorem dX8_walk_37 : decode cX8_walk 37 = .ok (.iconst 0, 1) := by decide +kernel
theorem dX8_walk_38 : decode cX8_walk 38 = .ok (.goto 4, 3) := by decide +kernel
theorem dX8_walk_41 : decode cX8_walk 41 = .ok (.iconst 1, 1) := by decide +kernel
theorem dX8_walk_42 : decode cX8_walk 42 = .ok (.istore 5, 2) := by decide +kernel
theorem dX8_walk_44 : decode cX8_walk 44 = .ok (.aload_n 0, 1) := by decide +kernel
theorem dX8_walk_45 : decode cX8_walk 45 = .ok (.getfield 12, 3) := by decide +kernel
theorem dX8_walk_48 : decode cX8_walk 48 = .ok (.aload_n 1, 1) := by decide +kernel
theorem dX8_walk_49 : decode cX8_walk 49 = .ok (.iload 5, 2) := by decide +kernel
theorem dX8_walk_51 : decode cX8_walk 51 = .ok (.aload_n 0, 1) := by decide +kernel
theorem dX8_walk_52 : decode cX8_walk 52 = .ok (.getfield 18, 3) := by decide +kernel
theorem dX8_walk_55 : decode cX8_walk 55 = .ok (.iload_n 3, 1) := by decide +kernel
theorem dX8_walk_56 : decode cX8_walk 56 = .ok (.iconst 4, 1) := by decide +kernel
theorem dX8_walk_57 : decode cX8_walk 57 = .ok (.imul, 1) := by decide +kernel
theorem dX8_walk_58 : decode cX8_walk 58 = .ok (.aload_n 1, 1) := by decide +kernel
theorem dX8_walk_59 : decode cX8_walk 59 = .ok (.iload 4, 2) := by decide +kernel
theorem dX8_walk_61 : decode cX8_walk 61 = .ok (.iload 5, 2) := by decide +kernel
theorem dX8_walk_63 : decode cX8_walk 63 = .ok (.invokevirtual 95, 3) := by decide +kernel
theorem dX8_walk_66 : decode cX8_walk 66 = .ok (.iadd, 1) := by decide +kernel
theorem dX8_walk_67 : decode cX8_walk 67 = .ok (.iaload, 1) := by decide +kernel
theorem dX8_walk_68 : decode cX8_walk 68 = .ok (.invokevirtual 101, 3) := by decide +kernel
theorem dX8_walk_71 : decode cX8_walk 71 = .ok (.pop, 1) := by decide +kernel
theorem dX8_walk_72 : decode cX8_walk 72 = .ok (.iinc 3 1, 3) := by decide +kernel
theorem dX8_walk_75 : decode cX8_walk 75 = .ok (.goto (-73), 3) := by decide +kernel
theorem dX8_walk_78 : decode cX8_walk 78 = .ok (.return_, 1) := by decide +kernel
end
section
theorem dX9_init_0 : decode cX9_init 0 = .ok (.aload_n 0, 1) := by decide +kernel
theorem dX9_init_1 : decode cX9_init 1 = .ok (.invokespecial 3, 3) := by decide +kernel
theorem dX9_init_4 : decode cX9_init 4 = .ok (.aload_n 0, 1) := by decide +kernel
theorem dX9_init_5 : decode cX9_init 5 = .ok (.sipush 256, 3) := by decide +kernel
theorem dX9_init_8 : decode cX9_init 8 = .ok (.newarray .int, 2) := by decide +kernel
theorem dX9_init_10 : decode cX9_init 10 = .ok (.putfield 11, 3) := by decide +kernel
theorem dX9_init_13 : decode cX9_init 13 = .ok (.return_, 1) := by decide +kernel
theorem dX9_holdsFor_0 : decode cX9_holdsFor 0 = .ok (.iconst 1, 1) := by decide +kernel
theorem dX9_holdsFor_1 : decode cX9_holdsFor 1 = .ok (.aload_n 1, 1) := by decide +kernel
theorem dX9_holdsFor_2 : decode cX9_holdsFor 2 = .ok (.invokevirtual 15, 3) := by decide +kernel
theorem dX9_holdsFor_5 : decode cX9_holdsFor 5 = .ok (.ishl, 1) := by decide +kernel
theorem dX9_holdsFor_6 : decode cX9_holdsFor 6 = .ok (.iconst 1, 1) := by decide +kernel
theorem dX9_holdsFor_7 : decode cX9_holdsFor 7 = .ok (.isub, 1) := by decide +kernel
theorem dX9_holdsFor_8 : decode cX9_holdsFor 8 = .ok (.istore_n 2, 1) := by decide +kernel
theorem dX9_holdsFor_9 : decode cX9_holdsFor 9 = .ok (.aload_n 0, 1) := by decide +kernel
theorem dX9_holdsFor_10 : decode cX9_holdsFor 10 = .ok (.getfield 11, 3) := by decide +kernel
theorem dX9_holdsFor_13 : decode cX9_holdsFor 13 = .ok (.iconst 0, 1) := by decide +kernel
theorem dX9_holdsFor_14 : decode cX9_holdsFor 14 = .ok (.invokestatic 21, 3) := by decide +kernel
theorem dX9_holdsFor_17 : decode cX9_holdsFor 17 = .ok (.aload_n 0, 1) := by decide +kernel
theorem dX9_holdsFor_18 : decode cX9_holdsFor 18 = .ok (.getfield 11, 3) := by decide +kernel
theorem dX9_holdsFor_21 : decode cX9_holdsFor 21 = .ok (.iload_n 2, 1) := by decide +kernel
theorem dX9_holdsFor_22 : decode cX9_holdsFor 22 = .ok (.iload_n 2, 1) := by decide +kernel
theorem dX9_holdsFor_23 : decode cX9_holdsFor 23 = .ok (.iastore, 1) := by decide +kernel
theorem dX9_holdsFor_24 : decode cX9_holdsFor 24 = .ok (.aload_n 0, 1) := by decide +kernel
theorem dX9_holdsFor_25 : decode cX9_holdsFor 25 = .ok (.iconst 1, 1) := by decide +kernel
theorem dX9_holdsFor_26 : decode cX9_holdsFor 26 = .ok (.putfield 27, 3) := by decide +kernel
theorem dX9_holdsFor_29 : decode cX9_holdsFor 29 = .ok (.iconst 0, 1) := by decide +kernel
theorem dX9_holdsFor_30 : decode cX9_holdsFor 30 = .ok (.istore_n 3, 1) := by decide +kernel
theorem dX9_holdsFor_31 : decode cX9_holdsFor 31 = .ok (.aload_n 0, 1) := by decide +kernel
theorem dX9_holdsFor_32 : decode cX9_holdsFor 32 = .ok (.getfield 27, 3) := by decide +kernel
theorem dX9_holdsFor_35 : decode cX9_holdsFor 35 = .ok (.ifCond .eq 58, 3) := by decide +kernel
theorem dX9_holdsFor_38 : decode cX9_holdsFor 38 = .ok (.iload_n 3, 1) := by decide +kernel
theorem dX9_holdsFor_39 : decode cX9_holdsFor 39 = .ok (.sipush 2048, 3) := by decide +kernel
theorem dX9_holdsFor_42 : decode cX9_holdsFor 42 = .ok (.if_icmp .gt 51, 3) := by decide +kernel
theorem dX9_holdsFor_45 : decode cX9_holdsFor 45 = .ok (.aload_n 0, 1) := by decide +kernel
theorem dX9_holdsFor_46 : decode cX9_holdsFor 46 = .ok (.iconst 0, 1) := by decide +kernel
theorem dX9_holdsFor_47 : decode cX9_holdsFor 47 = .ok (.putfield 27, 3) := by decide +kernel
theorem dX9_holdsFor_50 : decode cX9_holdsFor 50 = .ok (.iconst 1, 1) := by decide +kernel
theorem dX9_holdsFor_51 : decode cX9_holdsFor 51 = .ok (.istore 4, 2) := by decide +kernel
theorem dX9_holdsFor_53 : decode cX9_holdsFor 53 = .ok (.iload 4, 2) := by decide +kernel
theorem dX9_holdsFor_55 : decode cX9_holdsFor 55 = .ok (.iload_n 2, 1) := by decide +kernel
theorem dX9_holdsFor_56 : decode cX9_holdsFor 56 = .ok (.if_icmp .gt 31, 3) := by decide +kernel
theorem dX9_holdsFor_59 : decode cX9_holdsFor 59 = .ok (.aload_n 0, 1) := by decide +kernel
theorem dX9_holdsFor_60 : decode cX9_holdsFor 60 = .ok (.getfield 11, 3) := by decide +kernel
theorem dX9_holdsFor_63 : decode cX9_holdsFor 63 = .ok (.iload 4, 2) := by decide +kernel
theorem dX9_holdsFor_65 : decode cX9_holdsFor 65 = .ok (.iaload, 1) := by decide +kernel
theorem dX9_holdsFor_66 : decode cX9_holdsFor 66 = .ok (.ifCond .eq 15, 3) := by decide +kernel
theorem dX9_holdsFor_69 : decode cX9_holdsFor 69 = .ok (.aload_n 0, 1) := by decide +kernel
theorem dX9_holdsFor_70 : decode cX9_holdsFor 70 = .ok (.aload_n 1, 1) := by decide +kernel
theorem dX9_holdsFor_71 : decode cX9_holdsFor 71 = .ok (.iload 4, 2) := by decide +kernel
theorem dX9_holdsFor_73 : decode cX9_holdsFor 73 = .ok (.invokevirtual 31, 3) := by decide +kernel
theorem dX9_holdsFor_76 : decode cX9_holdsFor 76 = .ok (.ifCond .ne 5, 3) := by decide +kernel
theorem dX9_holdsFor_79 : decode cX9_holdsFor 79 = .ok (.iconst 0, 1) := by decide +kernel
theorem dX9_holdsFor_80 : decode cX9_holdsFor 80 = .ok (.ireturn, 1) := by decide +kernel
theorem dX9_holdsFor_81 : decode cX9_holdsFor 81 = .ok (.iinc 4 1, 3) := by decide +kernel
theorem dX9_holdsFor_84 : decode cX9_holdsFor 84 = .ok (.goto (-31), 3) := by decide +kernel
theorem dX9_holdsFor_87 : decode cX9_holdsFor 87 = .ok (.iinc 3 1, 3) := by decide +kernel
theorem dX9_holdsFor_90 : decode cX9_holdsFor 90 = .ok (.goto (-59), 3) := by decide +kernel
theorem dX9_holdsFor_93 : decode cX9_holdsFor 93 = .ok (.iconst 1, 1) := by decide +kernel
theorem dX9_holdsFor_94 : decode cX9_holdsFor 94 = .ok (.ireturn, 1) := by decide +kernel
theorem dX9_carryOn_0 : decode cX9_carryOn 0 = .ok (.iconst 0, 1) := by decide +kernel
theorem dX9_carryOn_1 : decode cX9_carryOn 1 = .ok (.istore_n 3, 1) := by decide +kernel
theorem dX9_carryOn_2 : decode cX9_carryOn 2 = .ok (.iload_n 3, 1) := by decide +kernel
theorem dX9_carryOn_3 : decode cX9_carryOn 3 = .ok (.aload_n 1, 1) := by decide +kernel
theorem dX9_carryOn_4 : decode cX9_carryOn 4 = .ok (.invokevirtual 15, 3) := by decide +kernel
theorem dX9_carryOn_7 : decode cX9_carryOn 7 = .ok (.if_icmp .ge 77, 3) := by decide +kernel
theorem dX9_carryOn_10 : decode cX9_carryOn 10 = .ok (.aload_n 0, 1) := by decide +kernel
theorem dX9_carryOn_11 : decode cX9_carryOn 11 = .ok (.getfield 11, 3) := by decide +kernel
theorem dX9_carryOn_14 : decode cX9_carryOn 14 = .ok (.iload_n 2, 1) := by decide +kernel
theorem dX9_carryOn_15 : decode cX9_carryOn 15 = .ok (.iaload, 1) := by decide +kernel
theorem dX9_carryOn_16 : decode cX9_carryOn 16 = .ok (.iload_n 3, 1) := by decide +kernel
theorem dX9_carryOn_17 : decode cX9_carryOn 17 = .ok (.ishr, 1) := by decide +kernel
theorem dX9_carryOn_18 : decode cX9_carryOn 18 = .ok (.iconst 1, 1) := by decide +kernel
theorem dX9_carryOn_19 : decode cX9_carryOn 19 = .ok (.iand, 1) := by decide +kernel
theorem dX9_carryOn_20 : decode cX9_carryOn 20 = .ok (.ifCond .ne 6, 3) := by decide +kernel
theorem dX9_carryOn_23 : decode cX9_carryOn 23 = .ok (.goto 55, 3) := by decide +kernel
theorem dX9_carryOn_26 : decode cX9_carryOn 26 = .ok (.iconst 0, 1) := by decide +kernel
theorem dX9_carryOn_27 : decode cX9_carryOn 27 = .ok (.istore 4, 2) := by decide +kernel
theorem dX9_carryOn_29 : decode cX9_carryOn 29 = .ok (.iload 4, 2) := by decide +kernel
theorem dX9_carryOn_31 : decode cX9_carryOn 31 = .ok (.iconst 2, 1) := by decide +kernel
theorem dX9_carryOn_32 : decode cX9_carryOn 32 = .ok (.if_icmp .ge 46, 3) := by decide +kernel
theorem dX9_carryOn_35 : decode cX9_carryOn 35 = .ok (.aload_n 1, 1) := by decide +kernel
theorem dX9_carryOn_36 : decode cX9_carryOn 36 = .ok (.iload_n 2, 1) := by decide +kernel
theorem dX9_carryOn_37 : decode cX9_carryOn 37 = .ok (.aload_n 1, 1) := by decide +kernel
theorem dX9_carryOn_38 : decode cX9_carryOn 38 = .ok (.iload_n 3, 1) := by decide +kernel
theorem dX9_carryOn_39 : decode cX9_carryOn 39 = .ok (.iload 4, 2) := by decide +kernel
theorem dX9_carryOn_41 : decode cX9_carryOn 41 = .ok (.invokevirtual 35, 3) := by decide +kernel
theorem dX9_carryOn_44 : decode cX9_carryOn 44 = .ok (.invokestatic 39, 3) := by decide +kernel
theorem dX9_carryOn_47 : decode cX9_carryOn 47 = .ok (.invokestatic 45, 3) := by decide +kernel
theorem dX9_carryOn_50 : decode cX9_carryOn 50 = .ok (.istore 5, 2) := by decide +kernel
theorem dX9_carryOn_52 : decode cX9_carryOn 52 = .ok (.iload 5, 2) := by decide +kernel
theorem dX9_carryOn_54 : decode cX9_carryOn 54 = .ok (.ifCond .ne 5, 3) := by decide +kernel
theorem dX9_carryOn_57 : decode cX9_carryOn 57 = .ok (.iconst 0, 1) := by decide +kernel
theorem dX9_carryOn_58 : decode cX9_carryOn 58 = .ok (.ireturn, 1) := by decide +kernel
theorem dX9_carryOn_59 : decode cX9_carryOn 59 = .ok (.aload_n 0, 1) := by decide +kernel
theorem dX9_carryOn_60 : decode cX9_carryOn 60 = .ok (.iload 5, 2) := by decide +kernel
theorem dX9_carryOn_62 : decode cX9_carryOn 62 = .ok (.aload_n 1, 1) := by decide +kernel
theorem dX9_carryOn_63 : decode cX9_carryOn 63 = .ok (.iload_n 3, 1) := by decide +kernel
theorem dX9_carryOn_64 : decode cX9_carryOn 64 = .ok (.iload 4, 2) := by decide +kernel
theorem dX9_carryOn_66 : decode cX9_carryOn 66 = .ok (.invokevirtual 49, 3) := by decide +kernel
theorem dX9_carryOn_69 : decode cX9_carryOn 69 = .ok (.invokevirtual 52, 3) := by decide +kernel
theorem dX9_carryOn_72 : decode cX9_carryOn 72 = .ok (.iinc 4 1, 3) := by decide +kernel
theorem dX9_carryOn_75 : decode cX9_carryOn 75 = .ok (.goto (-46), 3) := by decide +kernel
theorem dX9_carryOn_78 : decode cX9_carryOn 78 = .ok (.iinc 3 1, 3) := by decide +kernel
theorem dX9_carryOn_81 : decode cX9_carryOn 81 = .ok (.goto (-79), 3) := by decide +kernel
theorem dX9_carryOn_84 : decode cX9_carryOn 84 = .ok (.iconst 1, 1) := by decide +kernel
theorem dX9_carryOn_85 : decode cX9_carryOn 85 = .ok (.ireturn, 1) := by decide +kernel
theorem dX9_mark_0 : decode cX9_mark 0 = .ok (.aload_n 0, 1) := by decide +kernel
theorem dX9_mark_1 : decode cX9_mark 1 = .ok (.getfield 11, 3) := by decide +kernel
theorem dX9_mark_4 : decode cX9_mark 4 = .ok (.iload_n 1, 1) := by decide +kernel
theorem dX9_mark_5 : decode cX9_mark 5 = .ok (.iaload, 1) := by decide +kernel
theorem dX9_mark_6 : decode cX9_mark 6 = .ok (.iload_n 2, 1) := by decide +kernel
theorem dX9_mark_7 : decode cX9_mark 7 = .ok (.ishr, 1) := by decide +kernel
theorem dX9_mark_8 : decode cX9_mark 8 = .ok (.iconst 1, 1) := by decide +kernel
theorem dX9_mark_9 : decode cX9_mark 9 = .ok (.iand, 1) := by decide +kernel
theorem dX9_mark_10 : decode cX9_mark 10 = .ok (.ifCond .ne 20, 3) := by decide +kernel
theorem dX9_mark_13 : decode cX9_mark 13 = .ok (.aload_n 0, 1) := by decide +kernel
theorem dX9_mark_14 : decode cX9_mark 14 = .ok (.getfield 11, 3) := by decide +kernel
theorem dX9_mark_17 : decode cX9_mark 17 = .ok (.iload_n 1, 1) := by decide +kernel
theorem dX9_mark_18 : decode cX9_mark 18 = .ok (.dup2, 1) := by decide +kernel
theorem dX9_mark_19 : decode cX9_mark 19 = .ok (.iaload, 1) := by decide +kernel
theorem dX9_mark_20 : decode cX9_mark 20 = .ok (.iconst 1, 1) := by decide +kernel
theorem dX9_mark_21 : decode cX9_mark 21 = .ok (.iload_n 2, 1) := by decide +kernel
theorem dX9_mark_22 : decode cX9_mark 22 = .ok (.ishl, 1) := by decide +kernel
theorem dX9_mark_23 : decode cX9_mark 23 = .ok (.ior, 1) := by decide +kernel
theorem dX9_mark_24 : decode cX9_mark 24 = .ok (.iastore, 1) := by decide +kernel
theorem dX9_mark_25 : decode cX9_mark 25 = .ok (.aload_n 0, 1) := by decide +kernel
theorem dX9_mark_26 : decode cX9_mark 26 = .ok (.iconst 1, 1) := by decide +kernel
theorem dX9_mark_27 : decode cX9_mark 27 = .ok (.putfield 27, 3) := by decide +kernel
theorem dX9_mark_30 : decode cX9_mark 30 = .ok (.return_, 1) := by decide +kernel
theorem dX9_follow_0 : decode cX9_follow 0 = .ok (.iconst 0, 1) := by decide +kernel
theorem dX9_follow_1 : decode cX9_follow 1 = .ok (.istore_n 3, 1) := by decide +kernel
theorem dX9_follow_2 : decode cX9_follow 2 = .ok (.iconst 0, 1) := by decide +kernel
theorem dX9_follow_3 : decode cX9_follow 3 = .ok (.istore 4, 2) := by decide +kernel
theorem dX9_follow_5 : decode cX9_follow 5 = .ok (.iload 4, 2) := by decide +kernel
theorem dX9_follow_7 : decode cX9_follow 7 = .ok (.aload_n 0, 1) := by decide +kernel
theorem dX9_follow_8 : decode cX9_follow 8 = .ok (.invokevirtual 15, 3) := by decide +kernel
theorem dX9_follow_11 : decode cX9_follow 11 = .ok (.if_icmp .ge 59, 3) := by decide +kernel
theorem dX9_follow_14 : decode cX9_follow 14 = .ok (.iconst 0, 1) := by decide +kernel
theorem dX9_follow_15 : decode cX9_follow 15 = .ok (.istore 5, 2) := by decide +kernel
theorem dX9_follow_17 : decode cX9_follow 17 = .ok (.iload 5, 2) := by decide +kernel
theorem dX9_follow_19 : decode cX9_follow 19 = .ok (.iconst 2, 1) := by decide +kernel
theorem dX9_follow_20 : decode cX9_follow 20 = .ok (.if_icmp .ge 44, 3) := by decide +kernel
theorem dX9_follow_23 : decode cX9_follow 23 = .ok (.iload_n 1, 1) := by decide +kernel
theorem dX9_follow_24 : decode cX9_follow 24 = .ok (.iload 4, 2) := by decide +kernel
theorem dX9_follow_26 : decode cX9_follow 26 = .ok (.ishr, 1) := by decide +kernel
theorem dX9_follow_27 : decode cX9_follow 27 = .ok (.iconst 1, 1) := by decide +kernel
theorem dX9_follow_28 : decode cX9_follow 28 = .ok (.iand, 1) := by decide +kernel
theorem dX9_follow_29 : decode cX9_follow 29 = .ok (.iconst 1, 1) := by decide +kernel
theorem dX9_follow_30 : decode cX9_follow 30 = .ok (.if_icmp .ne 28, 3) := by decide +kernel
theorem dX9_follow_33 : decode cX9_follow 33 = .ok (.aload_n 0, 1) := by decide +kernel
theorem dX9_follow_34 : decode cX9_follow 34 = .ok (.iload 4, 2) := by decide +kernel
theorem dX9_follow_36 : decode cX9_follow 36 = .ok (.iload 5, 2) := by decide +kernel
theorem dX9_follow_38 : decode cX9_follow 38 = .ok (.invokevirtual 35, 3) := by decide +kernel
theorem dX9_follow_41 : decode cX9_follow 41 = .ok (.iload_n 2, 1) := by decide +kernel
theorem dX9_follow_42 : decode cX9_follow 42 = .ok (.if_icmp .ne 16, 3) := by decide +kernel
theorem dX9_follow_45 : decode cX9_follow 45 = .ok (.iload_n 3, 1) := by decide +kernel
theorem dX9_follow_46 : decode cX9_follow 46 = .ok (.iconst 1, 1) := by decide +kernel
theorem dX9_follow_47 : decode cX9_follow 47 = .ok (.aload_n 0, 1) := by decide +kernel
theorem dX9_follow_48 : decode cX9_follow 48 = .ok (.iload 4, 2) := by decide +kernel
theorem dX9_follow_50 : decode cX9_follow 50 = .ok (.iload 5, 2) := by decide +kernel
theorem dX9_follow_52 : decode cX9_follow 52 = .ok (.invokevirtual 49, 3) := by decide +kernel
theorem dX9_follow_55 : decode cX9_follow 55 = .ok (.ishl, 1) := by decide +kernel
theorem dX9_follow_56 : decode cX9_follow 56 = .ok (.ior, 1) := by decide +kernel
theorem dX9_follow_57 : decode cX9_follow 57 = .ok (.istore_n 3, 1) := by decide +kernel
theorem dX9_follow_58 : decode cX9_follow 58 = .ok (.iinc 5 1, 3) := by decide +kernel
theorem dX9_follow_61 : decode cX9_follow 61 = .ok (.goto (-44), 3) := by decide +kernel
theorem dX9_follow_64 : decode cX9_follow 64 = .ok (.iinc 4 1, 3) := by decide +kernel
theorem dX9_follow_67 : decode cX9_follow 67 = .ok (.goto (-62), 3) := by decide +kernel
theorem dX9_follow_70 : decode cX9_follow 70 = .ok (.iload_n 3, 1) := by decide +kernel
theorem dX9_follow_71 : decode cX9_follow 71 = .ok (.ireturn, 1) := by decide +kernel
end
section
theorem dX10_init_0 : decode cX10_init 0 = .ok (.aload_n 0, 1) := by decide +kernel
theorem dX10_init_1 : decode cX10_init 1 = .ok (.invokespecial 1, 3) := by decide +kernel
theorem dX10_init_4 : decode cX10_init 4 = .ok (.aload_n 0, 1) := by decide +kernel
theorem dX10_init_5 : decode cX10_init 5 = .ok (.new 7, 3) := by decide +kernel
theorem dX10_init_8 : decode cX10_init 8 = .ok (.dup, 1) := by decide +kernel
theorem dX10_init_9 : decode cX10_init 9 = .ok (.invokespecial 9, 3) := by decide +kernel
theorem dX10_init_12 : decode cX10_init 12 = .ok (.putfield 10, 3) := by decide +kernel
theorem dX10_init_15 : decode cX10_init 15 = .ok (.aload_n 0, 1) := by decide +kernel
theorem dX10_init_16 : decode cX10_init 16 = .ok (.new 16, 3) := by decide +kernel
theorem dX10_init_19 : decode cX10_init 19 = .ok (.dup, 1) := by decide +kernel
theorem dX10_init_20 : decode cX10_init 20 = .ok (.invokespecial 18, 3) := by decide +kernel
theorem dX10_init_23 : decode cX10_init 23 = .ok (.putfield 19, 3) := by decide +kernel
theorem dX10_init_26 : decode cX10_init 26 = .ok (.aload_n 0, 1) := by decide +kernel
theorem dX10_init_27 : decode cX10_init 27 = .ok (.iconst 2, 1) := by decide +kernel
theorem dX10_init_28 : decode cX10_init 28 = .ok (.anewarray 7, 3) := by decide +kernel
theorem dX10_init_31 : decode cX10_init 31 = .ok (.putfield 23, 3) := by decide +kernel
theorem dX10_init_34 : decode cX10_init 34 = .ok (.iconst 0, 1) := by decide +kernel
theorem dX10_init_35 : decode cX10_init 35 = .ok (.istore_n 1, 1) := by decide +kernel
theorem dX10_init_36 : decode cX10_init 36 = .ok (.iload_n 1, 1) := by decide +kernel
theorem dX10_init_37 : decode cX10_init 37 = .ok (.iconst 2, 1) := by decide +kernel
theorem dX10_init_38 : decode cX10_init 38 = .ok (.if_icmp .ge 22, 3) := by decide +kernel
theorem dX10_init_41 : decode cX10_init 41 = .ok (.aload_n 0, 1) := by decide +kernel
theorem dX10_init_42 : decode cX10_init 42 = .ok (.getfield 23, 3) := by decide +kernel
theorem dX10_init_45 : decode cX10_init 45 = .ok (.iload_n 1, 1) := by decide +kernel
theorem dX10_init_46 : decode cX10_init 46 = .ok (.new 7, 3) := by decide +kernel
theorem dX10_init_49 : decode cX10_init 49 = .ok (.dup, 1) := by decide +kernel
theorem dX10_init_50 : decode cX10_init 50 = .ok (.invokespecial 9, 3) := by decide +kernel
theorem dX10_init_53 : decode cX10_init 53 = .ok (.aastore, 1) := by decide +kernel
theorem dX10_init_54 : decode cX10_init 54 = .ok (.iinc 1 1, 3) := by decide +kernel
theorem dX10_init_57 : decode cX10_init 57 = .ok (.goto (-21), 3) := by decide +kernel
theorem dX10_init_60 : decode cX10_init 60 = .ok (.aload_n 0, 1) := by decide +kernel
theorem dX10_init_61 : decode cX10_init 61 = .ok (.iconst 2, 1) := by decide +kernel
theorem dX10_init_62 : decode cX10_init 62 = .ok (.newarray .boolean, 2) := by decide +kernel
theorem dX10_init_64 : decode cX10_init 64 = .ok (.putfield 27, 3) := by decide +kernel
theorem dX10_init_67 : decode cX10_init 67 = .ok (.aload_n 0, 1) := by decide +kernel
theorem dX10_init_68 : decode cX10_init 68 = .ok (.new 31, 3) := by decide +kernel
theorem dX10_init_71 : decode cX10_init 71 = .ok (.dup, 1) := by decide +kernel
theorem dX10_init_72 : decode cX10_init 72 = .ok (.invokespecial 33, 3) := by decide +kernel
theorem dX10_init_75 : decode cX10_init 75 = .ok (.putfield 34, 3) := by decide +kernel
theorem dX10_init_78 : decode cX10_init 78 = .ok (.aload_n 0, 1) := by decide +kernel
theorem dX10_init_79 : decode cX10_init 79 = .ok (.new 38, 3) := by decide +kernel
theorem dX10_init_82 : decode cX10_init 82 = .ok (.dup, 1) := by decide +kernel
theorem dX10_init_83 : decode cX10_init 83 = .ok (.invokespecial 40, 3) := by decide +kernel
theorem dX10_init_86 : decode cX10_init 86 = .ok (.putfield 41, 3) := by decide +kernel
theorem dX10_init_89 : decode cX10_init 89 = .ok (.aload_n 0, 1) := by decide +kernel
theorem dX10_init_90 : decode cX10_init 90 = .ok (.new 45, 3) := by decide +kernel
theorem dX10_init_93 : decode cX10_init 93 = .ok (.dup, 1) := by decide +kernel
theorem dX10_init_94 : decode cX10_init 94 = .ok (.invokespecial 47, 3) := by decide +kernel
theorem dX10_init_97 : decode cX10_init 97 = .ok (.putfield 48, 3) := by decide +kernel
theorem dX10_init_100 : decode cX10_init 100 = .ok (.return_, 1) := by decide +kernel
theorem dX10_code_0 : decode cX10_code 0 = .ok (.iload_n 1, 1) := by decide +kernel
theorem dX10_code_1 : decode cX10_code 1 = .ok (.iconst 1, 1) := by decide +kernel
theorem dX10_code_2 : decode cX10_code 2 = .ok (.if_icmp .lt 8, 3) := by decide +kernel
theorem dX10_code_5 : decode cX10_code 5 = .ok (.iload_n 1, 1) := by decide +kernel
theorem dX10_code_6 : decode cX10_code 6 = .ok (.iconst 3, 1) := by decide +kernel
theorem dX10_code_7 : decode cX10_code 7 = .ok (.if_icmp .le 6, 3) := by decide +kernel
theorem dX10_code_10 : decode cX10_code 10 = .ok (.ldc 52, 2) := by decide +kernel
theorem dX10_code_12 : decode cX10_code 12 = .ok (.ireturn, 1) := by decide +kernel
theorem dX10_code_13 : decode cX10_code 13 = .ok (.iconst 1, 1) := by decide +kernel
theorem dX10_code_14 : decode cX10_code 14 = .ok (.iload_n 1, 1) := by decide +kernel
theorem dX10_code_15 : decode cX10_code 15 = .ok (.iconst 1, 1) := by decide +kernel
theorem dX10_code_16 : decode cX10_code 16 = .ok (.iadd, 1) := by decide +kernel
theorem dX10_code_17 : decode cX10_code 17 = .ok (.ishl, 1) := by decide +kernel
theorem dX10_code_18 : decode cX10_code 18 = .ok (.iconst 1, 1) := by decide +kernel
theorem dX10_code_19 : decode cX10_code 19 = .ok (.isub, 1) := by decide +kernel
theorem dX10_code_20 : decode cX10_code 20 = .ok (.istore 4, 2) := by decide +kernel
theorem dX10_code_22 : decode cX10_code 22 = .ok (.iload_n 2, 1) := by decide +kernel
theorem dX10_code_23 : decode cX10_code 23 = .ok (.iconst 1, 1) := by decide +kernel
theorem dX10_code_24 : decode cX10_code 24 = .ok (.iload 4, 2) := by decide +kernel
theorem dX10_code_26 : decode cX10_code 26 = .ok (.invokestatic 53, 3) := by decide +kernel
theorem dX10_code_29 : decode cX10_code 29 = .ok (.ifCond .ne 13, 3) := by decide +kernel
theorem dX10_code_32 : decode cX10_code 32 = .ok (.iload_n 3, 1) := by decide +kernel
theorem dX10_code_33 : decode cX10_code 33 = .ok (.iconst 1, 1) := by decide +kernel
theorem dX10_code_34 : decode cX10_code 34 = .ok (.iload 4, 2) := by decide +kernel
theorem dX10_code_36 : decode cX10_code 36 = .ok (.invokestatic 53, 3) := by decide +kernel
theorem dX10_code_39 : decode cX10_code 39 = .ok (.ifCond .eq 6, 3) := by decide +kernel
theorem dX10_code_42 : decode cX10_code 42 = .ok (.ldc 52, 2) := by decide +kernel
theorem dX10_code_44 : decode cX10_code 44 = .ok (.ireturn, 1) := by decide +kernel
theorem dX10_code_45 : decode cX10_code 45 = .ok (.aload_n 0, 1) := by decide +kernel
theorem dX10_code_46 : decode cX10_code 46 = .ok (.getfield 19, 3) := by decide +kernel
theorem dX10_code_49 : decode cX10_code 49 = .ok (.aload_n 0, 1) := by decide +kernel
theorem dX10_code_50 : decode cX10_code 50 = .ok (.getfield 10, 3) := by decide +kernel
theorem dX10_code_53 : decode cX10_code 53 = .ok (.invokevirtual 57, 3) := by decide +kernel
theorem dX10_code_56 : decode cX10_code 56 = .ok (.aload_n 0, 1) := by decide +kernel
theorem dX10_code_57 : decode cX10_code 57 = .ok (.getfield 10, 3) := by decide +kernel
theorem dX10_code_60 : decode cX10_code 60 = .ok (.getfield 61, 3) := by decide +kernel
theorem dX10_code_63 : decode cX10_code 63 = .ok (.iload_n 1, 1) := by decide +kernel
theorem dX10_code_64 : decode cX10_code 64 = .ok (.iload_n 2, 1) := by decide +kernel
theorem dX10_code_65 : decode cX10_code 65 = .ok (.iload_n 3, 1) := by decide +kernel
theorem dX10_code_66 : decode cX10_code 66 = .ok (.invokevirtual 65, 3) := by decide +kernel
theorem dX10_code_69 : decode cX10_code 69 = .ok (.aload_n 0, 1) := by decide +kernel
theorem dX10_code_70 : decode cX10_code 70 = .ok (.getfield 10, 3) := by decide +kernel
theorem dX10_code_73 : decode cX10_code 73 = .ok (.invokevirtual 71, 3) := by decide +kernel
theorem dX10_code_76 : decode cX10_code 76 = .ok (.aload_n 0, 1) := by decide +kernel
theorem dX10_code_77 : decode cX10_code 77 = .ok (.getfield 10, 3) := by decide +kernel
theorem dX10_code_80 : decode cX10_code 80 = .ok (.iconst (-1), 1) := by decide +kernel
theorem dX10_code_81 : decode cX10_code 81 = .ok (.putfield 74, 3) := by decide +kernel
theorem dX10_code_84 : decode cX10_code 84 = .ok (.aload_n 0, 1) := by decide +kernel
theorem dX10_code_85 : decode cX10_code 85 = .ok (.getfield 10, 3) := by decide +kernel
theorem dX10_code_88 : decode cX10_code 88 = .ok (.getfield 61, 3) := by decide +kernel
theorem dX10_code_91 : decode cX10_code 91 = .ok (.invokevirtual 78, 3) := by decide +kernel
theorem dX10_code_94 : decode cX10_code 94 = .ok (.ireturn, 1) := by decide +kernel
theorem dX10_send_0 : decode cX10_send 0 = .ok (.iload_n 1, 1) := by decide +kernel
theorem dX10_send_1 : decode cX10_send 1 = .ok (.iconst 0, 1) := by decide +kernel
theorem dX10_send_2 : decode cX10_send 2 = .ok (.iconst 1, 1) := by decide +kernel
theorem dX10_send_3 : decode cX10_send 3 = .ok (.invokestatic 53, 3) := by decide +kernel
theorem dX10_send_6 : decode cX10_send 6 = .ok (.ifCond .ne 12, 3) := by decide +kernel
theorem dX10_send_9 : decode cX10_send 9 = .ok (.iload_n 2, 1) := by decide +kernel
theorem dX10_send_10 : decode cX10_send 10 = .ok (.iconst 0, 1) := by decide +kernel
theorem dX10_send_11 : decode cX10_send 11 = .ok (.iconst 3, 1) := by decide +kernel
theorem dX10_send_12 : decode cX10_send 12 = .ok (.invokestatic 53, 3) := by decide +kernel
theorem dX10_send_15 : decode cX10_send 15 = .ok (.ifCond .eq 6, 3) := by decide +kernel
theorem dX10_send_18 : decode cX10_send 18 = .ok (.ldc 52, 2) := by decide +kernel
theorem dX10_send_20 : decode cX10_send 20 = .ok (.ireturn, 1) := by decide +kernel
theorem dX10_send_21 : decode cX10_send 21 = .ok (.aload_n 0, 1) := by decide +kernel
theorem dX10_send_22 : decode cX10_send 22 = .ok (.getfield 10, 3) := by decide +kernel
theorem dX10_send_25 : decode cX10_send 25 = .ok (.getfield 82, 3) := by decide +kernel
theorem dX10_send_28 : decode cX10_send 28 = .ok (.invokevirtual 86, 3) := by decide +kernel
theorem dX10_send_31 : decode cX10_send 31 = .ok (.ifCond .eq 6, 3) := by decide +kernel
theorem dX10_send_34 : decode cX10_send 34 = .ok (.ldc 92, 2) := by decide +kernel
theorem dX10_send_36 : decode cX10_send 36 = .ok (.ireturn, 1) := by decide +kernel
theorem dX10_send_37 : decode cX10_send 37 = .ok (.aload_n 0, 1) := by decide +kernel
theorem dX10_send_38 : decode cX10_send 38 = .ok (.getfield 19, 3) := by decide +kernel
theorem dX10_send_41 : decode cX10_send 41 = .ok (.aload_n 0, 1) := by decide +kernel
theorem dX10_send_42 : decode cX10_send 42 = .ok (.getfield 10, 3) := by decide +kernel
theorem dX10_send_45 : decode cX10_send 45 = .ok (.invokevirtual 57, 3) := by decide +kernel
theorem dX10_send_48 : decode cX10_send 48 = .ok (.aload_n 0, 1) := by decide +kernel
theorem dX10_send_49 : decode cX10_send 49 = .ok (.getfield 10, 3) := by decide +kernel
theorem dX10_send_52 : decode cX10_send 52 = .ok (.getfield 82, 3) := by decide +kernel
theorem dX10_send_55 : decode cX10_send 55 = .ok (.aload_n 0, 1) := by decide +kernel
theorem dX10_send_56 : decode cX10_send 56 = .ok (.getfield 10, 3) := by decide +kernel
theorem dX10_send_59 : decode cX10_send 59 = .ok (.getfield 61, 3) := by decide +kernel
theorem dX10_send_62 : decode cX10_send 62 = .ok (.iload_n 1, 1) := by decide +kernel
theorem dX10_send_63 : decode cX10_send 63 = .ok (.iload_n 2, 1) := by decide +kernel
theorem dX10_send_64 : decode cX10_send 64 = .ok (.invokevirtual 93, 3) := by decide +kernel
theorem dX10_send_67 : decode cX10_send 67 = .ok (.ireturn, 1) := by decide +kernel
theorem dX10_hear_0 : decode cX10_hear 0 = .ok (.iload_n 1, 1) := by decide +kernel
theorem dX10_hear_1 : decode cX10_hear 1 = .ok (.bipush (-99), 2) := by decide +kernel
theorem dX10_hear_3 : decode cX10_hear 3 = .ok (.bipush 99, 2) := by decide +kernel
theorem dX10_hear_5 : decode cX10_hear 5 = .ok (.invokestatic 53, 3) := by decide +kernel
theorem dX10_hear_8 : decode cX10_hear 8 = .ok (.ifCond .ne 14, 3) := by decide +kernel
theorem dX10_hear_11 : decode cX10_hear 11 = .ok (.iload_n 2, 1) := by decide +kernel
theorem dX10_hear_12 : decode cX10_hear 12 = .ok (.bipush (-99), 2) := by decide +kernel
theorem dX10_hear_14 : decode cX10_hear 14 = .ok (.bipush 99, 2) := by decide +kernel
theorem dX10_hear_16 : decode cX10_hear 16 = .ok (.invokestatic 53, 3) := by decide +kernel
theorem dX10_hear_19 : decode cX10_hear 19 = .ok (.ifCond .eq 6, 3) := by decide +kernel
theorem dX10_hear_22 : decode cX10_hear 22 = .ok (.ldc 52, 2) := by decide +kernel
theorem dX10_hear_24 : decode cX10_hear 24 = .ok (.ireturn, 1) := by decide +kernel
theorem dX10_hear_25 : decode cX10_hear 25 = .ok (.aload_n 0, 1) := by decide +kernel
theorem dX10_hear_26 : decode cX10_hear 26 = .ok (.getfield 10, 3) := by decide +kernel
theorem dX10_hear_29 : decode cX10_hear 29 = .ok (.getfield 97, 3) := by decide +kernel
theorem dX10_hear_32 : decode cX10_hear 32 = .ok (.invokevirtual 101, 3) := by decide +kernel
theorem dX10_hear_35 : decode cX10_hear 35 = .ok (.ifCond .eq 6, 3) := by decide +kernel
theorem dX10_hear_38 : decode cX10_hear 38 = .ok (.ldc 92, 2) := by decide +kernel
theorem dX10_hear_40 : decode cX10_hear 40 = .ok (.ireturn, 1) := by decide +kernel
theorem dX10_hear_41 : decode cX10_hear 41 = .ok (.aload_n 0, 1) := by decide +kernel
theorem dX10_hear_42 : decode cX10_hear 42 = .ok (.getfield 19, 3) := by decide +kernel
theorem dX10_hear_45 : decode cX10_hear 45 = .ok (.aload_n 0, 1) := by decide +kernel
theorem dX10_hear_46 : decode cX10_hear 46 = .ok (.getfield 10, 3) := by decide +kernel
theorem dX10_hear_49 : decode cX10_hear 49 = .ok (.invokevirtual 57, 3) := by decide +kernel
theorem dX10_hear_52 : decode cX10_hear 52 = .ok (.aload_n 0, 1) := by decide +kernel
theorem dX10_hear_53 : decode cX10_hear 53 = .ok (.getfield 10, 3) := by decide +kernel
theorem dX10_hear_56 : decode cX10_hear 56 = .ok (.getfield 97, 3) := by decide +kernel
theorem dX10_hear_59 : decode cX10_hear 59 = .ok (.iload_n 1, 1) := by decide +kernel
theorem dX10_hear_60 : decode cX10_hear 60 = .ok (.iload_n 2, 1) := by decide +kernel
theorem dX10_hear_61 : decode cX10_hear 61 = .ok (.invokevirtual 104, 3) := by decide +kernel
theorem dX10_hear_64 : decode cX10_hear 64 = .ok (.aload_n 0, 1) := by decide +kernel
theorem dX10_hear_65 : decode cX10_hear 65 = .ok (.getfield 10, 3) := by decide +kernel
theorem dX10_hear_68 : decode cX10_hear 68 = .ok (.getfield 97, 3) := by decide +kernel
theorem dX10_hear_71 : decode cX10_hear 71 = .ok (.getfield 107, 3) := by decide +kernel
theorem dX10_hear_74 : decode cX10_hear 74 = .ok (.ireturn, 1) := by decide +kernel
theorem dX10_drift_0 : decode cX10_drift 0 = .ok (.iload_n 1, 1) := by decide +kernel
theorem dX10_drift_1 : decode cX10_drift 1 = .ok (.iconst 1, 1) := by decide +kernel
theorem dX10_drift_2 : decode cX10_drift 2 = .ok (.bipush 24, 2) := by decide +kernel
theorem dX10_drift_4 : decode cX10_drift 4 = .ok (.invokestatic 53, 3) := by decide +kernel
theorem dX10_drift_7 : decode cX10_drift 7 = .ok (.ifCond .ne 13, 3) := by decide +kernel
theorem dX10_drift_10 : decode cX10_drift 10 = .ok (.iload_n 2, 1) := by decide +kernel
theorem dX10_drift_11 : decode cX10_drift 11 = .ok (.iconst 1, 1) := by decide +kernel
theorem dX10_drift_12 : decode cX10_drift 12 = .ok (.ldc 110, 2) := by decide +kernel
theorem dX10_drift_14 : decode cX10_drift 14 = .ok (.invokestatic 53, 3) := by decide +kernel
theorem dX10_drift_17 : decode cX10_drift 17 = .ok (.ifCond .eq 6, 3) := by decide +kernel
theorem dX10_drift_20 : decode cX10_drift 20 = .ok (.ldc 52, 2) := by decide +kernel
theorem dX10_drift_22 : decode cX10_drift 22 = .ok (.ireturn, 1) := by decide +kernel
theorem dX10_drift_23 : decode cX10_drift 23 = .ok (.aload_n 0, 1) := by decide +kernel
theorem dX10_drift_24 : decode cX10_drift 24 = .ok (.getfield 19, 3) := by decide +kernel
theorem dX10_drift_27 : decode cX10_drift 27 = .ok (.aload_n 0, 1) := by decide +kernel
theorem dX10_drift_28 : decode cX10_drift 28 = .ok (.getfield 10, 3) := by decide +kernel
theorem dX10_drift_31 : decode cX10_drift 31 = .ok (.invokevirtual 57, 3) := by decide +kernel
theorem dX10_drift_34 : decode cX10_drift 34 = .ok (.new 111, 3) := by decide +kernel
theorem dX10_drift_37 : decode cX10_drift 37 = .ok (.dup, 1) := by decide +kernel
theorem dX10_drift_38 : decode cX10_drift 38 = .ok (.iload_n 2, 1) := by decide +kernel
theorem dX10_drift_39 : decode cX10_drift 39 = .ok (.invokespecial 113, 3) := by decide +kernel
theorem dX10_drift_42 : decode cX10_drift 42 = .ok (.astore_n 3, 1) := by decide +kernel
theorem dX10_drift_43 : decode cX10_drift 43 = .ok (.iconst 0, 1) := by decide +kernel
theorem dX10_drift_44 : decode cX10_drift 44 = .ok (.istore 4, 2) := by decide +kernel
theorem dX10_drift_46 : decode cX10_drift 46 = .ok (.iload 4, 2) := by decide +kernel
theorem dX10_drift_48 : decode cX10_drift 48 = .ok (.iload_n 1, 1) := by decide +kernel
theorem dX10_drift_49 : decode cX10_drift 49 = .ok (.if_icmp .ge 120, 3) := by decide +kernel
theorem dX10_drift_52 : decode cX10_drift 52 = .ok (.aload_n 0, 1) := by decide +kernel
theorem dX10_drift_53 : decode cX10_drift 53 = .ok (.getfield 10, 3) := by decide +kernel
theorem dX10_drift_56 : decode cX10_drift 56 = .ok (.getfield 82, 3) := by decide +kernel
theorem dX10_drift_59 : decode cX10_drift 59 = .ok (.invokevirtual 86, 3) := by decide +kernel
theorem dX10_drift_62 : decode cX10_drift 62 = .ok (.ifCond .ne 107, 3) := by decide +kernel
theorem dX10_drift_65 : decode cX10_drift 65 = .ok (.aload_n 0, 1) := by decide +kernel
theorem dX10_drift_66 : decode cX10_drift 66 = .ok (.getfield 10, 3) := by decide +kernel
theorem dX10_drift_69 : decode cX10_drift 69 = .ok (.getfield 97, 3) := by decide +kernel
theorem dX10_drift_72 : decode cX10_drift 72 = .ok (.invokevirtual 101, 3) := by decide +kernel
theorem dX10_drift_75 : decode cX10_drift 75 = .ok (.ifCond .ne 94, 3) := by decide +kernel
theorem dX10_drift_78 : decode cX10_drift 78 = .ok (.aload_n 3, 1) := by decide +kernel
theorem dX10_drift_79 : decode cX10_drift 79 = .ok (.iconst 2, 1) := by decide +kernel
theorem dX10_drift_80 : decode cX10_drift 80 = .ok (.invokevirtual 116, 3) := by decide +kernel
theorem dX10_drift_83 : decode cX10_drift 83 = .ok (.istore 5, 2) := by decide +kernel
theorem dX10_drift_85 : decode cX10_drift 85 = .ok (.aload_n 3, 1) := by decide +kernel
theorem dX10_drift_86 : decode cX10_drift 86 = .ok (.iconst 4, 1) := by decide +kernel
theorem dX10_drift_87 : decode cX10_drift 87 = .ok (.invokevirtual 116, 3) := by decide +kernel
theorem dX10_drift_90 : decode cX10_drift 90 = .ok (.istore 6, 2) := by decide +kernel
theorem dX10_drift_92 : decode cX10_drift 92 = .ok (.aload_n 0, 1) := by decide +kernel
theorem dX10_drift_93 : decode cX10_drift 93 = .ok (.getfield 10, 3) := by decide +kernel
theorem dX10_drift_96 : decode cX10_drift 96 = .ok (.getfield 82, 3) := by decide +kernel
theorem dX10_drift_99 : decode cX10_drift 99 = .ok (.aload_n 0, 1) := by decide +kernel
theorem dX10_drift_100 : decode cX10_drift 100 = .ok (.getfield 10, 3) := by decide +kernel
theorem dX10_drift_103 : decode cX10_drift 103 = .ok (.getfield 61, 3) := by decide +kernel
theorem dX10_drift_106 : decode cX10_drift 106 = .ok (.iload 5, 2) := by decide +kernel
theorem dX10_drift_108 : decode cX10_drift 108 = .ok (.iload 6, 2) := by decide +kernel
theorem dX10_drift_110 : decode cX10_drift 110 = .ok (.invokevirtual 93, 3) := by decide +kernel
theorem dX10_drift_113 : decode cX10_drift 113 = .ok (.istore 7, 2) := by decide +kernel
theorem dX10_drift_115 : decode cX10_drift 115 = .ok (.iload 7, 2) := by decide +kernel
theorem dX10_drift_117 : decode cX10_drift 117 = .ok (.invokestatic 120, 3) := by decide +kernel
theorem dX10_drift_120 : decode cX10_drift 120 = .ok (.aload_n 3, 1) := by decide +kernel
theorem dX10_drift_121 : decode cX10_drift 121 = .ok (.bipush 25, 2) := by decide +kernel
theorem dX10_drift_123 : decode cX10_drift 123 = .ok (.invokevirtual 116, 3) := by decide +kernel
theorem dX10_drift_126 : decode cX10_drift 126 = .ok (.iadd, 1) := by decide +kernel
theorem dX10_drift_127 : decode cX10_drift 127 = .ok (.bipush 12, 2) := by decide +kernel
theorem dX10_drift_129 : decode cX10_drift 129 = .ok (.isub, 1) := by decide +kernel
theorem dX10_drift_130 : decode cX10_drift 130 = .ok (.istore 8, 2) := by decide +kernel
theorem dX10_drift_132 : decode cX10_drift 132 = .ok (.iload 7, 2) := by decide +kernel
theorem dX10_drift_134 : decode cX10_drift 134 = .ok (.invokestatic 125, 3) := by decide +kernel
theorem dX10_drift_137 : decode cX10_drift 137 = .ok (.aload_n 3, 1) := by decide +kernel
theorem dX10_drift_138 : decode cX10_drift 138 = .ok (.bipush 25, 2) := by decide +kernel
theorem dX10_drift_140 : decode cX10_drift 140 = .ok (.invokevirtual 116, 3) := by decide +kernel
theorem dX10_drift_143 : decode cX10_drift 143 = .ok (.iadd, 1) := by decide +kernel
theorem dX10_drift_144 : decode cX10_drift 144 = .ok (.bipush 12, 2) := by decide +kernel
theorem dX10_drift_146 : decode cX10_drift 146 = .ok (.isub, 1) := by decide +kernel
theorem dX10_drift_147 : decode cX10_drift 147 = .ok (.istore 9, 2) := by decide +kernel
theorem dX10_drift_149 : decode cX10_drift 149 = .ok (.aload_n 0, 1) := by decide +kernel
theorem dX10_drift_150 : decode cX10_drift 150 = .ok (.getfield 10, 3) := by decide +kernel
theorem dX10_drift_153 : decode cX10_drift 153 = .ok (.getfield 97, 3) := by decide +kernel
theorem dX10_drift_156 : decode cX10_drift 156 = .ok (.iload 8, 2) := by decide +kernel
theorem dX10_drift_158 : decode cX10_drift 158 = .ok (.iload 9, 2) := by decide +kernel
theorem dX10_drift_160 : decode cX10_drift 160 = .ok (.invokevirtual 104, 3) := by decide +kernel
theorem dX10_drift_163 : decode cX10_drift 163 = .ok (.iinc 4 1, 3) := by decide +kernel
theorem dX10_drift_166 : decode cX10_drift 166 = .ok (.goto (-120), 3) := by decide +kernel
theorem dX10_drift_169 : decode cX10_drift 169 = .ok (.iload 4, 2) := by decide +kernel
theorem dX10_drift_171 : decode cX10_drift 171 = .ok (.ireturn, 1) := by decide +kernel
theorem dX10_wipe_0 : decode cX10_wipe 0 = .ok (.aload_n 0, 1) := by decide +kernel
theorem dX10_wipe_1 : decode cX10_wipe 1 = .ok (.getfield 19, 3) := by decide +kernel
theorem dX10_wipe_4 : decode cX10_wipe 4 = .ok (.aload_n 0, 1) := by decide +kernel
theorem dX10_wipe_5 : decode cX10_wipe 5 = .ok (.getfield 10, 3) := by decide +kernel
theorem dX10_wipe_8 : decode cX10_wipe 8 = .ok (.invokevirtual 57, 3) := by decide +kernel
theorem dX10_wipe_11 : decode cX10_wipe 11 = .ok (.aload_n 0, 1) := by decide +kernel
theorem dX10_wipe_12 : decode cX10_wipe 12 = .ok (.getfield 10, 3) := by decide +kernel
theorem dX10_wipe_15 : decode cX10_wipe 15 = .ok (.getfield 82, 3) := by decide +kernel
theorem dX10_wipe_18 : decode cX10_wipe 18 = .ok (.getfield 128, 3) := by decide +kernel
theorem dX10_wipe_21 : decode cX10_wipe 21 = .ok (.aload_n 0, 1) := by decide +kernel
theorem dX10_wipe_22 : decode cX10_wipe 22 = .ok (.getfield 10, 3) := by decide +kernel
theorem dX10_wipe_25 : decode cX10_wipe 25 = .ok (.getfield 97, 3) := by decide +kernel
theorem dX10_wipe_28 : decode cX10_wipe 28 = .ok (.getfield 107, 3) := by decide +kernel
theorem dX10_wipe_31 : decode cX10_wipe 31 = .ok (.iadd, 1) := by decide +kernel
theorem dX10_wipe_32 : decode cX10_wipe 32 = .ok (.istore_n 1, 1) := by decide +kernel
theorem dX10_wipe_33 : decode cX10_wipe 33 = .ok (.aload_n 0, 1) := by decide +kernel
theorem dX10_wipe_34 : decode cX10_wipe 34 = .ok (.getfield 10, 3) := by decide +kernel
theorem dX10_wipe_37 : decode cX10_wipe 37 = .ok (.invokevirtual 71, 3) := by decide +kernel
theorem dX10_wipe_40 : decode cX10_wipe 40 = .ok (.iload_n 1, 1) := by decide +kernel
theorem dX10_wipe_41 : decode cX10_wipe 41 = .ok (.ireturn, 1) := by decide +kernel
theorem dX10_end_0 : decode cX10_end 0 = .ok (.iload_n 1, 1) := by decide +kernel
theorem dX10_end_1 : decode cX10_end 1 = .ok (.iconst (-1), 1) := by decide +kernel
theorem dX10_end_2 : decode cX10_end 2 = .ok (.if_icmp .eq 14, 3) := by decide +kernel
theorem dX10_end_5 : decode cX10_end 5 = .ok (.aload_n 0, 1) := by decide +kernel
theorem dX10_end_6 : decode cX10_end 6 = .ok (.iload_n 1, 1) := by decide +kernel
theorem dX10_end_7 : decode cX10_end 7 = .ok (.invokevirtual 129, 3) := by decide +kernel
theorem dX10_end_10 : decode cX10_end 10 = .ok (.ifCond .ne 6, 3) := by decide +kernel
theorem dX10_end_13 : decode cX10_end 13 = .ok (.ldc 133, 2) := by decide +kernel
theorem dX10_end_15 : decode cX10_end 15 = .ok (.ireturn, 1) := by decide +kernel
theorem dX10_end_16 : decode cX10_end 16 = .ok (.aload_n 0, 1) := by decide +kernel
theorem dX10_end_17 : decode cX10_end 17 = .ok (.getfield 19, 3) := by decide +kernel
theorem dX10_end_20 : decode cX10_end 20 = .ok (.aload_n 0, 1) := by decide +kernel
theorem dX10_end_21 : decode cX10_end 21 = .ok (.getfield 10, 3) := by decide +kernel
theorem dX10_end_24 : decode cX10_end 24 = .ok (.invokevirtual 57, 3) := by decide +kernel
theorem dX10_end_27 : decode cX10_end 27 = .ok (.aload_n 0, 1) := by decide +kernel
theorem dX10_end_28 : decode cX10_end 28 = .ok (.getfield 10, 3) := by decide +kernel
theorem dX10_end_31 : decode cX10_end 31 = .ok (.getfield 74, 3) := by decide +kernel
theorem dX10_end_34 : decode cX10_end 34 = .ok (.istore_n 2, 1) := by decide +kernel
theorem dX10_end_35 : decode cX10_end 35 = .ok (.aload_n 0, 1) := by decide +kernel
theorem dX10_end_36 : decode cX10_end 36 = .ok (.getfield 10, 3) := by decide +kernel
theorem dX10_end_39 : decode cX10_end 39 = .ok (.iload_n 1, 1) := by decide +kernel
theorem dX10_end_40 : decode cX10_end 40 = .ok (.putfield 74, 3) := by decide +kernel
theorem dX10_end_43 : decode cX10_end 43 = .ok (.iload_n 2, 1) := by decide +kernel
theorem dX10_end_44 : decode cX10_end 44 = .ok (.ireturn, 1) := by decide +kernel
theorem dX10_undo_0 : decode cX10_undo 0 = .ok (.aload_n 0, 1) := by decide +kernel
theorem dX10_undo_1 : decode cX10_undo 1 = .ok (.getfield 19, 3) := by decide +kernel
theorem dX10_undo_4 : decode cX10_undo 4 = .ok (.getfield 134, 3) := by decide +kernel
theorem dX10_undo_7 : decode cX10_undo 7 = .ok (.ifCond .ne 6, 3) := by decide +kernel
theorem dX10_undo_10 : decode cX10_undo 10 = .ok (.ldc 135, 2) := by decide +kernel
theorem dX10_undo_12 : decode cX10_undo 12 = .ok (.ireturn, 1) := by decide +kernel
theorem dX10_undo_13 : decode cX10_undo 13 = .ok (.aload_n 0, 1) := by decide +kernel
theorem dX10_undo_14 : decode cX10_undo 14 = .ok (.getfield 19, 3) := by decide +kernel
theorem dX10_undo_17 : decode cX10_undo 17 = .ok (.aload_n 0, 1) := by decide +kernel
theorem dX10_undo_18 : decode cX10_undo 18 = .ok (.getfield 10, 3) := by decide +kernel
theorem dX10_undo_21 : decode cX10_undo 21 = .ok (.invokevirtual 136, 3) := by decide +kernel
theorem dX10_undo_24 : decode cX10_undo 24 = .ok (.aload_n 0, 1) := by decide +kernel
theorem dX10_undo_25 : decode cX10_undo 25 = .ok (.getfield 19, 3) := by decide +kernel
theorem dX10_undo_28 : decode cX10_undo 28 = .ok (.getfield 134, 3) := by decide +kernel
theorem dX10_undo_31 : decode cX10_undo 31 = .ok (.ireturn, 1) := by decide +kernel
theorem dX10_told_0 : decode cX10_told 0 = .ok (.iload_n 1, 1) := by decide +kernel
theorem dX10_told_1 : decode cX10_told 1 = .ok (.tableswitch 227 0 13 #[71, 82, 93, 104, 115, 126, 137, 148, 156, 161, 171, 186, 209, 219], 71) := by decide +kernel
theorem dX10_told_72 : decode cX10_told 72 = .ok (.aload_n 0, 1) := by decide +kernel
theorem dX10_told_73 : decode cX10_told 73 = .ok (.getfield 10, 3) := by decide +kernel
theorem dX10_told_76 : decode cX10_told 76 = .ok (.getfield 61, 3) := by decide +kernel
theorem dX10_told_79 : decode cX10_told 79 = .ok (.getfield 139, 3) := by decide +kernel
theorem dX10_told_82 : decode cX10_told 82 = .ok (.ireturn, 1) := by decide +kernel
theorem dX10_told_83 : decode cX10_told 83 = .ok (.aload_n 0, 1) := by decide +kernel
theorem dX10_told_84 : decode cX10_told 84 = .ok (.getfield 10, 3) := by decide +kernel
theorem dX10_told_87 : decode cX10_told 87 = .ok (.getfield 61, 3) := by decide +kernel
theorem dX10_told_90 : decode cX10_told 90 = .ok (.getfield 142, 3) := by decide +kernel
theorem dX10_told_93 : decode cX10_told 93 = .ok (.ireturn, 1) := by decide +kernel
theorem dX10_told_94 : decode cX10_told 94 = .ok (.aload_n 0, 1) := by decide +kernel
theorem dX10_told_95 : decode cX10_told 95 = .ok (.getfield 10, 3) := by decide +kernel
theorem dX10_told_98 : decode cX10_told 98 = .ok (.getfield 61, 3) := by decide +kernel
theorem dX10_told_101 : decode cX10_told 101 = .ok (.getfield 145, 3) := by decide +kernel
theorem dX10_told_104 : decode cX10_told 104 = .ok (.ireturn, 1) := by decide +kernel
theorem dX10_told_105 : decode cX10_told 105 = .ok (.aload_n 0, 1) := by decide +kernel
theorem dX10_told_106 : decode cX10_told 106 = .ok (.getfield 10, 3) := by decide +kernel
theorem dX10_told_109 : decode cX10_told 109 = .ok (.getfield 61, 3) := by decide +kernel
theorem dX10_told_112 : decode cX10_told 112 = .ok (.invokevirtual 78, 3) := by decide +kernel
theorem dX10_told_115 : decode cX10_told 115 = .ok (.ireturn, 1) := by decide +kernel
theorem dX10_told_116 : decode cX10_told 116 = .ok (.aload_n 0, 1) := by decide +kernel
theorem dX10_told_117 : decode cX10_told 117 = .ok (.getfield 10, 3) := by decide +kernel
theorem dX10_told_120 : decode cX10_told 120 = .ok (.getfield 82, 3) := by decide +kernel
theorem dX10_told_123 : decode cX10_told 123 = .ok (.getfield 128, 3) := by decide +kernel
theorem dX10_told_126 : decode cX10_told 126 = .ok (.ireturn, 1) := by decide +kernel
theorem dX10_told_127 : decode cX10_told 127 = .ok (.aload_n 0, 1) := by decide +kernel
theorem dX10_told_128 : decode cX10_told 128 = .ok (.getfield 10, 3) := by decide +kernel
theorem dX10_told_131 : decode cX10_told 131 = .ok (.getfield 97, 3) := by decide +kernel
theorem dX10_told_134 : decode cX10_told 134 = .ok (.getfield 107, 3) := by decide +kernel
theorem dX10_told_137 : decode cX10_told 137 = .ok (.ireturn, 1) := by decide +kernel
theorem dX10_told_138 : decode cX10_told 138 = .ok (.aload_n 0, 1) := by decide +kernel
theorem dX10_told_139 : decode cX10_told 139 = .ok (.getfield 10, 3) := by decide +kernel
theorem dX10_told_142 : decode cX10_told 142 = .ok (.getfield 82, 3) := by decide +kernel
theorem dX10_told_145 : decode cX10_told 145 = .ok (.invokevirtual 148, 3) := by decide +kernel
theorem dX10_told_148 : decode cX10_told 148 = .ok (.ireturn, 1) := by decide +kernel
theorem dX10_told_149 : decode cX10_told 149 = .ok (.aload_n 0, 1) := by decide +kernel
theorem dX10_told_150 : decode cX10_told 150 = .ok (.getfield 10, 3) := by decide +kernel
theorem dX10_told_153 : decode cX10_told 153 = .ok (.getfield 74, 3) := by decide +kernel
theorem dX10_told_156 : decode cX10_told 156 = .ok (.ireturn, 1) := by decide +kernel
theorem dX10_told_157 : decode cX10_told 157 = .ok (.aload_n 0, 1) := by decide +kernel
theorem dX10_told_158 : decode cX10_told 158 = .ok (.invokevirtual 151, 3) := by decide +kernel
theorem dX10_told_161 : decode cX10_told 161 = .ok (.ireturn, 1) := by decide +kernel
theorem dX10_told_162 : decode cX10_told 162 = .ok (.aload_n 0, 1) := by decide +kernel
theorem dX10_told_163 : decode cX10_told 163 = .ok (.invokevirtual 151, 3) := by decide +kernel
theorem dX10_told_166 : decode cX10_told 166 = .ok (.pop, 1) := by decide +kernel
theorem dX10_told_167 : decode cX10_told 167 = .ok (.aload_n 0, 1) := by decide +kernel
theorem dX10_told_168 : decode cX10_told 168 = .ok (.invokevirtual 154, 3) := by decide +kernel
theorem dX10_told_171 : decode cX10_told 171 = .ok (.ireturn, 1) := by decide +kernel
theorem dX10_told_172 : decode cX10_told 172 = .ok (.aload_n 0, 1) := by decide +kernel
theorem dX10_told_173 : decode cX10_told 173 = .ok (.getfield 41, 3) := by decide +kernel
theorem dX10_told_176 : decode cX10_told 176 = .ok (.aload_n 0, 1) := by decide +kernel
theorem dX10_told_177 : decode cX10_told 177 = .ok (.getfield 10, 3) := by decide +kernel
theorem dX10_told_180 : decode cX10_told 180 = .ok (.getfield 61, 3) := by decide +kernel
theorem dX10_told_183 : decode cX10_told 183 = .ok (.invokevirtual 157, 3) := by decide +kernel
theorem dX10_told_186 : decode cX10_told 186 = .ok (.ireturn, 1) := by decide +kernel
theorem dX10_told_187 : decode cX10_told 187 = .ok (.aload_n 0, 1) := by decide +kernel
theorem dX10_told_188 : decode cX10_told 188 = .ok (.getfield 48, 3) := by decide +kernel
theorem dX10_told_191 : decode cX10_told 191 = .ok (.aload_n 0, 1) := by decide +kernel
theorem dX10_told_192 : decode cX10_told 192 = .ok (.getfield 10, 3) := by decide +kernel
theorem dX10_told_195 : decode cX10_told 195 = .ok (.getfield 61, 3) := by decide +kernel
theorem dX10_told_198 : decode cX10_told 198 = .ok (.invokevirtual 161, 3) := by decide +kernel
theorem dX10_told_201 : decode cX10_told 201 = .ok (.ifCond .eq 7, 3) := by decide +kernel
theorem dX10_told_204 : decode cX10_told 204 = .ok (.iconst 1, 1) := by decide +kernel
theorem dX10_told_205 : decode cX10_told 205 = .ok (.goto 4, 3) := by decide +kernel
theorem dX10_told_208 : decode cX10_told 208 = .ok (.iconst 0, 1) := by decide +kernel
theorem dX10_told_209 : decode cX10_told 209 = .ok (.ireturn, 1) := by decide +kernel
theorem dX10_told_210 : decode cX10_told 210 = .ok (.aload_n 0, 1) := by decide +kernel
theorem dX10_told_211 : decode cX10_told 211 = .ok (.invokevirtual 151, 3) := by decide +kernel
theorem dX10_told_214 : decode cX10_told 214 = .ok (.pop, 1) := by decide +kernel
theorem dX10_told_215 : decode cX10_told 215 = .ok (.aload_n 0, 1) := by decide +kernel
theorem dX10_told_216 : decode cX10_told 216 = .ok (.invokevirtual 165, 3) := by decide +kernel
theorem dX10_told_219 : decode cX10_told 219 = .ok (.ireturn, 1) := by decide +kernel
theorem dX10_told_220 : decode cX10_told 220 = .ok (.aload_n 0, 1) := by decide +kernel
theorem dX10_told_221 : decode cX10_told 221 = .ok (.getfield 19, 3) := by decide +kernel
theorem dX10_told_224 : decode cX10_told 224 = .ok (.getfield 134, 3) := by decide +kernel
theorem dX10_told_227 : decode cX10_told 227 = .ok (.ireturn, 1) := by decide +kernel
theorem dX10_told_228 : decode cX10_told 228 = .ok (.ldc 52, 2) := by decide +kernel
theorem dX10_told_230 : decode cX10_told 230 = .ok (.ireturn, 1) := by decide +kernel
theorem dX10_point_0 : decode cX10_point 0 = .ok (.iload_n 1, 1) := by decide +kernel
theorem dX10_point_1 : decode cX10_point 1 = .ok (.invokestatic 168, 3) := by decide +kernel
theorem dX10_point_4 : decode cX10_point 4 = .ok (.ifCond .ne 6, 3) := by decide +kernel
theorem dX10_point_7 : decode cX10_point 7 = .ok (.ldc 133, 2) := by decide +kernel
theorem dX10_point_9 : decode cX10_point 9 = .ok (.ireturn, 1) := by decide +kernel
theorem dX10_point_10 : decode cX10_point 10 = .ok (.iload_n 2, 1) := by decide +kernel
theorem dX10_point_11 : decode cX10_point 11 = .ok (.tableswitch 58 0 4 #[33, 38, 43, 48, 53], 33) := by decide +kernel
end
section
theorem dX10_point_44 : decode cX10_point 44 = .ok (.iload_n 1, 1) := by decide +kernel
theorem dX10_point_45 : decode cX10_point 45 = .ok (.invokestatic 120, 3) := by decide +kernel
theorem dX10_point_48 : decode cX10_point 48 = .ok (.ireturn, 1) := by decide +kernel
theorem dX10_point_49 : decode cX10_point 49 = .ok (.iload_n 1, 1) := by decide +kernel
theorem dX10_point_50 : decode cX10_point 50 = .ok (.invokestatic 125, 3) := by decide +kernel
theorem dX10_point_53 : decode cX10_point 53 = .ok (.ireturn, 1) := by decide +kernel
theorem dX10_point_54 : decode cX10_point 54 = .ok (.iload_n 1, 1) := by decide +kernel
theorem dX10_point_55 : decode cX10_point 55 = .ok (.invokestatic 171, 3) := by decide +kernel
theorem dX10_point_58 : decode cX10_point 58 = .ok (.ireturn, 1) := by decide +kernel
theorem dX10_point_59 : decode cX10_point 59 = .ok (.iload_n 1, 1) := by decide +kernel
theorem dX10_point_60 : decode cX10_point 60 = .ok (.invokestatic 174, 3) := by decide +kernel
theorem dX10_point_63 : decode cX10_point 63 = .ok (.ireturn, 1) := by decide +kernel
theorem dX10_point_64 : decode cX10_point 64 = .ok (.iload_n 1, 1) := by decide +kernel
theorem dX10_point_65 : decode cX10_point 65 = .ok (.invokestatic 177, 3) := by decide +kernel
theorem dX10_point_68 : decode cX10_point 68 = .ok (.ireturn, 1) := by decide +kernel
theorem dX10_point_69 : decode cX10_point 69 = .ok (.ldc 52, 2) := by decide +kernel
theorem dX10_point_71 : decode cX10_point 71 = .ok (.ireturn, 1) := by decide +kernel
theorem dX10_member_0 : decode cX10_member 0 = .ok (.iload_n 1, 1) := by decide +kernel
theorem dX10_member_1 : decode cX10_member 1 = .ok (.invokestatic 180, 3) := by decide +kernel
theorem dX10_member_4 : decode cX10_member 4 = .ok (.ifCond .ne 6, 3) := by decide +kernel
theorem dX10_member_7 : decode cX10_member 7 = .ok (.ldc 133, 2) := by decide +kernel
theorem dX10_member_9 : decode cX10_member 9 = .ok (.ireturn, 1) := by decide +kernel
theorem dX10_member_10 : decode cX10_member 10 = .ok (.iload_n 2, 1) := by decide +kernel
theorem dX10_member_11 : decode cX10_member 11 = .ok (.iconst 0, 1) := by decide +kernel
theorem dX10_member_12 : decode cX10_member 12 = .ok (.iconst 3, 1) := by decide +kernel
theorem dX10_member_13 : decode cX10_member 13 = .ok (.invokestatic 53, 3) := by decide +kernel
theorem dX10_member_16 : decode cX10_member 16 = .ok (.ifCond .eq 6, 3) := by decide +kernel
theorem dX10_member_19 : decode cX10_member 19 = .ok (.ldc 52, 2) := by decide +kernel
theorem dX10_member_21 : decode cX10_member 21 = .ok (.ireturn, 1) := by decide +kernel
theorem dX10_member_22 : decode cX10_member 22 = .ok (.iload_n 1, 1) := by decide +kernel
theorem dX10_member_23 : decode cX10_member 23 = .ok (.iload_n 2, 1) := by decide +kernel
theorem dX10_member_24 : decode cX10_member 24 = .ok (.invokestatic 183, 3) := by decide +kernel
theorem dX10_member_27 : decode cX10_member 27 = .ok (.ireturn, 1) := by decide +kernel
theorem dX10_apart_0 : decode cX10_apart 0 = .ok (.iload_n 1, 1) := by decide +kernel
theorem dX10_apart_1 : decode cX10_apart 1 = .ok (.invokestatic 180, 3) := by decide +kernel
theorem dX10_apart_4 : decode cX10_apart 4 = .ok (.ifCond .eq 10, 3) := by decide +kernel
theorem dX10_apart_7 : decode cX10_apart 7 = .ok (.iload_n 2, 1) := by decide +kernel
theorem dX10_apart_8 : decode cX10_apart 8 = .ok (.invokestatic 180, 3) := by decide +kernel
theorem dX10_apart_11 : decode cX10_apart 11 = .ok (.ifCond .ne 6, 3) := by decide +kernel
theorem dX10_apart_14 : decode cX10_apart 14 = .ok (.ldc 133, 2) := by decide +kernel
theorem dX10_apart_16 : decode cX10_apart 16 = .ok (.ireturn, 1) := by decide +kernel
theorem dX10_apart_17 : decode cX10_apart 17 = .ok (.iload_n 1, 1) := by decide +kernel
theorem dX10_apart_18 : decode cX10_apart 18 = .ok (.iload_n 2, 1) := by decide +kernel
theorem dX10_apart_19 : decode cX10_apart 19 = .ok (.invokestatic 187, 3) := by decide +kernel
theorem dX10_apart_22 : decode cX10_apart 22 = .ok (.ireturn, 1) := by decide +kernel
theorem dX10_distance_0 : decode cX10_distance 0 = .ok (.iload_n 1, 1) := by decide +kernel
theorem dX10_distance_1 : decode cX10_distance 1 = .ok (.invokestatic 168, 3) := by decide +kernel
theorem dX10_distance_4 : decode cX10_distance 4 = .ok (.ifCond .eq 15, 3) := by decide +kernel
theorem dX10_distance_7 : decode cX10_distance 7 = .ok (.iload_n 2, 1) := by decide +kernel
theorem dX10_distance_8 : decode cX10_distance 8 = .ok (.invokestatic 168, 3) := by decide +kernel
theorem dX10_distance_11 : decode cX10_distance 11 = .ok (.ifCond .eq 8, 3) := by decide +kernel
theorem dX10_distance_14 : decode cX10_distance 14 = .ok (.iload_n 1, 1) := by decide +kernel
theorem dX10_distance_15 : decode cX10_distance 15 = .ok (.iload_n 2, 1) := by decide +kernel
theorem dX10_distance_16 : decode cX10_distance 16 = .ok (.if_icmp .ne 6, 3) := by decide +kernel
theorem dX10_distance_19 : decode cX10_distance 19 = .ok (.ldc 133, 2) := by decide +kernel
theorem dX10_distance_21 : decode cX10_distance 21 = .ok (.ireturn, 1) := by decide +kernel
theorem dX10_distance_22 : decode cX10_distance 22 = .ok (.iload_n 1, 1) := by decide +kernel
theorem dX10_distance_23 : decode cX10_distance 23 = .ok (.iload_n 2, 1) := by decide +kernel
theorem dX10_distance_24 : decode cX10_distance 24 = .ok (.invokestatic 120, 3) := by decide +kernel
theorem dX10_distance_27 : decode cX10_distance 27 = .ok (.iload_n 2, 1) := by decide +kernel
theorem dX10_distance_28 : decode cX10_distance 28 = .ok (.invokestatic 125, 3) := by decide +kernel
theorem dX10_distance_31 : decode cX10_distance 31 = .ok (.invokestatic 190, 3) := by decide +kernel
theorem dX10_distance_34 : decode cX10_distance 34 = .ok (.ireturn, 1) := by decide +kernel
theorem dX10_turned_0 : decode cX10_turned 0 = .ok (.iload_n 1, 1) := by decide +kernel
theorem dX10_turned_1 : decode cX10_turned 1 = .ok (.invokestatic 180, 3) := by decide +kernel
theorem dX10_turned_4 : decode cX10_turned 4 = .ok (.ifCond .ne 6, 3) := by decide +kernel
theorem dX10_turned_7 : decode cX10_turned 7 = .ok (.ldc 133, 2) := by decide +kernel
theorem dX10_turned_9 : decode cX10_turned 9 = .ok (.ireturn, 1) := by decide +kernel
theorem dX10_turned_10 : decode cX10_turned 10 = .ok (.iload_n 1, 1) := by decide +kernel
theorem dX10_turned_11 : decode cX10_turned 11 = .ok (.invokestatic 194, 3) := by decide +kernel
theorem dX10_turned_14 : decode cX10_turned 14 = .ok (.ireturn, 1) := by decide +kernel
theorem dX10_next_0 : decode cX10_next 0 = .ok (.aload_n 0, 1) := by decide +kernel
theorem dX10_next_1 : decode cX10_next 1 = .ok (.iload_n 1, 1) := by decide +kernel
theorem dX10_next_2 : decode cX10_next 2 = .ok (.invokevirtual 129, 3) := by decide +kernel
theorem dX10_next_5 : decode cX10_next 5 = .ok (.ifCond .ne 6, 3) := by decide +kernel
theorem dX10_next_8 : decode cX10_next 8 = .ok (.ldc 133, 2) := by decide +kernel
theorem dX10_next_10 : decode cX10_next 10 = .ok (.ireturn, 1) := by decide +kernel
theorem dX10_next_11 : decode cX10_next 11 = .ok (.iload_n 2, 1) := by decide +kernel
theorem dX10_next_12 : decode cX10_next 12 = .ok (.iconst 0, 1) := by decide +kernel
theorem dX10_next_13 : decode cX10_next 13 = .ok (.iconst 1, 1) := by decide +kernel
theorem dX10_next_14 : decode cX10_next 14 = .ok (.invokestatic 53, 3) := by decide +kernel
theorem dX10_next_17 : decode cX10_next 17 = .ok (.ifCond .eq 6, 3) := by decide +kernel
theorem dX10_next_20 : decode cX10_next 20 = .ok (.ldc 52, 2) := by decide +kernel
theorem dX10_next_22 : decode cX10_next 22 = .ok (.ireturn, 1) := by decide +kernel
theorem dX10_next_23 : decode cX10_next 23 = .ok (.iload_n 3, 1) := by decide +kernel
theorem dX10_next_24 : decode cX10_next 24 = .ok (.lookupswitch 54 #[(0, 28), (1, 41)], 28) := by decide +kernel
theorem dX10_next_52 : decode cX10_next 52 = .ok (.aload_n 0, 1) := by decide +kernel
theorem dX10_next_53 : decode cX10_next 53 = .ok (.getfield 10, 3) := by decide +kernel
theorem dX10_next_56 : decode cX10_next 56 = .ok (.getfield 61, 3) := by decide +kernel
theorem dX10_next_59 : decode cX10_next 59 = .ok (.iload_n 1, 1) := by decide +kernel
theorem dX10_next_60 : decode cX10_next 60 = .ok (.iload_n 2, 1) := by decide +kernel
theorem dX10_next_61 : decode cX10_next 61 = .ok (.invokevirtual 197, 3) := by decide +kernel
theorem dX10_next_64 : decode cX10_next 64 = .ok (.ireturn, 1) := by decide +kernel
theorem dX10_next_65 : decode cX10_next 65 = .ok (.aload_n 0, 1) := by decide +kernel
theorem dX10_next_66 : decode cX10_next 66 = .ok (.getfield 10, 3) := by decide +kernel
theorem dX10_next_69 : decode cX10_next 69 = .ok (.getfield 61, 3) := by decide +kernel
theorem dX10_next_72 : decode cX10_next 72 = .ok (.iload_n 1, 1) := by decide +kernel
theorem dX10_next_73 : decode cX10_next 73 = .ok (.iload_n 2, 1) := by decide +kernel
theorem dX10_next_74 : decode cX10_next 74 = .ok (.invokevirtual 200, 3) := by decide +kernel
theorem dX10_next_77 : decode cX10_next 77 = .ok (.ireturn, 1) := by decide +kernel
theorem dX10_next_78 : decode cX10_next 78 = .ok (.ldc 52, 2) := by decide +kernel
theorem dX10_next_80 : decode cX10_next 80 = .ok (.ireturn, 1) := by decide +kernel
theorem dX10_sent_0 : decode cX10_sent 0 = .ok (.iload_n 1, 1) := by decide +kernel
theorem dX10_sent_1 : decode cX10_sent 1 = .ok (.iconst 0, 1) := by decide +kernel
theorem dX10_sent_2 : decode cX10_sent 2 = .ok (.aload_n 0, 1) := by decide +kernel
theorem dX10_sent_3 : decode cX10_sent 3 = .ok (.getfield 10, 3) := by decide +kernel
theorem dX10_sent_6 : decode cX10_sent 6 = .ok (.getfield 82, 3) := by decide +kernel
theorem dX10_sent_9 : decode cX10_sent 9 = .ok (.getfield 128, 3) := by decide +kernel
theorem dX10_sent_12 : decode cX10_sent 12 = .ok (.iconst 1, 1) := by decide +kernel
theorem dX10_sent_13 : decode cX10_sent 13 = .ok (.isub, 1) := by decide +kernel
theorem dX10_sent_14 : decode cX10_sent 14 = .ok (.invokestatic 53, 3) := by decide +kernel
theorem dX10_sent_17 : decode cX10_sent 17 = .ok (.ifCond .eq 6, 3) := by decide +kernel
theorem dX10_sent_20 : decode cX10_sent 20 = .ok (.ldc 133, 2) := by decide +kernel
theorem dX10_sent_22 : decode cX10_sent 22 = .ok (.ireturn, 1) := by decide +kernel
theorem dX10_sent_23 : decode cX10_sent 23 = .ok (.aload_n 0, 1) := by decide +kernel
theorem dX10_sent_24 : decode cX10_sent 24 = .ok (.getfield 10, 3) := by decide +kernel
theorem dX10_sent_27 : decode cX10_sent 27 = .ok (.getfield 82, 3) := by decide +kernel
theorem dX10_sent_30 : decode cX10_sent 30 = .ok (.iload_n 1, 1) := by decide +kernel
theorem dX10_sent_31 : decode cX10_sent 31 = .ok (.iload_n 2, 1) := by decide +kernel
theorem dX10_sent_32 : decode cX10_sent 32 = .ok (.invokevirtual 203, 3) := by decide +kernel
theorem dX10_sent_35 : decode cX10_sent 35 = .ok (.ireturn, 1) := by decide +kernel
theorem dX10_heard_0 : decode cX10_heard 0 = .ok (.iload_n 1, 1) := by decide +kernel
theorem dX10_heard_1 : decode cX10_heard 1 = .ok (.iconst 0, 1) := by decide +kernel
theorem dX10_heard_2 : decode cX10_heard 2 = .ok (.aload_n 0, 1) := by decide +kernel
theorem dX10_heard_3 : decode cX10_heard 3 = .ok (.getfield 10, 3) := by decide +kernel
theorem dX10_heard_6 : decode cX10_heard 6 = .ok (.getfield 97, 3) := by decide +kernel
theorem dX10_heard_9 : decode cX10_heard 9 = .ok (.getfield 107, 3) := by decide +kernel
theorem dX10_heard_12 : decode cX10_heard 12 = .ok (.iconst 1, 1) := by decide +kernel
theorem dX10_heard_13 : decode cX10_heard 13 = .ok (.isub, 1) := by decide +kernel
theorem dX10_heard_14 : decode cX10_heard 14 = .ok (.invokestatic 53, 3) := by decide +kernel
theorem dX10_heard_17 : decode cX10_heard 17 = .ok (.ifCond .eq 6, 3) := by decide +kernel
theorem dX10_heard_20 : decode cX10_heard 20 = .ok (.ldc 133, 2) := by decide +kernel
theorem dX10_heard_22 : decode cX10_heard 22 = .ok (.ireturn, 1) := by decide +kernel
theorem dX10_heard_23 : decode cX10_heard 23 = .ok (.iload_n 2, 1) := by decide +kernel
theorem dX10_heard_24 : decode cX10_heard 24 = .ok (.tableswitch 82 0 2 #[28, 41, 54], 28) := by decide +kernel
theorem dX10_heard_52 : decode cX10_heard 52 = .ok (.aload_n 0, 1) := by decide +kernel
theorem dX10_heard_53 : decode cX10_heard 53 = .ok (.getfield 10, 3) := by decide +kernel
theorem dX10_heard_56 : decode cX10_heard 56 = .ok (.getfield 97, 3) := by decide +kernel
theorem dX10_heard_59 : decode cX10_heard 59 = .ok (.getfield 206, 3) := by decide +kernel
theorem dX10_heard_62 : decode cX10_heard 62 = .ok (.iload_n 1, 1) := by decide +kernel
theorem dX10_heard_63 : decode cX10_heard 63 = .ok (.iaload, 1) := by decide +kernel
theorem dX10_heard_64 : decode cX10_heard 64 = .ok (.ireturn, 1) := by decide +kernel
theorem dX10_heard_65 : decode cX10_heard 65 = .ok (.aload_n 0, 1) := by decide +kernel
theorem dX10_heard_66 : decode cX10_heard 66 = .ok (.getfield 10, 3) := by decide +kernel
theorem dX10_heard_69 : decode cX10_heard 69 = .ok (.getfield 97, 3) := by decide +kernel
theorem dX10_heard_72 : decode cX10_heard 72 = .ok (.getfield 210, 3) := by decide +kernel
theorem dX10_heard_75 : decode cX10_heard 75 = .ok (.iload_n 1, 1) := by decide +kernel
theorem dX10_heard_76 : decode cX10_heard 76 = .ok (.iaload, 1) := by decide +kernel
theorem dX10_heard_77 : decode cX10_heard 77 = .ok (.ireturn, 1) := by decide +kernel
theorem dX10_heard_78 : decode cX10_heard 78 = .ok (.aload_n 0, 1) := by decide +kernel
theorem dX10_heard_79 : decode cX10_heard 79 = .ok (.getfield 10, 3) := by decide +kernel
theorem dX10_heard_82 : decode cX10_heard 82 = .ok (.getfield 97, 3) := by decide +kernel
theorem dX10_heard_85 : decode cX10_heard 85 = .ok (.getfield 206, 3) := by decide +kernel
theorem dX10_heard_88 : decode cX10_heard 88 = .ok (.iload_n 1, 1) := by decide +kernel
theorem dX10_heard_89 : decode cX10_heard 89 = .ok (.iaload, 1) := by decide +kernel
theorem dX10_heard_90 : decode cX10_heard 90 = .ok (.aload_n 0, 1) := by decide +kernel
theorem dX10_heard_91 : decode cX10_heard 91 = .ok (.getfield 10, 3) := by decide +kernel
theorem dX10_heard_94 : decode cX10_heard 94 = .ok (.getfield 97, 3) := by decide +kernel
theorem dX10_heard_97 : decode cX10_heard 97 = .ok (.getfield 210, 3) := by decide +kernel
theorem dX10_heard_100 : decode cX10_heard 100 = .ok (.iload_n 1, 1) := by decide +kernel
theorem dX10_heard_101 : decode cX10_heard 101 = .ok (.iaload, 1) := by decide +kernel
theorem dX10_heard_102 : decode cX10_heard 102 = .ok (.invokestatic 213, 3) := by decide +kernel
theorem dX10_heard_105 : decode cX10_heard 105 = .ok (.ireturn, 1) := by decide +kernel
theorem dX10_heard_106 : decode cX10_heard 106 = .ok (.ldc 52, 2) := by decide +kernel
theorem dX10_heard_108 : decode cX10_heard 108 = .ok (.ireturn, 1) := by decide +kernel
theorem dX10_nearest_0 : decode cX10_nearest 0 = .ok (.iload_n 1, 1) := by decide +kernel
theorem dX10_nearest_1 : decode cX10_nearest 1 = .ok (.iconst 0, 1) := by decide +kernel
theorem dX10_nearest_2 : decode cX10_nearest 2 = .ok (.aload_n 0, 1) := by decide +kernel
theorem dX10_nearest_3 : decode cX10_nearest 3 = .ok (.getfield 10, 3) := by decide +kernel
theorem dX10_nearest_6 : decode cX10_nearest 6 = .ok (.getfield 97, 3) := by decide +kernel
theorem dX10_nearest_9 : decode cX10_nearest 9 = .ok (.getfield 107, 3) := by decide +kernel
theorem dX10_nearest_12 : decode cX10_nearest 12 = .ok (.iconst 1, 1) := by decide +kernel
theorem dX10_nearest_13 : decode cX10_nearest 13 = .ok (.isub, 1) := by decide +kernel
theorem dX10_nearest_14 : decode cX10_nearest 14 = .ok (.invokestatic 53, 3) := by decide +kernel
theorem dX10_nearest_17 : decode cX10_nearest 17 = .ok (.ifCond .eq 6, 3) := by decide +kernel
theorem dX10_nearest_20 : decode cX10_nearest 20 = .ok (.ldc 133, 2) := by decide +kernel
theorem dX10_nearest_22 : decode cX10_nearest 22 = .ok (.ireturn, 1) := by decide +kernel
theorem dX10_nearest_23 : decode cX10_nearest 23 = .ok (.iload_n 2, 1) := by decide +kernel
theorem dX10_nearest_24 : decode cX10_nearest 24 = .ok (.iconst 0, 1) := by decide +kernel
theorem dX10_nearest_25 : decode cX10_nearest 25 = .ok (.iconst 3, 1) := by decide +kernel
theorem dX10_nearest_26 : decode cX10_nearest 26 = .ok (.invokestatic 53, 3) := by decide +kernel
theorem dX10_nearest_29 : decode cX10_nearest 29 = .ok (.ifCond .eq 6, 3) := by decide +kernel
theorem dX10_nearest_32 : decode cX10_nearest 32 = .ok (.ldc 52, 2) := by decide +kernel
theorem dX10_nearest_34 : decode cX10_nearest 34 = .ok (.ireturn, 1) := by decide +kernel
theorem dX10_nearest_35 : decode cX10_nearest 35 = .ok (.aload_n 0, 1) := by decide +kernel
theorem dX10_nearest_36 : decode cX10_nearest 36 = .ok (.invokevirtual 151, 3) := by decide +kernel
theorem dX10_nearest_39 : decode cX10_nearest 39 = .ok (.ldc 216, 2) := by decide +kernel
theorem dX10_nearest_41 : decode cX10_nearest 41 = .ok (.if_icmp .ne 5, 3) := by decide +kernel
theorem dX10_nearest_44 : decode cX10_nearest 44 = .ok (.iconst (-1), 1) := by decide +kernel
theorem dX10_nearest_45 : decode cX10_nearest 45 = .ok (.ireturn, 1) := by decide +kernel
theorem dX10_nearest_46 : decode cX10_nearest 46 = .ok (.aload_n 0, 1) := by decide +kernel
theorem dX10_nearest_47 : decode cX10_nearest 47 = .ok (.getfield 34, 3) := by decide +kernel
theorem dX10_nearest_50 : decode cX10_nearest 50 = .ok (.getfield 217, 3) := by decide +kernel
theorem dX10_nearest_53 : decode cX10_nearest 53 = .ok (.iload_n 1, 1) := by decide +kernel
theorem dX10_nearest_54 : decode cX10_nearest 54 = .ok (.iload_n 2, 1) := by decide +kernel
theorem dX10_nearest_55 : decode cX10_nearest 55 = .ok (.invokevirtual 203, 3) := by decide +kernel
theorem dX10_nearest_58 : decode cX10_nearest 58 = .ok (.ireturn, 1) := by decide +kernel
theorem dX10_ahead_0 : decode cX10_ahead 0 = .ok (.aload_n 0, 1) := by decide +kernel
theorem dX10_ahead_1 : decode cX10_ahead 1 = .ok (.iload_n 2, 1) := by decide +kernel
theorem dX10_ahead_2 : decode cX10_ahead 2 = .ok (.invokevirtual 129, 3) := by decide +kernel
theorem dX10_ahead_5 : decode cX10_ahead 5 = .ok (.ifCond .ne 6, 3) := by decide +kernel
theorem dX10_ahead_8 : decode cX10_ahead 8 = .ok (.ldc 133, 2) := by decide +kernel
theorem dX10_ahead_10 : decode cX10_ahead 10 = .ok (.ireturn, 1) := by decide +kernel
theorem dX10_ahead_11 : decode cX10_ahead 11 = .ok (.iload_n 1, 1) := by decide +kernel
theorem dX10_ahead_12 : decode cX10_ahead 12 = .ok (.iconst 0, 1) := by decide +kernel
theorem dX10_ahead_13 : decode cX10_ahead 13 = .ok (.aload_n 0, 1) := by decide +kernel
theorem dX10_ahead_14 : decode cX10_ahead 14 = .ok (.getfield 10, 3) := by decide +kernel
theorem dX10_ahead_17 : decode cX10_ahead 17 = .ok (.getfield 97, 3) := by decide +kernel
theorem dX10_ahead_20 : decode cX10_ahead 20 = .ok (.getfield 107, 3) := by decide +kernel
theorem dX10_ahead_23 : decode cX10_ahead 23 = .ok (.invokestatic 53, 3) := by decide +kernel
theorem dX10_ahead_26 : decode cX10_ahead 26 = .ok (.ifCond .eq 6, 3) := by decide +kernel
theorem dX10_ahead_29 : decode cX10_ahead 29 = .ok (.ldc 52, 2) := by decide +kernel
theorem dX10_ahead_31 : decode cX10_ahead 31 = .ok (.ireturn, 1) := by decide +kernel
theorem dX10_ahead_32 : decode cX10_ahead 32 = .ok (.aload_n 0, 1) := by decide +kernel
theorem dX10_ahead_33 : decode cX10_ahead 33 = .ok (.getfield 34, 3) := by decide +kernel
theorem dX10_ahead_36 : decode cX10_ahead 36 = .ok (.aload_n 0, 1) := by decide +kernel
theorem dX10_ahead_37 : decode cX10_ahead 37 = .ok (.getfield 10, 3) := by decide +kernel
theorem dX10_ahead_40 : decode cX10_ahead 40 = .ok (.iload_n 1, 1) := by decide +kernel
theorem dX10_ahead_41 : decode cX10_ahead 41 = .ok (.iload_n 2, 1) := by decide +kernel
theorem dX10_ahead_42 : decode cX10_ahead 42 = .ok (.invokevirtual 218, 3) := by decide +kernel
theorem dX10_ahead_45 : decode cX10_ahead 45 = .ok (.ireturn, 1) := by decide +kernel
theorem dX10_decided_0 : decode cX10_decided 0 = .ok (.iload_n 1, 1) := by decide +kernel
theorem dX10_decided_1 : decode cX10_decided 1 = .ok (.iconst 0, 1) := by decide +kernel
theorem dX10_decided_2 : decode cX10_decided 2 = .ok (.aload_n 0, 1) := by decide +kernel
theorem dX10_decided_3 : decode cX10_decided 3 = .ok (.getfield 10, 3) := by decide +kernel
theorem dX10_decided_6 : decode cX10_decided 6 = .ok (.getfield 97, 3) := by decide +kernel
theorem dX10_decided_9 : decode cX10_decided 9 = .ok (.getfield 107, 3) := by decide +kernel
theorem dX10_decided_12 : decode cX10_decided 12 = .ok (.iconst 1, 1) := by decide +kernel
theorem dX10_decided_13 : decode cX10_decided 13 = .ok (.isub, 1) := by decide +kernel
theorem dX10_decided_14 : decode cX10_decided 14 = .ok (.invokestatic 53, 3) := by decide +kernel
theorem dX10_decided_17 : decode cX10_decided 17 = .ok (.ifCond .eq 6, 3) := by decide +kernel
theorem dX10_decided_20 : decode cX10_decided 20 = .ok (.ldc 133, 2) := by decide +kernel
theorem dX10_decided_22 : decode cX10_decided 22 = .ok (.ireturn, 1) := by decide +kernel
theorem dX10_decided_23 : decode cX10_decided 23 = .ok (.iload_n 2, 1) := by decide +kernel
theorem dX10_decided_24 : decode cX10_decided 24 = .ok (.iconst 0, 1) := by decide +kernel
theorem dX10_decided_25 : decode cX10_decided 25 = .ok (.bipush 23, 2) := by decide +kernel
theorem dX10_decided_27 : decode cX10_decided 27 = .ok (.invokestatic 53, 3) := by decide +kernel
theorem dX10_decided_30 : decode cX10_decided 30 = .ok (.ifCond .eq 6, 3) := by decide +kernel
theorem dX10_decided_33 : decode cX10_decided 33 = .ok (.ldc 52, 2) := by decide +kernel
theorem dX10_decided_35 : decode cX10_decided 35 = .ok (.ireturn, 1) := by decide +kernel
theorem dX10_decided_36 : decode cX10_decided 36 = .ok (.iload_n 1, 1) := by decide +kernel
theorem dX10_decided_37 : decode cX10_decided 37 = .ok (.iload_n 2, 1) := by decide +kernel
theorem dX10_decided_38 : decode cX10_decided 38 = .ok (.iadd, 1) := by decide +kernel
theorem dX10_decided_39 : decode cX10_decided 39 = .ok (.iconst 1, 1) := by decide +kernel
theorem dX10_decided_40 : decode cX10_decided 40 = .ok (.iadd, 1) := by decide +kernel
theorem dX10_decided_41 : decode cX10_decided 41 = .ok (.istore_n 3, 1) := by decide +kernel
theorem dX10_decided_42 : decode cX10_decided 42 = .ok (.iload_n 3, 1) := by decide +kernel
theorem dX10_decided_43 : decode cX10_decided 43 = .ok (.aload_n 0, 1) := by decide +kernel
theorem dX10_decided_44 : decode cX10_decided 44 = .ok (.getfield 10, 3) := by decide +kernel
theorem dX10_decided_47 : decode cX10_decided 47 = .ok (.getfield 97, 3) := by decide +kernel
theorem dX10_decided_50 : decode cX10_decided 50 = .ok (.getfield 107, 3) := by decide +kernel
theorem dX10_decided_53 : decode cX10_decided 53 = .ok (.if_icmp .le 5, 3) := by decide +kernel
theorem dX10_decided_56 : decode cX10_decided 56 = .ok (.iconst (-1), 1) := by decide +kernel
theorem dX10_decided_57 : decode cX10_decided 57 = .ok (.ireturn, 1) := by decide +kernel
theorem dX10_decided_58 : decode cX10_decided 58 = .ok (.aload_n 0, 1) := by decide +kernel
theorem dX10_decided_59 : decode cX10_decided 59 = .ok (.getfield 34, 3) := by decide +kernel
theorem dX10_decided_62 : decode cX10_decided 62 = .ok (.aload_n 0, 1) := by decide +kernel
theorem dX10_decided_63 : decode cX10_decided 63 = .ok (.getfield 10, 3) := by decide +kernel
theorem dX10_decided_66 : decode cX10_decided 66 = .ok (.iload_n 3, 1) := by decide +kernel
theorem dX10_decided_67 : decode cX10_decided 67 = .ok (.iconst (-1), 1) := by decide +kernel
theorem dX10_decided_68 : decode cX10_decided 68 = .ok (.invokevirtual 218, 3) := by decide +kernel
theorem dX10_decided_71 : decode cX10_decided 71 = .ok (.pop, 1) := by decide +kernel
theorem dX10_decided_72 : decode cX10_decided 72 = .ok (.aload_n 0, 1) := by decide +kernel
theorem dX10_decided_73 : decode cX10_decided 73 = .ok (.getfield 34, 3) := by decide +kernel
theorem dX10_decided_76 : decode cX10_decided 76 = .ok (.getfield 217, 3) := by decide +kernel
theorem dX10_decided_79 : decode cX10_decided 79 = .ok (.getfield 222, 3) := by decide +kernel
theorem dX10_decided_82 : decode cX10_decided 82 = .ok (.iload_n 1, 1) := by decide +kernel
theorem dX10_decided_83 : decode cX10_decided 83 = .ok (.iaload, 1) := by decide +kernel
theorem dX10_decided_84 : decode cX10_decided 84 = .ok (.ireturn, 1) := by decide +kernel
theorem dX10_cost_0 : decode cX10_cost 0 = .ok (.aload_n 0, 1) := by decide +kernel
theorem dX10_cost_1 : decode cX10_cost 1 = .ok (.getfield 10, 3) := by decide +kernel
theorem dX10_cost_4 : decode cX10_cost 4 = .ok (.getfield 82, 3) := by decide +kernel
theorem dX10_cost_7 : decode cX10_cost 7 = .ok (.getfield 128, 3) := by decide +kernel
theorem dX10_cost_10 : decode cX10_cost 10 = .ok (.aload_n 0, 1) := by decide +kernel
theorem dX10_cost_11 : decode cX10_cost 11 = .ok (.getfield 10, 3) := by decide +kernel
theorem dX10_cost_14 : decode cX10_cost 14 = .ok (.getfield 97, 3) := by decide +kernel
theorem dX10_cost_17 : decode cX10_cost 17 = .ok (.getfield 107, 3) := by decide +kernel
theorem dX10_cost_20 : decode cX10_cost 20 = .ok (.invokestatic 225, 3) := by decide +kernel
theorem dX10_cost_23 : decode cX10_cost 23 = .ok (.istore_n 1, 1) := by decide +kernel
theorem dX10_cost_24 : decode cX10_cost 24 = .ok (.iconst 0, 1) := by decide +kernel
theorem dX10_cost_25 : decode cX10_cost 25 = .ok (.istore_n 2, 1) := by decide +kernel
theorem dX10_cost_26 : decode cX10_cost 26 = .ok (.iconst 0, 1) := by decide +kernel
theorem dX10_cost_27 : decode cX10_cost 27 = .ok (.istore_n 3, 1) := by decide +kernel
theorem dX10_cost_28 : decode cX10_cost 28 = .ok (.iload_n 3, 1) := by decide +kernel
theorem dX10_cost_29 : decode cX10_cost 29 = .ok (.iload_n 1, 1) := by decide +kernel
theorem dX10_cost_30 : decode cX10_cost 30 = .ok (.if_icmp .ge 51, 3) := by decide +kernel
theorem dX10_cost_33 : decode cX10_cost 33 = .ok (.iload_n 2, 1) := by decide +kernel
theorem dX10_cost_34 : decode cX10_cost 34 = .ok (.aload_n 0, 1) := by decide +kernel
theorem dX10_cost_35 : decode cX10_cost 35 = .ok (.getfield 10, 3) := by decide +kernel
theorem dX10_cost_38 : decode cX10_cost 38 = .ok (.getfield 82, 3) := by decide +kernel
theorem dX10_cost_41 : decode cX10_cost 41 = .ok (.getfield 222, 3) := by decide +kernel
theorem dX10_cost_44 : decode cX10_cost 44 = .ok (.iload_n 3, 1) := by decide +kernel
theorem dX10_cost_45 : decode cX10_cost 45 = .ok (.iaload, 1) := by decide +kernel
theorem dX10_cost_46 : decode cX10_cost 46 = .ok (.aload_n 0, 1) := by decide +kernel
theorem dX10_cost_47 : decode cX10_cost 47 = .ok (.getfield 10, 3) := by decide +kernel
theorem dX10_cost_50 : decode cX10_cost 50 = .ok (.getfield 97, 3) := by decide +kernel
theorem dX10_cost_53 : decode cX10_cost 53 = .ok (.getfield 206, 3) := by decide +kernel
theorem dX10_cost_56 : decode cX10_cost 56 = .ok (.iload_n 3, 1) := by decide +kernel
theorem dX10_cost_57 : decode cX10_cost 57 = .ok (.iaload, 1) := by decide +kernel
theorem dX10_cost_58 : decode cX10_cost 58 = .ok (.aload_n 0, 1) := by decide +kernel
theorem dX10_cost_59 : decode cX10_cost 59 = .ok (.getfield 10, 3) := by decide +kernel
theorem dX10_cost_62 : decode cX10_cost 62 = .ok (.getfield 97, 3) := by decide +kernel
theorem dX10_cost_65 : decode cX10_cost 65 = .ok (.getfield 210, 3) := by decide +kernel
theorem dX10_cost_68 : decode cX10_cost 68 = .ok (.iload_n 3, 1) := by decide +kernel
theorem dX10_cost_69 : decode cX10_cost 69 = .ok (.iaload, 1) := by decide +kernel
theorem dX10_cost_70 : decode cX10_cost 70 = .ok (.invokestatic 190, 3) := by decide +kernel
theorem dX10_cost_73 : decode cX10_cost 73 = .ok (.iadd, 1) := by decide +kernel
theorem dX10_cost_74 : decode cX10_cost 74 = .ok (.istore_n 2, 1) := by decide +kernel
theorem dX10_cost_75 : decode cX10_cost 75 = .ok (.iinc 3 1, 3) := by decide +kernel
theorem dX10_cost_78 : decode cX10_cost 78 = .ok (.goto (-50), 3) := by decide +kernel
theorem dX10_cost_81 : decode cX10_cost 81 = .ok (.iload_n 2, 1) := by decide +kernel
theorem dX10_cost_82 : decode cX10_cost 82 = .ok (.ireturn, 1) := by decide +kernel
theorem dX10_sign_0 : decode cX10_sign 0 = .ok (.iload_n 1, 1) := by decide +kernel
theorem dX10_sign_1 : decode cX10_sign 1 = .ok (.ifCond .ge 6, 3) := by decide +kernel
theorem dX10_sign_4 : decode cX10_sign 4 = .ok (.ldc 52, 2) := by decide +kernel
theorem dX10_sign_6 : decode cX10_sign 6 = .ok (.ireturn, 1) := by decide +kernel
theorem dX10_sign_7 : decode cX10_sign 7 = .ok (.aload_n 0, 1) := by decide +kernel
theorem dX10_sign_8 : decode cX10_sign 8 = .ok (.invokevirtual 151, 3) := by decide +kernel
theorem dX10_sign_11 : decode cX10_sign 11 = .ok (.pop, 1) := by decide +kernel
theorem dX10_sign_12 : decode cX10_sign 12 = .ok (.iload_n 1, 1) := by decide +kernel
theorem dX10_sign_13 : decode cX10_sign 13 = .ok (.aload_n 0, 1) := by decide +kernel
theorem dX10_sign_14 : decode cX10_sign 14 = .ok (.invokevirtual 165, 3) := by decide +kernel
theorem dX10_sign_17 : decode cX10_sign 17 = .ok (.if_icmp .lt 5, 3) := by decide +kernel
theorem dX10_sign_20 : decode cX10_sign 20 = .ok (.iconst (-1), 1) := by decide +kernel
theorem dX10_sign_21 : decode cX10_sign 21 = .ok (.ireturn, 1) := by decide +kernel
theorem dX10_sign_22 : decode cX10_sign 22 = .ok (.iload_n 1, 1) := by decide +kernel
theorem dX10_sign_23 : decode cX10_sign 23 = .ok (.bipush 9, 2) := by decide +kernel
theorem dX10_sign_25 : decode cX10_sign 25 = .ok (.irem, 1) := by decide +kernel
theorem dX10_sign_26 : decode cX10_sign 26 = .ok (.istore_n 2, 1) := by decide +kernel
theorem dX10_sign_27 : decode cX10_sign 27 = .ok (.iload_n 2, 1) := by decide +kernel
theorem dX10_sign_28 : decode cX10_sign 28 = .ok (.bipush 8, 2) := by decide +kernel
theorem dX10_sign_30 : decode cX10_sign 30 = .ok (.if_icmp .ne 6, 3) := by decide +kernel
theorem dX10_sign_33 : decode cX10_sign 33 = .ok (.bipush 45, 2) := by decide +kernel
theorem dX10_sign_35 : decode cX10_sign 35 = .ok (.ireturn, 1) := by decide +kernel
theorem dX10_sign_36 : decode cX10_sign 36 = .ok (.iload_n 1, 1) := by decide +kernel
theorem dX10_sign_37 : decode cX10_sign 37 = .ok (.bipush 9, 2) := by decide +kernel
theorem dX10_sign_39 : decode cX10_sign 39 = .ok (.idiv, 1) := by decide +kernel
theorem dX10_sign_40 : decode cX10_sign 40 = .ok (.iconst 4, 1) := by decide +kernel
theorem dX10_sign_41 : decode cX10_sign 41 = .ok (.imul, 1) := by decide +kernel
theorem dX10_sign_42 : decode cX10_sign 42 = .ok (.iload_n 2, 1) := by decide +kernel
theorem dX10_sign_43 : decode cX10_sign 43 = .ok (.iconst 2, 1) := by decide +kernel
theorem dX10_sign_44 : decode cX10_sign 44 = .ok (.idiv, 1) := by decide +kernel
theorem dX10_sign_45 : decode cX10_sign 45 = .ok (.iadd, 1) := by decide +kernel
theorem dX10_sign_46 : decode cX10_sign 46 = .ok (.istore_n 3, 1) := by decide +kernel
theorem dX10_sign_47 : decode cX10_sign 47 = .ok (.iload_n 2, 1) := by decide +kernel
theorem dX10_sign_48 : decode cX10_sign 48 = .ok (.iconst 2, 1) := by decide +kernel
theorem dX10_sign_49 : decode cX10_sign 49 = .ok (.irem, 1) := by decide +kernel
theorem dX10_sign_50 : decode cX10_sign 50 = .ok (.ifCond .ne 22, 3) := by decide +kernel
theorem dX10_sign_53 : decode cX10_sign 53 = .ok (.bipush 65, 2) := by decide +kernel
theorem dX10_sign_55 : decode cX10_sign 55 = .ok (.aload_n 0, 1) := by decide +kernel
theorem dX10_sign_56 : decode cX10_sign 56 = .ok (.getfield 34, 3) := by decide +kernel
theorem dX10_sign_59 : decode cX10_sign 59 = .ok (.getfield 217, 3) := by decide +kernel
theorem dX10_sign_62 : decode cX10_sign 62 = .ok (.getfield 222, 3) := by decide +kernel
theorem dX10_sign_65 : decode cX10_sign 65 = .ok (.iload_n 3, 1) := by decide +kernel
theorem dX10_sign_66 : decode cX10_sign 66 = .ok (.iaload, 1) := by decide +kernel
theorem dX10_sign_67 : decode cX10_sign 67 = .ok (.invokestatic 171, 3) := by decide +kernel
theorem dX10_sign_70 : decode cX10_sign 70 = .ok (.iadd, 1) := by decide +kernel
theorem dX10_sign_71 : decode cX10_sign 71 = .ok (.ireturn, 1) := by decide +kernel
theorem dX10_sign_72 : decode cX10_sign 72 = .ok (.bipush 48, 2) := by decide +kernel
theorem dX10_sign_74 : decode cX10_sign 74 = .ok (.aload_n 0, 1) := by decide +kernel
theorem dX10_sign_75 : decode cX10_sign 75 = .ok (.getfield 34, 3) := by decide +kernel
theorem dX10_sign_78 : decode cX10_sign 78 = .ok (.getfield 217, 3) := by decide +kernel
theorem dX10_sign_81 : decode cX10_sign 81 = .ok (.getfield 230, 3) := by decide +kernel
theorem dX10_sign_84 : decode cX10_sign 84 = .ok (.iload_n 3, 1) := by decide +kernel
theorem dX10_sign_85 : decode cX10_sign 85 = .ok (.iaload, 1) := by decide +kernel
theorem dX10_sign_86 : decode cX10_sign 86 = .ok (.iadd, 1) := by decide +kernel
theorem dX10_sign_87 : decode cX10_sign 87 = .ok (.ireturn, 1) := by decide +kernel
theorem dX10_keep_0 : decode cX10_keep 0 = .ok (.iload_n 1, 1) := by decide +kernel
theorem dX10_keep_1 : decode cX10_keep 1 = .ok (.iconst 0, 1) := by decide +kernel
theorem dX10_keep_2 : decode cX10_keep 2 = .ok (.iconst 1, 1) := by decide +kernel
theorem dX10_keep_3 : decode cX10_keep 3 = .ok (.invokestatic 53, 3) := by decide +kernel
theorem dX10_keep_6 : decode cX10_keep 6 = .ok (.ifCond .eq 6, 3) := by decide +kernel
theorem dX10_keep_9 : decode cX10_keep 9 = .ok (.ldc 133, 2) := by decide +kernel
theorem dX10_keep_11 : decode cX10_keep 11 = .ok (.ireturn, 1) := by decide +kernel
theorem dX10_keep_12 : decode cX10_keep 12 = .ok (.aload_n 0, 1) := by decide +kernel
theorem dX10_keep_13 : decode cX10_keep 13 = .ok (.getfield 23, 3) := by decide +kernel
theorem dX10_keep_16 : decode cX10_keep 16 = .ok (.iload_n 1, 1) := by decide +kernel
theorem dX10_keep_17 : decode cX10_keep 17 = .ok (.aaload, 1) := by decide +kernel
theorem dX10_keep_18 : decode cX10_keep 18 = .ok (.aload_n 0, 1) := by decide +kernel
theorem dX10_keep_19 : decode cX10_keep 19 = .ok (.getfield 10, 3) := by decide +kernel
theorem dX10_keep_22 : decode cX10_keep 22 = .ok (.invokevirtual 233, 3) := by decide +kernel
theorem dX10_keep_25 : decode cX10_keep 25 = .ok (.aload_n 0, 1) := by decide +kernel
theorem dX10_keep_26 : decode cX10_keep 26 = .ok (.getfield 27, 3) := by decide +kernel
theorem dX10_keep_29 : decode cX10_keep 29 = .ok (.iload_n 1, 1) := by decide +kernel
theorem dX10_keep_30 : decode cX10_keep 30 = .ok (.iconst 1, 1) := by decide +kernel
theorem dX10_keep_31 : decode cX10_keep 31 = .ok (.bastore, 1) := by decide +kernel
theorem dX10_keep_32 : decode cX10_keep 32 = .ok (.aload_n 0, 1) := by decide +kernel
theorem dX10_keep_33 : decode cX10_keep 33 = .ok (.getfield 19, 3) := by decide +kernel
theorem dX10_keep_36 : decode cX10_keep 36 = .ok (.invokevirtual 236, 3) := by decide +kernel
theorem dX10_keep_39 : decode cX10_keep 39 = .ok (.aload_n 0, 1) := by decide +kernel
theorem dX10_keep_40 : decode cX10_keep 40 = .ok (.getfield 10, 3) := by decide +kernel
theorem dX10_keep_43 : decode cX10_keep 43 = .ok (.getfield 97, 3) := by decide +kernel
theorem dX10_keep_46 : decode cX10_keep 46 = .ok (.getfield 107, 3) := by decide +kernel
theorem dX10_keep_49 : decode cX10_keep 49 = .ok (.ireturn, 1) := by decide +kernel
theorem dX10_goBack_0 : decode cX10_goBack 0 = .ok (.iload_n 1, 1) := by decide +kernel
theorem dX10_goBack_1 : decode cX10_goBack 1 = .ok (.iconst 0, 1) := by decide +kernel
theorem dX10_goBack_2 : decode cX10_goBack 2 = .ok (.iconst 1, 1) := by decide +kernel
theorem dX10_goBack_3 : decode cX10_goBack 3 = .ok (.invokestatic 53, 3) := by decide +kernel
theorem dX10_goBack_6 : decode cX10_goBack 6 = .ok (.ifCond .eq 6, 3) := by decide +kernel
theorem dX10_goBack_9 : decode cX10_goBack 9 = .ok (.ldc 133, 2) := by decide +kernel
end
section
theorem dX10_goBack_11 : decode cX10_goBack 11 = .ok (.ireturn, 1) := by decide +kernel
theorem dX10_goBack_12 : decode cX10_goBack 12 = .ok (.aload_n 0, 1) := by decide +kernel
theorem dX10_goBack_13 : decode cX10_goBack 13 = .ok (.getfield 27, 3) := by decide +kernel
theorem dX10_goBack_16 : decode cX10_goBack 16 = .ok (.iload_n 1, 1) := by decide +kernel
theorem dX10_goBack_17 : decode cX10_goBack 17 = .ok (.baload, 1) := by decide +kernel
theorem dX10_goBack_18 : decode cX10_goBack 18 = .ok (.ifCond .ne 6, 3) := by decide +kernel
theorem dX10_goBack_21 : decode cX10_goBack 21 = .ok (.ldc 135, 2) := by decide +kernel
theorem dX10_goBack_23 : decode cX10_goBack 23 = .ok (.ireturn, 1) := by decide +kernel
theorem dX10_goBack_24 : decode cX10_goBack 24 = .ok (.aload_n 0, 1) := by decide +kernel
theorem dX10_goBack_25 : decode cX10_goBack 25 = .ok (.getfield 10, 3) := by decide +kernel
theorem dX10_goBack_28 : decode cX10_goBack 28 = .ok (.aload_n 0, 1) := by decide +kernel
theorem dX10_goBack_29 : decode cX10_goBack 29 = .ok (.getfield 23, 3) := by decide +kernel
theorem dX10_goBack_32 : decode cX10_goBack 32 = .ok (.iload_n 1, 1) := by decide +kernel
theorem dX10_goBack_33 : decode cX10_goBack 33 = .ok (.aaload, 1) := by decide +kernel
theorem dX10_goBack_34 : decode cX10_goBack 34 = .ok (.invokevirtual 233, 3) := by decide +kernel
theorem dX10_goBack_37 : decode cX10_goBack 37 = .ok (.aload_n 0, 1) := by decide +kernel
theorem dX10_goBack_38 : decode cX10_goBack 38 = .ok (.getfield 19, 3) := by decide +kernel
theorem dX10_goBack_41 : decode cX10_goBack 41 = .ok (.invokevirtual 236, 3) := by decide +kernel
theorem dX10_goBack_44 : decode cX10_goBack 44 = .ok (.aload_n 0, 1) := by decide +kernel
theorem dX10_goBack_45 : decode cX10_goBack 45 = .ok (.getfield 10, 3) := by decide +kernel
theorem dX10_goBack_48 : decode cX10_goBack 48 = .ok (.getfield 97, 3) := by decide +kernel
theorem dX10_goBack_51 : decode cX10_goBack 51 = .ok (.getfield 107, 3) := by decide +kernel
theorem dX10_goBack_54 : decode cX10_goBack 54 = .ok (.ireturn, 1) := by decide +kernel
theorem dX10_isOutside_0 : decode cX10_isOutside 0 = .ok (.iload_n 0, 1) := by decide +kernel
theorem dX10_isOutside_1 : decode cX10_isOutside 1 = .ok (.iload_n 1, 1) := by decide +kernel
theorem dX10_isOutside_2 : decode cX10_isOutside 2 = .ok (.if_icmp .lt 8, 3) := by decide +kernel
theorem dX10_isOutside_5 : decode cX10_isOutside 5 = .ok (.iload_n 0, 1) := by decide +kernel
theorem dX10_isOutside_6 : decode cX10_isOutside 6 = .ok (.iload_n 2, 1) := by decide +kernel
theorem dX10_isOutside_7 : decode cX10_isOutside 7 = .ok (.if_icmp .le 7, 3) := by decide +kernel
theorem dX10_isOutside_10 : decode cX10_isOutside 10 = .ok (.iconst 1, 1) := by decide +kernel
theorem dX10_isOutside_11 : decode cX10_isOutside 11 = .ok (.goto 4, 3) := by decide +kernel
theorem dX10_isOutside_14 : decode cX10_isOutside 14 = .ok (.iconst 0, 1) := by decide +kernel
theorem dX10_isOutside_15 : decode cX10_isOutside 15 = .ok (.ireturn, 1) := by decide +kernel
theorem dX10_isPoint_0 : decode cX10_isPoint 0 = .ok (.iload_n 0, 1) := by decide +kernel
theorem dX10_isPoint_1 : decode cX10_isPoint 1 = .ok (.ifCond .lt 13, 3) := by decide +kernel
theorem dX10_isPoint_4 : decode cX10_isPoint 4 = .ok (.iload_n 0, 1) := by decide +kernel
theorem dX10_isPoint_5 : decode cX10_isPoint 5 = .ok (.bipush 16, 2) := by decide +kernel
theorem dX10_isPoint_7 : decode cX10_isPoint 7 = .ok (.if_icmp .ge 7, 3) := by decide +kernel
theorem dX10_isPoint_10 : decode cX10_isPoint 10 = .ok (.iconst 1, 1) := by decide +kernel
theorem dX10_isPoint_11 : decode cX10_isPoint 11 = .ok (.goto 4, 3) := by decide +kernel
theorem dX10_isPoint_14 : decode cX10_isPoint 14 = .ok (.iconst 0, 1) := by decide +kernel
theorem dX10_isPoint_15 : decode cX10_isPoint 15 = .ok (.ireturn, 1) := by decide +kernel
theorem dX10_isFamily_0 : decode cX10_isFamily 0 = .ok (.iload_n 0, 1) := by decide +kernel
theorem dX10_isFamily_1 : decode cX10_isFamily 1 = .ok (.ifCond .lt 12, 3) := by decide +kernel
theorem dX10_isFamily_4 : decode cX10_isFamily 4 = .ok (.iload_n 0, 1) := by decide +kernel
theorem dX10_isFamily_5 : decode cX10_isFamily 5 = .ok (.iconst 4, 1) := by decide +kernel
theorem dX10_isFamily_6 : decode cX10_isFamily 6 = .ok (.if_icmp .ge 7, 3) := by decide +kernel
theorem dX10_isFamily_9 : decode cX10_isFamily 9 = .ok (.iconst 1, 1) := by decide +kernel
theorem dX10_isFamily_10 : decode cX10_isFamily 10 = .ok (.goto 4, 3) := by decide +kernel
theorem dX10_isFamily_13 : decode cX10_isFamily 13 = .ok (.iconst 0, 1) := by decide +kernel
theorem dX10_isFamily_14 : decode cX10_isFamily 14 = .ok (.ireturn, 1) := by decide +kernel
theorem dX10_isState_0 : decode cX10_isState 0 = .ok (.iload_n 1, 1) := by decide +kernel
theorem dX10_isState_1 : decode cX10_isState 1 = .ok (.ifCond .lt 21, 3) := by decide +kernel
theorem dX10_isState_4 : decode cX10_isState 4 = .ok (.iload_n 1, 1) := by decide +kernel
theorem dX10_isState_5 : decode cX10_isState 5 = .ok (.aload_n 0, 1) := by decide +kernel
theorem dX10_isState_6 : decode cX10_isState 6 = .ok (.getfield 10, 3) := by decide +kernel
theorem dX10_isState_9 : decode cX10_isState 9 = .ok (.getfield 61, 3) := by decide +kernel
theorem dX10_isState_12 : decode cX10_isState 12 = .ok (.invokevirtual 78, 3) := by decide +kernel
theorem dX10_isState_15 : decode cX10_isState 15 = .ok (.if_icmp .ge 7, 3) := by decide +kernel
theorem dX10_isState_18 : decode cX10_isState 18 = .ok (.iconst 1, 1) := by decide +kernel
theorem dX10_isState_19 : decode cX10_isState 19 = .ok (.goto 4, 3) := by decide +kernel
theorem dX10_isState_22 : decode cX10_isState 22 = .ok (.iconst 0, 1) := by decide +kernel
theorem dX10_isState_23 : decode cX10_isState 23 = .ok (.ireturn, 1) := by decide +kernel
theorem dX10_seekNearest_0 : decode cX10_seekNearest 0 = .ok (.aload_n 0, 1) := by decide +kernel
theorem dX10_seekNearest_1 : decode cX10_seekNearest 1 = .ok (.getfield 34, 3) := by decide +kernel
theorem dX10_seekNearest_4 : decode cX10_seekNearest 4 = .ok (.aload_n 0, 1) := by decide +kernel
theorem dX10_seekNearest_5 : decode cX10_seekNearest 5 = .ok (.getfield 10, 3) := by decide +kernel
theorem dX10_seekNearest_8 : decode cX10_seekNearest 8 = .ok (.aload_n 0, 1) := by decide +kernel
theorem dX10_seekNearest_9 : decode cX10_seekNearest 9 = .ok (.getfield 10, 3) := by decide +kernel
theorem dX10_seekNearest_12 : decode cX10_seekNearest 12 = .ok (.getfield 97, 3) := by decide +kernel
theorem dX10_seekNearest_15 : decode cX10_seekNearest 15 = .ok (.getfield 107, 3) := by decide +kernel
theorem dX10_seekNearest_18 : decode cX10_seekNearest 18 = .ok (.aload_n 0, 1) := by decide +kernel
theorem dX10_seekNearest_19 : decode cX10_seekNearest 19 = .ok (.getfield 10, 3) := by decide +kernel
theorem dX10_seekNearest_22 : decode cX10_seekNearest 22 = .ok (.getfield 74, 3) := by decide +kernel
theorem dX10_seekNearest_25 : decode cX10_seekNearest 25 = .ok (.invokevirtual 218, 3) := by decide +kernel
theorem dX10_seekNearest_28 : decode cX10_seekNearest 28 = .ok (.ireturn, 1) := by decide +kernel
theorem dX10_countUnlike_0 : decode cX10_countUnlike 0 = .ok (.aload_n 0, 1) := by decide +kernel
theorem dX10_countUnlike_1 : decode cX10_countUnlike 1 = .ok (.getfield 10, 3) := by decide +kernel
theorem dX10_countUnlike_4 : decode cX10_countUnlike 4 = .ok (.getfield 82, 3) := by decide +kernel
theorem dX10_countUnlike_7 : decode cX10_countUnlike 7 = .ok (.getfield 128, 3) := by decide +kernel
theorem dX10_countUnlike_10 : decode cX10_countUnlike 10 = .ok (.aload_n 0, 1) := by decide +kernel
theorem dX10_countUnlike_11 : decode cX10_countUnlike 11 = .ok (.getfield 34, 3) := by decide +kernel
theorem dX10_countUnlike_14 : decode cX10_countUnlike 14 = .ok (.getfield 217, 3) := by decide +kernel
theorem dX10_countUnlike_17 : decode cX10_countUnlike 17 = .ok (.getfield 128, 3) := by decide +kernel
theorem dX10_countUnlike_20 : decode cX10_countUnlike 20 = .ok (.invokestatic 225, 3) := by decide +kernel
theorem dX10_countUnlike_23 : decode cX10_countUnlike 23 = .ok (.istore_n 1, 1) := by decide +kernel
theorem dX10_countUnlike_24 : decode cX10_countUnlike 24 = .ok (.iconst 0, 1) := by decide +kernel
theorem dX10_countUnlike_25 : decode cX10_countUnlike 25 = .ok (.istore_n 2, 1) := by decide +kernel
theorem dX10_countUnlike_26 : decode cX10_countUnlike 26 = .ok (.iconst 0, 1) := by decide +kernel
theorem dX10_countUnlike_27 : decode cX10_countUnlike 27 = .ok (.istore_n 3, 1) := by decide +kernel
theorem dX10_countUnlike_28 : decode cX10_countUnlike 28 = .ok (.iload_n 3, 1) := by decide +kernel
theorem dX10_countUnlike_29 : decode cX10_countUnlike 29 = .ok (.iload_n 1, 1) := by decide +kernel
theorem dX10_countUnlike_30 : decode cX10_countUnlike 30 = .ok (.if_icmp .ge 39, 3) := by decide +kernel
theorem dX10_countUnlike_33 : decode cX10_countUnlike 33 = .ok (.aload_n 0, 1) := by decide +kernel
theorem dX10_countUnlike_34 : decode cX10_countUnlike 34 = .ok (.getfield 10, 3) := by decide +kernel
theorem dX10_countUnlike_37 : decode cX10_countUnlike 37 = .ok (.getfield 82, 3) := by decide +kernel
theorem dX10_countUnlike_40 : decode cX10_countUnlike 40 = .ok (.getfield 222, 3) := by decide +kernel
theorem dX10_countUnlike_43 : decode cX10_countUnlike 43 = .ok (.iload_n 3, 1) := by decide +kernel
theorem dX10_countUnlike_44 : decode cX10_countUnlike 44 = .ok (.iaload, 1) := by decide +kernel
theorem dX10_countUnlike_45 : decode cX10_countUnlike 45 = .ok (.aload_n 0, 1) := by decide +kernel
theorem dX10_countUnlike_46 : decode cX10_countUnlike 46 = .ok (.getfield 34, 3) := by decide +kernel
theorem dX10_countUnlike_49 : decode cX10_countUnlike 49 = .ok (.getfield 217, 3) := by decide +kernel
theorem dX10_countUnlike_52 : decode cX10_countUnlike 52 = .ok (.getfield 222, 3) := by decide +kernel
theorem dX10_countUnlike_55 : decode cX10_countUnlike 55 = .ok (.iload_n 3, 1) := by decide +kernel
theorem dX10_countUnlike_56 : decode cX10_countUnlike 56 = .ok (.iaload, 1) := by decide +kernel
theorem dX10_countUnlike_57 : decode cX10_countUnlike 57 = .ok (.if_icmp .eq 6, 3) := by decide +kernel
theorem dX10_countUnlike_60 : decode cX10_countUnlike 60 = .ok (.iinc 2 1, 3) := by decide +kernel
theorem dX10_countUnlike_63 : decode cX10_countUnlike 63 = .ok (.iinc 3 1, 3) := by decide +kernel
theorem dX10_countUnlike_66 : decode cX10_countUnlike 66 = .ok (.goto (-38), 3) := by decide +kernel
theorem dX10_countUnlike_69 : decode cX10_countUnlike 69 = .ok (.iload_n 2, 1) := by decide +kernel
theorem dX10_countUnlike_70 : decode cX10_countUnlike 70 = .ok (.ireturn, 1) := by decide +kernel
theorem dX10_countSigns_0 : decode cX10_countSigns 0 = .ok (.aload_n 0, 1) := by decide +kernel
theorem dX10_countSigns_1 : decode cX10_countSigns 1 = .ok (.getfield 34, 3) := by decide +kernel
theorem dX10_countSigns_4 : decode cX10_countSigns 4 = .ok (.getfield 217, 3) := by decide +kernel
theorem dX10_countSigns_7 : decode cX10_countSigns 7 = .ok (.getfield 128, 3) := by decide +kernel
theorem dX10_countSigns_10 : decode cX10_countSigns 10 = .ok (.istore_n 1, 1) := by decide +kernel
theorem dX10_countSigns_11 : decode cX10_countSigns 11 = .ok (.iload_n 1, 1) := by decide +kernel
theorem dX10_countSigns_12 : decode cX10_countSigns 12 = .ok (.ifCond .ne 5, 3) := by decide +kernel
theorem dX10_countSigns_15 : decode cX10_countSigns 15 = .ok (.iconst 0, 1) := by decide +kernel
theorem dX10_countSigns_16 : decode cX10_countSigns 16 = .ok (.ireturn, 1) := by decide +kernel
theorem dX10_countSigns_17 : decode cX10_countSigns 17 = .ok (.iconst 2, 1) := by decide +kernel
theorem dX10_countSigns_18 : decode cX10_countSigns 18 = .ok (.iload_n 1, 1) := by decide +kernel
theorem dX10_countSigns_19 : decode cX10_countSigns 19 = .ok (.imul, 1) := by decide +kernel
theorem dX10_countSigns_20 : decode cX10_countSigns 20 = .ok (.iload_n 1, 1) := by decide +kernel
theorem dX10_countSigns_21 : decode cX10_countSigns 21 = .ok (.iconst 1, 1) := by decide +kernel
theorem dX10_countSigns_22 : decode cX10_countSigns 22 = .ok (.isub, 1) := by decide +kernel
theorem dX10_countSigns_23 : decode cX10_countSigns 23 = .ok (.iconst 4, 1) := by decide +kernel
theorem dX10_countSigns_24 : decode cX10_countSigns 24 = .ok (.idiv, 1) := by decide +kernel
theorem dX10_countSigns_25 : decode cX10_countSigns 25 = .ok (.iadd, 1) := by decide +kernel
theorem dX10_countSigns_26 : decode cX10_countSigns 26 = .ok (.ireturn, 1) := by decide +kernel
end
section
theorem dX11_init_0 : decode cX11_init 0 = .ok (.aload_n 0, 1) := by decide +kernel
theorem dX11_init_1 : decode cX11_init 1 = .ok (.invokespecial 1, 3) := by decide +kernel
theorem dX11_init_4 : decode cX11_init 4 = .ok (.aload_n 0, 1) := by decide +kernel
theorem dX11_init_5 : decode cX11_init 5 = .ok (.bipush 102, 2) := by decide +kernel
theorem dX11_init_7 : decode cX11_init 7 = .ok (.newarray .int, 2) := by decide +kernel
theorem dX11_init_9 : decode cX11_init 9 = .ok (.putfield 7, 3) := by decide +kernel
theorem dX11_init_12 : decode cX11_init 12 = .ok (.aload_n 0, 1) := by decide +kernel
theorem dX11_init_13 : decode cX11_init 13 = .ok (.sipush 816, 3) := by decide +kernel
theorem dX11_init_16 : decode cX11_init 16 = .ok (.newarray .int, 2) := by decide +kernel
theorem dX11_init_18 : decode cX11_init 18 = .ok (.putfield 13, 3) := by decide +kernel
theorem dX11_init_21 : decode cX11_init 21 = .ok (.aload_n 0, 1) := by decide +kernel
theorem dX11_init_22 : decode cX11_init 22 = .ok (.sipush 204, 3) := by decide +kernel
theorem dX11_init_25 : decode cX11_init 25 = .ok (.newarray .int, 2) := by decide +kernel
theorem dX11_init_27 : decode cX11_init 27 = .ok (.putfield 16, 3) := by decide +kernel
theorem dX11_init_30 : decode cX11_init 30 = .ok (.aload_n 0, 1) := by decide +kernel
theorem dX11_init_31 : decode cX11_init 31 = .ok (.iconst 2, 1) := by decide +kernel
theorem dX11_init_32 : decode cX11_init 32 = .ok (.newarray .boolean, 2) := by decide +kernel
theorem dX11_init_34 : decode cX11_init 34 = .ok (.putfield 19, 3) := by decide +kernel
theorem dX11_init_37 : decode cX11_init 37 = .ok (.aload_n 0, 1) := by decide +kernel
theorem dX11_init_38 : decode cX11_init 38 = .ok (.sipush 200, 3) := by decide +kernel
theorem dX11_init_41 : decode cX11_init 41 = .ok (.newarray .int, 2) := by decide +kernel
theorem dX11_init_43 : decode cX11_init 43 = .ok (.putfield 23, 3) := by decide +kernel
theorem dX11_init_46 : decode cX11_init 46 = .ok (.aload_n 0, 1) := by decide +kernel
theorem dX11_init_47 : decode cX11_init 47 = .ok (.bipush 24, 2) := by decide +kernel
theorem dX11_init_49 : decode cX11_init 49 = .ok (.newarray .int, 2) := by decide +kernel
theorem dX11_init_51 : decode cX11_init 51 = .ok (.putfield 26, 3) := by decide +kernel
theorem dX11_init_54 : decode cX11_init 54 = .ok (.aload_n 0, 1) := by decide +kernel
theorem dX11_init_55 : decode cX11_init 55 = .ok (.bipush 24, 2) := by decide +kernel
theorem dX11_init_57 : decode cX11_init 57 = .ok (.newarray .int, 2) := by decide +kernel
theorem dX11_init_59 : decode cX11_init 59 = .ok (.putfield 29, 3) := by decide +kernel
theorem dX11_init_62 : decode cX11_init 62 = .ok (.aload_n 0, 1) := by decide +kernel
theorem dX11_init_63 : decode cX11_init 63 = .ok (.bipush 24, 2) := by decide +kernel
theorem dX11_init_65 : decode cX11_init 65 = .ok (.newarray .int, 2) := by decide +kernel
theorem dX11_init_67 : decode cX11_init 67 = .ok (.putfield 32, 3) := by decide +kernel
theorem dX11_init_70 : decode cX11_init 70 = .ok (.aload_n 0, 1) := by decide +kernel
theorem dX11_init_71 : decode cX11_init 71 = .ok (.bipush 64, 2) := by decide +kernel
theorem dX11_init_73 : decode cX11_init 73 = .ok (.newarray .int, 2) := by decide +kernel
theorem dX11_init_75 : decode cX11_init 75 = .ok (.putfield 35, 3) := by decide +kernel
theorem dX11_init_78 : decode cX11_init 78 = .ok (.aload_n 0, 1) := by decide +kernel
theorem dX11_init_79 : decode cX11_init 79 = .ok (.bipush 64, 2) := by decide +kernel
theorem dX11_init_81 : decode cX11_init 81 = .ok (.newarray .int, 2) := by decide +kernel
theorem dX11_init_83 : decode cX11_init 83 = .ok (.putfield 38, 3) := by decide +kernel
theorem dX11_init_86 : decode cX11_init 86 = .ok (.aload_n 0, 1) := by decide +kernel
theorem dX11_init_87 : decode cX11_init 87 = .ok (.sipush 2048, 3) := by decide +kernel
theorem dX11_init_90 : decode cX11_init 90 = .ok (.newarray .boolean, 2) := by decide +kernel
theorem dX11_init_92 : decode cX11_init 92 = .ok (.putfield 41, 3) := by decide +kernel
theorem dX11_init_95 : decode cX11_init 95 = .ok (.aload_n 0, 1) := by decide +kernel
theorem dX11_init_96 : decode cX11_init 96 = .ok (.sipush 2048, 3) := by decide +kernel
theorem dX11_init_99 : decode cX11_init 99 = .ok (.newarray .int, 2) := by decide +kernel
theorem dX11_init_101 : decode cX11_init 101 = .ok (.putfield 44, 3) := by decide +kernel
theorem dX11_init_104 : decode cX11_init 104 = .ok (.aload_n 0, 1) := by decide +kernel
theorem dX11_init_105 : decode cX11_init 105 = .ok (.getfield 7, 3) := by decide +kernel
theorem dX11_init_108 : decode cX11_init 108 = .ok (.iconst 0, 1) := by decide +kernel
theorem dX11_init_109 : decode cX11_init 109 = .ok (.iconst 2, 1) := by decide +kernel
theorem dX11_init_110 : decode cX11_init 110 = .ok (.iastore, 1) := by decide +kernel
theorem dX11_init_111 : decode cX11_init 111 = .ok (.aload_n 0, 1) := by decide +kernel
theorem dX11_init_112 : decode cX11_init 112 = .ok (.getfield 7, 3) := by decide +kernel
theorem dX11_init_115 : decode cX11_init 115 = .ok (.iconst 1, 1) := by decide +kernel
theorem dX11_init_116 : decode cX11_init 116 = .ok (.iconst 5, 1) := by decide +kernel
theorem dX11_init_117 : decode cX11_init 117 = .ok (.iastore, 1) := by decide +kernel
theorem dX11_init_118 : decode cX11_init 118 = .ok (.aload_n 0, 1) := by decide +kernel
theorem dX11_init_119 : decode cX11_init 119 = .ok (.getfield 7, 3) := by decide +kernel
theorem dX11_init_122 : decode cX11_init 122 = .ok (.iconst 2, 1) := by decide +kernel
theorem dX11_init_123 : decode cX11_init 123 = .ok (.iconst 2, 1) := by decide +kernel
theorem dX11_init_124 : decode cX11_init 124 = .ok (.iastore, 1) := by decide +kernel
theorem dX11_init_125 : decode cX11_init 125 = .ok (.aload_n 0, 1) := by decide +kernel
theorem dX11_init_126 : decode cX11_init 126 = .ok (.getfield 7, 3) := by decide +kernel
theorem dX11_init_129 : decode cX11_init 129 = .ok (.iconst 3, 1) := by decide +kernel
theorem dX11_init_130 : decode cX11_init 130 = .ok (.iconst (-1), 1) := by decide +kernel
theorem dX11_init_131 : decode cX11_init 131 = .ok (.iastore, 1) := by decide +kernel
theorem dX11_init_132 : decode cX11_init 132 = .ok (.return_, 1) := by decide +kernel
theorem dX11_in_0 : decode cX11_in 0 = .ok (.iload_n 0, 1) := by decide +kernel
theorem dX11_in_1 : decode cX11_in 1 = .ok (.iload_n 1, 1) := by decide +kernel
theorem dX11_in_2 : decode cX11_in 2 = .ok (.if_icmp .lt 12, 3) := by decide +kernel
theorem dX11_in_5 : decode cX11_in 5 = .ok (.iload_n 0, 1) := by decide +kernel
theorem dX11_in_6 : decode cX11_in 6 = .ok (.iload_n 2, 1) := by decide +kernel
theorem dX11_in_7 : decode cX11_in 7 = .ok (.if_icmp .gt 7, 3) := by decide +kernel
theorem dX11_in_10 : decode cX11_in 10 = .ok (.iconst 1, 1) := by decide +kernel
theorem dX11_in_11 : decode cX11_in 11 = .ok (.goto 4, 3) := by decide +kernel
theorem dX11_in_14 : decode cX11_in 14 = .ok (.iconst 0, 1) := by decide +kernel
theorem dX11_in_15 : decode cX11_in 15 = .ok (.ireturn, 1) := by decide +kernel
theorem dX11_xOf_0 : decode cX11_xOf 0 = .ok (.bipush 20, 2) := by decide +kernel
theorem dX11_xOf_2 : decode cX11_xOf 2 = .ok (.iload_n 0, 1) := by decide +kernel
theorem dX11_xOf_3 : decode cX11_xOf 3 = .ok (.iconst 4, 1) := by decide +kernel
theorem dX11_xOf_4 : decode cX11_xOf 4 = .ok (.idiv, 1) := by decide +kernel
theorem dX11_xOf_5 : decode cX11_xOf 5 = .ok (.imul, 1) := by decide +kernel
theorem dX11_xOf_6 : decode cX11_xOf 6 = .ok (.bipush 30, 2) := by decide +kernel
theorem dX11_xOf_8 : decode cX11_xOf 8 = .ok (.isub, 1) := by decide +kernel
theorem dX11_xOf_9 : decode cX11_xOf 9 = .ok (.ireturn, 1) := by decide +kernel
theorem dX11_yOf_0 : decode cX11_yOf 0 = .ok (.bipush 20, 2) := by decide +kernel
theorem dX11_yOf_2 : decode cX11_yOf 2 = .ok (.iload_n 0, 1) := by decide +kernel
theorem dX11_yOf_3 : decode cX11_yOf 3 = .ok (.iconst 4, 1) := by decide +kernel
theorem dX11_yOf_4 : decode cX11_yOf 4 = .ok (.irem, 1) := by decide +kernel
theorem dX11_yOf_5 : decode cX11_yOf 5 = .ok (.imul, 1) := by decide +kernel
theorem dX11_yOf_6 : decode cX11_yOf 6 = .ok (.bipush 30, 2) := by decide +kernel
theorem dX11_yOf_8 : decode cX11_yOf 8 = .ok (.isub, 1) := by decide +kernel
theorem dX11_yOf_9 : decode cX11_yOf 9 = .ok (.ireturn, 1) := by decide +kernel
theorem dX11_familyOf_0 : decode cX11_familyOf 0 = .ok (.iload_n 0, 1) := by decide +kernel
theorem dX11_familyOf_1 : decode cX11_familyOf 1 = .ok (.iconst 4, 1) := by decide +kernel
theorem dX11_familyOf_2 : decode cX11_familyOf 2 = .ok (.idiv, 1) := by decide +kernel
theorem dX11_familyOf_3 : decode cX11_familyOf 3 = .ok (.istore_n 1, 1) := by decide +kernel
theorem dX11_familyOf_4 : decode cX11_familyOf 4 = .ok (.iload_n 0, 1) := by decide +kernel
theorem dX11_familyOf_5 : decode cX11_familyOf 5 = .ok (.iconst 4, 1) := by decide +kernel
theorem dX11_familyOf_6 : decode cX11_familyOf 6 = .ok (.irem, 1) := by decide +kernel
theorem dX11_familyOf_7 : decode cX11_familyOf 7 = .ok (.istore_n 2, 1) := by decide +kernel
theorem dX11_familyOf_8 : decode cX11_familyOf 8 = .ok (.iconst 2, 1) := by decide +kernel
theorem dX11_familyOf_9 : decode cX11_familyOf 9 = .ok (.iload_n 1, 1) := by decide +kernel
theorem dX11_familyOf_10 : decode cX11_familyOf 10 = .ok (.iload_n 2, 1) := by decide +kernel
theorem dX11_familyOf_11 : decode cX11_familyOf 11 = .ok (.iadd, 1) := by decide +kernel
theorem dX11_familyOf_12 : decode cX11_familyOf 12 = .ok (.iconst 2, 1) := by decide +kernel
theorem dX11_familyOf_13 : decode cX11_familyOf 13 = .ok (.irem, 1) := by decide +kernel
theorem dX11_familyOf_14 : decode cX11_familyOf 14 = .ok (.imul, 1) := by decide +kernel
theorem dX11_familyOf_15 : decode cX11_familyOf 15 = .ok (.iload_n 2, 1) := by decide +kernel
theorem dX11_familyOf_16 : decode cX11_familyOf 16 = .ok (.iconst 2, 1) := by decide +kernel
theorem dX11_familyOf_17 : decode cX11_familyOf 17 = .ok (.irem, 1) := by decide +kernel
theorem dX11_familyOf_18 : decode cX11_familyOf 18 = .ok (.iadd, 1) := by decide +kernel
theorem dX11_familyOf_19 : decode cX11_familyOf 19 = .ok (.ireturn, 1) := by decide +kernel
theorem dX11_turn_0 : decode cX11_turn 0 = .ok (.iconst 4, 1) := by decide +kernel
theorem dX11_turn_1 : decode cX11_turn 1 = .ok (.iconst 3, 1) := by decide +kernel
theorem dX11_turn_2 : decode cX11_turn 2 = .ok (.iload_n 0, 1) := by decide +kernel
theorem dX11_turn_3 : decode cX11_turn 3 = .ok (.iconst 4, 1) := by decide +kernel
theorem dX11_turn_4 : decode cX11_turn 4 = .ok (.irem, 1) := by decide +kernel
theorem dX11_turn_5 : decode cX11_turn 5 = .ok (.isub, 1) := by decide +kernel
theorem dX11_turn_6 : decode cX11_turn 6 = .ok (.imul, 1) := by decide +kernel
theorem dX11_turn_7 : decode cX11_turn 7 = .ok (.iload_n 0, 1) := by decide +kernel
theorem dX11_turn_8 : decode cX11_turn 8 = .ok (.iconst 4, 1) := by decide +kernel
theorem dX11_turn_9 : decode cX11_turn 9 = .ok (.idiv, 1) := by decide +kernel
theorem dX11_turn_10 : decode cX11_turn 10 = .ok (.iadd, 1) := by decide +kernel
theorem dX11_turn_11 : decode cX11_turn 11 = .ok (.ireturn, 1) := by decide +kernel
theorem dX11_memberOf_0 : decode cX11_memberOf 0 = .ok (.iload_n 1, 1) := by decide +kernel
theorem dX11_memberOf_1 : decode cX11_memberOf 1 = .ok (.istore_n 2, 1) := by decide +kernel
theorem dX11_memberOf_2 : decode cX11_memberOf 2 = .ok (.iconst 0, 1) := by decide +kernel
theorem dX11_memberOf_3 : decode cX11_memberOf 3 = .ok (.istore_n 3, 1) := by decide +kernel
theorem dX11_memberOf_4 : decode cX11_memberOf 4 = .ok (.iload_n 3, 1) := by decide +kernel
theorem dX11_memberOf_5 : decode cX11_memberOf 5 = .ok (.invokestatic 47, 3) := by decide +kernel
theorem dX11_memberOf_8 : decode cX11_memberOf 8 = .ok (.iload_n 0, 1) := by decide +kernel
theorem dX11_memberOf_9 : decode cX11_memberOf 9 = .ok (.if_icmp .ne 7, 3) := by decide +kernel
theorem dX11_memberOf_12 : decode cX11_memberOf 12 = .ok (.iload_n 2, 1) := by decide +kernel
theorem dX11_memberOf_13 : decode cX11_memberOf 13 = .ok (.ifCond .le 25, 3) := by decide +kernel
theorem dX11_memberOf_16 : decode cX11_memberOf 16 = .ok (.iload_n 2, 1) := by decide +kernel
theorem dX11_memberOf_17 : decode cX11_memberOf 17 = .ok (.iload_n 3, 1) := by decide +kernel
theorem dX11_memberOf_18 : decode cX11_memberOf 18 = .ok (.invokestatic 47, 3) := by decide +kernel
theorem dX11_memberOf_21 : decode cX11_memberOf 21 = .ok (.iload_n 0, 1) := by decide +kernel
theorem dX11_memberOf_22 : decode cX11_memberOf 22 = .ok (.if_icmp .ne 7, 3) := by decide +kernel
theorem dX11_memberOf_25 : decode cX11_memberOf 25 = .ok (.iconst 1, 1) := by decide +kernel
theorem dX11_memberOf_26 : decode cX11_memberOf 26 = .ok (.goto 4, 3) := by decide +kernel
theorem dX11_memberOf_29 : decode cX11_memberOf 29 = .ok (.iconst 0, 1) := by decide +kernel
theorem dX11_memberOf_30 : decode cX11_memberOf 30 = .ok (.isub, 1) := by decide +kernel
theorem dX11_memberOf_31 : decode cX11_memberOf 31 = .ok (.istore_n 2, 1) := by decide +kernel
theorem dX11_memberOf_32 : decode cX11_memberOf 32 = .ok (.iinc 3 1, 3) := by decide +kernel
theorem dX11_memberOf_35 : decode cX11_memberOf 35 = .ok (.goto (-31), 3) := by decide +kernel
theorem dX11_memberOf_38 : decode cX11_memberOf 38 = .ok (.iload_n 3, 1) := by decide +kernel
theorem dX11_memberOf_39 : decode cX11_memberOf 39 = .ok (.ireturn, 1) := by decide +kernel
theorem dX11_orderOf_0 : decode cX11_orderOf 0 = .ok (.iconst 0, 1) := by decide +kernel
theorem dX11_orderOf_1 : decode cX11_orderOf 1 = .ok (.istore_n 1, 1) := by decide +kernel
theorem dX11_orderOf_2 : decode cX11_orderOf 2 = .ok (.iconst 0, 1) := by decide +kernel
theorem dX11_orderOf_3 : decode cX11_orderOf 3 = .ok (.istore_n 2, 1) := by decide +kernel
theorem dX11_orderOf_4 : decode cX11_orderOf 4 = .ok (.iload_n 2, 1) := by decide +kernel
theorem dX11_orderOf_5 : decode cX11_orderOf 5 = .ok (.iload_n 0, 1) := by decide +kernel
theorem dX11_orderOf_6 : decode cX11_orderOf 6 = .ok (.if_icmp .ge 28, 3) := by decide +kernel
theorem dX11_orderOf_9 : decode cX11_orderOf 9 = .ok (.iload_n 1, 1) := by decide +kernel
theorem dX11_orderOf_10 : decode cX11_orderOf 10 = .ok (.iload_n 2, 1) := by decide +kernel
theorem dX11_orderOf_11 : decode cX11_orderOf 11 = .ok (.invokestatic 47, 3) := by decide +kernel
theorem dX11_orderOf_14 : decode cX11_orderOf 14 = .ok (.iload_n 0, 1) := by decide +kernel
theorem dX11_orderOf_15 : decode cX11_orderOf 15 = .ok (.invokestatic 47, 3) := by decide +kernel
theorem dX11_orderOf_18 : decode cX11_orderOf 18 = .ok (.if_icmp .ne 7, 3) := by decide +kernel
theorem dX11_orderOf_21 : decode cX11_orderOf 21 = .ok (.iconst 1, 1) := by decide +kernel
theorem dX11_orderOf_22 : decode cX11_orderOf 22 = .ok (.goto 4, 3) := by decide +kernel
theorem dX11_orderOf_25 : decode cX11_orderOf 25 = .ok (.iconst 0, 1) := by decide +kernel
theorem dX11_orderOf_26 : decode cX11_orderOf 26 = .ok (.iadd, 1) := by decide +kernel
theorem dX11_orderOf_27 : decode cX11_orderOf 27 = .ok (.istore_n 1, 1) := by decide +kernel
theorem dX11_orderOf_28 : decode cX11_orderOf 28 = .ok (.iinc 2 1, 3) := by decide +kernel
theorem dX11_orderOf_31 : decode cX11_orderOf 31 = .ok (.goto (-27), 3) := by decide +kernel
theorem dX11_orderOf_34 : decode cX11_orderOf 34 = .ok (.iload_n 1, 1) := by decide +kernel
theorem dX11_orderOf_35 : decode cX11_orderOf 35 = .ok (.ireturn, 1) := by decide +kernel
theorem dX11_far_0 : decode cX11_far 0 = .ok (.iload_n 0, 1) := by decide +kernel
theorem dX11_far_1 : decode cX11_far 1 = .ok (.invokestatic 51, 3) := by decide +kernel
theorem dX11_far_4 : decode cX11_far 4 = .ok (.iload_n 1, 1) := by decide +kernel
theorem dX11_far_5 : decode cX11_far 5 = .ok (.isub, 1) := by decide +kernel
theorem dX11_far_6 : decode cX11_far 6 = .ok (.istore_n 3, 1) := by decide +kernel
theorem dX11_far_7 : decode cX11_far 7 = .ok (.iload_n 0, 1) := by decide +kernel
theorem dX11_far_8 : decode cX11_far 8 = .ok (.invokestatic 54, 3) := by decide +kernel
theorem dX11_far_11 : decode cX11_far 11 = .ok (.iload_n 2, 1) := by decide +kernel
theorem dX11_far_12 : decode cX11_far 12 = .ok (.isub, 1) := by decide +kernel
theorem dX11_far_13 : decode cX11_far 13 = .ok (.istore 4, 2) := by decide +kernel
theorem dX11_far_15 : decode cX11_far 15 = .ok (.iload_n 3, 1) := by decide +kernel
theorem dX11_far_16 : decode cX11_far 16 = .ok (.iload_n 3, 1) := by decide +kernel
theorem dX11_far_17 : decode cX11_far 17 = .ok (.imul, 1) := by decide +kernel
theorem dX11_far_18 : decode cX11_far 18 = .ok (.iload 4, 2) := by decide +kernel
theorem dX11_far_20 : decode cX11_far 20 = .ok (.iload 4, 2) := by decide +kernel
theorem dX11_far_22 : decode cX11_far 22 = .ok (.imul, 1) := by decide +kernel
theorem dX11_far_23 : decode cX11_far 23 = .ok (.iadd, 1) := by decide +kernel
theorem dX11_far_24 : decode cX11_far 24 = .ok (.ireturn, 1) := by decide +kernel
theorem dX11_apartOf_0 : decode cX11_apartOf 0 = .ok (.ldc 57, 2) := by decide +kernel
theorem dX11_apartOf_2 : decode cX11_apartOf 2 = .ok (.istore_n 2, 1) := by decide +kernel
theorem dX11_apartOf_3 : decode cX11_apartOf 3 = .ok (.iconst 0, 1) := by decide +kernel
theorem dX11_apartOf_4 : decode cX11_apartOf 4 = .ok (.istore_n 3, 1) := by decide +kernel
theorem dX11_apartOf_5 : decode cX11_apartOf 5 = .ok (.iload_n 3, 1) := by decide +kernel
theorem dX11_apartOf_6 : decode cX11_apartOf 6 = .ok (.bipush 16, 2) := by decide +kernel
theorem dX11_apartOf_8 : decode cX11_apartOf 8 = .ok (.if_icmp .ge 89, 3) := by decide +kernel
theorem dX11_apartOf_11 : decode cX11_apartOf 11 = .ok (.iconst 0, 1) := by decide +kernel
theorem dX11_apartOf_12 : decode cX11_apartOf 12 = .ok (.istore 4, 2) := by decide +kernel
theorem dX11_apartOf_14 : decode cX11_apartOf 14 = .ok (.iload 4, 2) := by decide +kernel
theorem dX11_apartOf_16 : decode cX11_apartOf 16 = .ok (.bipush 16, 2) := by decide +kernel
theorem dX11_apartOf_18 : decode cX11_apartOf 18 = .ok (.if_icmp .ge 73, 3) := by decide +kernel
theorem dX11_apartOf_21 : decode cX11_apartOf 21 = .ok (.iload_n 3, 1) := by decide +kernel
theorem dX11_apartOf_22 : decode cX11_apartOf 22 = .ok (.invokestatic 47, 3) := by decide +kernel
theorem dX11_apartOf_25 : decode cX11_apartOf 25 = .ok (.iload_n 0, 1) := by decide +kernel
theorem dX11_apartOf_26 : decode cX11_apartOf 26 = .ok (.if_icmp .ne 22, 3) := by decide +kernel
theorem dX11_apartOf_29 : decode cX11_apartOf 29 = .ok (.iload 4, 2) := by decide +kernel
theorem dX11_apartOf_31 : decode cX11_apartOf 31 = .ok (.invokestatic 47, 3) := by decide +kernel
theorem dX11_apartOf_34 : decode cX11_apartOf 34 = .ok (.iload_n 1, 1) := by decide +kernel
theorem dX11_apartOf_35 : decode cX11_apartOf 35 = .ok (.if_icmp .ne 13, 3) := by decide +kernel
theorem dX11_apartOf_38 : decode cX11_apartOf 38 = .ok (.iload_n 3, 1) := by decide +kernel
theorem dX11_apartOf_39 : decode cX11_apartOf 39 = .ok (.iload 4, 2) := by decide +kernel
theorem dX11_apartOf_41 : decode cX11_apartOf 41 = .ok (.if_icmp .eq 7, 3) := by decide +kernel
theorem dX11_apartOf_44 : decode cX11_apartOf 44 = .ok (.iconst 1, 1) := by decide +kernel
theorem dX11_apartOf_45 : decode cX11_apartOf 45 = .ok (.goto 4, 3) := by decide +kernel
theorem dX11_apartOf_48 : decode cX11_apartOf 48 = .ok (.iconst 0, 1) := by decide +kernel
theorem dX11_apartOf_49 : decode cX11_apartOf 49 = .ok (.istore 5, 2) := by decide +kernel
theorem dX11_apartOf_51 : decode cX11_apartOf 51 = .ok (.iload_n 3, 1) := by decide +kernel
theorem dX11_apartOf_52 : decode cX11_apartOf 52 = .ok (.iload 4, 2) := by decide +kernel
theorem dX11_apartOf_54 : decode cX11_apartOf 54 = .ok (.invokestatic 51, 3) := by decide +kernel
theorem dX11_apartOf_57 : decode cX11_apartOf 57 = .ok (.iload 4, 2) := by decide +kernel
theorem dX11_apartOf_59 : decode cX11_apartOf 59 = .ok (.invokestatic 54, 3) := by decide +kernel
theorem dX11_apartOf_62 : decode cX11_apartOf 62 = .ok (.invokestatic 58, 3) := by decide +kernel
theorem dX11_apartOf_65 : decode cX11_apartOf 65 = .ok (.istore 6, 2) := by decide +kernel
theorem dX11_apartOf_67 : decode cX11_apartOf 67 = .ok (.iload 5, 2) := by decide +kernel
theorem dX11_apartOf_69 : decode cX11_apartOf 69 = .ok (.ifCond .eq 14, 3) := by decide +kernel
theorem dX11_apartOf_72 : decode cX11_apartOf 72 = .ok (.iload 6, 2) := by decide +kernel
theorem dX11_apartOf_74 : decode cX11_apartOf 74 = .ok (.iload_n 2, 1) := by decide +kernel
theorem dX11_apartOf_75 : decode cX11_apartOf 75 = .ok (.if_icmp .ge 8, 3) := by decide +kernel
theorem dX11_apartOf_78 : decode cX11_apartOf 78 = .ok (.iload 6, 2) := by decide +kernel
theorem dX11_apartOf_80 : decode cX11_apartOf 80 = .ok (.goto 4, 3) := by decide +kernel
theorem dX11_apartOf_83 : decode cX11_apartOf 83 = .ok (.iload_n 2, 1) := by decide +kernel
theorem dX11_apartOf_84 : decode cX11_apartOf 84 = .ok (.istore_n 2, 1) := by decide +kernel
theorem dX11_apartOf_85 : decode cX11_apartOf 85 = .ok (.iinc 4 1, 3) := by decide +kernel
theorem dX11_apartOf_88 : decode cX11_apartOf 88 = .ok (.goto (-74), 3) := by decide +kernel
theorem dX11_apartOf_91 : decode cX11_apartOf 91 = .ok (.iinc 3 1, 3) := by decide +kernel
theorem dX11_apartOf_94 : decode cX11_apartOf 94 = .ok (.goto (-89), 3) := by decide +kernel
theorem dX11_apartOf_97 : decode cX11_apartOf 97 = .ok (.iload_n 2, 1) := by decide +kernel
theorem dX11_apartOf_98 : decode cX11_apartOf 98 = .ok (.ireturn, 1) := by decide +kernel
theorem dX11_turnedFamily_0 : decode cX11_turnedFamily 0 = .ok (.iload_n 0, 1) := by decide +kernel
theorem dX11_turnedFamily_1 : decode cX11_turnedFamily 1 = .ok (.iconst 0, 1) := by decide +kernel
theorem dX11_turnedFamily_2 : decode cX11_turnedFamily 2 = .ok (.invokestatic 62, 3) := by decide +kernel
theorem dX11_turnedFamily_5 : decode cX11_turnedFamily 5 = .ok (.invokestatic 66, 3) := by decide +kernel
theorem dX11_turnedFamily_8 : decode cX11_turnedFamily 8 = .ok (.invokestatic 47, 3) := by decide +kernel
theorem dX11_turnedFamily_11 : decode cX11_turnedFamily 11 = .ok (.ireturn, 1) := by decide +kernel
theorem dX11_isPoint_0 : decode cX11_isPoint 0 = .ok (.iload_n 0, 1) := by decide +kernel
theorem dX11_isPoint_1 : decode cX11_isPoint 1 = .ok (.iconst 0, 1) := by decide +kernel
theorem dX11_isPoint_2 : decode cX11_isPoint 2 = .ok (.bipush 15, 2) := by decide +kernel
theorem dX11_isPoint_4 : decode cX11_isPoint 4 = .ok (.invokestatic 69, 3) := by decide +kernel
theorem dX11_isPoint_7 : decode cX11_isPoint 7 = .ok (.ireturn, 1) := by decide +kernel
theorem dX11_isFamily_0 : decode cX11_isFamily 0 = .ok (.iload_n 0, 1) := by decide +kernel
theorem dX11_isFamily_1 : decode cX11_isFamily 1 = .ok (.iconst 0, 1) := by decide +kernel
theorem dX11_isFamily_2 : decode cX11_isFamily 2 = .ok (.iconst 3, 1) := by decide +kernel
theorem dX11_isFamily_3 : decode cX11_isFamily 3 = .ok (.invokestatic 69, 3) := by decide +kernel
theorem dX11_isFamily_6 : decode cX11_isFamily 6 = .ok (.ireturn, 1) := by decide +kernel
theorem dX11_manyStates_0 : decode cX11_manyStates 0 = .ok (.iconst 1, 1) := by decide +kernel
theorem dX11_manyStates_1 : decode cX11_manyStates 1 = .ok (.aload_n 0, 1) := by decide +kernel
theorem dX11_manyStates_2 : decode cX11_manyStates 2 = .ok (.getfield 7, 3) := by decide +kernel
theorem dX11_manyStates_5 : decode cX11_manyStates 5 = .ok (.iconst 0, 1) := by decide +kernel
theorem dX11_manyStates_6 : decode cX11_manyStates 6 = .ok (.iaload, 1) := by decide +kernel
theorem dX11_manyStates_7 : decode cX11_manyStates 7 = .ok (.ishl, 1) := by decide +kernel
theorem dX11_manyStates_8 : decode cX11_manyStates 8 = .ok (.ireturn, 1) := by decide +kernel
theorem dX11_isState_0 : decode cX11_isState 0 = .ok (.iload_n 1, 1) := by decide +kernel
theorem dX11_isState_1 : decode cX11_isState 1 = .ok (.iconst 0, 1) := by decide +kernel
theorem dX11_isState_2 : decode cX11_isState 2 = .ok (.aload_n 0, 1) := by decide +kernel
theorem dX11_isState_3 : decode cX11_isState 3 = .ok (.invokevirtual 73, 3) := by decide +kernel
theorem dX11_isState_6 : decode cX11_isState 6 = .ok (.iconst 1, 1) := by decide +kernel
theorem dX11_isState_7 : decode cX11_isState 7 = .ok (.isub, 1) := by decide +kernel
theorem dX11_isState_8 : decode cX11_isState 8 = .ok (.invokestatic 69, 3) := by decide +kernel
theorem dX11_isState_11 : decode cX11_isState 11 = .ok (.ireturn, 1) := by decide +kernel
theorem dX11_odd_0 : decode cX11_odd 0 = .ok (.iconst 0, 1) := by decide +kernel
theorem dX11_odd_1 : decode cX11_odd 1 = .ok (.istore_n 1, 1) := by decide +kernel
theorem dX11_odd_2 : decode cX11_odd 2 = .ok (.iconst 0, 1) := by decide +kernel
theorem dX11_odd_3 : decode cX11_odd 3 = .ok (.istore_n 2, 1) := by decide +kernel
theorem dX11_odd_4 : decode cX11_odd 4 = .ok (.iload_n 2, 1) := by decide +kernel
theorem dX11_odd_5 : decode cX11_odd 5 = .ok (.iconst 4, 1) := by decide +kernel
theorem dX11_odd_6 : decode cX11_odd 6 = .ok (.if_icmp .ge 17, 3) := by decide +kernel
theorem dX11_odd_9 : decode cX11_odd 9 = .ok (.iload_n 1, 1) := by decide +kernel
theorem dX11_odd_10 : decode cX11_odd 10 = .ok (.iload_n 0, 1) := by decide +kernel
theorem dX11_odd_11 : decode cX11_odd 11 = .ok (.iload_n 2, 1) := by decide +kernel
theorem dX11_odd_12 : decode cX11_odd 12 = .ok (.ishr, 1) := by decide +kernel
theorem dX11_odd_13 : decode cX11_odd 13 = .ok (.iconst 1, 1) := by decide +kernel
theorem dX11_odd_14 : decode cX11_odd 14 = .ok (.iand, 1) := by decide +kernel
theorem dX11_odd_15 : decode cX11_odd 15 = .ok (.iadd, 1) := by decide +kernel
theorem dX11_odd_16 : decode cX11_odd 16 = .ok (.istore_n 1, 1) := by decide +kernel
theorem dX11_odd_17 : decode cX11_odd 17 = .ok (.iinc 2 1, 3) := by decide +kernel
theorem dX11_odd_20 : decode cX11_odd 20 = .ok (.goto (-16), 3) := by decide +kernel
theorem dX11_odd_23 : decode cX11_odd 23 = .ok (.iload_n 1, 1) := by decide +kernel
theorem dX11_odd_24 : decode cX11_odd 24 = .ok (.iconst 2, 1) := by decide +kernel
theorem dX11_odd_25 : decode cX11_odd 25 = .ok (.irem, 1) := by decide +kernel
theorem dX11_odd_26 : decode cX11_odd 26 = .ok (.ireturn, 1) := by decide +kernel
theorem dX11_familyBy_0 : decode cX11_familyBy 0 = .ok (.iload_n 2, 1) := by decide +kernel
theorem dX11_familyBy_1 : decode cX11_familyBy 1 = .ok (.aload_n 0, 1) := by decide +kernel
theorem dX11_familyBy_2 : decode cX11_familyBy 2 = .ok (.getfield 7, 3) := by decide +kernel
theorem dX11_familyBy_5 : decode cX11_familyBy 5 = .ok (.iconst 0, 1) := by decide +kernel
theorem dX11_familyBy_6 : decode cX11_familyBy 6 = .ok (.iaload, 1) := by decide +kernel
theorem dX11_familyBy_7 : decode cX11_familyBy 7 = .ok (.ishl, 1) := by decide +kernel
theorem dX11_familyBy_8 : decode cX11_familyBy 8 = .ok (.iload_n 1, 1) := by decide +kernel
theorem dX11_familyBy_9 : decode cX11_familyBy 9 = .ok (.iadd, 1) := by decide +kernel
theorem dX11_familyBy_10 : decode cX11_familyBy 10 = .ok (.istore_n 3, 1) := by decide +kernel
theorem dX11_familyBy_11 : decode cX11_familyBy 11 = .ok (.iconst 2, 1) := by decide +kernel
theorem dX11_familyBy_12 : decode cX11_familyBy 12 = .ok (.iload_n 3, 1) := by decide +kernel
theorem dX11_familyBy_13 : decode cX11_familyBy 13 = .ok (.aload_n 0, 1) := by decide +kernel
theorem dX11_familyBy_14 : decode cX11_familyBy 14 = .ok (.getfield 7, 3) := by decide +kernel
theorem dX11_familyBy_17 : decode cX11_familyBy 17 = .ok (.iconst 1, 1) := by decide +kernel
theorem dX11_familyBy_18 : decode cX11_familyBy 18 = .ok (.iaload, 1) := by decide +kernel
theorem dX11_familyBy_19 : decode cX11_familyBy 19 = .ok (.iand, 1) := by decide +kernel
theorem dX11_familyBy_20 : decode cX11_familyBy 20 = .ok (.invokestatic 77, 3) := by decide +kernel
theorem dX11_familyBy_23 : decode cX11_familyBy 23 = .ok (.imul, 1) := by decide +kernel
theorem dX11_familyBy_24 : decode cX11_familyBy 24 = .ok (.iload_n 3, 1) := by decide +kernel
theorem dX11_familyBy_25 : decode cX11_familyBy 25 = .ok (.aload_n 0, 1) := by decide +kernel
theorem dX11_familyBy_26 : decode cX11_familyBy 26 = .ok (.getfield 7, 3) := by decide +kernel
theorem dX11_familyBy_29 : decode cX11_familyBy 29 = .ok (.iconst 2, 1) := by decide +kernel
theorem dX11_familyBy_30 : decode cX11_familyBy 30 = .ok (.iaload, 1) := by decide +kernel
theorem dX11_familyBy_31 : decode cX11_familyBy 31 = .ok (.iand, 1) := by decide +kernel
theorem dX11_familyBy_32 : decode cX11_familyBy 32 = .ok (.invokestatic 77, 3) := by decide +kernel
theorem dX11_familyBy_35 : decode cX11_familyBy 35 = .ok (.iadd, 1) := by decide +kernel
theorem dX11_familyBy_36 : decode cX11_familyBy 36 = .ok (.ireturn, 1) := by decide +kernel
theorem dX11_stateBy_0 : decode cX11_stateBy 0 = .ok (.iload_n 2, 1) := by decide +kernel
theorem dX11_stateBy_1 : decode cX11_stateBy 1 = .ok (.aload_n 0, 1) := by decide +kernel
theorem dX11_stateBy_2 : decode cX11_stateBy 2 = .ok (.getfield 7, 3) := by decide +kernel
theorem dX11_stateBy_5 : decode cX11_stateBy 5 = .ok (.iconst 0, 1) := by decide +kernel
theorem dX11_stateBy_6 : decode cX11_stateBy 6 = .ok (.iaload, 1) := by decide +kernel
theorem dX11_stateBy_7 : decode cX11_stateBy 7 = .ok (.ishl, 1) := by decide +kernel
theorem dX11_stateBy_8 : decode cX11_stateBy 8 = .ok (.iload_n 1, 1) := by decide +kernel
theorem dX11_stateBy_9 : decode cX11_stateBy 9 = .ok (.iadd, 1) := by decide +kernel
theorem dX11_stateBy_10 : decode cX11_stateBy 10 = .ok (.iconst 2, 1) := by decide +kernel
theorem dX11_stateBy_11 : decode cX11_stateBy 11 = .ok (.idiv, 1) := by decide +kernel
theorem dX11_stateBy_12 : decode cX11_stateBy 12 = .ok (.ireturn, 1) := by decide +kernel
theorem dX11_notes_0 : decode cX11_notes 0 = .ok (.aload_n 0, 1) := by decide +kernel
theorem dX11_notes_1 : decode cX11_notes 1 = .ok (.getfield 80, 3) := by decide +kernel
theorem dX11_notes_4 : decode cX11_notes 4 = .ok (.bipush 8, 2) := by decide +kernel
theorem dX11_notes_6 : decode cX11_notes 6 = .ok (.if_icmp .ne 43, 3) := by decide +kernel
theorem dX11_notes_9 : decode cX11_notes 9 = .ok (.iconst 0, 1) := by decide +kernel
theorem dX11_notes_10 : decode cX11_notes 10 = .ok (.istore_n 1, 1) := by decide +kernel
theorem dX11_notes_11 : decode cX11_notes 11 = .ok (.iload_n 1, 1) := by decide +kernel
theorem dX11_notes_12 : decode cX11_notes 12 = .ok (.sipush 714, 3) := by decide +kernel
theorem dX11_notes_15 : decode cX11_notes 15 = .ok (.if_icmp .ge 24, 3) := by decide +kernel
theorem dX11_notes_18 : decode cX11_notes 18 = .ok (.aload_n 0, 1) := by decide +kernel
theorem dX11_notes_19 : decode cX11_notes 19 = .ok (.getfield 13, 3) := by decide +kernel
theorem dX11_notes_22 : decode cX11_notes 22 = .ok (.iload_n 1, 1) := by decide +kernel
theorem dX11_notes_23 : decode cX11_notes 23 = .ok (.aload_n 0, 1) := by decide +kernel
theorem dX11_notes_24 : decode cX11_notes 24 = .ok (.getfield 13, 3) := by decide +kernel
theorem dX11_notes_27 : decode cX11_notes 27 = .ok (.iload_n 1, 1) := by decide +kernel
theorem dX11_notes_28 : decode cX11_notes 28 = .ok (.bipush 102, 2) := by decide +kernel
theorem dX11_notes_30 : decode cX11_notes 30 = .ok (.iadd, 1) := by decide +kernel
theorem dX11_notes_31 : decode cX11_notes 31 = .ok (.iaload, 1) := by decide +kernel
theorem dX11_notes_32 : decode cX11_notes 32 = .ok (.iastore, 1) := by decide +kernel
theorem dX11_notes_33 : decode cX11_notes 33 = .ok (.iinc 1 1, 3) := by decide +kernel
theorem dX11_notes_36 : decode cX11_notes 36 = .ok (.goto (-25), 3) := by decide +kernel
theorem dX11_notes_39 : decode cX11_notes 39 = .ok (.aload_n 0, 1) := by decide +kernel
theorem dX11_notes_40 : decode cX11_notes 40 = .ok (.dup, 1) := by decide +kernel
theorem dX11_notes_41 : decode cX11_notes 41 = .ok (.getfield 80, 3) := by decide +kernel
theorem dX11_notes_44 : decode cX11_notes 44 = .ok (.iconst 1, 1) := by decide +kernel
theorem dX11_notes_45 : decode cX11_notes 45 = .ok (.isub, 1) := by decide +kernel
theorem dX11_notes_46 : decode cX11_notes 46 = .ok (.putfield 80, 3) := by decide +kernel
theorem dX11_notes_49 : decode cX11_notes 49 = .ok (.iconst 0, 1) := by decide +kernel
theorem dX11_notes_50 : decode cX11_notes 50 = .ok (.istore_n 1, 1) := by decide +kernel
theorem dX11_notes_51 : decode cX11_notes 51 = .ok (.iload_n 1, 1) := by decide +kernel
theorem dX11_notes_52 : decode cX11_notes 52 = .ok (.bipush 102, 2) := by decide +kernel
theorem dX11_notes_54 : decode cX11_notes 54 = .ok (.if_icmp .ge 29, 3) := by decide +kernel
theorem dX11_notes_57 : decode cX11_notes 57 = .ok (.aload_n 0, 1) := by decide +kernel
theorem dX11_notes_58 : decode cX11_notes 58 = .ok (.getfield 13, 3) := by decide +kernel
theorem dX11_notes_61 : decode cX11_notes 61 = .ok (.bipush 102, 2) := by decide +kernel
theorem dX11_notes_63 : decode cX11_notes 63 = .ok (.aload_n 0, 1) := by decide +kernel
theorem dX11_notes_64 : decode cX11_notes 64 = .ok (.getfield 80, 3) := by decide +kernel
theorem dX11_notes_67 : decode cX11_notes 67 = .ok (.imul, 1) := by decide +kernel
theorem dX11_notes_68 : decode cX11_notes 68 = .ok (.iload_n 1, 1) := by decide +kernel
theorem dX11_notes_69 : decode cX11_notes 69 = .ok (.iadd, 1) := by decide +kernel
theorem dX11_notes_70 : decode cX11_notes 70 = .ok (.aload_n 0, 1) := by decide +kernel
theorem dX11_notes_71 : decode cX11_notes 71 = .ok (.getfield 7, 3) := by decide +kernel
theorem dX11_notes_74 : decode cX11_notes 74 = .ok (.iload_n 1, 1) := by decide +kernel
theorem dX11_notes_75 : decode cX11_notes 75 = .ok (.iaload, 1) := by decide +kernel
theorem dX11_notes_76 : decode cX11_notes 76 = .ok (.iastore, 1) := by decide +kernel
theorem dX11_notes_77 : decode cX11_notes 77 = .ok (.iinc 1 1, 3) := by decide +kernel
theorem dX11_notes_80 : decode cX11_notes 80 = .ok (.goto (-29), 3) := by decide +kernel
theorem dX11_notes_83 : decode cX11_notes 83 = .ok (.aload_n 0, 1) := by decide +kernel
theorem dX11_notes_84 : decode cX11_notes 84 = .ok (.dup, 1) := by decide +kernel
theorem dX11_notes_85 : decode cX11_notes 85 = .ok (.getfield 80, 3) := by decide +kernel
theorem dX11_notes_88 : decode cX11_notes 88 = .ok (.iconst 1, 1) := by decide +kernel
theorem dX11_notes_89 : decode cX11_notes 89 = .ok (.iadd, 1) := by decide +kernel
theorem dX11_notes_90 : decode cX11_notes 90 = .ok (.putfield 80, 3) := by decide +kernel
theorem dX11_notes_93 : decode cX11_notes 93 = .ok (.return_, 1) := by decide +kernel
theorem dX11_code_0 : decode cX11_code 0 = .ok (.iload_n 1, 1) := by decide +kernel
theorem dX11_code_1 : decode cX11_code 1 = .ok (.iconst 1, 1) := by decide +kernel
theorem dX11_code_2 : decode cX11_code 2 = .ok (.iconst 3, 1) := by decide +kernel
theorem dX11_code_3 : decode cX11_code 3 = .ok (.invokestatic 69, 3) := by decide +kernel
theorem dX11_code_6 : decode cX11_code 6 = .ok (.ifCond .eq 29, 3) := by decide +kernel
theorem dX11_code_9 : decode cX11_code 9 = .ok (.iload_n 2, 1) := by decide +kernel
theorem dX11_code_10 : decode cX11_code 10 = .ok (.iconst 1, 1) := by decide +kernel
theorem dX11_code_11 : decode cX11_code 11 = .ok (.iconst 2, 1) := by decide +kernel
theorem dX11_code_12 : decode cX11_code 12 = .ok (.iload_n 1, 1) := by decide +kernel
theorem dX11_code_13 : decode cX11_code 13 = .ok (.ishl, 1) := by decide +kernel
theorem dX11_code_14 : decode cX11_code 14 = .ok (.iconst 1, 1) := by decide +kernel
theorem dX11_code_15 : decode cX11_code 15 = .ok (.isub, 1) := by decide +kernel
theorem dX11_code_16 : decode cX11_code 16 = .ok (.invokestatic 69, 3) := by decide +kernel
theorem dX11_code_19 : decode cX11_code 19 = .ok (.ifCond .eq 16, 3) := by decide +kernel
end
section
theorem dX11_code_22 : decode cX11_code 22 = .ok (.iload_n 3, 1) := by decide +kernel
theorem dX11_code_23 : decode cX11_code 23 = .ok (.iconst 1, 1) := by decide +kernel
theorem dX11_code_24 : decode cX11_code 24 = .ok (.iconst 2, 1) := by decide +kernel
theorem dX11_code_25 : decode cX11_code 25 = .ok (.iload_n 1, 1) := by decide +kernel
theorem dX11_code_26 : decode cX11_code 26 = .ok (.ishl, 1) := by decide +kernel
theorem dX11_code_27 : decode cX11_code 27 = .ok (.iconst 1, 1) := by decide +kernel
theorem dX11_code_28 : decode cX11_code 28 = .ok (.isub, 1) := by decide +kernel
theorem dX11_code_29 : decode cX11_code 29 = .ok (.invokestatic 69, 3) := by decide +kernel
theorem dX11_code_32 : decode cX11_code 32 = .ok (.ifCond .ne 6, 3) := by decide +kernel
theorem dX11_code_35 : decode cX11_code 35 = .ok (.ldc 84, 2) := by decide +kernel
theorem dX11_code_37 : decode cX11_code 37 = .ok (.ireturn, 1) := by decide +kernel
theorem dX11_code_38 : decode cX11_code 38 = .ok (.aload_n 0, 1) := by decide +kernel
theorem dX11_code_39 : decode cX11_code 39 = .ok (.invokevirtual 85, 3) := by decide +kernel
theorem dX11_code_42 : decode cX11_code 42 = .ok (.aload_n 0, 1) := by decide +kernel
theorem dX11_code_43 : decode cX11_code 43 = .ok (.getfield 7, 3) := by decide +kernel
theorem dX11_code_46 : decode cX11_code 46 = .ok (.iconst 0, 1) := by decide +kernel
theorem dX11_code_47 : decode cX11_code 47 = .ok (.iload_n 1, 1) := by decide +kernel
theorem dX11_code_48 : decode cX11_code 48 = .ok (.iastore, 1) := by decide +kernel
theorem dX11_code_49 : decode cX11_code 49 = .ok (.aload_n 0, 1) := by decide +kernel
theorem dX11_code_50 : decode cX11_code 50 = .ok (.getfield 7, 3) := by decide +kernel
theorem dX11_code_53 : decode cX11_code 53 = .ok (.iconst 1, 1) := by decide +kernel
theorem dX11_code_54 : decode cX11_code 54 = .ok (.iload_n 2, 1) := by decide +kernel
theorem dX11_code_55 : decode cX11_code 55 = .ok (.iastore, 1) := by decide +kernel
theorem dX11_code_56 : decode cX11_code 56 = .ok (.aload_n 0, 1) := by decide +kernel
theorem dX11_code_57 : decode cX11_code 57 = .ok (.getfield 7, 3) := by decide +kernel
theorem dX11_code_60 : decode cX11_code 60 = .ok (.iconst 2, 1) := by decide +kernel
theorem dX11_code_61 : decode cX11_code 61 = .ok (.iload_n 3, 1) := by decide +kernel
theorem dX11_code_62 : decode cX11_code 62 = .ok (.iastore, 1) := by decide +kernel
theorem dX11_code_63 : decode cX11_code 63 = .ok (.aload_n 0, 1) := by decide +kernel
theorem dX11_code_64 : decode cX11_code 64 = .ok (.getfield 7, 3) := by decide +kernel
theorem dX11_code_67 : decode cX11_code 67 = .ok (.iconst 3, 1) := by decide +kernel
theorem dX11_code_68 : decode cX11_code 68 = .ok (.iconst (-1), 1) := by decide +kernel
theorem dX11_code_69 : decode cX11_code 69 = .ok (.iastore, 1) := by decide +kernel
theorem dX11_code_70 : decode cX11_code 70 = .ok (.aload_n 0, 1) := by decide +kernel
theorem dX11_code_71 : decode cX11_code 71 = .ok (.getfield 7, 3) := by decide +kernel
theorem dX11_code_74 : decode cX11_code 74 = .ok (.iconst 4, 1) := by decide +kernel
theorem dX11_code_75 : decode cX11_code 75 = .ok (.iconst 0, 1) := by decide +kernel
theorem dX11_code_76 : decode cX11_code 76 = .ok (.iastore, 1) := by decide +kernel
theorem dX11_code_77 : decode cX11_code 77 = .ok (.aload_n 0, 1) := by decide +kernel
theorem dX11_code_78 : decode cX11_code 78 = .ok (.getfield 7, 3) := by decide +kernel
theorem dX11_code_81 : decode cX11_code 81 = .ok (.iconst 5, 1) := by decide +kernel
theorem dX11_code_82 : decode cX11_code 82 = .ok (.iconst 0, 1) := by decide +kernel
theorem dX11_code_83 : decode cX11_code 83 = .ok (.iastore, 1) := by decide +kernel
theorem dX11_code_84 : decode cX11_code 84 = .ok (.aload_n 0, 1) := by decide +kernel
theorem dX11_code_85 : decode cX11_code 85 = .ok (.invokevirtual 73, 3) := by decide +kernel
theorem dX11_code_88 : decode cX11_code 88 = .ok (.ireturn, 1) := by decide +kernel
theorem dX11_stateBehind_0 : decode cX11_stateBehind 0 = .ok (.iconst 0, 1) := by decide +kernel
theorem dX11_stateBehind_1 : decode cX11_stateBehind 1 = .ok (.istore_n 2, 1) := by decide +kernel
theorem dX11_stateBehind_2 : decode cX11_stateBehind 2 = .ok (.iconst 0, 1) := by decide +kernel
theorem dX11_stateBehind_3 : decode cX11_stateBehind 3 = .ok (.istore_n 3, 1) := by decide +kernel
theorem dX11_stateBehind_4 : decode cX11_stateBehind 4 = .ok (.iload_n 3, 1) := by decide +kernel
theorem dX11_stateBehind_5 : decode cX11_stateBehind 5 = .ok (.iload_n 1, 1) := by decide +kernel
theorem dX11_stateBehind_6 : decode cX11_stateBehind 6 = .ok (.if_icmp .ge 26, 3) := by decide +kernel
theorem dX11_stateBehind_9 : decode cX11_stateBehind 9 = .ok (.aload_n 0, 1) := by decide +kernel
theorem dX11_stateBehind_10 : decode cX11_stateBehind 10 = .ok (.iload_n 2, 1) := by decide +kernel
theorem dX11_stateBehind_11 : decode cX11_stateBehind 11 = .ok (.aload_n 0, 1) := by decide +kernel
theorem dX11_stateBehind_12 : decode cX11_stateBehind 12 = .ok (.getfield 7, 3) := by decide +kernel
theorem dX11_stateBehind_15 : decode cX11_stateBehind 15 = .ok (.bipush 6, 2) := by decide +kernel
theorem dX11_stateBehind_17 : decode cX11_stateBehind 17 = .ok (.iconst 2, 1) := by decide +kernel
theorem dX11_stateBehind_18 : decode cX11_stateBehind 18 = .ok (.iload_n 3, 1) := by decide +kernel
theorem dX11_stateBehind_19 : decode cX11_stateBehind 19 = .ok (.imul, 1) := by decide +kernel
theorem dX11_stateBehind_20 : decode cX11_stateBehind 20 = .ok (.iadd, 1) := by decide +kernel
theorem dX11_stateBehind_21 : decode cX11_stateBehind 21 = .ok (.iaload, 1) := by decide +kernel
theorem dX11_stateBehind_22 : decode cX11_stateBehind 22 = .ok (.invokevirtual 88, 3) := by decide +kernel
theorem dX11_stateBehind_25 : decode cX11_stateBehind 25 = .ok (.istore_n 2, 1) := by decide +kernel
theorem dX11_stateBehind_26 : decode cX11_stateBehind 26 = .ok (.iinc 3 1, 3) := by decide +kernel
theorem dX11_stateBehind_29 : decode cX11_stateBehind 29 = .ok (.goto (-25), 3) := by decide +kernel
theorem dX11_stateBehind_32 : decode cX11_stateBehind 32 = .ok (.iload_n 2, 1) := by decide +kernel
theorem dX11_stateBehind_33 : decode cX11_stateBehind 33 = .ok (.ireturn, 1) := by decide +kernel
theorem dX11_pointSent_0 : decode cX11_pointSent 0 = .ok (.aload_n 0, 1) := by decide +kernel
theorem dX11_pointSent_1 : decode cX11_pointSent 1 = .ok (.aload_n 0, 1) := by decide +kernel
theorem dX11_pointSent_2 : decode cX11_pointSent 2 = .ok (.iload_n 1, 1) := by decide +kernel
theorem dX11_pointSent_3 : decode cX11_pointSent 3 = .ok (.invokevirtual 91, 3) := by decide +kernel
theorem dX11_pointSent_6 : decode cX11_pointSent 6 = .ok (.aload_n 0, 1) := by decide +kernel
theorem dX11_pointSent_7 : decode cX11_pointSent 7 = .ok (.getfield 7, 3) := by decide +kernel
theorem dX11_pointSent_10 : decode cX11_pointSent 10 = .ok (.bipush 6, 2) := by decide +kernel
theorem dX11_pointSent_12 : decode cX11_pointSent 12 = .ok (.iconst 2, 1) := by decide +kernel
theorem dX11_pointSent_13 : decode cX11_pointSent 13 = .ok (.iload_n 1, 1) := by decide +kernel
theorem dX11_pointSent_14 : decode cX11_pointSent 14 = .ok (.imul, 1) := by decide +kernel
theorem dX11_pointSent_15 : decode cX11_pointSent 15 = .ok (.iadd, 1) := by decide +kernel
theorem dX11_pointSent_16 : decode cX11_pointSent 16 = .ok (.iaload, 1) := by decide +kernel
theorem dX11_pointSent_17 : decode cX11_pointSent 17 = .ok (.invokevirtual 94, 3) := by decide +kernel
theorem dX11_pointSent_20 : decode cX11_pointSent 20 = .ok (.aload_n 0, 1) := by decide +kernel
theorem dX11_pointSent_21 : decode cX11_pointSent 21 = .ok (.getfield 7, 3) := by decide +kernel
theorem dX11_pointSent_24 : decode cX11_pointSent 24 = .ok (.bipush 6, 2) := by decide +kernel
theorem dX11_pointSent_26 : decode cX11_pointSent 26 = .ok (.iconst 2, 1) := by decide +kernel
theorem dX11_pointSent_27 : decode cX11_pointSent 27 = .ok (.iload_n 1, 1) := by decide +kernel
theorem dX11_pointSent_28 : decode cX11_pointSent 28 = .ok (.imul, 1) := by decide +kernel
theorem dX11_pointSent_29 : decode cX11_pointSent 29 = .ok (.iadd, 1) := by decide +kernel
theorem dX11_pointSent_30 : decode cX11_pointSent 30 = .ok (.iconst 1, 1) := by decide +kernel
theorem dX11_pointSent_31 : decode cX11_pointSent 31 = .ok (.iadd, 1) := by decide +kernel
theorem dX11_pointSent_32 : decode cX11_pointSent 32 = .ok (.iaload, 1) := by decide +kernel
theorem dX11_pointSent_33 : decode cX11_pointSent 33 = .ok (.invokestatic 62, 3) := by decide +kernel
theorem dX11_pointSent_36 : decode cX11_pointSent 36 = .ok (.ireturn, 1) := by decide +kernel
theorem dX11_sends_0 : decode cX11_sends 0 = .ok (.bipush 6, 2) := by decide +kernel
theorem dX11_sends_2 : decode cX11_sends 2 = .ok (.iconst 2, 1) := by decide +kernel
theorem dX11_sends_3 : decode cX11_sends 3 = .ok (.aload_n 0, 1) := by decide +kernel
theorem dX11_sends_4 : decode cX11_sends 4 = .ok (.getfield 7, 3) := by decide +kernel
theorem dX11_sends_7 : decode cX11_sends 7 = .ok (.iconst 4, 1) := by decide +kernel
theorem dX11_sends_8 : decode cX11_sends 8 = .ok (.iaload, 1) := by decide +kernel
theorem dX11_sends_9 : decode cX11_sends 9 = .ok (.imul, 1) := by decide +kernel
theorem dX11_sends_10 : decode cX11_sends 10 = .ok (.iadd, 1) := by decide +kernel
theorem dX11_sends_11 : decode cX11_sends 11 = .ok (.istore_n 3, 1) := by decide +kernel
theorem dX11_sends_12 : decode cX11_sends 12 = .ok (.aload_n 0, 1) := by decide +kernel
theorem dX11_sends_13 : decode cX11_sends 13 = .ok (.getfield 7, 3) := by decide +kernel
theorem dX11_sends_16 : decode cX11_sends 16 = .ok (.iload_n 3, 1) := by decide +kernel
theorem dX11_sends_17 : decode cX11_sends 17 = .ok (.iload_n 1, 1) := by decide +kernel
theorem dX11_sends_18 : decode cX11_sends 18 = .ok (.iastore, 1) := by decide +kernel
theorem dX11_sends_19 : decode cX11_sends 19 = .ok (.aload_n 0, 1) := by decide +kernel
theorem dX11_sends_20 : decode cX11_sends 20 = .ok (.getfield 7, 3) := by decide +kernel
theorem dX11_sends_23 : decode cX11_sends 23 = .ok (.iload_n 3, 1) := by decide +kernel
theorem dX11_sends_24 : decode cX11_sends 24 = .ok (.iconst 1, 1) := by decide +kernel
theorem dX11_sends_25 : decode cX11_sends 25 = .ok (.iadd, 1) := by decide +kernel
theorem dX11_sends_26 : decode cX11_sends 26 = .ok (.iload_n 2, 1) := by decide +kernel
theorem dX11_sends_27 : decode cX11_sends 27 = .ok (.iastore, 1) := by decide +kernel
theorem dX11_sends_28 : decode cX11_sends 28 = .ok (.aload_n 0, 1) := by decide +kernel
theorem dX11_sends_29 : decode cX11_sends 29 = .ok (.getfield 7, 3) := by decide +kernel
theorem dX11_sends_32 : decode cX11_sends 32 = .ok (.iconst 4, 1) := by decide +kernel
theorem dX11_sends_33 : decode cX11_sends 33 = .ok (.dup2, 1) := by decide +kernel
theorem dX11_sends_34 : decode cX11_sends 34 = .ok (.iaload, 1) := by decide +kernel
theorem dX11_sends_35 : decode cX11_sends 35 = .ok (.iconst 1, 1) := by decide +kernel
theorem dX11_sends_36 : decode cX11_sends 36 = .ok (.iadd, 1) := by decide +kernel
theorem dX11_sends_37 : decode cX11_sends 37 = .ok (.iastore, 1) := by decide +kernel
theorem dX11_sends_38 : decode cX11_sends 38 = .ok (.return_, 1) := by decide +kernel
theorem dX11_hears_0 : decode cX11_hears 0 = .ok (.bipush 54, 2) := by decide +kernel
theorem dX11_hears_2 : decode cX11_hears 2 = .ok (.iconst 2, 1) := by decide +kernel
theorem dX11_hears_3 : decode cX11_hears 3 = .ok (.aload_n 0, 1) := by decide +kernel
theorem dX11_hears_4 : decode cX11_hears 4 = .ok (.getfield 7, 3) := by decide +kernel
theorem dX11_hears_7 : decode cX11_hears 7 = .ok (.iconst 5, 1) := by decide +kernel
theorem dX11_hears_8 : decode cX11_hears 8 = .ok (.iaload, 1) := by decide +kernel
theorem dX11_hears_9 : decode cX11_hears 9 = .ok (.imul, 1) := by decide +kernel
theorem dX11_hears_10 : decode cX11_hears 10 = .ok (.iadd, 1) := by decide +kernel
theorem dX11_hears_11 : decode cX11_hears 11 = .ok (.istore_n 3, 1) := by decide +kernel
theorem dX11_hears_12 : decode cX11_hears 12 = .ok (.aload_n 0, 1) := by decide +kernel
theorem dX11_hears_13 : decode cX11_hears 13 = .ok (.getfield 7, 3) := by decide +kernel
theorem dX11_hears_16 : decode cX11_hears 16 = .ok (.iload_n 3, 1) := by decide +kernel
theorem dX11_hears_17 : decode cX11_hears 17 = .ok (.iload_n 1, 1) := by decide +kernel
theorem dX11_hears_18 : decode cX11_hears 18 = .ok (.iastore, 1) := by decide +kernel
theorem dX11_hears_19 : decode cX11_hears 19 = .ok (.aload_n 0, 1) := by decide +kernel
theorem dX11_hears_20 : decode cX11_hears 20 = .ok (.getfield 7, 3) := by decide +kernel
theorem dX11_hears_23 : decode cX11_hears 23 = .ok (.iload_n 3, 1) := by decide +kernel
theorem dX11_hears_24 : decode cX11_hears 24 = .ok (.iconst 1, 1) := by decide +kernel
theorem dX11_hears_25 : decode cX11_hears 25 = .ok (.iadd, 1) := by decide +kernel
theorem dX11_hears_26 : decode cX11_hears 26 = .ok (.iload_n 2, 1) := by decide +kernel
theorem dX11_hears_27 : decode cX11_hears 27 = .ok (.iastore, 1) := by decide +kernel
theorem dX11_hears_28 : decode cX11_hears 28 = .ok (.aload_n 0, 1) := by decide +kernel
theorem dX11_hears_29 : decode cX11_hears 29 = .ok (.getfield 7, 3) := by decide +kernel
theorem dX11_hears_32 : decode cX11_hears 32 = .ok (.iconst 5, 1) := by decide +kernel
theorem dX11_hears_33 : decode cX11_hears 33 = .ok (.dup2, 1) := by decide +kernel
theorem dX11_hears_34 : decode cX11_hears 34 = .ok (.iaload, 1) := by decide +kernel
theorem dX11_hears_35 : decode cX11_hears 35 = .ok (.iconst 1, 1) := by decide +kernel
theorem dX11_hears_36 : decode cX11_hears 36 = .ok (.iadd, 1) := by decide +kernel
theorem dX11_hears_37 : decode cX11_hears 37 = .ok (.iastore, 1) := by decide +kernel
theorem dX11_hears_38 : decode cX11_hears 38 = .ok (.return_, 1) := by decide +kernel
theorem dX11_send_0 : decode cX11_send 0 = .ok (.iload_n 1, 1) := by decide +kernel
theorem dX11_send_1 : decode cX11_send 1 = .ok (.iconst 0, 1) := by decide +kernel
theorem dX11_send_2 : decode cX11_send 2 = .ok (.iconst 1, 1) := by decide +kernel
theorem dX11_send_3 : decode cX11_send 3 = .ok (.invokestatic 69, 3) := by decide +kernel
theorem dX11_send_6 : decode cX11_send 6 = .ok (.ifCond .eq 12, 3) := by decide +kernel
theorem dX11_send_9 : decode cX11_send 9 = .ok (.iload_n 2, 1) := by decide +kernel
theorem dX11_send_10 : decode cX11_send 10 = .ok (.iconst 0, 1) := by decide +kernel
theorem dX11_send_11 : decode cX11_send 11 = .ok (.iconst 3, 1) := by decide +kernel
theorem dX11_send_12 : decode cX11_send 12 = .ok (.invokestatic 69, 3) := by decide +kernel
theorem dX11_send_15 : decode cX11_send 15 = .ok (.ifCond .ne 6, 3) := by decide +kernel
theorem dX11_send_18 : decode cX11_send 18 = .ok (.ldc 84, 2) := by decide +kernel
theorem dX11_send_20 : decode cX11_send 20 = .ok (.ireturn, 1) := by decide +kernel
theorem dX11_send_21 : decode cX11_send 21 = .ok (.aload_n 0, 1) := by decide +kernel
theorem dX11_send_22 : decode cX11_send 22 = .ok (.getfield 7, 3) := by decide +kernel
theorem dX11_send_25 : decode cX11_send 25 = .ok (.iconst 4, 1) := by decide +kernel
theorem dX11_send_26 : decode cX11_send 26 = .ok (.iaload, 1) := by decide +kernel
theorem dX11_send_27 : decode cX11_send 27 = .ok (.bipush 24, 2) := by decide +kernel
theorem dX11_send_29 : decode cX11_send 29 = .ok (.if_icmp .ne 6, 3) := by decide +kernel
theorem dX11_send_32 : decode cX11_send 32 = .ok (.ldc 97, 2) := by decide +kernel
theorem dX11_send_34 : decode cX11_send 34 = .ok (.ireturn, 1) := by decide +kernel
theorem dX11_send_35 : decode cX11_send 35 = .ok (.aload_n 0, 1) := by decide +kernel
theorem dX11_send_36 : decode cX11_send 36 = .ok (.invokevirtual 85, 3) := by decide +kernel
theorem dX11_send_39 : decode cX11_send 39 = .ok (.aload_n 0, 1) := by decide +kernel
theorem dX11_send_40 : decode cX11_send 40 = .ok (.iload_n 1, 1) := by decide +kernel
theorem dX11_send_41 : decode cX11_send 41 = .ok (.iload_n 2, 1) := by decide +kernel
theorem dX11_send_42 : decode cX11_send 42 = .ok (.invokevirtual 98, 3) := by decide +kernel
theorem dX11_send_45 : decode cX11_send 45 = .ok (.aload_n 0, 1) := by decide +kernel
theorem dX11_send_46 : decode cX11_send 46 = .ok (.aload_n 0, 1) := by decide +kernel
theorem dX11_send_47 : decode cX11_send 47 = .ok (.getfield 7, 3) := by decide +kernel
theorem dX11_send_50 : decode cX11_send 50 = .ok (.iconst 4, 1) := by decide +kernel
theorem dX11_send_51 : decode cX11_send 51 = .ok (.iaload, 1) := by decide +kernel
theorem dX11_send_52 : decode cX11_send 52 = .ok (.iconst 1, 1) := by decide +kernel
theorem dX11_send_53 : decode cX11_send 53 = .ok (.isub, 1) := by decide +kernel
theorem dX11_send_54 : decode cX11_send 54 = .ok (.invokevirtual 102, 3) := by decide +kernel
theorem dX11_send_57 : decode cX11_send 57 = .ok (.ireturn, 1) := by decide +kernel
theorem dX11_hear_0 : decode cX11_hear 0 = .ok (.iload_n 1, 1) := by decide +kernel
theorem dX11_hear_1 : decode cX11_hear 1 = .ok (.bipush (-99), 2) := by decide +kernel
theorem dX11_hear_3 : decode cX11_hear 3 = .ok (.bipush 99, 2) := by decide +kernel
theorem dX11_hear_5 : decode cX11_hear 5 = .ok (.invokestatic 69, 3) := by decide +kernel
theorem dX11_hear_8 : decode cX11_hear 8 = .ok (.ifCond .eq 14, 3) := by decide +kernel
theorem dX11_hear_11 : decode cX11_hear 11 = .ok (.iload_n 2, 1) := by decide +kernel
theorem dX11_hear_12 : decode cX11_hear 12 = .ok (.bipush (-99), 2) := by decide +kernel
theorem dX11_hear_14 : decode cX11_hear 14 = .ok (.bipush 99, 2) := by decide +kernel
theorem dX11_hear_16 : decode cX11_hear 16 = .ok (.invokestatic 69, 3) := by decide +kernel
theorem dX11_hear_19 : decode cX11_hear 19 = .ok (.ifCond .ne 6, 3) := by decide +kernel
theorem dX11_hear_22 : decode cX11_hear 22 = .ok (.ldc 84, 2) := by decide +kernel
theorem dX11_hear_24 : decode cX11_hear 24 = .ok (.ireturn, 1) := by decide +kernel
theorem dX11_hear_25 : decode cX11_hear 25 = .ok (.aload_n 0, 1) := by decide +kernel
theorem dX11_hear_26 : decode cX11_hear 26 = .ok (.getfield 7, 3) := by decide +kernel
theorem dX11_hear_29 : decode cX11_hear 29 = .ok (.iconst 5, 1) := by decide +kernel
theorem dX11_hear_30 : decode cX11_hear 30 = .ok (.iaload, 1) := by decide +kernel
theorem dX11_hear_31 : decode cX11_hear 31 = .ok (.bipush 24, 2) := by decide +kernel
theorem dX11_hear_33 : decode cX11_hear 33 = .ok (.if_icmp .ne 6, 3) := by decide +kernel
theorem dX11_hear_36 : decode cX11_hear 36 = .ok (.ldc 97, 2) := by decide +kernel
theorem dX11_hear_38 : decode cX11_hear 38 = .ok (.ireturn, 1) := by decide +kernel
theorem dX11_hear_39 : decode cX11_hear 39 = .ok (.aload_n 0, 1) := by decide +kernel
theorem dX11_hear_40 : decode cX11_hear 40 = .ok (.invokevirtual 85, 3) := by decide +kernel
theorem dX11_hear_43 : decode cX11_hear 43 = .ok (.aload_n 0, 1) := by decide +kernel
theorem dX11_hear_44 : decode cX11_hear 44 = .ok (.iload_n 1, 1) := by decide +kernel
theorem dX11_hear_45 : decode cX11_hear 45 = .ok (.iload_n 2, 1) := by decide +kernel
theorem dX11_hear_46 : decode cX11_hear 46 = .ok (.invokevirtual 105, 3) := by decide +kernel
theorem dX11_hear_49 : decode cX11_hear 49 = .ok (.aload_n 0, 1) := by decide +kernel
theorem dX11_hear_50 : decode cX11_hear 50 = .ok (.getfield 7, 3) := by decide +kernel
theorem dX11_hear_53 : decode cX11_hear 53 = .ok (.iconst 5, 1) := by decide +kernel
theorem dX11_hear_54 : decode cX11_hear 54 = .ok (.iaload, 1) := by decide +kernel
theorem dX11_hear_55 : decode cX11_hear 55 = .ok (.ireturn, 1) := by decide +kernel
theorem dX11_drawn_0 : decode cX11_drawn 0 = .ok (.lload_n 0, 1) := by decide +kernel
theorem dX11_drawn_1 : decode cX11_drawn 1 = .ok (.ldc2_w 108, 3) := by decide +kernel
theorem dX11_drawn_4 : decode cX11_drawn 4 = .ok (.lmul, 1) := by decide +kernel
theorem dX11_drawn_5 : decode cX11_drawn 5 = .ok (.ldc2_w 110, 3) := by decide +kernel
theorem dX11_drawn_8 : decode cX11_drawn 8 = .ok (.lrem, 1) := by decide +kernel
theorem dX11_drawn_9 : decode cX11_drawn 9 = .ok (.lreturn, 1) := by decide +kernel
theorem dX11_drift_0 : decode cX11_drift 0 = .ok (.iload_n 1, 1) := by decide +kernel
theorem dX11_drift_1 : decode cX11_drift 1 = .ok (.iconst 1, 1) := by decide +kernel
theorem dX11_drift_2 : decode cX11_drift 2 = .ok (.bipush 24, 2) := by decide +kernel
theorem dX11_drift_4 : decode cX11_drift 4 = .ok (.invokestatic 69, 3) := by decide +kernel
theorem dX11_drift_7 : decode cX11_drift 7 = .ok (.ifCond .eq 13, 3) := by decide +kernel
theorem dX11_drift_10 : decode cX11_drift 10 = .ok (.iload_n 2, 1) := by decide +kernel
theorem dX11_drift_11 : decode cX11_drift 11 = .ok (.iconst 1, 1) := by decide +kernel
theorem dX11_drift_12 : decode cX11_drift 12 = .ok (.ldc 112, 2) := by decide +kernel
theorem dX11_drift_14 : decode cX11_drift 14 = .ok (.invokestatic 69, 3) := by decide +kernel
theorem dX11_drift_17 : decode cX11_drift 17 = .ok (.ifCond .ne 6, 3) := by decide +kernel
theorem dX11_drift_20 : decode cX11_drift 20 = .ok (.ldc 84, 2) := by decide +kernel
theorem dX11_drift_22 : decode cX11_drift 22 = .ok (.ireturn, 1) := by decide +kernel
theorem dX11_drift_23 : decode cX11_drift 23 = .ok (.aload_n 0, 1) := by decide +kernel
theorem dX11_drift_24 : decode cX11_drift 24 = .ok (.invokevirtual 85, 3) := by decide +kernel
theorem dX11_drift_27 : decode cX11_drift 27 = .ok (.iload_n 2, 1) := by decide +kernel
theorem dX11_drift_28 : decode cX11_drift 28 = .ok (.i2l, 1) := by decide +kernel
theorem dX11_drift_29 : decode cX11_drift 29 = .ok (.lstore_n 3, 1) := by decide +kernel
theorem dX11_drift_30 : decode cX11_drift 30 = .ok (.iconst 0, 1) := by decide +kernel
theorem dX11_drift_31 : decode cX11_drift 31 = .ok (.istore 5, 2) := by decide +kernel
theorem dX11_drift_33 : decode cX11_drift 33 = .ok (.iload 5, 2) := by decide +kernel
theorem dX11_drift_35 : decode cX11_drift 35 = .ok (.iload_n 1, 1) := by decide +kernel
theorem dX11_drift_36 : decode cX11_drift 36 = .ok (.if_icmp .ge 123, 3) := by decide +kernel
theorem dX11_drift_39 : decode cX11_drift 39 = .ok (.aload_n 0, 1) := by decide +kernel
theorem dX11_drift_40 : decode cX11_drift 40 = .ok (.getfield 7, 3) := by decide +kernel
theorem dX11_drift_43 : decode cX11_drift 43 = .ok (.iconst 4, 1) := by decide +kernel
theorem dX11_drift_44 : decode cX11_drift 44 = .ok (.iaload, 1) := by decide +kernel
theorem dX11_drift_45 : decode cX11_drift 45 = .ok (.bipush 24, 2) := by decide +kernel
theorem dX11_drift_47 : decode cX11_drift 47 = .ok (.if_icmp .ge 112, 3) := by decide +kernel
theorem dX11_drift_50 : decode cX11_drift 50 = .ok (.aload_n 0, 1) := by decide +kernel
theorem dX11_drift_51 : decode cX11_drift 51 = .ok (.getfield 7, 3) := by decide +kernel
theorem dX11_drift_54 : decode cX11_drift 54 = .ok (.iconst 5, 1) := by decide +kernel
theorem dX11_drift_55 : decode cX11_drift 55 = .ok (.iaload, 1) := by decide +kernel
theorem dX11_drift_56 : decode cX11_drift 56 = .ok (.bipush 24, 2) := by decide +kernel
theorem dX11_drift_58 : decode cX11_drift 58 = .ok (.if_icmp .ge 101, 3) := by decide +kernel
theorem dX11_drift_61 : decode cX11_drift 61 = .ok (.lload_n 3, 1) := by decide +kernel
theorem dX11_drift_62 : decode cX11_drift 62 = .ok (.invokestatic 113, 3) := by decide +kernel
theorem dX11_drift_65 : decode cX11_drift 65 = .ok (.lstore_n 3, 1) := by decide +kernel
theorem dX11_drift_66 : decode cX11_drift 66 = .ok (.lload_n 3, 1) := by decide +kernel
theorem dX11_drift_67 : decode cX11_drift 67 = .ok (.ldc2_w 117, 3) := by decide +kernel
theorem dX11_drift_70 : decode cX11_drift 70 = .ok (.lrem, 1) := by decide +kernel
theorem dX11_drift_71 : decode cX11_drift 71 = .ok (.l2i, 1) := by decide +kernel
theorem dX11_drift_72 : decode cX11_drift 72 = .ok (.istore 6, 2) := by decide +kernel
theorem dX11_drift_74 : decode cX11_drift 74 = .ok (.lload_n 3, 1) := by decide +kernel
theorem dX11_drift_75 : decode cX11_drift 75 = .ok (.invokestatic 113, 3) := by decide +kernel
theorem dX11_drift_78 : decode cX11_drift 78 = .ok (.lstore_n 3, 1) := by decide +kernel
theorem dX11_drift_79 : decode cX11_drift 79 = .ok (.aload_n 0, 1) := by decide +kernel
theorem dX11_drift_80 : decode cX11_drift 80 = .ok (.iload 6, 2) := by decide +kernel
theorem dX11_drift_82 : decode cX11_drift 82 = .ok (.lload_n 3, 1) := by decide +kernel
theorem dX11_drift_83 : decode cX11_drift 83 = .ok (.ldc2_w 119, 3) := by decide +kernel
theorem dX11_drift_86 : decode cX11_drift 86 = .ok (.lrem, 1) := by decide +kernel
theorem dX11_drift_87 : decode cX11_drift 87 = .ok (.l2i, 1) := by decide +kernel
theorem dX11_drift_88 : decode cX11_drift 88 = .ok (.invokevirtual 98, 3) := by decide +kernel
theorem dX11_drift_91 : decode cX11_drift 91 = .ok (.aload_n 0, 1) := by decide +kernel
theorem dX11_drift_92 : decode cX11_drift 92 = .ok (.aload_n 0, 1) := by decide +kernel
theorem dX11_drift_93 : decode cX11_drift 93 = .ok (.getfield 7, 3) := by decide +kernel
theorem dX11_drift_96 : decode cX11_drift 96 = .ok (.iconst 4, 1) := by decide +kernel
theorem dX11_drift_97 : decode cX11_drift 97 = .ok (.iaload, 1) := by decide +kernel
theorem dX11_drift_98 : decode cX11_drift 98 = .ok (.iconst 1, 1) := by decide +kernel
theorem dX11_drift_99 : decode cX11_drift 99 = .ok (.isub, 1) := by decide +kernel
theorem dX11_drift_100 : decode cX11_drift 100 = .ok (.invokevirtual 102, 3) := by decide +kernel
theorem dX11_drift_103 : decode cX11_drift 103 = .ok (.istore 7, 2) := by decide +kernel
theorem dX11_drift_105 : decode cX11_drift 105 = .ok (.lload_n 3, 1) := by decide +kernel
theorem dX11_drift_106 : decode cX11_drift 106 = .ok (.invokestatic 113, 3) := by decide +kernel
theorem dX11_drift_109 : decode cX11_drift 109 = .ok (.lstore_n 3, 1) := by decide +kernel
theorem dX11_drift_110 : decode cX11_drift 110 = .ok (.lload_n 3, 1) := by decide +kernel
theorem dX11_drift_111 : decode cX11_drift 111 = .ok (.ldc2_w 121, 3) := by decide +kernel
theorem dX11_drift_114 : decode cX11_drift 114 = .ok (.lrem, 1) := by decide +kernel
theorem dX11_drift_115 : decode cX11_drift 115 = .ok (.l2i, 1) := by decide +kernel
theorem dX11_drift_116 : decode cX11_drift 116 = .ok (.bipush 12, 2) := by decide +kernel
theorem dX11_drift_118 : decode cX11_drift 118 = .ok (.isub, 1) := by decide +kernel
theorem dX11_drift_119 : decode cX11_drift 119 = .ok (.istore 8, 2) := by decide +kernel
theorem dX11_drift_121 : decode cX11_drift 121 = .ok (.lload_n 3, 1) := by decide +kernel
theorem dX11_drift_122 : decode cX11_drift 122 = .ok (.invokestatic 113, 3) := by decide +kernel
theorem dX11_drift_125 : decode cX11_drift 125 = .ok (.lstore_n 3, 1) := by decide +kernel
theorem dX11_drift_126 : decode cX11_drift 126 = .ok (.aload_n 0, 1) := by decide +kernel
theorem dX11_drift_127 : decode cX11_drift 127 = .ok (.iload 7, 2) := by decide +kernel
theorem dX11_drift_129 : decode cX11_drift 129 = .ok (.invokestatic 51, 3) := by decide +kernel
theorem dX11_drift_132 : decode cX11_drift 132 = .ok (.iload 8, 2) := by decide +kernel
theorem dX11_drift_134 : decode cX11_drift 134 = .ok (.iadd, 1) := by decide +kernel
theorem dX11_drift_135 : decode cX11_drift 135 = .ok (.iload 7, 2) := by decide +kernel
theorem dX11_drift_137 : decode cX11_drift 137 = .ok (.invokestatic 54, 3) := by decide +kernel
theorem dX11_drift_140 : decode cX11_drift 140 = .ok (.lload_n 3, 1) := by decide +kernel
theorem dX11_drift_141 : decode cX11_drift 141 = .ok (.ldc2_w 121, 3) := by decide +kernel
theorem dX11_drift_144 : decode cX11_drift 144 = .ok (.lrem, 1) := by decide +kernel
theorem dX11_drift_145 : decode cX11_drift 145 = .ok (.l2i, 1) := by decide +kernel
theorem dX11_drift_146 : decode cX11_drift 146 = .ok (.iadd, 1) := by decide +kernel
theorem dX11_drift_147 : decode cX11_drift 147 = .ok (.bipush 12, 2) := by decide +kernel
theorem dX11_drift_149 : decode cX11_drift 149 = .ok (.isub, 1) := by decide +kernel
theorem dX11_drift_150 : decode cX11_drift 150 = .ok (.invokevirtual 105, 3) := by decide +kernel
theorem dX11_drift_153 : decode cX11_drift 153 = .ok (.iinc 5 1, 3) := by decide +kernel
theorem dX11_drift_156 : decode cX11_drift 156 = .ok (.goto (-123), 3) := by decide +kernel
theorem dX11_drift_159 : decode cX11_drift 159 = .ok (.iload 5, 2) := by decide +kernel
theorem dX11_drift_161 : decode cX11_drift 161 = .ok (.ireturn, 1) := by decide +kernel
theorem dX11_wipe_0 : decode cX11_wipe 0 = .ok (.aload_n 0, 1) := by decide +kernel
theorem dX11_wipe_1 : decode cX11_wipe 1 = .ok (.invokevirtual 85, 3) := by decide +kernel
theorem dX11_wipe_4 : decode cX11_wipe 4 = .ok (.aload_n 0, 1) := by decide +kernel
theorem dX11_wipe_5 : decode cX11_wipe 5 = .ok (.getfield 7, 3) := by decide +kernel
theorem dX11_wipe_8 : decode cX11_wipe 8 = .ok (.iconst 4, 1) := by decide +kernel
theorem dX11_wipe_9 : decode cX11_wipe 9 = .ok (.iaload, 1) := by decide +kernel
theorem dX11_wipe_10 : decode cX11_wipe 10 = .ok (.aload_n 0, 1) := by decide +kernel
theorem dX11_wipe_11 : decode cX11_wipe 11 = .ok (.getfield 7, 3) := by decide +kernel
theorem dX11_wipe_14 : decode cX11_wipe 14 = .ok (.iconst 5, 1) := by decide +kernel
theorem dX11_wipe_15 : decode cX11_wipe 15 = .ok (.iaload, 1) := by decide +kernel
theorem dX11_wipe_16 : decode cX11_wipe 16 = .ok (.iadd, 1) := by decide +kernel
theorem dX11_wipe_17 : decode cX11_wipe 17 = .ok (.istore_n 1, 1) := by decide +kernel
theorem dX11_wipe_18 : decode cX11_wipe 18 = .ok (.aload_n 0, 1) := by decide +kernel
theorem dX11_wipe_19 : decode cX11_wipe 19 = .ok (.getfield 7, 3) := by decide +kernel
theorem dX11_wipe_22 : decode cX11_wipe 22 = .ok (.iconst 4, 1) := by decide +kernel
theorem dX11_wipe_23 : decode cX11_wipe 23 = .ok (.iconst 0, 1) := by decide +kernel
theorem dX11_wipe_24 : decode cX11_wipe 24 = .ok (.iastore, 1) := by decide +kernel
theorem dX11_wipe_25 : decode cX11_wipe 25 = .ok (.aload_n 0, 1) := by decide +kernel
theorem dX11_wipe_26 : decode cX11_wipe 26 = .ok (.getfield 7, 3) := by decide +kernel
theorem dX11_wipe_29 : decode cX11_wipe 29 = .ok (.iconst 5, 1) := by decide +kernel
theorem dX11_wipe_30 : decode cX11_wipe 30 = .ok (.iconst 0, 1) := by decide +kernel
theorem dX11_wipe_31 : decode cX11_wipe 31 = .ok (.iastore, 1) := by decide +kernel
theorem dX11_wipe_32 : decode cX11_wipe 32 = .ok (.iload_n 1, 1) := by decide +kernel
theorem dX11_wipe_33 : decode cX11_wipe 33 = .ok (.ireturn, 1) := by decide +kernel
theorem dX11_end_0 : decode cX11_end 0 = .ok (.iload_n 1, 1) := by decide +kernel
theorem dX11_end_1 : decode cX11_end 1 = .ok (.iconst (-1), 1) := by decide +kernel
theorem dX11_end_2 : decode cX11_end 2 = .ok (.if_icmp .eq 14, 3) := by decide +kernel
theorem dX11_end_5 : decode cX11_end 5 = .ok (.aload_n 0, 1) := by decide +kernel
theorem dX11_end_6 : decode cX11_end 6 = .ok (.iload_n 1, 1) := by decide +kernel
theorem dX11_end_7 : decode cX11_end 7 = .ok (.invokevirtual 123, 3) := by decide +kernel
theorem dX11_end_10 : decode cX11_end 10 = .ok (.ifCond .ne 6, 3) := by decide +kernel
theorem dX11_end_13 : decode cX11_end 13 = .ok (.ldc 127, 2) := by decide +kernel
theorem dX11_end_15 : decode cX11_end 15 = .ok (.ireturn, 1) := by decide +kernel
theorem dX11_end_16 : decode cX11_end 16 = .ok (.aload_n 0, 1) := by decide +kernel
theorem dX11_end_17 : decode cX11_end 17 = .ok (.invokevirtual 85, 3) := by decide +kernel
theorem dX11_end_20 : decode cX11_end 20 = .ok (.aload_n 0, 1) := by decide +kernel
theorem dX11_end_21 : decode cX11_end 21 = .ok (.getfield 7, 3) := by decide +kernel
theorem dX11_end_24 : decode cX11_end 24 = .ok (.iconst 3, 1) := by decide +kernel
theorem dX11_end_25 : decode cX11_end 25 = .ok (.iaload, 1) := by decide +kernel
theorem dX11_end_26 : decode cX11_end 26 = .ok (.istore_n 2, 1) := by decide +kernel
theorem dX11_end_27 : decode cX11_end 27 = .ok (.aload_n 0, 1) := by decide +kernel
theorem dX11_end_28 : decode cX11_end 28 = .ok (.getfield 7, 3) := by decide +kernel
theorem dX11_end_31 : decode cX11_end 31 = .ok (.iconst 3, 1) := by decide +kernel
theorem dX11_end_32 : decode cX11_end 32 = .ok (.iload_n 1, 1) := by decide +kernel
theorem dX11_end_33 : decode cX11_end 33 = .ok (.iastore, 1) := by decide +kernel
theorem dX11_end_34 : decode cX11_end 34 = .ok (.iload_n 2, 1) := by decide +kernel
theorem dX11_end_35 : decode cX11_end 35 = .ok (.ireturn, 1) := by decide +kernel
theorem dX11_undo_0 : decode cX11_undo 0 = .ok (.aload_n 0, 1) := by decide +kernel
theorem dX11_undo_1 : decode cX11_undo 1 = .ok (.getfield 80, 3) := by decide +kernel
theorem dX11_undo_4 : decode cX11_undo 4 = .ok (.ifCond .ne 6, 3) := by decide +kernel
theorem dX11_undo_7 : decode cX11_undo 7 = .ok (.ldc 128, 2) := by decide +kernel
theorem dX11_undo_9 : decode cX11_undo 9 = .ok (.ireturn, 1) := by decide +kernel
theorem dX11_undo_10 : decode cX11_undo 10 = .ok (.aload_n 0, 1) := by decide +kernel
theorem dX11_undo_11 : decode cX11_undo 11 = .ok (.dup, 1) := by decide +kernel
theorem dX11_undo_12 : decode cX11_undo 12 = .ok (.getfield 80, 3) := by decide +kernel
theorem dX11_undo_15 : decode cX11_undo 15 = .ok (.iconst 1, 1) := by decide +kernel
theorem dX11_undo_16 : decode cX11_undo 16 = .ok (.isub, 1) := by decide +kernel
theorem dX11_undo_17 : decode cX11_undo 17 = .ok (.putfield 80, 3) := by decide +kernel
theorem dX11_undo_20 : decode cX11_undo 20 = .ok (.iconst 0, 1) := by decide +kernel
theorem dX11_undo_21 : decode cX11_undo 21 = .ok (.istore_n 1, 1) := by decide +kernel
theorem dX11_undo_22 : decode cX11_undo 22 = .ok (.iload_n 1, 1) := by decide +kernel
theorem dX11_undo_23 : decode cX11_undo 23 = .ok (.bipush 102, 2) := by decide +kernel
theorem dX11_undo_25 : decode cX11_undo 25 = .ok (.if_icmp .ge 29, 3) := by decide +kernel
theorem dX11_undo_28 : decode cX11_undo 28 = .ok (.aload_n 0, 1) := by decide +kernel
theorem dX11_undo_29 : decode cX11_undo 29 = .ok (.getfield 7, 3) := by decide +kernel
theorem dX11_undo_32 : decode cX11_undo 32 = .ok (.iload_n 1, 1) := by decide +kernel
theorem dX11_undo_33 : decode cX11_undo 33 = .ok (.aload_n 0, 1) := by decide +kernel
theorem dX11_undo_34 : decode cX11_undo 34 = .ok (.getfield 13, 3) := by decide +kernel
theorem dX11_undo_37 : decode cX11_undo 37 = .ok (.bipush 102, 2) := by decide +kernel
theorem dX11_undo_39 : decode cX11_undo 39 = .ok (.aload_n 0, 1) := by decide +kernel
theorem dX11_undo_40 : decode cX11_undo 40 = .ok (.getfield 80, 3) := by decide +kernel
theorem dX11_undo_43 : decode cX11_undo 43 = .ok (.imul, 1) := by decide +kernel
theorem dX11_undo_44 : decode cX11_undo 44 = .ok (.iload_n 1, 1) := by decide +kernel
theorem dX11_undo_45 : decode cX11_undo 45 = .ok (.iadd, 1) := by decide +kernel
theorem dX11_undo_46 : decode cX11_undo 46 = .ok (.iaload, 1) := by decide +kernel
theorem dX11_undo_47 : decode cX11_undo 47 = .ok (.iastore, 1) := by decide +kernel
theorem dX11_undo_48 : decode cX11_undo 48 = .ok (.iinc 1 1, 3) := by decide +kernel
theorem dX11_undo_51 : decode cX11_undo 51 = .ok (.goto (-29), 3) := by decide +kernel
theorem dX11_undo_54 : decode cX11_undo 54 = .ok (.aload_n 0, 1) := by decide +kernel
theorem dX11_undo_55 : decode cX11_undo 55 = .ok (.getfield 80, 3) := by decide +kernel
theorem dX11_undo_58 : decode cX11_undo 58 = .ok (.ireturn, 1) := by decide +kernel
end
section
theorem dX11_costAt_0 : decode cX11_costAt 0 = .ok (.iload_n 2, 1) := by decide +kernel
theorem dX11_costAt_1 : decode cX11_costAt 1 = .ok (.aload_n 0, 1) := by decide +kernel
theorem dX11_costAt_2 : decode cX11_costAt 2 = .ok (.getfield 7, 3) := by decide +kernel
theorem dX11_costAt_5 : decode cX11_costAt 5 = .ok (.bipush 54, 2) := by decide +kernel
theorem dX11_costAt_7 : decode cX11_costAt 7 = .ok (.iconst 2, 1) := by decide +kernel
theorem dX11_costAt_8 : decode cX11_costAt 8 = .ok (.iload_n 1, 1) := by decide +kernel
theorem dX11_costAt_9 : decode cX11_costAt 9 = .ok (.imul, 1) := by decide +kernel
theorem dX11_costAt_10 : decode cX11_costAt 10 = .ok (.iadd, 1) := by decide +kernel
theorem dX11_costAt_11 : decode cX11_costAt 11 = .ok (.iaload, 1) := by decide +kernel
theorem dX11_costAt_12 : decode cX11_costAt 12 = .ok (.aload_n 0, 1) := by decide +kernel
theorem dX11_costAt_13 : decode cX11_costAt 13 = .ok (.getfield 7, 3) := by decide +kernel
theorem dX11_costAt_16 : decode cX11_costAt 16 = .ok (.bipush 54, 2) := by decide +kernel
theorem dX11_costAt_18 : decode cX11_costAt 18 = .ok (.iconst 2, 1) := by decide +kernel
theorem dX11_costAt_19 : decode cX11_costAt 19 = .ok (.iload_n 1, 1) := by decide +kernel
theorem dX11_costAt_20 : decode cX11_costAt 20 = .ok (.imul, 1) := by decide +kernel
theorem dX11_costAt_21 : decode cX11_costAt 21 = .ok (.iadd, 1) := by decide +kernel
theorem dX11_costAt_22 : decode cX11_costAt 22 = .ok (.iconst 1, 1) := by decide +kernel
theorem dX11_costAt_23 : decode cX11_costAt 23 = .ok (.iadd, 1) := by decide +kernel
theorem dX11_costAt_24 : decode cX11_costAt 24 = .ok (.iaload, 1) := by decide +kernel
theorem dX11_costAt_25 : decode cX11_costAt 25 = .ok (.invokestatic 58, 3) := by decide +kernel
theorem dX11_costAt_28 : decode cX11_costAt 28 = .ok (.ireturn, 1) := by decide +kernel
theorem dX11_costFrom_0 : decode cX11_costFrom 0 = .ok (.aload_n 0, 1) := by decide +kernel
theorem dX11_costFrom_1 : decode cX11_costFrom 1 = .ok (.getfield 23, 3) := by decide +kernel
theorem dX11_costFrom_4 : decode cX11_costFrom 4 = .ok (.bipush 8, 2) := by decide +kernel
theorem dX11_costFrom_6 : decode cX11_costFrom 6 = .ok (.iload_n 1, 1) := by decide +kernel
theorem dX11_costFrom_7 : decode cX11_costFrom 7 = .ok (.iconst 1, 1) := by decide +kernel
theorem dX11_costFrom_8 : decode cX11_costFrom 8 = .ok (.iadd, 1) := by decide +kernel
theorem dX11_costFrom_9 : decode cX11_costFrom 9 = .ok (.imul, 1) := by decide +kernel
theorem dX11_costFrom_10 : decode cX11_costFrom 10 = .ok (.aload_n 0, 1) := by decide +kernel
theorem dX11_costFrom_11 : decode cX11_costFrom 11 = .ok (.iload_n 2, 1) := by decide +kernel
theorem dX11_costFrom_12 : decode cX11_costFrom 12 = .ok (.iload_n 3, 1) := by decide +kernel
theorem dX11_costFrom_13 : decode cX11_costFrom 13 = .ok (.invokevirtual 88, 3) := by decide +kernel
theorem dX11_costFrom_16 : decode cX11_costFrom 16 = .ok (.iadd, 1) := by decide +kernel
theorem dX11_costFrom_17 : decode cX11_costFrom 17 = .ok (.iaload, 1) := by decide +kernel
theorem dX11_costFrom_18 : decode cX11_costFrom 18 = .ok (.istore 5, 2) := by decide +kernel
theorem dX11_costFrom_20 : decode cX11_costFrom 20 = .ok (.iload 5, 2) := by decide +kernel
theorem dX11_costFrom_22 : decode cX11_costFrom 22 = .ok (.ldc 57, 2) := by decide +kernel
theorem dX11_costFrom_24 : decode cX11_costFrom 24 = .ok (.if_icmp .ne 8, 3) := by decide +kernel
theorem dX11_costFrom_27 : decode cX11_costFrom 27 = .ok (.ldc 57, 2) := by decide +kernel
theorem dX11_costFrom_29 : decode cX11_costFrom 29 = .ok (.goto 22, 3) := by decide +kernel
theorem dX11_costFrom_32 : decode cX11_costFrom 32 = .ok (.iload 5, 2) := by decide +kernel
theorem dX11_costFrom_34 : decode cX11_costFrom 34 = .ok (.aload_n 0, 1) := by decide +kernel
theorem dX11_costFrom_35 : decode cX11_costFrom 35 = .ok (.iload_n 1, 1) := by decide +kernel
theorem dX11_costFrom_36 : decode cX11_costFrom 36 = .ok (.aload_n 0, 1) := by decide +kernel
theorem dX11_costFrom_37 : decode cX11_costFrom 37 = .ok (.iload_n 2, 1) := by decide +kernel
theorem dX11_costFrom_38 : decode cX11_costFrom 38 = .ok (.iload_n 3, 1) := by decide +kernel
theorem dX11_costFrom_39 : decode cX11_costFrom 39 = .ok (.invokevirtual 94, 3) := by decide +kernel
theorem dX11_costFrom_42 : decode cX11_costFrom 42 = .ok (.iload 4, 2) := by decide +kernel
theorem dX11_costFrom_44 : decode cX11_costFrom 44 = .ok (.invokestatic 62, 3) := by decide +kernel
theorem dX11_costFrom_47 : decode cX11_costFrom 47 = .ok (.invokevirtual 129, 3) := by decide +kernel
theorem dX11_costFrom_50 : decode cX11_costFrom 50 = .ok (.iadd, 1) := by decide +kernel
theorem dX11_costFrom_51 : decode cX11_costFrom 51 = .ok (.ireturn, 1) := by decide +kernel
theorem dX11_finds_0 : decode cX11_finds 0 = .ok (.iconst 0, 1) := by decide +kernel
theorem dX11_finds_1 : decode cX11_finds 1 = .ok (.istore_n 3, 1) := by decide +kernel
theorem dX11_finds_2 : decode cX11_finds 2 = .ok (.iload_n 3, 1) := by decide +kernel
theorem dX11_finds_3 : decode cX11_finds 3 = .ok (.aload_n 0, 1) := by decide +kernel
theorem dX11_finds_4 : decode cX11_finds 4 = .ok (.invokevirtual 73, 3) := by decide +kernel
theorem dX11_finds_7 : decode cX11_finds 7 = .ok (.if_icmp .ge 36, 3) := by decide +kernel
theorem dX11_finds_10 : decode cX11_finds 10 = .ok (.aload_n 0, 1) := by decide +kernel
theorem dX11_finds_11 : decode cX11_finds 11 = .ok (.getfield 23, 3) := by decide +kernel
theorem dX11_finds_14 : decode cX11_finds 14 = .ok (.bipush 8, 2) := by decide +kernel
theorem dX11_finds_16 : decode cX11_finds 16 = .ok (.iload_n 1, 1) := by decide +kernel
theorem dX11_finds_17 : decode cX11_finds 17 = .ok (.imul, 1) := by decide +kernel
theorem dX11_finds_18 : decode cX11_finds 18 = .ok (.iload_n 3, 1) := by decide +kernel
theorem dX11_finds_19 : decode cX11_finds 19 = .ok (.iadd, 1) := by decide +kernel
theorem dX11_finds_20 : decode cX11_finds 20 = .ok (.iload_n 2, 1) := by decide +kernel
theorem dX11_finds_21 : decode cX11_finds 21 = .ok (.iconst (-1), 1) := by decide +kernel
theorem dX11_finds_22 : decode cX11_finds 22 = .ok (.if_icmp .eq 8, 3) := by decide +kernel
theorem dX11_finds_25 : decode cX11_finds 25 = .ok (.iload_n 2, 1) := by decide +kernel
theorem dX11_finds_26 : decode cX11_finds 26 = .ok (.iload_n 3, 1) := by decide +kernel
theorem dX11_finds_27 : decode cX11_finds 27 = .ok (.if_icmp .ne 7, 3) := by decide +kernel
theorem dX11_finds_30 : decode cX11_finds 30 = .ok (.iconst 0, 1) := by decide +kernel
theorem dX11_finds_31 : decode cX11_finds 31 = .ok (.goto 5, 3) := by decide +kernel
theorem dX11_finds_34 : decode cX11_finds 34 = .ok (.ldc 57, 2) := by decide +kernel
theorem dX11_finds_36 : decode cX11_finds 36 = .ok (.iastore, 1) := by decide +kernel
theorem dX11_finds_37 : decode cX11_finds 37 = .ok (.iinc 3 1, 3) := by decide +kernel
theorem dX11_finds_40 : decode cX11_finds 40 = .ok (.goto (-38), 3) := by decide +kernel
theorem dX11_finds_43 : decode cX11_finds 43 = .ok (.iload_n 1, 1) := by decide +kernel
theorem dX11_finds_44 : decode cX11_finds 44 = .ok (.iconst 1, 1) := by decide +kernel
theorem dX11_finds_45 : decode cX11_finds 45 = .ok (.isub, 1) := by decide +kernel
theorem dX11_finds_46 : decode cX11_finds 46 = .ok (.istore_n 3, 1) := by decide +kernel
theorem dX11_finds_47 : decode cX11_finds 47 = .ok (.iload_n 3, 1) := by decide +kernel
theorem dX11_finds_48 : decode cX11_finds 48 = .ok (.ifCond .lt 94, 3) := by decide +kernel
theorem dX11_finds_51 : decode cX11_finds 51 = .ok (.iconst 0, 1) := by decide +kernel
theorem dX11_finds_52 : decode cX11_finds 52 = .ok (.istore 4, 2) := by decide +kernel
theorem dX11_finds_54 : decode cX11_finds 54 = .ok (.iload 4, 2) := by decide +kernel
theorem dX11_finds_56 : decode cX11_finds 56 = .ok (.aload_n 0, 1) := by decide +kernel
theorem dX11_finds_57 : decode cX11_finds 57 = .ok (.invokevirtual 73, 3) := by decide +kernel
theorem dX11_finds_60 : decode cX11_finds 60 = .ok (.if_icmp .ge 76, 3) := by decide +kernel
theorem dX11_finds_63 : decode cX11_finds 63 = .ok (.ldc 57, 2) := by decide +kernel
theorem dX11_finds_65 : decode cX11_finds 65 = .ok (.istore 5, 2) := by decide +kernel
theorem dX11_finds_67 : decode cX11_finds 67 = .ok (.iconst 0, 1) := by decide +kernel
theorem dX11_finds_68 : decode cX11_finds 68 = .ok (.istore 6, 2) := by decide +kernel
theorem dX11_finds_70 : decode cX11_finds 70 = .ok (.iload 6, 2) := by decide +kernel
theorem dX11_finds_72 : decode cX11_finds 72 = .ok (.bipush 8, 2) := by decide +kernel
theorem dX11_finds_74 : decode cX11_finds 74 = .ok (.if_icmp .ge 42, 3) := by decide +kernel
theorem dX11_finds_77 : decode cX11_finds 77 = .ok (.aload_n 0, 1) := by decide +kernel
theorem dX11_finds_78 : decode cX11_finds 78 = .ok (.iload_n 3, 1) := by decide +kernel
theorem dX11_finds_79 : decode cX11_finds 79 = .ok (.iload 4, 2) := by decide +kernel
theorem dX11_finds_81 : decode cX11_finds 81 = .ok (.iload 6, 2) := by decide +kernel
theorem dX11_finds_83 : decode cX11_finds 83 = .ok (.iconst 4, 1) := by decide +kernel
theorem dX11_finds_84 : decode cX11_finds 84 = .ok (.idiv, 1) := by decide +kernel
theorem dX11_finds_85 : decode cX11_finds 85 = .ok (.iload 6, 2) := by decide +kernel
theorem dX11_finds_87 : decode cX11_finds 87 = .ok (.iconst 4, 1) := by decide +kernel
theorem dX11_finds_88 : decode cX11_finds 88 = .ok (.irem, 1) := by decide +kernel
theorem dX11_finds_89 : decode cX11_finds 89 = .ok (.invokevirtual 132, 3) := by decide +kernel
theorem dX11_finds_92 : decode cX11_finds 92 = .ok (.istore 7, 2) := by decide +kernel
theorem dX11_finds_94 : decode cX11_finds 94 = .ok (.iload 7, 2) := by decide +kernel
theorem dX11_finds_96 : decode cX11_finds 96 = .ok (.iload 5, 2) := by decide +kernel
theorem dX11_finds_98 : decode cX11_finds 98 = .ok (.if_icmp .ge 8, 3) := by decide +kernel
theorem dX11_finds_101 : decode cX11_finds 101 = .ok (.iload 7, 2) := by decide +kernel
theorem dX11_finds_103 : decode cX11_finds 103 = .ok (.goto 5, 3) := by decide +kernel
theorem dX11_finds_106 : decode cX11_finds 106 = .ok (.iload 5, 2) := by decide +kernel
theorem dX11_finds_108 : decode cX11_finds 108 = .ok (.istore 5, 2) := by decide +kernel
theorem dX11_finds_110 : decode cX11_finds 110 = .ok (.iinc 6 1, 3) := by decide +kernel
theorem dX11_finds_113 : decode cX11_finds 113 = .ok (.goto (-43), 3) := by decide +kernel
theorem dX11_finds_116 : decode cX11_finds 116 = .ok (.aload_n 0, 1) := by decide +kernel
theorem dX11_finds_117 : decode cX11_finds 117 = .ok (.getfield 23, 3) := by decide +kernel
theorem dX11_finds_120 : decode cX11_finds 120 = .ok (.bipush 8, 2) := by decide +kernel
theorem dX11_finds_122 : decode cX11_finds 122 = .ok (.iload_n 3, 1) := by decide +kernel
theorem dX11_finds_123 : decode cX11_finds 123 = .ok (.imul, 1) := by decide +kernel
theorem dX11_finds_124 : decode cX11_finds 124 = .ok (.iload 4, 2) := by decide +kernel
theorem dX11_finds_126 : decode cX11_finds 126 = .ok (.iadd, 1) := by decide +kernel
theorem dX11_finds_127 : decode cX11_finds 127 = .ok (.iload 5, 2) := by decide +kernel
theorem dX11_finds_129 : decode cX11_finds 129 = .ok (.iastore, 1) := by decide +kernel
theorem dX11_finds_130 : decode cX11_finds 130 = .ok (.iinc 4 1, 3) := by decide +kernel
theorem dX11_finds_133 : decode cX11_finds 133 = .ok (.goto (-79), 3) := by decide +kernel
theorem dX11_finds_136 : decode cX11_finds 136 = .ok (.iinc 3 (-1), 3) := by decide +kernel
theorem dX11_finds_139 : decode cX11_finds 139 = .ok (.goto (-92), 3) := by decide +kernel
theorem dX11_finds_142 : decode cX11_finds 142 = .ok (.iconst 0, 1) := by decide +kernel
theorem dX11_finds_143 : decode cX11_finds 143 = .ok (.istore_n 3, 1) := by decide +kernel
theorem dX11_finds_144 : decode cX11_finds 144 = .ok (.iconst 0, 1) := by decide +kernel
theorem dX11_finds_145 : decode cX11_finds 145 = .ok (.istore 4, 2) := by decide +kernel
theorem dX11_finds_147 : decode cX11_finds 147 = .ok (.iload 4, 2) := by decide +kernel
theorem dX11_finds_149 : decode cX11_finds 149 = .ok (.iload_n 1, 1) := by decide +kernel
theorem dX11_finds_150 : decode cX11_finds 150 = .ok (.if_icmp .ge 99, 3) := by decide +kernel
theorem dX11_finds_153 : decode cX11_finds 153 = .ok (.aload_n 0, 1) := by decide +kernel
theorem dX11_finds_154 : decode cX11_finds 154 = .ok (.getfield 23, 3) := by decide +kernel
theorem dX11_finds_157 : decode cX11_finds 157 = .ok (.iconst 0, 1) := by decide +kernel
theorem dX11_finds_158 : decode cX11_finds 158 = .ok (.iaload, 1) := by decide +kernel
theorem dX11_finds_159 : decode cX11_finds 159 = .ok (.ldc 57, 2) := by decide +kernel
theorem dX11_finds_161 : decode cX11_finds 161 = .ok (.if_icmp .eq 88, 3) := by decide +kernel
theorem dX11_finds_164 : decode cX11_finds 164 = .ok (.iconst 0, 1) := by decide +kernel
theorem dX11_finds_165 : decode cX11_finds 165 = .ok (.istore 5, 2) := by decide +kernel
theorem dX11_finds_167 : decode cX11_finds 167 = .ok (.aload_n 0, 1) := by decide +kernel
theorem dX11_finds_168 : decode cX11_finds 168 = .ok (.iload 4, 2) := by decide +kernel
theorem dX11_finds_170 : decode cX11_finds 170 = .ok (.iload_n 3, 1) := by decide +kernel
theorem dX11_finds_171 : decode cX11_finds 171 = .ok (.iload 5, 2) := by decide +kernel
theorem dX11_finds_173 : decode cX11_finds 173 = .ok (.iconst 4, 1) := by decide +kernel
theorem dX11_finds_174 : decode cX11_finds 174 = .ok (.idiv, 1) := by decide +kernel
theorem dX11_finds_175 : decode cX11_finds 175 = .ok (.iload 5, 2) := by decide +kernel
theorem dX11_finds_177 : decode cX11_finds 177 = .ok (.iconst 4, 1) := by decide +kernel
theorem dX11_finds_178 : decode cX11_finds 178 = .ok (.irem, 1) := by decide +kernel
theorem dX11_finds_179 : decode cX11_finds 179 = .ok (.invokevirtual 132, 3) := by decide +kernel
theorem dX11_finds_182 : decode cX11_finds 182 = .ok (.aload_n 0, 1) := by decide +kernel
theorem dX11_finds_183 : decode cX11_finds 183 = .ok (.getfield 23, 3) := by decide +kernel
theorem dX11_finds_186 : decode cX11_finds 186 = .ok (.bipush 8, 2) := by decide +kernel
theorem dX11_finds_188 : decode cX11_finds 188 = .ok (.iload 4, 2) := by decide +kernel
theorem dX11_finds_190 : decode cX11_finds 190 = .ok (.imul, 1) := by decide +kernel
theorem dX11_finds_191 : decode cX11_finds 191 = .ok (.iload_n 3, 1) := by decide +kernel
theorem dX11_finds_192 : decode cX11_finds 192 = .ok (.iadd, 1) := by decide +kernel
theorem dX11_finds_193 : decode cX11_finds 193 = .ok (.iaload, 1) := by decide +kernel
theorem dX11_finds_194 : decode cX11_finds 194 = .ok (.if_icmp .eq 9, 3) := by decide +kernel
theorem dX11_finds_197 : decode cX11_finds 197 = .ok (.iinc 5 1, 3) := by decide +kernel
theorem dX11_finds_200 : decode cX11_finds 200 = .ok (.goto (-33), 3) := by decide +kernel
theorem dX11_finds_203 : decode cX11_finds 203 = .ok (.aload_n 0, 1) := by decide +kernel
theorem dX11_finds_204 : decode cX11_finds 204 = .ok (.getfield 26, 3) := by decide +kernel
theorem dX11_finds_207 : decode cX11_finds 207 = .ok (.iload 4, 2) := by decide +kernel
theorem dX11_finds_209 : decode cX11_finds 209 = .ok (.iload 5, 2) := by decide +kernel
theorem dX11_finds_211 : decode cX11_finds 211 = .ok (.iconst 4, 1) := by decide +kernel
theorem dX11_finds_212 : decode cX11_finds 212 = .ok (.idiv, 1) := by decide +kernel
theorem dX11_finds_213 : decode cX11_finds 213 = .ok (.iastore, 1) := by decide +kernel
theorem dX11_finds_214 : decode cX11_finds 214 = .ok (.aload_n 0, 1) := by decide +kernel
theorem dX11_finds_215 : decode cX11_finds 215 = .ok (.getfield 29, 3) := by decide +kernel
theorem dX11_finds_218 : decode cX11_finds 218 = .ok (.iload 4, 2) := by decide +kernel
theorem dX11_finds_220 : decode cX11_finds 220 = .ok (.iload 5, 2) := by decide +kernel
theorem dX11_finds_222 : decode cX11_finds 222 = .ok (.iconst 4, 1) := by decide +kernel
theorem dX11_finds_223 : decode cX11_finds 223 = .ok (.irem, 1) := by decide +kernel
theorem dX11_finds_224 : decode cX11_finds 224 = .ok (.iastore, 1) := by decide +kernel
theorem dX11_finds_225 : decode cX11_finds 225 = .ok (.aload_n 0, 1) := by decide +kernel
theorem dX11_finds_226 : decode cX11_finds 226 = .ok (.iload_n 3, 1) := by decide +kernel
theorem dX11_finds_227 : decode cX11_finds 227 = .ok (.iload 5, 2) := by decide +kernel
theorem dX11_finds_229 : decode cX11_finds 229 = .ok (.iconst 4, 1) := by decide +kernel
theorem dX11_finds_230 : decode cX11_finds 230 = .ok (.idiv, 1) := by decide +kernel
theorem dX11_finds_231 : decode cX11_finds 231 = .ok (.invokevirtual 88, 3) := by decide +kernel
theorem dX11_finds_234 : decode cX11_finds 234 = .ok (.istore_n 3, 1) := by decide +kernel
theorem dX11_finds_235 : decode cX11_finds 235 = .ok (.aload_n 0, 1) := by decide +kernel
theorem dX11_finds_236 : decode cX11_finds 236 = .ok (.getfield 32, 3) := by decide +kernel
theorem dX11_finds_239 : decode cX11_finds 239 = .ok (.iload 4, 2) := by decide +kernel
theorem dX11_finds_241 : decode cX11_finds 241 = .ok (.iload_n 3, 1) := by decide +kernel
theorem dX11_finds_242 : decode cX11_finds 242 = .ok (.iastore, 1) := by decide +kernel
theorem dX11_finds_243 : decode cX11_finds 243 = .ok (.iinc 4 1, 3) := by decide +kernel
theorem dX11_finds_246 : decode cX11_finds 246 = .ok (.goto (-99), 3) := by decide +kernel
theorem dX11_finds_249 : decode cX11_finds 249 = .ok (.aload_n 0, 1) := by decide +kernel
theorem dX11_finds_250 : decode cX11_finds 250 = .ok (.getfield 23, 3) := by decide +kernel
theorem dX11_finds_253 : decode cX11_finds 253 = .ok (.iconst 0, 1) := by decide +kernel
theorem dX11_finds_254 : decode cX11_finds 254 = .ok (.iaload, 1) := by decide +kernel
theorem dX11_finds_255 : decode cX11_finds 255 = .ok (.ireturn, 1) := by decide +kernel
theorem dX11_pointOf_0 : decode cX11_pointOf 0 = .ok (.aload_n 0, 1) := by decide +kernel
theorem dX11_pointOf_1 : decode cX11_pointOf 1 = .ok (.iload_n 1, 1) := by decide +kernel
theorem dX11_pointOf_2 : decode cX11_pointOf 2 = .ok (.ifCond .ne 7, 3) := by decide +kernel
theorem dX11_pointOf_5 : decode cX11_pointOf 5 = .ok (.iconst 0, 1) := by decide +kernel
theorem dX11_pointOf_6 : decode cX11_pointOf 6 = .ok (.goto 11, 3) := by decide +kernel
theorem dX11_pointOf_9 : decode cX11_pointOf 9 = .ok (.aload_n 0, 1) := by decide +kernel
theorem dX11_pointOf_10 : decode cX11_pointOf 10 = .ok (.getfield 32, 3) := by decide +kernel
theorem dX11_pointOf_13 : decode cX11_pointOf 13 = .ok (.iload_n 1, 1) := by decide +kernel
theorem dX11_pointOf_14 : decode cX11_pointOf 14 = .ok (.iconst 1, 1) := by decide +kernel
theorem dX11_pointOf_15 : decode cX11_pointOf 15 = .ok (.isub, 1) := by decide +kernel
theorem dX11_pointOf_16 : decode cX11_pointOf 16 = .ok (.iaload, 1) := by decide +kernel
theorem dX11_pointOf_17 : decode cX11_pointOf 17 = .ok (.aload_n 0, 1) := by decide +kernel
theorem dX11_pointOf_18 : decode cX11_pointOf 18 = .ok (.getfield 26, 3) := by decide +kernel
theorem dX11_pointOf_21 : decode cX11_pointOf 21 = .ok (.iload_n 1, 1) := by decide +kernel
theorem dX11_pointOf_22 : decode cX11_pointOf 22 = .ok (.iaload, 1) := by decide +kernel
theorem dX11_pointOf_23 : decode cX11_pointOf 23 = .ok (.invokevirtual 94, 3) := by decide +kernel
theorem dX11_pointOf_26 : decode cX11_pointOf 26 = .ok (.aload_n 0, 1) := by decide +kernel
theorem dX11_pointOf_27 : decode cX11_pointOf 27 = .ok (.getfield 29, 3) := by decide +kernel
theorem dX11_pointOf_30 : decode cX11_pointOf 30 = .ok (.iload_n 1, 1) := by decide +kernel
theorem dX11_pointOf_31 : decode cX11_pointOf 31 = .ok (.iaload, 1) := by decide +kernel
theorem dX11_pointOf_32 : decode cX11_pointOf 32 = .ok (.invokestatic 62, 3) := by decide +kernel
theorem dX11_pointOf_35 : decode cX11_pointOf 35 = .ok (.ireturn, 1) := by decide +kernel
theorem dX11_errors_0 : decode cX11_errors 0 = .ok (.aload_n 0, 1) := by decide +kernel
theorem dX11_errors_1 : decode cX11_errors 1 = .ok (.aload_n 0, 1) := by decide +kernel
theorem dX11_errors_2 : decode cX11_errors 2 = .ok (.getfield 7, 3) := by decide +kernel
theorem dX11_errors_5 : decode cX11_errors 5 = .ok (.iconst 5, 1) := by decide +kernel
theorem dX11_errors_6 : decode cX11_errors 6 = .ok (.iaload, 1) := by decide +kernel
theorem dX11_errors_7 : decode cX11_errors 7 = .ok (.aload_n 0, 1) := by decide +kernel
theorem dX11_errors_8 : decode cX11_errors 8 = .ok (.getfield 7, 3) := by decide +kernel
theorem dX11_errors_11 : decode cX11_errors 11 = .ok (.iconst 3, 1) := by decide +kernel
theorem dX11_errors_12 : decode cX11_errors 12 = .ok (.iaload, 1) := by decide +kernel
theorem dX11_errors_13 : decode cX11_errors 13 = .ok (.invokevirtual 136, 3) := by decide +kernel
theorem dX11_errors_16 : decode cX11_errors 16 = .ok (.ldc 57, 2) := by decide +kernel
theorem dX11_errors_18 : decode cX11_errors 18 = .ok (.if_icmp .ne 5, 3) := by decide +kernel
theorem dX11_errors_21 : decode cX11_errors 21 = .ok (.iconst 0, 1) := by decide +kernel
theorem dX11_errors_22 : decode cX11_errors 22 = .ok (.ireturn, 1) := by decide +kernel
theorem dX11_errors_23 : decode cX11_errors 23 = .ok (.iconst 0, 1) := by decide +kernel
theorem dX11_errors_24 : decode cX11_errors 24 = .ok (.istore_n 1, 1) := by decide +kernel
theorem dX11_errors_25 : decode cX11_errors 25 = .ok (.iconst 0, 1) := by decide +kernel
theorem dX11_errors_26 : decode cX11_errors 26 = .ok (.istore_n 2, 1) := by decide +kernel
theorem dX11_errors_27 : decode cX11_errors 27 = .ok (.iload_n 2, 1) := by decide +kernel
theorem dX11_errors_28 : decode cX11_errors 28 = .ok (.aload_n 0, 1) := by decide +kernel
theorem dX11_errors_29 : decode cX11_errors 29 = .ok (.getfield 7, 3) := by decide +kernel
theorem dX11_errors_32 : decode cX11_errors 32 = .ok (.iconst 5, 1) := by decide +kernel
theorem dX11_errors_33 : decode cX11_errors 33 = .ok (.iaload, 1) := by decide +kernel
theorem dX11_errors_34 : decode cX11_errors 34 = .ok (.if_icmp .ge 40, 3) := by decide +kernel
theorem dX11_errors_37 : decode cX11_errors 37 = .ok (.iload_n 2, 1) := by decide +kernel
theorem dX11_errors_38 : decode cX11_errors 38 = .ok (.aload_n 0, 1) := by decide +kernel
theorem dX11_errors_39 : decode cX11_errors 39 = .ok (.getfield 7, 3) := by decide +kernel
theorem dX11_errors_42 : decode cX11_errors 42 = .ok (.iconst 4, 1) := by decide +kernel
theorem dX11_errors_43 : decode cX11_errors 43 = .ok (.iaload, 1) := by decide +kernel
theorem dX11_errors_44 : decode cX11_errors 44 = .ok (.if_icmp .ge 30, 3) := by decide +kernel
theorem dX11_errors_47 : decode cX11_errors 47 = .ok (.iload_n 1, 1) := by decide +kernel
theorem dX11_errors_48 : decode cX11_errors 48 = .ok (.aload_n 0, 1) := by decide +kernel
theorem dX11_errors_49 : decode cX11_errors 49 = .ok (.iload_n 2, 1) := by decide +kernel
theorem dX11_errors_50 : decode cX11_errors 50 = .ok (.invokevirtual 139, 3) := by decide +kernel
theorem dX11_errors_53 : decode cX11_errors 53 = .ok (.aload_n 0, 1) := by decide +kernel
theorem dX11_errors_54 : decode cX11_errors 54 = .ok (.iload_n 2, 1) := by decide +kernel
theorem dX11_errors_55 : decode cX11_errors 55 = .ok (.invokevirtual 102, 3) := by decide +kernel
theorem dX11_errors_58 : decode cX11_errors 58 = .ok (.if_icmp .eq 7, 3) := by decide +kernel
theorem dX11_errors_61 : decode cX11_errors 61 = .ok (.iconst 1, 1) := by decide +kernel
theorem dX11_errors_62 : decode cX11_errors 62 = .ok (.goto 4, 3) := by decide +kernel
theorem dX11_errors_65 : decode cX11_errors 65 = .ok (.iconst 0, 1) := by decide +kernel
theorem dX11_errors_66 : decode cX11_errors 66 = .ok (.iadd, 1) := by decide +kernel
theorem dX11_errors_67 : decode cX11_errors 67 = .ok (.istore_n 1, 1) := by decide +kernel
theorem dX11_errors_68 : decode cX11_errors 68 = .ok (.iinc 2 1, 3) := by decide +kernel
theorem dX11_errors_71 : decode cX11_errors 71 = .ok (.goto (-44), 3) := by decide +kernel
theorem dX11_errors_74 : decode cX11_errors 74 = .ok (.iload_n 1, 1) := by decide +kernel
theorem dX11_errors_75 : decode cX11_errors 75 = .ok (.ireturn, 1) := by decide +kernel
theorem dX11_signs_0 : decode cX11_signs 0 = .ok (.aload_n 0, 1) := by decide +kernel
theorem dX11_signs_1 : decode cX11_signs 1 = .ok (.getfield 7, 3) := by decide +kernel
theorem dX11_signs_4 : decode cX11_signs 4 = .ok (.iconst 5, 1) := by decide +kernel
theorem dX11_signs_5 : decode cX11_signs 5 = .ok (.iaload, 1) := by decide +kernel
theorem dX11_signs_6 : decode cX11_signs 6 = .ok (.istore_n 1, 1) := by decide +kernel
theorem dX11_signs_7 : decode cX11_signs 7 = .ok (.aload_n 0, 1) := by decide +kernel
theorem dX11_signs_8 : decode cX11_signs 8 = .ok (.iload_n 1, 1) := by decide +kernel
theorem dX11_signs_9 : decode cX11_signs 9 = .ok (.aload_n 0, 1) := by decide +kernel
theorem dX11_signs_10 : decode cX11_signs 10 = .ok (.getfield 7, 3) := by decide +kernel
theorem dX11_signs_13 : decode cX11_signs 13 = .ok (.iconst 3, 1) := by decide +kernel
theorem dX11_signs_14 : decode cX11_signs 14 = .ok (.iaload, 1) := by decide +kernel
theorem dX11_signs_15 : decode cX11_signs 15 = .ok (.invokevirtual 136, 3) := by decide +kernel
theorem dX11_signs_18 : decode cX11_signs 18 = .ok (.ldc 57, 2) := by decide +kernel
theorem dX11_signs_20 : decode cX11_signs 20 = .ok (.if_icmp .eq 7, 3) := by decide +kernel
theorem dX11_signs_23 : decode cX11_signs 23 = .ok (.iload_n 1, 1) := by decide +kernel
theorem dX11_signs_24 : decode cX11_signs 24 = .ok (.ifCond .ne 7, 3) := by decide +kernel
theorem dX11_signs_27 : decode cX11_signs 27 = .ok (.iconst 0, 1) := by decide +kernel
theorem dX11_signs_28 : decode cX11_signs 28 = .ok (.goto 12, 3) := by decide +kernel
theorem dX11_signs_31 : decode cX11_signs 31 = .ok (.iconst 2, 1) := by decide +kernel
theorem dX11_signs_32 : decode cX11_signs 32 = .ok (.iload_n 1, 1) := by decide +kernel
theorem dX11_signs_33 : decode cX11_signs 33 = .ok (.imul, 1) := by decide +kernel
theorem dX11_signs_34 : decode cX11_signs 34 = .ok (.iload_n 1, 1) := by decide +kernel
theorem dX11_signs_35 : decode cX11_signs 35 = .ok (.iconst 1, 1) := by decide +kernel
theorem dX11_signs_36 : decode cX11_signs 36 = .ok (.isub, 1) := by decide +kernel
theorem dX11_signs_37 : decode cX11_signs 37 = .ok (.iconst 4, 1) := by decide +kernel
theorem dX11_signs_38 : decode cX11_signs 38 = .ok (.idiv, 1) := by decide +kernel
theorem dX11_signs_39 : decode cX11_signs 39 = .ok (.iadd, 1) := by decide +kernel
theorem dX11_signs_40 : decode cX11_signs 40 = .ok (.ireturn, 1) := by decide +kernel
theorem dX11_apartBy_0 : decode cX11_apartBy 0 = .ok (.aload_n 0, 1) := by decide +kernel
theorem dX11_apartBy_1 : decode cX11_apartBy 1 = .ok (.iload_n 1, 1) := by decide +kernel
theorem dX11_apartBy_2 : decode cX11_apartBy 2 = .ok (.iload_n 2, 1) := by decide +kernel
theorem dX11_apartBy_3 : decode cX11_apartBy 3 = .ok (.invokevirtual 94, 3) := by decide +kernel
theorem dX11_apartBy_6 : decode cX11_apartBy 6 = .ok (.istore 5, 2) := by decide +kernel
theorem dX11_apartBy_8 : decode cX11_apartBy 8 = .ok (.aload_n 0, 1) := by decide +kernel
theorem dX11_apartBy_9 : decode cX11_apartBy 9 = .ok (.iload_n 3, 1) := by decide +kernel
theorem dX11_apartBy_10 : decode cX11_apartBy 10 = .ok (.iload 4, 2) := by decide +kernel
theorem dX11_apartBy_12 : decode cX11_apartBy 12 = .ok (.invokevirtual 94, 3) := by decide +kernel
theorem dX11_apartBy_15 : decode cX11_apartBy 15 = .ok (.istore 6, 2) := by decide +kernel
theorem dX11_apartBy_17 : decode cX11_apartBy 17 = .ok (.iload 5, 2) := by decide +kernel
theorem dX11_apartBy_19 : decode cX11_apartBy 19 = .ok (.iload 6, 2) := by decide +kernel
theorem dX11_apartBy_21 : decode cX11_apartBy 21 = .ok (.if_icmp .ne 7, 3) := by decide +kernel
theorem dX11_apartBy_24 : decode cX11_apartBy 24 = .ok (.iconst 0, 1) := by decide +kernel
theorem dX11_apartBy_25 : decode cX11_apartBy 25 = .ok (.goto 10, 3) := by decide +kernel
theorem dX11_apartBy_28 : decode cX11_apartBy 28 = .ok (.iload 5, 2) := by decide +kernel
theorem dX11_apartBy_30 : decode cX11_apartBy 30 = .ok (.iload 6, 2) := by decide +kernel
theorem dX11_apartBy_32 : decode cX11_apartBy 32 = .ok (.invokestatic 142, 3) := by decide +kernel
theorem dX11_apartBy_35 : decode cX11_apartBy 35 = .ok (.ireturn, 1) := by decide +kernel
theorem dX11_free_0 : decode cX11_free 0 = .ok (.ldc 57, 2) := by decide +kernel
theorem dX11_free_2 : decode cX11_free 2 = .ok (.istore_n 1, 1) := by decide +kernel
theorem dX11_free_3 : decode cX11_free 3 = .ok (.iconst 0, 1) := by decide +kernel
theorem dX11_free_4 : decode cX11_free 4 = .ok (.istore_n 2, 1) := by decide +kernel
theorem dX11_free_5 : decode cX11_free 5 = .ok (.iload_n 2, 1) := by decide +kernel
theorem dX11_free_6 : decode cX11_free 6 = .ok (.iconst 4, 1) := by decide +kernel
theorem dX11_free_7 : decode cX11_free 7 = .ok (.if_icmp .ge 26, 3) := by decide +kernel
theorem dX11_free_10 : decode cX11_free 10 = .ok (.iload_n 2, 1) := by decide +kernel
theorem dX11_free_11 : decode cX11_free 11 = .ok (.iload_n 2, 1) := by decide +kernel
theorem dX11_free_12 : decode cX11_free 12 = .ok (.invokestatic 142, 3) := by decide +kernel
theorem dX11_free_15 : decode cX11_free 15 = .ok (.istore_n 3, 1) := by decide +kernel
theorem dX11_free_16 : decode cX11_free 16 = .ok (.iload_n 3, 1) := by decide +kernel
theorem dX11_free_17 : decode cX11_free 17 = .ok (.iload_n 1, 1) := by decide +kernel
theorem dX11_free_18 : decode cX11_free 18 = .ok (.if_icmp .ge 7, 3) := by decide +kernel
theorem dX11_free_21 : decode cX11_free 21 = .ok (.iload_n 3, 1) := by decide +kernel
theorem dX11_free_22 : decode cX11_free 22 = .ok (.goto 4, 3) := by decide +kernel
theorem dX11_free_25 : decode cX11_free 25 = .ok (.iload_n 1, 1) := by decide +kernel
theorem dX11_free_26 : decode cX11_free 26 = .ok (.istore_n 1, 1) := by decide +kernel
theorem dX11_free_27 : decode cX11_free 27 = .ok (.iinc 2 1, 3) := by decide +kernel
theorem dX11_free_30 : decode cX11_free 30 = .ok (.goto (-25), 3) := by decide +kernel
theorem dX11_free_33 : decode cX11_free 33 = .ok (.aload_n 0, 1) := by decide +kernel
theorem dX11_free_34 : decode cX11_free 34 = .ok (.invokevirtual 73, 3) := by decide +kernel
theorem dX11_free_37 : decode cX11_free 37 = .ok (.istore_n 2, 1) := by decide +kernel
theorem dX11_free_38 : decode cX11_free 38 = .ok (.iconst 0, 1) := by decide +kernel
theorem dX11_free_39 : decode cX11_free 39 = .ok (.istore_n 3, 1) := by decide +kernel
theorem dX11_free_40 : decode cX11_free 40 = .ok (.iload_n 3, 1) := by decide +kernel
theorem dX11_free_41 : decode cX11_free 41 = .ok (.bipush 64, 2) := by decide +kernel
theorem dX11_free_43 : decode cX11_free 43 = .ok (.if_icmp .ge 17, 3) := by decide +kernel
theorem dX11_free_46 : decode cX11_free 46 = .ok (.aload_n 0, 1) := by decide +kernel
theorem dX11_free_47 : decode cX11_free 47 = .ok (.getfield 35, 3) := by decide +kernel
theorem dX11_free_50 : decode cX11_free 50 = .ok (.iload_n 3, 1) := by decide +kernel
theorem dX11_free_51 : decode cX11_free 51 = .ok (.ldc 57, 2) := by decide +kernel
theorem dX11_free_53 : decode cX11_free 53 = .ok (.iastore, 1) := by decide +kernel
theorem dX11_free_54 : decode cX11_free 54 = .ok (.iinc 3 1, 3) := by decide +kernel
theorem dX11_free_57 : decode cX11_free 57 = .ok (.goto (-17), 3) := by decide +kernel
theorem dX11_free_60 : decode cX11_free 60 = .ok (.iconst 0, 1) := by decide +kernel
theorem dX11_free_61 : decode cX11_free 61 = .ok (.istore_n 3, 1) := by decide +kernel
theorem dX11_free_62 : decode cX11_free 62 = .ok (.iload_n 3, 1) := by decide +kernel
theorem dX11_free_63 : decode cX11_free 63 = .ok (.iload_n 2, 1) := by decide +kernel
theorem dX11_free_64 : decode cX11_free 64 = .ok (.if_icmp .ge 68, 3) := by decide +kernel
theorem dX11_free_67 : decode cX11_free 67 = .ok (.bipush 8, 2) := by decide +kernel
theorem dX11_free_69 : decode cX11_free 69 = .ok (.aload_n 0, 1) := by decide +kernel
theorem dX11_free_70 : decode cX11_free 70 = .ok (.iload_n 3, 1) := by decide +kernel
theorem dX11_free_71 : decode cX11_free 71 = .ok (.iconst 0, 1) := by decide +kernel
theorem dX11_free_72 : decode cX11_free 72 = .ok (.invokevirtual 88, 3) := by decide +kernel
theorem dX11_free_75 : decode cX11_free 75 = .ok (.imul, 1) := by decide +kernel
theorem dX11_free_76 : decode cX11_free 76 = .ok (.aload_n 0, 1) := by decide +kernel
theorem dX11_free_77 : decode cX11_free 77 = .ok (.iload_n 3, 1) := by decide +kernel
theorem dX11_free_78 : decode cX11_free 78 = .ok (.iconst 1, 1) := by decide +kernel
theorem dX11_free_79 : decode cX11_free 79 = .ok (.invokevirtual 88, 3) := by decide +kernel
theorem dX11_free_82 : decode cX11_free 82 = .ok (.iadd, 1) := by decide +kernel
theorem dX11_free_83 : decode cX11_free 83 = .ok (.istore 4, 2) := by decide +kernel
theorem dX11_free_85 : decode cX11_free 85 = .ok (.aload_n 0, 1) := by decide +kernel
theorem dX11_free_86 : decode cX11_free 86 = .ok (.iload_n 3, 1) := by decide +kernel
theorem dX11_free_87 : decode cX11_free 87 = .ok (.iconst 0, 1) := by decide +kernel
theorem dX11_free_88 : decode cX11_free 88 = .ok (.iload_n 3, 1) := by decide +kernel
theorem dX11_free_89 : decode cX11_free 89 = .ok (.iconst 1, 1) := by decide +kernel
theorem dX11_free_90 : decode cX11_free 90 = .ok (.invokevirtual 145, 3) := by decide +kernel
theorem dX11_free_93 : decode cX11_free 93 = .ok (.istore 5, 2) := by decide +kernel
theorem dX11_free_95 : decode cX11_free 95 = .ok (.aload_n 0, 1) := by decide +kernel
theorem dX11_free_96 : decode cX11_free 96 = .ok (.getfield 35, 3) := by decide +kernel
theorem dX11_free_99 : decode cX11_free 99 = .ok (.iload 4, 2) := by decide +kernel
theorem dX11_free_101 : decode cX11_free 101 = .ok (.iload 5, 2) := by decide +kernel
theorem dX11_free_103 : decode cX11_free 103 = .ok (.aload_n 0, 1) := by decide +kernel
theorem dX11_free_104 : decode cX11_free 104 = .ok (.getfield 35, 3) := by decide +kernel
theorem dX11_free_107 : decode cX11_free 107 = .ok (.iload 4, 2) := by decide +kernel
theorem dX11_free_109 : decode cX11_free 109 = .ok (.iaload, 1) := by decide +kernel
theorem dX11_free_110 : decode cX11_free 110 = .ok (.if_icmp .ge 8, 3) := by decide +kernel
theorem dX11_free_113 : decode cX11_free 113 = .ok (.iload 5, 2) := by decide +kernel
theorem dX11_free_115 : decode cX11_free 115 = .ok (.goto 10, 3) := by decide +kernel
theorem dX11_free_118 : decode cX11_free 118 = .ok (.aload_n 0, 1) := by decide +kernel
theorem dX11_free_119 : decode cX11_free 119 = .ok (.getfield 35, 3) := by decide +kernel
theorem dX11_free_122 : decode cX11_free 122 = .ok (.iload 4, 2) := by decide +kernel
theorem dX11_free_124 : decode cX11_free 124 = .ok (.iaload, 1) := by decide +kernel
theorem dX11_free_125 : decode cX11_free 125 = .ok (.iastore, 1) := by decide +kernel
theorem dX11_free_126 : decode cX11_free 126 = .ok (.iinc 3 1, 3) := by decide +kernel
theorem dX11_free_129 : decode cX11_free 129 = .ok (.goto (-67), 3) := by decide +kernel
theorem dX11_free_132 : decode cX11_free 132 = .ok (.iconst 2, 1) := by decide +kernel
theorem dX11_free_133 : decode cX11_free 133 = .ok (.istore_n 3, 1) := by decide +kernel
theorem dX11_free_134 : decode cX11_free 134 = .ok (.iload_n 3, 1) := by decide +kernel
theorem dX11_free_135 : decode cX11_free 135 = .ok (.bipush 30, 2) := by decide +kernel
theorem dX11_free_137 : decode cX11_free 137 = .ok (.if_icmp .gt 241, 3) := by decide +kernel
theorem dX11_free_140 : decode cX11_free 140 = .ok (.iconst 0, 1) := by decide +kernel
theorem dX11_free_141 : decode cX11_free 141 = .ok (.istore 4, 2) := by decide +kernel
theorem dX11_free_143 : decode cX11_free 143 = .ok (.iload 4, 2) := by decide +kernel
theorem dX11_free_145 : decode cX11_free 145 = .ok (.bipush 64, 2) := by decide +kernel
end
section
theorem dX11_free_147 : decode cX11_free 147 = .ok (.if_icmp .ge 18, 3) := by decide +kernel
theorem dX11_free_150 : decode cX11_free 150 = .ok (.aload_n 0, 1) := by decide +kernel
theorem dX11_free_151 : decode cX11_free 151 = .ok (.getfield 38, 3) := by decide +kernel
theorem dX11_free_154 : decode cX11_free 154 = .ok (.iload 4, 2) := by decide +kernel
theorem dX11_free_156 : decode cX11_free 156 = .ok (.ldc 57, 2) := by decide +kernel
theorem dX11_free_158 : decode cX11_free 158 = .ok (.iastore, 1) := by decide +kernel
theorem dX11_free_159 : decode cX11_free 159 = .ok (.iinc 4 1, 3) := by decide +kernel
theorem dX11_free_162 : decode cX11_free 162 = .ok (.goto (-19), 3) := by decide +kernel
theorem dX11_free_165 : decode cX11_free 165 = .ok (.iconst 0, 1) := by decide +kernel
theorem dX11_free_166 : decode cX11_free 166 = .ok (.istore 4, 2) := by decide +kernel
theorem dX11_free_168 : decode cX11_free 168 = .ok (.iload 4, 2) := by decide +kernel
theorem dX11_free_170 : decode cX11_free 170 = .ok (.bipush 64, 2) := by decide +kernel
theorem dX11_free_172 : decode cX11_free 172 = .ok (.if_icmp .ge 170, 3) := by decide +kernel
theorem dX11_free_175 : decode cX11_free 175 = .ok (.iconst 0, 1) := by decide +kernel
theorem dX11_free_176 : decode cX11_free 176 = .ok (.istore 5, 2) := by decide +kernel
theorem dX11_free_178 : decode cX11_free 178 = .ok (.iload 5, 2) := by decide +kernel
theorem dX11_free_180 : decode cX11_free 180 = .ok (.iconst 4, 1) := by decide +kernel
theorem dX11_free_181 : decode cX11_free 181 = .ok (.if_icmp .ge 155, 3) := by decide +kernel
theorem dX11_free_184 : decode cX11_free 184 = .ok (.aload_n 0, 1) := by decide +kernel
theorem dX11_free_185 : decode cX11_free 185 = .ok (.getfield 35, 3) := by decide +kernel
theorem dX11_free_188 : decode cX11_free 188 = .ok (.iload 4, 2) := by decide +kernel
theorem dX11_free_190 : decode cX11_free 190 = .ok (.iaload, 1) := by decide +kernel
theorem dX11_free_191 : decode cX11_free 191 = .ok (.ldc 57, 2) := by decide +kernel
theorem dX11_free_193 : decode cX11_free 193 = .ok (.if_icmp .ge 143, 3) := by decide +kernel
theorem dX11_free_196 : decode cX11_free 196 = .ok (.aload_n 0, 1) := by decide +kernel
theorem dX11_free_197 : decode cX11_free 197 = .ok (.iload 4, 2) := by decide +kernel
theorem dX11_free_199 : decode cX11_free 199 = .ok (.bipush 8, 2) := by decide +kernel
theorem dX11_free_201 : decode cX11_free 201 = .ok (.idiv, 1) := by decide +kernel
theorem dX11_free_202 : decode cX11_free 202 = .ok (.iload 5, 2) := by decide +kernel
theorem dX11_free_204 : decode cX11_free 204 = .ok (.iconst 2, 1) := by decide +kernel
theorem dX11_free_205 : decode cX11_free 205 = .ok (.idiv, 1) := by decide +kernel
theorem dX11_free_206 : decode cX11_free 206 = .ok (.invokevirtual 88, 3) := by decide +kernel
theorem dX11_free_209 : decode cX11_free 209 = .ok (.istore 6, 2) := by decide +kernel
theorem dX11_free_211 : decode cX11_free 211 = .ok (.aload_n 0, 1) := by decide +kernel
theorem dX11_free_212 : decode cX11_free 212 = .ok (.iload 4, 2) := by decide +kernel
theorem dX11_free_214 : decode cX11_free 214 = .ok (.bipush 8, 2) := by decide +kernel
theorem dX11_free_216 : decode cX11_free 216 = .ok (.irem, 1) := by decide +kernel
theorem dX11_free_217 : decode cX11_free 217 = .ok (.iload 5, 2) := by decide +kernel
theorem dX11_free_219 : decode cX11_free 219 = .ok (.iconst 2, 1) := by decide +kernel
theorem dX11_free_220 : decode cX11_free 220 = .ok (.irem, 1) := by decide +kernel
theorem dX11_free_221 : decode cX11_free 221 = .ok (.invokevirtual 88, 3) := by decide +kernel
theorem dX11_free_224 : decode cX11_free 224 = .ok (.istore 7, 2) := by decide +kernel
theorem dX11_free_226 : decode cX11_free 226 = .ok (.aload_n 0, 1) := by decide +kernel
theorem dX11_free_227 : decode cX11_free 227 = .ok (.getfield 35, 3) := by decide +kernel
theorem dX11_free_230 : decode cX11_free 230 = .ok (.iload 4, 2) := by decide +kernel
theorem dX11_free_232 : decode cX11_free 232 = .ok (.iaload, 1) := by decide +kernel
theorem dX11_free_233 : decode cX11_free 233 = .ok (.aload_n 0, 1) := by decide +kernel
theorem dX11_free_234 : decode cX11_free 234 = .ok (.iload 4, 2) := by decide +kernel
theorem dX11_free_236 : decode cX11_free 236 = .ok (.bipush 8, 2) := by decide +kernel
theorem dX11_free_238 : decode cX11_free 238 = .ok (.idiv, 1) := by decide +kernel
theorem dX11_free_239 : decode cX11_free 239 = .ok (.iload 5, 2) := by decide +kernel
theorem dX11_free_241 : decode cX11_free 241 = .ok (.iconst 2, 1) := by decide +kernel
theorem dX11_free_242 : decode cX11_free 242 = .ok (.idiv, 1) := by decide +kernel
theorem dX11_free_243 : decode cX11_free 243 = .ok (.iload 4, 2) := by decide +kernel
theorem dX11_free_245 : decode cX11_free 245 = .ok (.bipush 8, 2) := by decide +kernel
theorem dX11_free_247 : decode cX11_free 247 = .ok (.irem, 1) := by decide +kernel
theorem dX11_free_248 : decode cX11_free 248 = .ok (.iload 5, 2) := by decide +kernel
theorem dX11_free_250 : decode cX11_free 250 = .ok (.iconst 2, 1) := by decide +kernel
theorem dX11_free_251 : decode cX11_free 251 = .ok (.irem, 1) := by decide +kernel
theorem dX11_free_252 : decode cX11_free 252 = .ok (.invokevirtual 145, 3) := by decide +kernel
theorem dX11_free_255 : decode cX11_free 255 = .ok (.iadd, 1) := by decide +kernel
theorem dX11_free_256 : decode cX11_free 256 = .ok (.istore 8, 2) := by decide +kernel
theorem dX11_free_258 : decode cX11_free 258 = .ok (.iload 6, 2) := by decide +kernel
theorem dX11_free_260 : decode cX11_free 260 = .ok (.iload 7, 2) := by decide +kernel
theorem dX11_free_262 : decode cX11_free 262 = .ok (.if_icmp .ne 19, 3) := by decide +kernel
theorem dX11_free_265 : decode cX11_free 265 = .ok (.iload 8, 2) := by decide +kernel
theorem dX11_free_267 : decode cX11_free 267 = .ok (.iload_n 1, 1) := by decide +kernel
theorem dX11_free_268 : decode cX11_free 268 = .ok (.if_icmp .ge 8, 3) := by decide +kernel
theorem dX11_free_271 : decode cX11_free 271 = .ok (.iload 8, 2) := by decide +kernel
theorem dX11_free_273 : decode cX11_free 273 = .ok (.goto 4, 3) := by decide +kernel
theorem dX11_free_276 : decode cX11_free 276 = .ok (.iload_n 1, 1) := by decide +kernel
theorem dX11_free_277 : decode cX11_free 277 = .ok (.istore_n 1, 1) := by decide +kernel
theorem dX11_free_278 : decode cX11_free 278 = .ok (.goto 52, 3) := by decide +kernel
theorem dX11_free_281 : decode cX11_free 281 = .ok (.aload_n 0, 1) := by decide +kernel
theorem dX11_free_282 : decode cX11_free 282 = .ok (.getfield 38, 3) := by decide +kernel
theorem dX11_free_285 : decode cX11_free 285 = .ok (.bipush 8, 2) := by decide +kernel
theorem dX11_free_287 : decode cX11_free 287 = .ok (.iload 6, 2) := by decide +kernel
theorem dX11_free_289 : decode cX11_free 289 = .ok (.imul, 1) := by decide +kernel
theorem dX11_free_290 : decode cX11_free 290 = .ok (.iload 7, 2) := by decide +kernel
theorem dX11_free_292 : decode cX11_free 292 = .ok (.iadd, 1) := by decide +kernel
theorem dX11_free_293 : decode cX11_free 293 = .ok (.iload 8, 2) := by decide +kernel
theorem dX11_free_295 : decode cX11_free 295 = .ok (.aload_n 0, 1) := by decide +kernel
theorem dX11_free_296 : decode cX11_free 296 = .ok (.getfield 38, 3) := by decide +kernel
theorem dX11_free_299 : decode cX11_free 299 = .ok (.bipush 8, 2) := by decide +kernel
theorem dX11_free_301 : decode cX11_free 301 = .ok (.iload 6, 2) := by decide +kernel
theorem dX11_free_303 : decode cX11_free 303 = .ok (.imul, 1) := by decide +kernel
theorem dX11_free_304 : decode cX11_free 304 = .ok (.iload 7, 2) := by decide +kernel
theorem dX11_free_306 : decode cX11_free 306 = .ok (.iadd, 1) := by decide +kernel
theorem dX11_free_307 : decode cX11_free 307 = .ok (.iaload, 1) := by decide +kernel
theorem dX11_free_308 : decode cX11_free 308 = .ok (.if_icmp .ge 8, 3) := by decide +kernel
theorem dX11_free_311 : decode cX11_free 311 = .ok (.iload 8, 2) := by decide +kernel
theorem dX11_free_313 : decode cX11_free 313 = .ok (.goto 16, 3) := by decide +kernel
theorem dX11_free_316 : decode cX11_free 316 = .ok (.aload_n 0, 1) := by decide +kernel
theorem dX11_free_317 : decode cX11_free 317 = .ok (.getfield 38, 3) := by decide +kernel
theorem dX11_free_320 : decode cX11_free 320 = .ok (.bipush 8, 2) := by decide +kernel
theorem dX11_free_322 : decode cX11_free 322 = .ok (.iload 6, 2) := by decide +kernel
theorem dX11_free_324 : decode cX11_free 324 = .ok (.imul, 1) := by decide +kernel
theorem dX11_free_325 : decode cX11_free 325 = .ok (.iload 7, 2) := by decide +kernel
theorem dX11_free_327 : decode cX11_free 327 = .ok (.iadd, 1) := by decide +kernel
theorem dX11_free_328 : decode cX11_free 328 = .ok (.iaload, 1) := by decide +kernel
theorem dX11_free_329 : decode cX11_free 329 = .ok (.iastore, 1) := by decide +kernel
theorem dX11_free_330 : decode cX11_free 330 = .ok (.iinc 5 1, 3) := by decide +kernel
theorem dX11_free_333 : decode cX11_free 333 = .ok (.goto (-155), 3) := by decide +kernel
theorem dX11_free_336 : decode cX11_free 336 = .ok (.iinc 4 1, 3) := by decide +kernel
theorem dX11_free_339 : decode cX11_free 339 = .ok (.goto (-171), 3) := by decide +kernel
theorem dX11_free_342 : decode cX11_free 342 = .ok (.iconst 0, 1) := by decide +kernel
theorem dX11_free_343 : decode cX11_free 343 = .ok (.istore 4, 2) := by decide +kernel
theorem dX11_free_345 : decode cX11_free 345 = .ok (.iload 4, 2) := by decide +kernel
theorem dX11_free_347 : decode cX11_free 347 = .ok (.bipush 64, 2) := by decide +kernel
theorem dX11_free_349 : decode cX11_free 349 = .ok (.if_icmp .ge 23, 3) := by decide +kernel
theorem dX11_free_352 : decode cX11_free 352 = .ok (.aload_n 0, 1) := by decide +kernel
theorem dX11_free_353 : decode cX11_free 353 = .ok (.getfield 35, 3) := by decide +kernel
theorem dX11_free_356 : decode cX11_free 356 = .ok (.iload 4, 2) := by decide +kernel
theorem dX11_free_358 : decode cX11_free 358 = .ok (.aload_n 0, 1) := by decide +kernel
theorem dX11_free_359 : decode cX11_free 359 = .ok (.getfield 38, 3) := by decide +kernel
theorem dX11_free_362 : decode cX11_free 362 = .ok (.iload 4, 2) := by decide +kernel
theorem dX11_free_364 : decode cX11_free 364 = .ok (.iaload, 1) := by decide +kernel
theorem dX11_free_365 : decode cX11_free 365 = .ok (.iastore, 1) := by decide +kernel
theorem dX11_free_366 : decode cX11_free 366 = .ok (.iinc 4 1, 3) := by decide +kernel
theorem dX11_free_369 : decode cX11_free 369 = .ok (.goto (-24), 3) := by decide +kernel
theorem dX11_free_372 : decode cX11_free 372 = .ok (.iinc 3 1, 3) := by decide +kernel
theorem dX11_free_375 : decode cX11_free 375 = .ok (.goto (-241), 3) := by decide +kernel
theorem dX11_free_378 : decode cX11_free 378 = .ok (.iload_n 1, 1) := by decide +kernel
theorem dX11_free_379 : decode cX11_free 379 = .ok (.ireturn, 1) := by decide +kernel
theorem dX11_isTurning_0 : decode cX11_isTurning 0 = .ok (.aload_n 0, 1) := by decide +kernel
theorem dX11_isTurning_1 : decode cX11_isTurning 1 = .ok (.invokevirtual 73, 3) := by decide +kernel
theorem dX11_isTurning_4 : decode cX11_isTurning 4 = .ok (.istore_n 1, 1) := by decide +kernel
theorem dX11_isTurning_5 : decode cX11_isTurning 5 = .ok (.iconst 0, 1) := by decide +kernel
theorem dX11_isTurning_6 : decode cX11_isTurning 6 = .ok (.istore_n 2, 1) := by decide +kernel
theorem dX11_isTurning_7 : decode cX11_isTurning 7 = .ok (.iload_n 2, 1) := by decide +kernel
theorem dX11_isTurning_8 : decode cX11_isTurning 8 = .ok (.sipush 2048, 3) := by decide +kernel
theorem dX11_isTurning_11 : decode cX11_isTurning 11 = .ok (.if_icmp .ge 16, 3) := by decide +kernel
theorem dX11_isTurning_14 : decode cX11_isTurning 14 = .ok (.aload_n 0, 1) := by decide +kernel
theorem dX11_isTurning_15 : decode cX11_isTurning 15 = .ok (.getfield 41, 3) := by decide +kernel
theorem dX11_isTurning_18 : decode cX11_isTurning 18 = .ok (.iload_n 2, 1) := by decide +kernel
theorem dX11_isTurning_19 : decode cX11_isTurning 19 = .ok (.iconst 0, 1) := by decide +kernel
theorem dX11_isTurning_20 : decode cX11_isTurning 20 = .ok (.bastore, 1) := by decide +kernel
theorem dX11_isTurning_21 : decode cX11_isTurning 21 = .ok (.iinc 2 1, 3) := by decide +kernel
theorem dX11_isTurning_24 : decode cX11_isTurning 24 = .ok (.goto (-17), 3) := by decide +kernel
theorem dX11_isTurning_27 : decode cX11_isTurning 27 = .ok (.iconst 0, 1) := by decide +kernel
theorem dX11_isTurning_28 : decode cX11_isTurning 28 = .ok (.istore_n 2, 1) := by decide +kernel
theorem dX11_isTurning_29 : decode cX11_isTurning 29 = .ok (.iconst 0, 1) := by decide +kernel
theorem dX11_isTurning_30 : decode cX11_isTurning 30 = .ok (.istore_n 3, 1) := by decide +kernel
theorem dX11_isTurning_31 : decode cX11_isTurning 31 = .ok (.iload_n 3, 1) := by decide +kernel
theorem dX11_isTurning_32 : decode cX11_isTurning 32 = .ok (.iload_n 1, 1) := by decide +kernel
theorem dX11_isTurning_33 : decode cX11_isTurning 33 = .ok (.if_icmp .ge 41, 3) := by decide +kernel
theorem dX11_isTurning_36 : decode cX11_isTurning 36 = .ok (.aload_n 0, 1) := by decide +kernel
theorem dX11_isTurning_37 : decode cX11_isTurning 37 = .ok (.getfield 44, 3) := by decide +kernel
theorem dX11_isTurning_40 : decode cX11_isTurning 40 = .ok (.iload_n 2, 1) := by decide +kernel
theorem dX11_isTurning_41 : decode cX11_isTurning 41 = .ok (.sipush 256, 3) := by decide +kernel
theorem dX11_isTurning_44 : decode cX11_isTurning 44 = .ok (.iload_n 3, 1) := by decide +kernel
theorem dX11_isTurning_45 : decode cX11_isTurning 45 = .ok (.imul, 1) := by decide +kernel
theorem dX11_isTurning_46 : decode cX11_isTurning 46 = .ok (.iconst 1, 1) := by decide +kernel
theorem dX11_isTurning_47 : decode cX11_isTurning 47 = .ok (.iload_n 1, 1) := by decide +kernel
theorem dX11_isTurning_48 : decode cX11_isTurning 48 = .ok (.ishl, 1) := by decide +kernel
theorem dX11_isTurning_49 : decode cX11_isTurning 49 = .ok (.iadd, 1) := by decide +kernel
theorem dX11_isTurning_50 : decode cX11_isTurning 50 = .ok (.iconst 1, 1) := by decide +kernel
theorem dX11_isTurning_51 : decode cX11_isTurning 51 = .ok (.isub, 1) := by decide +kernel
theorem dX11_isTurning_52 : decode cX11_isTurning 52 = .ok (.iastore, 1) := by decide +kernel
theorem dX11_isTurning_53 : decode cX11_isTurning 53 = .ok (.aload_n 0, 1) := by decide +kernel
theorem dX11_isTurning_54 : decode cX11_isTurning 54 = .ok (.getfield 41, 3) := by decide +kernel
theorem dX11_isTurning_57 : decode cX11_isTurning 57 = .ok (.aload_n 0, 1) := by decide +kernel
theorem dX11_isTurning_58 : decode cX11_isTurning 58 = .ok (.getfield 44, 3) := by decide +kernel
theorem dX11_isTurning_61 : decode cX11_isTurning 61 = .ok (.iload_n 2, 1) := by decide +kernel
theorem dX11_isTurning_62 : decode cX11_isTurning 62 = .ok (.iaload, 1) := by decide +kernel
theorem dX11_isTurning_63 : decode cX11_isTurning 63 = .ok (.iconst 1, 1) := by decide +kernel
theorem dX11_isTurning_64 : decode cX11_isTurning 64 = .ok (.bastore, 1) := by decide +kernel
theorem dX11_isTurning_65 : decode cX11_isTurning 65 = .ok (.iinc 2 1, 3) := by decide +kernel
theorem dX11_isTurning_68 : decode cX11_isTurning 68 = .ok (.iinc 3 1, 3) := by decide +kernel
theorem dX11_isTurning_71 : decode cX11_isTurning 71 = .ok (.goto (-40), 3) := by decide +kernel
theorem dX11_isTurning_74 : decode cX11_isTurning 74 = .ok (.iconst 0, 1) := by decide +kernel
theorem dX11_isTurning_75 : decode cX11_isTurning 75 = .ok (.istore_n 3, 1) := by decide +kernel
theorem dX11_isTurning_76 : decode cX11_isTurning 76 = .ok (.iload_n 3, 1) := by decide +kernel
theorem dX11_isTurning_77 : decode cX11_isTurning 77 = .ok (.iload_n 2, 1) := by decide +kernel
theorem dX11_isTurning_78 : decode cX11_isTurning 78 = .ok (.if_icmp .ge 199, 3) := by decide +kernel
theorem dX11_isTurning_81 : decode cX11_isTurning 81 = .ok (.aload_n 0, 1) := by decide +kernel
theorem dX11_isTurning_82 : decode cX11_isTurning 82 = .ok (.getfield 44, 3) := by decide +kernel
theorem dX11_isTurning_85 : decode cX11_isTurning 85 = .ok (.iload_n 3, 1) := by decide +kernel
theorem dX11_isTurning_86 : decode cX11_isTurning 86 = .ok (.iaload, 1) := by decide +kernel
theorem dX11_isTurning_87 : decode cX11_isTurning 87 = .ok (.sipush 256, 3) := by decide +kernel
theorem dX11_isTurning_90 : decode cX11_isTurning 90 = .ok (.idiv, 1) := by decide +kernel
theorem dX11_isTurning_91 : decode cX11_isTurning 91 = .ok (.istore 4, 2) := by decide +kernel
theorem dX11_isTurning_93 : decode cX11_isTurning 93 = .ok (.aload_n 0, 1) := by decide +kernel
theorem dX11_isTurning_94 : decode cX11_isTurning 94 = .ok (.getfield 44, 3) := by decide +kernel
theorem dX11_isTurning_97 : decode cX11_isTurning 97 = .ok (.iload_n 3, 1) := by decide +kernel
theorem dX11_isTurning_98 : decode cX11_isTurning 98 = .ok (.iaload, 1) := by decide +kernel
theorem dX11_isTurning_99 : decode cX11_isTurning 99 = .ok (.sipush 256, 3) := by decide +kernel
theorem dX11_isTurning_102 : decode cX11_isTurning 102 = .ok (.irem, 1) := by decide +kernel
theorem dX11_isTurning_103 : decode cX11_isTurning 103 = .ok (.istore 5, 2) := by decide +kernel
theorem dX11_isTurning_105 : decode cX11_isTurning 105 = .ok (.iconst 0, 1) := by decide +kernel
theorem dX11_isTurning_106 : decode cX11_isTurning 106 = .ok (.istore 6, 2) := by decide +kernel
theorem dX11_isTurning_108 : decode cX11_isTurning 108 = .ok (.iload 6, 2) := by decide +kernel
theorem dX11_isTurning_110 : decode cX11_isTurning 110 = .ok (.iconst 2, 1) := by decide +kernel
theorem dX11_isTurning_111 : decode cX11_isTurning 111 = .ok (.if_icmp .ge 160, 3) := by decide +kernel
theorem dX11_isTurning_114 : decode cX11_isTurning 114 = .ok (.aload_n 0, 1) := by decide +kernel
theorem dX11_isTurning_115 : decode cX11_isTurning 115 = .ok (.iload 4, 2) := by decide +kernel
theorem dX11_isTurning_117 : decode cX11_isTurning 117 = .ok (.iload 6, 2) := by decide +kernel
theorem dX11_isTurning_119 : decode cX11_isTurning 119 = .ok (.invokevirtual 94, 3) := by decide +kernel
theorem dX11_isTurning_122 : decode cX11_isTurning 122 = .ok (.invokestatic 148, 3) := by decide +kernel
theorem dX11_isTurning_125 : decode cX11_isTurning 125 = .ok (.istore 7, 2) := by decide +kernel
theorem dX11_isTurning_127 : decode cX11_isTurning 127 = .ok (.iconst 0, 1) := by decide +kernel
theorem dX11_isTurning_128 : decode cX11_isTurning 128 = .ok (.istore 8, 2) := by decide +kernel
theorem dX11_isTurning_130 : decode cX11_isTurning 130 = .ok (.iconst 0, 1) := by decide +kernel
theorem dX11_isTurning_131 : decode cX11_isTurning 131 = .ok (.istore 9, 2) := by decide +kernel
theorem dX11_isTurning_133 : decode cX11_isTurning 133 = .ok (.iload 9, 2) := by decide +kernel
theorem dX11_isTurning_135 : decode cX11_isTurning 135 = .ok (.iconst 2, 1) := by decide +kernel
theorem dX11_isTurning_136 : decode cX11_isTurning 136 = .ok (.iload_n 1, 1) := by decide +kernel
theorem dX11_isTurning_137 : decode cX11_isTurning 137 = .ok (.imul, 1) := by decide +kernel
theorem dX11_isTurning_138 : decode cX11_isTurning 138 = .ok (.if_icmp .ge 74, 3) := by decide +kernel
theorem dX11_isTurning_141 : decode cX11_isTurning 141 = .ok (.iload 5, 2) := by decide +kernel
theorem dX11_isTurning_143 : decode cX11_isTurning 143 = .ok (.iload 9, 2) := by decide +kernel
theorem dX11_isTurning_145 : decode cX11_isTurning 145 = .ok (.iconst 2, 1) := by decide +kernel
theorem dX11_isTurning_146 : decode cX11_isTurning 146 = .ok (.idiv, 1) := by decide +kernel
theorem dX11_isTurning_147 : decode cX11_isTurning 147 = .ok (.ishr, 1) := by decide +kernel
theorem dX11_isTurning_148 : decode cX11_isTurning 148 = .ok (.iconst 1, 1) := by decide +kernel
theorem dX11_isTurning_149 : decode cX11_isTurning 149 = .ok (.iand, 1) := by decide +kernel
theorem dX11_isTurning_150 : decode cX11_isTurning 150 = .ok (.iconst 1, 1) := by decide +kernel
theorem dX11_isTurning_151 : decode cX11_isTurning 151 = .ok (.if_icmp .ne 24, 3) := by decide +kernel
theorem dX11_isTurning_154 : decode cX11_isTurning 154 = .ok (.aload_n 0, 1) := by decide +kernel
theorem dX11_isTurning_155 : decode cX11_isTurning 155 = .ok (.iload 9, 2) := by decide +kernel
theorem dX11_isTurning_157 : decode cX11_isTurning 157 = .ok (.iconst 2, 1) := by decide +kernel
theorem dX11_isTurning_158 : decode cX11_isTurning 158 = .ok (.idiv, 1) := by decide +kernel
theorem dX11_isTurning_159 : decode cX11_isTurning 159 = .ok (.iload 9, 2) := by decide +kernel
theorem dX11_isTurning_161 : decode cX11_isTurning 161 = .ok (.iconst 2, 1) := by decide +kernel
theorem dX11_isTurning_162 : decode cX11_isTurning 162 = .ok (.irem, 1) := by decide +kernel
theorem dX11_isTurning_163 : decode cX11_isTurning 163 = .ok (.invokevirtual 94, 3) := by decide +kernel
theorem dX11_isTurning_166 : decode cX11_isTurning 166 = .ok (.iload 7, 2) := by decide +kernel
theorem dX11_isTurning_168 : decode cX11_isTurning 168 = .ok (.if_icmp .ne 7, 3) := by decide +kernel
theorem dX11_isTurning_171 : decode cX11_isTurning 171 = .ok (.iconst 1, 1) := by decide +kernel
theorem dX11_isTurning_172 : decode cX11_isTurning 172 = .ok (.goto 4, 3) := by decide +kernel
theorem dX11_isTurning_175 : decode cX11_isTurning 175 = .ok (.iconst 0, 1) := by decide +kernel
theorem dX11_isTurning_176 : decode cX11_isTurning 176 = .ok (.istore 10, 2) := by decide +kernel
theorem dX11_isTurning_178 : decode cX11_isTurning 178 = .ok (.iload 8, 2) := by decide +kernel
theorem dX11_isTurning_180 : decode cX11_isTurning 180 = .ok (.iload 10, 2) := by decide +kernel
theorem dX11_isTurning_182 : decode cX11_isTurning 182 = .ok (.ifCond .eq 20, 3) := by decide +kernel
theorem dX11_isTurning_185 : decode cX11_isTurning 185 = .ok (.iconst 1, 1) := by decide +kernel
theorem dX11_isTurning_186 : decode cX11_isTurning 186 = .ok (.aload_n 0, 1) := by decide +kernel
theorem dX11_isTurning_187 : decode cX11_isTurning 187 = .ok (.iload 9, 2) := by decide +kernel
theorem dX11_isTurning_189 : decode cX11_isTurning 189 = .ok (.iconst 2, 1) := by decide +kernel
theorem dX11_isTurning_190 : decode cX11_isTurning 190 = .ok (.idiv, 1) := by decide +kernel
theorem dX11_isTurning_191 : decode cX11_isTurning 191 = .ok (.iload 9, 2) := by decide +kernel
theorem dX11_isTurning_193 : decode cX11_isTurning 193 = .ok (.iconst 2, 1) := by decide +kernel
theorem dX11_isTurning_194 : decode cX11_isTurning 194 = .ok (.irem, 1) := by decide +kernel
theorem dX11_isTurning_195 : decode cX11_isTurning 195 = .ok (.invokevirtual 88, 3) := by decide +kernel
theorem dX11_isTurning_198 : decode cX11_isTurning 198 = .ok (.ishl, 1) := by decide +kernel
theorem dX11_isTurning_199 : decode cX11_isTurning 199 = .ok (.goto 4, 3) := by decide +kernel
theorem dX11_isTurning_202 : decode cX11_isTurning 202 = .ok (.iconst 0, 1) := by decide +kernel
theorem dX11_isTurning_203 : decode cX11_isTurning 203 = .ok (.ior, 1) := by decide +kernel
theorem dX11_isTurning_204 : decode cX11_isTurning 204 = .ok (.istore 8, 2) := by decide +kernel
theorem dX11_isTurning_206 : decode cX11_isTurning 206 = .ok (.iinc 9 1, 3) := by decide +kernel
theorem dX11_isTurning_209 : decode cX11_isTurning 209 = .ok (.goto (-76), 3) := by decide +kernel
theorem dX11_isTurning_212 : decode cX11_isTurning 212 = .ok (.iload 8, 2) := by decide +kernel
theorem dX11_isTurning_214 : decode cX11_isTurning 214 = .ok (.ifCond .ne 5, 3) := by decide +kernel
theorem dX11_isTurning_217 : decode cX11_isTurning 217 = .ok (.iconst 0, 1) := by decide +kernel
theorem dX11_isTurning_218 : decode cX11_isTurning 218 = .ok (.ireturn, 1) := by decide +kernel
theorem dX11_isTurning_219 : decode cX11_isTurning 219 = .ok (.sipush 256, 3) := by decide +kernel
theorem dX11_isTurning_222 : decode cX11_isTurning 222 = .ok (.aload_n 0, 1) := by decide +kernel
theorem dX11_isTurning_223 : decode cX11_isTurning 223 = .ok (.iload 4, 2) := by decide +kernel
theorem dX11_isTurning_225 : decode cX11_isTurning 225 = .ok (.iload 6, 2) := by decide +kernel
theorem dX11_isTurning_227 : decode cX11_isTurning 227 = .ok (.invokevirtual 88, 3) := by decide +kernel
theorem dX11_isTurning_230 : decode cX11_isTurning 230 = .ok (.imul, 1) := by decide +kernel
theorem dX11_isTurning_231 : decode cX11_isTurning 231 = .ok (.iload 8, 2) := by decide +kernel
theorem dX11_isTurning_233 : decode cX11_isTurning 233 = .ok (.iadd, 1) := by decide +kernel
theorem dX11_isTurning_234 : decode cX11_isTurning 234 = .ok (.istore 9, 2) := by decide +kernel
theorem dX11_isTurning_236 : decode cX11_isTurning 236 = .ok (.aload_n 0, 1) := by decide +kernel
theorem dX11_isTurning_237 : decode cX11_isTurning 237 = .ok (.getfield 41, 3) := by decide +kernel
theorem dX11_isTurning_240 : decode cX11_isTurning 240 = .ok (.iload 9, 2) := by decide +kernel
theorem dX11_isTurning_242 : decode cX11_isTurning 242 = .ok (.baload, 1) := by decide +kernel
theorem dX11_isTurning_243 : decode cX11_isTurning 243 = .ok (.ifCond .ne 22, 3) := by decide +kernel
theorem dX11_isTurning_246 : decode cX11_isTurning 246 = .ok (.aload_n 0, 1) := by decide +kernel
theorem dX11_isTurning_247 : decode cX11_isTurning 247 = .ok (.getfield 41, 3) := by decide +kernel
theorem dX11_isTurning_250 : decode cX11_isTurning 250 = .ok (.iload 9, 2) := by decide +kernel
theorem dX11_isTurning_252 : decode cX11_isTurning 252 = .ok (.iconst 1, 1) := by decide +kernel
theorem dX11_isTurning_253 : decode cX11_isTurning 253 = .ok (.bastore, 1) := by decide +kernel
theorem dX11_isTurning_254 : decode cX11_isTurning 254 = .ok (.aload_n 0, 1) := by decide +kernel
theorem dX11_isTurning_255 : decode cX11_isTurning 255 = .ok (.getfield 44, 3) := by decide +kernel
theorem dX11_isTurning_258 : decode cX11_isTurning 258 = .ok (.iload_n 2, 1) := by decide +kernel
theorem dX11_isTurning_259 : decode cX11_isTurning 259 = .ok (.iload 9, 2) := by decide +kernel
theorem dX11_isTurning_261 : decode cX11_isTurning 261 = .ok (.iastore, 1) := by decide +kernel
theorem dX11_isTurning_262 : decode cX11_isTurning 262 = .ok (.iinc 2 1, 3) := by decide +kernel
theorem dX11_isTurning_265 : decode cX11_isTurning 265 = .ok (.iinc 6 1, 3) := by decide +kernel
theorem dX11_isTurning_268 : decode cX11_isTurning 268 = .ok (.goto (-160), 3) := by decide +kernel
theorem dX11_isTurning_271 : decode cX11_isTurning 271 = .ok (.iinc 3 1, 3) := by decide +kernel
theorem dX11_isTurning_274 : decode cX11_isTurning 274 = .ok (.goto (-198), 3) := by decide +kernel
theorem dX11_isTurning_277 : decode cX11_isTurning 277 = .ok (.iconst 1, 1) := by decide +kernel
theorem dX11_isTurning_278 : decode cX11_isTurning 278 = .ok (.ireturn, 1) := by decide +kernel
theorem dX11_told_0 : decode cX11_told 0 = .ok (.iload_n 1, 1) := by decide +kernel
theorem dX11_told_1 : decode cX11_told 1 = .ok (.tableswitch 165 0 13 #[71, 71, 71, 78, 83, 90, 97, 108, 115, 132, 137, 142, 155, 160], 71) := by decide +kernel
theorem dX11_told_72 : decode cX11_told 72 = .ok (.aload_n 0, 1) := by decide +kernel
theorem dX11_told_73 : decode cX11_told 73 = .ok (.getfield 7, 3) := by decide +kernel
theorem dX11_told_76 : decode cX11_told 76 = .ok (.iload_n 1, 1) := by decide +kernel
theorem dX11_told_77 : decode cX11_told 77 = .ok (.iaload, 1) := by decide +kernel
theorem dX11_told_78 : decode cX11_told 78 = .ok (.ireturn, 1) := by decide +kernel
theorem dX11_told_79 : decode cX11_told 79 = .ok (.aload_n 0, 1) := by decide +kernel
theorem dX11_told_80 : decode cX11_told 80 = .ok (.invokevirtual 73, 3) := by decide +kernel
theorem dX11_told_83 : decode cX11_told 83 = .ok (.ireturn, 1) := by decide +kernel
theorem dX11_told_84 : decode cX11_told 84 = .ok (.aload_n 0, 1) := by decide +kernel
theorem dX11_told_85 : decode cX11_told 85 = .ok (.getfield 7, 3) := by decide +kernel
theorem dX11_told_88 : decode cX11_told 88 = .ok (.iconst 4, 1) := by decide +kernel
theorem dX11_told_89 : decode cX11_told 89 = .ok (.iaload, 1) := by decide +kernel
theorem dX11_told_90 : decode cX11_told 90 = .ok (.ireturn, 1) := by decide +kernel
theorem dX11_told_91 : decode cX11_told 91 = .ok (.aload_n 0, 1) := by decide +kernel
theorem dX11_told_92 : decode cX11_told 92 = .ok (.getfield 7, 3) := by decide +kernel
theorem dX11_told_95 : decode cX11_told 95 = .ok (.iconst 5, 1) := by decide +kernel
theorem dX11_told_96 : decode cX11_told 96 = .ok (.iaload, 1) := by decide +kernel
theorem dX11_told_97 : decode cX11_told 97 = .ok (.ireturn, 1) := by decide +kernel
theorem dX11_told_98 : decode cX11_told 98 = .ok (.aload_n 0, 1) := by decide +kernel
theorem dX11_told_99 : decode cX11_told 99 = .ok (.aload_n 0, 1) := by decide +kernel
theorem dX11_told_100 : decode cX11_told 100 = .ok (.getfield 7, 3) := by decide +kernel
theorem dX11_told_103 : decode cX11_told 103 = .ok (.iconst 4, 1) := by decide +kernel
theorem dX11_told_104 : decode cX11_told 104 = .ok (.iaload, 1) := by decide +kernel
theorem dX11_told_105 : decode cX11_told 105 = .ok (.invokevirtual 91, 3) := by decide +kernel
theorem dX11_told_108 : decode cX11_told 108 = .ok (.ireturn, 1) := by decide +kernel
theorem dX11_told_109 : decode cX11_told 109 = .ok (.aload_n 0, 1) := by decide +kernel
theorem dX11_told_110 : decode cX11_told 110 = .ok (.getfield 7, 3) := by decide +kernel
theorem dX11_told_113 : decode cX11_told 113 = .ok (.iconst 3, 1) := by decide +kernel
theorem dX11_told_114 : decode cX11_told 114 = .ok (.iaload, 1) := by decide +kernel
theorem dX11_told_115 : decode cX11_told 115 = .ok (.ireturn, 1) := by decide +kernel
theorem dX11_told_116 : decode cX11_told 116 = .ok (.aload_n 0, 1) := by decide +kernel
theorem dX11_told_117 : decode cX11_told 117 = .ok (.aload_n 0, 1) := by decide +kernel
theorem dX11_told_118 : decode cX11_told 118 = .ok (.getfield 7, 3) := by decide +kernel
theorem dX11_told_121 : decode cX11_told 121 = .ok (.iconst 5, 1) := by decide +kernel
theorem dX11_told_122 : decode cX11_told 122 = .ok (.iaload, 1) := by decide +kernel
theorem dX11_told_123 : decode cX11_told 123 = .ok (.aload_n 0, 1) := by decide +kernel
theorem dX11_told_124 : decode cX11_told 124 = .ok (.getfield 7, 3) := by decide +kernel
theorem dX11_told_127 : decode cX11_told 127 = .ok (.iconst 3, 1) := by decide +kernel
theorem dX11_told_128 : decode cX11_told 128 = .ok (.iaload, 1) := by decide +kernel
theorem dX11_told_129 : decode cX11_told 129 = .ok (.invokevirtual 136, 3) := by decide +kernel
theorem dX11_told_132 : decode cX11_told 132 = .ok (.ireturn, 1) := by decide +kernel
theorem dX11_told_133 : decode cX11_told 133 = .ok (.aload_n 0, 1) := by decide +kernel
theorem dX11_told_134 : decode cX11_told 134 = .ok (.invokevirtual 151, 3) := by decide +kernel
theorem dX11_told_137 : decode cX11_told 137 = .ok (.ireturn, 1) := by decide +kernel
theorem dX11_told_138 : decode cX11_told 138 = .ok (.aload_n 0, 1) := by decide +kernel
theorem dX11_told_139 : decode cX11_told 139 = .ok (.invokevirtual 154, 3) := by decide +kernel
theorem dX11_told_142 : decode cX11_told 142 = .ok (.ireturn, 1) := by decide +kernel
theorem dX11_told_143 : decode cX11_told 143 = .ok (.aload_n 0, 1) := by decide +kernel
theorem dX11_told_144 : decode cX11_told 144 = .ok (.invokevirtual 157, 3) := by decide +kernel
theorem dX11_told_147 : decode cX11_told 147 = .ok (.ifCond .eq 7, 3) := by decide +kernel
theorem dX11_told_150 : decode cX11_told 150 = .ok (.iconst 1, 1) := by decide +kernel
theorem dX11_told_151 : decode cX11_told 151 = .ok (.goto 4, 3) := by decide +kernel
theorem dX11_told_154 : decode cX11_told 154 = .ok (.iconst 0, 1) := by decide +kernel
theorem dX11_told_155 : decode cX11_told 155 = .ok (.ireturn, 1) := by decide +kernel
theorem dX11_told_156 : decode cX11_told 156 = .ok (.aload_n 0, 1) := by decide +kernel
theorem dX11_told_157 : decode cX11_told 157 = .ok (.invokevirtual 161, 3) := by decide +kernel
theorem dX11_told_160 : decode cX11_told 160 = .ok (.ireturn, 1) := by decide +kernel
theorem dX11_told_161 : decode cX11_told 161 = .ok (.aload_n 0, 1) := by decide +kernel
theorem dX11_told_162 : decode cX11_told 162 = .ok (.getfield 80, 3) := by decide +kernel
theorem dX11_told_165 : decode cX11_told 165 = .ok (.ireturn, 1) := by decide +kernel
theorem dX11_told_166 : decode cX11_told 166 = .ok (.ldc 84, 2) := by decide +kernel
theorem dX11_told_168 : decode cX11_told 168 = .ok (.ireturn, 1) := by decide +kernel
theorem dX11_point_0 : decode cX11_point 0 = .ok (.iload_n 1, 1) := by decide +kernel
theorem dX11_point_1 : decode cX11_point 1 = .ok (.invokestatic 164, 3) := by decide +kernel
theorem dX11_point_4 : decode cX11_point 4 = .ok (.ifCond .ne 6, 3) := by decide +kernel
theorem dX11_point_7 : decode cX11_point 7 = .ok (.ldc 127, 2) := by decide +kernel
theorem dX11_point_9 : decode cX11_point 9 = .ok (.ireturn, 1) := by decide +kernel
theorem dX11_point_10 : decode cX11_point 10 = .ok (.iload_n 2, 1) := by decide +kernel
theorem dX11_point_11 : decode cX11_point 11 = .ok (.tableswitch 58 0 4 #[33, 38, 43, 48, 53], 33) := by decide +kernel
theorem dX11_point_44 : decode cX11_point 44 = .ok (.iload_n 1, 1) := by decide +kernel
theorem dX11_point_45 : decode cX11_point 45 = .ok (.invokestatic 51, 3) := by decide +kernel
theorem dX11_point_48 : decode cX11_point 48 = .ok (.ireturn, 1) := by decide +kernel
theorem dX11_point_49 : decode cX11_point 49 = .ok (.iload_n 1, 1) := by decide +kernel
theorem dX11_point_50 : decode cX11_point 50 = .ok (.invokestatic 54, 3) := by decide +kernel
theorem dX11_point_53 : decode cX11_point 53 = .ok (.ireturn, 1) := by decide +kernel
theorem dX11_point_54 : decode cX11_point 54 = .ok (.iload_n 1, 1) := by decide +kernel
theorem dX11_point_55 : decode cX11_point 55 = .ok (.invokestatic 47, 3) := by decide +kernel
theorem dX11_point_58 : decode cX11_point 58 = .ok (.ireturn, 1) := by decide +kernel
theorem dX11_point_59 : decode cX11_point 59 = .ok (.iload_n 1, 1) := by decide +kernel
theorem dX11_point_60 : decode cX11_point 60 = .ok (.invokestatic 167, 3) := by decide +kernel
theorem dX11_point_63 : decode cX11_point 63 = .ok (.ireturn, 1) := by decide +kernel
theorem dX11_point_64 : decode cX11_point 64 = .ok (.iload_n 1, 1) := by decide +kernel
theorem dX11_point_65 : decode cX11_point 65 = .ok (.invokestatic 66, 3) := by decide +kernel
theorem dX11_point_68 : decode cX11_point 68 = .ok (.ireturn, 1) := by decide +kernel
theorem dX11_point_69 : decode cX11_point 69 = .ok (.ldc 84, 2) := by decide +kernel
theorem dX11_point_71 : decode cX11_point 71 = .ok (.ireturn, 1) := by decide +kernel
theorem dX11_member_0 : decode cX11_member 0 = .ok (.iload_n 1, 1) := by decide +kernel
theorem dX11_member_1 : decode cX11_member 1 = .ok (.invokestatic 170, 3) := by decide +kernel
theorem dX11_member_4 : decode cX11_member 4 = .ok (.ifCond .ne 8, 3) := by decide +kernel
theorem dX11_member_7 : decode cX11_member 7 = .ok (.ldc 127, 2) := by decide +kernel
theorem dX11_member_9 : decode cX11_member 9 = .ok (.goto 22, 3) := by decide +kernel
theorem dX11_member_12 : decode cX11_member 12 = .ok (.iload_n 2, 1) := by decide +kernel
theorem dX11_member_13 : decode cX11_member 13 = .ok (.iconst 0, 1) := by decide +kernel
theorem dX11_member_14 : decode cX11_member 14 = .ok (.iconst 3, 1) := by decide +kernel
theorem dX11_member_15 : decode cX11_member 15 = .ok (.invokestatic 69, 3) := by decide +kernel
theorem dX11_member_18 : decode cX11_member 18 = .ok (.ifCond .eq 11, 3) := by decide +kernel
theorem dX11_member_21 : decode cX11_member 21 = .ok (.iload_n 1, 1) := by decide +kernel
theorem dX11_member_22 : decode cX11_member 22 = .ok (.iload_n 2, 1) := by decide +kernel
theorem dX11_member_23 : decode cX11_member 23 = .ok (.invokestatic 62, 3) := by decide +kernel
theorem dX11_member_26 : decode cX11_member 26 = .ok (.goto 5, 3) := by decide +kernel
theorem dX11_member_29 : decode cX11_member 29 = .ok (.ldc 84, 2) := by decide +kernel
theorem dX11_member_31 : decode cX11_member 31 = .ok (.ireturn, 1) := by decide +kernel
theorem dX11_apart_0 : decode cX11_apart 0 = .ok (.iload_n 1, 1) := by decide +kernel
theorem dX11_apart_1 : decode cX11_apart 1 = .ok (.invokestatic 170, 3) := by decide +kernel
theorem dX11_apart_4 : decode cX11_apart 4 = .ok (.ifCond .eq 18, 3) := by decide +kernel
theorem dX11_apart_7 : decode cX11_apart 7 = .ok (.iload_n 2, 1) := by decide +kernel
theorem dX11_apart_8 : decode cX11_apart 8 = .ok (.invokestatic 170, 3) := by decide +kernel
theorem dX11_apart_11 : decode cX11_apart 11 = .ok (.ifCond .eq 11, 3) := by decide +kernel
theorem dX11_apart_14 : decode cX11_apart 14 = .ok (.iload_n 1, 1) := by decide +kernel
theorem dX11_apart_15 : decode cX11_apart 15 = .ok (.iload_n 2, 1) := by decide +kernel
theorem dX11_apart_16 : decode cX11_apart 16 = .ok (.invokestatic 142, 3) := by decide +kernel
theorem dX11_apart_19 : decode cX11_apart 19 = .ok (.goto 5, 3) := by decide +kernel
end
section
theorem dX11_apart_22 : decode cX11_apart 22 = .ok (.ldc 127, 2) := by decide +kernel
theorem dX11_apart_24 : decode cX11_apart 24 = .ok (.ireturn, 1) := by decide +kernel
theorem dX11_distance_0 : decode cX11_distance 0 = .ok (.iload_n 1, 1) := by decide +kernel
theorem dX11_distance_1 : decode cX11_distance 1 = .ok (.invokestatic 164, 3) := by decide +kernel
theorem dX11_distance_4 : decode cX11_distance 4 = .ok (.ifCond .eq 30, 3) := by decide +kernel
theorem dX11_distance_7 : decode cX11_distance 7 = .ok (.iload_n 2, 1) := by decide +kernel
theorem dX11_distance_8 : decode cX11_distance 8 = .ok (.invokestatic 164, 3) := by decide +kernel
theorem dX11_distance_11 : decode cX11_distance 11 = .ok (.ifCond .eq 23, 3) := by decide +kernel
theorem dX11_distance_14 : decode cX11_distance 14 = .ok (.iload_n 1, 1) := by decide +kernel
theorem dX11_distance_15 : decode cX11_distance 15 = .ok (.iload_n 2, 1) := by decide +kernel
theorem dX11_distance_16 : decode cX11_distance 16 = .ok (.if_icmp .eq 18, 3) := by decide +kernel
theorem dX11_distance_19 : decode cX11_distance 19 = .ok (.iload_n 1, 1) := by decide +kernel
theorem dX11_distance_20 : decode cX11_distance 20 = .ok (.iload_n 2, 1) := by decide +kernel
theorem dX11_distance_21 : decode cX11_distance 21 = .ok (.invokestatic 51, 3) := by decide +kernel
theorem dX11_distance_24 : decode cX11_distance 24 = .ok (.iload_n 2, 1) := by decide +kernel
theorem dX11_distance_25 : decode cX11_distance 25 = .ok (.invokestatic 54, 3) := by decide +kernel
theorem dX11_distance_28 : decode cX11_distance 28 = .ok (.invokestatic 58, 3) := by decide +kernel
theorem dX11_distance_31 : decode cX11_distance 31 = .ok (.goto 5, 3) := by decide +kernel
theorem dX11_distance_34 : decode cX11_distance 34 = .ok (.ldc 127, 2) := by decide +kernel
theorem dX11_distance_36 : decode cX11_distance 36 = .ok (.ireturn, 1) := by decide +kernel
theorem dX11_turned_0 : decode cX11_turned 0 = .ok (.iload_n 1, 1) := by decide +kernel
theorem dX11_turned_1 : decode cX11_turned 1 = .ok (.invokestatic 170, 3) := by decide +kernel
theorem dX11_turned_4 : decode cX11_turned 4 = .ok (.ifCond .eq 10, 3) := by decide +kernel
theorem dX11_turned_7 : decode cX11_turned 7 = .ok (.iload_n 1, 1) := by decide +kernel
theorem dX11_turned_8 : decode cX11_turned 8 = .ok (.invokestatic 148, 3) := by decide +kernel
theorem dX11_turned_11 : decode cX11_turned 11 = .ok (.goto 5, 3) := by decide +kernel
theorem dX11_turned_14 : decode cX11_turned 14 = .ok (.ldc 127, 2) := by decide +kernel
theorem dX11_turned_16 : decode cX11_turned 16 = .ok (.ireturn, 1) := by decide +kernel
theorem dX11_next_0 : decode cX11_next 0 = .ok (.aload_n 0, 1) := by decide +kernel
theorem dX11_next_1 : decode cX11_next 1 = .ok (.iload_n 1, 1) := by decide +kernel
theorem dX11_next_2 : decode cX11_next 2 = .ok (.invokevirtual 123, 3) := by decide +kernel
theorem dX11_next_5 : decode cX11_next 5 = .ok (.ifCond .ne 6, 3) := by decide +kernel
theorem dX11_next_8 : decode cX11_next 8 = .ok (.ldc 127, 2) := by decide +kernel
theorem dX11_next_10 : decode cX11_next 10 = .ok (.ireturn, 1) := by decide +kernel
theorem dX11_next_11 : decode cX11_next 11 = .ok (.iload_n 2, 1) := by decide +kernel
theorem dX11_next_12 : decode cX11_next 12 = .ok (.iconst 0, 1) := by decide +kernel
theorem dX11_next_13 : decode cX11_next 13 = .ok (.iconst 1, 1) := by decide +kernel
theorem dX11_next_14 : decode cX11_next 14 = .ok (.invokestatic 69, 3) := by decide +kernel
theorem dX11_next_17 : decode cX11_next 17 = .ok (.ifCond .eq 12, 3) := by decide +kernel
theorem dX11_next_20 : decode cX11_next 20 = .ok (.iload_n 3, 1) := by decide +kernel
theorem dX11_next_21 : decode cX11_next 21 = .ok (.iconst 0, 1) := by decide +kernel
theorem dX11_next_22 : decode cX11_next 22 = .ok (.iconst 1, 1) := by decide +kernel
theorem dX11_next_23 : decode cX11_next 23 = .ok (.invokestatic 69, 3) := by decide +kernel
theorem dX11_next_26 : decode cX11_next 26 = .ok (.ifCond .ne 6, 3) := by decide +kernel
theorem dX11_next_29 : decode cX11_next 29 = .ok (.ldc 84, 2) := by decide +kernel
theorem dX11_next_31 : decode cX11_next 31 = .ok (.ireturn, 1) := by decide +kernel
theorem dX11_next_32 : decode cX11_next 32 = .ok (.iload_n 3, 1) := by decide +kernel
theorem dX11_next_33 : decode cX11_next 33 = .ok (.ifCond .ne 12, 3) := by decide +kernel
theorem dX11_next_36 : decode cX11_next 36 = .ok (.aload_n 0, 1) := by decide +kernel
theorem dX11_next_37 : decode cX11_next 37 = .ok (.iload_n 1, 1) := by decide +kernel
theorem dX11_next_38 : decode cX11_next 38 = .ok (.iload_n 2, 1) := by decide +kernel
theorem dX11_next_39 : decode cX11_next 39 = .ok (.invokevirtual 94, 3) := by decide +kernel
theorem dX11_next_42 : decode cX11_next 42 = .ok (.goto 9, 3) := by decide +kernel
theorem dX11_next_45 : decode cX11_next 45 = .ok (.aload_n 0, 1) := by decide +kernel
theorem dX11_next_46 : decode cX11_next 46 = .ok (.iload_n 1, 1) := by decide +kernel
theorem dX11_next_47 : decode cX11_next 47 = .ok (.iload_n 2, 1) := by decide +kernel
theorem dX11_next_48 : decode cX11_next 48 = .ok (.invokevirtual 88, 3) := by decide +kernel
theorem dX11_next_51 : decode cX11_next 51 = .ok (.ireturn, 1) := by decide +kernel
theorem dX11_sent_0 : decode cX11_sent 0 = .ok (.iload_n 1, 1) := by decide +kernel
theorem dX11_sent_1 : decode cX11_sent 1 = .ok (.iconst 0, 1) := by decide +kernel
theorem dX11_sent_2 : decode cX11_sent 2 = .ok (.aload_n 0, 1) := by decide +kernel
theorem dX11_sent_3 : decode cX11_sent 3 = .ok (.getfield 7, 3) := by decide +kernel
theorem dX11_sent_6 : decode cX11_sent 6 = .ok (.iconst 4, 1) := by decide +kernel
theorem dX11_sent_7 : decode cX11_sent 7 = .ok (.iaload, 1) := by decide +kernel
theorem dX11_sent_8 : decode cX11_sent 8 = .ok (.iconst 1, 1) := by decide +kernel
theorem dX11_sent_9 : decode cX11_sent 9 = .ok (.isub, 1) := by decide +kernel
theorem dX11_sent_10 : decode cX11_sent 10 = .ok (.invokestatic 69, 3) := by decide +kernel
theorem dX11_sent_13 : decode cX11_sent 13 = .ok (.ifCond .ne 6, 3) := by decide +kernel
theorem dX11_sent_16 : decode cX11_sent 16 = .ok (.ldc 127, 2) := by decide +kernel
theorem dX11_sent_18 : decode cX11_sent 18 = .ok (.ireturn, 1) := by decide +kernel
theorem dX11_sent_19 : decode cX11_sent 19 = .ok (.iload_n 2, 1) := by decide +kernel
theorem dX11_sent_20 : decode cX11_sent 20 = .ok (.tableswitch 60 0 3 #[32, 32, 46, 52], 32) := by decide +kernel
theorem dX11_sent_52 : decode cX11_sent 52 = .ok (.aload_n 0, 1) := by decide +kernel
theorem dX11_sent_53 : decode cX11_sent 53 = .ok (.getfield 7, 3) := by decide +kernel
theorem dX11_sent_56 : decode cX11_sent 56 = .ok (.bipush 6, 2) := by decide +kernel
theorem dX11_sent_58 : decode cX11_sent 58 = .ok (.iconst 2, 1) := by decide +kernel
theorem dX11_sent_59 : decode cX11_sent 59 = .ok (.iload_n 1, 1) := by decide +kernel
theorem dX11_sent_60 : decode cX11_sent 60 = .ok (.imul, 1) := by decide +kernel
theorem dX11_sent_61 : decode cX11_sent 61 = .ok (.iadd, 1) := by decide +kernel
theorem dX11_sent_62 : decode cX11_sent 62 = .ok (.iload_n 2, 1) := by decide +kernel
theorem dX11_sent_63 : decode cX11_sent 63 = .ok (.iadd, 1) := by decide +kernel
theorem dX11_sent_64 : decode cX11_sent 64 = .ok (.iaload, 1) := by decide +kernel
theorem dX11_sent_65 : decode cX11_sent 65 = .ok (.ireturn, 1) := by decide +kernel
theorem dX11_sent_66 : decode cX11_sent 66 = .ok (.aload_n 0, 1) := by decide +kernel
theorem dX11_sent_67 : decode cX11_sent 67 = .ok (.iload_n 1, 1) := by decide +kernel
theorem dX11_sent_68 : decode cX11_sent 68 = .ok (.invokevirtual 102, 3) := by decide +kernel
theorem dX11_sent_71 : decode cX11_sent 71 = .ok (.ireturn, 1) := by decide +kernel
theorem dX11_sent_72 : decode cX11_sent 72 = .ok (.aload_n 0, 1) := by decide +kernel
theorem dX11_sent_73 : decode cX11_sent 73 = .ok (.iload_n 1, 1) := by decide +kernel
theorem dX11_sent_74 : decode cX11_sent 74 = .ok (.iconst 1, 1) := by decide +kernel
theorem dX11_sent_75 : decode cX11_sent 75 = .ok (.iadd, 1) := by decide +kernel
theorem dX11_sent_76 : decode cX11_sent 76 = .ok (.invokevirtual 91, 3) := by decide +kernel
theorem dX11_sent_79 : decode cX11_sent 79 = .ok (.ireturn, 1) := by decide +kernel
theorem dX11_sent_80 : decode cX11_sent 80 = .ok (.ldc 84, 2) := by decide +kernel
theorem dX11_sent_82 : decode cX11_sent 82 = .ok (.ireturn, 1) := by decide +kernel
theorem dX11_heard_0 : decode cX11_heard 0 = .ok (.iload_n 1, 1) := by decide +kernel
theorem dX11_heard_1 : decode cX11_heard 1 = .ok (.iconst 0, 1) := by decide +kernel
theorem dX11_heard_2 : decode cX11_heard 2 = .ok (.aload_n 0, 1) := by decide +kernel
theorem dX11_heard_3 : decode cX11_heard 3 = .ok (.getfield 7, 3) := by decide +kernel
theorem dX11_heard_6 : decode cX11_heard 6 = .ok (.iconst 5, 1) := by decide +kernel
theorem dX11_heard_7 : decode cX11_heard 7 = .ok (.iaload, 1) := by decide +kernel
theorem dX11_heard_8 : decode cX11_heard 8 = .ok (.iconst 1, 1) := by decide +kernel
theorem dX11_heard_9 : decode cX11_heard 9 = .ok (.isub, 1) := by decide +kernel
theorem dX11_heard_10 : decode cX11_heard 10 = .ok (.invokestatic 69, 3) := by decide +kernel
theorem dX11_heard_13 : decode cX11_heard 13 = .ok (.ifCond .ne 6, 3) := by decide +kernel
theorem dX11_heard_16 : decode cX11_heard 16 = .ok (.ldc 127, 2) := by decide +kernel
theorem dX11_heard_18 : decode cX11_heard 18 = .ok (.ireturn, 1) := by decide +kernel
theorem dX11_heard_19 : decode cX11_heard 19 = .ok (.iload_n 2, 1) := by decide +kernel
theorem dX11_heard_20 : decode cX11_heard 20 = .ok (.iconst 0, 1) := by decide +kernel
theorem dX11_heard_21 : decode cX11_heard 21 = .ok (.iconst 2, 1) := by decide +kernel
theorem dX11_heard_22 : decode cX11_heard 22 = .ok (.invokestatic 69, 3) := by decide +kernel
theorem dX11_heard_25 : decode cX11_heard 25 = .ok (.ifCond .ne 6, 3) := by decide +kernel
theorem dX11_heard_28 : decode cX11_heard 28 = .ok (.ldc 84, 2) := by decide +kernel
theorem dX11_heard_30 : decode cX11_heard 30 = .ok (.ireturn, 1) := by decide +kernel
theorem dX11_heard_31 : decode cX11_heard 31 = .ok (.iload_n 2, 1) := by decide +kernel
theorem dX11_heard_32 : decode cX11_heard 32 = .ok (.iconst 2, 1) := by decide +kernel
theorem dX11_heard_33 : decode cX11_heard 33 = .ok (.if_icmp .ge 17, 3) := by decide +kernel
theorem dX11_heard_36 : decode cX11_heard 36 = .ok (.aload_n 0, 1) := by decide +kernel
theorem dX11_heard_37 : decode cX11_heard 37 = .ok (.getfield 7, 3) := by decide +kernel
theorem dX11_heard_40 : decode cX11_heard 40 = .ok (.bipush 54, 2) := by decide +kernel
theorem dX11_heard_42 : decode cX11_heard 42 = .ok (.iconst 2, 1) := by decide +kernel
theorem dX11_heard_43 : decode cX11_heard 43 = .ok (.iload_n 1, 1) := by decide +kernel
theorem dX11_heard_44 : decode cX11_heard 44 = .ok (.imul, 1) := by decide +kernel
theorem dX11_heard_45 : decode cX11_heard 45 = .ok (.iadd, 1) := by decide +kernel
theorem dX11_heard_46 : decode cX11_heard 46 = .ok (.iload_n 2, 1) := by decide +kernel
theorem dX11_heard_47 : decode cX11_heard 47 = .ok (.iadd, 1) := by decide +kernel
theorem dX11_heard_48 : decode cX11_heard 48 = .ok (.iaload, 1) := by decide +kernel
theorem dX11_heard_49 : decode cX11_heard 49 = .ok (.ireturn, 1) := by decide +kernel
theorem dX11_heard_50 : decode cX11_heard 50 = .ok (.iconst 0, 1) := by decide +kernel
theorem dX11_heard_51 : decode cX11_heard 51 = .ok (.istore_n 3, 1) := by decide +kernel
theorem dX11_heard_52 : decode cX11_heard 52 = .ok (.iconst 1, 1) := by decide +kernel
theorem dX11_heard_53 : decode cX11_heard 53 = .ok (.istore 4, 2) := by decide +kernel
theorem dX11_heard_55 : decode cX11_heard 55 = .ok (.iload 4, 2) := by decide +kernel
theorem dX11_heard_57 : decode cX11_heard 57 = .ok (.bipush 16, 2) := by decide +kernel
theorem dX11_heard_59 : decode cX11_heard 59 = .ok (.if_icmp .ge 32, 3) := by decide +kernel
theorem dX11_heard_62 : decode cX11_heard 62 = .ok (.aload_n 0, 1) := by decide +kernel
theorem dX11_heard_63 : decode cX11_heard 63 = .ok (.iload_n 1, 1) := by decide +kernel
theorem dX11_heard_64 : decode cX11_heard 64 = .ok (.iload 4, 2) := by decide +kernel
theorem dX11_heard_66 : decode cX11_heard 66 = .ok (.invokevirtual 129, 3) := by decide +kernel
theorem dX11_heard_69 : decode cX11_heard 69 = .ok (.aload_n 0, 1) := by decide +kernel
theorem dX11_heard_70 : decode cX11_heard 70 = .ok (.iload_n 1, 1) := by decide +kernel
theorem dX11_heard_71 : decode cX11_heard 71 = .ok (.iload_n 3, 1) := by decide +kernel
theorem dX11_heard_72 : decode cX11_heard 72 = .ok (.invokevirtual 129, 3) := by decide +kernel
theorem dX11_heard_75 : decode cX11_heard 75 = .ok (.if_icmp .ge 8, 3) := by decide +kernel
theorem dX11_heard_78 : decode cX11_heard 78 = .ok (.iload 4, 2) := by decide +kernel
theorem dX11_heard_80 : decode cX11_heard 80 = .ok (.goto 4, 3) := by decide +kernel
theorem dX11_heard_83 : decode cX11_heard 83 = .ok (.iload_n 3, 1) := by decide +kernel
theorem dX11_heard_84 : decode cX11_heard 84 = .ok (.istore_n 3, 1) := by decide +kernel
theorem dX11_heard_85 : decode cX11_heard 85 = .ok (.iinc 4 1, 3) := by decide +kernel
theorem dX11_heard_88 : decode cX11_heard 88 = .ok (.goto (-33), 3) := by decide +kernel
theorem dX11_heard_91 : decode cX11_heard 91 = .ok (.iload_n 3, 1) := by decide +kernel
theorem dX11_heard_92 : decode cX11_heard 92 = .ok (.ireturn, 1) := by decide +kernel
theorem dX11_nearest_0 : decode cX11_nearest 0 = .ok (.iload_n 1, 1) := by decide +kernel
theorem dX11_nearest_1 : decode cX11_nearest 1 = .ok (.iconst 0, 1) := by decide +kernel
theorem dX11_nearest_2 : decode cX11_nearest 2 = .ok (.aload_n 0, 1) := by decide +kernel
theorem dX11_nearest_3 : decode cX11_nearest 3 = .ok (.getfield 7, 3) := by decide +kernel
theorem dX11_nearest_6 : decode cX11_nearest 6 = .ok (.iconst 5, 1) := by decide +kernel
theorem dX11_nearest_7 : decode cX11_nearest 7 = .ok (.iaload, 1) := by decide +kernel
theorem dX11_nearest_8 : decode cX11_nearest 8 = .ok (.iconst 1, 1) := by decide +kernel
theorem dX11_nearest_9 : decode cX11_nearest 9 = .ok (.isub, 1) := by decide +kernel
theorem dX11_nearest_10 : decode cX11_nearest 10 = .ok (.invokestatic 69, 3) := by decide +kernel
theorem dX11_nearest_13 : decode cX11_nearest 13 = .ok (.ifCond .ne 6, 3) := by decide +kernel
theorem dX11_nearest_16 : decode cX11_nearest 16 = .ok (.ldc 127, 2) := by decide +kernel
theorem dX11_nearest_18 : decode cX11_nearest 18 = .ok (.ireturn, 1) := by decide +kernel
theorem dX11_nearest_19 : decode cX11_nearest 19 = .ok (.iload_n 2, 1) := by decide +kernel
theorem dX11_nearest_20 : decode cX11_nearest 20 = .ok (.iconst 0, 1) := by decide +kernel
theorem dX11_nearest_21 : decode cX11_nearest 21 = .ok (.iconst 3, 1) := by decide +kernel
theorem dX11_nearest_22 : decode cX11_nearest 22 = .ok (.invokestatic 69, 3) := by decide +kernel
theorem dX11_nearest_25 : decode cX11_nearest 25 = .ok (.ifCond .ne 6, 3) := by decide +kernel
theorem dX11_nearest_28 : decode cX11_nearest 28 = .ok (.ldc 84, 2) := by decide +kernel
theorem dX11_nearest_30 : decode cX11_nearest 30 = .ok (.ireturn, 1) := by decide +kernel
theorem dX11_nearest_31 : decode cX11_nearest 31 = .ok (.aload_n 0, 1) := by decide +kernel
theorem dX11_nearest_32 : decode cX11_nearest 32 = .ok (.aload_n 0, 1) := by decide +kernel
theorem dX11_nearest_33 : decode cX11_nearest 33 = .ok (.getfield 7, 3) := by decide +kernel
theorem dX11_nearest_36 : decode cX11_nearest 36 = .ok (.iconst 5, 1) := by decide +kernel
theorem dX11_nearest_37 : decode cX11_nearest 37 = .ok (.iaload, 1) := by decide +kernel
theorem dX11_nearest_38 : decode cX11_nearest 38 = .ok (.aload_n 0, 1) := by decide +kernel
theorem dX11_nearest_39 : decode cX11_nearest 39 = .ok (.getfield 7, 3) := by decide +kernel
theorem dX11_nearest_42 : decode cX11_nearest 42 = .ok (.iconst 3, 1) := by decide +kernel
theorem dX11_nearest_43 : decode cX11_nearest 43 = .ok (.iaload, 1) := by decide +kernel
theorem dX11_nearest_44 : decode cX11_nearest 44 = .ok (.invokevirtual 136, 3) := by decide +kernel
theorem dX11_nearest_47 : decode cX11_nearest 47 = .ok (.ldc 57, 2) := by decide +kernel
theorem dX11_nearest_49 : decode cX11_nearest 49 = .ok (.if_icmp .ne 5, 3) := by decide +kernel
theorem dX11_nearest_52 : decode cX11_nearest 52 = .ok (.iconst (-1), 1) := by decide +kernel
theorem dX11_nearest_53 : decode cX11_nearest 53 = .ok (.ireturn, 1) := by decide +kernel
theorem dX11_nearest_54 : decode cX11_nearest 54 = .ok (.iload_n 2, 1) := by decide +kernel
theorem dX11_nearest_55 : decode cX11_nearest 55 = .ok (.ifCond .ne 12, 3) := by decide +kernel
theorem dX11_nearest_58 : decode cX11_nearest 58 = .ok (.aload_n 0, 1) := by decide +kernel
theorem dX11_nearest_59 : decode cX11_nearest 59 = .ok (.getfield 26, 3) := by decide +kernel
theorem dX11_nearest_62 : decode cX11_nearest 62 = .ok (.iload_n 1, 1) := by decide +kernel
theorem dX11_nearest_63 : decode cX11_nearest 63 = .ok (.iaload, 1) := by decide +kernel
theorem dX11_nearest_64 : decode cX11_nearest 64 = .ok (.goto 36, 3) := by decide +kernel
theorem dX11_nearest_67 : decode cX11_nearest 67 = .ok (.iload_n 2, 1) := by decide +kernel
theorem dX11_nearest_68 : decode cX11_nearest 68 = .ok (.iconst 1, 1) := by decide +kernel
theorem dX11_nearest_69 : decode cX11_nearest 69 = .ok (.if_icmp .ne 12, 3) := by decide +kernel
theorem dX11_nearest_72 : decode cX11_nearest 72 = .ok (.aload_n 0, 1) := by decide +kernel
theorem dX11_nearest_73 : decode cX11_nearest 73 = .ok (.getfield 29, 3) := by decide +kernel
theorem dX11_nearest_76 : decode cX11_nearest 76 = .ok (.iload_n 1, 1) := by decide +kernel
theorem dX11_nearest_77 : decode cX11_nearest 77 = .ok (.iaload, 1) := by decide +kernel
theorem dX11_nearest_78 : decode cX11_nearest 78 = .ok (.goto 22, 3) := by decide +kernel
theorem dX11_nearest_81 : decode cX11_nearest 81 = .ok (.iload_n 2, 1) := by decide +kernel
theorem dX11_nearest_82 : decode cX11_nearest 82 = .ok (.iconst 2, 1) := by decide +kernel
theorem dX11_nearest_83 : decode cX11_nearest 83 = .ok (.if_icmp .ne 11, 3) := by decide +kernel
theorem dX11_nearest_86 : decode cX11_nearest 86 = .ok (.aload_n 0, 1) := by decide +kernel
theorem dX11_nearest_87 : decode cX11_nearest 87 = .ok (.iload_n 1, 1) := by decide +kernel
theorem dX11_nearest_88 : decode cX11_nearest 88 = .ok (.invokevirtual 139, 3) := by decide +kernel
theorem dX11_nearest_91 : decode cX11_nearest 91 = .ok (.goto 9, 3) := by decide +kernel
theorem dX11_nearest_94 : decode cX11_nearest 94 = .ok (.aload_n 0, 1) := by decide +kernel
theorem dX11_nearest_95 : decode cX11_nearest 95 = .ok (.getfield 32, 3) := by decide +kernel
theorem dX11_nearest_98 : decode cX11_nearest 98 = .ok (.iload_n 1, 1) := by decide +kernel
theorem dX11_nearest_99 : decode cX11_nearest 99 = .ok (.iaload, 1) := by decide +kernel
theorem dX11_nearest_100 : decode cX11_nearest 100 = .ok (.ireturn, 1) := by decide +kernel
theorem dX11_ahead_0 : decode cX11_ahead 0 = .ok (.aload_n 0, 1) := by decide +kernel
theorem dX11_ahead_1 : decode cX11_ahead 1 = .ok (.iload_n 2, 1) := by decide +kernel
theorem dX11_ahead_2 : decode cX11_ahead 2 = .ok (.invokevirtual 123, 3) := by decide +kernel
theorem dX11_ahead_5 : decode cX11_ahead 5 = .ok (.ifCond .ne 6, 3) := by decide +kernel
theorem dX11_ahead_8 : decode cX11_ahead 8 = .ok (.ldc 127, 2) := by decide +kernel
theorem dX11_ahead_10 : decode cX11_ahead 10 = .ok (.ireturn, 1) := by decide +kernel
theorem dX11_ahead_11 : decode cX11_ahead 11 = .ok (.iload_n 1, 1) := by decide +kernel
theorem dX11_ahead_12 : decode cX11_ahead 12 = .ok (.iconst 0, 1) := by decide +kernel
theorem dX11_ahead_13 : decode cX11_ahead 13 = .ok (.aload_n 0, 1) := by decide +kernel
theorem dX11_ahead_14 : decode cX11_ahead 14 = .ok (.getfield 7, 3) := by decide +kernel
theorem dX11_ahead_17 : decode cX11_ahead 17 = .ok (.iconst 5, 1) := by decide +kernel
theorem dX11_ahead_18 : decode cX11_ahead 18 = .ok (.iaload, 1) := by decide +kernel
theorem dX11_ahead_19 : decode cX11_ahead 19 = .ok (.invokestatic 69, 3) := by decide +kernel
theorem dX11_ahead_22 : decode cX11_ahead 22 = .ok (.ifCond .ne 6, 3) := by decide +kernel
theorem dX11_ahead_25 : decode cX11_ahead 25 = .ok (.ldc 84, 2) := by decide +kernel
theorem dX11_ahead_27 : decode cX11_ahead 27 = .ok (.ireturn, 1) := by decide +kernel
theorem dX11_ahead_28 : decode cX11_ahead 28 = .ok (.aload_n 0, 1) := by decide +kernel
theorem dX11_ahead_29 : decode cX11_ahead 29 = .ok (.iload_n 1, 1) := by decide +kernel
theorem dX11_ahead_30 : decode cX11_ahead 30 = .ok (.iload_n 2, 1) := by decide +kernel
theorem dX11_ahead_31 : decode cX11_ahead 31 = .ok (.invokevirtual 136, 3) := by decide +kernel
theorem dX11_ahead_34 : decode cX11_ahead 34 = .ok (.ireturn, 1) := by decide +kernel
theorem dX11_decided_0 : decode cX11_decided 0 = .ok (.iload_n 1, 1) := by decide +kernel
theorem dX11_decided_1 : decode cX11_decided 1 = .ok (.iconst 0, 1) := by decide +kernel
theorem dX11_decided_2 : decode cX11_decided 2 = .ok (.aload_n 0, 1) := by decide +kernel
theorem dX11_decided_3 : decode cX11_decided 3 = .ok (.getfield 7, 3) := by decide +kernel
theorem dX11_decided_6 : decode cX11_decided 6 = .ok (.iconst 5, 1) := by decide +kernel
theorem dX11_decided_7 : decode cX11_decided 7 = .ok (.iaload, 1) := by decide +kernel
theorem dX11_decided_8 : decode cX11_decided 8 = .ok (.iconst 1, 1) := by decide +kernel
theorem dX11_decided_9 : decode cX11_decided 9 = .ok (.isub, 1) := by decide +kernel
theorem dX11_decided_10 : decode cX11_decided 10 = .ok (.invokestatic 69, 3) := by decide +kernel
theorem dX11_decided_13 : decode cX11_decided 13 = .ok (.ifCond .ne 6, 3) := by decide +kernel
theorem dX11_decided_16 : decode cX11_decided 16 = .ok (.ldc 127, 2) := by decide +kernel
theorem dX11_decided_18 : decode cX11_decided 18 = .ok (.ireturn, 1) := by decide +kernel
theorem dX11_decided_19 : decode cX11_decided 19 = .ok (.iload_n 2, 1) := by decide +kernel
theorem dX11_decided_20 : decode cX11_decided 20 = .ok (.iconst 0, 1) := by decide +kernel
theorem dX11_decided_21 : decode cX11_decided 21 = .ok (.bipush 23, 2) := by decide +kernel
theorem dX11_decided_23 : decode cX11_decided 23 = .ok (.invokestatic 69, 3) := by decide +kernel
theorem dX11_decided_26 : decode cX11_decided 26 = .ok (.ifCond .ne 6, 3) := by decide +kernel
theorem dX11_decided_29 : decode cX11_decided 29 = .ok (.ldc 84, 2) := by decide +kernel
theorem dX11_decided_31 : decode cX11_decided 31 = .ok (.ireturn, 1) := by decide +kernel
theorem dX11_decided_32 : decode cX11_decided 32 = .ok (.iload_n 1, 1) := by decide +kernel
theorem dX11_decided_33 : decode cX11_decided 33 = .ok (.iload_n 2, 1) := by decide +kernel
theorem dX11_decided_34 : decode cX11_decided 34 = .ok (.iadd, 1) := by decide +kernel
theorem dX11_decided_35 : decode cX11_decided 35 = .ok (.iconst 1, 1) := by decide +kernel
theorem dX11_decided_36 : decode cX11_decided 36 = .ok (.iadd, 1) := by decide +kernel
theorem dX11_decided_37 : decode cX11_decided 37 = .ok (.aload_n 0, 1) := by decide +kernel
theorem dX11_decided_38 : decode cX11_decided 38 = .ok (.getfield 7, 3) := by decide +kernel
theorem dX11_decided_41 : decode cX11_decided 41 = .ok (.iconst 5, 1) := by decide +kernel
theorem dX11_decided_42 : decode cX11_decided 42 = .ok (.iaload, 1) := by decide +kernel
theorem dX11_decided_43 : decode cX11_decided 43 = .ok (.if_icmp .le 5, 3) := by decide +kernel
theorem dX11_decided_46 : decode cX11_decided 46 = .ok (.iconst (-1), 1) := by decide +kernel
theorem dX11_decided_47 : decode cX11_decided 47 = .ok (.ireturn, 1) := by decide +kernel
theorem dX11_decided_48 : decode cX11_decided 48 = .ok (.aload_n 0, 1) := by decide +kernel
theorem dX11_decided_49 : decode cX11_decided 49 = .ok (.iload_n 1, 1) := by decide +kernel
theorem dX11_decided_50 : decode cX11_decided 50 = .ok (.iload_n 2, 1) := by decide +kernel
theorem dX11_decided_51 : decode cX11_decided 51 = .ok (.iadd, 1) := by decide +kernel
theorem dX11_decided_52 : decode cX11_decided 52 = .ok (.iconst 1, 1) := by decide +kernel
theorem dX11_decided_53 : decode cX11_decided 53 = .ok (.iadd, 1) := by decide +kernel
theorem dX11_decided_54 : decode cX11_decided 54 = .ok (.iconst (-1), 1) := by decide +kernel
theorem dX11_decided_55 : decode cX11_decided 55 = .ok (.invokevirtual 136, 3) := by decide +kernel
theorem dX11_decided_58 : decode cX11_decided 58 = .ok (.pop, 1) := by decide +kernel
theorem dX11_decided_59 : decode cX11_decided 59 = .ok (.aload_n 0, 1) := by decide +kernel
theorem dX11_decided_60 : decode cX11_decided 60 = .ok (.iload_n 1, 1) := by decide +kernel
theorem dX11_decided_61 : decode cX11_decided 61 = .ok (.invokevirtual 139, 3) := by decide +kernel
theorem dX11_decided_64 : decode cX11_decided 64 = .ok (.ireturn, 1) := by decide +kernel
theorem dX11_cost_0 : decode cX11_cost 0 = .ok (.iconst 0, 1) := by decide +kernel
theorem dX11_cost_1 : decode cX11_cost 1 = .ok (.istore_n 1, 1) := by decide +kernel
theorem dX11_cost_2 : decode cX11_cost 2 = .ok (.iconst 0, 1) := by decide +kernel
theorem dX11_cost_3 : decode cX11_cost 3 = .ok (.istore_n 2, 1) := by decide +kernel
theorem dX11_cost_4 : decode cX11_cost 4 = .ok (.iload_n 2, 1) := by decide +kernel
theorem dX11_cost_5 : decode cX11_cost 5 = .ok (.aload_n 0, 1) := by decide +kernel
theorem dX11_cost_6 : decode cX11_cost 6 = .ok (.getfield 7, 3) := by decide +kernel
theorem dX11_cost_9 : decode cX11_cost 9 = .ok (.iconst 5, 1) := by decide +kernel
theorem dX11_cost_10 : decode cX11_cost 10 = .ok (.iaload, 1) := by decide +kernel
theorem dX11_cost_11 : decode cX11_cost 11 = .ok (.if_icmp .ge 32, 3) := by decide +kernel
theorem dX11_cost_14 : decode cX11_cost 14 = .ok (.iload_n 2, 1) := by decide +kernel
theorem dX11_cost_15 : decode cX11_cost 15 = .ok (.aload_n 0, 1) := by decide +kernel
theorem dX11_cost_16 : decode cX11_cost 16 = .ok (.getfield 7, 3) := by decide +kernel
theorem dX11_cost_19 : decode cX11_cost 19 = .ok (.iconst 4, 1) := by decide +kernel
theorem dX11_cost_20 : decode cX11_cost 20 = .ok (.iaload, 1) := by decide +kernel
theorem dX11_cost_21 : decode cX11_cost 21 = .ok (.if_icmp .ge 22, 3) := by decide +kernel
theorem dX11_cost_24 : decode cX11_cost 24 = .ok (.iload_n 1, 1) := by decide +kernel
theorem dX11_cost_25 : decode cX11_cost 25 = .ok (.aload_n 0, 1) := by decide +kernel
theorem dX11_cost_26 : decode cX11_cost 26 = .ok (.iload_n 2, 1) := by decide +kernel
theorem dX11_cost_27 : decode cX11_cost 27 = .ok (.aload_n 0, 1) := by decide +kernel
theorem dX11_cost_28 : decode cX11_cost 28 = .ok (.iload_n 2, 1) := by decide +kernel
theorem dX11_cost_29 : decode cX11_cost 29 = .ok (.invokevirtual 102, 3) := by decide +kernel
theorem dX11_cost_32 : decode cX11_cost 32 = .ok (.invokevirtual 129, 3) := by decide +kernel
theorem dX11_cost_35 : decode cX11_cost 35 = .ok (.iadd, 1) := by decide +kernel
theorem dX11_cost_36 : decode cX11_cost 36 = .ok (.istore_n 1, 1) := by decide +kernel
theorem dX11_cost_37 : decode cX11_cost 37 = .ok (.iinc 2 1, 3) := by decide +kernel
theorem dX11_cost_40 : decode cX11_cost 40 = .ok (.goto (-36), 3) := by decide +kernel
theorem dX11_cost_43 : decode cX11_cost 43 = .ok (.iload_n 1, 1) := by decide +kernel
theorem dX11_cost_44 : decode cX11_cost 44 = .ok (.ireturn, 1) := by decide +kernel
theorem dX11_sign_0 : decode cX11_sign 0 = .ok (.iload_n 1, 1) := by decide +kernel
theorem dX11_sign_1 : decode cX11_sign 1 = .ok (.ifCond .ge 6, 3) := by decide +kernel
theorem dX11_sign_4 : decode cX11_sign 4 = .ok (.ldc 84, 2) := by decide +kernel
theorem dX11_sign_6 : decode cX11_sign 6 = .ok (.ireturn, 1) := by decide +kernel
theorem dX11_sign_7 : decode cX11_sign 7 = .ok (.iload_n 1, 1) := by decide +kernel
theorem dX11_sign_8 : decode cX11_sign 8 = .ok (.aload_n 0, 1) := by decide +kernel
theorem dX11_sign_9 : decode cX11_sign 9 = .ok (.invokevirtual 161, 3) := by decide +kernel
theorem dX11_sign_12 : decode cX11_sign 12 = .ok (.if_icmp .lt 5, 3) := by decide +kernel
theorem dX11_sign_15 : decode cX11_sign 15 = .ok (.iconst (-1), 1) := by decide +kernel
theorem dX11_sign_16 : decode cX11_sign 16 = .ok (.ireturn, 1) := by decide +kernel
theorem dX11_sign_17 : decode cX11_sign 17 = .ok (.iconst 4, 1) := by decide +kernel
theorem dX11_sign_18 : decode cX11_sign 18 = .ok (.iload_n 1, 1) := by decide +kernel
theorem dX11_sign_19 : decode cX11_sign 19 = .ok (.bipush 9, 2) := by decide +kernel
theorem dX11_sign_21 : decode cX11_sign 21 = .ok (.idiv, 1) := by decide +kernel
theorem dX11_sign_22 : decode cX11_sign 22 = .ok (.imul, 1) := by decide +kernel
theorem dX11_sign_23 : decode cX11_sign 23 = .ok (.iload_n 1, 1) := by decide +kernel
theorem dX11_sign_24 : decode cX11_sign 24 = .ok (.bipush 9, 2) := by decide +kernel
theorem dX11_sign_26 : decode cX11_sign 26 = .ok (.irem, 1) := by decide +kernel
theorem dX11_sign_27 : decode cX11_sign 27 = .ok (.iconst 2, 1) := by decide +kernel
theorem dX11_sign_28 : decode cX11_sign 28 = .ok (.idiv, 1) := by decide +kernel
theorem dX11_sign_29 : decode cX11_sign 29 = .ok (.iadd, 1) := by decide +kernel
theorem dX11_sign_30 : decode cX11_sign 30 = .ok (.istore_n 2, 1) := by decide +kernel
theorem dX11_sign_31 : decode cX11_sign 31 = .ok (.iload_n 1, 1) := by decide +kernel
theorem dX11_sign_32 : decode cX11_sign 32 = .ok (.bipush 9, 2) := by decide +kernel
theorem dX11_sign_34 : decode cX11_sign 34 = .ok (.irem, 1) := by decide +kernel
theorem dX11_sign_35 : decode cX11_sign 35 = .ok (.bipush 8, 2) := by decide +kernel
theorem dX11_sign_37 : decode cX11_sign 37 = .ok (.if_icmp .ne 8, 3) := by decide +kernel
theorem dX11_sign_40 : decode cX11_sign 40 = .ok (.bipush 45, 2) := by decide +kernel
theorem dX11_sign_42 : decode cX11_sign 42 = .ok (.goto 35, 3) := by decide +kernel
theorem dX11_sign_45 : decode cX11_sign 45 = .ok (.iload_n 1, 1) := by decide +kernel
theorem dX11_sign_46 : decode cX11_sign 46 = .ok (.bipush 9, 2) := by decide +kernel
theorem dX11_sign_48 : decode cX11_sign 48 = .ok (.irem, 1) := by decide +kernel
theorem dX11_sign_49 : decode cX11_sign 49 = .ok (.iconst 2, 1) := by decide +kernel
theorem dX11_sign_50 : decode cX11_sign 50 = .ok (.irem, 1) := by decide +kernel
theorem dX11_sign_51 : decode cX11_sign 51 = .ok (.ifCond .ne 17, 3) := by decide +kernel
theorem dX11_sign_54 : decode cX11_sign 54 = .ok (.bipush 65, 2) := by decide +kernel
theorem dX11_sign_56 : decode cX11_sign 56 = .ok (.aload_n 0, 1) := by decide +kernel
theorem dX11_sign_57 : decode cX11_sign 57 = .ok (.iload_n 2, 1) := by decide +kernel
theorem dX11_sign_58 : decode cX11_sign 58 = .ok (.invokevirtual 139, 3) := by decide +kernel
theorem dX11_sign_61 : decode cX11_sign 61 = .ok (.invokestatic 47, 3) := by decide +kernel
theorem dX11_sign_64 : decode cX11_sign 64 = .ok (.iadd, 1) := by decide +kernel
theorem dX11_sign_65 : decode cX11_sign 65 = .ok (.goto 12, 3) := by decide +kernel
theorem dX11_sign_68 : decode cX11_sign 68 = .ok (.bipush 48, 2) := by decide +kernel
theorem dX11_sign_70 : decode cX11_sign 70 = .ok (.aload_n 0, 1) := by decide +kernel
theorem dX11_sign_71 : decode cX11_sign 71 = .ok (.getfield 29, 3) := by decide +kernel
theorem dX11_sign_74 : decode cX11_sign 74 = .ok (.iload_n 2, 1) := by decide +kernel
theorem dX11_sign_75 : decode cX11_sign 75 = .ok (.iaload, 1) := by decide +kernel
theorem dX11_sign_76 : decode cX11_sign 76 = .ok (.iadd, 1) := by decide +kernel
theorem dX11_sign_77 : decode cX11_sign 77 = .ok (.ireturn, 1) := by decide +kernel
theorem dX11_keep_0 : decode cX11_keep 0 = .ok (.iload_n 1, 1) := by decide +kernel
theorem dX11_keep_1 : decode cX11_keep 1 = .ok (.iconst 0, 1) := by decide +kernel
theorem dX11_keep_2 : decode cX11_keep 2 = .ok (.iconst 1, 1) := by decide +kernel
theorem dX11_keep_3 : decode cX11_keep 3 = .ok (.invokestatic 69, 3) := by decide +kernel
theorem dX11_keep_6 : decode cX11_keep 6 = .ok (.ifCond .ne 6, 3) := by decide +kernel
theorem dX11_keep_9 : decode cX11_keep 9 = .ok (.ldc 127, 2) := by decide +kernel
theorem dX11_keep_11 : decode cX11_keep 11 = .ok (.ireturn, 1) := by decide +kernel
theorem dX11_keep_12 : decode cX11_keep 12 = .ok (.iconst 0, 1) := by decide +kernel
theorem dX11_keep_13 : decode cX11_keep 13 = .ok (.istore_n 2, 1) := by decide +kernel
theorem dX11_keep_14 : decode cX11_keep 14 = .ok (.iload_n 2, 1) := by decide +kernel
theorem dX11_keep_15 : decode cX11_keep 15 = .ok (.bipush 102, 2) := by decide +kernel
theorem dX11_keep_17 : decode cX11_keep 17 = .ok (.if_icmp .ge 26, 3) := by decide +kernel
theorem dX11_keep_20 : decode cX11_keep 20 = .ok (.aload_n 0, 1) := by decide +kernel
theorem dX11_keep_21 : decode cX11_keep 21 = .ok (.getfield 16, 3) := by decide +kernel
theorem dX11_keep_24 : decode cX11_keep 24 = .ok (.bipush 102, 2) := by decide +kernel
theorem dX11_keep_26 : decode cX11_keep 26 = .ok (.iload_n 1, 1) := by decide +kernel
theorem dX11_keep_27 : decode cX11_keep 27 = .ok (.imul, 1) := by decide +kernel
theorem dX11_keep_28 : decode cX11_keep 28 = .ok (.iload_n 2, 1) := by decide +kernel
theorem dX11_keep_29 : decode cX11_keep 29 = .ok (.iadd, 1) := by decide +kernel
theorem dX11_keep_30 : decode cX11_keep 30 = .ok (.aload_n 0, 1) := by decide +kernel
theorem dX11_keep_31 : decode cX11_keep 31 = .ok (.getfield 7, 3) := by decide +kernel
theorem dX11_keep_34 : decode cX11_keep 34 = .ok (.iload_n 2, 1) := by decide +kernel
theorem dX11_keep_35 : decode cX11_keep 35 = .ok (.iaload, 1) := by decide +kernel
theorem dX11_keep_36 : decode cX11_keep 36 = .ok (.iastore, 1) := by decide +kernel
theorem dX11_keep_37 : decode cX11_keep 37 = .ok (.iinc 2 1, 3) := by decide +kernel
theorem dX11_keep_40 : decode cX11_keep 40 = .ok (.goto (-26), 3) := by decide +kernel
theorem dX11_keep_43 : decode cX11_keep 43 = .ok (.aload_n 0, 1) := by decide +kernel
theorem dX11_keep_44 : decode cX11_keep 44 = .ok (.getfield 19, 3) := by decide +kernel
theorem dX11_keep_47 : decode cX11_keep 47 = .ok (.iload_n 1, 1) := by decide +kernel
theorem dX11_keep_48 : decode cX11_keep 48 = .ok (.iconst 1, 1) := by decide +kernel
theorem dX11_keep_49 : decode cX11_keep 49 = .ok (.bastore, 1) := by decide +kernel
theorem dX11_keep_50 : decode cX11_keep 50 = .ok (.aload_n 0, 1) := by decide +kernel
theorem dX11_keep_51 : decode cX11_keep 51 = .ok (.iconst 0, 1) := by decide +kernel
theorem dX11_keep_52 : decode cX11_keep 52 = .ok (.putfield 80, 3) := by decide +kernel
theorem dX11_keep_55 : decode cX11_keep 55 = .ok (.aload_n 0, 1) := by decide +kernel
theorem dX11_keep_56 : decode cX11_keep 56 = .ok (.getfield 7, 3) := by decide +kernel
theorem dX11_keep_59 : decode cX11_keep 59 = .ok (.iconst 5, 1) := by decide +kernel
theorem dX11_keep_60 : decode cX11_keep 60 = .ok (.iaload, 1) := by decide +kernel
theorem dX11_keep_61 : decode cX11_keep 61 = .ok (.ireturn, 1) := by decide +kernel
theorem dX11_goBack_0 : decode cX11_goBack 0 = .ok (.iload_n 1, 1) := by decide +kernel
theorem dX11_goBack_1 : decode cX11_goBack 1 = .ok (.iconst 0, 1) := by decide +kernel
theorem dX11_goBack_2 : decode cX11_goBack 2 = .ok (.iconst 1, 1) := by decide +kernel
theorem dX11_goBack_3 : decode cX11_goBack 3 = .ok (.invokestatic 69, 3) := by decide +kernel
theorem dX11_goBack_6 : decode cX11_goBack 6 = .ok (.ifCond .ne 6, 3) := by decide +kernel
theorem dX11_goBack_9 : decode cX11_goBack 9 = .ok (.ldc 127, 2) := by decide +kernel
end
section
theorem dX11_goBack_11 : decode cX11_goBack 11 = .ok (.ireturn, 1) := by decide +kernel
theorem dX11_goBack_12 : decode cX11_goBack 12 = .ok (.aload_n 0, 1) := by decide +kernel
theorem dX11_goBack_13 : decode cX11_goBack 13 = .ok (.getfield 19, 3) := by decide +kernel
theorem dX11_goBack_16 : decode cX11_goBack 16 = .ok (.iload_n 1, 1) := by decide +kernel
theorem dX11_goBack_17 : decode cX11_goBack 17 = .ok (.baload, 1) := by decide +kernel
theorem dX11_goBack_18 : decode cX11_goBack 18 = .ok (.ifCond .ne 6, 3) := by decide +kernel
theorem dX11_goBack_21 : decode cX11_goBack 21 = .ok (.ldc 128, 2) := by decide +kernel
theorem dX11_goBack_23 : decode cX11_goBack 23 = .ok (.ireturn, 1) := by decide +kernel
theorem dX11_goBack_24 : decode cX11_goBack 24 = .ok (.iconst 0, 1) := by decide +kernel
theorem dX11_goBack_25 : decode cX11_goBack 25 = .ok (.istore_n 2, 1) := by decide +kernel
theorem dX11_goBack_26 : decode cX11_goBack 26 = .ok (.iload_n 2, 1) := by decide +kernel
theorem dX11_goBack_27 : decode cX11_goBack 27 = .ok (.bipush 102, 2) := by decide +kernel
theorem dX11_goBack_29 : decode cX11_goBack 29 = .ok (.if_icmp .ge 26, 3) := by decide +kernel
theorem dX11_goBack_32 : decode cX11_goBack 32 = .ok (.aload_n 0, 1) := by decide +kernel
theorem dX11_goBack_33 : decode cX11_goBack 33 = .ok (.getfield 7, 3) := by decide +kernel
theorem dX11_goBack_36 : decode cX11_goBack 36 = .ok (.iload_n 2, 1) := by decide +kernel
theorem dX11_goBack_37 : decode cX11_goBack 37 = .ok (.aload_n 0, 1) := by decide +kernel
theorem dX11_goBack_38 : decode cX11_goBack 38 = .ok (.getfield 16, 3) := by decide +kernel
theorem dX11_goBack_41 : decode cX11_goBack 41 = .ok (.bipush 102, 2) := by decide +kernel
theorem dX11_goBack_43 : decode cX11_goBack 43 = .ok (.iload_n 1, 1) := by decide +kernel
theorem dX11_goBack_44 : decode cX11_goBack 44 = .ok (.imul, 1) := by decide +kernel
theorem dX11_goBack_45 : decode cX11_goBack 45 = .ok (.iload_n 2, 1) := by decide +kernel
theorem dX11_goBack_46 : decode cX11_goBack 46 = .ok (.iadd, 1) := by decide +kernel
theorem dX11_goBack_47 : decode cX11_goBack 47 = .ok (.iaload, 1) := by decide +kernel
theorem dX11_goBack_48 : decode cX11_goBack 48 = .ok (.iastore, 1) := by decide +kernel
theorem dX11_goBack_49 : decode cX11_goBack 49 = .ok (.iinc 2 1, 3) := by decide +kernel
theorem dX11_goBack_52 : decode cX11_goBack 52 = .ok (.goto (-26), 3) := by decide +kernel
theorem dX11_goBack_55 : decode cX11_goBack 55 = .ok (.aload_n 0, 1) := by decide +kernel
theorem dX11_goBack_56 : decode cX11_goBack 56 = .ok (.iconst 0, 1) := by decide +kernel
theorem dX11_goBack_57 : decode cX11_goBack 57 = .ok (.putfield 80, 3) := by decide +kernel
theorem dX11_goBack_60 : decode cX11_goBack 60 = .ok (.aload_n 0, 1) := by decide +kernel
theorem dX11_goBack_61 : decode cX11_goBack 61 = .ok (.getfield 7, 3) := by decide +kernel
theorem dX11_goBack_64 : decode cX11_goBack 64 = .ok (.iconst 5, 1) := by decide +kernel
theorem dX11_goBack_65 : decode cX11_goBack 65 = .ok (.iaload, 1) := by decide +kernel
theorem dX11_goBack_66 : decode cX11_goBack 66 = .ok (.ireturn, 1) := by decide +kernel
end
section
theorem dJ6_bitCount_0f7a4_0 : decode cJ6_bitCount_0f7a4 0 = .ok (.iload_n 0, 1) := by decide +kernel
theorem dJ6_bitCount_0f7a4_1 : decode cJ6_bitCount_0f7a4 1 = .ok (.iload_n 0, 1) := by decide +kernel
theorem dJ6_bitCount_0f7a4_2 : decode cJ6_bitCount_0f7a4 2 = .ok (.iconst 1, 1) := by decide +kernel
theorem dJ6_bitCount_0f7a4_3 : decode cJ6_bitCount_0f7a4 3 = .ok (.iushr, 1) := by decide +kernel
theorem dJ6_bitCount_0f7a4_4 : decode cJ6_bitCount_0f7a4 4 = .ok (.ldc_w 265, 3) := by decide +kernel
theorem dJ6_bitCount_0f7a4_7 : decode cJ6_bitCount_0f7a4 7 = .ok (.iand, 1) := by decide +kernel
theorem dJ6_bitCount_0f7a4_8 : decode cJ6_bitCount_0f7a4 8 = .ok (.isub, 1) := by decide +kernel
theorem dJ6_bitCount_0f7a4_9 : decode cJ6_bitCount_0f7a4 9 = .ok (.istore_n 0, 1) := by decide +kernel
theorem dJ6_bitCount_0f7a4_10 : decode cJ6_bitCount_0f7a4 10 = .ok (.iload_n 0, 1) := by decide +kernel
theorem dJ6_bitCount_0f7a4_11 : decode cJ6_bitCount_0f7a4 11 = .ok (.ldc_w 266, 3) := by decide +kernel
theorem dJ6_bitCount_0f7a4_14 : decode cJ6_bitCount_0f7a4 14 = .ok (.iand, 1) := by decide +kernel
theorem dJ6_bitCount_0f7a4_15 : decode cJ6_bitCount_0f7a4 15 = .ok (.iload_n 0, 1) := by decide +kernel
theorem dJ6_bitCount_0f7a4_16 : decode cJ6_bitCount_0f7a4 16 = .ok (.iconst 2, 1) := by decide +kernel
theorem dJ6_bitCount_0f7a4_17 : decode cJ6_bitCount_0f7a4 17 = .ok (.iushr, 1) := by decide +kernel
theorem dJ6_bitCount_0f7a4_18 : decode cJ6_bitCount_0f7a4 18 = .ok (.ldc_w 266, 3) := by decide +kernel
theorem dJ6_bitCount_0f7a4_21 : decode cJ6_bitCount_0f7a4 21 = .ok (.iand, 1) := by decide +kernel
theorem dJ6_bitCount_0f7a4_22 : decode cJ6_bitCount_0f7a4 22 = .ok (.iadd, 1) := by decide +kernel
theorem dJ6_bitCount_0f7a4_23 : decode cJ6_bitCount_0f7a4 23 = .ok (.istore_n 0, 1) := by decide +kernel
theorem dJ6_bitCount_0f7a4_24 : decode cJ6_bitCount_0f7a4 24 = .ok (.iload_n 0, 1) := by decide +kernel
theorem dJ6_bitCount_0f7a4_25 : decode cJ6_bitCount_0f7a4 25 = .ok (.iload_n 0, 1) := by decide +kernel
theorem dJ6_bitCount_0f7a4_26 : decode cJ6_bitCount_0f7a4 26 = .ok (.iconst 4, 1) := by decide +kernel
theorem dJ6_bitCount_0f7a4_27 : decode cJ6_bitCount_0f7a4 27 = .ok (.iushr, 1) := by decide +kernel
theorem dJ6_bitCount_0f7a4_28 : decode cJ6_bitCount_0f7a4 28 = .ok (.iadd, 1) := by decide +kernel
theorem dJ6_bitCount_0f7a4_29 : decode cJ6_bitCount_0f7a4 29 = .ok (.ldc_w 267, 3) := by decide +kernel
theorem dJ6_bitCount_0f7a4_32 : decode cJ6_bitCount_0f7a4 32 = .ok (.iand, 1) := by decide +kernel
theorem dJ6_bitCount_0f7a4_33 : decode cJ6_bitCount_0f7a4 33 = .ok (.istore_n 0, 1) := by decide +kernel
theorem dJ6_bitCount_0f7a4_34 : decode cJ6_bitCount_0f7a4 34 = .ok (.iload_n 0, 1) := by decide +kernel
theorem dJ6_bitCount_0f7a4_35 : decode cJ6_bitCount_0f7a4 35 = .ok (.iload_n 0, 1) := by decide +kernel
theorem dJ6_bitCount_0f7a4_36 : decode cJ6_bitCount_0f7a4 36 = .ok (.bipush 8, 2) := by decide +kernel
theorem dJ6_bitCount_0f7a4_38 : decode cJ6_bitCount_0f7a4 38 = .ok (.iushr, 1) := by decide +kernel
theorem dJ6_bitCount_0f7a4_39 : decode cJ6_bitCount_0f7a4 39 = .ok (.iadd, 1) := by decide +kernel
theorem dJ6_bitCount_0f7a4_40 : decode cJ6_bitCount_0f7a4 40 = .ok (.istore_n 0, 1) := by decide +kernel
theorem dJ6_bitCount_0f7a4_41 : decode cJ6_bitCount_0f7a4 41 = .ok (.iload_n 0, 1) := by decide +kernel
theorem dJ6_bitCount_0f7a4_42 : decode cJ6_bitCount_0f7a4 42 = .ok (.iload_n 0, 1) := by decide +kernel
theorem dJ6_bitCount_0f7a4_43 : decode cJ6_bitCount_0f7a4 43 = .ok (.bipush 16, 2) := by decide +kernel
theorem dJ6_bitCount_0f7a4_45 : decode cJ6_bitCount_0f7a4 45 = .ok (.iushr, 1) := by decide +kernel
theorem dJ6_bitCount_0f7a4_46 : decode cJ6_bitCount_0f7a4 46 = .ok (.iadd, 1) := by decide +kernel
theorem dJ6_bitCount_0f7a4_47 : decode cJ6_bitCount_0f7a4 47 = .ok (.istore_n 0, 1) := by decide +kernel
theorem dJ6_bitCount_0f7a4_48 : decode cJ6_bitCount_0f7a4 48 = .ok (.iload_n 0, 1) := by decide +kernel
theorem dJ6_bitCount_0f7a4_49 : decode cJ6_bitCount_0f7a4 49 = .ok (.bipush 63, 2) := by decide +kernel
theorem dJ6_bitCount_0f7a4_51 : decode cJ6_bitCount_0f7a4 51 = .ok (.iand, 1) := by decide +kernel
theorem dJ6_bitCount_0f7a4_52 : decode cJ6_bitCount_0f7a4 52 = .ok (.ireturn, 1) := by decide +kernel
end
section
theorem dJ9_min_7cf53_0 : decode cJ9_min_7cf53 0 = .ok (.iload_n 0, 1) := by decide +kernel
theorem dJ9_min_7cf53_1 : decode cJ9_min_7cf53 1 = .ok (.iload_n 1, 1) := by decide +kernel
theorem dJ9_min_7cf53_2 : decode cJ9_min_7cf53 2 = .ok (.if_icmp .gt 7, 3) := by decide +kernel
theorem dJ9_min_7cf53_5 : decode cJ9_min_7cf53 5 = .ok (.iload_n 0, 1) := by decide +kernel
theorem dJ9_min_7cf53_6 : decode cJ9_min_7cf53 6 = .ok (.goto 4, 3) := by decide +kernel
theorem dJ9_min_7cf53_9 : decode cJ9_min_7cf53 9 = .ok (.iload_n 1, 1) := by decide +kernel
theorem dJ9_min_7cf53_10 : decode cJ9_min_7cf53 10 = .ok (.ireturn, 1) := by decide +kernel
end
section
theorem dJ7_fill_53178_0 : decode cJ7_fill_53178 0 = .ok (.iconst 0, 1) := by decide +kernel
theorem dJ7_fill_53178_1 : decode cJ7_fill_53178 1 = .ok (.istore_n 2, 1) := by decide +kernel
theorem dJ7_fill_53178_2 : decode cJ7_fill_53178 2 = .ok (.aload_n 0, 1) := by decide +kernel
theorem dJ7_fill_53178_3 : decode cJ7_fill_53178 3 = .ok (.arraylength, 1) := by decide +kernel
theorem dJ7_fill_53178_4 : decode cJ7_fill_53178 4 = .ok (.istore_n 3, 1) := by decide +kernel
theorem dJ7_fill_53178_5 : decode cJ7_fill_53178 5 = .ok (.iload_n 2, 1) := by decide +kernel
theorem dJ7_fill_53178_6 : decode cJ7_fill_53178 6 = .ok (.iload_n 3, 1) := by decide +kernel
theorem dJ7_fill_53178_7 : decode cJ7_fill_53178 7 = .ok (.if_icmp .ge 13, 3) := by decide +kernel
theorem dJ7_fill_53178_10 : decode cJ7_fill_53178 10 = .ok (.aload_n 0, 1) := by decide +kernel
theorem dJ7_fill_53178_11 : decode cJ7_fill_53178 11 = .ok (.iload_n 2, 1) := by decide +kernel
theorem dJ7_fill_53178_12 : decode cJ7_fill_53178 12 = .ok (.iload_n 1, 1) := by decide +kernel
theorem dJ7_fill_53178_13 : decode cJ7_fill_53178 13 = .ok (.iastore, 1) := by decide +kernel
theorem dJ7_fill_53178_14 : decode cJ7_fill_53178 14 = .ok (.iinc 2 1, 3) := by decide +kernel
theorem dJ7_fill_53178_17 : decode cJ7_fill_53178 17 = .ok (.goto (-12), 3) := by decide +kernel
theorem dJ7_fill_53178_20 : decode cJ7_fill_53178 20 = .ok (.return_, 1) := by decide +kernel
end
section
theorem dL_law_0 : decode cL_law 0 = .ok (.new 7, 3) := by decide +kernel
theorem dL_law_3 : decode cL_law 3 = .ok (.dup, 1) := by decide +kernel
theorem dL_law_4 : decode cL_law 4 = .ok (.invokespecial 9, 3) := by decide +kernel
theorem dL_law_7 : decode cL_law 7 = .ok (.astore_n 1, 1) := by decide +kernel
theorem dL_law_8 : decode cL_law 8 = .ok (.new 10, 3) := by decide +kernel
theorem dL_law_11 : decode cL_law 11 = .ok (.dup, 1) := by decide +kernel
theorem dL_law_12 : decode cL_law 12 = .ok (.invokespecial 12, 3) := by decide +kernel
theorem dL_law_15 : decode cL_law 15 = .ok (.astore_n 2, 1) := by decide +kernel
theorem dL_law_16 : decode cL_law 16 = .ok (.iconst 0, 1) := by decide +kernel
theorem dL_law_17 : decode cL_law 17 = .ok (.istore_n 3, 1) := by decide +kernel
theorem dL_law_18 : decode cL_law 18 = .ok (.iload_n 3, 1) := by decide +kernel
theorem dL_law_19 : decode cL_law 19 = .ok (.aload_n 0, 1) := by decide +kernel
theorem dL_law_20 : decode cL_law 20 = .ok (.arraylength, 1) := by decide +kernel
theorem dL_law_21 : decode cL_law 21 = .ok (.iconst 4, 1) := by decide +kernel
theorem dL_law_22 : decode cL_law 22 = .ok (.isub, 1) := by decide +kernel
theorem dL_law_23 : decode cL_law 23 = .ok (.if_icmp .gt 782, 3) := by decide +kernel
theorem dL_law_26 : decode cL_law 26 = .ok (.aload_n 0, 1) := by decide +kernel
theorem dL_law_27 : decode cL_law 27 = .ok (.iload_n 3, 1) := by decide +kernel
theorem dL_law_28 : decode cL_law 28 = .ok (.iaload, 1) := by decide +kernel
theorem dL_law_29 : decode cL_law 29 = .ok (.bipush 31, 2) := by decide +kernel
theorem dL_law_31 : decode cL_law 31 = .ok (.iand, 1) := by decide +kernel
theorem dL_law_32 : decode cL_law 32 = .ok (.tableswitch 767 0 22 #[108, 151, 184, 217, 250, 263, 286, 299, 322, 355, 388, 421, 454, 477, 520, 553, 586, 619, 652, 685, 698, 721, 744], 108) := by decide +kernel
theorem dL_law_140 : decode cL_law 140 = .ok (.aload_n 1, 1) := by decide +kernel
theorem dL_law_141 : decode cL_law 141 = .ok (.aload_n 0, 1) := by decide +kernel
theorem dL_law_142 : decode cL_law 142 = .ok (.iload_n 3, 1) := by decide +kernel
theorem dL_law_143 : decode cL_law 143 = .ok (.iconst 1, 1) := by decide +kernel
theorem dL_law_144 : decode cL_law 144 = .ok (.iadd, 1) := by decide +kernel
theorem dL_law_145 : decode cL_law 145 = .ok (.iaload, 1) := by decide +kernel
theorem dL_law_146 : decode cL_law 146 = .ok (.aload_n 0, 1) := by decide +kernel
theorem dL_law_147 : decode cL_law 147 = .ok (.iload_n 3, 1) := by decide +kernel
theorem dL_law_148 : decode cL_law 148 = .ok (.iconst 2, 1) := by decide +kernel
theorem dL_law_149 : decode cL_law 149 = .ok (.iadd, 1) := by decide +kernel
theorem dL_law_150 : decode cL_law 150 = .ok (.iaload, 1) := by decide +kernel
theorem dL_law_151 : decode cL_law 151 = .ok (.aload_n 0, 1) := by decide +kernel
theorem dL_law_152 : decode cL_law 152 = .ok (.iload_n 3, 1) := by decide +kernel
theorem dL_law_153 : decode cL_law 153 = .ok (.iconst 3, 1) := by decide +kernel
theorem dL_law_154 : decode cL_law 154 = .ok (.iadd, 1) := by decide +kernel
theorem dL_law_155 : decode cL_law 155 = .ok (.iaload, 1) := by decide +kernel
theorem dL_law_156 : decode cL_law 156 = .ok (.invokevirtual 13, 3) := by decide +kernel
theorem dL_law_159 : decode cL_law 159 = .ok (.aload_n 2, 1) := by decide +kernel
theorem dL_law_160 : decode cL_law 160 = .ok (.aload_n 0, 1) := by decide +kernel
theorem dL_law_161 : decode cL_law 161 = .ok (.iload_n 3, 1) := by decide +kernel
theorem dL_law_162 : decode cL_law 162 = .ok (.iconst 1, 1) := by decide +kernel
theorem dL_law_163 : decode cL_law 163 = .ok (.iadd, 1) := by decide +kernel
theorem dL_law_164 : decode cL_law 164 = .ok (.iaload, 1) := by decide +kernel
theorem dL_law_165 : decode cL_law 165 = .ok (.aload_n 0, 1) := by decide +kernel
theorem dL_law_166 : decode cL_law 166 = .ok (.iload_n 3, 1) := by decide +kernel
theorem dL_law_167 : decode cL_law 167 = .ok (.iconst 2, 1) := by decide +kernel
theorem dL_law_168 : decode cL_law 168 = .ok (.iadd, 1) := by decide +kernel
theorem dL_law_169 : decode cL_law 169 = .ok (.iaload, 1) := by decide +kernel
theorem dL_law_170 : decode cL_law 170 = .ok (.aload_n 0, 1) := by decide +kernel
theorem dL_law_171 : decode cL_law 171 = .ok (.iload_n 3, 1) := by decide +kernel
theorem dL_law_172 : decode cL_law 172 = .ok (.iconst 3, 1) := by decide +kernel
theorem dL_law_173 : decode cL_law 173 = .ok (.iadd, 1) := by decide +kernel
theorem dL_law_174 : decode cL_law 174 = .ok (.iaload, 1) := by decide +kernel
theorem dL_law_175 : decode cL_law 175 = .ok (.invokevirtual 17, 3) := by decide +kernel
theorem dL_law_178 : decode cL_law 178 = .ok (.if_icmp .eq 621, 3) := by decide +kernel
theorem dL_law_181 : decode cL_law 181 = .ok (.iconst 0, 1) := by decide +kernel
theorem dL_law_182 : decode cL_law 182 = .ok (.ireturn, 1) := by decide +kernel
theorem dL_law_183 : decode cL_law 183 = .ok (.aload_n 1, 1) := by decide +kernel
theorem dL_law_184 : decode cL_law 184 = .ok (.aload_n 0, 1) := by decide +kernel
theorem dL_law_185 : decode cL_law 185 = .ok (.iload_n 3, 1) := by decide +kernel
theorem dL_law_186 : decode cL_law 186 = .ok (.iconst 1, 1) := by decide +kernel
theorem dL_law_187 : decode cL_law 187 = .ok (.iadd, 1) := by decide +kernel
theorem dL_law_188 : decode cL_law 188 = .ok (.iaload, 1) := by decide +kernel
theorem dL_law_189 : decode cL_law 189 = .ok (.aload_n 0, 1) := by decide +kernel
theorem dL_law_190 : decode cL_law 190 = .ok (.iload_n 3, 1) := by decide +kernel
theorem dL_law_191 : decode cL_law 191 = .ok (.iconst 2, 1) := by decide +kernel
theorem dL_law_192 : decode cL_law 192 = .ok (.iadd, 1) := by decide +kernel
theorem dL_law_193 : decode cL_law 193 = .ok (.iaload, 1) := by decide +kernel
theorem dL_law_194 : decode cL_law 194 = .ok (.invokevirtual 18, 3) := by decide +kernel
theorem dL_law_197 : decode cL_law 197 = .ok (.aload_n 2, 1) := by decide +kernel
theorem dL_law_198 : decode cL_law 198 = .ok (.aload_n 0, 1) := by decide +kernel
theorem dL_law_199 : decode cL_law 199 = .ok (.iload_n 3, 1) := by decide +kernel
theorem dL_law_200 : decode cL_law 200 = .ok (.iconst 1, 1) := by decide +kernel
theorem dL_law_201 : decode cL_law 201 = .ok (.iadd, 1) := by decide +kernel
theorem dL_law_202 : decode cL_law 202 = .ok (.iaload, 1) := by decide +kernel
theorem dL_law_203 : decode cL_law 203 = .ok (.aload_n 0, 1) := by decide +kernel
theorem dL_law_204 : decode cL_law 204 = .ok (.iload_n 3, 1) := by decide +kernel
theorem dL_law_205 : decode cL_law 205 = .ok (.iconst 2, 1) := by decide +kernel
theorem dL_law_206 : decode cL_law 206 = .ok (.iadd, 1) := by decide +kernel
theorem dL_law_207 : decode cL_law 207 = .ok (.iaload, 1) := by decide +kernel
theorem dL_law_208 : decode cL_law 208 = .ok (.invokevirtual 22, 3) := by decide +kernel
theorem dL_law_211 : decode cL_law 211 = .ok (.if_icmp .eq 588, 3) := by decide +kernel
theorem dL_law_214 : decode cL_law 214 = .ok (.iconst 0, 1) := by decide +kernel
theorem dL_law_215 : decode cL_law 215 = .ok (.ireturn, 1) := by decide +kernel
theorem dL_law_216 : decode cL_law 216 = .ok (.aload_n 1, 1) := by decide +kernel
theorem dL_law_217 : decode cL_law 217 = .ok (.aload_n 0, 1) := by decide +kernel
theorem dL_law_218 : decode cL_law 218 = .ok (.iload_n 3, 1) := by decide +kernel
theorem dL_law_219 : decode cL_law 219 = .ok (.iconst 1, 1) := by decide +kernel
theorem dL_law_220 : decode cL_law 220 = .ok (.iadd, 1) := by decide +kernel
theorem dL_law_221 : decode cL_law 221 = .ok (.iaload, 1) := by decide +kernel
theorem dL_law_222 : decode cL_law 222 = .ok (.aload_n 0, 1) := by decide +kernel
theorem dL_law_223 : decode cL_law 223 = .ok (.iload_n 3, 1) := by decide +kernel
theorem dL_law_224 : decode cL_law 224 = .ok (.iconst 2, 1) := by decide +kernel
theorem dL_law_225 : decode cL_law 225 = .ok (.iadd, 1) := by decide +kernel
theorem dL_law_226 : decode cL_law 226 = .ok (.iaload, 1) := by decide +kernel
theorem dL_law_227 : decode cL_law 227 = .ok (.invokevirtual 23, 3) := by decide +kernel
theorem dL_law_230 : decode cL_law 230 = .ok (.aload_n 2, 1) := by decide +kernel
theorem dL_law_231 : decode cL_law 231 = .ok (.aload_n 0, 1) := by decide +kernel
theorem dL_law_232 : decode cL_law 232 = .ok (.iload_n 3, 1) := by decide +kernel
theorem dL_law_233 : decode cL_law 233 = .ok (.iconst 1, 1) := by decide +kernel
theorem dL_law_234 : decode cL_law 234 = .ok (.iadd, 1) := by decide +kernel
theorem dL_law_235 : decode cL_law 235 = .ok (.iaload, 1) := by decide +kernel
theorem dL_law_236 : decode cL_law 236 = .ok (.aload_n 0, 1) := by decide +kernel
theorem dL_law_237 : decode cL_law 237 = .ok (.iload_n 3, 1) := by decide +kernel
theorem dL_law_238 : decode cL_law 238 = .ok (.iconst 2, 1) := by decide +kernel
theorem dL_law_239 : decode cL_law 239 = .ok (.iadd, 1) := by decide +kernel
theorem dL_law_240 : decode cL_law 240 = .ok (.iaload, 1) := by decide +kernel
theorem dL_law_241 : decode cL_law 241 = .ok (.invokevirtual 26, 3) := by decide +kernel
theorem dL_law_244 : decode cL_law 244 = .ok (.if_icmp .eq 555, 3) := by decide +kernel
theorem dL_law_247 : decode cL_law 247 = .ok (.iconst 0, 1) := by decide +kernel
theorem dL_law_248 : decode cL_law 248 = .ok (.ireturn, 1) := by decide +kernel
theorem dL_law_249 : decode cL_law 249 = .ok (.aload_n 1, 1) := by decide +kernel
theorem dL_law_250 : decode cL_law 250 = .ok (.aload_n 0, 1) := by decide +kernel
theorem dL_law_251 : decode cL_law 251 = .ok (.iload_n 3, 1) := by decide +kernel
theorem dL_law_252 : decode cL_law 252 = .ok (.iconst 1, 1) := by decide +kernel
theorem dL_law_253 : decode cL_law 253 = .ok (.iadd, 1) := by decide +kernel
theorem dL_law_254 : decode cL_law 254 = .ok (.iaload, 1) := by decide +kernel
theorem dL_law_255 : decode cL_law 255 = .ok (.aload_n 0, 1) := by decide +kernel
theorem dL_law_256 : decode cL_law 256 = .ok (.iload_n 3, 1) := by decide +kernel
theorem dL_law_257 : decode cL_law 257 = .ok (.iconst 2, 1) := by decide +kernel
theorem dL_law_258 : decode cL_law 258 = .ok (.iadd, 1) := by decide +kernel
theorem dL_law_259 : decode cL_law 259 = .ok (.iaload, 1) := by decide +kernel
theorem dL_law_260 : decode cL_law 260 = .ok (.invokevirtual 27, 3) := by decide +kernel
theorem dL_law_263 : decode cL_law 263 = .ok (.aload_n 2, 1) := by decide +kernel
theorem dL_law_264 : decode cL_law 264 = .ok (.aload_n 0, 1) := by decide +kernel
theorem dL_law_265 : decode cL_law 265 = .ok (.iload_n 3, 1) := by decide +kernel
theorem dL_law_266 : decode cL_law 266 = .ok (.iconst 1, 1) := by decide +kernel
theorem dL_law_267 : decode cL_law 267 = .ok (.iadd, 1) := by decide +kernel
theorem dL_law_268 : decode cL_law 268 = .ok (.iaload, 1) := by decide +kernel
theorem dL_law_269 : decode cL_law 269 = .ok (.aload_n 0, 1) := by decide +kernel
theorem dL_law_270 : decode cL_law 270 = .ok (.iload_n 3, 1) := by decide +kernel
theorem dL_law_271 : decode cL_law 271 = .ok (.iconst 2, 1) := by decide +kernel
theorem dL_law_272 : decode cL_law 272 = .ok (.iadd, 1) := by decide +kernel
theorem dL_law_273 : decode cL_law 273 = .ok (.iaload, 1) := by decide +kernel
theorem dL_law_274 : decode cL_law 274 = .ok (.invokevirtual 30, 3) := by decide +kernel
theorem dL_law_277 : decode cL_law 277 = .ok (.if_icmp .eq 522, 3) := by decide +kernel
theorem dL_law_280 : decode cL_law 280 = .ok (.iconst 0, 1) := by decide +kernel
theorem dL_law_281 : decode cL_law 281 = .ok (.ireturn, 1) := by decide +kernel
theorem dL_law_282 : decode cL_law 282 = .ok (.aload_n 1, 1) := by decide +kernel
theorem dL_law_283 : decode cL_law 283 = .ok (.invokevirtual 31, 3) := by decide +kernel
theorem dL_law_286 : decode cL_law 286 = .ok (.aload_n 2, 1) := by decide +kernel
theorem dL_law_287 : decode cL_law 287 = .ok (.invokevirtual 35, 3) := by decide +kernel
theorem dL_law_290 : decode cL_law 290 = .ok (.if_icmp .eq 509, 3) := by decide +kernel
theorem dL_law_293 : decode cL_law 293 = .ok (.iconst 0, 1) := by decide +kernel
theorem dL_law_294 : decode cL_law 294 = .ok (.ireturn, 1) := by decide +kernel
theorem dL_law_295 : decode cL_law 295 = .ok (.aload_n 1, 1) := by decide +kernel
theorem dL_law_296 : decode cL_law 296 = .ok (.aload_n 0, 1) := by decide +kernel
theorem dL_law_297 : decode cL_law 297 = .ok (.iload_n 3, 1) := by decide +kernel
theorem dL_law_298 : decode cL_law 298 = .ok (.iconst 1, 1) := by decide +kernel
theorem dL_law_299 : decode cL_law 299 = .ok (.iadd, 1) := by decide +kernel
theorem dL_law_300 : decode cL_law 300 = .ok (.iaload, 1) := by decide +kernel
theorem dL_law_301 : decode cL_law 301 = .ok (.invokevirtual 36, 3) := by decide +kernel
theorem dL_law_304 : decode cL_law 304 = .ok (.aload_n 2, 1) := by decide +kernel
theorem dL_law_305 : decode cL_law 305 = .ok (.aload_n 0, 1) := by decide +kernel
theorem dL_law_306 : decode cL_law 306 = .ok (.iload_n 3, 1) := by decide +kernel
theorem dL_law_307 : decode cL_law 307 = .ok (.iconst 1, 1) := by decide +kernel
theorem dL_law_308 : decode cL_law 308 = .ok (.iadd, 1) := by decide +kernel
theorem dL_law_309 : decode cL_law 309 = .ok (.iaload, 1) := by decide +kernel
theorem dL_law_310 : decode cL_law 310 = .ok (.invokevirtual 40, 3) := by decide +kernel
theorem dL_law_313 : decode cL_law 313 = .ok (.if_icmp .eq 486, 3) := by decide +kernel
theorem dL_law_316 : decode cL_law 316 = .ok (.iconst 0, 1) := by decide +kernel
theorem dL_law_317 : decode cL_law 317 = .ok (.ireturn, 1) := by decide +kernel
theorem dL_law_318 : decode cL_law 318 = .ok (.aload_n 1, 1) := by decide +kernel
theorem dL_law_319 : decode cL_law 319 = .ok (.invokevirtual 41, 3) := by decide +kernel
theorem dL_law_322 : decode cL_law 322 = .ok (.aload_n 2, 1) := by decide +kernel
theorem dL_law_323 : decode cL_law 323 = .ok (.invokevirtual 44, 3) := by decide +kernel
theorem dL_law_326 : decode cL_law 326 = .ok (.if_icmp .eq 473, 3) := by decide +kernel
theorem dL_law_329 : decode cL_law 329 = .ok (.iconst 0, 1) := by decide +kernel
theorem dL_law_330 : decode cL_law 330 = .ok (.ireturn, 1) := by decide +kernel
theorem dL_law_331 : decode cL_law 331 = .ok (.aload_n 1, 1) := by decide +kernel
theorem dL_law_332 : decode cL_law 332 = .ok (.aload_n 0, 1) := by decide +kernel
theorem dL_law_333 : decode cL_law 333 = .ok (.iload_n 3, 1) := by decide +kernel
theorem dL_law_334 : decode cL_law 334 = .ok (.iconst 1, 1) := by decide +kernel
theorem dL_law_335 : decode cL_law 335 = .ok (.iadd, 1) := by decide +kernel
theorem dL_law_336 : decode cL_law 336 = .ok (.iaload, 1) := by decide +kernel
theorem dL_law_337 : decode cL_law 337 = .ok (.invokevirtual 45, 3) := by decide +kernel
theorem dL_law_340 : decode cL_law 340 = .ok (.aload_n 2, 1) := by decide +kernel
theorem dL_law_341 : decode cL_law 341 = .ok (.aload_n 0, 1) := by decide +kernel
theorem dL_law_342 : decode cL_law 342 = .ok (.iload_n 3, 1) := by decide +kernel
theorem dL_law_343 : decode cL_law 343 = .ok (.iconst 1, 1) := by decide +kernel
theorem dL_law_344 : decode cL_law 344 = .ok (.iadd, 1) := by decide +kernel
theorem dL_law_345 : decode cL_law 345 = .ok (.iaload, 1) := by decide +kernel
theorem dL_law_346 : decode cL_law 346 = .ok (.invokevirtual 48, 3) := by decide +kernel
theorem dL_law_349 : decode cL_law 349 = .ok (.if_icmp .eq 450, 3) := by decide +kernel
theorem dL_law_352 : decode cL_law 352 = .ok (.iconst 0, 1) := by decide +kernel
theorem dL_law_353 : decode cL_law 353 = .ok (.ireturn, 1) := by decide +kernel
theorem dL_law_354 : decode cL_law 354 = .ok (.aload_n 1, 1) := by decide +kernel
theorem dL_law_355 : decode cL_law 355 = .ok (.aload_n 0, 1) := by decide +kernel
theorem dL_law_356 : decode cL_law 356 = .ok (.iload_n 3, 1) := by decide +kernel
theorem dL_law_357 : decode cL_law 357 = .ok (.iconst 1, 1) := by decide +kernel
theorem dL_law_358 : decode cL_law 358 = .ok (.iadd, 1) := by decide +kernel
theorem dL_law_359 : decode cL_law 359 = .ok (.iaload, 1) := by decide +kernel
theorem dL_law_360 : decode cL_law 360 = .ok (.aload_n 0, 1) := by decide +kernel
theorem dL_law_361 : decode cL_law 361 = .ok (.iload_n 3, 1) := by decide +kernel
theorem dL_law_362 : decode cL_law 362 = .ok (.iconst 2, 1) := by decide +kernel
theorem dL_law_363 : decode cL_law 363 = .ok (.iadd, 1) := by decide +kernel
theorem dL_law_364 : decode cL_law 364 = .ok (.iaload, 1) := by decide +kernel
theorem dL_law_365 : decode cL_law 365 = .ok (.invokevirtual 49, 3) := by decide +kernel
theorem dL_law_368 : decode cL_law 368 = .ok (.aload_n 2, 1) := by decide +kernel
theorem dL_law_369 : decode cL_law 369 = .ok (.aload_n 0, 1) := by decide +kernel
theorem dL_law_370 : decode cL_law 370 = .ok (.iload_n 3, 1) := by decide +kernel
theorem dL_law_371 : decode cL_law 371 = .ok (.iconst 1, 1) := by decide +kernel
theorem dL_law_372 : decode cL_law 372 = .ok (.iadd, 1) := by decide +kernel
theorem dL_law_373 : decode cL_law 373 = .ok (.iaload, 1) := by decide +kernel
theorem dL_law_374 : decode cL_law 374 = .ok (.aload_n 0, 1) := by decide +kernel
theorem dL_law_375 : decode cL_law 375 = .ok (.iload_n 3, 1) := by decide +kernel
theorem dL_law_376 : decode cL_law 376 = .ok (.iconst 2, 1) := by decide +kernel
theorem dL_law_377 : decode cL_law 377 = .ok (.iadd, 1) := by decide +kernel
theorem dL_law_378 : decode cL_law 378 = .ok (.iaload, 1) := by decide +kernel
theorem dL_law_379 : decode cL_law 379 = .ok (.invokevirtual 52, 3) := by decide +kernel
theorem dL_law_382 : decode cL_law 382 = .ok (.if_icmp .eq 417, 3) := by decide +kernel
theorem dL_law_385 : decode cL_law 385 = .ok (.iconst 0, 1) := by decide +kernel
theorem dL_law_386 : decode cL_law 386 = .ok (.ireturn, 1) := by decide +kernel
theorem dL_law_387 : decode cL_law 387 = .ok (.aload_n 1, 1) := by decide +kernel
theorem dL_law_388 : decode cL_law 388 = .ok (.aload_n 0, 1) := by decide +kernel
theorem dL_law_389 : decode cL_law 389 = .ok (.iload_n 3, 1) := by decide +kernel
theorem dL_law_390 : decode cL_law 390 = .ok (.iconst 1, 1) := by decide +kernel
theorem dL_law_391 : decode cL_law 391 = .ok (.iadd, 1) := by decide +kernel
theorem dL_law_392 : decode cL_law 392 = .ok (.iaload, 1) := by decide +kernel
theorem dL_law_393 : decode cL_law 393 = .ok (.aload_n 0, 1) := by decide +kernel
theorem dL_law_394 : decode cL_law 394 = .ok (.iload_n 3, 1) := by decide +kernel
theorem dL_law_395 : decode cL_law 395 = .ok (.iconst 2, 1) := by decide +kernel
theorem dL_law_396 : decode cL_law 396 = .ok (.iadd, 1) := by decide +kernel
theorem dL_law_397 : decode cL_law 397 = .ok (.iaload, 1) := by decide +kernel
theorem dL_law_398 : decode cL_law 398 = .ok (.invokevirtual 53, 3) := by decide +kernel
theorem dL_law_401 : decode cL_law 401 = .ok (.aload_n 2, 1) := by decide +kernel
theorem dL_law_402 : decode cL_law 402 = .ok (.aload_n 0, 1) := by decide +kernel
theorem dL_law_403 : decode cL_law 403 = .ok (.iload_n 3, 1) := by decide +kernel
theorem dL_law_404 : decode cL_law 404 = .ok (.iconst 1, 1) := by decide +kernel
theorem dL_law_405 : decode cL_law 405 = .ok (.iadd, 1) := by decide +kernel
theorem dL_law_406 : decode cL_law 406 = .ok (.iaload, 1) := by decide +kernel
theorem dL_law_407 : decode cL_law 407 = .ok (.aload_n 0, 1) := by decide +kernel
theorem dL_law_408 : decode cL_law 408 = .ok (.iload_n 3, 1) := by decide +kernel
theorem dL_law_409 : decode cL_law 409 = .ok (.iconst 2, 1) := by decide +kernel
theorem dL_law_410 : decode cL_law 410 = .ok (.iadd, 1) := by decide +kernel
theorem dL_law_411 : decode cL_law 411 = .ok (.iaload, 1) := by decide +kernel
theorem dL_law_412 : decode cL_law 412 = .ok (.invokevirtual 56, 3) := by decide +kernel
theorem dL_law_415 : decode cL_law 415 = .ok (.if_icmp .eq 384, 3) := by decide +kernel
theorem dL_law_418 : decode cL_law 418 = .ok (.iconst 0, 1) := by decide +kernel
theorem dL_law_419 : decode cL_law 419 = .ok (.ireturn, 1) := by decide +kernel
theorem dL_law_420 : decode cL_law 420 = .ok (.aload_n 1, 1) := by decide +kernel
theorem dL_law_421 : decode cL_law 421 = .ok (.aload_n 0, 1) := by decide +kernel
theorem dL_law_422 : decode cL_law 422 = .ok (.iload_n 3, 1) := by decide +kernel
theorem dL_law_423 : decode cL_law 423 = .ok (.iconst 1, 1) := by decide +kernel
theorem dL_law_424 : decode cL_law 424 = .ok (.iadd, 1) := by decide +kernel
theorem dL_law_425 : decode cL_law 425 = .ok (.iaload, 1) := by decide +kernel
theorem dL_law_426 : decode cL_law 426 = .ok (.aload_n 0, 1) := by decide +kernel
theorem dL_law_427 : decode cL_law 427 = .ok (.iload_n 3, 1) := by decide +kernel
theorem dL_law_428 : decode cL_law 428 = .ok (.iconst 2, 1) := by decide +kernel
theorem dL_law_429 : decode cL_law 429 = .ok (.iadd, 1) := by decide +kernel
theorem dL_law_430 : decode cL_law 430 = .ok (.iaload, 1) := by decide +kernel
theorem dL_law_431 : decode cL_law 431 = .ok (.invokevirtual 57, 3) := by decide +kernel
theorem dL_law_434 : decode cL_law 434 = .ok (.aload_n 2, 1) := by decide +kernel
theorem dL_law_435 : decode cL_law 435 = .ok (.aload_n 0, 1) := by decide +kernel
theorem dL_law_436 : decode cL_law 436 = .ok (.iload_n 3, 1) := by decide +kernel
theorem dL_law_437 : decode cL_law 437 = .ok (.iconst 1, 1) := by decide +kernel
theorem dL_law_438 : decode cL_law 438 = .ok (.iadd, 1) := by decide +kernel
theorem dL_law_439 : decode cL_law 439 = .ok (.iaload, 1) := by decide +kernel
theorem dL_law_440 : decode cL_law 440 = .ok (.aload_n 0, 1) := by decide +kernel
theorem dL_law_441 : decode cL_law 441 = .ok (.iload_n 3, 1) := by decide +kernel
theorem dL_law_442 : decode cL_law 442 = .ok (.iconst 2, 1) := by decide +kernel
theorem dL_law_443 : decode cL_law 443 = .ok (.iadd, 1) := by decide +kernel
theorem dL_law_444 : decode cL_law 444 = .ok (.iaload, 1) := by decide +kernel
theorem dL_law_445 : decode cL_law 445 = .ok (.invokevirtual 60, 3) := by decide +kernel
theorem dL_law_448 : decode cL_law 448 = .ok (.if_icmp .eq 351, 3) := by decide +kernel
theorem dL_law_451 : decode cL_law 451 = .ok (.iconst 0, 1) := by decide +kernel
theorem dL_law_452 : decode cL_law 452 = .ok (.ireturn, 1) := by decide +kernel
theorem dL_law_453 : decode cL_law 453 = .ok (.aload_n 1, 1) := by decide +kernel
theorem dL_law_454 : decode cL_law 454 = .ok (.aload_n 0, 1) := by decide +kernel
theorem dL_law_455 : decode cL_law 455 = .ok (.iload_n 3, 1) := by decide +kernel
theorem dL_law_456 : decode cL_law 456 = .ok (.iconst 1, 1) := by decide +kernel
theorem dL_law_457 : decode cL_law 457 = .ok (.iadd, 1) := by decide +kernel
theorem dL_law_458 : decode cL_law 458 = .ok (.iaload, 1) := by decide +kernel
theorem dL_law_459 : decode cL_law 459 = .ok (.aload_n 0, 1) := by decide +kernel
theorem dL_law_460 : decode cL_law 460 = .ok (.iload_n 3, 1) := by decide +kernel
theorem dL_law_461 : decode cL_law 461 = .ok (.iconst 2, 1) := by decide +kernel
theorem dL_law_462 : decode cL_law 462 = .ok (.iadd, 1) := by decide +kernel
theorem dL_law_463 : decode cL_law 463 = .ok (.iaload, 1) := by decide +kernel
theorem dL_law_464 : decode cL_law 464 = .ok (.invokevirtual 61, 3) := by decide +kernel
theorem dL_law_467 : decode cL_law 467 = .ok (.aload_n 2, 1) := by decide +kernel
theorem dL_law_468 : decode cL_law 468 = .ok (.aload_n 0, 1) := by decide +kernel
theorem dL_law_469 : decode cL_law 469 = .ok (.iload_n 3, 1) := by decide +kernel
theorem dL_law_470 : decode cL_law 470 = .ok (.iconst 1, 1) := by decide +kernel
theorem dL_law_471 : decode cL_law 471 = .ok (.iadd, 1) := by decide +kernel
theorem dL_law_472 : decode cL_law 472 = .ok (.iaload, 1) := by decide +kernel
theorem dL_law_473 : decode cL_law 473 = .ok (.aload_n 0, 1) := by decide +kernel
theorem dL_law_474 : decode cL_law 474 = .ok (.iload_n 3, 1) := by decide +kernel
theorem dL_law_475 : decode cL_law 475 = .ok (.iconst 2, 1) := by decide +kernel
theorem dL_law_476 : decode cL_law 476 = .ok (.iadd, 1) := by decide +kernel
theorem dL_law_477 : decode cL_law 477 = .ok (.iaload, 1) := by decide +kernel
theorem dL_law_478 : decode cL_law 478 = .ok (.invokevirtual 64, 3) := by decide +kernel
theorem dL_law_481 : decode cL_law 481 = .ok (.if_icmp .eq 318, 3) := by decide +kernel
theorem dL_law_484 : decode cL_law 484 = .ok (.iconst 0, 1) := by decide +kernel
theorem dL_law_485 : decode cL_law 485 = .ok (.ireturn, 1) := by decide +kernel
theorem dL_law_486 : decode cL_law 486 = .ok (.aload_n 1, 1) := by decide +kernel
theorem dL_law_487 : decode cL_law 487 = .ok (.aload_n 0, 1) := by decide +kernel
theorem dL_law_488 : decode cL_law 488 = .ok (.iload_n 3, 1) := by decide +kernel
theorem dL_law_489 : decode cL_law 489 = .ok (.iconst 1, 1) := by decide +kernel
theorem dL_law_490 : decode cL_law 490 = .ok (.iadd, 1) := by decide +kernel
theorem dL_law_491 : decode cL_law 491 = .ok (.iaload, 1) := by decide +kernel
theorem dL_law_492 : decode cL_law 492 = .ok (.invokevirtual 65, 3) := by decide +kernel
theorem dL_law_495 : decode cL_law 495 = .ok (.aload_n 2, 1) := by decide +kernel
theorem dL_law_496 : decode cL_law 496 = .ok (.aload_n 0, 1) := by decide +kernel
theorem dL_law_497 : decode cL_law 497 = .ok (.iload_n 3, 1) := by decide +kernel
theorem dL_law_498 : decode cL_law 498 = .ok (.iconst 1, 1) := by decide +kernel
theorem dL_law_499 : decode cL_law 499 = .ok (.iadd, 1) := by decide +kernel
theorem dL_law_500 : decode cL_law 500 = .ok (.iaload, 1) := by decide +kernel
theorem dL_law_501 : decode cL_law 501 = .ok (.invokevirtual 68, 3) := by decide +kernel
theorem dL_law_504 : decode cL_law 504 = .ok (.if_icmp .eq 295, 3) := by decide +kernel
theorem dL_law_507 : decode cL_law 507 = .ok (.iconst 0, 1) := by decide +kernel
theorem dL_law_508 : decode cL_law 508 = .ok (.ireturn, 1) := by decide +kernel
theorem dL_law_509 : decode cL_law 509 = .ok (.aload_n 1, 1) := by decide +kernel
theorem dL_law_510 : decode cL_law 510 = .ok (.aload_n 0, 1) := by decide +kernel
theorem dL_law_511 : decode cL_law 511 = .ok (.iload_n 3, 1) := by decide +kernel
theorem dL_law_512 : decode cL_law 512 = .ok (.iconst 1, 1) := by decide +kernel
theorem dL_law_513 : decode cL_law 513 = .ok (.iadd, 1) := by decide +kernel
theorem dL_law_514 : decode cL_law 514 = .ok (.iaload, 1) := by decide +kernel
theorem dL_law_515 : decode cL_law 515 = .ok (.aload_n 0, 1) := by decide +kernel
theorem dL_law_516 : decode cL_law 516 = .ok (.iload_n 3, 1) := by decide +kernel
theorem dL_law_517 : decode cL_law 517 = .ok (.iconst 2, 1) := by decide +kernel
theorem dL_law_518 : decode cL_law 518 = .ok (.iadd, 1) := by decide +kernel
theorem dL_law_519 : decode cL_law 519 = .ok (.iaload, 1) := by decide +kernel
theorem dL_law_520 : decode cL_law 520 = .ok (.aload_n 0, 1) := by decide +kernel
theorem dL_law_521 : decode cL_law 521 = .ok (.iload_n 3, 1) := by decide +kernel
theorem dL_law_522 : decode cL_law 522 = .ok (.iconst 3, 1) := by decide +kernel
theorem dL_law_523 : decode cL_law 523 = .ok (.iadd, 1) := by decide +kernel
theorem dL_law_524 : decode cL_law 524 = .ok (.iaload, 1) := by decide +kernel
theorem dL_law_525 : decode cL_law 525 = .ok (.invokevirtual 69, 3) := by decide +kernel
theorem dL_law_528 : decode cL_law 528 = .ok (.aload_n 2, 1) := by decide +kernel
theorem dL_law_529 : decode cL_law 529 = .ok (.aload_n 0, 1) := by decide +kernel
theorem dL_law_530 : decode cL_law 530 = .ok (.iload_n 3, 1) := by decide +kernel
theorem dL_law_531 : decode cL_law 531 = .ok (.iconst 1, 1) := by decide +kernel
theorem dL_law_532 : decode cL_law 532 = .ok (.iadd, 1) := by decide +kernel
theorem dL_law_533 : decode cL_law 533 = .ok (.iaload, 1) := by decide +kernel
theorem dL_law_534 : decode cL_law 534 = .ok (.aload_n 0, 1) := by decide +kernel
theorem dL_law_535 : decode cL_law 535 = .ok (.iload_n 3, 1) := by decide +kernel
theorem dL_law_536 : decode cL_law 536 = .ok (.iconst 2, 1) := by decide +kernel
theorem dL_law_537 : decode cL_law 537 = .ok (.iadd, 1) := by decide +kernel
theorem dL_law_538 : decode cL_law 538 = .ok (.iaload, 1) := by decide +kernel
theorem dL_law_539 : decode cL_law 539 = .ok (.aload_n 0, 1) := by decide +kernel
theorem dL_law_540 : decode cL_law 540 = .ok (.iload_n 3, 1) := by decide +kernel
theorem dL_law_541 : decode cL_law 541 = .ok (.iconst 3, 1) := by decide +kernel
theorem dL_law_542 : decode cL_law 542 = .ok (.iadd, 1) := by decide +kernel
theorem dL_law_543 : decode cL_law 543 = .ok (.iaload, 1) := by decide +kernel
theorem dL_law_544 : decode cL_law 544 = .ok (.invokevirtual 72, 3) := by decide +kernel
theorem dL_law_547 : decode cL_law 547 = .ok (.if_icmp .eq 252, 3) := by decide +kernel
theorem dL_law_550 : decode cL_law 550 = .ok (.iconst 0, 1) := by decide +kernel
theorem dL_law_551 : decode cL_law 551 = .ok (.ireturn, 1) := by decide +kernel
theorem dL_law_552 : decode cL_law 552 = .ok (.aload_n 1, 1) := by decide +kernel
theorem dL_law_553 : decode cL_law 553 = .ok (.aload_n 0, 1) := by decide +kernel
theorem dL_law_554 : decode cL_law 554 = .ok (.iload_n 3, 1) := by decide +kernel
theorem dL_law_555 : decode cL_law 555 = .ok (.iconst 1, 1) := by decide +kernel
theorem dL_law_556 : decode cL_law 556 = .ok (.iadd, 1) := by decide +kernel
theorem dL_law_557 : decode cL_law 557 = .ok (.iaload, 1) := by decide +kernel
theorem dL_law_558 : decode cL_law 558 = .ok (.aload_n 0, 1) := by decide +kernel
theorem dL_law_559 : decode cL_law 559 = .ok (.iload_n 3, 1) := by decide +kernel
theorem dL_law_560 : decode cL_law 560 = .ok (.iconst 2, 1) := by decide +kernel
theorem dL_law_561 : decode cL_law 561 = .ok (.iadd, 1) := by decide +kernel
theorem dL_law_562 : decode cL_law 562 = .ok (.iaload, 1) := by decide +kernel
theorem dL_law_563 : decode cL_law 563 = .ok (.invokevirtual 73, 3) := by decide +kernel
theorem dL_law_566 : decode cL_law 566 = .ok (.aload_n 2, 1) := by decide +kernel
theorem dL_law_567 : decode cL_law 567 = .ok (.aload_n 0, 1) := by decide +kernel
theorem dL_law_568 : decode cL_law 568 = .ok (.iload_n 3, 1) := by decide +kernel
theorem dL_law_569 : decode cL_law 569 = .ok (.iconst 1, 1) := by decide +kernel
theorem dL_law_570 : decode cL_law 570 = .ok (.iadd, 1) := by decide +kernel
theorem dL_law_571 : decode cL_law 571 = .ok (.iaload, 1) := by decide +kernel
theorem dL_law_572 : decode cL_law 572 = .ok (.aload_n 0, 1) := by decide +kernel
theorem dL_law_573 : decode cL_law 573 = .ok (.iload_n 3, 1) := by decide +kernel
theorem dL_law_574 : decode cL_law 574 = .ok (.iconst 2, 1) := by decide +kernel
theorem dL_law_575 : decode cL_law 575 = .ok (.iadd, 1) := by decide +kernel
theorem dL_law_576 : decode cL_law 576 = .ok (.iaload, 1) := by decide +kernel
theorem dL_law_577 : decode cL_law 577 = .ok (.invokevirtual 76, 3) := by decide +kernel
theorem dL_law_580 : decode cL_law 580 = .ok (.if_icmp .eq 219, 3) := by decide +kernel
theorem dL_law_583 : decode cL_law 583 = .ok (.iconst 0, 1) := by decide +kernel
theorem dL_law_584 : decode cL_law 584 = .ok (.ireturn, 1) := by decide +kernel
theorem dL_law_585 : decode cL_law 585 = .ok (.aload_n 1, 1) := by decide +kernel
theorem dL_law_586 : decode cL_law 586 = .ok (.aload_n 0, 1) := by decide +kernel
theorem dL_law_587 : decode cL_law 587 = .ok (.iload_n 3, 1) := by decide +kernel
theorem dL_law_588 : decode cL_law 588 = .ok (.iconst 1, 1) := by decide +kernel
theorem dL_law_589 : decode cL_law 589 = .ok (.iadd, 1) := by decide +kernel
theorem dL_law_590 : decode cL_law 590 = .ok (.iaload, 1) := by decide +kernel
theorem dL_law_591 : decode cL_law 591 = .ok (.aload_n 0, 1) := by decide +kernel
theorem dL_law_592 : decode cL_law 592 = .ok (.iload_n 3, 1) := by decide +kernel
theorem dL_law_593 : decode cL_law 593 = .ok (.iconst 2, 1) := by decide +kernel
theorem dL_law_594 : decode cL_law 594 = .ok (.iadd, 1) := by decide +kernel
theorem dL_law_595 : decode cL_law 595 = .ok (.iaload, 1) := by decide +kernel
theorem dL_law_596 : decode cL_law 596 = .ok (.invokevirtual 77, 3) := by decide +kernel
theorem dL_law_599 : decode cL_law 599 = .ok (.aload_n 2, 1) := by decide +kernel
theorem dL_law_600 : decode cL_law 600 = .ok (.aload_n 0, 1) := by decide +kernel
theorem dL_law_601 : decode cL_law 601 = .ok (.iload_n 3, 1) := by decide +kernel
theorem dL_law_602 : decode cL_law 602 = .ok (.iconst 1, 1) := by decide +kernel
theorem dL_law_603 : decode cL_law 603 = .ok (.iadd, 1) := by decide +kernel
theorem dL_law_604 : decode cL_law 604 = .ok (.iaload, 1) := by decide +kernel
theorem dL_law_605 : decode cL_law 605 = .ok (.aload_n 0, 1) := by decide +kernel
theorem dL_law_606 : decode cL_law 606 = .ok (.iload_n 3, 1) := by decide +kernel
theorem dL_law_607 : decode cL_law 607 = .ok (.iconst 2, 1) := by decide +kernel
theorem dL_law_608 : decode cL_law 608 = .ok (.iadd, 1) := by decide +kernel
theorem dL_law_609 : decode cL_law 609 = .ok (.iaload, 1) := by decide +kernel
end
section
theorem dL_law_610 : decode cL_law 610 = .ok (.invokevirtual 80, 3) := by decide +kernel
theorem dL_law_613 : decode cL_law 613 = .ok (.if_icmp .eq 186, 3) := by decide +kernel
theorem dL_law_616 : decode cL_law 616 = .ok (.iconst 0, 1) := by decide +kernel
theorem dL_law_617 : decode cL_law 617 = .ok (.ireturn, 1) := by decide +kernel
theorem dL_law_618 : decode cL_law 618 = .ok (.aload_n 1, 1) := by decide +kernel
theorem dL_law_619 : decode cL_law 619 = .ok (.aload_n 0, 1) := by decide +kernel
theorem dL_law_620 : decode cL_law 620 = .ok (.iload_n 3, 1) := by decide +kernel
theorem dL_law_621 : decode cL_law 621 = .ok (.iconst 1, 1) := by decide +kernel
theorem dL_law_622 : decode cL_law 622 = .ok (.iadd, 1) := by decide +kernel
theorem dL_law_623 : decode cL_law 623 = .ok (.iaload, 1) := by decide +kernel
theorem dL_law_624 : decode cL_law 624 = .ok (.aload_n 0, 1) := by decide +kernel
theorem dL_law_625 : decode cL_law 625 = .ok (.iload_n 3, 1) := by decide +kernel
theorem dL_law_626 : decode cL_law 626 = .ok (.iconst 2, 1) := by decide +kernel
theorem dL_law_627 : decode cL_law 627 = .ok (.iadd, 1) := by decide +kernel
theorem dL_law_628 : decode cL_law 628 = .ok (.iaload, 1) := by decide +kernel
theorem dL_law_629 : decode cL_law 629 = .ok (.invokevirtual 81, 3) := by decide +kernel
theorem dL_law_632 : decode cL_law 632 = .ok (.aload_n 2, 1) := by decide +kernel
theorem dL_law_633 : decode cL_law 633 = .ok (.aload_n 0, 1) := by decide +kernel
theorem dL_law_634 : decode cL_law 634 = .ok (.iload_n 3, 1) := by decide +kernel
theorem dL_law_635 : decode cL_law 635 = .ok (.iconst 1, 1) := by decide +kernel
theorem dL_law_636 : decode cL_law 636 = .ok (.iadd, 1) := by decide +kernel
theorem dL_law_637 : decode cL_law 637 = .ok (.iaload, 1) := by decide +kernel
theorem dL_law_638 : decode cL_law 638 = .ok (.aload_n 0, 1) := by decide +kernel
theorem dL_law_639 : decode cL_law 639 = .ok (.iload_n 3, 1) := by decide +kernel
theorem dL_law_640 : decode cL_law 640 = .ok (.iconst 2, 1) := by decide +kernel
theorem dL_law_641 : decode cL_law 641 = .ok (.iadd, 1) := by decide +kernel
theorem dL_law_642 : decode cL_law 642 = .ok (.iaload, 1) := by decide +kernel
theorem dL_law_643 : decode cL_law 643 = .ok (.invokevirtual 84, 3) := by decide +kernel
theorem dL_law_646 : decode cL_law 646 = .ok (.if_icmp .eq 153, 3) := by decide +kernel
theorem dL_law_649 : decode cL_law 649 = .ok (.iconst 0, 1) := by decide +kernel
theorem dL_law_650 : decode cL_law 650 = .ok (.ireturn, 1) := by decide +kernel
theorem dL_law_651 : decode cL_law 651 = .ok (.aload_n 1, 1) := by decide +kernel
theorem dL_law_652 : decode cL_law 652 = .ok (.aload_n 0, 1) := by decide +kernel
theorem dL_law_653 : decode cL_law 653 = .ok (.iload_n 3, 1) := by decide +kernel
theorem dL_law_654 : decode cL_law 654 = .ok (.iconst 1, 1) := by decide +kernel
theorem dL_law_655 : decode cL_law 655 = .ok (.iadd, 1) := by decide +kernel
theorem dL_law_656 : decode cL_law 656 = .ok (.iaload, 1) := by decide +kernel
theorem dL_law_657 : decode cL_law 657 = .ok (.aload_n 0, 1) := by decide +kernel
theorem dL_law_658 : decode cL_law 658 = .ok (.iload_n 3, 1) := by decide +kernel
theorem dL_law_659 : decode cL_law 659 = .ok (.iconst 2, 1) := by decide +kernel
theorem dL_law_660 : decode cL_law 660 = .ok (.iadd, 1) := by decide +kernel
theorem dL_law_661 : decode cL_law 661 = .ok (.iaload, 1) := by decide +kernel
theorem dL_law_662 : decode cL_law 662 = .ok (.invokevirtual 85, 3) := by decide +kernel
theorem dL_law_665 : decode cL_law 665 = .ok (.aload_n 2, 1) := by decide +kernel
theorem dL_law_666 : decode cL_law 666 = .ok (.aload_n 0, 1) := by decide +kernel
theorem dL_law_667 : decode cL_law 667 = .ok (.iload_n 3, 1) := by decide +kernel
theorem dL_law_668 : decode cL_law 668 = .ok (.iconst 1, 1) := by decide +kernel
theorem dL_law_669 : decode cL_law 669 = .ok (.iadd, 1) := by decide +kernel
theorem dL_law_670 : decode cL_law 670 = .ok (.iaload, 1) := by decide +kernel
theorem dL_law_671 : decode cL_law 671 = .ok (.aload_n 0, 1) := by decide +kernel
theorem dL_law_672 : decode cL_law 672 = .ok (.iload_n 3, 1) := by decide +kernel
theorem dL_law_673 : decode cL_law 673 = .ok (.iconst 2, 1) := by decide +kernel
theorem dL_law_674 : decode cL_law 674 = .ok (.iadd, 1) := by decide +kernel
theorem dL_law_675 : decode cL_law 675 = .ok (.iaload, 1) := by decide +kernel
theorem dL_law_676 : decode cL_law 676 = .ok (.invokevirtual 88, 3) := by decide +kernel
theorem dL_law_679 : decode cL_law 679 = .ok (.if_icmp .eq 120, 3) := by decide +kernel
theorem dL_law_682 : decode cL_law 682 = .ok (.iconst 0, 1) := by decide +kernel
theorem dL_law_683 : decode cL_law 683 = .ok (.ireturn, 1) := by decide +kernel
theorem dL_law_684 : decode cL_law 684 = .ok (.aload_n 1, 1) := by decide +kernel
theorem dL_law_685 : decode cL_law 685 = .ok (.aload_n 0, 1) := by decide +kernel
theorem dL_law_686 : decode cL_law 686 = .ok (.iload_n 3, 1) := by decide +kernel
theorem dL_law_687 : decode cL_law 687 = .ok (.iconst 1, 1) := by decide +kernel
theorem dL_law_688 : decode cL_law 688 = .ok (.iadd, 1) := by decide +kernel
theorem dL_law_689 : decode cL_law 689 = .ok (.iaload, 1) := by decide +kernel
theorem dL_law_690 : decode cL_law 690 = .ok (.aload_n 0, 1) := by decide +kernel
theorem dL_law_691 : decode cL_law 691 = .ok (.iload_n 3, 1) := by decide +kernel
theorem dL_law_692 : decode cL_law 692 = .ok (.iconst 2, 1) := by decide +kernel
theorem dL_law_693 : decode cL_law 693 = .ok (.iadd, 1) := by decide +kernel
theorem dL_law_694 : decode cL_law 694 = .ok (.iaload, 1) := by decide +kernel
theorem dL_law_695 : decode cL_law 695 = .ok (.invokevirtual 89, 3) := by decide +kernel
theorem dL_law_698 : decode cL_law 698 = .ok (.aload_n 2, 1) := by decide +kernel
theorem dL_law_699 : decode cL_law 699 = .ok (.aload_n 0, 1) := by decide +kernel
theorem dL_law_700 : decode cL_law 700 = .ok (.iload_n 3, 1) := by decide +kernel
theorem dL_law_701 : decode cL_law 701 = .ok (.iconst 1, 1) := by decide +kernel
theorem dL_law_702 : decode cL_law 702 = .ok (.iadd, 1) := by decide +kernel
theorem dL_law_703 : decode cL_law 703 = .ok (.iaload, 1) := by decide +kernel
theorem dL_law_704 : decode cL_law 704 = .ok (.aload_n 0, 1) := by decide +kernel
theorem dL_law_705 : decode cL_law 705 = .ok (.iload_n 3, 1) := by decide +kernel
theorem dL_law_706 : decode cL_law 706 = .ok (.iconst 2, 1) := by decide +kernel
theorem dL_law_707 : decode cL_law 707 = .ok (.iadd, 1) := by decide +kernel
theorem dL_law_708 : decode cL_law 708 = .ok (.iaload, 1) := by decide +kernel
theorem dL_law_709 : decode cL_law 709 = .ok (.invokevirtual 92, 3) := by decide +kernel
theorem dL_law_712 : decode cL_law 712 = .ok (.if_icmp .eq 87, 3) := by decide +kernel
theorem dL_law_715 : decode cL_law 715 = .ok (.iconst 0, 1) := by decide +kernel
theorem dL_law_716 : decode cL_law 716 = .ok (.ireturn, 1) := by decide +kernel
theorem dL_law_717 : decode cL_law 717 = .ok (.aload_n 1, 1) := by decide +kernel
theorem dL_law_718 : decode cL_law 718 = .ok (.invokevirtual 93, 3) := by decide +kernel
theorem dL_law_721 : decode cL_law 721 = .ok (.aload_n 2, 1) := by decide +kernel
theorem dL_law_722 : decode cL_law 722 = .ok (.invokevirtual 96, 3) := by decide +kernel
theorem dL_law_725 : decode cL_law 725 = .ok (.if_icmp .eq 74, 3) := by decide +kernel
theorem dL_law_728 : decode cL_law 728 = .ok (.iconst 0, 1) := by decide +kernel
theorem dL_law_729 : decode cL_law 729 = .ok (.ireturn, 1) := by decide +kernel
theorem dL_law_730 : decode cL_law 730 = .ok (.aload_n 1, 1) := by decide +kernel
theorem dL_law_731 : decode cL_law 731 = .ok (.aload_n 0, 1) := by decide +kernel
theorem dL_law_732 : decode cL_law 732 = .ok (.iload_n 3, 1) := by decide +kernel
theorem dL_law_733 : decode cL_law 733 = .ok (.iconst 1, 1) := by decide +kernel
theorem dL_law_734 : decode cL_law 734 = .ok (.iadd, 1) := by decide +kernel
theorem dL_law_735 : decode cL_law 735 = .ok (.iaload, 1) := by decide +kernel
theorem dL_law_736 : decode cL_law 736 = .ok (.invokevirtual 97, 3) := by decide +kernel
theorem dL_law_739 : decode cL_law 739 = .ok (.aload_n 2, 1) := by decide +kernel
theorem dL_law_740 : decode cL_law 740 = .ok (.aload_n 0, 1) := by decide +kernel
theorem dL_law_741 : decode cL_law 741 = .ok (.iload_n 3, 1) := by decide +kernel
theorem dL_law_742 : decode cL_law 742 = .ok (.iconst 1, 1) := by decide +kernel
theorem dL_law_743 : decode cL_law 743 = .ok (.iadd, 1) := by decide +kernel
theorem dL_law_744 : decode cL_law 744 = .ok (.iaload, 1) := by decide +kernel
theorem dL_law_745 : decode cL_law 745 = .ok (.invokevirtual 100, 3) := by decide +kernel
theorem dL_law_748 : decode cL_law 748 = .ok (.if_icmp .eq 51, 3) := by decide +kernel
theorem dL_law_751 : decode cL_law 751 = .ok (.iconst 0, 1) := by decide +kernel
theorem dL_law_752 : decode cL_law 752 = .ok (.ireturn, 1) := by decide +kernel
theorem dL_law_753 : decode cL_law 753 = .ok (.aload_n 1, 1) := by decide +kernel
theorem dL_law_754 : decode cL_law 754 = .ok (.aload_n 0, 1) := by decide +kernel
theorem dL_law_755 : decode cL_law 755 = .ok (.iload_n 3, 1) := by decide +kernel
theorem dL_law_756 : decode cL_law 756 = .ok (.iconst 1, 1) := by decide +kernel
theorem dL_law_757 : decode cL_law 757 = .ok (.iadd, 1) := by decide +kernel
theorem dL_law_758 : decode cL_law 758 = .ok (.iaload, 1) := by decide +kernel
theorem dL_law_759 : decode cL_law 759 = .ok (.invokevirtual 101, 3) := by decide +kernel
theorem dL_law_762 : decode cL_law 762 = .ok (.aload_n 2, 1) := by decide +kernel
theorem dL_law_763 : decode cL_law 763 = .ok (.aload_n 0, 1) := by decide +kernel
theorem dL_law_764 : decode cL_law 764 = .ok (.iload_n 3, 1) := by decide +kernel
theorem dL_law_765 : decode cL_law 765 = .ok (.iconst 1, 1) := by decide +kernel
theorem dL_law_766 : decode cL_law 766 = .ok (.iadd, 1) := by decide +kernel
theorem dL_law_767 : decode cL_law 767 = .ok (.iaload, 1) := by decide +kernel
theorem dL_law_768 : decode cL_law 768 = .ok (.invokevirtual 104, 3) := by decide +kernel
theorem dL_law_771 : decode cL_law 771 = .ok (.if_icmp .eq 28, 3) := by decide +kernel
theorem dL_law_774 : decode cL_law 774 = .ok (.iconst 0, 1) := by decide +kernel
theorem dL_law_775 : decode cL_law 775 = .ok (.ireturn, 1) := by decide +kernel
theorem dL_law_776 : decode cL_law 776 = .ok (.aload_n 1, 1) := by decide +kernel
theorem dL_law_777 : decode cL_law 777 = .ok (.aload_n 0, 1) := by decide +kernel
theorem dL_law_778 : decode cL_law 778 = .ok (.iload_n 3, 1) := by decide +kernel
theorem dL_law_779 : decode cL_law 779 = .ok (.iconst 1, 1) := by decide +kernel
theorem dL_law_780 : decode cL_law 780 = .ok (.iadd, 1) := by decide +kernel
theorem dL_law_781 : decode cL_law 781 = .ok (.iaload, 1) := by decide +kernel
theorem dL_law_782 : decode cL_law 782 = .ok (.invokevirtual 105, 3) := by decide +kernel
theorem dL_law_785 : decode cL_law 785 = .ok (.aload_n 2, 1) := by decide +kernel
theorem dL_law_786 : decode cL_law 786 = .ok (.aload_n 0, 1) := by decide +kernel
theorem dL_law_787 : decode cL_law 787 = .ok (.iload_n 3, 1) := by decide +kernel
theorem dL_law_788 : decode cL_law 788 = .ok (.iconst 1, 1) := by decide +kernel
theorem dL_law_789 : decode cL_law 789 = .ok (.iadd, 1) := by decide +kernel
theorem dL_law_790 : decode cL_law 790 = .ok (.iaload, 1) := by decide +kernel
theorem dL_law_791 : decode cL_law 791 = .ok (.invokevirtual 108, 3) := by decide +kernel
theorem dL_law_794 : decode cL_law 794 = .ok (.if_icmp .eq 5, 3) := by decide +kernel
theorem dL_law_797 : decode cL_law 797 = .ok (.iconst 0, 1) := by decide +kernel
theorem dL_law_798 : decode cL_law 798 = .ok (.ireturn, 1) := by decide +kernel
theorem dL_law_799 : decode cL_law 799 = .ok (.iinc 3 4, 3) := by decide +kernel
theorem dL_law_802 : decode cL_law 802 = .ok (.goto (-784), 3) := by decide +kernel
theorem dL_law_805 : decode cL_law 805 = .ok (.iconst 1, 1) := by decide +kernel
theorem dL_law_806 : decode cL_law 806 = .ok (.ireturn, 1) := by decide +kernel
end
section
/-- the tables' words that stay so, whatever is resolved meanwhile -/
def TB : List Cond := lw_tbl.filter goodWord
theorem tbw {w : Cond} (i : Nat) (h : tables_1[i]? = some w) (hg : goodWord w = true) : w ∈ TB := List.mem_filter.mpr ⟨List.mem_append_right _ (List.mem_of_getElem? h), hg⟩
theorem tbs {w : Cond} (i : Nat) (h : (k2_sels lw_privs)[i]? = some w) (hg : goodWord w = true) : w ∈ TB := List.mem_filter.mpr ⟨List.mem_append_left _ (List.mem_of_getElem? h), hg⟩
theorem tb_good {c : Cond} (hc : c ∈ TB) : GoodIn TB (c :: TB) := fun w h => by
  rcases List.mem_cons.mp h with rfl | h
  · exact ⟨hc, good_of_word (List.mem_filter.mp hc).2⟩
  · exact ⟨h, good_of_word (List.mem_filter.mp h).2⟩
theorem wi_RL : Cond.initialized RL ∈ TB := tbw 0 rfl rfl
theorem wi_RX10 : Cond.initialized RX10 ∈ TB := tbw 1 rfl rfl
theorem wi_RX3 : Cond.initialized RX3 ∈ TB := tbw 2 rfl rfl
theorem wi_RX0 : Cond.initialized RX0 ∈ TB := tbw 3 rfl rfl
theorem wi_RX7 : Cond.initialized RX7 ∈ TB := tbw 4 rfl rfl
theorem wi_RX6 : Cond.initialized RX6 ∈ TB := tbw 5 rfl rfl
theorem wi_RX5 : Cond.initialized RX5 ∈ TB := tbw 6 rfl rfl
theorem wi_RX8 : Cond.initialized RX8 ∈ TB := tbw 7 rfl rfl
theorem wi_RX4 : Cond.initialized RX4 ∈ TB := tbw 8 rfl rfl
theorem wi_RX9 : Cond.initialized RX9 ∈ TB := tbw 9 rfl rfl
theorem wi_RX11 : Cond.initialized RX11 ∈ TB := tbw 10 rfl rfl
theorem wi_RJ10 : Cond.initialized RJ10 ∈ TB := tbw 11 rfl rfl
theorem wi_RJ6 : Cond.initialized RJ6 ∈ TB := tbw 12 rfl rfl
theorem wi_RX1 : Cond.initialized RX1 ∈ TB := tbw 13 rfl rfl
theorem wi_RX2 : Cond.initialized RX2 ∈ TB := tbw 14 rfl rfl
theorem wi_RJ9 : Cond.initialized RJ9 ∈ TB := tbw 15 rfl rfl
theorem wi_RJ7 : Cond.initialized RJ7 ∈ TB := tbw 16 rfl rfl
theorem wcl_L_7 : Cond.classLink RL 7 RX10 ∈ TB := tbw 17 rfl rfl
theorem win_X10 : Cond.instantiable RX10 7 ∈ TB := tbw 18 rfl rfl
theorem wl_L_9 : Cond.methodLink RL 9 yX10_init ∈ TB := tbw 19 rfl rfl
theorem wm_X10_init : Cond.instanceMethod yX10_init ∈ TB := tbw 20 rfl rfl
theorem wc_X10_init : Cond.code yX10_init cX10_init 2 none ∈ TB := tbw 21 rfl rfl
theorem wl_X10_1 : Cond.methodLink RX10 1 objectInit ∈ TB := tbw 22 rfl rfl
theorem wm_objectInit : Cond.instanceMethod objectInit ∈ TB := tbw 23 rfl rfl
theorem wc_objectInit : Cond.code objectInit object_method_1_code 1 none ∈ TB := tbw 24 rfl rfl
theorem wcl_X10_7 : Cond.classLink RX10 7 RX3 ∈ TB := tbw 25 rfl rfl
theorem win_X3 : Cond.instantiable RX3 4 ∈ TB := tbw 26 rfl rfl
theorem wm_X3_init : Cond.instanceMethod yX3_init ∈ TB := tbw 28 rfl rfl
theorem wc_X3_init : Cond.code yX3_init cX3_init 1 none ∈ TB := tbw 29 rfl rfl
theorem wl_X3_3 : Cond.methodLink RX3 3 objectInit ∈ TB := tbw 30 rfl rfl
theorem wcl_X3_9 : Cond.classLink RX3 9 RX0 ∈ TB := tbw 31 rfl rfl
theorem win_X0 : Cond.instantiable RX0 3 ∈ TB := tbw 32 rfl rfl
theorem wl_X3_11 : Cond.methodLink RX3 11 yX0_init ∈ TB := tbw 33 rfl rfl
theorem wm_X0_init : Cond.instanceMethod yX0_init ∈ TB := tbw 34 rfl rfl
theorem wc_X0_init : Cond.code yX0_init cX0_init 1 none ∈ TB := tbw 35 rfl rfl
theorem wl_X0_1 : Cond.methodLink RX0 1 objectInit ∈ TB := tbw 36 rfl rfl
theorem wl_X0_7 : Cond.methodLink RX0 7 yX0_set ∈ TB := tbw 37 rfl rfl
theorem wm_X0_set : Cond.instanceMethod yX0_set ∈ TB := tbw 38 rfl rfl
theorem wv_X0_set : Cond.selects RX0 yX0_set yX0_set ∈ TB := tbw 39 rfl rfl
theorem wc_X0_set : Cond.code yX0_set cX0_set 4 none ∈ TB := tbw 40 rfl rfl
theorem wf_X0_13 : Cond.fieldLink RX0 13 "GridRows$Code" "memory" "I" ∈ TB := tbw 41 rfl rfl
theorem wf_X3_40 : Cond.fieldLink RX3 40 "GridRows$Code" "memory" "I" ∈ TB := tbw 42 rfl rfl
theorem wf_X10_139 : Cond.fieldLink RX10 139 "GridRows$Code" "memory" "I" ∈ TB := tbw 43 rfl rfl
theorem wf_X0_17 : Cond.fieldLink RX0 17 "GridRows$Code" "ruleG" "I" ∈ TB := tbw 44 rfl rfl
theorem wf_X3_43 : Cond.fieldLink RX3 43 "GridRows$Code" "ruleG" "I" ∈ TB := tbw 45 rfl rfl
theorem wf_X10_142 : Cond.fieldLink RX10 142 "GridRows$Code" "ruleG" "I" ∈ TB := tbw 46 rfl rfl
theorem wf_X0_20 : Cond.fieldLink RX0 20 "GridRows$Code" "ruleH" "I" ∈ TB := tbw 47 rfl rfl
theorem wf_X3_46 : Cond.fieldLink RX3 46 "GridRows$Code" "ruleH" "I" ∈ TB := tbw 48 rfl rfl
theorem wf_X10_145 : Cond.fieldLink RX10 145 "GridRows$Code" "ruleH" "I" ∈ TB := tbw 49 rfl rfl
theorem wcl_X3_18 : Cond.classLink RX3 18 RX7 ∈ TB := tbw 57 rfl rfl
theorem win_X7 : Cond.instantiable RX7 5 ∈ TB := tbw 58 rfl rfl
theorem wm_X7_init : Cond.instanceMethod yX7_init ∈ TB := tbw 60 rfl rfl
theorem wc_X7_init : Cond.code yX7_init cX7_init 1 none ∈ TB := tbw 61 rfl rfl
theorem wl_X7_3 : Cond.methodLink RX7 3 objectInit ∈ TB := tbw 62 rfl rfl
theorem wf_X7_24 : Cond.fieldLink RX7 24 "GridRows$Row" "count" "I" ∈ TB := tbw 63 rfl rfl
theorem wf_X3_36 : Cond.fieldLink RX3 36 "GridRows$Row" "count" "I" ∈ TB := tbw 64 rfl rfl
theorem wf_X8_46 : Cond.fieldLink RX8 46 "GridRows$Row" "count" "I" ∈ TB := tbw 65 rfl rfl
theorem wf_X10_128 : Cond.fieldLink RX10 128 "GridRows$Row" "count" "I" ∈ TB := tbw 66 rfl rfl
theorem wf_X7_9 : Cond.fieldLink RX7 9 "GridRows$Row" "bits" "[I" ∈ TB := tbw 67 rfl rfl
theorem wf_X7_15 : Cond.fieldLink RX7 15 "GridRows$Row" "choices" "[I" ∈ TB := tbw 68 rfl rfl
theorem wf_X10_230 : Cond.fieldLink RX10 230 "GridRows$Row" "choices" "[I" ∈ TB := tbw 69 rfl rfl
theorem wf_X7_18 : Cond.fieldLink RX7 18 "GridRows$Row" "points" "[I" ∈ TB := tbw 70 rfl rfl
theorem wf_X10_222 : Cond.fieldLink RX10 222 "GridRows$Row" "points" "[I" ∈ TB := tbw 71 rfl rfl
theorem wf_X7_21 : Cond.fieldLink RX7 21 "GridRows$Row" "states" "[I" ∈ TB := tbw 72 rfl rfl
theorem wa_int : Cond.arrayClass .int ∈ TB := tbw 84 rfl rfl
theorem wcl_X3_25 : Cond.classLink RX3 25 RX6 ∈ TB := tbw 85 rfl rfl
theorem win_X6 : Cond.instantiable RX6 3 ∈ TB := tbw 86 rfl rfl
theorem wm_X6_init : Cond.instanceMethod yX6_init ∈ TB := tbw 88 rfl rfl
theorem wc_X6_init : Cond.code yX6_init cX6_init 1 none ∈ TB := tbw 89 rfl rfl
theorem wl_X6_3 : Cond.methodLink RX6 3 objectInit ∈ TB := tbw 90 rfl rfl
theorem wf_X6_18 : Cond.fieldLink RX6 18 "GridRows$Places" "count" "I" ∈ TB := tbw 91 rfl rfl
theorem wf_X3_39 : Cond.fieldLink RX3 39 "GridRows$Places" "count" "I" ∈ TB := tbw 92 rfl rfl
theorem wf_X10_107 : Cond.fieldLink RX10 107 "GridRows$Places" "count" "I" ∈ TB := tbw 93 rfl rfl
theorem wf_X6_9 : Cond.fieldLink RX6 9 "GridRows$Places" "xs" "[I" ∈ TB := tbw 94 rfl rfl
theorem wf_X8_55 : Cond.fieldLink RX8 55 "GridRows$Places" "xs" "[I" ∈ TB := tbw 95 rfl rfl
theorem wf_X10_206 : Cond.fieldLink RX10 206 "GridRows$Places" "xs" "[I" ∈ TB := tbw 96 rfl rfl
theorem wf_X6_15 : Cond.fieldLink RX6 15 "GridRows$Places" "ys" "[I" ∈ TB := tbw 97 rfl rfl
theorem wf_X8_60 : Cond.fieldLink RX8 60 "GridRows$Places" "ys" "[I" ∈ TB := tbw 98 rfl rfl
theorem wf_X10_210 : Cond.fieldLink RX10 210 "GridRows$Places" "ys" "[I" ∈ TB := tbw 99 rfl rfl
theorem wf_X3_12 : Cond.fieldLink RX3 12 "GridRows$Moment" "code" "LGridRows$Code;" ∈ TB := tbw 107 rfl rfl
theorem wf_X8_38 : Cond.fieldLink RX8 38 "GridRows$Moment" "code" "LGridRows$Code;" ∈ TB := tbw 108 rfl rfl
theorem wf_X10_61 : Cond.fieldLink RX10 61 "GridRows$Moment" "code" "LGridRows$Code;" ∈ TB := tbw 109 rfl rfl
theorem wf_X3_21 : Cond.fieldLink RX3 21 "GridRows$Moment" "row" "LGridRows$Row;" ∈ TB := tbw 110 rfl rfl
theorem wf_X10_82 : Cond.fieldLink RX10 82 "GridRows$Moment" "row" "LGridRows$Row;" ∈ TB := tbw 111 rfl rfl
theorem wf_X3_28 : Cond.fieldLink RX3 28 "GridRows$Moment" "places" "LGridRows$Places;" ∈ TB := tbw 112 rfl rfl
theorem wf_X8_28 : Cond.fieldLink RX8 28 "GridRows$Moment" "places" "LGridRows$Places;" ∈ TB := tbw 113 rfl rfl
theorem wf_X10_97 : Cond.fieldLink RX10 97 "GridRows$Moment" "places" "LGridRows$Places;" ∈ TB := tbw 114 rfl rfl
theorem wf_X3_32 : Cond.fieldLink RX3 32 "GridRows$Moment" "ending" "I" ∈ TB := tbw 115 rfl rfl
theorem wf_X10_74 : Cond.fieldLink RX10 74 "GridRows$Moment" "ending" "I" ∈ TB := tbw 116 rfl rfl
theorem wcl_X10_16 : Cond.classLink RX10 16 RX5 ∈ TB := tbw 126 rfl rfl
theorem win_X5 : Cond.instantiable RX5 3 ∈ TB := tbw 127 rfl rfl
theorem wl_X10_18 : Cond.methodLink RX10 18 yX5_init ∈ TB := tbw 128 rfl rfl
theorem wm_X5_init : Cond.instanceMethod yX5_init ∈ TB := tbw 129 rfl rfl
theorem wc_X5_init : Cond.code yX5_init cX5_init 2 none ∈ TB := tbw 130 rfl rfl
theorem wl_X5_3 : Cond.methodLink RX5 3 objectInit ∈ TB := tbw 131 rfl rfl
theorem wcl_X5_9 : Cond.classLink RX5 9 RX3 ∈ TB := tbw 132 rfl rfl
theorem wf_X5_22 : Cond.fieldLink RX5 22 "GridRows$Past" "count" "I" ∈ TB := tbw 135 rfl rfl
theorem wf_X10_134 : Cond.fieldLink RX10 134 "GridRows$Past" "count" "I" ∈ TB := tbw 136 rfl rfl
theorem wf_X5_18 : Cond.fieldLink RX5 18 "GridRows$Past" "oldest" "I" ∈ TB := tbw 137 rfl rfl
theorem wf_X5_11 : Cond.fieldLink RX5 11 "GridRows$Past" "ring" "[LGridRows$Moment;" ∈ TB := tbw 138 rfl rfl
theorem wcl_X10_31 : Cond.classLink RX10 31 RX8 ∈ TB := tbw 146 rfl rfl
theorem win_X8 : Cond.instantiable RX8 4 ∈ TB := tbw 147 rfl rfl
theorem wm_X8_init : Cond.instanceMethod yX8_init ∈ TB := tbw 149 rfl rfl
theorem wc_X8_init : Cond.code yX8_init cX8_init 1 none ∈ TB := tbw 150 rfl rfl
theorem wl_X8_3 : Cond.methodLink RX8 3 objectInit ∈ TB := tbw 151 rfl rfl
theorem wcl_X8_9 : Cond.classLink RX8 9 RX7 ∈ TB := tbw 152 rfl rfl
theorem wf_X8_12 : Cond.fieldLink RX8 12 "GridRows$Search" "row" "LGridRows$Row;" ∈ TB := tbw 154 rfl rfl
theorem wf_X10_217 : Cond.fieldLink RX10 217 "GridRows$Search" "row" "LGridRows$Row;" ∈ TB := tbw 155 rfl rfl
theorem wf_X8_18 : Cond.fieldLink RX8 18 "GridRows$Search" "choices" "[I" ∈ TB := tbw 156 rfl rfl
theorem wf_X8_22 : Cond.fieldLink RX8 22 "GridRows$Search" "tolls" "[I" ∈ TB := tbw 157 rfl rfl
theorem wf_X8_25 : Cond.fieldLink RX8 25 "GridRows$Search" "rest" "[I" ∈ TB := tbw 158 rfl rfl
theorem wa_boolean : Cond.arrayClass .boolean ∈ TB := tbw 168 rfl rfl
theorem wcl_X10_38 : Cond.classLink RX10 38 RX4 ∈ TB := tbw 169 rfl rfl
theorem win_X4 : Cond.instantiable RX4 3 ∈ TB := tbw 170 rfl rfl
theorem wm_X4_init : Cond.instanceMethod yX4_init ∈ TB := tbw 172 rfl rfl
theorem wc_X4_init : Cond.code yX4_init cX4_init 1 none ∈ TB := tbw 173 rfl rfl
theorem wl_X4_3 : Cond.methodLink RX4 3 objectInit ∈ TB := tbw 174 rfl rfl
theorem wf_X4_9 : Cond.fieldLink RX4 9 "GridRows$Parting" "gaps" "[I" ∈ TB := tbw 175 rfl rfl
theorem wf_X4_15 : Cond.fieldLink RX4 15 "GridRows$Parting" "sums" "[I" ∈ TB := tbw 176 rfl rfl
theorem wf_X4_18 : Cond.fieldLink RX4 18 "GridRows$Parting" "laterSums" "[I" ∈ TB := tbw 177 rfl rfl
theorem wcl_X10_45 : Cond.classLink RX10 45 RX9 ∈ TB := tbw 185 rfl rfl
theorem win_X9 : Cond.instantiable RX9 2 ∈ TB := tbw 186 rfl rfl
theorem wm_X9_init : Cond.instanceMethod yX9_init ∈ TB := tbw 188 rfl rfl
theorem wc_X9_init : Cond.code yX9_init cX9_init 1 none ∈ TB := tbw 189 rfl rfl
theorem wl_X9_3 : Cond.methodLink RX9 3 objectInit ∈ TB := tbw 190 rfl rfl
theorem wf_X9_11 : Cond.fieldLink RX9 11 "GridRows$Turning" "reached" "[I" ∈ TB := tbw 191 rfl rfl
theorem wf_X9_27 : Cond.fieldLink RX9 27 "GridRows$Turning" "grown" "Z" ∈ TB := tbw 192 rfl rfl
theorem wf_X10_10 : Cond.fieldLink RX10 10 "GridRows" "now" "LGridRows$Moment;" ∈ TB := tbw 198 rfl rfl
theorem wf_X10_19 : Cond.fieldLink RX10 19 "GridRows" "past" "LGridRows$Past;" ∈ TB := tbw 199 rfl rfl
theorem wf_X10_23 : Cond.fieldLink RX10 23 "GridRows" "images" "[LGridRows$Moment;" ∈ TB := tbw 200 rfl rfl
theorem wf_X10_27 : Cond.fieldLink RX10 27 "GridRows" "kept" "[Z" ∈ TB := tbw 201 rfl rfl
theorem wf_X10_34 : Cond.fieldLink RX10 34 "GridRows" "search" "LGridRows$Search;" ∈ TB := tbw 202 rfl rfl
theorem wf_X10_41 : Cond.fieldLink RX10 41 "GridRows" "parting" "LGridRows$Parting;" ∈ TB := tbw 203 rfl rfl
theorem wf_X10_48 : Cond.fieldLink RX10 48 "GridRows" "turning" "LGridRows$Turning;" ∈ TB := tbw 204 rfl rfl
theorem wl_L_13 : Cond.methodLink RL 13 yX10_code ∈ TB := tbw 220 rfl rfl
theorem wm_X10_code : Cond.instanceMethod yX10_code ∈ TB := tbw 221 rfl rfl
theorem wv_X10_code : Cond.selects RX10 yX10_code yX10_code ∈ TB := tbw 222 rfl rfl
theorem wc_X10_code : Cond.code yX10_code cX10_code 5 (some .int) ∈ TB := tbw 223 rfl rfl
theorem wk_X10_52 : Cond.constant RX10 52 (-1000000002) ∈ TB := tbw 224 rfl rfl
theorem wl_X10_53 : Cond.methodLink RX10 53 yX10_isOutside ∈ TB := tbw 225 rfl rfl
theorem ws_X10_isOutside : Cond.static yX10_isOutside ∈ TB := tbw 226 rfl rfl
theorem wc_X10_isOutside : Cond.code yX10_isOutside cX10_isOutside 3 (some .boolean) ∈ TB := tbw 227 rfl rfl
theorem wl_X10_57 : Cond.methodLink RX10 57 yX5_push ∈ TB := tbw 228 rfl rfl
theorem wm_X5_push : Cond.instanceMethod yX5_push ∈ TB := tbw 229 rfl rfl
theorem wv_X5_push : Cond.selects RX5 yX5_push yX5_push ∈ TB := tbw 230 rfl rfl
theorem wc_X5_push : Cond.code yX5_push cX5_push 2 none ∈ TB := tbw 231 rfl rfl
theorem wl_X5_25 : Cond.methodLink RX5 25 yX3_become ∈ TB := tbw 232 rfl rfl
theorem wm_X3_become : Cond.instanceMethod yX3_become ∈ TB := tbw 233 rfl rfl
theorem wv_X3_become : Cond.selects RX3 yX3_become yX3_become ∈ TB := tbw 234 rfl rfl
theorem wc_X3_become : Cond.code yX3_become cX3_become 2 none ∈ TB := tbw 235 rfl rfl
theorem wl_X3_49 : Cond.methodLink RX3 49 yX0_set ∈ TB := tbw 236 rfl rfl
theorem wl_X3_53 : Cond.methodLink RX3 53 yX7_become ∈ TB := tbw 237 rfl rfl
theorem wm_X7_become : Cond.instanceMethod yX7_become ∈ TB := tbw 238 rfl rfl
theorem wv_X7_become : Cond.selects RX7 yX7_become yX7_become ∈ TB := tbw 239 rfl rfl
theorem wc_X7_become : Cond.code yX7_become cX7_become 2 none ∈ TB := tbw 240 rfl rfl
theorem wl_X7_52 : Cond.methodLink RX7 52 arraycopyName ∈ TB := tbw 241 rfl rfl
theorem ws_arraycopyName : Cond.static arraycopyName ∈ TB := tbw 242 rfl rfl
theorem wn_arraycopyName : Cond.native arraycopyName ∈ TB := tbw 243 rfl rfl
theorem wl_X3_57 : Cond.methodLink RX3 57 yX6_become ∈ TB := tbw 244 rfl rfl
theorem wm_X6_become : Cond.instanceMethod yX6_become ∈ TB := tbw 245 rfl rfl
theorem wv_X6_become : Cond.selects RX6 yX6_become yX6_become ∈ TB := tbw 246 rfl rfl
theorem wc_X6_become : Cond.code yX6_become cX6_become 2 none ∈ TB := tbw 247 rfl rfl
theorem wl_X6_26 : Cond.methodLink RX6 26 arraycopyName ∈ TB := tbw 248 rfl rfl
theorem wl_X10_65 : Cond.methodLink RX10 65 yX0_set ∈ TB := tbw 249 rfl rfl
theorem wl_X10_71 : Cond.methodLink RX10 71 yX3_clear ∈ TB := tbw 250 rfl rfl
theorem wm_X3_clear : Cond.instanceMethod yX3_clear ∈ TB := tbw 251 rfl rfl
theorem wv_X3_clear : Cond.selects RX3 yX3_clear yX3_clear ∈ TB := tbw 252 rfl rfl
theorem wc_X3_clear : Cond.code yX3_clear cX3_clear 1 none ∈ TB := tbw 253 rfl rfl
theorem wl_X10_78 : Cond.methodLink RX10 78 yX0_states ∈ TB := tbw 254 rfl rfl
theorem wm_X0_states : Cond.instanceMethod yX0_states ∈ TB := tbw 255 rfl rfl
theorem wv_X0_states : Cond.selects RX0 yX0_states yX0_states ∈ TB := tbw 256 rfl rfl
theorem wc_X0_states : Cond.code yX0_states cX0_states 1 (some .int) ∈ TB := tbw 257 rfl rfl
theorem wl_L_18 : Cond.methodLink RL 18 yX10_send ∈ TB := tbw 258 rfl rfl
theorem wm_X10_send : Cond.instanceMethod yX10_send ∈ TB := tbw 259 rfl rfl
theorem wv_X10_send : Cond.selects RX10 yX10_send yX10_send ∈ TB := tbw 260 rfl rfl
theorem wc_X10_send : Cond.code yX10_send cX10_send 3 (some .int) ∈ TB := tbw 261 rfl rfl
theorem wl_X10_86 : Cond.methodLink RX10 86 yX7_isFull ∈ TB := tbw 262 rfl rfl
theorem wm_X7_isFull : Cond.instanceMethod yX7_isFull ∈ TB := tbw 263 rfl rfl
theorem wv_X7_isFull : Cond.selects RX7 yX7_isFull yX7_isFull ∈ TB := tbw 264 rfl rfl
theorem wc_X7_isFull : Cond.code yX7_isFull cX7_isFull 1 (some .boolean) ∈ TB := tbw 265 rfl rfl
theorem wk_X10_92 : Cond.constant RX10 92 (-1000000004) ∈ TB := tbw 266 rfl rfl
theorem wl_X10_93 : Cond.methodLink RX10 93 yX7_append ∈ TB := tbw 267 rfl rfl
theorem wm_X7_append : Cond.instanceMethod yX7_append ∈ TB := tbw 268 rfl rfl
theorem wv_X7_append : Cond.selects RX7 yX7_append yX7_append ∈ TB := tbw 269 rfl rfl
theorem wc_X7_append : Cond.code yX7_append cX7_append 6 (some .int) ∈ TB := tbw 270 rfl rfl
theorem wl_X7_28 : Cond.methodLink RX7 28 yX7_isFull ∈ TB := tbw 271 rfl rfl
theorem wk_X7_32 : Cond.constant RX7 32 (-1000000004) ∈ TB := tbw 272 rfl rfl
theorem wl_X7_33 : Cond.methodLink RX7 33 yX7_lastState ∈ TB := tbw 273 rfl rfl
theorem wm_X7_lastState : Cond.instanceMethod yX7_lastState ∈ TB := tbw 274 rfl rfl
theorem wv_X7_lastState : Cond.selects RX7 yX7_lastState yX7_lastState ∈ TB := tbw 275 rfl rfl
theorem wc_X7_lastState : Cond.code yX7_lastState cX7_lastState 1 (some .int) ∈ TB := tbw 276 rfl rfl
theorem wl_X7_37 : Cond.methodLink RX7 37 yX0_familyFrom ∈ TB := tbw 277 rfl rfl
theorem wm_X0_familyFrom : Cond.instanceMethod yX0_familyFrom ∈ TB := tbw 278 rfl rfl
theorem wv_X0_familyFrom : Cond.selects RX0 yX0_familyFrom yX0_familyFrom ∈ TB := tbw 279 rfl rfl
theorem wc_X0_familyFrom : Cond.code yX0_familyFrom cX0_familyFrom 4 (some .int) ∈ TB := tbw 280 rfl rfl
theorem wl_X0_23 : Cond.methodLink RX0 23 yX0_registerOf ∈ TB := tbw 281 rfl rfl
theorem wm_X0_registerOf : Cond.instanceMethod yX0_registerOf ∈ TB := tbw 283 rfl rfl
theorem wc_X0_registerOf : Cond.code yX0_registerOf cX0_registerOf 3 (some .int) ∈ TB := tbw 284 rfl rfl
theorem wl_X0_27 : Cond.methodLink RX0 27 yJ6_bitCount_0f7a4 ∈ TB := tbw 285 rfl rfl
theorem ws_J6_bitCount_0f7a4 : Cond.static yJ6_bitCount_0f7a4 ∈ TB := tbw 286 rfl rfl
theorem wc_J6_bitCount_0f7a4 : Cond.code yJ6_bitCount_0f7a4 cJ6_bitCount_0f7a4 1 (some .int) ∈ TB := tbw 287 rfl rfl
theorem wk_J6_265 : Cond.constant RJ6 265 (1431655765) ∈ TB := tbw 288 rfl rfl
theorem wk_J6_266 : Cond.constant RJ6 266 (858993459) ∈ TB := tbw 289 rfl rfl
theorem wk_J6_267 : Cond.constant RJ6 267 (252645135) ∈ TB := tbw 290 rfl rfl
theorem wl_X7_43 : Cond.methodLink RX7 43 yX1_pointOf ∈ TB := tbw 291 rfl rfl
theorem ws_X1_pointOf : Cond.static yX1_pointOf ∈ TB := tbw 292 rfl rfl
theorem wc_X1_pointOf : Cond.code yX1_pointOf cX1_pointOf 6 (some .int) ∈ TB := tbw 293 rfl rfl
theorem wl_X7_48 : Cond.methodLink RX7 48 yX0_stateAfter ∈ TB := tbw 294 rfl rfl
theorem wm_X0_stateAfter : Cond.instanceMethod yX0_stateAfter ∈ TB := tbw 295 rfl rfl
theorem wv_X0_stateAfter : Cond.selects RX0 yX0_stateAfter yX0_stateAfter ∈ TB := tbw 296 rfl rfl
theorem wc_X0_stateAfter : Cond.code yX0_stateAfter cX0_stateAfter 3 (some .int) ∈ TB := tbw 297 rfl rfl
theorem wl_L_23 : Cond.methodLink RL 23 yX10_hear ∈ TB := tbw 298 rfl rfl
theorem wm_X10_hear : Cond.instanceMethod yX10_hear ∈ TB := tbw 299 rfl rfl
set_option maxRecDepth 20000 in
theorem wv_X10_hear : Cond.selects RX10 yX10_hear yX10_hear ∈ TB := tbw 300 rfl rfl
set_option maxRecDepth 20000 in
theorem wc_X10_hear : Cond.code yX10_hear cX10_hear 3 (some .int) ∈ TB := tbw 301 rfl rfl
set_option maxRecDepth 20000 in
theorem wl_X10_101 : Cond.methodLink RX10 101 yX6_isFull ∈ TB := tbw 302 rfl rfl
set_option maxRecDepth 20000 in
theorem wm_X6_isFull : Cond.instanceMethod yX6_isFull ∈ TB := tbw 303 rfl rfl
set_option maxRecDepth 20000 in
theorem wv_X6_isFull : Cond.selects RX6 yX6_isFull yX6_isFull ∈ TB := tbw 304 rfl rfl
set_option maxRecDepth 20000 in
theorem wc_X6_isFull : Cond.code yX6_isFull cX6_isFull 1 (some .boolean) ∈ TB := tbw 305 rfl rfl
set_option maxRecDepth 20000 in
theorem wl_X10_104 : Cond.methodLink RX10 104 yX6_append ∈ TB := tbw 306 rfl rfl
set_option maxRecDepth 20000 in
theorem wm_X6_append : Cond.instanceMethod yX6_append ∈ TB := tbw 307 rfl rfl
set_option maxRecDepth 20000 in
theorem wv_X6_append : Cond.selects RX6 yX6_append yX6_append ∈ TB := tbw 308 rfl rfl
set_option maxRecDepth 20000 in
theorem wc_X6_append : Cond.code yX6_append cX6_append 3 none ∈ TB := tbw 309 rfl rfl
set_option maxRecDepth 20000 in
theorem wl_X6_22 : Cond.methodLink RX6 22 yX6_isFull ∈ TB := tbw 310 rfl rfl
set_option maxRecDepth 20000 in
theorem wl_L_27 : Cond.methodLink RL 27 yX10_drift ∈ TB := tbw 311 rfl rfl
set_option maxRecDepth 20000 in
theorem wm_X10_drift : Cond.instanceMethod yX10_drift ∈ TB := tbw 312 rfl rfl
set_option maxRecDepth 20000 in
theorem wv_X10_drift : Cond.selects RX10 yX10_drift yX10_drift ∈ TB := tbw 313 rfl rfl
set_option maxRecDepth 20000 in
theorem wc_X10_drift : Cond.code yX10_drift cX10_drift 10 (some .int) ∈ TB := tbw 314 rfl rfl
set_option maxRecDepth 20000 in
theorem wk_X10_110 : Cond.constant RX10 110 (999999) ∈ TB := tbw 315 rfl rfl
set_option maxRecDepth 20000 in
theorem wcl_X10_111 : Cond.classLink RX10 111 RX2 ∈ TB := tbw 316 rfl rfl
set_option maxRecDepth 20000 in
theorem win_X2 : Cond.instantiable RX2 1 ∈ TB := tbw 317 rfl rfl
set_option maxRecDepth 20000 in
theorem wl_X10_113 : Cond.methodLink RX10 113 yX2_init ∈ TB := tbw 318 rfl rfl
set_option maxRecDepth 20000 in
theorem wm_X2_init : Cond.instanceMethod yX2_init ∈ TB := tbw 319 rfl rfl
set_option maxRecDepth 20000 in
theorem wc_X2_init : Cond.code yX2_init cX2_init 2 none ∈ TB := tbw 320 rfl rfl
set_option maxRecDepth 20000 in
theorem wl_X2_1 : Cond.methodLink RX2 1 objectInit ∈ TB := tbw 321 rfl rfl
set_option maxRecDepth 20000 in
theorem wf_X2_7 : Cond.fieldLink RX2 7 "GridRows$Lots" "x" "J" ∈ TB := tbw 322 rfl rfl
set_option maxRecDepth 20000 in
theorem wl_X10_116 : Cond.methodLink RX10 116 yX2_draw ∈ TB := tbw 326 rfl rfl
set_option maxRecDepth 20000 in
theorem wm_X2_draw : Cond.instanceMethod yX2_draw ∈ TB := tbw 327 rfl rfl
set_option maxRecDepth 20000 in
theorem wv_X2_draw : Cond.selects RX2 yX2_draw yX2_draw ∈ TB := tbw 328 rfl rfl
set_option maxRecDepth 20000 in
theorem wc_X2_draw : Cond.code yX2_draw cX2_draw 2 (some .int) ∈ TB := tbw 329 rfl rfl
set_option maxRecDepth 20000 in
theorem wkl_X2_13 : Cond.constantLong RX2 13 (16807) ∈ TB := tbw 330 rfl rfl
set_option maxRecDepth 20000 in
theorem wkl_X2_15 : Cond.constantLong RX2 15 (2147483647) ∈ TB := tbw 331 rfl rfl
set_option maxRecDepth 20000 in
theorem wl_X10_120 : Cond.methodLink RX10 120 yX1_xOf ∈ TB := tbw 332 rfl rfl
set_option maxRecDepth 20000 in
theorem ws_X1_xOf : Cond.static yX1_xOf ∈ TB := tbw 333 rfl rfl
set_option maxRecDepth 20000 in
theorem wc_X1_xOf : Cond.code yX1_xOf cX1_xOf 1 (some .int) ∈ TB := tbw 334 rfl rfl
set_option maxRecDepth 20000 in
theorem wl_X10_125 : Cond.methodLink RX10 125 yX1_yOf ∈ TB := tbw 335 rfl rfl
set_option maxRecDepth 20000 in
theorem ws_X1_yOf : Cond.static yX1_yOf ∈ TB := tbw 336 rfl rfl
set_option maxRecDepth 20000 in
theorem wc_X1_yOf : Cond.code yX1_yOf cX1_yOf 1 (some .int) ∈ TB := tbw 337 rfl rfl
set_option maxRecDepth 20000 in
theorem wl_L_31 : Cond.methodLink RL 31 yX10_wipe ∈ TB := tbw 338 rfl rfl
set_option maxRecDepth 20000 in
theorem wm_X10_wipe : Cond.instanceMethod yX10_wipe ∈ TB := tbw 339 rfl rfl
set_option maxRecDepth 20000 in
theorem wv_X10_wipe : Cond.selects RX10 yX10_wipe yX10_wipe ∈ TB := tbw 340 rfl rfl
set_option maxRecDepth 20000 in
theorem wc_X10_wipe : Cond.code yX10_wipe cX10_wipe 2 (some .int) ∈ TB := tbw 341 rfl rfl
set_option maxRecDepth 20000 in
theorem wl_L_36 : Cond.methodLink RL 36 yX10_end ∈ TB := tbw 342 rfl rfl
set_option maxRecDepth 20000 in
theorem wm_X10_end : Cond.instanceMethod yX10_end ∈ TB := tbw 343 rfl rfl
set_option maxRecDepth 20000 in
theorem wv_X10_end : Cond.selects RX10 yX10_end yX10_end ∈ TB := tbw 344 rfl rfl
set_option maxRecDepth 20000 in
theorem wc_X10_end : Cond.code yX10_end cX10_end 3 (some .int) ∈ TB := tbw 345 rfl rfl
set_option maxRecDepth 20000 in
theorem wl_X10_129 : Cond.methodLink RX10 129 yX10_isState ∈ TB := tbw 346 rfl rfl
set_option maxRecDepth 20000 in
theorem wm_X10_isState : Cond.instanceMethod yX10_isState ∈ TB := tbw 348 rfl rfl
set_option maxRecDepth 20000 in
theorem wc_X10_isState : Cond.code yX10_isState cX10_isState 2 (some .boolean) ∈ TB := tbw 349 rfl rfl
set_option maxRecDepth 20000 in
theorem wk_X10_133 : Cond.constant RX10 133 (-1000000001) ∈ TB := tbw 350 rfl rfl
set_option maxRecDepth 20000 in
theorem wl_L_41 : Cond.methodLink RL 41 yX10_undo ∈ TB := tbw 351 rfl rfl
set_option maxRecDepth 20000 in
theorem wm_X10_undo : Cond.instanceMethod yX10_undo ∈ TB := tbw 352 rfl rfl
set_option maxRecDepth 20000 in
theorem wv_X10_undo : Cond.selects RX10 yX10_undo yX10_undo ∈ TB := tbw 353 rfl rfl
set_option maxRecDepth 20000 in
theorem wc_X10_undo : Cond.code yX10_undo cX10_undo 1 (some .int) ∈ TB := tbw 354 rfl rfl
set_option maxRecDepth 20000 in
theorem wk_X10_135 : Cond.constant RX10 135 (-1000000003) ∈ TB := tbw 355 rfl rfl
set_option maxRecDepth 20000 in
theorem wl_X10_136 : Cond.methodLink RX10 136 yX5_popInto ∈ TB := tbw 356 rfl rfl
set_option maxRecDepth 20000 in
theorem wm_X5_popInto : Cond.instanceMethod yX5_popInto ∈ TB := tbw 357 rfl rfl
set_option maxRecDepth 20000 in
theorem wv_X5_popInto : Cond.selects RX5 yX5_popInto yX5_popInto ∈ TB := tbw 358 rfl rfl
set_option maxRecDepth 20000 in
theorem wc_X5_popInto : Cond.code yX5_popInto cX5_popInto 2 none ∈ TB := tbw 359 rfl rfl
set_option maxRecDepth 20000 in
theorem wl_L_45 : Cond.methodLink RL 45 yX10_told ∈ TB := tbw 360 rfl rfl
set_option maxRecDepth 20000 in
theorem wm_X10_told : Cond.instanceMethod yX10_told ∈ TB := tbw 361 rfl rfl
set_option maxRecDepth 20000 in
theorem wv_X10_told : Cond.selects RX10 yX10_told yX10_told ∈ TB := tbw 362 rfl rfl
set_option maxRecDepth 20000 in
theorem wc_X10_told : Cond.code yX10_told cX10_told 2 (some .int) ∈ TB := tbw 363 rfl rfl
set_option maxRecDepth 20000 in
theorem wl_X10_148 : Cond.methodLink RX10 148 yX7_lastState ∈ TB := tbw 364 rfl rfl
set_option maxRecDepth 20000 in
theorem wl_X10_151 : Cond.methodLink RX10 151 yX10_seekNearest ∈ TB := tbw 365 rfl rfl
set_option maxRecDepth 20000 in
theorem wm_X10_seekNearest : Cond.instanceMethod yX10_seekNearest ∈ TB := tbw 367 rfl rfl
set_option maxRecDepth 20000 in
theorem wc_X10_seekNearest : Cond.code yX10_seekNearest cX10_seekNearest 1 (some .int) ∈ TB := tbw 368 rfl rfl
set_option maxRecDepth 20000 in
theorem wl_X10_218 : Cond.methodLink RX10 218 yX8_seek ∈ TB := tbw 369 rfl rfl
set_option maxRecDepth 20000 in
theorem wm_X8_seek : Cond.instanceMethod yX8_seek ∈ TB := tbw 370 rfl rfl
set_option maxRecDepth 20000 in
theorem wv_X8_seek : Cond.selects RX8 yX8_seek yX8_seek ∈ TB := tbw 371 rfl rfl
set_option maxRecDepth 20000 in
theorem wc_X8_seek : Cond.code yX8_seek cX8_seek 4 (some .int) ∈ TB := tbw 372 rfl rfl
set_option maxRecDepth 20000 in
theorem wl_X8_34 : Cond.methodLink RX8 34 yX8_weigh ∈ TB := tbw 373 rfl rfl
set_option maxRecDepth 20000 in
theorem wm_X8_weigh : Cond.instanceMethod yX8_weigh ∈ TB := tbw 375 rfl rfl
set_option maxRecDepth 20000 in
theorem wc_X8_weigh : Cond.code yX8_weigh cX8_weigh 5 none ∈ TB := tbw 376 rfl rfl
set_option maxRecDepth 20000 in
theorem wl_X8_63 : Cond.methodLink RX8 63 yX8_choose ∈ TB := tbw 377 rfl rfl
set_option maxRecDepth 20000 in
theorem wm_X8_choose : Cond.instanceMethod yX8_choose ∈ TB := tbw 379 rfl rfl
set_option maxRecDepth 20000 in
theorem wc_X8_choose : Cond.code yX8_choose cX8_choose 8 none ∈ TB := tbw 380 rfl rfl
set_option maxRecDepth 20000 in
theorem wk_X8_50 : Cond.constant RX8 50 (99999999) ∈ TB := tbw 381 rfl rfl
set_option maxRecDepth 20000 in
theorem wl_X8_67 : Cond.methodLink RX8 67 yX1_pointOf ∈ TB := tbw 382 rfl rfl
set_option maxRecDepth 20000 in
theorem wl_X8_73 : Cond.methodLink RX8 73 yX1_farFrom ∈ TB := tbw 383 rfl rfl
set_option maxRecDepth 20000 in
theorem ws_X1_farFrom : Cond.static yX1_farFrom ∈ TB := tbw 384 rfl rfl
set_option maxRecDepth 20000 in
theorem wc_X1_farFrom : Cond.code yX1_farFrom cX1_farFrom 5 (some .int) ∈ TB := tbw 385 rfl rfl
set_option maxRecDepth 20000 in
theorem wl_X1_22 : Cond.methodLink RX1 22 yX1_xOf ∈ TB := tbw 386 rfl rfl
set_option maxRecDepth 20000 in
theorem wl_X1_25 : Cond.methodLink RX1 25 yX1_yOf ∈ TB := tbw 387 rfl rfl
set_option maxRecDepth 20000 in
theorem wl_X8_42 : Cond.methodLink RX8 42 yX8_reckon ∈ TB := tbw 388 rfl rfl
set_option maxRecDepth 20000 in
theorem wm_X8_reckon : Cond.instanceMethod yX8_reckon ∈ TB := tbw 390 rfl rfl
set_option maxRecDepth 20000 in
theorem wc_X8_reckon : Cond.code yX8_reckon cX8_reckon 6 none ∈ TB := tbw 391 rfl rfl
set_option maxRecDepth 20000 in
theorem wl_X8_77 : Cond.methodLink RX8 77 yX0_states ∈ TB := tbw 392 rfl rfl
set_option maxRecDepth 20000 in
theorem wl_X8_83 : Cond.methodLink RX8 83 yX8_restBy ∈ TB := tbw 393 rfl rfl
set_option maxRecDepth 20000 in
theorem wm_X8_restBy : Cond.instanceMethod yX8_restBy ∈ TB := tbw 395 rfl rfl
set_option maxRecDepth 20000 in
theorem wc_X8_restBy : Cond.code yX8_restBy cX8_restBy 6 (some .int) ∈ TB := tbw 396 rfl rfl
set_option maxRecDepth 20000 in
theorem wl_X8_92 : Cond.methodLink RX8 92 yX0_stateAfter ∈ TB := tbw 397 rfl rfl
set_option maxRecDepth 20000 in
theorem wl_X8_95 : Cond.methodLink RX8 95 yX0_familyFrom ∈ TB := tbw 398 rfl rfl
set_option maxRecDepth 20000 in
theorem wl_X8_87 : Cond.methodLink RX8 87 yJ9_min_7cf53 ∈ TB := tbw 399 rfl rfl
set_option maxRecDepth 20000 in
theorem ws_J9_min_7cf53 : Cond.static yJ9_min_7cf53 ∈ TB := tbw 400 rfl rfl
set_option maxRecDepth 20000 in
theorem wc_J9_min_7cf53 : Cond.code yJ9_min_7cf53 cJ9_min_7cf53 2 (some .int) ∈ TB := tbw 401 rfl rfl
set_option maxRecDepth 20000 in
theorem wl_X8_51 : Cond.methodLink RX8 51 yX8_walk ∈ TB := tbw 402 rfl rfl
set_option maxRecDepth 20000 in
theorem wm_X8_walk : Cond.instanceMethod yX8_walk ∈ TB := tbw 404 rfl rfl
set_option maxRecDepth 20000 in
theorem wc_X8_walk : Cond.code yX8_walk cX8_walk 6 none ∈ TB := tbw 405 rfl rfl
set_option maxRecDepth 20000 in
theorem wl_X8_98 : Cond.methodLink RX8 98 yX7_lastState ∈ TB := tbw 406 rfl rfl
set_option maxRecDepth 20000 in
theorem wl_X8_101 : Cond.methodLink RX8 101 yX7_append ∈ TB := tbw 407 rfl rfl
set_option maxRecDepth 20000 in
theorem wl_X10_154 : Cond.methodLink RX10 154 yX10_countUnlike ∈ TB := tbw 408 rfl rfl
set_option maxRecDepth 20000 in
theorem wm_X10_countUnlike : Cond.instanceMethod yX10_countUnlike ∈ TB := tbw 410 rfl rfl
set_option maxRecDepth 20000 in
theorem wc_X10_countUnlike : Cond.code yX10_countUnlike cX10_countUnlike 4 (some .int) ∈ TB := tbw 411 rfl rfl
set_option maxRecDepth 20000 in
theorem wl_X10_225 : Cond.methodLink RX10 225 yJ9_min_7cf53 ∈ TB := tbw 412 rfl rfl
set_option maxRecDepth 20000 in
theorem wl_X10_157 : Cond.methodLink RX10 157 yX4_leastSum ∈ TB := tbw 413 rfl rfl
set_option maxRecDepth 20000 in
theorem wm_X4_leastSum : Cond.instanceMethod yX4_leastSum ∈ TB := tbw 414 rfl rfl
set_option maxRecDepth 20000 in
theorem wv_X4_leastSum : Cond.selects RX4 yX4_leastSum yX4_leastSum ∈ TB := tbw 415 rfl rfl
set_option maxRecDepth 20000 in
theorem wc_X4_leastSum : Cond.code yX4_leastSum cX4_leastSum 4 (some .int) ∈ TB := tbw 416 rfl rfl
set_option maxRecDepth 20000 in
theorem wk_X4_21 : Cond.constant RX4 21 (99999999) ∈ TB := tbw 417 rfl rfl
set_option maxRecDepth 20000 in
theorem wl_X4_22 : Cond.methodLink RX4 22 yX1_gapOf ∈ TB := tbw 418 rfl rfl
set_option maxRecDepth 20000 in
theorem ws_X1_gapOf : Cond.static yX1_gapOf ∈ TB := tbw 419 rfl rfl
set_option maxRecDepth 20000 in
theorem wc_X1_gapOf : Cond.code yX1_gapOf cX1_gapOf 7 (some .int) ∈ TB := tbw 420 rfl rfl
set_option maxRecDepth 20000 in
theorem wk_X1_32 : Cond.constant RX1 32 (99999999) ∈ TB := tbw 421 rfl rfl
set_option maxRecDepth 20000 in
theorem wl_X1_9 : Cond.methodLink RX1 9 yX1_pointOf ∈ TB := tbw 422 rfl rfl
set_option maxRecDepth 20000 in
theorem wl_X1_28 : Cond.methodLink RX1 28 yX1_farFrom ∈ TB := tbw 423 rfl rfl
set_option maxRecDepth 20000 in
theorem wl_X1_33 : Cond.methodLink RX1 33 yJ9_min_7cf53 ∈ TB := tbw 424 rfl rfl
set_option maxRecDepth 20000 in
theorem wl_X4_28 : Cond.methodLink RX4 28 yJ9_min_7cf53 ∈ TB := tbw 425 rfl rfl
set_option maxRecDepth 20000 in
theorem wl_X4_33 : Cond.methodLink RX4 33 yX4_fillGaps ∈ TB := tbw 426 rfl rfl
set_option maxRecDepth 20000 in
theorem wm_X4_fillGaps : Cond.instanceMethod yX4_fillGaps ∈ TB := tbw 428 rfl rfl
set_option maxRecDepth 20000 in
theorem wc_X4_fillGaps : Cond.code yX4_fillGaps cX4_fillGaps 3 none ∈ TB := tbw 429 rfl rfl
set_option maxRecDepth 20000 in
theorem wl_X4_36 : Cond.methodLink RX4 36 yX4_part ∈ TB := tbw 430 rfl rfl
set_option maxRecDepth 20000 in
theorem wm_X4_part : Cond.instanceMethod yX4_part ∈ TB := tbw 432 rfl rfl
set_option maxRecDepth 20000 in
theorem wc_X4_part : Cond.code yX4_part cX4_part 4 none ∈ TB := tbw 433 rfl rfl
set_option maxRecDepth 20000 in
theorem wl_X4_44 : Cond.methodLink RX4 44 yJ7_fill_53178 ∈ TB := tbw 434 rfl rfl
set_option maxRecDepth 20000 in
theorem ws_J7_fill_53178 : Cond.static yJ7_fill_53178 ∈ TB := tbw 435 rfl rfl
set_option maxRecDepth 20000 in
theorem wc_J7_fill_53178 : Cond.code yJ7_fill_53178 cJ7_fill_53178 4 none ∈ TB := tbw 436 rfl rfl
set_option maxRecDepth 20000 in
theorem wl_X4_50 : Cond.methodLink RX4 50 yX0_states ∈ TB := tbw 437 rfl rfl
set_option maxRecDepth 20000 in
theorem wl_X4_56 : Cond.methodLink RX4 56 yX0_stateAfter ∈ TB := tbw 438 rfl rfl
set_option maxRecDepth 20000 in
theorem wl_X4_59 : Cond.methodLink RX4 59 yX4_gapOfSteps ∈ TB := tbw 439 rfl rfl
set_option maxRecDepth 20000 in
theorem wm_X4_gapOfSteps : Cond.instanceMethod yX4_gapOfSteps ∈ TB := tbw 441 rfl rfl
set_option maxRecDepth 20000 in
theorem wc_X4_gapOfSteps : Cond.code yX4_gapOfSteps cX4_gapOfSteps 6 (some .int) ∈ TB := tbw 442 rfl rfl
set_option maxRecDepth 20000 in
theorem wl_X4_73 : Cond.methodLink RX4 73 yX0_familyFrom ∈ TB := tbw 443 rfl rfl
set_option maxRecDepth 20000 in
theorem wl_X4_40 : Cond.methodLink RX4 40 yX4_advance ∈ TB := tbw 444 rfl rfl
set_option maxRecDepth 20000 in
theorem wm_X4_advance : Cond.instanceMethod yX4_advance ∈ TB := tbw 446 rfl rfl
set_option maxRecDepth 20000 in
theorem wc_X4_advance : Cond.code yX4_advance cX4_advance 6 (some .int) ∈ TB := tbw 447 rfl rfl
set_option maxRecDepth 20000 in
theorem wl_X4_63 : Cond.methodLink RX4 63 yX4_advancePair ∈ TB := tbw 448 rfl rfl
set_option maxRecDepth 20000 in
theorem wm_X4_advancePair : Cond.instanceMethod yX4_advancePair ∈ TB := tbw 450 rfl rfl
set_option maxRecDepth 20000 in
theorem wc_X4_advancePair : Cond.code yX4_advancePair cX4_advancePair 11 (some .int) ∈ TB := tbw 451 rfl rfl
set_option maxRecDepth 20000 in
theorem wl_X4_67 : Cond.methodLink RX4 67 arraycopyName ∈ TB := tbw 452 rfl rfl
set_option maxRecDepth 20000 in
theorem wl_X10_161 : Cond.methodLink RX10 161 yX9_holdsFor ∈ TB := tbw 453 rfl rfl
set_option maxRecDepth 20000 in
theorem wm_X9_holdsFor : Cond.instanceMethod yX9_holdsFor ∈ TB := tbw 454 rfl rfl
set_option maxRecDepth 20000 in
theorem wv_X9_holdsFor : Cond.selects RX9 yX9_holdsFor yX9_holdsFor ∈ TB := tbw 455 rfl rfl
set_option maxRecDepth 20000 in
theorem wc_X9_holdsFor : Cond.code yX9_holdsFor cX9_holdsFor 5 (some .boolean) ∈ TB := tbw 456 rfl rfl
set_option maxRecDepth 20000 in
theorem wl_X9_15 : Cond.methodLink RX9 15 yX0_states ∈ TB := tbw 457 rfl rfl
set_option maxRecDepth 20000 in
theorem wl_X9_21 : Cond.methodLink RX9 21 yJ7_fill_53178 ∈ TB := tbw 458 rfl rfl
set_option maxRecDepth 20000 in
theorem wl_X9_31 : Cond.methodLink RX9 31 yX9_carryOn ∈ TB := tbw 459 rfl rfl
set_option maxRecDepth 20000 in
theorem wm_X9_carryOn : Cond.instanceMethod yX9_carryOn ∈ TB := tbw 461 rfl rfl
set_option maxRecDepth 20000 in
theorem wc_X9_carryOn : Cond.code yX9_carryOn cX9_carryOn 6 (some .boolean) ∈ TB := tbw 462 rfl rfl
set_option maxRecDepth 20000 in
theorem wl_X9_35 : Cond.methodLink RX9 35 yX0_familyFrom ∈ TB := tbw 463 rfl rfl
set_option maxRecDepth 20000 in
theorem wl_X9_39 : Cond.methodLink RX9 39 yX1_turnOfFamily ∈ TB := tbw 464 rfl rfl
set_option maxRecDepth 20000 in
theorem ws_X1_turnOfFamily : Cond.static yX1_turnOfFamily ∈ TB := tbw 465 rfl rfl
set_option maxRecDepth 20000 in
theorem wc_X1_turnOfFamily : Cond.code yX1_turnOfFamily cX1_turnOfFamily 1 (some .int) ∈ TB := tbw 466 rfl rfl
set_option maxRecDepth 20000 in
theorem wl_X1_15 : Cond.methodLink RX1 15 yX1_turnOf ∈ TB := tbw 467 rfl rfl
set_option maxRecDepth 20000 in
theorem ws_X1_turnOf : Cond.static yX1_turnOf ∈ TB := tbw 468 rfl rfl
set_option maxRecDepth 20000 in
theorem wc_X1_turnOf : Cond.code yX1_turnOf cX1_turnOf 1 (some .int) ∈ TB := tbw 469 rfl rfl
set_option maxRecDepth 20000 in
theorem wl_X1_19 : Cond.methodLink RX1 19 yX1_familyOf ∈ TB := tbw 470 rfl rfl
set_option maxRecDepth 20000 in
theorem ws_X1_familyOf : Cond.static yX1_familyOf ∈ TB := tbw 471 rfl rfl
set_option maxRecDepth 20000 in
theorem wc_X1_familyOf : Cond.code yX1_familyOf cX1_familyOf 3 (some .int) ∈ TB := tbw 472 rfl rfl
set_option maxRecDepth 20000 in
theorem wl_X9_45 : Cond.methodLink RX9 45 yX9_follow ∈ TB := tbw 473 rfl rfl
set_option maxRecDepth 20000 in
theorem ws_X9_follow : Cond.static yX9_follow ∈ TB := tbw 474 rfl rfl
set_option maxRecDepth 20000 in
theorem wc_X9_follow : Cond.code yX9_follow cX9_follow 6 (some .int) ∈ TB := tbw 475 rfl rfl
set_option maxRecDepth 20000 in
theorem wl_X9_49 : Cond.methodLink RX9 49 yX0_stateAfter ∈ TB := tbw 476 rfl rfl
set_option maxRecDepth 20000 in
theorem wl_X9_52 : Cond.methodLink RX9 52 yX9_mark ∈ TB := tbw 477 rfl rfl
set_option maxRecDepth 20000 in
theorem wm_X9_mark : Cond.instanceMethod yX9_mark ∈ TB := tbw 479 rfl rfl
set_option maxRecDepth 20000 in
theorem wc_X9_mark : Cond.code yX9_mark cX9_mark 3 none ∈ TB := tbw 480 rfl rfl
set_option maxRecDepth 20000 in
theorem wl_X10_165 : Cond.methodLink RX10 165 yX10_countSigns ∈ TB := tbw 481 rfl rfl
set_option maxRecDepth 20000 in
theorem wm_X10_countSigns : Cond.instanceMethod yX10_countSigns ∈ TB := tbw 483 rfl rfl
set_option maxRecDepth 20000 in
theorem wc_X10_countSigns : Cond.code yX10_countSigns cX10_countSigns 2 (some .int) ∈ TB := tbw 484 rfl rfl
set_option maxRecDepth 20000 in
theorem wl_L_49 : Cond.methodLink RL 49 yX10_point ∈ TB := tbw 485 rfl rfl
set_option maxRecDepth 20000 in
theorem wm_X10_point : Cond.instanceMethod yX10_point ∈ TB := tbw 486 rfl rfl
set_option maxRecDepth 20000 in
theorem wv_X10_point : Cond.selects RX10 yX10_point yX10_point ∈ TB := tbw 487 rfl rfl
set_option maxRecDepth 20000 in
theorem wc_X10_point : Cond.code yX10_point cX10_point 3 (some .int) ∈ TB := tbw 488 rfl rfl
set_option maxRecDepth 20000 in
theorem wl_X10_168 : Cond.methodLink RX10 168 yX10_isPoint ∈ TB := tbw 489 rfl rfl
set_option maxRecDepth 20000 in
theorem ws_X10_isPoint : Cond.static yX10_isPoint ∈ TB := tbw 490 rfl rfl
set_option maxRecDepth 20000 in
theorem wc_X10_isPoint : Cond.code yX10_isPoint cX10_isPoint 1 (some .boolean) ∈ TB := tbw 491 rfl rfl
set_option maxRecDepth 20000 in
theorem wl_X10_171 : Cond.methodLink RX10 171 yX1_familyOf ∈ TB := tbw 492 rfl rfl
set_option maxRecDepth 20000 in
theorem wl_X10_174 : Cond.methodLink RX10 174 yX1_rankOf ∈ TB := tbw 493 rfl rfl
set_option maxRecDepth 20000 in
theorem ws_X1_rankOf : Cond.static yX1_rankOf ∈ TB := tbw 494 rfl rfl
set_option maxRecDepth 20000 in
theorem wc_X1_rankOf : Cond.code yX1_rankOf cX1_rankOf 3 (some .int) ∈ TB := tbw 495 rfl rfl
set_option maxRecDepth 20000 in
theorem wl_X10_177 : Cond.methodLink RX10 177 yX1_turnOf ∈ TB := tbw 496 rfl rfl
set_option maxRecDepth 20000 in
theorem wl_L_53 : Cond.methodLink RL 53 yX10_member ∈ TB := tbw 497 rfl rfl
set_option maxRecDepth 20000 in
theorem wm_X10_member : Cond.instanceMethod yX10_member ∈ TB := tbw 498 rfl rfl
set_option maxRecDepth 20000 in
theorem wv_X10_member : Cond.selects RX10 yX10_member yX10_member ∈ TB := tbw 499 rfl rfl
set_option maxRecDepth 20000 in
theorem wc_X10_member : Cond.code yX10_member cX10_member 3 (some .int) ∈ TB := tbw 500 rfl rfl
set_option maxRecDepth 20000 in
theorem wl_X10_180 : Cond.methodLink RX10 180 yX10_isFamily ∈ TB := tbw 501 rfl rfl
set_option maxRecDepth 20000 in
theorem ws_X10_isFamily : Cond.static yX10_isFamily ∈ TB := tbw 502 rfl rfl
set_option maxRecDepth 20000 in
theorem wc_X10_isFamily : Cond.code yX10_isFamily cX10_isFamily 1 (some .boolean) ∈ TB := tbw 503 rfl rfl
set_option maxRecDepth 20000 in
theorem wl_X10_183 : Cond.methodLink RX10 183 yX1_pointOf ∈ TB := tbw 504 rfl rfl
set_option maxRecDepth 20000 in
theorem wl_L_57 : Cond.methodLink RL 57 yX10_apart ∈ TB := tbw 505 rfl rfl
set_option maxRecDepth 20000 in
theorem wm_X10_apart : Cond.instanceMethod yX10_apart ∈ TB := tbw 506 rfl rfl
set_option maxRecDepth 20000 in
theorem wv_X10_apart : Cond.selects RX10 yX10_apart yX10_apart ∈ TB := tbw 507 rfl rfl
set_option maxRecDepth 20000 in
theorem wc_X10_apart : Cond.code yX10_apart cX10_apart 3 (some .int) ∈ TB := tbw 508 rfl rfl
set_option maxRecDepth 20000 in
theorem wl_X10_187 : Cond.methodLink RX10 187 yX1_gapOf ∈ TB := tbw 509 rfl rfl
set_option maxRecDepth 20000 in
theorem wl_L_61 : Cond.methodLink RL 61 yX10_distance ∈ TB := tbw 510 rfl rfl
set_option maxRecDepth 20000 in
theorem wm_X10_distance : Cond.instanceMethod yX10_distance ∈ TB := tbw 511 rfl rfl
set_option maxRecDepth 20000 in
theorem wv_X10_distance : Cond.selects RX10 yX10_distance yX10_distance ∈ TB := tbw 512 rfl rfl
set_option maxRecDepth 20000 in
theorem wc_X10_distance : Cond.code yX10_distance cX10_distance 3 (some .int) ∈ TB := tbw 513 rfl rfl
set_option maxRecDepth 20000 in
theorem wl_X10_190 : Cond.methodLink RX10 190 yX1_farFrom ∈ TB := tbw 514 rfl rfl
set_option maxRecDepth 20000 in
theorem wl_L_65 : Cond.methodLink RL 65 yX10_turned ∈ TB := tbw 515 rfl rfl
set_option maxRecDepth 20000 in
theorem wm_X10_turned : Cond.instanceMethod yX10_turned ∈ TB := tbw 516 rfl rfl
set_option maxRecDepth 20000 in
theorem wv_X10_turned : Cond.selects RX10 yX10_turned yX10_turned ∈ TB := tbw 517 rfl rfl
set_option maxRecDepth 20000 in
theorem wc_X10_turned : Cond.code yX10_turned cX10_turned 2 (some .int) ∈ TB := tbw 518 rfl rfl
set_option maxRecDepth 20000 in
theorem wl_X10_194 : Cond.methodLink RX10 194 yX1_turnOfFamily ∈ TB := tbw 519 rfl rfl
set_option maxRecDepth 20000 in
theorem wl_L_69 : Cond.methodLink RL 69 yX10_next ∈ TB := tbw 520 rfl rfl
set_option maxRecDepth 20000 in
theorem wm_X10_next : Cond.instanceMethod yX10_next ∈ TB := tbw 521 rfl rfl
set_option maxRecDepth 20000 in
theorem wv_X10_next : Cond.selects RX10 yX10_next yX10_next ∈ TB := tbw 522 rfl rfl
set_option maxRecDepth 20000 in
theorem wc_X10_next : Cond.code yX10_next cX10_next 4 (some .int) ∈ TB := tbw 523 rfl rfl
set_option maxRecDepth 20000 in
theorem wl_X10_197 : Cond.methodLink RX10 197 yX0_familyFrom ∈ TB := tbw 524 rfl rfl
set_option maxRecDepth 20000 in
theorem wl_X10_200 : Cond.methodLink RX10 200 yX0_stateAfter ∈ TB := tbw 525 rfl rfl
set_option maxRecDepth 20000 in
theorem wl_L_73 : Cond.methodLink RL 73 yX10_sent ∈ TB := tbw 526 rfl rfl
set_option maxRecDepth 20000 in
theorem wm_X10_sent : Cond.instanceMethod yX10_sent ∈ TB := tbw 527 rfl rfl
set_option maxRecDepth 20000 in
theorem wv_X10_sent : Cond.selects RX10 yX10_sent yX10_sent ∈ TB := tbw 528 rfl rfl
set_option maxRecDepth 20000 in
theorem wc_X10_sent : Cond.code yX10_sent cX10_sent 3 (some .int) ∈ TB := tbw 529 rfl rfl
set_option maxRecDepth 20000 in
theorem wl_X10_203 : Cond.methodLink RX10 203 yX7_partOf ∈ TB := tbw 530 rfl rfl
set_option maxRecDepth 20000 in
theorem wm_X7_partOf : Cond.instanceMethod yX7_partOf ∈ TB := tbw 531 rfl rfl
set_option maxRecDepth 20000 in
theorem wv_X7_partOf : Cond.selects RX7 yX7_partOf yX7_partOf ∈ TB := tbw 532 rfl rfl
set_option maxRecDepth 20000 in
theorem wc_X7_partOf : Cond.code yX7_partOf cX7_partOf 3 (some .int) ∈ TB := tbw 533 rfl rfl
set_option maxRecDepth 20000 in
theorem wk_X7_51 : Cond.constant RX7 51 (-1000000002) ∈ TB := tbw 534 rfl rfl
set_option maxRecDepth 20000 in
theorem wl_L_77 : Cond.methodLink RL 77 yX10_heard ∈ TB := tbw 535 rfl rfl
set_option maxRecDepth 20000 in
theorem wm_X10_heard : Cond.instanceMethod yX10_heard ∈ TB := tbw 536 rfl rfl
set_option maxRecDepth 20000 in
theorem wv_X10_heard : Cond.selects RX10 yX10_heard yX10_heard ∈ TB := tbw 537 rfl rfl
set_option maxRecDepth 20000 in
theorem wc_X10_heard : Cond.code yX10_heard cX10_heard 3 (some .int) ∈ TB := tbw 538 rfl rfl
set_option maxRecDepth 20000 in
theorem wl_X10_213 : Cond.methodLink RX10 213 yX1_pointAt ∈ TB := tbw 539 rfl rfl
set_option maxRecDepth 20000 in
theorem ws_X1_pointAt : Cond.static yX1_pointAt ∈ TB := tbw 540 rfl rfl
set_option maxRecDepth 20000 in
theorem wc_X1_pointAt : Cond.code yX1_pointAt cX1_pointAt 4 (some .int) ∈ TB := tbw 541 rfl rfl
set_option maxRecDepth 20000 in
theorem wl_L_81 : Cond.methodLink RL 81 yX10_nearest ∈ TB := tbw 542 rfl rfl
set_option maxRecDepth 20000 in
theorem wm_X10_nearest : Cond.instanceMethod yX10_nearest ∈ TB := tbw 543 rfl rfl
set_option maxRecDepth 20000 in
theorem wv_X10_nearest : Cond.selects RX10 yX10_nearest yX10_nearest ∈ TB := tbw 544 rfl rfl
set_option maxRecDepth 20000 in
theorem wc_X10_nearest : Cond.code yX10_nearest cX10_nearest 3 (some .int) ∈ TB := tbw 545 rfl rfl
set_option maxRecDepth 20000 in
theorem wk_X10_216 : Cond.constant RX10 216 (99999999) ∈ TB := tbw 546 rfl rfl
set_option maxRecDepth 20000 in
theorem wl_L_85 : Cond.methodLink RL 85 yX10_ahead ∈ TB := tbw 547 rfl rfl
set_option maxRecDepth 20000 in
theorem wm_X10_ahead : Cond.instanceMethod yX10_ahead ∈ TB := tbw 548 rfl rfl
set_option maxRecDepth 20000 in
theorem wv_X10_ahead : Cond.selects RX10 yX10_ahead yX10_ahead ∈ TB := tbw 549 rfl rfl
set_option maxRecDepth 20000 in
theorem wc_X10_ahead : Cond.code yX10_ahead cX10_ahead 3 (some .int) ∈ TB := tbw 550 rfl rfl
set_option maxRecDepth 20000 in
theorem wl_L_89 : Cond.methodLink RL 89 yX10_decided ∈ TB := tbw 551 rfl rfl
set_option maxRecDepth 20000 in
theorem wm_X10_decided : Cond.instanceMethod yX10_decided ∈ TB := tbw 552 rfl rfl
set_option maxRecDepth 20000 in
theorem wv_X10_decided : Cond.selects RX10 yX10_decided yX10_decided ∈ TB := tbw 553 rfl rfl
set_option maxRecDepth 20000 in
theorem wc_X10_decided : Cond.code yX10_decided cX10_decided 4 (some .int) ∈ TB := tbw 554 rfl rfl
set_option maxRecDepth 20000 in
theorem wl_L_93 : Cond.methodLink RL 93 yX10_cost ∈ TB := tbw 555 rfl rfl
set_option maxRecDepth 20000 in
theorem wm_X10_cost : Cond.instanceMethod yX10_cost ∈ TB := tbw 556 rfl rfl
set_option maxRecDepth 20000 in
theorem wv_X10_cost : Cond.selects RX10 yX10_cost yX10_cost ∈ TB := tbw 557 rfl rfl
set_option maxRecDepth 20000 in
theorem wc_X10_cost : Cond.code yX10_cost cX10_cost 4 (some .int) ∈ TB := tbw 558 rfl rfl
set_option maxRecDepth 20000 in
theorem wl_L_97 : Cond.methodLink RL 97 yX10_sign ∈ TB := tbw 559 rfl rfl
set_option maxRecDepth 20000 in
theorem wm_X10_sign : Cond.instanceMethod yX10_sign ∈ TB := tbw 560 rfl rfl
set_option maxRecDepth 20000 in
theorem wv_X10_sign : Cond.selects RX10 yX10_sign yX10_sign ∈ TB := tbw 561 rfl rfl
set_option maxRecDepth 20000 in
theorem wc_X10_sign : Cond.code yX10_sign cX10_sign 4 (some .int) ∈ TB := tbw 562 rfl rfl
set_option maxRecDepth 20000 in
theorem wl_L_101 : Cond.methodLink RL 101 yX10_keep ∈ TB := tbw 563 rfl rfl
set_option maxRecDepth 20000 in
theorem wm_X10_keep : Cond.instanceMethod yX10_keep ∈ TB := tbw 564 rfl rfl
set_option maxRecDepth 20000 in
theorem wv_X10_keep : Cond.selects RX10 yX10_keep yX10_keep ∈ TB := tbw 565 rfl rfl
set_option maxRecDepth 20000 in
theorem wc_X10_keep : Cond.code yX10_keep cX10_keep 2 (some .int) ∈ TB := tbw 566 rfl rfl
set_option maxRecDepth 20000 in
theorem wl_X10_233 : Cond.methodLink RX10 233 yX3_become ∈ TB := tbw 567 rfl rfl
set_option maxRecDepth 20000 in
theorem wl_X10_236 : Cond.methodLink RX10 236 yX5_forget ∈ TB := tbw 568 rfl rfl
set_option maxRecDepth 20000 in
theorem wm_X5_forget : Cond.instanceMethod yX5_forget ∈ TB := tbw 569 rfl rfl
set_option maxRecDepth 20000 in
theorem wv_X5_forget : Cond.selects RX5 yX5_forget yX5_forget ∈ TB := tbw 570 rfl rfl
set_option maxRecDepth 20000 in
theorem wc_X5_forget : Cond.code yX5_forget cX5_forget 1 none ∈ TB := tbw 571 rfl rfl
set_option maxRecDepth 20000 in
theorem wl_L_105 : Cond.methodLink RL 105 yX10_goBack ∈ TB := tbw 572 rfl rfl
set_option maxRecDepth 20000 in
theorem wm_X10_goBack : Cond.instanceMethod yX10_goBack ∈ TB := tbw 573 rfl rfl
set_option maxRecDepth 20000 in
theorem wv_X10_goBack : Cond.selects RX10 yX10_goBack yX10_goBack ∈ TB := tbw 574 rfl rfl
set_option maxRecDepth 20000 in
theorem wc_X10_goBack : Cond.code yX10_goBack cX10_goBack 2 (some .int) ∈ TB := tbw 575 rfl rfl
set_option maxRecDepth 20000 in
theorem wcl_L_10 : Cond.classLink RL 10 RX11 ∈ TB := tbw 576 rfl rfl
set_option maxRecDepth 20000 in
theorem win_X11 : Cond.instantiable RX11 13 ∈ TB := tbw 577 rfl rfl
set_option maxRecDepth 20000 in
theorem wl_L_12 : Cond.methodLink RL 12 yX11_init ∈ TB := tbw 578 rfl rfl
set_option maxRecDepth 20000 in
theorem wm_X11_init : Cond.instanceMethod yX11_init ∈ TB := tbw 579 rfl rfl
set_option maxRecDepth 20000 in
theorem wc_X11_init : Cond.code yX11_init cX11_init 1 none ∈ TB := tbw 580 rfl rfl
set_option maxRecDepth 20000 in
theorem wl_X11_1 : Cond.methodLink RX11 1 objectInit ∈ TB := tbw 581 rfl rfl
set_option maxRecDepth 20000 in
theorem wf_X11_7 : Cond.fieldLink RX11 7 "GridRowsModel" "now" "[I" ∈ TB := tbw 582 rfl rfl
set_option maxRecDepth 20000 in
theorem wf_X11_13 : Cond.fieldLink RX11 13 "GridRowsModel" "past" "[I" ∈ TB := tbw 583 rfl rfl
set_option maxRecDepth 20000 in
theorem wf_X11_80 : Cond.fieldLink RX11 80 "GridRowsModel" "acts" "I" ∈ TB := tbw 584 rfl rfl
set_option maxRecDepth 20000 in
theorem wf_X11_16 : Cond.fieldLink RX11 16 "GridRowsModel" "images" "[I" ∈ TB := tbw 585 rfl rfl
set_option maxRecDepth 20000 in
theorem wf_X11_19 : Cond.fieldLink RX11 19 "GridRowsModel" "kept" "[Z" ∈ TB := tbw 586 rfl rfl
set_option maxRecDepth 20000 in
theorem wf_X11_23 : Cond.fieldLink RX11 23 "GridRowsModel" "least" "[I" ∈ TB := tbw 587 rfl rfl
set_option maxRecDepth 20000 in
theorem wf_X11_26 : Cond.fieldLink RX11 26 "GridRowsModel" "bits" "[I" ∈ TB := tbw 588 rfl rfl
set_option maxRecDepth 20000 in
theorem wf_X11_29 : Cond.fieldLink RX11 29 "GridRowsModel" "choices" "[I" ∈ TB := tbw 589 rfl rfl
set_option maxRecDepth 20000 in
theorem wf_X11_32 : Cond.fieldLink RX11 32 "GridRowsModel" "states" "[I" ∈ TB := tbw 590 rfl rfl
set_option maxRecDepth 20000 in
theorem wf_X11_35 : Cond.fieldLink RX11 35 "GridRowsModel" "pairs" "[I" ∈ TB := tbw 591 rfl rfl
set_option maxRecDepth 20000 in
theorem wf_X11_38 : Cond.fieldLink RX11 38 "GridRowsModel" "next" "[I" ∈ TB := tbw 592 rfl rfl
set_option maxRecDepth 20000 in
theorem wf_X11_41 : Cond.fieldLink RX11 41 "GridRowsModel" "seen" "[Z" ∈ TB := tbw 593 rfl rfl
set_option maxRecDepth 20000 in
theorem wf_X11_44 : Cond.fieldLink RX11 44 "GridRowsModel" "heap" "[I" ∈ TB := tbw 594 rfl rfl
set_option maxRecDepth 20000 in
theorem wl_L_17 : Cond.methodLink RL 17 yX11_code ∈ TB := tbw 622 rfl rfl
set_option maxRecDepth 20000 in
theorem wm_X11_code : Cond.instanceMethod yX11_code ∈ TB := tbw 623 rfl rfl
set_option maxRecDepth 20000 in
theorem wv_X11_code : Cond.selects RX11 yX11_code yX11_code ∈ TB := tbw 624 rfl rfl
set_option maxRecDepth 20000 in
theorem wc_X11_code : Cond.code yX11_code cX11_code 4 (some .int) ∈ TB := tbw 625 rfl rfl
set_option maxRecDepth 20000 in
theorem wl_X11_69 : Cond.methodLink RX11 69 yX11_in ∈ TB := tbw 626 rfl rfl
set_option maxRecDepth 20000 in
theorem ws_X11_in : Cond.static yX11_in ∈ TB := tbw 627 rfl rfl
set_option maxRecDepth 20000 in
theorem wc_X11_in : Cond.code yX11_in cX11_in 3 (some .boolean) ∈ TB := tbw 628 rfl rfl
set_option maxRecDepth 20000 in
theorem wk_X11_84 : Cond.constant RX11 84 (-1000000002) ∈ TB := tbw 629 rfl rfl
set_option maxRecDepth 20000 in
theorem wl_X11_85 : Cond.methodLink RX11 85 yX11_notes ∈ TB := tbw 630 rfl rfl
set_option maxRecDepth 20000 in
theorem wm_X11_notes : Cond.instanceMethod yX11_notes ∈ TB := tbw 632 rfl rfl
set_option maxRecDepth 20000 in
theorem wc_X11_notes : Cond.code yX11_notes cX11_notes 2 none ∈ TB := tbw 633 rfl rfl
set_option maxRecDepth 20000 in
theorem wl_X11_73 : Cond.methodLink RX11 73 yX11_manyStates ∈ TB := tbw 634 rfl rfl
set_option maxRecDepth 20000 in
theorem wm_X11_manyStates : Cond.instanceMethod yX11_manyStates ∈ TB := tbw 636 rfl rfl
set_option maxRecDepth 20000 in
theorem wc_X11_manyStates : Cond.code yX11_manyStates cX11_manyStates 1 (some .int) ∈ TB := tbw 637 rfl rfl
set_option maxRecDepth 20000 in
theorem wl_L_22 : Cond.methodLink RL 22 yX11_send ∈ TB := tbw 638 rfl rfl
set_option maxRecDepth 20000 in
theorem wm_X11_send : Cond.instanceMethod yX11_send ∈ TB := tbw 639 rfl rfl
set_option maxRecDepth 20000 in
theorem wv_X11_send : Cond.selects RX11 yX11_send yX11_send ∈ TB := tbw 640 rfl rfl
set_option maxRecDepth 20000 in
theorem wc_X11_send : Cond.code yX11_send cX11_send 3 (some .int) ∈ TB := tbw 641 rfl rfl
set_option maxRecDepth 20000 in
theorem wk_X11_97 : Cond.constant RX11 97 (-1000000004) ∈ TB := tbw 642 rfl rfl
set_option maxRecDepth 20000 in
theorem wl_X11_98 : Cond.methodLink RX11 98 yX11_sends ∈ TB := tbw 643 rfl rfl
set_option maxRecDepth 20000 in
theorem wm_X11_sends : Cond.instanceMethod yX11_sends ∈ TB := tbw 645 rfl rfl
set_option maxRecDepth 20000 in
theorem wc_X11_sends : Cond.code yX11_sends cX11_sends 4 none ∈ TB := tbw 646 rfl rfl
set_option maxRecDepth 20000 in
theorem wl_X11_102 : Cond.methodLink RX11 102 yX11_pointSent ∈ TB := tbw 647 rfl rfl
set_option maxRecDepth 20000 in
theorem wm_X11_pointSent : Cond.instanceMethod yX11_pointSent ∈ TB := tbw 649 rfl rfl
set_option maxRecDepth 20000 in
theorem wc_X11_pointSent : Cond.code yX11_pointSent cX11_pointSent 2 (some .int) ∈ TB := tbw 650 rfl rfl
set_option maxRecDepth 20000 in
theorem wl_X11_91 : Cond.methodLink RX11 91 yX11_stateBehind ∈ TB := tbw 651 rfl rfl
set_option maxRecDepth 20000 in
theorem wm_X11_stateBehind : Cond.instanceMethod yX11_stateBehind ∈ TB := tbw 653 rfl rfl
set_option maxRecDepth 20000 in
theorem wc_X11_stateBehind : Cond.code yX11_stateBehind cX11_stateBehind 4 (some .int) ∈ TB := tbw 654 rfl rfl
set_option maxRecDepth 20000 in
theorem wl_X11_88 : Cond.methodLink RX11 88 yX11_stateBy ∈ TB := tbw 655 rfl rfl
set_option maxRecDepth 20000 in
theorem wm_X11_stateBy : Cond.instanceMethod yX11_stateBy ∈ TB := tbw 657 rfl rfl
set_option maxRecDepth 20000 in
theorem wc_X11_stateBy : Cond.code yX11_stateBy cX11_stateBy 3 (some .int) ∈ TB := tbw 658 rfl rfl
set_option maxRecDepth 20000 in
theorem wl_X11_94 : Cond.methodLink RX11 94 yX11_familyBy ∈ TB := tbw 659 rfl rfl
set_option maxRecDepth 20000 in
theorem wm_X11_familyBy : Cond.instanceMethod yX11_familyBy ∈ TB := tbw 661 rfl rfl
set_option maxRecDepth 20000 in
theorem wc_X11_familyBy : Cond.code yX11_familyBy cX11_familyBy 4 (some .int) ∈ TB := tbw 662 rfl rfl
set_option maxRecDepth 20000 in
theorem wl_X11_77 : Cond.methodLink RX11 77 yX11_odd ∈ TB := tbw 663 rfl rfl
set_option maxRecDepth 20000 in
theorem ws_X11_odd : Cond.static yX11_odd ∈ TB := tbw 664 rfl rfl
set_option maxRecDepth 20000 in
theorem wc_X11_odd : Cond.code yX11_odd cX11_odd 3 (some .int) ∈ TB := tbw 665 rfl rfl
set_option maxRecDepth 20000 in
theorem wl_X11_62 : Cond.methodLink RX11 62 yX11_memberOf ∈ TB := tbw 666 rfl rfl
set_option maxRecDepth 20000 in
theorem ws_X11_memberOf : Cond.static yX11_memberOf ∈ TB := tbw 667 rfl rfl
set_option maxRecDepth 20000 in
theorem wc_X11_memberOf : Cond.code yX11_memberOf cX11_memberOf 4 (some .int) ∈ TB := tbw 668 rfl rfl
set_option maxRecDepth 20000 in
theorem wl_X11_47 : Cond.methodLink RX11 47 yX11_familyOf ∈ TB := tbw 669 rfl rfl
set_option maxRecDepth 20000 in
theorem ws_X11_familyOf : Cond.static yX11_familyOf ∈ TB := tbw 670 rfl rfl
set_option maxRecDepth 20000 in
theorem wc_X11_familyOf : Cond.code yX11_familyOf cX11_familyOf 3 (some .int) ∈ TB := tbw 671 rfl rfl
set_option maxRecDepth 20000 in
theorem wl_L_26 : Cond.methodLink RL 26 yX11_hear ∈ TB := tbw 672 rfl rfl
set_option maxRecDepth 20000 in
theorem wm_X11_hear : Cond.instanceMethod yX11_hear ∈ TB := tbw 673 rfl rfl
set_option maxRecDepth 20000 in
theorem wv_X11_hear : Cond.selects RX11 yX11_hear yX11_hear ∈ TB := tbw 674 rfl rfl
set_option maxRecDepth 20000 in
theorem wc_X11_hear : Cond.code yX11_hear cX11_hear 3 (some .int) ∈ TB := tbw 675 rfl rfl
set_option maxRecDepth 20000 in
theorem wl_X11_105 : Cond.methodLink RX11 105 yX11_hears ∈ TB := tbw 676 rfl rfl
set_option maxRecDepth 20000 in
theorem wm_X11_hears : Cond.instanceMethod yX11_hears ∈ TB := tbw 678 rfl rfl
set_option maxRecDepth 20000 in
theorem wc_X11_hears : Cond.code yX11_hears cX11_hears 4 none ∈ TB := tbw 679 rfl rfl
set_option maxRecDepth 20000 in
theorem wl_L_30 : Cond.methodLink RL 30 yX11_drift ∈ TB := tbw 680 rfl rfl
set_option maxRecDepth 20000 in
theorem wm_X11_drift : Cond.instanceMethod yX11_drift ∈ TB := tbw 681 rfl rfl
set_option maxRecDepth 20000 in
theorem wv_X11_drift : Cond.selects RX11 yX11_drift yX11_drift ∈ TB := tbw 682 rfl rfl
set_option maxRecDepth 20000 in
theorem wc_X11_drift : Cond.code yX11_drift cX11_drift 9 (some .int) ∈ TB := tbw 683 rfl rfl
set_option maxRecDepth 20000 in
theorem wk_X11_112 : Cond.constant RX11 112 (999999) ∈ TB := tbw 684 rfl rfl
set_option maxRecDepth 20000 in
theorem wl_X11_113 : Cond.methodLink RX11 113 yX11_drawn ∈ TB := tbw 685 rfl rfl
set_option maxRecDepth 20000 in
theorem ws_X11_drawn : Cond.static yX11_drawn ∈ TB := tbw 686 rfl rfl
set_option maxRecDepth 20000 in
theorem wc_X11_drawn : Cond.code yX11_drawn cX11_drawn 2 (some .long) ∈ TB := tbw 687 rfl rfl
set_option maxRecDepth 20000 in
theorem wkl_X11_108 : Cond.constantLong RX11 108 (16807) ∈ TB := tbw 688 rfl rfl
set_option maxRecDepth 20000 in
theorem wkl_X11_110 : Cond.constantLong RX11 110 (2147483647) ∈ TB := tbw 689 rfl rfl
set_option maxRecDepth 20000 in
theorem wkl_X11_117 : Cond.constantLong RX11 117 (2) ∈ TB := tbw 690 rfl rfl
set_option maxRecDepth 20000 in
theorem wkl_X11_119 : Cond.constantLong RX11 119 (4) ∈ TB := tbw 691 rfl rfl
set_option maxRecDepth 20000 in
theorem wkl_X11_121 : Cond.constantLong RX11 121 (25) ∈ TB := tbw 692 rfl rfl
set_option maxRecDepth 20000 in
theorem wl_X11_51 : Cond.methodLink RX11 51 yX11_xOf ∈ TB := tbw 693 rfl rfl
set_option maxRecDepth 20000 in
theorem ws_X11_xOf : Cond.static yX11_xOf ∈ TB := tbw 694 rfl rfl
set_option maxRecDepth 20000 in
theorem wc_X11_xOf : Cond.code yX11_xOf cX11_xOf 1 (some .int) ∈ TB := tbw 695 rfl rfl
set_option maxRecDepth 20000 in
theorem wl_X11_54 : Cond.methodLink RX11 54 yX11_yOf ∈ TB := tbw 696 rfl rfl
set_option maxRecDepth 20000 in
theorem ws_X11_yOf : Cond.static yX11_yOf ∈ TB := tbw 697 rfl rfl
set_option maxRecDepth 20000 in
theorem wc_X11_yOf : Cond.code yX11_yOf cX11_yOf 1 (some .int) ∈ TB := tbw 698 rfl rfl
set_option maxRecDepth 20000 in
theorem wl_L_35 : Cond.methodLink RL 35 yX11_wipe ∈ TB := tbw 699 rfl rfl
set_option maxRecDepth 20000 in
theorem wm_X11_wipe : Cond.instanceMethod yX11_wipe ∈ TB := tbw 700 rfl rfl
set_option maxRecDepth 20000 in
theorem wv_X11_wipe : Cond.selects RX11 yX11_wipe yX11_wipe ∈ TB := tbw 701 rfl rfl
set_option maxRecDepth 20000 in
theorem wc_X11_wipe : Cond.code yX11_wipe cX11_wipe 2 (some .int) ∈ TB := tbw 702 rfl rfl
set_option maxRecDepth 20000 in
theorem wl_L_40 : Cond.methodLink RL 40 yX11_end ∈ TB := tbw 703 rfl rfl
set_option maxRecDepth 20000 in
theorem wm_X11_end : Cond.instanceMethod yX11_end ∈ TB := tbw 704 rfl rfl
set_option maxRecDepth 20000 in
theorem wv_X11_end : Cond.selects RX11 yX11_end yX11_end ∈ TB := tbw 705 rfl rfl
set_option maxRecDepth 20000 in
theorem wc_X11_end : Cond.code yX11_end cX11_end 3 (some .int) ∈ TB := tbw 706 rfl rfl
set_option maxRecDepth 20000 in
theorem wl_X11_123 : Cond.methodLink RX11 123 yX11_isState ∈ TB := tbw 707 rfl rfl
set_option maxRecDepth 20000 in
theorem wm_X11_isState : Cond.instanceMethod yX11_isState ∈ TB := tbw 709 rfl rfl
set_option maxRecDepth 20000 in
theorem wc_X11_isState : Cond.code yX11_isState cX11_isState 2 (some .boolean) ∈ TB := tbw 710 rfl rfl
set_option maxRecDepth 20000 in
theorem wk_X11_127 : Cond.constant RX11 127 (-1000000001) ∈ TB := tbw 711 rfl rfl
set_option maxRecDepth 20000 in
theorem wl_L_44 : Cond.methodLink RL 44 yX11_undo ∈ TB := tbw 712 rfl rfl
set_option maxRecDepth 20000 in
theorem wm_X11_undo : Cond.instanceMethod yX11_undo ∈ TB := tbw 713 rfl rfl
set_option maxRecDepth 20000 in
theorem wv_X11_undo : Cond.selects RX11 yX11_undo yX11_undo ∈ TB := tbw 714 rfl rfl
set_option maxRecDepth 20000 in
theorem wc_X11_undo : Cond.code yX11_undo cX11_undo 2 (some .int) ∈ TB := tbw 715 rfl rfl
set_option maxRecDepth 20000 in
theorem wk_X11_128 : Cond.constant RX11 128 (-1000000003) ∈ TB := tbw 716 rfl rfl
set_option maxRecDepth 20000 in
theorem wl_L_48 : Cond.methodLink RL 48 yX11_told ∈ TB := tbw 717 rfl rfl
set_option maxRecDepth 20000 in
theorem wm_X11_told : Cond.instanceMethod yX11_told ∈ TB := tbw 718 rfl rfl
set_option maxRecDepth 20000 in
theorem wv_X11_told : Cond.selects RX11 yX11_told yX11_told ∈ TB := tbw 719 rfl rfl
set_option maxRecDepth 20000 in
theorem wc_X11_told : Cond.code yX11_told cX11_told 2 (some .int) ∈ TB := tbw 720 rfl rfl
set_option maxRecDepth 20000 in
theorem wl_X11_136 : Cond.methodLink RX11 136 yX11_finds ∈ TB := tbw 721 rfl rfl
set_option maxRecDepth 20000 in
theorem wm_X11_finds : Cond.instanceMethod yX11_finds ∈ TB := tbw 723 rfl rfl
set_option maxRecDepth 20000 in
theorem wc_X11_finds : Cond.code yX11_finds cX11_finds 8 (some .int) ∈ TB := tbw 724 rfl rfl
set_option maxRecDepth 20000 in
theorem wk_X11_57 : Cond.constant RX11 57 (99999999) ∈ TB := tbw 725 rfl rfl
set_option maxRecDepth 20000 in
theorem wl_X11_132 : Cond.methodLink RX11 132 yX11_costFrom ∈ TB := tbw 726 rfl rfl
set_option maxRecDepth 20000 in
theorem wm_X11_costFrom : Cond.instanceMethod yX11_costFrom ∈ TB := tbw 728 rfl rfl
set_option maxRecDepth 20000 in
theorem wc_X11_costFrom : Cond.code yX11_costFrom cX11_costFrom 6 (some .int) ∈ TB := tbw 729 rfl rfl
set_option maxRecDepth 20000 in
theorem wl_X11_129 : Cond.methodLink RX11 129 yX11_costAt ∈ TB := tbw 730 rfl rfl
set_option maxRecDepth 20000 in
theorem wm_X11_costAt : Cond.instanceMethod yX11_costAt ∈ TB := tbw 732 rfl rfl
set_option maxRecDepth 20000 in
theorem wc_X11_costAt : Cond.code yX11_costAt cX11_costAt 3 (some .int) ∈ TB := tbw 733 rfl rfl
set_option maxRecDepth 20000 in
theorem wl_X11_58 : Cond.methodLink RX11 58 yX11_far ∈ TB := tbw 734 rfl rfl
set_option maxRecDepth 20000 in
theorem ws_X11_far : Cond.static yX11_far ∈ TB := tbw 735 rfl rfl
set_option maxRecDepth 20000 in
theorem wc_X11_far : Cond.code yX11_far cX11_far 5 (some .int) ∈ TB := tbw 736 rfl rfl
set_option maxRecDepth 20000 in
theorem wl_X11_151 : Cond.methodLink RX11 151 yX11_errors ∈ TB := tbw 737 rfl rfl
set_option maxRecDepth 20000 in
theorem wm_X11_errors : Cond.instanceMethod yX11_errors ∈ TB := tbw 739 rfl rfl
set_option maxRecDepth 20000 in
theorem wc_X11_errors : Cond.code yX11_errors cX11_errors 3 (some .int) ∈ TB := tbw 740 rfl rfl
set_option maxRecDepth 20000 in
theorem wl_X11_139 : Cond.methodLink RX11 139 yX11_pointOf ∈ TB := tbw 741 rfl rfl
set_option maxRecDepth 20000 in
theorem wm_X11_pointOf : Cond.instanceMethod yX11_pointOf ∈ TB := tbw 743 rfl rfl
set_option maxRecDepth 20000 in
theorem wc_X11_pointOf : Cond.code yX11_pointOf cX11_pointOf 2 (some .int) ∈ TB := tbw 744 rfl rfl
set_option maxRecDepth 20000 in
theorem wl_X11_154 : Cond.methodLink RX11 154 yX11_free ∈ TB := tbw 745 rfl rfl
set_option maxRecDepth 20000 in
theorem wm_X11_free : Cond.instanceMethod yX11_free ∈ TB := tbw 747 rfl rfl
set_option maxRecDepth 20000 in
theorem wc_X11_free : Cond.code yX11_free cX11_free 9 (some .int) ∈ TB := tbw 748 rfl rfl
set_option maxRecDepth 20000 in
theorem wl_X11_142 : Cond.methodLink RX11 142 yX11_apartOf ∈ TB := tbw 749 rfl rfl
set_option maxRecDepth 20000 in
theorem ws_X11_apartOf : Cond.static yX11_apartOf ∈ TB := tbw 750 rfl rfl
set_option maxRecDepth 20000 in
theorem wc_X11_apartOf : Cond.code yX11_apartOf cX11_apartOf 7 (some .int) ∈ TB := tbw 751 rfl rfl
set_option maxRecDepth 20000 in
theorem wl_X11_145 : Cond.methodLink RX11 145 yX11_apartBy ∈ TB := tbw 752 rfl rfl
set_option maxRecDepth 20000 in
theorem wm_X11_apartBy : Cond.instanceMethod yX11_apartBy ∈ TB := tbw 754 rfl rfl
set_option maxRecDepth 20000 in
theorem wc_X11_apartBy : Cond.code yX11_apartBy cX11_apartBy 7 (some .int) ∈ TB := tbw 755 rfl rfl
set_option maxRecDepth 20000 in
theorem wl_X11_157 : Cond.methodLink RX11 157 yX11_isTurning ∈ TB := tbw 756 rfl rfl
set_option maxRecDepth 20000 in
theorem wm_X11_isTurning : Cond.instanceMethod yX11_isTurning ∈ TB := tbw 758 rfl rfl
set_option maxRecDepth 20000 in
theorem wc_X11_isTurning : Cond.code yX11_isTurning cX11_isTurning 11 (some .boolean) ∈ TB := tbw 759 rfl rfl
set_option maxRecDepth 20000 in
theorem wl_X11_148 : Cond.methodLink RX11 148 yX11_turnedFamily ∈ TB := tbw 760 rfl rfl
set_option maxRecDepth 20000 in
theorem ws_X11_turnedFamily : Cond.static yX11_turnedFamily ∈ TB := tbw 761 rfl rfl
set_option maxRecDepth 20000 in
theorem wc_X11_turnedFamily : Cond.code yX11_turnedFamily cX11_turnedFamily 1 (some .int) ∈ TB := tbw 762 rfl rfl
set_option maxRecDepth 20000 in
theorem wl_X11_66 : Cond.methodLink RX11 66 yX11_turn ∈ TB := tbw 763 rfl rfl
set_option maxRecDepth 20000 in
theorem ws_X11_turn : Cond.static yX11_turn ∈ TB := tbw 764 rfl rfl
set_option maxRecDepth 20000 in
theorem wc_X11_turn : Cond.code yX11_turn cX11_turn 1 (some .int) ∈ TB := tbw 765 rfl rfl
set_option maxRecDepth 20000 in
theorem wl_X11_161 : Cond.methodLink RX11 161 yX11_signs ∈ TB := tbw 766 rfl rfl
set_option maxRecDepth 20000 in
theorem wm_X11_signs : Cond.instanceMethod yX11_signs ∈ TB := tbw 768 rfl rfl
set_option maxRecDepth 20000 in
theorem wc_X11_signs : Cond.code yX11_signs cX11_signs 2 (some .int) ∈ TB := tbw 769 rfl rfl
set_option maxRecDepth 20000 in
theorem wl_L_52 : Cond.methodLink RL 52 yX11_point ∈ TB := tbw 770 rfl rfl
set_option maxRecDepth 20000 in
theorem wm_X11_point : Cond.instanceMethod yX11_point ∈ TB := tbw 771 rfl rfl
set_option maxRecDepth 20000 in
theorem wv_X11_point : Cond.selects RX11 yX11_point yX11_point ∈ TB := tbw 772 rfl rfl
set_option maxRecDepth 20000 in
theorem wc_X11_point : Cond.code yX11_point cX11_point 3 (some .int) ∈ TB := tbw 773 rfl rfl
set_option maxRecDepth 20000 in
theorem wl_X11_164 : Cond.methodLink RX11 164 yX11_isPoint ∈ TB := tbw 774 rfl rfl
set_option maxRecDepth 20000 in
theorem ws_X11_isPoint : Cond.static yX11_isPoint ∈ TB := tbw 775 rfl rfl
set_option maxRecDepth 20000 in
theorem wc_X11_isPoint : Cond.code yX11_isPoint cX11_isPoint 1 (some .boolean) ∈ TB := tbw 776 rfl rfl
set_option maxRecDepth 20000 in
theorem wl_X11_167 : Cond.methodLink RX11 167 yX11_orderOf ∈ TB := tbw 777 rfl rfl
set_option maxRecDepth 20000 in
theorem ws_X11_orderOf : Cond.static yX11_orderOf ∈ TB := tbw 778 rfl rfl
set_option maxRecDepth 20000 in
theorem wc_X11_orderOf : Cond.code yX11_orderOf cX11_orderOf 3 (some .int) ∈ TB := tbw 779 rfl rfl
set_option maxRecDepth 20000 in
theorem wl_L_56 : Cond.methodLink RL 56 yX11_member ∈ TB := tbw 780 rfl rfl
set_option maxRecDepth 20000 in
theorem wm_X11_member : Cond.instanceMethod yX11_member ∈ TB := tbw 781 rfl rfl
set_option maxRecDepth 20000 in
theorem wv_X11_member : Cond.selects RX11 yX11_member yX11_member ∈ TB := tbw 782 rfl rfl
set_option maxRecDepth 20000 in
theorem wc_X11_member : Cond.code yX11_member cX11_member 3 (some .int) ∈ TB := tbw 783 rfl rfl
set_option maxRecDepth 20000 in
theorem wl_X11_170 : Cond.methodLink RX11 170 yX11_isFamily ∈ TB := tbw 784 rfl rfl
set_option maxRecDepth 20000 in
theorem ws_X11_isFamily : Cond.static yX11_isFamily ∈ TB := tbw 785 rfl rfl
set_option maxRecDepth 20000 in
theorem wc_X11_isFamily : Cond.code yX11_isFamily cX11_isFamily 1 (some .boolean) ∈ TB := tbw 786 rfl rfl
set_option maxRecDepth 20000 in
theorem wl_L_60 : Cond.methodLink RL 60 yX11_apart ∈ TB := tbw 787 rfl rfl
set_option maxRecDepth 20000 in
theorem wm_X11_apart : Cond.instanceMethod yX11_apart ∈ TB := tbw 788 rfl rfl
set_option maxRecDepth 20000 in
theorem wv_X11_apart : Cond.selects RX11 yX11_apart yX11_apart ∈ TB := tbw 789 rfl rfl
set_option maxRecDepth 20000 in
theorem wc_X11_apart : Cond.code yX11_apart cX11_apart 3 (some .int) ∈ TB := tbw 790 rfl rfl
set_option maxRecDepth 20000 in
theorem wl_L_64 : Cond.methodLink RL 64 yX11_distance ∈ TB := tbw 791 rfl rfl
set_option maxRecDepth 20000 in
theorem wm_X11_distance : Cond.instanceMethod yX11_distance ∈ TB := tbw 792 rfl rfl
set_option maxRecDepth 20000 in
theorem wv_X11_distance : Cond.selects RX11 yX11_distance yX11_distance ∈ TB := tbw 793 rfl rfl
set_option maxRecDepth 20000 in
theorem wc_X11_distance : Cond.code yX11_distance cX11_distance 3 (some .int) ∈ TB := tbw 794 rfl rfl
set_option maxRecDepth 20000 in
theorem wl_L_68 : Cond.methodLink RL 68 yX11_turned ∈ TB := tbw 795 rfl rfl
set_option maxRecDepth 20000 in
theorem wm_X11_turned : Cond.instanceMethod yX11_turned ∈ TB := tbw 796 rfl rfl
set_option maxRecDepth 20000 in
theorem wv_X11_turned : Cond.selects RX11 yX11_turned yX11_turned ∈ TB := tbw 797 rfl rfl
set_option maxRecDepth 20000 in
theorem wc_X11_turned : Cond.code yX11_turned cX11_turned 2 (some .int) ∈ TB := tbw 798 rfl rfl
set_option maxRecDepth 20000 in
theorem wl_L_72 : Cond.methodLink RL 72 yX11_next ∈ TB := tbw 799 rfl rfl
set_option maxRecDepth 20000 in
theorem wm_X11_next : Cond.instanceMethod yX11_next ∈ TB := tbw 800 rfl rfl
set_option maxRecDepth 20000 in
theorem wv_X11_next : Cond.selects RX11 yX11_next yX11_next ∈ TB := tbw 801 rfl rfl
set_option maxRecDepth 20000 in
theorem wc_X11_next : Cond.code yX11_next cX11_next 4 (some .int) ∈ TB := tbw 802 rfl rfl
set_option maxRecDepth 20000 in
theorem wl_L_76 : Cond.methodLink RL 76 yX11_sent ∈ TB := tbw 803 rfl rfl
set_option maxRecDepth 20000 in
theorem wm_X11_sent : Cond.instanceMethod yX11_sent ∈ TB := tbw 804 rfl rfl
set_option maxRecDepth 20000 in
theorem wv_X11_sent : Cond.selects RX11 yX11_sent yX11_sent ∈ TB := tbw 805 rfl rfl
set_option maxRecDepth 20000 in
theorem wc_X11_sent : Cond.code yX11_sent cX11_sent 3 (some .int) ∈ TB := tbw 806 rfl rfl
set_option maxRecDepth 20000 in
theorem wl_L_80 : Cond.methodLink RL 80 yX11_heard ∈ TB := tbw 807 rfl rfl
set_option maxRecDepth 20000 in
theorem wm_X11_heard : Cond.instanceMethod yX11_heard ∈ TB := tbw 808 rfl rfl
set_option maxRecDepth 20000 in
theorem wv_X11_heard : Cond.selects RX11 yX11_heard yX11_heard ∈ TB := tbw 809 rfl rfl
set_option maxRecDepth 20000 in
theorem wc_X11_heard : Cond.code yX11_heard cX11_heard 5 (some .int) ∈ TB := tbw 810 rfl rfl
set_option maxRecDepth 20000 in
theorem wl_L_84 : Cond.methodLink RL 84 yX11_nearest ∈ TB := tbw 811 rfl rfl
set_option maxRecDepth 20000 in
theorem wm_X11_nearest : Cond.instanceMethod yX11_nearest ∈ TB := tbw 812 rfl rfl
set_option maxRecDepth 20000 in
theorem wv_X11_nearest : Cond.selects RX11 yX11_nearest yX11_nearest ∈ TB := tbw 813 rfl rfl
set_option maxRecDepth 20000 in
theorem wc_X11_nearest : Cond.code yX11_nearest cX11_nearest 3 (some .int) ∈ TB := tbw 814 rfl rfl
set_option maxRecDepth 20000 in
theorem wl_L_88 : Cond.methodLink RL 88 yX11_ahead ∈ TB := tbw 815 rfl rfl
set_option maxRecDepth 20000 in
theorem wm_X11_ahead : Cond.instanceMethod yX11_ahead ∈ TB := tbw 816 rfl rfl
set_option maxRecDepth 20000 in
theorem wv_X11_ahead : Cond.selects RX11 yX11_ahead yX11_ahead ∈ TB := tbw 817 rfl rfl
set_option maxRecDepth 20000 in
theorem wc_X11_ahead : Cond.code yX11_ahead cX11_ahead 3 (some .int) ∈ TB := tbw 818 rfl rfl
set_option maxRecDepth 20000 in
theorem wl_L_92 : Cond.methodLink RL 92 yX11_decided ∈ TB := tbw 819 rfl rfl
set_option maxRecDepth 20000 in
theorem wm_X11_decided : Cond.instanceMethod yX11_decided ∈ TB := tbw 820 rfl rfl
set_option maxRecDepth 20000 in
theorem wv_X11_decided : Cond.selects RX11 yX11_decided yX11_decided ∈ TB := tbw 821 rfl rfl
set_option maxRecDepth 20000 in
theorem wc_X11_decided : Cond.code yX11_decided cX11_decided 3 (some .int) ∈ TB := tbw 822 rfl rfl
set_option maxRecDepth 20000 in
theorem wl_L_96 : Cond.methodLink RL 96 yX11_cost ∈ TB := tbw 823 rfl rfl
set_option maxRecDepth 20000 in
theorem wm_X11_cost : Cond.instanceMethod yX11_cost ∈ TB := tbw 824 rfl rfl
set_option maxRecDepth 20000 in
theorem wv_X11_cost : Cond.selects RX11 yX11_cost yX11_cost ∈ TB := tbw 825 rfl rfl
set_option maxRecDepth 20000 in
theorem wc_X11_cost : Cond.code yX11_cost cX11_cost 3 (some .int) ∈ TB := tbw 826 rfl rfl
set_option maxRecDepth 20000 in
theorem wl_L_100 : Cond.methodLink RL 100 yX11_sign ∈ TB := tbw 827 rfl rfl
set_option maxRecDepth 20000 in
theorem wm_X11_sign : Cond.instanceMethod yX11_sign ∈ TB := tbw 828 rfl rfl
set_option maxRecDepth 20000 in
theorem wv_X11_sign : Cond.selects RX11 yX11_sign yX11_sign ∈ TB := tbw 829 rfl rfl
set_option maxRecDepth 20000 in
theorem wc_X11_sign : Cond.code yX11_sign cX11_sign 3 (some .int) ∈ TB := tbw 830 rfl rfl
set_option maxRecDepth 20000 in
theorem wl_L_104 : Cond.methodLink RL 104 yX11_keep ∈ TB := tbw 831 rfl rfl
set_option maxRecDepth 20000 in
theorem wm_X11_keep : Cond.instanceMethod yX11_keep ∈ TB := tbw 832 rfl rfl
set_option maxRecDepth 20000 in
theorem wv_X11_keep : Cond.selects RX11 yX11_keep yX11_keep ∈ TB := tbw 833 rfl rfl
set_option maxRecDepth 20000 in
theorem wc_X11_keep : Cond.code yX11_keep cX11_keep 3 (some .int) ∈ TB := tbw 834 rfl rfl
set_option maxRecDepth 20000 in
theorem wl_L_108 : Cond.methodLink RL 108 yX11_goBack ∈ TB := tbw 835 rfl rfl
set_option maxRecDepth 20000 in
theorem wm_X11_goBack : Cond.instanceMethod yX11_goBack ∈ TB := tbw 836 rfl rfl
set_option maxRecDepth 20000 in
theorem wv_X11_goBack : Cond.selects RX11 yX11_goBack yX11_goBack ∈ TB := tbw 837 rfl rfl
set_option maxRecDepth 20000 in
theorem wc_X11_goBack : Cond.code yX11_goBack cX11_goBack 3 (some .int) ∈ TB := tbw 838 rfl rfl
theorem wv_X0_registerOf : Cond.selects RX0 yX0_registerOf yX0_registerOf ∈ TB := tbs 0 rfl rfl
theorem wv_X10_isState : Cond.selects RX10 yX10_isState yX10_isState ∈ TB := tbs 1 rfl rfl
theorem wv_X10_seekNearest : Cond.selects RX10 yX10_seekNearest yX10_seekNearest ∈ TB := tbs 2 rfl rfl
theorem wv_X8_weigh : Cond.selects RX8 yX8_weigh yX8_weigh ∈ TB := tbs 3 rfl rfl
theorem wv_X8_choose : Cond.selects RX8 yX8_choose yX8_choose ∈ TB := tbs 4 rfl rfl
theorem wv_X8_reckon : Cond.selects RX8 yX8_reckon yX8_reckon ∈ TB := tbs 5 rfl rfl
theorem wv_X8_restBy : Cond.selects RX8 yX8_restBy yX8_restBy ∈ TB := tbs 6 rfl rfl
theorem wv_X8_walk : Cond.selects RX8 yX8_walk yX8_walk ∈ TB := tbs 7 rfl rfl
theorem wv_X10_countUnlike : Cond.selects RX10 yX10_countUnlike yX10_countUnlike ∈ TB := tbs 8 rfl rfl
theorem wv_X4_fillGaps : Cond.selects RX4 yX4_fillGaps yX4_fillGaps ∈ TB := tbs 9 rfl rfl
theorem wv_X4_part : Cond.selects RX4 yX4_part yX4_part ∈ TB := tbs 10 rfl rfl
theorem wv_X4_gapOfSteps : Cond.selects RX4 yX4_gapOfSteps yX4_gapOfSteps ∈ TB := tbs 11 rfl rfl
theorem wv_X4_advance : Cond.selects RX4 yX4_advance yX4_advance ∈ TB := tbs 12 rfl rfl
theorem wv_X4_advancePair : Cond.selects RX4 yX4_advancePair yX4_advancePair ∈ TB := tbs 13 rfl rfl
theorem wv_X9_carryOn : Cond.selects RX9 yX9_carryOn yX9_carryOn ∈ TB := tbs 14 rfl rfl
theorem wv_X9_mark : Cond.selects RX9 yX9_mark yX9_mark ∈ TB := tbs 15 rfl rfl
theorem wv_X10_countSigns : Cond.selects RX10 yX10_countSigns yX10_countSigns ∈ TB := tbs 16 rfl rfl
theorem wv_X11_notes : Cond.selects RX11 yX11_notes yX11_notes ∈ TB := tbs 17 rfl rfl
theorem wv_X11_manyStates : Cond.selects RX11 yX11_manyStates yX11_manyStates ∈ TB := tbs 18 rfl rfl
theorem wv_X11_sends : Cond.selects RX11 yX11_sends yX11_sends ∈ TB := tbs 19 rfl rfl
theorem wv_X11_pointSent : Cond.selects RX11 yX11_pointSent yX11_pointSent ∈ TB := tbs 20 rfl rfl
theorem wv_X11_stateBehind : Cond.selects RX11 yX11_stateBehind yX11_stateBehind ∈ TB := tbs 21 rfl rfl
theorem wv_X11_stateBy : Cond.selects RX11 yX11_stateBy yX11_stateBy ∈ TB := tbs 22 rfl rfl
theorem wv_X11_familyBy : Cond.selects RX11 yX11_familyBy yX11_familyBy ∈ TB := tbs 23 rfl rfl
theorem wv_X11_hears : Cond.selects RX11 yX11_hears yX11_hears ∈ TB := tbs 24 rfl rfl
theorem wv_X11_isState : Cond.selects RX11 yX11_isState yX11_isState ∈ TB := tbs 25 rfl rfl
theorem wv_X11_finds : Cond.selects RX11 yX11_finds yX11_finds ∈ TB := tbs 26 rfl rfl
theorem wv_X11_costFrom : Cond.selects RX11 yX11_costFrom yX11_costFrom ∈ TB := tbs 27 rfl rfl
theorem wv_X11_costAt : Cond.selects RX11 yX11_costAt yX11_costAt ∈ TB := tbs 28 rfl rfl
theorem wv_X11_errors : Cond.selects RX11 yX11_errors yX11_errors ∈ TB := tbs 29 rfl rfl
theorem wv_X11_pointOf : Cond.selects RX11 yX11_pointOf yX11_pointOf ∈ TB := tbs 30 rfl rfl
theorem wv_X11_free : Cond.selects RX11 yX11_free yX11_free ∈ TB := tbs 31 rfl rfl
theorem wv_X11_apartBy : Cond.selects RX11 yX11_apartBy yX11_apartBy ∈ TB := tbs 32 rfl rfl
theorem wv_X11_isTurning : Cond.selects RX11 yX11_isTurning yX11_isTurning ∈ TB := tbs 33 rfl rfl
theorem wv_X11_signs : Cond.selects RX11 yX11_signs yX11_signs ∈ TB := tbs 34 rfl rfl
set_option maxRecDepth 20000 in
theorem inX0 : ∀ w ∈ wsX00, w ∈ TB := by
  intro w hw
  obtain ⟨k, hk, rfl⟩ := List.mem_map.mp hw
  have hk := List.mem_range.mp hk
  match k, hk with
  | 0, _ => exact tbw 50 rfl rfl
  | 1, _ => exact tbw 52 rfl rfl
  | 2, _ => exact tbw 54 rfl rfl
  | k + 3, h => exact absurd h (by omega)
set_option maxRecDepth 20000 in
theorem inX2 : ∀ w ∈ wsX20, w ∈ TB := by
  intro w hw
  obtain ⟨k, hk, rfl⟩ := List.mem_map.mp hw
  have hk := List.mem_range.mp hk
  match k, hk with
  | 0, _ => exact tbw 323 rfl rfl
  | k + 1, h => exact absurd h (by omega)
set_option maxRecDepth 20000 in
theorem inX3 : ∀ w ∈ wsX30, w ∈ TB := by
  intro w hw
  obtain ⟨k, hk, rfl⟩ := List.mem_map.mp hw
  have hk := List.mem_range.mp hk
  match k, hk with
  | 0, _ => exact tbw 117 rfl rfl
  | 1, _ => exact tbw 119 rfl rfl
  | 2, _ => exact tbw 121 rfl rfl
  | 3, _ => exact tbw 123 rfl rfl
  | k + 4, h => exact absurd h (by omega)
set_option maxRecDepth 20000 in
theorem inX4 : ∀ w ∈ wsX40, w ∈ TB := by
  intro w hw
  obtain ⟨k, hk, rfl⟩ := List.mem_map.mp hw
  have hk := List.mem_range.mp hk
  match k, hk with
  | 0, _ => exact tbw 178 rfl rfl
  | 1, _ => exact tbw 180 rfl rfl
  | 2, _ => exact tbw 182 rfl rfl
  | k + 3, h => exact absurd h (by omega)
set_option maxRecDepth 20000 in
theorem inX5 : ∀ w ∈ wsX50, w ∈ TB := by
  intro w hw
  obtain ⟨k, hk, rfl⟩ := List.mem_map.mp hw
  have hk := List.mem_range.mp hk
  match k, hk with
  | 0, _ => exact tbw 139 rfl rfl
  | 1, _ => exact tbw 141 rfl rfl
  | 2, _ => exact tbw 143 rfl rfl
  | k + 3, h => exact absurd h (by omega)
set_option maxRecDepth 20000 in
theorem inX6 : ∀ w ∈ wsX60, w ∈ TB := by
  intro w hw
  obtain ⟨k, hk, rfl⟩ := List.mem_map.mp hw
  have hk := List.mem_range.mp hk
  match k, hk with
  | 0, _ => exact tbw 100 rfl rfl
  | 1, _ => exact tbw 102 rfl rfl
  | 2, _ => exact tbw 104 rfl rfl
  | k + 3, h => exact absurd h (by omega)
set_option maxRecDepth 20000 in
theorem inX7 : ∀ w ∈ wsX70, w ∈ TB := by
  intro w hw
  obtain ⟨k, hk, rfl⟩ := List.mem_map.mp hw
  have hk := List.mem_range.mp hk
  match k, hk with
  | 0, _ => exact tbw 73 rfl rfl
  | 1, _ => exact tbw 75 rfl rfl
  | 2, _ => exact tbw 77 rfl rfl
  | 3, _ => exact tbw 79 rfl rfl
  | 4, _ => exact tbw 81 rfl rfl
  | k + 5, h => exact absurd h (by omega)
set_option maxRecDepth 20000 in
theorem inX8 : ∀ w ∈ wsX80, w ∈ TB := by
  intro w hw
  obtain ⟨k, hk, rfl⟩ := List.mem_map.mp hw
  have hk := List.mem_range.mp hk
  match k, hk with
  | 0, _ => exact tbw 159 rfl rfl
  | 1, _ => exact tbw 161 rfl rfl
  | 2, _ => exact tbw 163 rfl rfl
  | 3, _ => exact tbw 165 rfl rfl
  | k + 4, h => exact absurd h (by omega)
set_option maxRecDepth 20000 in
theorem inX9 : ∀ w ∈ wsX90, w ∈ TB := by
  intro w hw
  obtain ⟨k, hk, rfl⟩ := List.mem_map.mp hw
  have hk := List.mem_range.mp hk
  match k, hk with
  | 0, _ => exact tbw 193 rfl rfl
  | 1, _ => exact tbw 195 rfl rfl
  | k + 2, h => exact absurd h (by omega)
set_option maxRecDepth 20000 in
theorem inX10 : ∀ w ∈ wsX100, w ∈ TB := by
  intro w hw
  obtain ⟨k, hk, rfl⟩ := List.mem_map.mp hw
  have hk := List.mem_range.mp hk
  match k, hk with
  | 0, _ => exact tbw 205 rfl rfl
  | 1, _ => exact tbw 207 rfl rfl
  | 2, _ => exact tbw 209 rfl rfl
  | 3, _ => exact tbw 211 rfl rfl
  | 4, _ => exact tbw 213 rfl rfl
  | 5, _ => exact tbw 215 rfl rfl
  | 6, _ => exact tbw 217 rfl rfl
  | k + 7, h => exact absurd h (by omega)
set_option maxRecDepth 20000 in
theorem inX11 : ∀ w ∈ wsX110, w ∈ TB := by
  intro w hw
  obtain ⟨k, hk, rfl⟩ := List.mem_map.mp hw
  have hk := List.mem_range.mp hk
  match k, hk with
  | 0, _ => exact tbw 595 rfl rfl
  | 1, _ => exact tbw 597 rfl rfl
  | 2, _ => exact tbw 599 rfl rfl
  | 3, _ => exact tbw 601 rfl rfl
  | 4, _ => exact tbw 603 rfl rfl
  | 5, _ => exact tbw 605 rfl rfl
  | 6, _ => exact tbw 607 rfl rfl
  | 7, _ => exact tbw 609 rfl rfl
  | 8, _ => exact tbw 611 rfl rfl
  | 9, _ => exact tbw 613 rfl rfl
  | 10, _ => exact tbw 615 rfl rfl
  | 11, _ => exact tbw 617 rfl rfl
  | 12, _ => exact tbw 619 rfl rfl
  | k + 13, h => exact absurd h (by omega)
def MI (y : MethodName) (bytes : ByteArray) (maxL : Nat) (ret : Option FieldType) (n : Nat) : Prop := Cond.code y bytes maxL ret ∈ TB ∧ Cond.initialized y.cls ∈ TB ∧ y.cls ≠ "java/lang/invoke/MethodHandle" ∧ y.cls ≠ "java/lang/invoke/VarHandle" ∧ (parseMethodDescriptor y.desc).map (fun d => d.parameters.length) = some n
def MV (y : MethodName) (bytes : ByteArray) (maxL : Nat) (ret : Option FieldType) (n : Nat) : Prop := MI y bytes maxL ret n ∧ Cond.instanceMethod y ∈ TB ∧ Cond.selects y.cls y y ∈ TB
def MS (y : MethodName) (bytes : ByteArray) (maxL : Nat) (ret : Option FieldType) (n : Nat) : Prop := MI y bytes maxL ret n ∧ Cond.static y ∈ TB
theorem mi_X10_init : MI yX10_init cX10_init 2 none 0 := ⟨wc_X10_init, wi_RX10, by decide +kernel, by decide +kernel, by decide +kernel⟩
theorem mi_X3_init : MI yX3_init cX3_init 1 none 0 := ⟨wc_X3_init, wi_RX3, by decide +kernel, by decide +kernel, by decide +kernel⟩
theorem mi_X0_init : MI yX0_init cX0_init 1 none 0 := ⟨wc_X0_init, wi_RX0, by decide +kernel, by decide +kernel, by decide +kernel⟩
theorem mi_X0_set : MV yX0_set cX0_set 4 none 3 := ⟨⟨wc_X0_set, wi_RX0, by decide +kernel, by decide +kernel, by decide +kernel⟩, wm_X0_set, wv_X0_set⟩
theorem mi_X7_init : MI yX7_init cX7_init 1 none 0 := ⟨wc_X7_init, wi_RX7, by decide +kernel, by decide +kernel, by decide +kernel⟩
theorem mi_X6_init : MI yX6_init cX6_init 1 none 0 := ⟨wc_X6_init, wi_RX6, by decide +kernel, by decide +kernel, by decide +kernel⟩
theorem mi_X5_init : MI yX5_init cX5_init 2 none 0 := ⟨wc_X5_init, wi_RX5, by decide +kernel, by decide +kernel, by decide +kernel⟩
theorem mi_X8_init : MI yX8_init cX8_init 1 none 0 := ⟨wc_X8_init, wi_RX8, by decide +kernel, by decide +kernel, by decide +kernel⟩
theorem mi_X4_init : MI yX4_init cX4_init 1 none 0 := ⟨wc_X4_init, wi_RX4, by decide +kernel, by decide +kernel, by decide +kernel⟩
theorem mi_X9_init : MI yX9_init cX9_init 1 none 0 := ⟨wc_X9_init, wi_RX9, by decide +kernel, by decide +kernel, by decide +kernel⟩
theorem mi_X10_code : MV yX10_code cX10_code 5 (some .int) 3 := ⟨⟨wc_X10_code, wi_RX10, by decide +kernel, by decide +kernel, by decide +kernel⟩, wm_X10_code, wv_X10_code⟩
theorem mi_X10_isOutside : MS yX10_isOutside cX10_isOutside 3 (some .boolean) 3 := ⟨⟨wc_X10_isOutside, wi_RX10, by decide +kernel, by decide +kernel, by decide +kernel⟩, ws_X10_isOutside⟩
theorem mi_X5_push : MV yX5_push cX5_push 2 none 1 := ⟨⟨wc_X5_push, wi_RX5, by decide +kernel, by decide +kernel, by decide +kernel⟩, wm_X5_push, wv_X5_push⟩
theorem mi_X3_become : MV yX3_become cX3_become 2 none 1 := ⟨⟨wc_X3_become, wi_RX3, by decide +kernel, by decide +kernel, by decide +kernel⟩, wm_X3_become, wv_X3_become⟩
theorem mi_X7_become : MV yX7_become cX7_become 2 none 1 := ⟨⟨wc_X7_become, wi_RX7, by decide +kernel, by decide +kernel, by decide +kernel⟩, wm_X7_become, wv_X7_become⟩
theorem mi_X6_become : MV yX6_become cX6_become 2 none 1 := ⟨⟨wc_X6_become, wi_RX6, by decide +kernel, by decide +kernel, by decide +kernel⟩, wm_X6_become, wv_X6_become⟩
theorem mi_X3_clear : MV yX3_clear cX3_clear 1 none 0 := ⟨⟨wc_X3_clear, wi_RX3, by decide +kernel, by decide +kernel, by decide +kernel⟩, wm_X3_clear, wv_X3_clear⟩
theorem mi_X0_states : MV yX0_states cX0_states 1 (some .int) 0 := ⟨⟨wc_X0_states, wi_RX0, by decide +kernel, by decide +kernel, by decide +kernel⟩, wm_X0_states, wv_X0_states⟩
theorem mi_X10_send : MV yX10_send cX10_send 3 (some .int) 2 := ⟨⟨wc_X10_send, wi_RX10, by decide +kernel, by decide +kernel, by decide +kernel⟩, wm_X10_send, wv_X10_send⟩
theorem mi_X7_isFull : MV yX7_isFull cX7_isFull 1 (some .boolean) 0 := ⟨⟨wc_X7_isFull, wi_RX7, by decide +kernel, by decide +kernel, by decide +kernel⟩, wm_X7_isFull, wv_X7_isFull⟩
theorem mi_X7_append : MV yX7_append cX7_append 6 (some .int) 3 := ⟨⟨wc_X7_append, wi_RX7, by decide +kernel, by decide +kernel, by decide +kernel⟩, wm_X7_append, wv_X7_append⟩
theorem mi_X7_lastState : MV yX7_lastState cX7_lastState 1 (some .int) 0 := ⟨⟨wc_X7_lastState, wi_RX7, by decide +kernel, by decide +kernel, by decide +kernel⟩, wm_X7_lastState, wv_X7_lastState⟩
theorem mi_X0_familyFrom : MV yX0_familyFrom cX0_familyFrom 4 (some .int) 2 := ⟨⟨wc_X0_familyFrom, wi_RX0, by decide +kernel, by decide +kernel, by decide +kernel⟩, wm_X0_familyFrom, wv_X0_familyFrom⟩
theorem mi_X0_registerOf : MV yX0_registerOf cX0_registerOf 3 (some .int) 2 := ⟨⟨wc_X0_registerOf, wi_RX0, by decide +kernel, by decide +kernel, by decide +kernel⟩, wm_X0_registerOf, wv_X0_registerOf⟩
theorem mi_J6_bitCount_0f7a4 : MS yJ6_bitCount_0f7a4 cJ6_bitCount_0f7a4 1 (some .int) 1 := ⟨⟨wc_J6_bitCount_0f7a4, wi_RJ6, by decide +kernel, by decide +kernel, by decide +kernel⟩, ws_J6_bitCount_0f7a4⟩
theorem mi_X1_pointOf : MS yX1_pointOf cX1_pointOf 6 (some .int) 2 := ⟨⟨wc_X1_pointOf, wi_RX1, by decide +kernel, by decide +kernel, by decide +kernel⟩, ws_X1_pointOf⟩
theorem mi_X0_stateAfter : MV yX0_stateAfter cX0_stateAfter 3 (some .int) 2 := ⟨⟨wc_X0_stateAfter, wi_RX0, by decide +kernel, by decide +kernel, by decide +kernel⟩, wm_X0_stateAfter, wv_X0_stateAfter⟩
theorem mi_X10_hear : MV yX10_hear cX10_hear 3 (some .int) 2 := ⟨⟨wc_X10_hear, wi_RX10, by decide +kernel, by decide +kernel, by decide +kernel⟩, wm_X10_hear, wv_X10_hear⟩
theorem mi_X6_isFull : MV yX6_isFull cX6_isFull 1 (some .boolean) 0 := ⟨⟨wc_X6_isFull, wi_RX6, by decide +kernel, by decide +kernel, by decide +kernel⟩, wm_X6_isFull, wv_X6_isFull⟩
theorem mi_X6_append : MV yX6_append cX6_append 3 none 2 := ⟨⟨wc_X6_append, wi_RX6, by decide +kernel, by decide +kernel, by decide +kernel⟩, wm_X6_append, wv_X6_append⟩
theorem mi_X10_drift : MV yX10_drift cX10_drift 10 (some .int) 2 := ⟨⟨wc_X10_drift, wi_RX10, by decide +kernel, by decide +kernel, by decide +kernel⟩, wm_X10_drift, wv_X10_drift⟩
theorem mi_X2_init : MI yX2_init cX2_init 2 none 1 := ⟨wc_X2_init, wi_RX2, by decide +kernel, by decide +kernel, by decide +kernel⟩
theorem mi_X2_draw : MV yX2_draw cX2_draw 2 (some .int) 1 := ⟨⟨wc_X2_draw, wi_RX2, by decide +kernel, by decide +kernel, by decide +kernel⟩, wm_X2_draw, wv_X2_draw⟩
theorem mi_X1_xOf : MS yX1_xOf cX1_xOf 1 (some .int) 1 := ⟨⟨wc_X1_xOf, wi_RX1, by decide +kernel, by decide +kernel, by decide +kernel⟩, ws_X1_xOf⟩
theorem mi_X1_yOf : MS yX1_yOf cX1_yOf 1 (some .int) 1 := ⟨⟨wc_X1_yOf, wi_RX1, by decide +kernel, by decide +kernel, by decide +kernel⟩, ws_X1_yOf⟩
theorem mi_X10_wipe : MV yX10_wipe cX10_wipe 2 (some .int) 0 := ⟨⟨wc_X10_wipe, wi_RX10, by decide +kernel, by decide +kernel, by decide +kernel⟩, wm_X10_wipe, wv_X10_wipe⟩
theorem mi_X10_end : MV yX10_end cX10_end 3 (some .int) 1 := ⟨⟨wc_X10_end, wi_RX10, by decide +kernel, by decide +kernel, by decide +kernel⟩, wm_X10_end, wv_X10_end⟩
theorem mi_X10_isState : MV yX10_isState cX10_isState 2 (some .boolean) 1 := ⟨⟨wc_X10_isState, wi_RX10, by decide +kernel, by decide +kernel, by decide +kernel⟩, wm_X10_isState, wv_X10_isState⟩
theorem mi_X10_undo : MV yX10_undo cX10_undo 1 (some .int) 0 := ⟨⟨wc_X10_undo, wi_RX10, by decide +kernel, by decide +kernel, by decide +kernel⟩, wm_X10_undo, wv_X10_undo⟩
theorem mi_X5_popInto : MV yX5_popInto cX5_popInto 2 none 1 := ⟨⟨wc_X5_popInto, wi_RX5, by decide +kernel, by decide +kernel, by decide +kernel⟩, wm_X5_popInto, wv_X5_popInto⟩
theorem mi_X10_told : MV yX10_told cX10_told 2 (some .int) 1 := ⟨⟨wc_X10_told, wi_RX10, by decide +kernel, by decide +kernel, by decide +kernel⟩, wm_X10_told, wv_X10_told⟩
theorem mi_X10_seekNearest : MV yX10_seekNearest cX10_seekNearest 1 (some .int) 0 := ⟨⟨wc_X10_seekNearest, wi_RX10, by decide +kernel, by decide +kernel, by decide +kernel⟩, wm_X10_seekNearest, wv_X10_seekNearest⟩
theorem mi_X8_seek : MV yX8_seek cX8_seek 4 (some .int) 3 := ⟨⟨wc_X8_seek, wi_RX8, by decide +kernel, by decide +kernel, by decide +kernel⟩, wm_X8_seek, wv_X8_seek⟩
theorem mi_X8_weigh : MV yX8_weigh cX8_weigh 5 none 2 := ⟨⟨wc_X8_weigh, wi_RX8, by decide +kernel, by decide +kernel, by decide +kernel⟩, wm_X8_weigh, wv_X8_weigh⟩
theorem mi_X8_choose : MV yX8_choose cX8_choose 8 none 4 := ⟨⟨wc_X8_choose, wi_RX8, by decide +kernel, by decide +kernel, by decide +kernel⟩, wm_X8_choose, wv_X8_choose⟩
theorem mi_X1_farFrom : MS yX1_farFrom cX1_farFrom 5 (some .int) 3 := ⟨⟨wc_X1_farFrom, wi_RX1, by decide +kernel, by decide +kernel, by decide +kernel⟩, ws_X1_farFrom⟩
theorem mi_X8_reckon : MV yX8_reckon cX8_reckon 6 none 3 := ⟨⟨wc_X8_reckon, wi_RX8, by decide +kernel, by decide +kernel, by decide +kernel⟩, wm_X8_reckon, wv_X8_reckon⟩
theorem mi_X8_restBy : MV yX8_restBy cX8_restBy 6 (some .int) 4 := ⟨⟨wc_X8_restBy, wi_RX8, by decide +kernel, by decide +kernel, by decide +kernel⟩, wm_X8_restBy, wv_X8_restBy⟩
theorem mi_J9_min_7cf53 : MS yJ9_min_7cf53 cJ9_min_7cf53 2 (some .int) 2 := ⟨⟨wc_J9_min_7cf53, wi_RJ9, by decide +kernel, by decide +kernel, by decide +kernel⟩, ws_J9_min_7cf53⟩
theorem mi_X8_walk : MV yX8_walk cX8_walk 6 none 2 := ⟨⟨wc_X8_walk, wi_RX8, by decide +kernel, by decide +kernel, by decide +kernel⟩, wm_X8_walk, wv_X8_walk⟩
theorem mi_X10_countUnlike : MV yX10_countUnlike cX10_countUnlike 4 (some .int) 0 := ⟨⟨wc_X10_countUnlike, wi_RX10, by decide +kernel, by decide +kernel, by decide +kernel⟩, wm_X10_countUnlike, wv_X10_countUnlike⟩
theorem mi_X4_leastSum : MV yX4_leastSum cX4_leastSum 4 (some .int) 1 := ⟨⟨wc_X4_leastSum, wi_RX4, by decide +kernel, by decide +kernel, by decide +kernel⟩, wm_X4_leastSum, wv_X4_leastSum⟩
theorem mi_X1_gapOf : MS yX1_gapOf cX1_gapOf 7 (some .int) 2 := ⟨⟨wc_X1_gapOf, wi_RX1, by decide +kernel, by decide +kernel, by decide +kernel⟩, ws_X1_gapOf⟩
theorem mi_X4_fillGaps : MV yX4_fillGaps cX4_fillGaps 3 none 0 := ⟨⟨wc_X4_fillGaps, wi_RX4, by decide +kernel, by decide +kernel, by decide +kernel⟩, wm_X4_fillGaps, wv_X4_fillGaps⟩
theorem mi_X4_part : MV yX4_part cX4_part 4 none 1 := ⟨⟨wc_X4_part, wi_RX4, by decide +kernel, by decide +kernel, by decide +kernel⟩, wm_X4_part, wv_X4_part⟩
theorem mi_J7_fill_53178 : MS yJ7_fill_53178 cJ7_fill_53178 4 none 2 := ⟨⟨wc_J7_fill_53178, wi_RJ7, by decide +kernel, by decide +kernel, by decide +kernel⟩, ws_J7_fill_53178⟩
theorem mi_X4_gapOfSteps : MV yX4_gapOfSteps cX4_gapOfSteps 6 (some .int) 5 := ⟨⟨wc_X4_gapOfSteps, wi_RX4, by decide +kernel, by decide +kernel, by decide +kernel⟩, wm_X4_gapOfSteps, wv_X4_gapOfSteps⟩
theorem mi_X4_advance : MV yX4_advance cX4_advance 6 (some .int) 2 := ⟨⟨wc_X4_advance, wi_RX4, by decide +kernel, by decide +kernel, by decide +kernel⟩, wm_X4_advance, wv_X4_advance⟩
theorem mi_X4_advancePair : MV yX4_advancePair cX4_advancePair 11 (some .int) 3 := ⟨⟨wc_X4_advancePair, wi_RX4, by decide +kernel, by decide +kernel, by decide +kernel⟩, wm_X4_advancePair, wv_X4_advancePair⟩
theorem mi_X9_holdsFor : MV yX9_holdsFor cX9_holdsFor 5 (some .boolean) 1 := ⟨⟨wc_X9_holdsFor, wi_RX9, by decide +kernel, by decide +kernel, by decide +kernel⟩, wm_X9_holdsFor, wv_X9_holdsFor⟩
theorem mi_X9_carryOn : MV yX9_carryOn cX9_carryOn 6 (some .boolean) 2 := ⟨⟨wc_X9_carryOn, wi_RX9, by decide +kernel, by decide +kernel, by decide +kernel⟩, wm_X9_carryOn, wv_X9_carryOn⟩
theorem mi_X1_turnOfFamily : MS yX1_turnOfFamily cX1_turnOfFamily 1 (some .int) 1 := ⟨⟨wc_X1_turnOfFamily, wi_RX1, by decide +kernel, by decide +kernel, by decide +kernel⟩, ws_X1_turnOfFamily⟩
theorem mi_X1_turnOf : MS yX1_turnOf cX1_turnOf 1 (some .int) 1 := ⟨⟨wc_X1_turnOf, wi_RX1, by decide +kernel, by decide +kernel, by decide +kernel⟩, ws_X1_turnOf⟩
theorem mi_X1_familyOf : MS yX1_familyOf cX1_familyOf 3 (some .int) 1 := ⟨⟨wc_X1_familyOf, wi_RX1, by decide +kernel, by decide +kernel, by decide +kernel⟩, ws_X1_familyOf⟩
theorem mi_X9_follow : MS yX9_follow cX9_follow 6 (some .int) 3 := ⟨⟨wc_X9_follow, wi_RX9, by decide +kernel, by decide +kernel, by decide +kernel⟩, ws_X9_follow⟩
theorem mi_X9_mark : MV yX9_mark cX9_mark 3 none 2 := ⟨⟨wc_X9_mark, wi_RX9, by decide +kernel, by decide +kernel, by decide +kernel⟩, wm_X9_mark, wv_X9_mark⟩
theorem mi_X10_countSigns : MV yX10_countSigns cX10_countSigns 2 (some .int) 0 := ⟨⟨wc_X10_countSigns, wi_RX10, by decide +kernel, by decide +kernel, by decide +kernel⟩, wm_X10_countSigns, wv_X10_countSigns⟩
theorem mi_X10_point : MV yX10_point cX10_point 3 (some .int) 2 := ⟨⟨wc_X10_point, wi_RX10, by decide +kernel, by decide +kernel, by decide +kernel⟩, wm_X10_point, wv_X10_point⟩
theorem mi_X10_isPoint : MS yX10_isPoint cX10_isPoint 1 (some .boolean) 1 := ⟨⟨wc_X10_isPoint, wi_RX10, by decide +kernel, by decide +kernel, by decide +kernel⟩, ws_X10_isPoint⟩
theorem mi_X1_rankOf : MS yX1_rankOf cX1_rankOf 3 (some .int) 1 := ⟨⟨wc_X1_rankOf, wi_RX1, by decide +kernel, by decide +kernel, by decide +kernel⟩, ws_X1_rankOf⟩
theorem mi_X10_member : MV yX10_member cX10_member 3 (some .int) 2 := ⟨⟨wc_X10_member, wi_RX10, by decide +kernel, by decide +kernel, by decide +kernel⟩, wm_X10_member, wv_X10_member⟩
theorem mi_X10_isFamily : MS yX10_isFamily cX10_isFamily 1 (some .boolean) 1 := ⟨⟨wc_X10_isFamily, wi_RX10, by decide +kernel, by decide +kernel, by decide +kernel⟩, ws_X10_isFamily⟩
theorem mi_X10_apart : MV yX10_apart cX10_apart 3 (some .int) 2 := ⟨⟨wc_X10_apart, wi_RX10, by decide +kernel, by decide +kernel, by decide +kernel⟩, wm_X10_apart, wv_X10_apart⟩
theorem mi_X10_distance : MV yX10_distance cX10_distance 3 (some .int) 2 := ⟨⟨wc_X10_distance, wi_RX10, by decide +kernel, by decide +kernel, by decide +kernel⟩, wm_X10_distance, wv_X10_distance⟩
theorem mi_X10_turned : MV yX10_turned cX10_turned 2 (some .int) 1 := ⟨⟨wc_X10_turned, wi_RX10, by decide +kernel, by decide +kernel, by decide +kernel⟩, wm_X10_turned, wv_X10_turned⟩
theorem mi_X10_next : MV yX10_next cX10_next 4 (some .int) 3 := ⟨⟨wc_X10_next, wi_RX10, by decide +kernel, by decide +kernel, by decide +kernel⟩, wm_X10_next, wv_X10_next⟩
theorem mi_X10_sent : MV yX10_sent cX10_sent 3 (some .int) 2 := ⟨⟨wc_X10_sent, wi_RX10, by decide +kernel, by decide +kernel, by decide +kernel⟩, wm_X10_sent, wv_X10_sent⟩
theorem mi_X7_partOf : MV yX7_partOf cX7_partOf 3 (some .int) 2 := ⟨⟨wc_X7_partOf, wi_RX7, by decide +kernel, by decide +kernel, by decide +kernel⟩, wm_X7_partOf, wv_X7_partOf⟩
theorem mi_X10_heard : MV yX10_heard cX10_heard 3 (some .int) 2 := ⟨⟨wc_X10_heard, wi_RX10, by decide +kernel, by decide +kernel, by decide +kernel⟩, wm_X10_heard, wv_X10_heard⟩
theorem mi_X1_pointAt : MS yX1_pointAt cX1_pointAt 4 (some .int) 2 := ⟨⟨wc_X1_pointAt, wi_RX1, by decide +kernel, by decide +kernel, by decide +kernel⟩, ws_X1_pointAt⟩
theorem mi_X10_nearest : MV yX10_nearest cX10_nearest 3 (some .int) 2 := ⟨⟨wc_X10_nearest, wi_RX10, by decide +kernel, by decide +kernel, by decide +kernel⟩, wm_X10_nearest, wv_X10_nearest⟩
theorem mi_X10_ahead : MV yX10_ahead cX10_ahead 3 (some .int) 2 := ⟨⟨wc_X10_ahead, wi_RX10, by decide +kernel, by decide +kernel, by decide +kernel⟩, wm_X10_ahead, wv_X10_ahead⟩
theorem mi_X10_decided : MV yX10_decided cX10_decided 4 (some .int) 2 := ⟨⟨wc_X10_decided, wi_RX10, by decide +kernel, by decide +kernel, by decide +kernel⟩, wm_X10_decided, wv_X10_decided⟩
theorem mi_X10_cost : MV yX10_cost cX10_cost 4 (some .int) 0 := ⟨⟨wc_X10_cost, wi_RX10, by decide +kernel, by decide +kernel, by decide +kernel⟩, wm_X10_cost, wv_X10_cost⟩
theorem mi_X10_sign : MV yX10_sign cX10_sign 4 (some .int) 1 := ⟨⟨wc_X10_sign, wi_RX10, by decide +kernel, by decide +kernel, by decide +kernel⟩, wm_X10_sign, wv_X10_sign⟩
theorem mi_X10_keep : MV yX10_keep cX10_keep 2 (some .int) 1 := ⟨⟨wc_X10_keep, wi_RX10, by decide +kernel, by decide +kernel, by decide +kernel⟩, wm_X10_keep, wv_X10_keep⟩
theorem mi_X5_forget : MV yX5_forget cX5_forget 1 none 0 := ⟨⟨wc_X5_forget, wi_RX5, by decide +kernel, by decide +kernel, by decide +kernel⟩, wm_X5_forget, wv_X5_forget⟩
theorem mi_X10_goBack : MV yX10_goBack cX10_goBack 2 (some .int) 1 := ⟨⟨wc_X10_goBack, wi_RX10, by decide +kernel, by decide +kernel, by decide +kernel⟩, wm_X10_goBack, wv_X10_goBack⟩
theorem mi_X11_init : MI yX11_init cX11_init 1 none 0 := ⟨wc_X11_init, wi_RX11, by decide +kernel, by decide +kernel, by decide +kernel⟩
theorem mi_X11_code : MV yX11_code cX11_code 4 (some .int) 3 := ⟨⟨wc_X11_code, wi_RX11, by decide +kernel, by decide +kernel, by decide +kernel⟩, wm_X11_code, wv_X11_code⟩
theorem mi_X11_in : MS yX11_in cX11_in 3 (some .boolean) 3 := ⟨⟨wc_X11_in, wi_RX11, by decide +kernel, by decide +kernel, by decide +kernel⟩, ws_X11_in⟩
theorem mi_X11_notes : MV yX11_notes cX11_notes 2 none 0 := ⟨⟨wc_X11_notes, wi_RX11, by decide +kernel, by decide +kernel, by decide +kernel⟩, wm_X11_notes, wv_X11_notes⟩
theorem mi_X11_manyStates : MV yX11_manyStates cX11_manyStates 1 (some .int) 0 := ⟨⟨wc_X11_manyStates, wi_RX11, by decide +kernel, by decide +kernel, by decide +kernel⟩, wm_X11_manyStates, wv_X11_manyStates⟩
theorem mi_X11_send : MV yX11_send cX11_send 3 (some .int) 2 := ⟨⟨wc_X11_send, wi_RX11, by decide +kernel, by decide +kernel, by decide +kernel⟩, wm_X11_send, wv_X11_send⟩
theorem mi_X11_sends : MV yX11_sends cX11_sends 4 none 2 := ⟨⟨wc_X11_sends, wi_RX11, by decide +kernel, by decide +kernel, by decide +kernel⟩, wm_X11_sends, wv_X11_sends⟩
theorem mi_X11_pointSent : MV yX11_pointSent cX11_pointSent 2 (some .int) 1 := ⟨⟨wc_X11_pointSent, wi_RX11, by decide +kernel, by decide +kernel, by decide +kernel⟩, wm_X11_pointSent, wv_X11_pointSent⟩
theorem mi_X11_stateBehind : MV yX11_stateBehind cX11_stateBehind 4 (some .int) 1 := ⟨⟨wc_X11_stateBehind, wi_RX11, by decide +kernel, by decide +kernel, by decide +kernel⟩, wm_X11_stateBehind, wv_X11_stateBehind⟩
theorem mi_X11_stateBy : MV yX11_stateBy cX11_stateBy 3 (some .int) 2 := ⟨⟨wc_X11_stateBy, wi_RX11, by decide +kernel, by decide +kernel, by decide +kernel⟩, wm_X11_stateBy, wv_X11_stateBy⟩
theorem mi_X11_familyBy : MV yX11_familyBy cX11_familyBy 4 (some .int) 2 := ⟨⟨wc_X11_familyBy, wi_RX11, by decide +kernel, by decide +kernel, by decide +kernel⟩, wm_X11_familyBy, wv_X11_familyBy⟩
theorem mi_X11_odd : MS yX11_odd cX11_odd 3 (some .int) 1 := ⟨⟨wc_X11_odd, wi_RX11, by decide +kernel, by decide +kernel, by decide +kernel⟩, ws_X11_odd⟩
theorem mi_X11_memberOf : MS yX11_memberOf cX11_memberOf 4 (some .int) 2 := ⟨⟨wc_X11_memberOf, wi_RX11, by decide +kernel, by decide +kernel, by decide +kernel⟩, ws_X11_memberOf⟩
theorem mi_X11_familyOf : MS yX11_familyOf cX11_familyOf 3 (some .int) 1 := ⟨⟨wc_X11_familyOf, wi_RX11, by decide +kernel, by decide +kernel, by decide +kernel⟩, ws_X11_familyOf⟩
theorem mi_X11_hear : MV yX11_hear cX11_hear 3 (some .int) 2 := ⟨⟨wc_X11_hear, wi_RX11, by decide +kernel, by decide +kernel, by decide +kernel⟩, wm_X11_hear, wv_X11_hear⟩
theorem mi_X11_hears : MV yX11_hears cX11_hears 4 none 2 := ⟨⟨wc_X11_hears, wi_RX11, by decide +kernel, by decide +kernel, by decide +kernel⟩, wm_X11_hears, wv_X11_hears⟩
theorem mi_X11_drift : MV yX11_drift cX11_drift 9 (some .int) 2 := ⟨⟨wc_X11_drift, wi_RX11, by decide +kernel, by decide +kernel, by decide +kernel⟩, wm_X11_drift, wv_X11_drift⟩
theorem mi_X11_drawn : MS yX11_drawn cX11_drawn 2 (some .long) 1 := ⟨⟨wc_X11_drawn, wi_RX11, by decide +kernel, by decide +kernel, by decide +kernel⟩, ws_X11_drawn⟩
theorem mi_X11_xOf : MS yX11_xOf cX11_xOf 1 (some .int) 1 := ⟨⟨wc_X11_xOf, wi_RX11, by decide +kernel, by decide +kernel, by decide +kernel⟩, ws_X11_xOf⟩
theorem mi_X11_yOf : MS yX11_yOf cX11_yOf 1 (some .int) 1 := ⟨⟨wc_X11_yOf, wi_RX11, by decide +kernel, by decide +kernel, by decide +kernel⟩, ws_X11_yOf⟩
theorem mi_X11_wipe : MV yX11_wipe cX11_wipe 2 (some .int) 0 := ⟨⟨wc_X11_wipe, wi_RX11, by decide +kernel, by decide +kernel, by decide +kernel⟩, wm_X11_wipe, wv_X11_wipe⟩
theorem mi_X11_end : MV yX11_end cX11_end 3 (some .int) 1 := ⟨⟨wc_X11_end, wi_RX11, by decide +kernel, by decide +kernel, by decide +kernel⟩, wm_X11_end, wv_X11_end⟩
theorem mi_X11_isState : MV yX11_isState cX11_isState 2 (some .boolean) 1 := ⟨⟨wc_X11_isState, wi_RX11, by decide +kernel, by decide +kernel, by decide +kernel⟩, wm_X11_isState, wv_X11_isState⟩
theorem mi_X11_undo : MV yX11_undo cX11_undo 2 (some .int) 0 := ⟨⟨wc_X11_undo, wi_RX11, by decide +kernel, by decide +kernel, by decide +kernel⟩, wm_X11_undo, wv_X11_undo⟩
theorem mi_X11_told : MV yX11_told cX11_told 2 (some .int) 1 := ⟨⟨wc_X11_told, wi_RX11, by decide +kernel, by decide +kernel, by decide +kernel⟩, wm_X11_told, wv_X11_told⟩
theorem mi_X11_finds : MV yX11_finds cX11_finds 8 (some .int) 2 := ⟨⟨wc_X11_finds, wi_RX11, by decide +kernel, by decide +kernel, by decide +kernel⟩, wm_X11_finds, wv_X11_finds⟩
theorem mi_X11_costFrom : MV yX11_costFrom cX11_costFrom 6 (some .int) 4 := ⟨⟨wc_X11_costFrom, wi_RX11, by decide +kernel, by decide +kernel, by decide +kernel⟩, wm_X11_costFrom, wv_X11_costFrom⟩
theorem mi_X11_costAt : MV yX11_costAt cX11_costAt 3 (some .int) 2 := ⟨⟨wc_X11_costAt, wi_RX11, by decide +kernel, by decide +kernel, by decide +kernel⟩, wm_X11_costAt, wv_X11_costAt⟩
theorem mi_X11_far : MS yX11_far cX11_far 5 (some .int) 3 := ⟨⟨wc_X11_far, wi_RX11, by decide +kernel, by decide +kernel, by decide +kernel⟩, ws_X11_far⟩
theorem mi_X11_errors : MV yX11_errors cX11_errors 3 (some .int) 0 := ⟨⟨wc_X11_errors, wi_RX11, by decide +kernel, by decide +kernel, by decide +kernel⟩, wm_X11_errors, wv_X11_errors⟩
theorem mi_X11_pointOf : MV yX11_pointOf cX11_pointOf 2 (some .int) 1 := ⟨⟨wc_X11_pointOf, wi_RX11, by decide +kernel, by decide +kernel, by decide +kernel⟩, wm_X11_pointOf, wv_X11_pointOf⟩
theorem mi_X11_free : MV yX11_free cX11_free 9 (some .int) 0 := ⟨⟨wc_X11_free, wi_RX11, by decide +kernel, by decide +kernel, by decide +kernel⟩, wm_X11_free, wv_X11_free⟩
theorem mi_X11_apartOf : MS yX11_apartOf cX11_apartOf 7 (some .int) 2 := ⟨⟨wc_X11_apartOf, wi_RX11, by decide +kernel, by decide +kernel, by decide +kernel⟩, ws_X11_apartOf⟩
theorem mi_X11_apartBy : MV yX11_apartBy cX11_apartBy 7 (some .int) 4 := ⟨⟨wc_X11_apartBy, wi_RX11, by decide +kernel, by decide +kernel, by decide +kernel⟩, wm_X11_apartBy, wv_X11_apartBy⟩
theorem mi_X11_isTurning : MV yX11_isTurning cX11_isTurning 11 (some .boolean) 0 := ⟨⟨wc_X11_isTurning, wi_RX11, by decide +kernel, by decide +kernel, by decide +kernel⟩, wm_X11_isTurning, wv_X11_isTurning⟩
theorem mi_X11_turnedFamily : MS yX11_turnedFamily cX11_turnedFamily 1 (some .int) 1 := ⟨⟨wc_X11_turnedFamily, wi_RX11, by decide +kernel, by decide +kernel, by decide +kernel⟩, ws_X11_turnedFamily⟩
theorem mi_X11_turn : MS yX11_turn cX11_turn 1 (some .int) 1 := ⟨⟨wc_X11_turn, wi_RX11, by decide +kernel, by decide +kernel, by decide +kernel⟩, ws_X11_turn⟩
theorem mi_X11_signs : MV yX11_signs cX11_signs 2 (some .int) 0 := ⟨⟨wc_X11_signs, wi_RX11, by decide +kernel, by decide +kernel, by decide +kernel⟩, wm_X11_signs, wv_X11_signs⟩
theorem mi_X11_point : MV yX11_point cX11_point 3 (some .int) 2 := ⟨⟨wc_X11_point, wi_RX11, by decide +kernel, by decide +kernel, by decide +kernel⟩, wm_X11_point, wv_X11_point⟩
theorem mi_X11_isPoint : MS yX11_isPoint cX11_isPoint 1 (some .boolean) 1 := ⟨⟨wc_X11_isPoint, wi_RX11, by decide +kernel, by decide +kernel, by decide +kernel⟩, ws_X11_isPoint⟩
theorem mi_X11_orderOf : MS yX11_orderOf cX11_orderOf 3 (some .int) 1 := ⟨⟨wc_X11_orderOf, wi_RX11, by decide +kernel, by decide +kernel, by decide +kernel⟩, ws_X11_orderOf⟩
theorem mi_X11_member : MV yX11_member cX11_member 3 (some .int) 2 := ⟨⟨wc_X11_member, wi_RX11, by decide +kernel, by decide +kernel, by decide +kernel⟩, wm_X11_member, wv_X11_member⟩
theorem mi_X11_isFamily : MS yX11_isFamily cX11_isFamily 1 (some .boolean) 1 := ⟨⟨wc_X11_isFamily, wi_RX11, by decide +kernel, by decide +kernel, by decide +kernel⟩, ws_X11_isFamily⟩
theorem mi_X11_apart : MV yX11_apart cX11_apart 3 (some .int) 2 := ⟨⟨wc_X11_apart, wi_RX11, by decide +kernel, by decide +kernel, by decide +kernel⟩, wm_X11_apart, wv_X11_apart⟩
theorem mi_X11_distance : MV yX11_distance cX11_distance 3 (some .int) 2 := ⟨⟨wc_X11_distance, wi_RX11, by decide +kernel, by decide +kernel, by decide +kernel⟩, wm_X11_distance, wv_X11_distance⟩
theorem mi_X11_turned : MV yX11_turned cX11_turned 2 (some .int) 1 := ⟨⟨wc_X11_turned, wi_RX11, by decide +kernel, by decide +kernel, by decide +kernel⟩, wm_X11_turned, wv_X11_turned⟩
theorem mi_X11_next : MV yX11_next cX11_next 4 (some .int) 3 := ⟨⟨wc_X11_next, wi_RX11, by decide +kernel, by decide +kernel, by decide +kernel⟩, wm_X11_next, wv_X11_next⟩
theorem mi_X11_sent : MV yX11_sent cX11_sent 3 (some .int) 2 := ⟨⟨wc_X11_sent, wi_RX11, by decide +kernel, by decide +kernel, by decide +kernel⟩, wm_X11_sent, wv_X11_sent⟩
theorem mi_X11_heard : MV yX11_heard cX11_heard 5 (some .int) 2 := ⟨⟨wc_X11_heard, wi_RX11, by decide +kernel, by decide +kernel, by decide +kernel⟩, wm_X11_heard, wv_X11_heard⟩
theorem mi_X11_nearest : MV yX11_nearest cX11_nearest 3 (some .int) 2 := ⟨⟨wc_X11_nearest, wi_RX11, by decide +kernel, by decide +kernel, by decide +kernel⟩, wm_X11_nearest, wv_X11_nearest⟩
theorem mi_X11_ahead : MV yX11_ahead cX11_ahead 3 (some .int) 2 := ⟨⟨wc_X11_ahead, wi_RX11, by decide +kernel, by decide +kernel, by decide +kernel⟩, wm_X11_ahead, wv_X11_ahead⟩
theorem mi_X11_decided : MV yX11_decided cX11_decided 3 (some .int) 2 := ⟨⟨wc_X11_decided, wi_RX11, by decide +kernel, by decide +kernel, by decide +kernel⟩, wm_X11_decided, wv_X11_decided⟩
theorem mi_X11_cost : MV yX11_cost cX11_cost 3 (some .int) 0 := ⟨⟨wc_X11_cost, wi_RX11, by decide +kernel, by decide +kernel, by decide +kernel⟩, wm_X11_cost, wv_X11_cost⟩
theorem mi_X11_sign : MV yX11_sign cX11_sign 3 (some .int) 1 := ⟨⟨wc_X11_sign, wi_RX11, by decide +kernel, by decide +kernel, by decide +kernel⟩, wm_X11_sign, wv_X11_sign⟩
theorem mi_X11_keep : MV yX11_keep cX11_keep 3 (some .int) 1 := ⟨⟨wc_X11_keep, wi_RX11, by decide +kernel, by decide +kernel, by decide +kernel⟩, wm_X11_keep, wv_X11_keep⟩
theorem mi_X11_goBack : MV yX11_goBack cX11_goBack 3 (some .int) 1 := ⟨⟨wc_X11_goBack, wi_RX11, by decide +kernel, by decide +kernel, by decide +kernel⟩, wm_X11_goBack, wv_X11_goBack⟩
end
section
/-! THE MEMORY. All cells of the class and of the reference are made once, by the two constructors, one behind the other from the address b on; no reference ever changes. So a state is a function: cell, place, number. -/
abbrev Mem : Type := Nat → Nat → Int32
def m2 (σ : Mem) (k i : Nat) (v : Int32) : Mem := fun k' => if k' = k then upd (σ k) i v else σ k'
/-- tables' numbers: classes and slots; the classes of int[], boolean[], Moment[] -/
abbrev GT : Type := va_G × ClassId × ClassId × ClassId
def kdM : List Nat := [1, 2, 3, 4, 4, 4, 4, 5, 4, 4]
def kdL : List Nat := [0] ++ kdM ++ [6, 7] ++ kdM ++ kdM ++ kdM ++ kdM ++ kdM ++ kdM ++ kdM ++ kdM ++ [8] ++ kdM ++ kdM ++ [9, 10, 3, 4, 4, 4, 4, 11, 11, 12, 13, 14, 15, 15, 16, 17, 18, 19, 20, 21, 9, 12, 4, 4, 4, 15, 15, 22, 23]
/-- the kind of a cell -/
def kd (k : Nat) : Nat := kdL.getD k 99
theorem kd_lt {k n : Nat} (h : kd k = n) (hn : n ≠ 99) : k < 143 := by
  rcases Nat.lt_or_ge k 143 with q | q
  · exact q
  · exfalso
    apply hn
    rw [← h]
    unfold kd
    rw [List.getD_eq_getElem?_getD, List.getElem?_eq_none (by exact q)]
    rfl
def shr (G : GT) (b k : Nat) (f : Nat → Int32) : va_E := match kd k with
  | 0 => .inr (9, [.ref (b + 1), .ref (b + 11), .ref (b + 93), .ref (b + 114), .ref (b + 115), .ref (b + 124), .ref (b + 128)])
  | 1 => .inr (2, [.ref (b + (k + 1)), .ref (b + (k + 2)), .ref (b + (k + 7)), .int (f 3)])
  | 2 => .inr (0, [.int (f 0), .int (f 1), .int (f 2)])
  | 3 => .inr (6, [.int (f 0), .ref (b + (k + 1)), .ref (b + (k + 2)), .ref (b + (k + 3)), .ref (b + (k + 4))])
  | 4 => .inl (G.2.1, 24, .inl f)
  | 5 => .inr (5, [.int (f 0), .ref (b + (k + 1)), .ref (b + (k + 2))])
  | 6 => .inr (4, [.int (f 0), .int (f 1), .ref (b + 12)])
  | 7 => .inl (G.2.2.2, 8, .inr (.inr (.inr (.inr (fun j => some (b + (13 + 10 * j)))))))
  | 8 => .inl (G.2.2.2, 2, .inr (.inr (.inr (.inr (fun j => some (b + (94 + 10 * j)))))))
  | 9 => .inl (G.2.2.1, 2, .inl f)
  | 10 => .inr (7, [.ref (b + 116), .ref (b + 121), .ref (b + 122), .ref (b + 123)])
  | 11 => .inl (G.2.1, 96, .inl f)
  | 12 => .inl (G.2.1, 200, .inl f)
  | 13 => .inr (3, [.ref (b + 125), .ref (b + 126), .ref (b + 127)])
  | 14 => .inl (G.2.1, 16, .inl f)
  | 15 => .inl (G.2.1, 64, .inl f)
  | 16 => .inr (8, [.ref (b + 129), .int (f 1)])
  | 17 => .inl (G.2.1, 256, .inl f)
  | 18 => .inr (10, [.ref (b + 131), .ref (b + 132), .int (f 2), .ref (b + 133), .ref (b + 134), .ref (b + 135), .ref (b + 136), .ref (b + 137), .ref (b + 138), .ref (b + 139), .ref (b + 140), .ref (b + 141), .ref (b + 142)])
  | 19 => .inl (G.2.1, 102, .inl f)
  | 20 => .inl (G.2.1, 816, .inl f)
  | 21 => .inl (G.2.1, 204, .inl f)
  | 22 => .inl (G.2.2.1, 2048, .inl f)
  | _ => .inl (G.2.1, 2048, .inl f)
section SHR
variable {G : GT} {b k : Nat} {f : Nat → Int32}
theorem sh0 (h : kd k = 0) : shr G b k f = .inr (9, [.ref (b + 1), .ref (b + 11), .ref (b + 93), .ref (b + 114), .ref (b + 115), .ref (b + 124), .ref (b + 128)]) := by unfold shr; rw [h]; rfl
theorem sh1 (h : kd k = 1) : shr G b k f = .inr (2, [.ref (b + (k + 1)), .ref (b + (k + 2)), .ref (b + (k + 7)), .int (f 3)]) := by unfold shr; rw [h]; rfl
theorem sh2 (h : kd k = 2) : shr G b k f = .inr (0, [.int (f 0), .int (f 1), .int (f 2)]) := by unfold shr; rw [h]; rfl
theorem sh3 (h : kd k = 3) : shr G b k f = .inr (6, [.int (f 0), .ref (b + (k + 1)), .ref (b + (k + 2)), .ref (b + (k + 3)), .ref (b + (k + 4))]) := by unfold shr; rw [h]; rfl
theorem sh4 (h : kd k = 4) : shr G b k f = .inl (G.2.1, 24, .inl f) := by unfold shr; rw [h]; rfl
theorem sh5 (h : kd k = 5) : shr G b k f = .inr (5, [.int (f 0), .ref (b + (k + 1)), .ref (b + (k + 2))]) := by unfold shr; rw [h]; rfl
theorem sh6 (h : kd k = 6) : shr G b k f = .inr (4, [.int (f 0), .int (f 1), .ref (b + 12)]) := by unfold shr; rw [h]; rfl
theorem sh7 (h : kd k = 7) : shr G b k f = .inl (G.2.2.2, 8, .inr (.inr (.inr (.inr (fun j => some (b + (13 + 10 * j))))))) := by unfold shr; rw [h]; rfl
theorem sh8 (h : kd k = 8) : shr G b k f = .inl (G.2.2.2, 2, .inr (.inr (.inr (.inr (fun j => some (b + (94 + 10 * j))))))) := by unfold shr; rw [h]; rfl
theorem sh9 (h : kd k = 9) : shr G b k f = .inl (G.2.2.1, 2, .inl f) := by unfold shr; rw [h]; rfl
theorem sh10 (h : kd k = 10) : shr G b k f = .inr (7, [.ref (b + 116), .ref (b + 121), .ref (b + 122), .ref (b + 123)]) := by unfold shr; rw [h]; rfl
theorem sh11 (h : kd k = 11) : shr G b k f = .inl (G.2.1, 96, .inl f) := by unfold shr; rw [h]; rfl
theorem sh12 (h : kd k = 12) : shr G b k f = .inl (G.2.1, 200, .inl f) := by unfold shr; rw [h]; rfl
theorem sh13 (h : kd k = 13) : shr G b k f = .inr (3, [.ref (b + 125), .ref (b + 126), .ref (b + 127)]) := by unfold shr; rw [h]; rfl
theorem sh14 (h : kd k = 14) : shr G b k f = .inl (G.2.1, 16, .inl f) := by unfold shr; rw [h]; rfl
theorem sh15 (h : kd k = 15) : shr G b k f = .inl (G.2.1, 64, .inl f) := by unfold shr; rw [h]; rfl
theorem sh16 (h : kd k = 16) : shr G b k f = .inr (8, [.ref (b + 129), .int (f 1)]) := by unfold shr; rw [h]; rfl
theorem sh17 (h : kd k = 17) : shr G b k f = .inl (G.2.1, 256, .inl f) := by unfold shr; rw [h]; rfl
theorem sh18 (h : kd k = 18) : shr G b k f = .inr (10, [.ref (b + 131), .ref (b + 132), .int (f 2), .ref (b + 133), .ref (b + 134), .ref (b + 135), .ref (b + 136), .ref (b + 137), .ref (b + 138), .ref (b + 139), .ref (b + 140), .ref (b + 141), .ref (b + 142)]) := by unfold shr; rw [h]; rfl
theorem sh19 (h : kd k = 19) : shr G b k f = .inl (G.2.1, 102, .inl f) := by unfold shr; rw [h]; rfl
theorem sh20 (h : kd k = 20) : shr G b k f = .inl (G.2.1, 816, .inl f) := by unfold shr; rw [h]; rfl
theorem sh21 (h : kd k = 21) : shr G b k f = .inl (G.2.1, 204, .inl f) := by unfold shr; rw [h]; rfl
theorem sh22 (h : kd k = 22) : shr G b k f = .inl (G.2.2.1, 2048, .inl f) := by unfold shr; rw [h]; rfl
theorem sh23 (h : kd k = 23) : shr G b k f = .inl (G.2.1, 2048, .inl f) := by unfold shr; rw [h]; rfl
end SHR
/-- a Moment's cells lie behind it; a Row's, a Places' -/
theorem kdMo : ∀ k, k < 143 → kd k = 1 → kd (k + 1) = 2 ∧ kd (k + 2) = 3 ∧ kd (k + 7) = 5 := by decide +kernel
theorem kdRo : ∀ k, k < 143 → kd k = 3 → kd (k + 1) = 4 ∧ kd (k + 2) = 4 ∧ kd (k + 3) = 4 ∧ kd (k + 4) = 4 := by decide +kernel
theorem kdPl : ∀ k, k < 143 → kd k = 5 → kd (k + 1) = 4 ∧ kd (k + 2) = 4 := by decide +kernel
theorem kdRing : ∀ j, j < 8 → kd (13 + 10 * j) = 1 := by decide +kernel
theorem kdIma : ∀ j, j < 2 → kd (94 + 10 * j) = 1 := by decide +kernel
section KD
variable {k : Nat}
theorem kM1 (h : kd k = 1) : kd (k + 1) = 2 := (kdMo k (kd_lt h (by decide)) h).1
theorem kM2 (h : kd k = 1) : kd (k + 2) = 3 := (kdMo k (kd_lt h (by decide)) h).2.1
theorem kM7 (h : kd k = 1) : kd (k + 7) = 5 := (kdMo k (kd_lt h (by decide)) h).2.2
theorem kR1 (h : kd k = 3) : kd (k + 1) = 4 := (kdRo k (kd_lt h (by decide)) h).1
theorem kR2 (h : kd k = 3) : kd (k + 2) = 4 := (kdRo k (kd_lt h (by decide)) h).2.1
theorem kR3 (h : kd k = 3) : kd (k + 3) = 4 := (kdRo k (kd_lt h (by decide)) h).2.2.1
theorem kR4 (h : kd k = 3) : kd (k + 4) = 4 := (kdRo k (kd_lt h (by decide)) h).2.2.2
theorem kP1 (h : kd k = 5) : kd (k + 1) = 4 := (kdPl k (kd_lt h (by decide)) h).1
theorem kP2 (h : kd k = 5) : kd (k + 2) = 4 := (kdPl k (kd_lt h (by decide)) h).2
end KD
def repW (G : GT) (b : Nat) (σ : Mem) : va_W := (List.range 143).map fun k => (b + k, shr G b k (σ k))
abbrev gtys (G : GT) : List (ClassId × FieldType) := [(G.2.1, .int), (G.2.2.1, .boolean), (G.2.2.2, .object RX3)]
def Fr (b : Nat) : Nat → Prop := fun q => b ≤ q ∧ q < b + 143
def SM (G : GT) (b : Nat) (σ : Mem) (U : State) : Prop := va_P G.1 vwCl (repW G b σ) U.heap ∧ va_K G.1 vwCl (gtys G) U
def St (G : GT) (A : Nat → Prop) (b : Nat) (σ : Mem) (s : State) (H : Heap) (locs : List Loc) : Prop := va_P G.1 vwCl (repW G b σ) H ∧ va_S A s.heap H locs
theorem repW_at {G : GT} {b : Nat} {σ : Mem} {k : Nat} (hk : k < 143) : (repW G b σ)[k]? = some (b + k, shr G b k (σ k)) := by
  unfold repW
  rw [List.getElem?_map, List.getElem?_range hk]
  rfl
theorem repW_in {G : GT} {b : Nat} {σ : Mem} {k : Nat} {q : Nat × va_E} (h : (repW G b σ)[k]? = some q) : k < 143 ∧ q = (b + k, shr G b k (σ k)) := by
  have hk : k < 143 := by
    have h1 := (List.getElem?_eq_some_iff.mp h).1
    unfold repW at h1
    rw [List.length_map, List.length_range] at h1
    exact h1
  rw [repW_at hk] at h
  exact ⟨hk, (Option.some.inj h).symm⟩
theorem repW_D {G : GT} {b : Nat} {σ : Mem} {A : Nat → Prop} (hA : ∀ q, Fr b q → A q) : va_D A (repW G b σ) := by
  refine ⟨fun i j p q hi hj hpq => ?_, fun k q hk => ?_⟩
  · have h1 := (repW_in hi).2
    have h2 := (repW_in hj).2
    rw [h1, h2] at hpq
    have h3 : b + i = b + j := hpq
    omega
  · obtain ⟨h1, h2⟩ := repW_in hk
    rw [h2]
    exact hA _ ⟨Nat.le_add_right _ _, Nat.add_lt_add_left h1 _⟩
theorem repW_set {G : GT} {b : Nat} {σ σ' : Mem} {k : Nat} {e : va_E} (hk : k < 143) (he : e = shr G b k (σ' k)) (ho : ∀ j, j ≠ k → σ' j = σ j) : (repW G b σ).set k (b + k, e) = repW G b σ' := by
  apply List.ext_getElem?
  intro i
  by_cases hi : i < 143
  · by_cases hik : i = k
    · subst hik
      rw [List.getElem?_set_self (by unfold repW; rw [List.length_map, List.length_range]; exact hi), repW_at hi, he]
    · rw [List.getElem?_set_ne (Ne.symm hik), repW_at hi, repW_at hi, ho i hik]
  · rw [List.getElem?_eq_none (by unfold repW; rw [List.length_set, List.length_map, List.length_range]; omega), List.getElem?_eq_none (by unfold repW; rw [List.length_map, List.length_range]; omega)]
theorem m2_o {σ : Mem} {k i : Nat} {v : Int32} {j : Nat} (h : j ≠ k) : m2 σ k i v j = σ j := by unfold m2; rw [if_neg h]
theorem m2_s {σ : Mem} {k i : Nat} {v : Int32} : m2 σ k i v k = upd (σ k) i v := by unfold m2; rw [if_pos rfl]
theorem m2_ss {σ : Mem} {k i : Nat} {v : Int32} : m2 σ k i v k i = v := by rw [m2_s]; unfold upd; rw [if_pos rfl]
theorem m2_sn {σ : Mem} {k i : Nat} {v : Int32} {j : Nat} (h : j ≠ i) : m2 σ k i v k j = σ k j := by rw [m2_s]; unfold upd; rw [if_neg h]
theorem m2_at (σ : Mem) (k i : Nat) (v : Int32) (k' i' : Nat) : m2 σ k i v k' i' = if k' = k ∧ i' = i then v else σ k' i' := by
  by_cases h : k' = k
  · subst h
    rw [m2_s]
    unfold upd
    by_cases h2 : i' = i <;> simp [h2]
  · rw [m2_o h]
    simp [h]
/-- the room of a method from which calls go d deep -/
abbrev RM (d : Nat) : Room := { frames := d, cells := 0, slots := 0, locals := 36 * d }
section SG
variable {p : Program} {l : Launch} {e : Env} {R : Room} {s : State} {m : MethodId} {args : Array Value} {below : List Frame} {meth : Method} {c : Code} {H : Heap} {locs : List Loc} {cells slots : Nat} {Q : State → Prop}
variable {cc : ByteArray} {pc : Nat} {ls : Array Slot} {rest : List Value} {G : GT} {A : Nat → Prop} {b : Nat} {σ : Mem} {own : String} {index k : Nat}
theorem sg_get (hexec : p.tables.exec = Jvm.exec) (hb : c.code = cc) (hts : ∀ w ∈ TB, w.before args s = true) (hown : s.vm.findClass own = some m.cls) (hK : va_K G.1 vwCl (gtys G) s) (hM : St G A b σ s H locs) {ci : Nat} {C : String} {T : u_T} {N : Nat} {fs : List Value} (hsh : shr G b k (σ k) = .inr (ci, fs)) (hk : k < 143) (hc : vwCl[ci]? = some (C, T, N)) (hin : ∀ w ∈ u_ws C T N, w ∈ TB) (j : Nat) (hj : j < N) (hl : Cond.fieldLink own index (T j).1 (T j).2.1 (T j).2.2.1 ∈ TB) {v : Value} (hv : fs[j]? = some v) (hdg : decode cc pc = .ok (.getfield index, 3))
    (kk : W p l e R s m args below meth c H locs cells slots Q (F0 m (pc + 3) ls (v :: rest))) : W p l e R s m args below meth c H locs cells slots Q (F0 m pc ls (.ref (b + k) :: rest)) :=
  va_get hexec hb hts hin hown hK hM.1 k (by rw [repW_at hk, hsh]) hc j hj (hts _ hl) (fun _ h => h) hv hdg kk
theorem sg_put (hexec : p.tables.exec = Jvm.exec) (hb : c.code = cc) (hts : ∀ w ∈ TB, w.before args s = true) (hown : s.vm.findClass own = some m.cls) (hK : va_K G.1 vwCl (gtys G) s) (hM : St G A b σ s H locs) (hA : ∀ q, Fr b q → A q) {ci : Nat} {C : String} {T : u_T} {N : Nat} {fs : List Value} (hsh : shr G b k (σ k) = .inr (ci, fs)) (hk : k < 143) (hc : vwCl[ci]? = some (C, T, N)) (hin : ∀ w ∈ u_ws C T N, w ∈ TB) (ty0 : Nat → FieldType) (hty : ∀ k, k < N → parseFieldDescriptor (T k).2.2.1 = some (ty0 k)) (hnm : ∀ a, a < N → ∀ b, b < N → a ≠ b → (T a).2.1 ≠ (T b).2.1) (j : Nat) (hj : j < N) (hl : Cond.fieldLink own index (T j).1 (T j).2.1 (T j).2.2.1 ∈ TB) (hfin : (T j).2.2.2 = false) {ty : FieldType} {v : Int32} (hd : parseFieldDescriptor (T j).2.2.1 = some ty) (hn : narrow ty (.int v) = .int v) (hfit : fits ty (.int v) = true) (hlen : j < fs.length) (hset : (Sum.inr (ci, fs.set j (.int v)) : va_E) = shr G b k (upd (σ k) j v)) (hdg : decode cc pc = .ok (.putfield index, 3))
    (kk : ∀ (H1 : Heap) (locs1 : List Loc), St G A b (m2 σ k j v) s H1 locs1 → W p l e R s m args below meth c H1 locs1 cells slots Q (F0 m (pc + 3) ls rest)) : W p l e R s m args below meth c H locs cells slots Q (F0 m pc ls (.int v :: .ref (b + k) :: rest)) := by
  refine va_put hexec hb hts hin ty0 hty hnm hown hK hM.1 (repW_D hA) hM.2 k (by rw [repW_at hk, hsh]) hc j hj (hts _ hl) (fun _ h => h) hfin hd hn hfit hlen hdg (fun H1 locs1 hP _ hS => ?_)
  refine kk H1 locs1 ⟨?_, hS⟩
  rw [repW_set (σ' := m2 σ k j v) hk (by rw [hset, m2_s]) (fun j h => m2_o h)] at hP
  exact hP
theorem sg_iald (hexec : p.tables.exec = Jvm.exec) (hb : c.code = cc) (hK : va_K G.1 vwCl (gtys G) s) (hM : St G A b σ s H locs) {n : Nat} (hsh : shr G b k (σ k) = .inl (G.2.1, n, .inl (σ k))) (hk : k < 143) {i : Nat} (hi : i < n) (hn : n < 2 ^ 31) (hdg : decode cc pc = .ok (.iaload, 1))
    (kk : W p l e R s m args below meth c H locs cells slots Q (F0 m (pc + 1) ls (.int (σ k i) :: rest))) : W p l e R s m args below meth c H locs cells slots Q (F0 m pc ls (.int (nI i) :: .ref (b + k) :: rest)) := by
  refine va_iald hexec hb hK hM.1 k 0 (by rw [repW_at hk, hsh]) rfl (vp_in_nI hi hn) hdg ?_
  rw [nI_clamp (Nat.lt_trans hi hn)]
  exact kk
theorem sg_iast (hexec : p.tables.exec = Jvm.exec) (hb : c.code = cc) (hK : va_K G.1 vwCl (gtys G) s) (hM : St G A b σ s H locs) (hA : ∀ q, Fr b q → A q) {n : Nat} (hsh : ∀ f, shr G b k f = .inl (G.2.1, n, .inl f)) (hk : k < 143) {i : Nat} {x : Int32} (hi : i < n) (hn : n < 2 ^ 31) (hdg : decode cc pc = .ok (.iastore, 1))
    (kk : ∀ (H1 : Heap) (locs1 : List Loc), St G A b (m2 σ k i x) s H1 locs1 → W p l e R s m args below meth c H1 locs1 cells slots Q (F0 m (pc + 1) ls rest)) : W p l e R s m args below meth c H locs cells slots Q (F0 m pc ls (.int x :: .int (nI i) :: .ref (b + k) :: rest)) := by
  refine va_iast hexec hb hK hM.1 (repW_D hA) hM.2 k 0 (by rw [repW_at hk, hsh]) rfl (vp_in_nI hi hn) hdg (fun H1 locs1 hP _ hS => ?_)
  refine kk H1 locs1 ⟨?_, hS⟩
  rw [nI_clamp (Nat.lt_trans hi hn), repW_set (σ' := m2 σ k i x) hk (by rw [hsh, m2_s]) (fun j h => m2_o h)] at hP
  exact hP
theorem sg_zald (hexec : p.tables.exec = Jvm.exec) (hb : c.code = cc) (hK : va_K G.1 vwCl (gtys G) s) (hM : St G A b σ s H locs) {n : Nat} (hsh : shr G b k (σ k) = .inl (G.2.2.1, n, .inl (σ k))) (hk : k < 143) {i : Nat} (hi : i < n) (hn : n < 2 ^ 31) (hdg : decode cc pc = .ok (.baload, 1))
    (kk : W p l e R s m args below meth c H locs cells slots Q (F0 m (pc + 1) ls (.int (σ k i) :: rest))) : W p l e R s m args below meth c H locs cells slots Q (F0 m pc ls (.int (nI i) :: .ref (b + k) :: rest)) := by
  refine va_zald hexec hb hK hM.1 k 1 (by rw [repW_at hk, hsh]) rfl (vp_in_nI hi hn) hdg ?_
  rw [nI_clamp (Nat.lt_trans hi hn)]
  exact kk
theorem sg_zast (hexec : p.tables.exec = Jvm.exec) (hb : c.code = cc) (hK : va_K G.1 vwCl (gtys G) s) (hM : St G A b σ s H locs) (hA : ∀ q, Fr b q → A q) {n : Nat} (hsh : ∀ f, shr G b k f = .inl (G.2.2.1, n, .inl f)) (hk : k < 143) {i : Nat} {x : Int32} (hx : vp_nar .boolean x = x) (hi : i < n) (hn : n < 2 ^ 31) (hdg : decode cc pc = .ok (.bastore, 1))
    (kk : ∀ (H1 : Heap) (locs1 : List Loc), St G A b (m2 σ k i x) s H1 locs1 → W p l e R s m args below meth c H1 locs1 cells slots Q (F0 m (pc + 1) ls rest)) : W p l e R s m args below meth c H locs cells slots Q (F0 m pc ls (.int x :: .int (nI i) :: .ref (b + k) :: rest)) := by
  refine va_zast hexec hb hK hM.1 (repW_D hA) hM.2 k 1 (by rw [repW_at hk, hsh]) rfl (vp_in_nI hi hn) hdg (fun H1 locs1 hP _ hS => ?_)
  refine kk H1 locs1 ⟨?_, hS⟩
  rw [hx, nI_clamp (Nat.lt_trans hi hn), repW_set (σ' := m2 σ k i x) hk (by rw [hsh, m2_s]) (fun j h => m2_o h)] at hP
  exact hP
theorem sg_alen (hexec : p.tables.exec = Jvm.exec) (hb : c.code = cc) (hK : va_K G.1 vwCl (gtys G) s) (hM : St G A b σ s H locs) {n : Nat} (hsh : shr G b k (σ k) = .inl (G.2.1, n, .inl (σ k))) (hk : k < 143) (hdg : decode cc pc = .ok (.arraylength, 1))
    (kk : W p l e R s m args below meth c H locs cells slots Q (F0 m (pc + 1) ls (.int (nI n) :: rest))) : W p l e R s m args below meth c H locs cells slots Q (F0 m pc ls (.ref (b + k) :: rest)) :=
  va_alen (x := (n, .inl (σ k))) hexec hb hK hM.1 k 0 (by rw [repW_at hk, hsh]) rfl rfl hdg kk
theorem sg_aald (hexec : p.tables.exec = Jvm.exec) (hb : c.code = cc) (hK : va_K G.1 vwCl (gtys G) s) (hM : St G A b σ s H locs) {n : Nat} {g : Nat → Nat} (hsh : shr G b k (σ k) = .inl (G.2.2.2, n, .inr (.inr (.inr (.inr (fun j => some (b + g j))))))) (hk : k < 143) {i : Nat} (hi : i < n) (hn : n < 2 ^ 31) (hdg : decode cc pc = .ok (.aaload, 1))
    (kk : W p l e R s m args below meth c H locs cells slots Q (F0 m (pc + 1) ls (.ref (b + g i) :: rest))) : W p l e R s m args below meth c H locs cells slots Q (F0 m pc ls (.int (nI i) :: .ref (b + k) :: rest)) := by
  refine va_aldq hexec hb hK hM.1 k 2 (C := RX3) (by rw [repW_at hk, hsh]) rfl (vp_in_nI hi hn) hdg ?_
  rw [nI_clamp (Nat.lt_trans hi hn)]
  exact kk
/-- what arraycopy of the first n makes of the memory -/
def mcp (σ : Mem) (ks kt n : Nat) : Mem := fun k' => if k' = kt then va_cpy (σ ks) (σ kt) 0 0 n else σ k'
theorem sg_copy (hexec : p.tables.exec = Jvm.exec) (hb : c.code = cc) (hml : c.maxLocals = ls.size) (hts : ∀ w ∈ TB, w.before args s = true) (hown : s.vm.findClass own = some m.cls) (hK : va_K G.1 vwCl (gtys G) s) (hM : St G A b σ s H locs) (hA : ∀ q, Fr b q → A q) (hl : Cond.methodLink own index arraycopyName ∈ TB) {ks kt n0 n1 n : Nat} (hs0 : shr G b ks (σ ks) = .inl (G.2.1, n0, .inl (σ ks))) (hs1 : ∀ f, shr G b kt f = .inl (G.2.1, n1, .inl f)) (h0 : ks < 143) (h1 : kt < 143) (hn0 : n ≤ n0) (hn1 : n ≤ n1) (hn : n < 2 ^ 31) (hframes : 1 ≤ R.frames) (hlocals : (rest.map fun v => v.category).sum + (nativeFrameWords "java/lang/System" "arraycopy" 5 + 11) ≤ R.locals) (hdg : decode cc pc = .ok (.invokestatic index, 3))
    (kk : ∀ (H1 : Heap) (locs1 : List Loc), St G A b (mcp σ ks kt n) s H1 locs1 → W p l e R s m args below meth c H1 locs1 cells slots Q (F0 m (pc + 3) ls rest)) : W p l e R s m args below meth c H locs cells slots Q (F0 m pc ls (.int (nI n) :: .int (nI 0) :: .ref (b + kt) :: .int (nI 0) :: .ref (b + ks) :: rest)) := by
  have z : (nI 0).toNatClampNeg = 0 := nI_clamp (by decide)
  refine va_copyi hexec hb hml hown (hts _ hl) (hts _ wn_arraycopyName) (hts _ ws_arraycopyName) (hts _ wi_RJ10) hK hM.1 (repW_D hA) hM.2 ks kt 0 0 (ty := .int) (by rw [repW_at h0, hs0]) (by rw [repW_at h1, hs1]) rfl rfl rfl (nI_pos (by decide)) (nI_pos (by decide)) (nI_pos hn) (by rw [z, nI_clamp hn]; omega) (by rw [z, nI_clamp hn]; omega) (fun i _ => rfl) hframes hlocals hdg (fun H1 locs1 hP _ hS => ?_)
  refine kk H1 locs1 ⟨?_, hS⟩
  rw [z, nI_clamp hn, repW_set (σ' := mcp σ ks kt n) h1 (by rw [hs1]; unfold mcp; rw [if_pos rfl]) (fun j h => by unfold mcp; rw [if_neg h])] at hP
  exact hP
theorem sg_blind {av : List Value} : FrameBlind (va_Pc av (SM G b σ)) := fun _ U _ _ q => ⟨q.1, q.2.1, va_K.moved (u := U) (Vm.Alike.refl U.vm) q.2.2⟩
theorem sg_cb {y : MethodName} {bytes : ByteArray} {maxL n d : Nat} {ret : Option FieldType} (hts : ∀ w ∈ TB, w.before args s = true) (hmi : MI y bytes maxL ret n) (hl : Cond.methodLink own index y ∈ TB) (hR : d + 1 ≤ R.frames ∧ 8 + (maxL + 11) + 36 * d ≤ R.locals) : CallB R s args own index y bytes maxL ret (Cond.code y bytes maxL ret :: TB) (RM d) 0 0 n :=
  callB_of n hts (tb_good hmi.1) rfl rfl rfl (hts _ hmi.2.1) (hts _ hl) hmi.2.2 hR
section CALLS
variable {y : MethodName} {bytes : ByteArray} {maxL nL n d : Nat} {ret : Option FieldType} {Qc : Array Value → State → Outcome → State → Prop} {As : List Value}
theorem sg_runV (hexec : p.tables.exec = Jvm.exec) (hb : c.code = cc) (hml : c.maxLocals = nL) (hts : ∀ w ∈ TB, w.before args s = true) (hown : s.vm.findClass own = some m.cls) (hK : va_K G.1 vwCl (gtys G) s) (hM : St G A b σ s H locs) (hmet : Met l y (Cond.code y bytes maxL ret :: TB) (RM d) (va_Pc (.ref (b + k) :: As) (SM G b σ)) Qc 0 0 (Fr b)) (hmi : MV y bytes maxL ret n) (hl : Cond.methodLink own index y ∈ TB) {ci : Nat} {q : vw_C} {fs : List Value} (hsh : shr G b k (σ k) = .inr (ci, fs)) (hk : k < 143) (hc : vwCl[ci]? = some q) (hq : q.1 = y.cls) (hn : As.length = n) (hsz : ls.size = nL) {st0 : List Value} (hst : st0 = As.reverse ++ .ref (b + k) :: rest) (hW : (rest.map fun v => v.category).sum ≤ 8) (hdg : decode cc pc = .ok (.invokevirtual index, 3)) (hR : d + 1 ≤ R.frames ∧ 8 + (maxL + 11) + 36 * d ≤ R.locals) (hf : cells ≤ R.cells ∧ slots ≤ R.slots) :
    va_Run p l e R s m args below meth c H locs cells slots 0 0 (F0 m pc ls st0) rest (Qc (Value.ref (b + k) :: As).toArray) (Fr b) :=
  va_runV (C := y.cls) (As := As) ⟨hexec, hb, hml, hown, hts⟩ hmet ⟨sg_cb hts hmi.1 hl hR, hts _ hmi.2.1, hts _ hmi.2.2⟩ ⟨sg_blind, by rw [← hq]; exact va_recv hK hM.1 hc (by rw [repW_at hk, hsh]), fun U hU hW => ⟨rfl, by rw [hU]; exact hM.1, va_K.moved hW.alike hK⟩⟩ rfl hn hsz hst (lv_room hW) hdg hf
theorem sg_runS (hexec : p.tables.exec = Jvm.exec) (hb : c.code = cc) (hml : c.maxLocals = nL) (hts : ∀ w ∈ TB, w.before args s = true) (hown : s.vm.findClass own = some m.cls) (hK : va_K G.1 vwCl (gtys G) s) (hM : St G A b σ s H locs) (hmet : Met l y (Cond.code y bytes maxL ret :: TB) (RM d) (va_Pc As (SM G b σ)) Qc 0 0 (Fr b)) (hmi : MS y bytes maxL ret n) (hl : Cond.methodLink own index y ∈ TB) (hn : As.length = n) (hsz : ls.size = nL) {st0 : List Value} (hst : st0 = As.reverse ++ rest) (hW : (rest.map fun v => v.category).sum ≤ 8) (hdg : decode cc pc = .ok (.invokestatic index, 3)) (hR : d + 1 ≤ R.frames ∧ 8 + (maxL + 11) + 36 * d ≤ R.locals) (hf : cells ≤ R.cells ∧ slots ≤ R.slots) :
    va_Run p l e R s m args below meth c H locs cells slots 0 0 (F0 m pc ls st0) rest (Qc As.toArray) (Fr b) :=
  va_runS (As := As) ⟨hexec, hb, hml, hown, hts⟩ hmet ⟨sg_cb hts hmi.1 hl hR, hts _ hmi.2⟩ ⟨sg_blind, fun U hU hW => ⟨rfl, by rw [hU]; exact hM.1, va_K.moved hW.alike hK⟩⟩ rfl hn hsz hst (lv_room hW) hdg hf
theorem sg_ci {post : Int32 → Mem → Prop} {a : Array Value} {st0 : List Value} (hr : va_Run p l e R s m args below meth c H locs cells slots 0 0 (F0 m pc ls st0) rest (va_Qi post (fun σ' t => SM G b σ' t) (Fr b) a) (Fr b)) (hM : St G A b σ s H locs) (hA : ∀ q, Fr b q → A q)
    (kk : ∀ (r : Int32) (σ' : Mem) (H1 : Heap) (locs1 : List Loc), post r σ' → St G A b σ' s H1 locs1 → W p l e R s m args below meth c H1 locs1 cells slots Q (F0 m (pc + 3) ls (.int r :: rest))) : W p l e R s m args below meth c H locs cells slots Q (F0 m pc ls st0) :=
  va_calli hr hM.2 (fun q _ h => hA q h) hA (fun r u t H1 locs1 ht _ hp hB _ _ hS => kk r u H1 locs1 hp ⟨by rw [← ht]; exact hB.1, hS⟩)
theorem sg_cv {post : Mem → Prop} {a : Array Value} {st0 : List Value} (hr : va_Run p l e R s m args below meth c H locs cells slots 0 0 (F0 m pc ls st0) rest (va_Qv post (fun σ' t => SM G b σ' t) (Fr b) a) (Fr b)) (hM : St G A b σ s H locs) (hA : ∀ q, Fr b q → A q)
    (kk : ∀ (σ' : Mem) (H1 : Heap) (locs1 : List Loc), post σ' → St G A b σ' s H1 locs1 → W p l e R s m args below meth c H1 locs1 cells slots Q (F0 m (pc + 3) ls rest)) : W p l e R s m args below meth c H locs cells slots Q (F0 m pc ls st0) :=
  va_callv hr hM.2 (fun q _ h => hA q h) hA (fun u t H1 locs1 ht _ hp hB _ _ hS => kk u H1 locs1 hp ⟨by rw [← ht]; exact hB.1, hS⟩)
theorem sg_cl {post : Int64 → Mem → Prop} {a : Array Value} {st0 : List Value} (hr : va_Run p l e R s m args below meth c H locs cells slots 0 0 (F0 m pc ls st0) rest (va_Ql post (fun σ' t => SM G b σ' t) (Fr b) a) (Fr b)) (hM : St G A b σ s H locs) (hA : ∀ q, Fr b q → A q)
    (kk : ∀ (r : Int64) (σ' : Mem) (H1 : Heap) (locs1 : List Loc), post r σ' → St G A b σ' s H1 locs1 → W p l e R s m args below meth c H1 locs1 cells slots Q (F0 m (pc + 3) ls (.long r :: rest))) : W p l e R s m args below meth c H locs cells slots Q (F0 m pc ls st0) :=
  va_calll hr hM.2 (fun q _ h => hA q h) hA (fun r u t H1 locs1 ht _ hp hB _ _ hS => kk r u H1 locs1 hp ⟨by rw [← ht]; exact hB.1, hS⟩)
/-- a contract by a walk -/
theorem sg_met (av : List Value) (hy : plainName y.cls = true) (hlen : (lg_sl av).length ≤ maxL)
    (body : ∀ (p : Program) (e : Env) (s : State) (m : MethodId) (below : List Frame) (meth : Method) (c : Code) (ls : Array Slot), p.tables.exec = Jvm.exec → c.code = bytes → meth.sig.returnType = ret → meth.locks = false → c.maxLocals = maxL → s.vm.findClass y.cls = some m.cls → (∀ w ∈ TB, w.before av.toArray s = true) → va_K G.1 vwCl (gtys G) s → St G (Fr b) b σ s s.heap [] → lv_has ls maxL (lv_args 0 av) →
      W p l e (RM d) s m av.toArray below meth c s.heap [] 0 0 (MQ below Qc av.toArray s 0 0 (Fr b)) (F0 m 0 ls [])) : Met l y (Cond.code y bytes maxL ret :: TB) (RM d) (va_Pc av (SM G b σ)) Qc 0 0 (Fr b) := by
  refine Met.ofW (cc := bytes) (maxL := maxL) (ret := ret) hy rfl ?_
  intro p e s m args below meth c s₁ B hml hv
  obtain ⟨rfl, hP, hK⟩ := hv
  have hts := atoms_spec (ws := Cond.code y bytes maxL ret :: TB) B.pre
  have hl := lv_entry av (n := maxL) hlen
  rw [lg_entry_eq]
  exact body p e s m below meth c _ B.exec B.bytes B.returns B.notSynchronized hml (findClass_of_methodNamed B.named) (fun w h => hts w (List.mem_cons_of_mem _ h)) hK ⟨hP, va_S.rf⟩ hl
end CALLS
theorem sg_iret {post : Int32 → Mem → Prop} {r : Int32} (hexec : p.tables.exec = Jvm.exec) (hb : c.code = cc) (hr : meth.sig.returnType = some .int) (hlocks : meth.locks = false) (hK : va_K G.1 vwCl (gtys G) s) (hM : St G (Fr b) b σ s H locs) (hp : post r σ) (hdg : decode cc pc = .ok (.ireturn, 1)) : W p l e R s m args below meth c H locs 0 0 (MQ below (va_Qi post (fun σ' t => SM G b σ' t) (Fr b)) args s 0 0 (Fr b)) (F0 m pc ls [.int r]) :=
  W.iret hexec hb hr (fun t ht hW => ⟨⟨r, σ, rfl, hp, by rw [ht]; exact hM.1, va_K.moved hW.alike hK⟩, hM.2.F ht⟩) hM.2.2.2 hdg hlocks
theorem sg_zret {post : Int32 → Mem → Prop} {r : Int32} (hexec : p.tables.exec = Jvm.exec) (hb : c.code = cc) (hr : meth.sig.returnType = some .boolean) (hlocks : meth.locks = false) (hK : va_K G.1 vwCl (gtys G) s) (hM : St G (Fr b) b σ s H locs) (hz : narrow .boolean (.int r) = .int r) (hp : post r σ) (hdg : decode cc pc = .ok (.ireturn, 1)) : W p l e R s m args below meth c H locs 0 0 (MQ below (va_Qi post (fun σ' t => SM G b σ' t) (Fr b)) args s 0 0 (Fr b)) (F0 m pc ls [.int r]) :=
  W.zret hexec hb hr hz (fun t ht hW => ⟨⟨r, σ, rfl, hp, by rw [ht]; exact hM.1, va_K.moved hW.alike hK⟩, hM.2.F ht⟩) hM.2.2.2 hdg hlocks
theorem sg_lret {post : Int64 → Mem → Prop} {r : Int64} (hexec : p.tables.exec = Jvm.exec) (hb : c.code = cc) (hr : meth.sig.returnType = some .long) (hlocks : meth.locks = false) (hK : va_K G.1 vwCl (gtys G) s) (hM : St G (Fr b) b σ s H locs) (hp : post r σ) (hdg : decode cc pc = .ok (.lreturn, 1)) : W p l e R s m args below meth c H locs 0 0 (MQ below (va_Ql post (fun σ' t => SM G b σ' t) (Fr b)) args s 0 0 (Fr b)) (F0 m pc ls [.long r]) :=
  W.lret hexec hb hr (fun t ht hW => ⟨⟨r, σ, rfl, hp, by rw [ht]; exact hM.1, va_K.moved hW.alike hK⟩, hM.2.F ht⟩) hM.2.2.2 hdg hlocks
theorem sg_vret {post : Mem → Prop} (hexec : p.tables.exec = Jvm.exec) (hb : c.code = cc) (hr : meth.sig.returnType = none) (hlocks : meth.locks = false) (hK : va_K G.1 vwCl (gtys G) s) (hM : St G (Fr b) b σ s H locs) (hp : post σ) (hdg : decode cc pc = .ok (.return_, 1)) : W p l e R s m args below meth c H locs 0 0 (MQ below (va_Qv post (fun σ' t => SM G b σ' t) (Fr b)) args s 0 0 (Fr b)) (F0 m pc ls []) :=
  W.vret hexec hb hr (fun t ht hW => ⟨⟨σ, rfl, hp, by rw [ht]; exact hM.1, va_K.moved hW.alike hK⟩, hM.2.F ht⟩) hM.2.2.2 hdg hlocks
end SG
end
section
/-! numbers from 0 on as 'nI n': rows that keep them so -/
theorem q_and (a b : Nat) : nI a &&& nI b = nI (a &&& b) := by
  apply Int32.toBitVec_inj.1
  show BitVec.ofNat 32 a &&& BitVec.ofNat 32 b = BitVec.ofNat 32 (a &&& b)
  apply BitVec.eq_of_getLsbD_eq
  intro i hi
  simp [BitVec.getLsbD_and, BitVec.getLsbD_ofNat, hi]
theorem q_or (a b : Nat) : nI a ||| nI b = nI (a ||| b) := by
  apply Int32.toBitVec_inj.1
  show BitVec.ofNat 32 a ||| BitVec.ofNat 32 b = BitVec.ofNat 32 (a ||| b)
  apply BitVec.eq_of_getLsbD_eq
  intro i hi
  simp [BitVec.getLsbD_or, BitVec.getLsbD_ofNat, hi]
theorem q_sl : ∀ n, n < 32 → ((nI n &&& 31).toBitVec.smod 32).toNat = n := by decide +kernel
theorem q_shl {a k : Nat} (hk : k < 32) (h : a * 2 ^ k < 2 ^ 32) : nI a <<< (nI k &&& 31) = nI (a * 2 ^ k) := pk_shlN _ k (q_sl k hk) h
theorem q_shr {a k : Nat} (hk : k < 32) (h : a < 2 ^ 31) : nI a >>> (nI k &&& 31) = nI (a / 2 ^ k) := pk_shrN h _ k (q_sl k hk)
theorem q_inc (a : Nat) : nI a + Int32.ofInt 1 = nI (a + 1) := nI_1 a
theorem q_inc4 (a : Nat) : nI a + Int32.ofInt 4 = nI (a + 4) := nI_add a 4
theorem q_dec (a : Nat) : nI (a + 1) + Int32.ofInt (-1) = nI a := pk_m1 a
/-- a truth value as an int -/
def bz (p : Bool) : Int32 := if p then nI 1 else nI 0
theorem bz_t : bz true = nI 1 := rfl
theorem bz_f : bz false = nI 0 := rfl
theorem bz_0 (p : Bool) : bz p = 0 ↔ p = false := by cases p <;> decide
theorem bz_nar (p : Bool) : narrow .boolean (.int (bz p)) = .int (bz p) := by cases p <;> rfl
theorem bz_na1 (p : Bool) : vp_nar .boolean (bz p) = bz p := by cases p <;> rfl
theorem sgA {b : Nat} : ∀ q, Fr b q → Fr b q := fun _ h => h
section SN
variable {p : Program} {l : Launch} {e : Env} {R : Room} {s : State} {m : MethodId} {args : Array Value} {below : List Frame} {meth : Method} {c : Code} {H : Heap} {locs : List Loc} {cells slots : Nat} {Q : State → Prop}
variable {cc : ByteArray} {pc : Nat} {ls : Array Slot} {rest : List Value}
theorem sn_top {x y : Int32} (h : x = y) (k : W p l e R s m args below meth c H locs cells slots Q (F0 m pc ls (.int y :: rest))) : W p l e R s m args below meth c H locs cells slots Q (F0 m pc ls (.int x :: rest)) := by rw [h]; exact k
theorem sn_topl {x y : Int64} (h : x = y) (k : W p l e R s m args below meth c H locs cells slots Q (F0 m pc ls (.long y :: rest))) : W p l e R s m args below meth c H locs cells slots Q (F0 m pc ls (.long x :: rest)) := by rw [h]; exact k
theorem sn_topr {x y : Nat} (h : x = y) (k : W p l e R s m args below meth c H locs cells slots Q (F0 m pc ls (.ref y :: rest))) : W p l e R s m args below meth c H locs cells slots Q (F0 m pc ls (.ref x :: rest)) := by rw [h]; exact k
theorem sn_iadd (hexec : p.tables.exec = Jvm.exec) (hb : c.code = cc) {x y : Nat} (hdg : decode cc pc = .ok (.iadd, 1)) (k : W p l e R s m args below meth c H locs cells slots Q (F0 m (pc + 1) ls (.int (nI (x + y)) :: rest))) : W p l e R s m args below meth c H locs cells slots Q (F0 m pc ls (.int (nI y) :: .int (nI x) :: rest)) := lv_iadd hexec hb hdg (by rw [nI_add]; exact k)
theorem sn_isub (hexec : p.tables.exec = Jvm.exec) (hb : c.code = cc) {x y : Nat} (hdg : decode cc pc = .ok (.isub, 1)) (h : y ≤ x) (k : W p l e R s m args below meth c H locs cells slots Q (F0 m (pc + 1) ls (.int (nI (x - y)) :: rest))) : W p l e R s m args below meth c H locs cells slots Q (F0 m pc ls (.int (nI y) :: .int (nI x) :: rest)) := lv_isub hexec hb hdg (by rw [pk_sub h]; exact k)
theorem sn_imul (hexec : p.tables.exec = Jvm.exec) (hb : c.code = cc) {x y : Nat} (hdg : decode cc pc = .ok (.imul, 1)) (k : W p l e R s m args below meth c H locs cells slots Q (F0 m (pc + 1) ls (.int (nI (x * y)) :: rest))) : W p l e R s m args below meth c H locs cells slots Q (F0 m pc ls (.int (nI y) :: .int (nI x) :: rest)) := lv_imul hexec hb hdg (by rw [pk_mul]; exact k)
theorem sn_idiv (hexec : p.tables.exec = Jvm.exec) (hb : c.code = cc) {x y : Nat} (hdg : decode cc pc = .ok (.idiv, 1)) (hx : x < 2 ^ 31) (h0 : 0 < y) (hy : y < 2 ^ 31) (k : W p l e R s m args below meth c H locs cells slots Q (F0 m (pc + 1) ls (.int (nI (x / y)) :: rest))) : W p l e R s m args below meth c H locs cells slots Q (F0 m pc ls (.int (nI y) :: .int (nI x) :: rest)) := lv_idiv hexec hb hdg (nI_ne0 h0 hy) (by rw [pk_div hx h0 hy]; exact k)
theorem sn_irem (hexec : p.tables.exec = Jvm.exec) (hb : c.code = cc) {x y : Nat} (hdg : decode cc pc = .ok (.irem, 1)) (hx : x < 2 ^ 31) (h0 : 0 < y) (hy : y < 2 ^ 31) (k : W p l e R s m args below meth c H locs cells slots Q (F0 m (pc + 1) ls (.int (nI (x % y)) :: rest))) : W p l e R s m args below meth c H locs cells slots Q (F0 m pc ls (.int (nI y) :: .int (nI x) :: rest)) := lv_irem hexec hb hdg (nI_ne0 h0 hy) (by rw [pk_rem hx h0 hy]; exact k)
theorem sn_iand (hexec : p.tables.exec = Jvm.exec) (hb : c.code = cc) {x y : Nat} (hdg : decode cc pc = .ok (.iand, 1)) (k : W p l e R s m args below meth c H locs cells slots Q (F0 m (pc + 1) ls (.int (nI (x &&& y)) :: rest))) : W p l e R s m args below meth c H locs cells slots Q (F0 m pc ls (.int (nI y) :: .int (nI x) :: rest)) := lv_iand hexec hb hdg (by rw [q_and]; exact k)
theorem sn_ior (hexec : p.tables.exec = Jvm.exec) (hb : c.code = cc) {x y : Nat} (hdg : decode cc pc = .ok (.ior, 1)) (k : W p l e R s m args below meth c H locs cells slots Q (F0 m (pc + 1) ls (.int (nI (x ||| y)) :: rest))) : W p l e R s m args below meth c H locs cells slots Q (F0 m pc ls (.int (nI y) :: .int (nI x) :: rest)) := lv_ior hexec hb hdg (by rw [q_or]; exact k)
theorem sn_ishl (hexec : p.tables.exec = Jvm.exec) (hb : c.code = cc) {x y : Nat} (hdg : decode cc pc = .ok (.ishl, 1)) (hy : y < 32) (h : x * 2 ^ y < 2 ^ 32) (k : W p l e R s m args below meth c H locs cells slots Q (F0 m (pc + 1) ls (.int (nI (x * 2 ^ y)) :: rest))) : W p l e R s m args below meth c H locs cells slots Q (F0 m pc ls (.int (nI y) :: .int (nI x) :: rest)) := lv_ishl hexec hb hdg (by rw [q_shl hy h]; exact k)
theorem sn_ishr (hexec : p.tables.exec = Jvm.exec) (hb : c.code = cc) {x y : Nat} (hdg : decode cc pc = .ok (.ishr, 1)) (hy : y < 32) (h : x < 2 ^ 31) (k : W p l e R s m args below meth c H locs cells slots Q (F0 m (pc + 1) ls (.int (nI (x / 2 ^ y)) :: rest))) : W p l e R s m args below meth c H locs cells slots Q (F0 m pc ls (.int (nI y) :: .int (nI x) :: rest)) := lv_ishr hexec hb hdg (by rw [q_shr hy h]; exact k)
section CMP
variable {x y tgt : Nat} {off : Int}
theorem sn_icmp_eq (hexec : p.tables.exec = Jvm.exec) (hb : c.code = cc) (hdg : decode cc pc = .ok (.if_icmp .eq off, 3)) (ht : (pc : Int) + off = (tgt : Int)) (hx : x < 2 ^ 31) (hy : y < 2 ^ 31) (kt : x = y → W p l e R s m args below meth c H locs cells slots Q (F0 m tgt ls rest)) (kf : x ≠ y → W p l e R s m args below meth c H locs cells slots Q (F0 m (pc + 3) ls rest)) : W p l e R s m args below meth c H locs cells slots Q (F0 m pc ls (.int (nI y) :: .int (nI x) :: rest)) := lv_icmp_eq hexec hb hdg ht (fun q => kt ((nI_eq hx hy).mp q)) (fun q => kf (fun z => q ((nI_eq hx hy).mpr z)))
theorem sn_icmp_ne (hexec : p.tables.exec = Jvm.exec) (hb : c.code = cc) (hdg : decode cc pc = .ok (.if_icmp .ne off, 3)) (ht : (pc : Int) + off = (tgt : Int)) (hx : x < 2 ^ 31) (hy : y < 2 ^ 31) (kt : x ≠ y → W p l e R s m args below meth c H locs cells slots Q (F0 m tgt ls rest)) (kf : x = y → W p l e R s m args below meth c H locs cells slots Q (F0 m (pc + 3) ls rest)) : W p l e R s m args below meth c H locs cells slots Q (F0 m pc ls (.int (nI y) :: .int (nI x) :: rest)) := lv_icmp_ne hexec hb hdg ht (fun q => kt (fun z => q ((nI_eq hx hy).mpr z))) (fun q => kf ((nI_eq hx hy).mp q))
theorem sn_icmp_lt (hexec : p.tables.exec = Jvm.exec) (hb : c.code = cc) (hdg : decode cc pc = .ok (.if_icmp .lt off, 3)) (ht : (pc : Int) + off = (tgt : Int)) (hx : x < 2 ^ 31) (hy : y < 2 ^ 31) (kt : x < y → W p l e R s m args below meth c H locs cells slots Q (F0 m tgt ls rest)) (kf : y ≤ x → W p l e R s m args below meth c H locs cells slots Q (F0 m (pc + 3) ls rest)) : W p l e R s m args below meth c H locs cells slots Q (F0 m pc ls (.int (nI y) :: .int (nI x) :: rest)) := lv_icmp_lt hexec hb hdg ht (fun q => kt ((nI_ltI hx hy).mp q)) (fun q => kf (Nat.not_lt.mp (fun z => q ((nI_ltI hx hy).mpr z))))
theorem sn_icmp_ge (hexec : p.tables.exec = Jvm.exec) (hb : c.code = cc) (hdg : decode cc pc = .ok (.if_icmp .ge off, 3)) (ht : (pc : Int) + off = (tgt : Int)) (hx : x < 2 ^ 31) (hy : y < 2 ^ 31) (kt : y ≤ x → W p l e R s m args below meth c H locs cells slots Q (F0 m tgt ls rest)) (kf : x < y → W p l e R s m args below meth c H locs cells slots Q (F0 m (pc + 3) ls rest)) : W p l e R s m args below meth c H locs cells slots Q (F0 m pc ls (.int (nI y) :: .int (nI x) :: rest)) := lv_icmp_ge hexec hb hdg ht (fun q => kt ((nI_leI hy hx).mp q)) (fun q => kf (Nat.not_le.mp (fun z => q ((nI_leI hy hx).mpr z))))
theorem sn_icmp_gt (hexec : p.tables.exec = Jvm.exec) (hb : c.code = cc) (hdg : decode cc pc = .ok (.if_icmp .gt off, 3)) (ht : (pc : Int) + off = (tgt : Int)) (hx : x < 2 ^ 31) (hy : y < 2 ^ 31) (kt : y < x → W p l e R s m args below meth c H locs cells slots Q (F0 m tgt ls rest)) (kf : x ≤ y → W p l e R s m args below meth c H locs cells slots Q (F0 m (pc + 3) ls rest)) : W p l e R s m args below meth c H locs cells slots Q (F0 m pc ls (.int (nI y) :: .int (nI x) :: rest)) := lv_icmp_gt hexec hb hdg ht (fun q => kt ((nI_ltI hy hx).mp q)) (fun q => kf (Nat.not_lt.mp (fun z => q ((nI_ltI hy hx).mpr z))))
theorem sn_icmp_le (hexec : p.tables.exec = Jvm.exec) (hb : c.code = cc) (hdg : decode cc pc = .ok (.if_icmp .le off, 3)) (ht : (pc : Int) + off = (tgt : Int)) (hx : x < 2 ^ 31) (hy : y < 2 ^ 31) (kt : x ≤ y → W p l e R s m args below meth c H locs cells slots Q (F0 m tgt ls rest)) (kf : y < x → W p l e R s m args below meth c H locs cells slots Q (F0 m (pc + 3) ls rest)) : W p l e R s m args below meth c H locs cells slots Q (F0 m pc ls (.int (nI y) :: .int (nI x) :: rest)) := lv_icmp_le hexec hb hdg ht (fun q => kt ((nI_leI hx hy).mp q)) (fun q => kf (Nat.not_le.mp (fun z => q ((nI_leI hx hy).mpr z))))
theorem sn_if_eq (hexec : p.tables.exec = Jvm.exec) (hb : c.code = cc) (hdg : decode cc pc = .ok (.ifCond .eq off, 3)) (ht : (pc : Int) + off = (tgt : Int)) (hx : x < 2 ^ 31) (kt : x = 0 → W p l e R s m args below meth c H locs cells slots Q (F0 m tgt ls rest)) (kf : x ≠ 0 → W p l e R s m args below meth c H locs cells slots Q (F0 m (pc + 3) ls rest)) : W p l e R s m args below meth c H locs cells slots Q (F0 m pc ls (.int (nI x) :: rest)) := lv_if_eq hexec hb hdg ht (fun q => kt (by rcases Nat.eq_zero_or_pos x with z | z; exact z; exact absurd q (nI_ne0 z hx))) (fun q => kf (fun z => q (by rw [z]; rfl)))
theorem sn_if_ne (hexec : p.tables.exec = Jvm.exec) (hb : c.code = cc) (hdg : decode cc pc = .ok (.ifCond .ne off, 3)) (ht : (pc : Int) + off = (tgt : Int)) (hx : x < 2 ^ 31) (kt : x ≠ 0 → W p l e R s m args below meth c H locs cells slots Q (F0 m tgt ls rest)) (kf : x = 0 → W p l e R s m args below meth c H locs cells slots Q (F0 m (pc + 3) ls rest)) : W p l e R s m args below meth c H locs cells slots Q (F0 m pc ls (.int (nI x) :: rest)) := lv_if_ne hexec hb hdg ht (fun q => kt (fun z => q (by rw [z]; rfl))) (fun q => kf (by rcases Nat.eq_zero_or_pos x with z | z; exact z; exact absurd q (nI_ne0 z hx)))
theorem sn_if_lt (hexec : p.tables.exec = Jvm.exec) (hb : c.code = cc) (hdg : decode cc pc = .ok (.ifCond .lt off, 3)) (hx : x < 2 ^ 31) (ht : (pc : Int) + off = (tgt : Int)) (kf : W p l e R s m args below meth c H locs cells slots Q (F0 m (pc + 3) ls rest)) : W p l e R s m args below meth c H locs cells slots Q (F0 m pc ls (.int (nI x) :: rest)) := lv_if_lt hexec hb hdg ht (fun q => absurd q (nI_pos hx)) (fun _ => kf)
theorem sn_if_le (hexec : p.tables.exec = Jvm.exec) (hb : c.code = cc) (hdg : decode cc pc = .ok (.ifCond .le off, 3)) (ht : (pc : Int) + off = (tgt : Int)) (hx : x < 2 ^ 31) (kt : x = 0 → W p l e R s m args below meth c H locs cells slots Q (F0 m tgt ls rest)) (kf : 0 < x → W p l e R s m args below meth c H locs cells slots Q (F0 m (pc + 3) ls rest)) : W p l e R s m args below meth c H locs cells slots Q (F0 m pc ls (.int (nI x) :: rest)) := lv_if_le hexec hb hdg ht (fun q => kt (by rcases Nat.eq_zero_or_pos x with z | z; exact z; exact absurd q (nI_nle z hx))) (fun q => kf (by rcases Nat.eq_zero_or_pos x with z | z; exact absurd (show nI x ≤ 0 by rw [z]; exact Int32.le_refl _) q; exact z))
theorem sn_if_gt (hexec : p.tables.exec = Jvm.exec) (hb : c.code = cc) (hdg : decode cc pc = .ok (.ifCond .gt off, 3)) (ht : (pc : Int) + off = (tgt : Int)) (hx : x < 2 ^ 31) (kt : 0 < x → W p l e R s m args below meth c H locs cells slots Q (F0 m tgt ls rest)) (kf : x = 0 → W p l e R s m args below meth c H locs cells slots Q (F0 m (pc + 3) ls rest)) : W p l e R s m args below meth c H locs cells slots Q (F0 m pc ls (.int (nI x) :: rest)) := lv_if_gt hexec hb hdg ht (fun q => kt (by rcases Nat.eq_zero_or_pos x with z | z; exact absurd q (by rw [z]; decide); exact z)) (fun q => kf (by rcases Nat.eq_zero_or_pos x with z | z; exact z; exact absurd (show (0 : Int32) < nI x from (nI_ltI (by decide) hx).mpr z) q))
theorem sn_if_ge (hexec : p.tables.exec = Jvm.exec) (hb : c.code = cc) (hdg : decode cc pc = .ok (.ifCond .ge off, 3)) (ht : (pc : Int) + off = (tgt : Int)) (hx : x < 2 ^ 31) (kt : W p l e R s m args below meth c H locs cells slots Q (F0 m tgt ls rest)) : W p l e R s m args below meth c H locs cells slots Q (F0 m pc ls (.int (nI x) :: rest)) := lv_if_ge hexec hb hdg ht (fun _ => kt) (fun q => absurd (nI_pos' hx) q)
theorem sn_ifz_eq {z : Bool} (hexec : p.tables.exec = Jvm.exec) (hb : c.code = cc) (hdg : decode cc pc = .ok (.ifCond .eq off, 3)) (ht : (pc : Int) + off = (tgt : Int)) (kt : z = false → W p l e R s m args below meth c H locs cells slots Q (F0 m tgt ls rest)) (kf : z = true → W p l e R s m args below meth c H locs cells slots Q (F0 m (pc + 3) ls rest)) : W p l e R s m args below meth c H locs cells slots Q (F0 m pc ls (.int (bz z) :: rest)) := lv_if_eq hexec hb hdg ht (fun q => kt ((bz_0 z).mp q)) (fun q => kf (by cases z; exact absurd rfl q; rfl))
theorem sn_ifz_ne {z : Bool} (hexec : p.tables.exec = Jvm.exec) (hb : c.code = cc) (hdg : decode cc pc = .ok (.ifCond .ne off, 3)) (ht : (pc : Int) + off = (tgt : Int)) (kt : z = true → W p l e R s m args below meth c H locs cells slots Q (F0 m tgt ls rest)) (kf : z = false → W p l e R s m args below meth c H locs cells slots Q (F0 m (pc + 3) ls rest)) : W p l e R s m args below meth c H locs cells slots Q (F0 m pc ls (.int (bz z) :: rest)) := lv_if_ne hexec hb hdg ht (fun q => kt (by cases z; exact absurd rfl q; rfl)) (fun q => kf ((bz_0 z).mp q))
end CMP
end SN
section MET
variable {l : Launch} {G : GT} {b : Nat} {σ : Mem} {y : MethodName} {bytes : ByteArray} {maxL d : Nat}
abbrev PBody (ret : Option FieldType) (l : Launch) (G : GT) (b : Nat) (σ : Mem) (y : MethodName) (bytes : ByteArray) (maxL d : Nat) (av : List Value) (Ret : Program → Env → State → MethodId → Array Value → List Frame → Method → Code → (State → Prop) → Prop) : Prop :=
  ∀ (p : Program) (e : Env) (s : State) (m : MethodId) (args : Array Value) (below : List Frame) (meth : Method) (c : Code) (ls : Array Slot) (Q : State → Prop), p.tables.exec = Jvm.exec → c.code = bytes → c.maxLocals = maxL → s.vm.findClass y.cls = some m.cls → (∀ w ∈ TB, w.before args s = true) → va_K G.1 vwCl (gtys G) s → St G (Fr b) b σ s s.heap [] → lv_has ls maxL (lv_args 0 av) → Ret p e s m args below meth c Q → W p l e (RM d) s m args below meth c s.heap [] 0 0 Q (F0 m 0 ls [])
theorem sg_metI {post : Int32 → Mem → Prop} (av : List Value) (hy : plainName y.cls = true) (hlen : (lg_sl av).length ≤ maxL)
    (body : PBody (some .int) l G b σ y bytes maxL d av (fun p e s m args below meth c Q => ∀ (pc : Nat) (r : Int32) (σ' : Mem) (H : Heap) (locs : List Loc) (ls : Array Slot), decode bytes pc = .ok (.ireturn, 1) → St G (Fr b) b σ' s H locs → post r σ' → W p l e (RM d) s m args below meth c H locs 0 0 Q (F0 m pc ls [.int r]))) : Met l y (Cond.code y bytes maxL (some .int) :: TB) (RM d) (va_Pc av (SM G b σ)) (va_Qi post (fun σ' t => SM G b σ' t) (Fr b)) 0 0 (Fr b) :=
  sg_met av hy hlen (fun p e s m below meth c ls hx hb hr hlk hml hown hts hK hM hl => body p e s m _ below meth c ls _ hx hb hml hown hts hK hM hl (fun _ _ _ _ _ _ hd hM' hp => sg_iret hx hb hr hlk hK hM' hp hd))
theorem sg_metZ {post : Int32 → Mem → Prop} (av : List Value) (hy : plainName y.cls = true) (hlen : (lg_sl av).length ≤ maxL)
    (body : PBody (some .boolean) l G b σ y bytes maxL d av (fun p e s m args below meth c Q => ∀ (pc : Nat) (r : Int32) (z : Bool) (σ' : Mem) (H : Heap) (locs : List Loc) (ls : Array Slot), decode bytes pc = .ok (.ireturn, 1) → St G (Fr b) b σ' s H locs → r = bz z → post (bz z) σ' → W p l e (RM d) s m args below meth c H locs 0 0 Q (F0 m pc ls [.int r]))) : Met l y (Cond.code y bytes maxL (some .boolean) :: TB) (RM d) (va_Pc av (SM G b σ)) (va_Qi post (fun σ' t => SM G b σ' t) (Fr b)) 0 0 (Fr b) :=
  sg_met av hy hlen (fun p e s m below meth c ls hx hb hr hlk hml hown hts hK hM hl => body p e s m _ below meth c ls _ hx hb hml hown hts hK hM hl (fun _ _ z _ _ _ _ hd hM' hz hp => by rw [hz]; exact sg_zret hx hb hr hlk hK hM' (bz_nar z) hp hd))
theorem sg_metL {post : Int64 → Mem → Prop} (av : List Value) (hy : plainName y.cls = true) (hlen : (lg_sl av).length ≤ maxL)
    (body : PBody (some .long) l G b σ y bytes maxL d av (fun p e s m args below meth c Q => ∀ (pc : Nat) (r : Int64) (σ' : Mem) (H : Heap) (locs : List Loc) (ls : Array Slot), decode bytes pc = .ok (.lreturn, 1) → St G (Fr b) b σ' s H locs → post r σ' → W p l e (RM d) s m args below meth c H locs 0 0 Q (F0 m pc ls [.long r]))) : Met l y (Cond.code y bytes maxL (some .long) :: TB) (RM d) (va_Pc av (SM G b σ)) (va_Ql post (fun σ' t => SM G b σ' t) (Fr b)) 0 0 (Fr b) :=
  sg_met av hy hlen (fun p e s m below meth c ls hx hb hr hlk hml hown hts hK hM hl => body p e s m _ below meth c ls _ hx hb hml hown hts hK hM hl (fun _ _ _ _ _ _ hd hM' hp => sg_lret hx hb hr hlk hK hM' hp hd))
theorem sg_metV {post : Mem → Prop} (av : List Value) (hy : plainName y.cls = true) (hlen : (lg_sl av).length ≤ maxL)
    (body : PBody none l G b σ y bytes maxL d av (fun p e s m args below meth c Q => ∀ (pc : Nat) (σ' : Mem) (H : Heap) (locs : List Loc) (ls : Array Slot), decode bytes pc = .ok (.return_, 1) → St G (Fr b) b σ' s H locs → post σ' → W p l e (RM d) s m args below meth c H locs 0 0 Q (F0 m pc ls []))) : Met l y (Cond.code y bytes maxL none :: TB) (RM d) (va_Pc av (SM G b σ)) (va_Qv post (fun σ' t => SM G b σ' t) (Fr b)) 0 0 (Fr b) :=
  sg_met av hy hlen (fun p e s m below meth c ls hx hb hr hlk hml hown hts hK hM hl => body p e s m _ below meth c ls _ hx hb hml hown hts hK hM hl (fun _ _ _ _ _ hd hM' hp => sg_vret hx hb hr hlk hK hM' hp hd))
end MET
/-- contracts, in short: an int, a truth value, a long, nothing is answered -/
abbrev KI (l : Launch) (G : GT) (b : Nat) (y : MethodName) (bytes : ByteArray) (maxL d : Nat) (σ : Mem) (av : List Value) (post : Int32 → Mem → Prop) : Prop := Met l y (Cond.code y bytes maxL (some .int) :: TB) (RM d) (va_Pc av (SM G b σ)) (va_Qi post (fun σ' t => SM G b σ' t) (Fr b)) 0 0 (Fr b)
abbrev KZ (l : Launch) (G : GT) (b : Nat) (y : MethodName) (bytes : ByteArray) (maxL d : Nat) (σ : Mem) (av : List Value) (post : Int32 → Mem → Prop) : Prop := Met l y (Cond.code y bytes maxL (some .boolean) :: TB) (RM d) (va_Pc av (SM G b σ)) (va_Qi post (fun σ' t => SM G b σ' t) (Fr b)) 0 0 (Fr b)
abbrev KL (l : Launch) (G : GT) (b : Nat) (y : MethodName) (bytes : ByteArray) (maxL d : Nat) (σ : Mem) (av : List Value) (post : Int64 → Mem → Prop) : Prop := Met l y (Cond.code y bytes maxL (some .long) :: TB) (RM d) (va_Pc av (SM G b σ)) (va_Ql post (fun σ' t => SM G b σ' t) (Fr b)) 0 0 (Fr b)
abbrev KV (l : Launch) (G : GT) (b : Nat) (y : MethodName) (bytes : ByteArray) (maxL d : Nat) (σ : Mem) (av : List Value) (post : Mem → Prop) : Prop := Met l y (Cond.code y bytes maxL none :: TB) (RM d) (va_Pc av (SM G b σ)) (va_Qv post (fun σ' t => SM G b σ' t) (Fr b)) 0 0 (Fr b)
end
section
theorem kc_0 : kd 0 = 0 := rfl
theorem kc_1 : kd 1 = 1 := rfl
theorem kc_2 : kd 2 = 2 := rfl
theorem kc_3 : kd 3 = 3 := rfl
theorem kc_4 : kd 4 = 4 := rfl
theorem kc_5 : kd 5 = 4 := rfl
theorem kc_6 : kd 6 = 4 := rfl
theorem kc_7 : kd 7 = 4 := rfl
theorem kc_8 : kd 8 = 5 := rfl
theorem kc_9 : kd 9 = 4 := rfl
theorem kc_10 : kd 10 = 4 := rfl
theorem kc_11 : kd 11 = 6 := rfl
theorem kc_12 : kd 12 = 7 := rfl
theorem kc_13 : kd 13 = 1 := rfl
theorem kc_14 : kd 14 = 2 := rfl
theorem kc_15 : kd 15 = 3 := rfl
theorem kc_16 : kd 16 = 4 := rfl
theorem kc_17 : kd 17 = 4 := rfl
theorem kc_18 : kd 18 = 4 := rfl
theorem kc_19 : kd 19 = 4 := rfl
theorem kc_20 : kd 20 = 5 := rfl
theorem kc_21 : kd 21 = 4 := rfl
theorem kc_22 : kd 22 = 4 := rfl
theorem kc_23 : kd 23 = 1 := rfl
theorem kc_24 : kd 24 = 2 := rfl
theorem kc_25 : kd 25 = 3 := rfl
theorem kc_26 : kd 26 = 4 := rfl
theorem kc_27 : kd 27 = 4 := rfl
theorem kc_28 : kd 28 = 4 := rfl
theorem kc_29 : kd 29 = 4 := rfl
theorem kc_30 : kd 30 = 5 := rfl
theorem kc_31 : kd 31 = 4 := rfl
theorem kc_32 : kd 32 = 4 := rfl
theorem kc_33 : kd 33 = 1 := rfl
theorem kc_34 : kd 34 = 2 := rfl
theorem kc_35 : kd 35 = 3 := rfl
theorem kc_36 : kd 36 = 4 := rfl
theorem kc_37 : kd 37 = 4 := rfl
theorem kc_38 : kd 38 = 4 := rfl
theorem kc_39 : kd 39 = 4 := rfl
theorem kc_40 : kd 40 = 5 := rfl
theorem kc_41 : kd 41 = 4 := rfl
theorem kc_42 : kd 42 = 4 := rfl
theorem kc_43 : kd 43 = 1 := rfl
theorem kc_44 : kd 44 = 2 := rfl
theorem kc_45 : kd 45 = 3 := rfl
theorem kc_46 : kd 46 = 4 := rfl
theorem kc_47 : kd 47 = 4 := rfl
theorem kc_48 : kd 48 = 4 := rfl
theorem kc_49 : kd 49 = 4 := rfl
theorem kc_50 : kd 50 = 5 := rfl
theorem kc_51 : kd 51 = 4 := rfl
theorem kc_52 : kd 52 = 4 := rfl
theorem kc_53 : kd 53 = 1 := rfl
theorem kc_54 : kd 54 = 2 := rfl
theorem kc_55 : kd 55 = 3 := rfl
theorem kc_56 : kd 56 = 4 := rfl
theorem kc_57 : kd 57 = 4 := rfl
theorem kc_58 : kd 58 = 4 := rfl
theorem kc_59 : kd 59 = 4 := rfl
theorem kc_60 : kd 60 = 5 := rfl
theorem kc_61 : kd 61 = 4 := rfl
theorem kc_62 : kd 62 = 4 := rfl
theorem kc_63 : kd 63 = 1 := rfl
theorem kc_64 : kd 64 = 2 := rfl
theorem kc_65 : kd 65 = 3 := rfl
theorem kc_66 : kd 66 = 4 := rfl
theorem kc_67 : kd 67 = 4 := rfl
theorem kc_68 : kd 68 = 4 := rfl
theorem kc_69 : kd 69 = 4 := rfl
theorem kc_70 : kd 70 = 5 := rfl
theorem kc_71 : kd 71 = 4 := rfl
theorem kc_72 : kd 72 = 4 := rfl
theorem kc_73 : kd 73 = 1 := rfl
theorem kc_74 : kd 74 = 2 := rfl
theorem kc_75 : kd 75 = 3 := rfl
theorem kc_76 : kd 76 = 4 := rfl
theorem kc_77 : kd 77 = 4 := rfl
theorem kc_78 : kd 78 = 4 := rfl
theorem kc_79 : kd 79 = 4 := rfl
theorem kc_80 : kd 80 = 5 := rfl
theorem kc_81 : kd 81 = 4 := rfl
theorem kc_82 : kd 82 = 4 := rfl
theorem kc_83 : kd 83 = 1 := rfl
theorem kc_84 : kd 84 = 2 := rfl
theorem kc_85 : kd 85 = 3 := rfl
theorem kc_86 : kd 86 = 4 := rfl
theorem kc_87 : kd 87 = 4 := rfl
theorem kc_88 : kd 88 = 4 := rfl
theorem kc_89 : kd 89 = 4 := rfl
theorem kc_90 : kd 90 = 5 := rfl
theorem kc_91 : kd 91 = 4 := rfl
theorem kc_92 : kd 92 = 4 := rfl
theorem kc_93 : kd 93 = 8 := rfl
theorem kc_94 : kd 94 = 1 := rfl
theorem kc_95 : kd 95 = 2 := rfl
theorem kc_96 : kd 96 = 3 := rfl
theorem kc_97 : kd 97 = 4 := rfl
theorem kc_98 : kd 98 = 4 := rfl
theorem kc_99 : kd 99 = 4 := rfl
theorem kc_100 : kd 100 = 4 := rfl
theorem kc_101 : kd 101 = 5 := rfl
theorem kc_102 : kd 102 = 4 := rfl
theorem kc_103 : kd 103 = 4 := rfl
theorem kc_104 : kd 104 = 1 := rfl
theorem kc_105 : kd 105 = 2 := rfl
theorem kc_106 : kd 106 = 3 := rfl
theorem kc_107 : kd 107 = 4 := rfl
theorem kc_108 : kd 108 = 4 := rfl
theorem kc_109 : kd 109 = 4 := rfl
theorem kc_110 : kd 110 = 4 := rfl
theorem kc_111 : kd 111 = 5 := rfl
theorem kc_112 : kd 112 = 4 := rfl
theorem kc_113 : kd 113 = 4 := rfl
theorem kc_114 : kd 114 = 9 := rfl
theorem kc_115 : kd 115 = 10 := rfl
theorem kc_116 : kd 116 = 3 := rfl
theorem kc_117 : kd 117 = 4 := rfl
theorem kc_118 : kd 118 = 4 := rfl
theorem kc_119 : kd 119 = 4 := rfl
theorem kc_120 : kd 120 = 4 := rfl
theorem kc_121 : kd 121 = 11 := rfl
theorem kc_122 : kd 122 = 11 := rfl
theorem kc_123 : kd 123 = 12 := rfl
theorem kc_124 : kd 124 = 13 := rfl
theorem kc_125 : kd 125 = 14 := rfl
theorem kc_126 : kd 126 = 15 := rfl
theorem kc_127 : kd 127 = 15 := rfl
theorem kc_128 : kd 128 = 16 := rfl
theorem kc_129 : kd 129 = 17 := rfl
theorem kc_130 : kd 130 = 18 := rfl
theorem kc_131 : kd 131 = 19 := rfl
theorem kc_132 : kd 132 = 20 := rfl
theorem kc_133 : kd 133 = 21 := rfl
theorem kc_134 : kd 134 = 9 := rfl
theorem kc_135 : kd 135 = 12 := rfl
theorem kc_136 : kd 136 = 4 := rfl
theorem kc_137 : kd 137 = 4 := rfl
theorem kc_138 : kd 138 = 4 := rfl
theorem kc_139 : kd 139 = 15 := rfl
theorem kc_140 : kd 140 = 15 := rfl
theorem kc_141 : kd 141 = 22 := rfl
theorem kc_142 : kd 142 = 23 := rfl
/-! WHAT IS MEANT: points, families, the register -/
def gx (p : Nat) : Int32 := nI (20 * (p / 4)) - nI 30
def gy (p : Nat) : Int32 := nI (20 * (p % 4)) - nI 30
def gf (p : Nat) : Nat := 2 * ((p / 4 + p % 4) % 2) + p % 4 % 2
def grk (p : Nat) : Nat := 2 * (p / 4 / 2) + p % 4 / 2
def pt (f w : Nat) : Nat := 4 * ((f / 2 + f % 2) % 2 + 2 * (w / 2)) + (f % 2 + 2 * (w % 2))
def tn (p : Nat) : Nat := 4 * (3 - p % 4) + p / 4
def tf (f : Nat) : Nat := gf (tn (pt f 0))
def far (p : Nat) (x y : Int32) : Int32 := (gx p - x) * (gx p - x) + (gy p - y) * (gy p - y)
def pc1 (n : Nat) : Nat := n % 2 + n / 2 % 2 + n / 4 % 2 + n / 8 % 2
def rg (m s u : Nat) : Nat := u * 2 ^ m + s
def fam (m g h s u : Nat) : Nat := 2 * (pc1 (rg m s u &&& g) % 2) + pc1 (rg m s u &&& h) % 2
def nx (m s u : Nat) : Nat := rg m s u / 2
theorem gf_lt (p : Nat) : gf p < 4 := by unfold gf; omega
theorem pt_lt {f w : Nat} (hf : f < 4) (hw : w < 4) : pt f w < 16 := by unfold pt; omega
theorem tn_lt {p : Nat} (hp : p < 16) : tn p < 16 := by unfold tn; omega
theorem tf_lt (f : Nat) : tf f < 4 := gf_lt _
theorem fam_lt (m g h s u : Nat) : fam m g h s u < 4 := by unfold fam; omega
theorem p2_le {m : Nat} (h : m ≤ 3) : 2 ^ m ≤ 8 := Nat.pow_le_pow_right (by decide) h
theorem p2_pos (m : Nat) : 0 < 2 ^ m := Nat.pow_pos (by decide)
theorem rg_lt {m s u : Nat} (hu : u < 2) (hs : s < 2 ^ m) : rg m s u < 2 * 2 ^ m := by
  unfold rg
  rcases (show u = 0 ∨ u = 1 by omega) with rfl | rfl <;> omega
theorem rg_16 {m s u : Nat} (hm : m ≤ 3) (hu : u < 2) (hs : s < 2 ^ m) : rg m s u < 16 := by
  have h1 := rg_lt hu hs
  have h2 := p2_le hm
  omega
theorem nx_lt {m s u : Nat} (hu : u < 2) (hs : s < 2 ^ m) : nx m s u < 2 ^ m := by
  unfold nx
  have h1 := rg_lt hu hs
  omega
theorem and_16 {a g : Nat} (h : a < 16) : a &&& g < 16 := Nat.lt_of_le_of_lt Nat.and_le_left h
theorem q_min {a b : Nat} (ha : a < 2 ^ 31) (hb : b < 2 ^ 31) : (if nI b < nI a then nI b else nI a) = nI (min a b) := by
  by_cases h : b < a
  · rw [if_pos (nI_lt h ha), Nat.min_eq_right (Nat.le_of_lt h)]
  · rw [if_neg (nI_nlt (Nat.not_lt.mp h) hb), Nat.min_eq_left (Nat.not_lt.mp h)]
/-- the number that a switch asks for -/
theorem swc (x : Int32) (hi : Nat) (hh : hi < 1000 := by decide) : (x.toInt < 0 ∨ (hi : Int) < x.toInt) ∨ ∃ j, j < hi + 1 ∧ x = nI j := by
  by_cases h : x.toInt < 0 ∨ (hi : Int) < x.toInt
  · exact Or.inl h
  · right
    refine ⟨x.toInt.toNat, by omega, ?_⟩
    apply Int32.toInt_inj.mp
    rw [nI_toInt (by omega)]
    omega
/-- bits that are 1, as Integer.bitCount reckons them -/
def bcI (x : Int32) : Int32 :=
  let x1 := x - ((x.toUInt32 >>> ((nI 1).toUInt32 &&& Int32.toUInt32 31)).toInt32 &&& nI 1431655765)
  let x2 := (x1 &&& nI 858993459) + ((x1.toUInt32 >>> ((nI 2).toUInt32 &&& Int32.toUInt32 31)).toInt32 &&& nI 858993459)
  let x3 := (x2 + (x2.toUInt32 >>> ((nI 4).toUInt32 &&& Int32.toUInt32 31)).toInt32) &&& nI 252645135
  let x4 := x3 + (x3.toUInt32 >>> ((nI 8).toUInt32 &&& Int32.toUInt32 31)).toInt32
  let x5 := x4 + (x4.toUInt32 >>> ((nI 16).toUInt32 &&& Int32.toUInt32 31)).toInt32
  x5 &&& nI 63
theorem bcI_ok : ∀ n, n < 16 → bcI (nI n) = nI (pc1 n) := by decide +kernel
/-- THE CODE, as it lies in a cell -/
def CodeAt (σ : Mem) (cd m g h : Nat) : Prop := σ cd 0 = nI m ∧ σ cd 1 = nI g ∧ σ cd 2 = nI h ∧ (1 ≤ m ∧ m ≤ 3) ∧ g < 16 ∧ h < 16
/-- the point nearest to a place, of the first n -/
def pa (x y : Int32) : Nat → Nat
  | 0 => 0
  | n + 1 => if far n x y < far (pa x y n) x y then n else pa x y n
theorem pa_lt (x y : Int32) : ∀ n, n ≤ 16 → pa x y n < 16
  | 0, _ => by show 0 < 16; decide
  | n + 1, h => by
    unfold pa
    have := pa_lt x y n (by omega)
    split <;> omega
theorem pa_1 (x y : Int32) : pa x y 1 = 0 := by unfold pa; split <;> rfl
/-- the least distance of two families, of the first n pairs -/
def gpC (f o : Nat) : Nat → Int32
  | 0 => nI 99999999
  | n + 1 => if pt f (n / 4) = pt o (n % 4) then gpC f o n else
      (if far (pt f (n / 4)) (gx (pt o (n % 4))) (gy (pt o (n % 4))) < gpC f o n then far (pt f (n / 4)) (gx (pt o (n % 4))) (gy (pt o (n % 4))) else gpC f o n)
theorem gpC_s {f o a w : Nat} (hw : w < 4) : gpC f o (4 * a + w + 1) = if pt f a = pt o w then gpC f o (4 * a + w) else (if far (pt f a) (gx (pt o w)) (gy (pt o w)) < gpC f o (4 * a + w) then far (pt f a) (gx (pt o w)) (gy (pt o w)) else gpC f o (4 * a + w)) := by
  show (if pt f ((4 * a + w) / 4) = pt o ((4 * a + w) % 4) then _ else _) = _
  rw [show (4 * a + w) / 4 = a by omega, show (4 * a + w) % 4 = w by omega]
theorem pa_s (x y : Int32) (n : Nat) : pa x y (n + 1) = if far n x y < far (pa x y n) x y then n else pa x y n := rfl
def gap (f o : Nat) : Nat := (gpC f o 16).toNatClampNeg
theorem gap_ok : ∀ f, f < 4 → ∀ o, o < 4 → gpC f o 16 = nI (gap f o) ∧ gap f o ≤ 1600 := by decide +kernel
end
section
set_option maxHeartbeats 4000000 in
set_option maxRecDepth 100000 in
theorem c_bitCount (l : Launch) (G : GT) (b : Nat) (σ : Mem) (n : Nat) (hn : n < 16) : KI l G b yJ6_bitCount_0f7a4 cJ6_bitCount_0f7a4 1 0 σ [.int (nI n)] (fun r σ' => r = nI (pc1 n) ∧ σ' = σ) := by
  refine sg_metI [.int (nI n)] (by decide) (Nat.le_of_ble_eq_true rfl) ?_
  intro vp ve vs vm args below meth vc ls Q hx hb hml hown hts hK hM hl hret
  have hl : lv_has ls 1 [(0, .int (nI n))] := hl
  refine lv_iload_n hx hb dJ6_bitCount_0f7a4_0 rfl (lv_at hl 0 rfl) ?_
  refine lv_iload_n hx hb dJ6_bitCount_0f7a4_1 rfl (lv_at hl 0 rfl) ?_
  refine lv_iconst (v := nI 1) hx hb dJ6_bitCount_0f7a4_2 (by decide) ?_
  refine lv_iushr hx hb dJ6_bitCount_0f7a4_3 rfl ?_
  refine lv_ldcw (v := nI 1431655765) hx hb hown (hts (Cond.constant RJ6 265 (nI 1431655765)) wk_J6_265) dJ6_bitCount_0f7a4_4 ?_
  refine lv_iand hx hb dJ6_bitCount_0f7a4_7 ?_
  refine lv_isub hx hb dJ6_bitCount_0f7a4_8 ?_
  refine lv_topi (fun x1 e_x1 => ?_)
  refine lv_istore_n (lv' := [(0, .int x1)]) hx hb dJ6_bitCount_0f7a4_9 rfl hl (by decide) rfl (fun ls hl => ?_)
  refine lv_iload_n hx hb dJ6_bitCount_0f7a4_10 rfl (lv_at hl 0 rfl) ?_
  refine lv_ldcw (v := nI 858993459) hx hb hown (hts (Cond.constant RJ6 266 (nI 858993459)) wk_J6_266) dJ6_bitCount_0f7a4_11 ?_
  refine lv_iand hx hb dJ6_bitCount_0f7a4_14 ?_
  refine lv_iload_n hx hb dJ6_bitCount_0f7a4_15 rfl (lv_at hl 0 rfl) ?_
  refine lv_iconst (v := nI 2) hx hb dJ6_bitCount_0f7a4_16 (by decide) ?_
  refine lv_iushr hx hb dJ6_bitCount_0f7a4_17 rfl ?_
  refine lv_ldcw (v := nI 858993459) hx hb hown (hts (Cond.constant RJ6 266 (nI 858993459)) wk_J6_266) dJ6_bitCount_0f7a4_18 ?_
  refine lv_iand hx hb dJ6_bitCount_0f7a4_21 ?_
  refine lv_iadd hx hb dJ6_bitCount_0f7a4_22 ?_
  refine lv_topi (fun x2 e_x2 => ?_)
  refine lv_istore_n (lv' := [(0, .int x2)]) hx hb dJ6_bitCount_0f7a4_23 rfl hl (by decide) rfl (fun ls hl => ?_)
  refine lv_iload_n hx hb dJ6_bitCount_0f7a4_24 rfl (lv_at hl 0 rfl) ?_
  refine lv_iload_n hx hb dJ6_bitCount_0f7a4_25 rfl (lv_at hl 0 rfl) ?_
  refine lv_iconst (v := nI 4) hx hb dJ6_bitCount_0f7a4_26 (by decide) ?_
  refine lv_iushr hx hb dJ6_bitCount_0f7a4_27 rfl ?_
  refine lv_iadd hx hb dJ6_bitCount_0f7a4_28 ?_
  refine lv_ldcw (v := nI 252645135) hx hb hown (hts (Cond.constant RJ6 267 (nI 252645135)) wk_J6_267) dJ6_bitCount_0f7a4_29 ?_
  refine lv_iand hx hb dJ6_bitCount_0f7a4_32 ?_
  refine lv_topi (fun x3 e_x3 => ?_)
  refine lv_istore_n (lv' := [(0, .int x3)]) hx hb dJ6_bitCount_0f7a4_33 rfl hl (by decide) rfl (fun ls hl => ?_)
  refine lv_iload_n hx hb dJ6_bitCount_0f7a4_34 rfl (lv_at hl 0 rfl) ?_
  refine lv_iload_n hx hb dJ6_bitCount_0f7a4_35 rfl (lv_at hl 0 rfl) ?_
  refine lv_bipush (v := nI 8) hx hb dJ6_bitCount_0f7a4_36 (by decide) ?_
  refine lv_iushr hx hb dJ6_bitCount_0f7a4_38 rfl ?_
  refine lv_iadd hx hb dJ6_bitCount_0f7a4_39 ?_
  refine lv_topi (fun x4 e_x4 => ?_)
  refine lv_istore_n (lv' := [(0, .int x4)]) hx hb dJ6_bitCount_0f7a4_40 rfl hl (by decide) rfl (fun ls hl => ?_)
  refine lv_iload_n hx hb dJ6_bitCount_0f7a4_41 rfl (lv_at hl 0 rfl) ?_
  refine lv_iload_n hx hb dJ6_bitCount_0f7a4_42 rfl (lv_at hl 0 rfl) ?_
  refine lv_bipush (v := nI 16) hx hb dJ6_bitCount_0f7a4_43 (by decide) ?_
  refine lv_iushr hx hb dJ6_bitCount_0f7a4_45 rfl ?_
  refine lv_iadd hx hb dJ6_bitCount_0f7a4_46 ?_
  refine lv_topi (fun x5 e_x5 => ?_)
  refine lv_istore_n (lv' := [(0, .int x5)]) hx hb dJ6_bitCount_0f7a4_47 rfl hl (by decide) rfl (fun ls hl => ?_)
  refine lv_iload_n hx hb dJ6_bitCount_0f7a4_48 rfl (lv_at hl 0 rfl) ?_
  refine lv_bipush (v := nI 63) hx hb dJ6_bitCount_0f7a4_49 (by decide) ?_
  refine lv_iand hx hb dJ6_bitCount_0f7a4_51 ?_
  exact hret _ _ _ _ _ _ dJ6_bitCount_0f7a4_52 hM (by subst e_x5 e_x4 e_x3 e_x2 e_x1; exact ⟨bcI_ok n hn, rfl⟩)
set_option maxHeartbeats 4000000 in
set_option maxRecDepth 100000 in
theorem c_g_xOf (l : Launch) (G : GT) (b : Nat) (σ : Mem) (q : Nat) (hq : q < 16) : KI l G b yX1_xOf cX1_xOf 1 0 σ [.int (nI q)] (fun r σ' => r = gx q ∧ σ' = σ) := by
  refine sg_metI [.int (nI q)] (by decide) (Nat.le_of_ble_eq_true rfl) ?_
  intro vp ve vs vm args below meth vc ls Q hx hb hml hown hts hK hM hl hret
  have hl : lv_has ls 1 [(0, .int (nI q))] := hl
  refine lv_bipush (v := nI 20) hx hb dX1_xOf_0 (by decide) ?_
  refine lv_iload_n hx hb dX1_xOf_2 rfl (lv_at hl 0 rfl) ?_
  refine lv_iconst (v := nI 4) hx hb dX1_xOf_3 (by decide) ?_
  refine sn_idiv hx hb dX1_xOf_4 (by omega) (by omega) (by omega) ?_
  refine sn_imul hx hb dX1_xOf_5 ?_
  refine lv_bipush (v := nI 30) hx hb dX1_xOf_6 (by decide) ?_
  refine lv_isub hx hb dX1_xOf_8 ?_
  exact hret _ _ _ _ _ _ dX1_xOf_9 hM (⟨rfl, rfl⟩)
set_option maxHeartbeats 4000000 in
set_option maxRecDepth 100000 in
theorem c_g_yOf (l : Launch) (G : GT) (b : Nat) (σ : Mem) (q : Nat) (hq : q < 16) : KI l G b yX1_yOf cX1_yOf 1 0 σ [.int (nI q)] (fun r σ' => r = gy q ∧ σ' = σ) := by
  refine sg_metI [.int (nI q)] (by decide) (Nat.le_of_ble_eq_true rfl) ?_
  intro vp ve vs vm args below meth vc ls Q hx hb hml hown hts hK hM hl hret
  have hl : lv_has ls 1 [(0, .int (nI q))] := hl
  refine lv_bipush (v := nI 20) hx hb dX1_yOf_0 (by decide) ?_
  refine lv_iload_n hx hb dX1_yOf_2 rfl (lv_at hl 0 rfl) ?_
  refine lv_iconst (v := nI 4) hx hb dX1_yOf_3 (by decide) ?_
  refine sn_irem hx hb dX1_yOf_4 (by omega) (by omega) (by omega) ?_
  refine sn_imul hx hb dX1_yOf_5 ?_
  refine lv_bipush (v := nI 30) hx hb dX1_yOf_6 (by decide) ?_
  refine lv_isub hx hb dX1_yOf_8 ?_
  exact hret _ _ _ _ _ _ dX1_yOf_9 hM (⟨rfl, rfl⟩)
set_option maxHeartbeats 4000000 in
set_option maxRecDepth 100000 in
theorem c_g_familyOf (l : Launch) (G : GT) (b : Nat) (σ : Mem) (q : Nat) (hq : q < 16) : KI l G b yX1_familyOf cX1_familyOf 3 0 σ [.int (nI q)] (fun r σ' => r = nI (gf q) ∧ σ' = σ) := by
  refine sg_metI [.int (nI q)] (by decide) (Nat.le_of_ble_eq_true rfl) ?_
  intro vp ve vs vm args below meth vc ls Q hx hb hml hown hts hK hM hl hret
  have hl : lv_has ls 3 [(0, .int (nI q))] := hl
  refine lv_iload_n hx hb dX1_familyOf_0 rfl (lv_at hl 0 rfl) ?_
  refine lv_iconst (v := nI 4) hx hb dX1_familyOf_1 (by decide) ?_
  refine sn_idiv hx hb dX1_familyOf_2 (by omega) (by omega) (by omega) ?_
  refine lv_istore_n (lv' := [(1, .int (nI (q / 4))), (0, .int (nI q))]) hx hb dX1_familyOf_3 rfl hl (by decide) rfl (fun ls hl => ?_)
  refine lv_iload_n hx hb dX1_familyOf_4 rfl (lv_at hl 1 rfl) ?_
  refine lv_iconst (v := nI 4) hx hb dX1_familyOf_5 (by decide) ?_
  refine sn_irem hx hb dX1_familyOf_6 (by omega) (by omega) (by omega) ?_
  refine lv_istore_n (lv' := [(2, .int (nI (q % 4))), (1, .int (nI (q / 4))), (0, .int (nI q))]) hx hb dX1_familyOf_7 rfl hl (by decide) rfl (fun ls hl => ?_)
  refine lv_iconst (v := nI 2) hx hb dX1_familyOf_8 (by decide) ?_
  refine lv_iload_n hx hb dX1_familyOf_9 rfl (lv_at hl 1 rfl) ?_
  refine lv_iload_n hx hb dX1_familyOf_10 rfl (lv_at hl 0 rfl) ?_
  refine sn_iadd hx hb dX1_familyOf_11 ?_
  refine lv_iconst (v := nI 2) hx hb dX1_familyOf_12 (by decide) ?_
  refine sn_irem hx hb dX1_familyOf_13 (by omega) (by omega) (by omega) ?_
  refine sn_imul hx hb dX1_familyOf_14 ?_
  refine lv_iload_n hx hb dX1_familyOf_15 rfl (lv_at hl 0 rfl) ?_
  refine lv_iconst (v := nI 2) hx hb dX1_familyOf_16 (by decide) ?_
  refine sn_irem hx hb dX1_familyOf_17 (by omega) (by omega) (by omega) ?_
  refine sn_iadd hx hb dX1_familyOf_18 ?_
  exact hret _ _ _ _ _ _ dX1_familyOf_19 hM (⟨rfl, rfl⟩)
set_option maxHeartbeats 4000000 in
set_option maxRecDepth 100000 in
theorem c_g_turn (l : Launch) (G : GT) (b : Nat) (σ : Mem) (q : Nat) (hq : q < 16) : KI l G b yX1_turnOf cX1_turnOf 1 0 σ [.int (nI q)] (fun r σ' => r = nI (tn q) ∧ σ' = σ) := by
  refine sg_metI [.int (nI q)] (by decide) (Nat.le_of_ble_eq_true rfl) ?_
  intro vp ve vs vm args below meth vc ls Q hx hb hml hown hts hK hM hl hret
  have hl : lv_has ls 1 [(0, .int (nI q))] := hl
  refine lv_iconst (v := nI 4) hx hb dX1_turnOf_0 (by decide) ?_
  refine lv_iconst (v := nI 3) hx hb dX1_turnOf_1 (by decide) ?_
  refine lv_iload_n hx hb dX1_turnOf_2 rfl (lv_at hl 0 rfl) ?_
  refine lv_iconst (v := nI 4) hx hb dX1_turnOf_3 (by decide) ?_
  refine sn_irem hx hb dX1_turnOf_4 (by omega) (by omega) (by omega) ?_
  refine sn_isub hx hb dX1_turnOf_5 (by omega) ?_
  refine sn_imul hx hb dX1_turnOf_6 ?_
  refine lv_iload_n hx hb dX1_turnOf_7 rfl (lv_at hl 0 rfl) ?_
  refine lv_iconst (v := nI 4) hx hb dX1_turnOf_8 (by decide) ?_
  refine sn_idiv hx hb dX1_turnOf_9 (by omega) (by omega) (by omega) ?_
  refine sn_iadd hx hb dX1_turnOf_10 ?_
  exact hret _ _ _ _ _ _ dX1_turnOf_11 hM (⟨rfl, rfl⟩)
set_option maxHeartbeats 4000000 in
set_option maxRecDepth 100000 in
theorem c_g_far (l : Launch) (G : GT) (b : Nat) (σ : Mem) (q : Nat) (x y : Int32) (hq : q < 16) : KI l G b yX1_farFrom cX1_farFrom 5 1 σ [.int (nI q), .int x, .int y] (fun r σ' => r = far q x y ∧ σ' = σ) := by
  refine sg_metI [.int (nI q), .int x, .int y] (by decide) (Nat.le_of_ble_eq_true rfl) ?_
  intro vp ve vs vm args below meth vc ls Q hx hb hml hown hts hK hM hl hret
  have hl : lv_has ls 5 [(0, .int (nI q)), (1, .int x), (2, .int y)] := hl
  refine lv_iload_n hx hb dX1_farFrom_0 rfl (lv_at hl 0 rfl) ?_
  refine sg_ci (sg_runS (d := 0) (As := [.int (nI q)]) (rest := []) hx hb hml hts hown hK hM (c_g_xOf l G b σ q (by first | omega | exact fam_lt _ _ _ _ _ | exact gf_lt _ | exact tf_lt _ | exact pt_lt (by first | omega | exact fam_lt _ _ _ _ _) (by omega) | exact tn_lt (by first | omega | exact pt_lt (by omega) (by omega)))) mi_X1_xOf wl_X1_22 rfl hl.1 rfl (Nat.le_of_ble_eq_true rfl) dX1_farFrom_1 ⟨by decide, by decide⟩ ⟨Nat.le_refl 0, Nat.le_refl 0⟩) hM sgA (fun r_1 σ_1 H locs hp_1 hM => ?_)
  obtain ⟨hr_1, hs_1⟩ := hp_1; subst r_1; subst σ_1
  refine lv_iload_n hx hb dX1_farFrom_4 rfl (lv_at hl 1 rfl) ?_
  refine lv_isub hx hb dX1_farFrom_5 ?_
  refine lv_istore_n (lv' := [(3, .int ((gx q) - x)), (0, .int (nI q)), (1, .int x), (2, .int y)]) hx hb dX1_farFrom_6 rfl hl (by decide) rfl (fun ls hl => ?_)
  refine lv_iload_n hx hb dX1_farFrom_7 rfl (lv_at hl 1 rfl) ?_
  refine sg_ci (sg_runS (d := 0) (As := [.int (nI q)]) (rest := []) hx hb hml hts hown hK hM (c_g_yOf l G b σ q (by first | omega | exact fam_lt _ _ _ _ _ | exact gf_lt _ | exact tf_lt _ | exact pt_lt (by first | omega | exact fam_lt _ _ _ _ _) (by omega) | exact tn_lt (by first | omega | exact pt_lt (by omega) (by omega)))) mi_X1_yOf wl_X1_25 rfl hl.1 rfl (Nat.le_of_ble_eq_true rfl) dX1_farFrom_8 ⟨by decide, by decide⟩ ⟨Nat.le_refl 0, Nat.le_refl 0⟩) hM sgA (fun r_8 σ_8 H locs hp_8 hM => ?_)
  obtain ⟨hr_8, hs_8⟩ := hp_8; subst r_8; subst σ_8
  refine lv_iload_n hx hb dX1_farFrom_11 rfl (lv_at hl 3 rfl) ?_
  refine lv_isub hx hb dX1_farFrom_12 ?_
  refine lv_istore (lv' := [(4, .int ((gy q) - y)), (3, .int ((gx q) - x)), (0, .int (nI q)), (1, .int x), (2, .int y)]) hx hb dX1_farFrom_13 hl (by decide) rfl (fun ls hl => ?_)
  refine lv_iload_n hx hb dX1_farFrom_15 rfl (lv_at hl 1 rfl) ?_
  refine lv_iload_n hx hb dX1_farFrom_16 rfl (lv_at hl 1 rfl) ?_
  refine lv_imul hx hb dX1_farFrom_17 ?_
  refine lv_iload hx hb dX1_farFrom_18 (lv_at hl 0 rfl) ?_
  refine lv_iload hx hb dX1_farFrom_20 (lv_at hl 0 rfl) ?_
  refine lv_imul hx hb dX1_farFrom_22 ?_
  refine lv_iadd hx hb dX1_farFrom_23 ?_
  exact hret _ _ _ _ _ _ dX1_farFrom_24 hM (⟨rfl, rfl⟩)
set_option maxHeartbeats 4000000 in
set_option maxRecDepth 100000 in
theorem c_m_xOf (l : Launch) (G : GT) (b : Nat) (σ : Mem) (q : Nat) (hq : q < 16) : KI l G b yX11_xOf cX11_xOf 1 0 σ [.int (nI q)] (fun r σ' => r = gx q ∧ σ' = σ) := by
  refine sg_metI [.int (nI q)] (by decide) (Nat.le_of_ble_eq_true rfl) ?_
  intro vp ve vs vm args below meth vc ls Q hx hb hml hown hts hK hM hl hret
  have hl : lv_has ls 1 [(0, .int (nI q))] := hl
  refine lv_bipush (v := nI 20) hx hb dX11_xOf_0 (by decide) ?_
  refine lv_iload_n hx hb dX11_xOf_2 rfl (lv_at hl 0 rfl) ?_
  refine lv_iconst (v := nI 4) hx hb dX11_xOf_3 (by decide) ?_
  refine sn_idiv hx hb dX11_xOf_4 (by omega) (by omega) (by omega) ?_
  refine sn_imul hx hb dX11_xOf_5 ?_
  refine lv_bipush (v := nI 30) hx hb dX11_xOf_6 (by decide) ?_
  refine lv_isub hx hb dX11_xOf_8 ?_
  exact hret _ _ _ _ _ _ dX11_xOf_9 hM (⟨rfl, rfl⟩)
set_option maxHeartbeats 4000000 in
set_option maxRecDepth 100000 in
theorem c_m_yOf (l : Launch) (G : GT) (b : Nat) (σ : Mem) (q : Nat) (hq : q < 16) : KI l G b yX11_yOf cX11_yOf 1 0 σ [.int (nI q)] (fun r σ' => r = gy q ∧ σ' = σ) := by
  refine sg_metI [.int (nI q)] (by decide) (Nat.le_of_ble_eq_true rfl) ?_
  intro vp ve vs vm args below meth vc ls Q hx hb hml hown hts hK hM hl hret
  have hl : lv_has ls 1 [(0, .int (nI q))] := hl
  refine lv_bipush (v := nI 20) hx hb dX11_yOf_0 (by decide) ?_
  refine lv_iload_n hx hb dX11_yOf_2 rfl (lv_at hl 0 rfl) ?_
  refine lv_iconst (v := nI 4) hx hb dX11_yOf_3 (by decide) ?_
  refine sn_irem hx hb dX11_yOf_4 (by omega) (by omega) (by omega) ?_
  refine sn_imul hx hb dX11_yOf_5 ?_
  refine lv_bipush (v := nI 30) hx hb dX11_yOf_6 (by decide) ?_
  refine lv_isub hx hb dX11_yOf_8 ?_
  exact hret _ _ _ _ _ _ dX11_yOf_9 hM (⟨rfl, rfl⟩)
set_option maxHeartbeats 4000000 in
set_option maxRecDepth 100000 in
theorem c_m_familyOf (l : Launch) (G : GT) (b : Nat) (σ : Mem) (q : Nat) (hq : q < 16) : KI l G b yX11_familyOf cX11_familyOf 3 0 σ [.int (nI q)] (fun r σ' => r = nI (gf q) ∧ σ' = σ) := by
  refine sg_metI [.int (nI q)] (by decide) (Nat.le_of_ble_eq_true rfl) ?_
  intro vp ve vs vm args below meth vc ls Q hx hb hml hown hts hK hM hl hret
  have hl : lv_has ls 3 [(0, .int (nI q))] := hl
  refine lv_iload_n hx hb dX11_familyOf_0 rfl (lv_at hl 0 rfl) ?_
  refine lv_iconst (v := nI 4) hx hb dX11_familyOf_1 (by decide) ?_
  refine sn_idiv hx hb dX11_familyOf_2 (by omega) (by omega) (by omega) ?_
  refine lv_istore_n (lv' := [(1, .int (nI (q / 4))), (0, .int (nI q))]) hx hb dX11_familyOf_3 rfl hl (by decide) rfl (fun ls hl => ?_)
  refine lv_iload_n hx hb dX11_familyOf_4 rfl (lv_at hl 1 rfl) ?_
  refine lv_iconst (v := nI 4) hx hb dX11_familyOf_5 (by decide) ?_
  refine sn_irem hx hb dX11_familyOf_6 (by omega) (by omega) (by omega) ?_
  refine lv_istore_n (lv' := [(2, .int (nI (q % 4))), (1, .int (nI (q / 4))), (0, .int (nI q))]) hx hb dX11_familyOf_7 rfl hl (by decide) rfl (fun ls hl => ?_)
  refine lv_iconst (v := nI 2) hx hb dX11_familyOf_8 (by decide) ?_
  refine lv_iload_n hx hb dX11_familyOf_9 rfl (lv_at hl 1 rfl) ?_
  refine lv_iload_n hx hb dX11_familyOf_10 rfl (lv_at hl 0 rfl) ?_
  refine sn_iadd hx hb dX11_familyOf_11 ?_
  refine lv_iconst (v := nI 2) hx hb dX11_familyOf_12 (by decide) ?_
  refine sn_irem hx hb dX11_familyOf_13 (by omega) (by omega) (by omega) ?_
  refine sn_imul hx hb dX11_familyOf_14 ?_
  refine lv_iload_n hx hb dX11_familyOf_15 rfl (lv_at hl 0 rfl) ?_
  refine lv_iconst (v := nI 2) hx hb dX11_familyOf_16 (by decide) ?_
  refine sn_irem hx hb dX11_familyOf_17 (by omega) (by omega) (by omega) ?_
  refine sn_iadd hx hb dX11_familyOf_18 ?_
  exact hret _ _ _ _ _ _ dX11_familyOf_19 hM (⟨rfl, rfl⟩)
set_option maxHeartbeats 4000000 in
set_option maxRecDepth 100000 in
theorem c_m_turn (l : Launch) (G : GT) (b : Nat) (σ : Mem) (q : Nat) (hq : q < 16) : KI l G b yX11_turn cX11_turn 1 0 σ [.int (nI q)] (fun r σ' => r = nI (tn q) ∧ σ' = σ) := by
  refine sg_metI [.int (nI q)] (by decide) (Nat.le_of_ble_eq_true rfl) ?_
  intro vp ve vs vm args below meth vc ls Q hx hb hml hown hts hK hM hl hret
  have hl : lv_has ls 1 [(0, .int (nI q))] := hl
  refine lv_iconst (v := nI 4) hx hb dX11_turn_0 (by decide) ?_
  refine lv_iconst (v := nI 3) hx hb dX11_turn_1 (by decide) ?_
  refine lv_iload_n hx hb dX11_turn_2 rfl (lv_at hl 0 rfl) ?_
  refine lv_iconst (v := nI 4) hx hb dX11_turn_3 (by decide) ?_
  refine sn_irem hx hb dX11_turn_4 (by omega) (by omega) (by omega) ?_
  refine sn_isub hx hb dX11_turn_5 (by omega) ?_
  refine sn_imul hx hb dX11_turn_6 ?_
  refine lv_iload_n hx hb dX11_turn_7 rfl (lv_at hl 0 rfl) ?_
  refine lv_iconst (v := nI 4) hx hb dX11_turn_8 (by decide) ?_
  refine sn_idiv hx hb dX11_turn_9 (by omega) (by omega) (by omega) ?_
  refine sn_iadd hx hb dX11_turn_10 ?_
  exact hret _ _ _ _ _ _ dX11_turn_11 hM (⟨rfl, rfl⟩)
set_option maxHeartbeats 4000000 in
set_option maxRecDepth 100000 in
theorem c_m_far (l : Launch) (G : GT) (b : Nat) (σ : Mem) (q : Nat) (x y : Int32) (hq : q < 16) : KI l G b yX11_far cX11_far 5 1 σ [.int (nI q), .int x, .int y] (fun r σ' => r = far q x y ∧ σ' = σ) := by
  refine sg_metI [.int (nI q), .int x, .int y] (by decide) (Nat.le_of_ble_eq_true rfl) ?_
  intro vp ve vs vm args below meth vc ls Q hx hb hml hown hts hK hM hl hret
  have hl : lv_has ls 5 [(0, .int (nI q)), (1, .int x), (2, .int y)] := hl
  refine lv_iload_n hx hb dX11_far_0 rfl (lv_at hl 0 rfl) ?_
  refine sg_ci (sg_runS (d := 0) (As := [.int (nI q)]) (rest := []) hx hb hml hts hown hK hM (c_m_xOf l G b σ q (by first | omega | exact fam_lt _ _ _ _ _ | exact gf_lt _ | exact tf_lt _ | exact pt_lt (by first | omega | exact fam_lt _ _ _ _ _) (by omega) | exact tn_lt (by first | omega | exact pt_lt (by omega) (by omega)))) mi_X11_xOf wl_X11_51 rfl hl.1 rfl (Nat.le_of_ble_eq_true rfl) dX11_far_1 ⟨by decide, by decide⟩ ⟨Nat.le_refl 0, Nat.le_refl 0⟩) hM sgA (fun r_1 σ_1 H locs hp_1 hM => ?_)
  obtain ⟨hr_1, hs_1⟩ := hp_1; subst r_1; subst σ_1
  refine lv_iload_n hx hb dX11_far_4 rfl (lv_at hl 1 rfl) ?_
  refine lv_isub hx hb dX11_far_5 ?_
  refine lv_istore_n (lv' := [(3, .int ((gx q) - x)), (0, .int (nI q)), (1, .int x), (2, .int y)]) hx hb dX11_far_6 rfl hl (by decide) rfl (fun ls hl => ?_)
  refine lv_iload_n hx hb dX11_far_7 rfl (lv_at hl 1 rfl) ?_
  refine sg_ci (sg_runS (d := 0) (As := [.int (nI q)]) (rest := []) hx hb hml hts hown hK hM (c_m_yOf l G b σ q (by first | omega | exact fam_lt _ _ _ _ _ | exact gf_lt _ | exact tf_lt _ | exact pt_lt (by first | omega | exact fam_lt _ _ _ _ _) (by omega) | exact tn_lt (by first | omega | exact pt_lt (by omega) (by omega)))) mi_X11_yOf wl_X11_54 rfl hl.1 rfl (Nat.le_of_ble_eq_true rfl) dX11_far_8 ⟨by decide, by decide⟩ ⟨Nat.le_refl 0, Nat.le_refl 0⟩) hM sgA (fun r_8 σ_8 H locs hp_8 hM => ?_)
  obtain ⟨hr_8, hs_8⟩ := hp_8; subst r_8; subst σ_8
  refine lv_iload_n hx hb dX11_far_11 rfl (lv_at hl 3 rfl) ?_
  refine lv_isub hx hb dX11_far_12 ?_
  refine lv_istore (lv' := [(4, .int ((gy q) - y)), (3, .int ((gx q) - x)), (0, .int (nI q)), (1, .int x), (2, .int y)]) hx hb dX11_far_13 hl (by decide) rfl (fun ls hl => ?_)
  refine lv_iload_n hx hb dX11_far_15 rfl (lv_at hl 1 rfl) ?_
  refine lv_iload_n hx hb dX11_far_16 rfl (lv_at hl 1 rfl) ?_
  refine lv_imul hx hb dX11_far_17 ?_
  refine lv_iload hx hb dX11_far_18 (lv_at hl 0 rfl) ?_
  refine lv_iload hx hb dX11_far_20 (lv_at hl 0 rfl) ?_
  refine lv_imul hx hb dX11_far_22 ?_
  refine lv_iadd hx hb dX11_far_23 ?_
  exact hret _ _ _ _ _ _ dX11_far_24 hM (⟨rfl, rfl⟩)
set_option maxHeartbeats 4000000 in
set_option maxRecDepth 100000 in
theorem c_g_rankOf (l : Launch) (G : GT) (b : Nat) (σ : Mem) (q : Nat) (hq : q < 16) : KI l G b yX1_rankOf cX1_rankOf 3 0 σ [.int (nI q)] (fun r σ' => r = nI (grk q) ∧ σ' = σ) := by
  refine sg_metI [.int (nI q)] (by decide) (Nat.le_of_ble_eq_true rfl) ?_
  intro vp ve vs vm args below meth vc ls Q hx hb hml hown hts hK hM hl hret
  have hl : lv_has ls 3 [(0, .int (nI q))] := hl
  refine lv_iload_n hx hb dX1_rankOf_0 rfl (lv_at hl 0 rfl) ?_
  refine lv_iconst (v := nI 4) hx hb dX1_rankOf_1 (by decide) ?_
  refine sn_idiv hx hb dX1_rankOf_2 (by omega) (by omega) (by omega) ?_
  refine lv_istore_n (lv' := [(1, .int (nI (q / 4))), (0, .int (nI q))]) hx hb dX1_rankOf_3 rfl hl (by decide) rfl (fun ls hl => ?_)
  refine lv_iload_n hx hb dX1_rankOf_4 rfl (lv_at hl 1 rfl) ?_
  refine lv_iconst (v := nI 4) hx hb dX1_rankOf_5 (by decide) ?_
  refine sn_irem hx hb dX1_rankOf_6 (by omega) (by omega) (by omega) ?_
  refine lv_istore_n (lv' := [(2, .int (nI (q % 4))), (1, .int (nI (q / 4))), (0, .int (nI q))]) hx hb dX1_rankOf_7 rfl hl (by decide) rfl (fun ls hl => ?_)
  refine lv_iconst (v := nI 2) hx hb dX1_rankOf_8 (by decide) ?_
  refine lv_iload_n hx hb dX1_rankOf_9 rfl (lv_at hl 1 rfl) ?_
  refine lv_iconst (v := nI 2) hx hb dX1_rankOf_10 (by decide) ?_
  refine sn_idiv hx hb dX1_rankOf_11 (by omega) (by omega) (by omega) ?_
  refine sn_imul hx hb dX1_rankOf_12 ?_
  refine lv_iload_n hx hb dX1_rankOf_13 rfl (lv_at hl 0 rfl) ?_
  refine lv_iconst (v := nI 2) hx hb dX1_rankOf_14 (by decide) ?_
  refine sn_idiv hx hb dX1_rankOf_15 (by omega) (by omega) (by omega) ?_
  refine sn_iadd hx hb dX1_rankOf_16 ?_
  exact hret _ _ _ _ _ _ dX1_rankOf_17 hM (⟨rfl, rfl⟩)
set_option maxHeartbeats 4000000 in
set_option maxRecDepth 100000 in
theorem c_g_pointOf (l : Launch) (G : GT) (b : Nat) (σ : Mem) (f w : Nat) (hf : f < 4) (hw : w < 4) : KI l G b yX1_pointOf cX1_pointOf 6 0 σ [.int (nI f), .int (nI w)] (fun r σ' => r = nI (pt f w) ∧ σ' = σ) := by
  refine sg_metI [.int (nI f), .int (nI w)] (by decide) (Nat.le_of_ble_eq_true rfl) ?_
  intro vp ve vs vm args below meth vc ls Q hx hb hml hown hts hK hM hl hret
  have hl : lv_has ls 6 [(0, .int (nI f)), (1, .int (nI w))] := hl
  refine lv_iload_n hx hb dX1_pointOf_0 rfl (lv_at hl 0 rfl) ?_
  refine lv_iconst (v := nI 2) hx hb dX1_pointOf_1 (by decide) ?_
  refine sn_irem hx hb dX1_pointOf_2 (by omega) (by omega) (by omega) ?_
  refine lv_istore_n (lv' := [(2, .int (nI (f % 2))), (0, .int (nI f)), (1, .int (nI w))]) hx hb dX1_pointOf_3 rfl hl (by decide) rfl (fun ls hl => ?_)
  refine lv_iload_n hx hb dX1_pointOf_4 rfl (lv_at hl 1 rfl) ?_
  refine lv_iconst (v := nI 2) hx hb dX1_pointOf_5 (by decide) ?_
  refine sn_idiv hx hb dX1_pointOf_6 (by omega) (by omega) (by omega) ?_
  refine lv_iload_n hx hb dX1_pointOf_7 rfl (lv_at hl 0 rfl) ?_
  refine sn_iadd hx hb dX1_pointOf_8 ?_
  refine lv_iconst (v := nI 2) hx hb dX1_pointOf_9 (by decide) ?_
  refine sn_irem hx hb dX1_pointOf_10 (by omega) (by omega) (by omega) ?_
  refine lv_istore_n (lv' := [(3, .int (nI (((f / 2) + (f % 2)) % 2))), (2, .int (nI (f % 2))), (0, .int (nI f)), (1, .int (nI w))]) hx hb dX1_pointOf_11 rfl hl (by decide) rfl (fun ls hl => ?_)
  refine lv_iload_n hx hb dX1_pointOf_12 rfl (lv_at hl 0 rfl) ?_
  refine lv_iconst (v := nI 2) hx hb dX1_pointOf_13 (by decide) ?_
  refine lv_iload_n hx hb dX1_pointOf_14 rfl (lv_at hl 3 rfl) ?_
  refine lv_iconst (v := nI 2) hx hb dX1_pointOf_15 (by decide) ?_
  refine sn_idiv hx hb dX1_pointOf_16 (by omega) (by omega) (by omega) ?_
  refine sn_imul hx hb dX1_pointOf_17 ?_
  refine sn_iadd hx hb dX1_pointOf_18 ?_
  refine lv_istore (lv' := [(4, .int (nI ((((f / 2) + (f % 2)) % 2) + (2 * (w / 2))))), (3, .int (nI (((f / 2) + (f % 2)) % 2))), (2, .int (nI (f % 2))), (0, .int (nI f)), (1, .int (nI w))]) hx hb dX1_pointOf_19 hl (by decide) rfl (fun ls hl => ?_)
  refine lv_iload_n hx hb dX1_pointOf_21 rfl (lv_at hl 2 rfl) ?_
  refine lv_iconst (v := nI 2) hx hb dX1_pointOf_22 (by decide) ?_
  refine lv_iload_n hx hb dX1_pointOf_23 rfl (lv_at hl 4 rfl) ?_
  refine lv_iconst (v := nI 2) hx hb dX1_pointOf_24 (by decide) ?_
  refine sn_irem hx hb dX1_pointOf_25 (by omega) (by omega) (by omega) ?_
  refine sn_imul hx hb dX1_pointOf_26 ?_
  refine sn_iadd hx hb dX1_pointOf_27 ?_
  refine lv_istore (lv' := [(5, .int (nI ((f % 2) + (2 * (w % 2))))), (4, .int (nI ((((f / 2) + (f % 2)) % 2) + (2 * (w / 2))))), (3, .int (nI (((f / 2) + (f % 2)) % 2))), (2, .int (nI (f % 2))), (0, .int (nI f)), (1, .int (nI w))]) hx hb dX1_pointOf_28 hl (by decide) rfl (fun ls hl => ?_)
  refine lv_iconst (v := nI 4) hx hb dX1_pointOf_30 (by decide) ?_
  refine lv_iload hx hb dX1_pointOf_31 (lv_at hl 1 rfl) ?_
  refine sn_imul hx hb dX1_pointOf_33 ?_
  refine lv_iload hx hb dX1_pointOf_34 (lv_at hl 0 rfl) ?_
  refine sn_iadd hx hb dX1_pointOf_36 ?_
  exact hret _ _ _ _ _ _ dX1_pointOf_37 hM (⟨rfl, rfl⟩)
set_option maxHeartbeats 4000000 in
set_option maxRecDepth 100000 in
theorem c_g_turnOfFamily (l : Launch) (G : GT) (b : Nat) (σ : Mem) (f : Nat) (hf : f < 4) : KI l G b yX1_turnOfFamily cX1_turnOfFamily 1 1 σ [.int (nI f)] (fun r σ' => r = nI (tf f) ∧ σ' = σ) := by
  refine sg_metI [.int (nI f)] (by decide) (Nat.le_of_ble_eq_true rfl) ?_
  intro vp ve vs vm args below meth vc ls Q hx hb hml hown hts hK hM hl hret
  have hl : lv_has ls 1 [(0, .int (nI f))] := hl
  refine lv_iload_n hx hb dX1_turnOfFamily_0 rfl (lv_at hl 0 rfl) ?_
  refine lv_iconst (v := nI 0) hx hb dX1_turnOfFamily_1 (by decide) ?_
  refine sg_ci (sg_runS (d := 0) (As := [.int (nI f), .int (nI 0)]) (rest := []) hx hb hml hts hown hK hM (c_g_pointOf l G b σ f 0 (by first | omega | exact fam_lt _ _ _ _ _ | exact gf_lt _ | exact tf_lt _ | exact pt_lt (by first | omega | exact fam_lt _ _ _ _ _) (by omega) | exact tn_lt (by first | omega | exact pt_lt (by omega) (by omega))) (by first | omega | exact fam_lt _ _ _ _ _ | exact gf_lt _ | exact tf_lt _ | exact pt_lt (by first | omega | exact fam_lt _ _ _ _ _) (by omega) | exact tn_lt (by first | omega | exact pt_lt (by omega) (by omega)))) mi_X1_pointOf wl_X1_9 rfl hl.1 rfl (Nat.le_of_ble_eq_true rfl) dX1_turnOfFamily_2 ⟨by decide, by decide⟩ ⟨Nat.le_refl 0, Nat.le_refl 0⟩) hM sgA (fun r_2 σ_2 H locs hp_2 hM => ?_)
  obtain ⟨hr_2, hs_2⟩ := hp_2; subst r_2; subst σ_2
  refine sg_ci (sg_runS (d := 0) (As := [.int (nI (pt f 0))]) (rest := []) hx hb hml hts hown hK hM (c_g_turn l G b σ (pt f 0) (by first | omega | exact fam_lt _ _ _ _ _ | exact gf_lt _ | exact tf_lt _ | exact pt_lt (by first | omega | exact fam_lt _ _ _ _ _) (by omega) | exact tn_lt (by first | omega | exact pt_lt (by omega) (by omega)))) mi_X1_turnOf wl_X1_15 rfl hl.1 rfl (Nat.le_of_ble_eq_true rfl) dX1_turnOfFamily_5 ⟨by decide, by decide⟩ ⟨Nat.le_refl 0, Nat.le_refl 0⟩) hM sgA (fun r_5 σ_5 H locs hp_5 hM => ?_)
  obtain ⟨hr_5, hs_5⟩ := hp_5; subst r_5; subst σ_5
  refine sg_ci (sg_runS (d := 0) (As := [.int (nI (tn (pt f 0)))]) (rest := []) hx hb hml hts hown hK hM (c_g_familyOf l G b σ (tn (pt f 0)) (by first | omega | exact fam_lt _ _ _ _ _ | exact gf_lt _ | exact tf_lt _ | exact pt_lt (by first | omega | exact fam_lt _ _ _ _ _) (by omega) | exact tn_lt (by first | omega | exact pt_lt (by omega) (by omega)))) mi_X1_familyOf wl_X1_19 rfl hl.1 rfl (Nat.le_of_ble_eq_true rfl) dX1_turnOfFamily_8 ⟨by decide, by decide⟩ ⟨Nat.le_refl 0, Nat.le_refl 0⟩) hM sgA (fun r_8 σ_8 H locs hp_8 hM => ?_)
  obtain ⟨hr_8, hs_8⟩ := hp_8; subst r_8; subst σ_8
  exact hret _ _ _ _ _ _ dX1_turnOfFamily_11 hM (⟨rfl, rfl⟩)
set_option maxHeartbeats 4000000 in
set_option maxRecDepth 100000 in
theorem c_g_pointAt (l : Launch) (G : GT) (b : Nat) (σ : Mem) (x y : Int32) : KI l G b yX1_pointAt cX1_pointAt 4 2 σ [.int x, .int y] (fun r σ' => r = nI (pa x y 16) ∧ σ' = σ) := by
  refine sg_metI [.int x, .int y] (by decide) (Nat.le_of_ble_eq_true rfl) ?_
  intro vp ve vs vm args below meth vc ls Q hx hb hml hown hts hK hM hl hret
  have hl : lv_has ls 4 [(0, .int x), (1, .int y)] := hl
  refine lv_iconst (v := nI 0) hx hb dX1_pointAt_0 (by decide) ?_
  refine lv_istore_n (lv' := [(2, .int (nI 0)), (0, .int x), (1, .int y)]) hx hb dX1_pointAt_1 rfl hl (by decide) rfl (fun ls hl => ?_)
  refine lv_iconst (v := nI 1) hx hb dX1_pointAt_2 (by decide) ?_
  refine lv_istore_n (lv' := [(3, .int (nI 1)), (2, .int (nI 0)), (0, .int x), (1, .int y)]) hx hb dX1_pointAt_3 rfl hl (by decide) rfl (fun ls hl => ?_)
  have L4 : ∀ (fuel : Nat) (k : Nat) (v : Nat), (1 ≤ k) → (k ≤ 16) → (v = pa x y k) → (16 - k) < fuel → ∀ (H : Heap) (locs : List Loc) (ls : Array Slot), St G (Fr b) b σ vs H locs → lv_has ls 4 [(0, .int x), (1, .int y), (2, .int (nI v)), (3, .int (nI k))] → W vp l ve (RM 2) vs vm args below meth vc H locs 0 0 Q (F0 vm 4 ls []) := by
    intro fuel
    induction fuel with
    | zero => intro k v hk1 hk hv hF; exact absurd hF (Nat.not_lt_zero _)
    | succ fuel ih4 =>
      intro k v hk1 hk hv hF H locs ls hM hl
      refine lv_iload_n hx hb dX1_pointAt_4 rfl (lv_at hl 3 rfl) ?_
      refine lv_bipush (v := nI 16) hx hb dX1_pointAt_5 (by decide) ?_
      refine sn_icmp_ge (tgt := 33) hx hb dX1_pointAt_7 (by decide) (by omega) (by omega) (fun hlt => ?_) (fun hlt => ?_)
      · refine lv_iload_n hx hb dX1_pointAt_33 rfl (lv_at hl 2 rfl) ?_
        exact hret _ _ _ _ _ _ dX1_pointAt_34 hM (⟨by rw [hv, show k = 16 by omega], rfl⟩)
      · refine lv_iload_n hx hb dX1_pointAt_10 rfl (lv_at hl 3 rfl) ?_
        refine lv_iload_n hx hb dX1_pointAt_11 rfl (lv_at hl 0 rfl) ?_
        refine lv_iload_n hx hb dX1_pointAt_12 rfl (lv_at hl 1 rfl) ?_
        refine sg_ci (sg_runS (d := 1) (As := [.int (nI k), .int x, .int y]) (rest := []) hx hb hml hts hown hK hM (c_g_far l G b σ k x y (by first | omega | exact fam_lt _ _ _ _ _ | exact gf_lt _ | exact tf_lt _ | exact pt_lt (by first | omega | exact fam_lt _ _ _ _ _) (by omega) | exact tn_lt (by first | omega | exact pt_lt (by omega) (by omega)))) mi_X1_farFrom wl_X1_28 rfl hl.1 rfl (Nat.le_of_ble_eq_true rfl) dX1_pointAt_13 ⟨by decide, by decide⟩ ⟨Nat.le_refl 0, Nat.le_refl 0⟩) hM sgA (fun r_13 σ_13 H locs hp_13 hM => ?_)
        obtain ⟨hr_13, hs_13⟩ := hp_13; subst r_13; subst σ_13
        refine lv_iload_n hx hb dX1_pointAt_16 rfl (lv_at hl 2 rfl) ?_
        refine lv_iload_n hx hb dX1_pointAt_17 rfl (lv_at hl 0 rfl) ?_
        refine lv_iload_n hx hb dX1_pointAt_18 rfl (lv_at hl 1 rfl) ?_
        refine sg_ci (sg_runS (d := 1) (As := [.int (nI v), .int x, .int y]) (rest := [.int (far k x y)]) hx hb hml hts hown hK hM (c_g_far l G b σ v x y (by rw [hv]; exact pa_lt x y k hk)) mi_X1_farFrom wl_X1_28 rfl hl.1 rfl (Nat.le_of_ble_eq_true rfl) dX1_pointAt_19 ⟨by decide, by decide⟩ ⟨Nat.le_refl 0, Nat.le_refl 0⟩) hM sgA (fun r_19 σ_19 H locs hp_19 hM => ?_)
        obtain ⟨hr_19, hs_19⟩ := hp_19; subst r_19; subst σ_19
        refine lv_icmp_ge (tgt := 27) hx hb dX1_pointAt_22 (by decide) (fun c_22 => ?_) (fun c_22 => ?_)
        · refine lv_iinc (v := nI (k + 1)) (lv' := [(3, .int (nI (k + 1))), (0, .int x), (1, .int y), (2, .int (nI v))]) hx hb dX1_pointAt_27 hl (k := 3) rfl (q_inc _) (by decide) rfl (fun ls hl => ?_)
          refine lv_goto (tgt := 4) hx hb dX1_pointAt_30 (by decide) ?_
          exact ih4 (k + 1) v (by omega) (by omega) (by rw [pa_s, if_neg (Int32.not_lt.mpr (by rw [← hv]; exact c_22))]; exact hv) (by omega) _ _ _ hM (lv_sub hl [1, 2, 3, 0] rfl)
        · refine lv_iload_n hx hb dX1_pointAt_25 rfl (lv_at hl 3 rfl) ?_
          refine lv_istore_n (lv' := [(2, .int (nI k)), (0, .int x), (1, .int y), (3, .int (nI k))]) hx hb dX1_pointAt_26 rfl hl (by decide) rfl (fun ls hl => ?_)
          refine lv_iinc (v := nI (k + 1)) (lv' := [(3, .int (nI (k + 1))), (2, .int (nI k)), (0, .int x), (1, .int y)]) hx hb dX1_pointAt_27 hl (k := 3) rfl (q_inc _) (by decide) rfl (fun ls hl => ?_)
          refine lv_goto (tgt := 4) hx hb dX1_pointAt_30 (by decide) ?_
          exact ih4 (k + 1) k (by omega) (by omega) (by rw [pa_s, if_pos (Int32.not_le.mp (by rw [← hv]; exact c_22))]) (by omega) _ _ _ hM (lv_sub hl [2, 3, 1, 0] rfl)
  exact L4 (_ + 1) 1 0 (by decide) (by decide) ((pa_1 x y).symm) (Nat.lt_succ_self _) _ _ _ hM (lv_sub hl [2, 3, 1, 0] rfl)
set_option maxHeartbeats 4000000 in
set_option maxRecDepth 100000 in
theorem c_g_gapOf (l : Launch) (G : GT) (b : Nat) (σ : Mem) (f o : Nat) (hf : f < 4) (ho : o < 4) : KI l G b yX1_gapOf cX1_gapOf 7 2 σ [.int (nI f), .int (nI o)] (fun r σ' => r = nI (gap f o) ∧ σ' = σ) := by
  refine sg_metI [.int (nI f), .int (nI o)] (by decide) (Nat.le_of_ble_eq_true rfl) ?_
  intro vp ve vs vm args below meth vc ls Q hx hb hml hown hts hK hM hl hret
  have hl : lv_has ls 7 [(0, .int (nI f)), (1, .int (nI o))] := hl
  refine lv_ldc (v := nI 99999999) hx hb hown (hts (Cond.constant RX1 32 (nI 99999999)) wk_X1_32) dX1_gapOf_0 ?_
  refine lv_istore_n (lv' := [(2, .int (nI 99999999)), (0, .int (nI f)), (1, .int (nI o))]) hx hb dX1_gapOf_2 rfl hl (by decide) rfl (fun ls hl => ?_)
  refine lv_iconst (v := nI 0) hx hb dX1_gapOf_3 (by decide) ?_
  refine lv_istore_n (lv' := [(3, .int (nI 0)), (2, .int (nI 99999999)), (0, .int (nI f)), (1, .int (nI o))]) hx hb dX1_gapOf_4 rfl hl (by decide) rfl (fun ls hl => ?_)
  have L5 : ∀ (fuel : Nat) (a : Nat) (r : Int32), (a ≤ 4) → (r = gpC f o (4 * a)) → (4 - a) < fuel → ∀ (H : Heap) (locs : List Loc) (ls : Array Slot), St G (Fr b) b σ vs H locs → lv_has ls 7 [(0, .int (nI f)), (1, .int (nI o)), (2, .int r), (3, .int (nI a))] → W vp l ve (RM 2) vs vm args below meth vc H locs 0 0 Q (F0 vm 5 ls []) := by
    intro fuel
    induction fuel with
    | zero => intro a r ha hr hF; exact absurd hF (Nat.not_lt_zero _)
    | succ fuel ih5 =>
      intro a r ha hr hF H locs ls hM hl
      refine lv_iload_n hx hb dX1_gapOf_5 rfl (lv_at hl 3 rfl) ?_
      refine lv_iconst (v := nI 4) hx hb dX1_gapOf_6 (by decide) ?_
      refine sn_icmp_ge (tgt := 73) hx hb dX1_gapOf_7 (by decide) (by omega) (by omega) (fun hla => ?_) (fun hla => ?_)
      · refine lv_iload_n hx hb dX1_gapOf_73 rfl (lv_at hl 2 rfl) ?_
        exact hret _ _ _ _ _ _ dX1_gapOf_74 hM (⟨by rw [hr, show a = 4 by omega]; exact (gap_ok f hf o ho).1, rfl⟩)
      · refine lv_iconst (v := nI 0) hx hb dX1_gapOf_10 (by decide) ?_
        refine lv_istore (lv' := [(4, .int (nI 0)), (0, .int (nI f)), (1, .int (nI o)), (2, .int r), (3, .int (nI a))]) hx hb dX1_gapOf_11 hl (by decide) rfl (fun ls hl => ?_)
        have L13 : ∀ (fuel : Nat) (w : Nat) (r2 : Int32), (w ≤ 4) → (r2 = gpC f o (4 * a + w)) → (4 - w) < fuel → ∀ (H : Heap) (locs : List Loc) (ls : Array Slot), St G (Fr b) b σ vs H locs → lv_has ls 7 [(0, .int (nI f)), (1, .int (nI o)), (2, .int r2), (3, .int (nI a)), (4, .int (nI w))] → W vp l ve (RM 2) vs vm args below meth vc H locs 0 0 Q (F0 vm 13 ls []) := by
          intro fuel
          induction fuel with
          | zero => intro w r2 hw hr2 hF; exact absurd hF (Nat.not_lt_zero _)
          | succ fuel ih13 =>
            intro w r2 hw hr2 hF H locs ls hM hl
            refine lv_iload hx hb dX1_gapOf_13 (lv_at hl 4 rfl) ?_
            refine lv_iconst (v := nI 4) hx hb dX1_gapOf_15 (by decide) ?_
            refine sn_icmp_ge (tgt := 67) hx hb dX1_gapOf_16 (by decide) (by omega) (by omega) (fun hlt => ?_) (fun hlt => ?_)
            · refine lv_iinc (v := nI (a + 1)) (lv' := [(3, .int (nI (a + 1))), (0, .int (nI f)), (1, .int (nI o)), (2, .int r2), (4, .int (nI w))]) hx hb dX1_gapOf_67 hl (k := 3) rfl (q_inc _) (by decide) rfl (fun ls hl => ?_)
              refine lv_goto (tgt := 5) hx hb dX1_gapOf_70 (by decide) ?_
              exact ih5 (a + 1) r2 (by omega) (by rw [hr2, show w = 4 by omega]; rfl) (by omega) _ _ _ hM (lv_sub hl [1, 2, 3, 0] rfl)
            · refine lv_iload_n hx hb dX1_gapOf_19 rfl (lv_at hl 0 rfl) ?_
              refine lv_iload_n hx hb dX1_gapOf_20 rfl (lv_at hl 3 rfl) ?_
              refine sg_ci (sg_runS (d := 0) (As := [.int (nI f), .int (nI a)]) (rest := []) hx hb hml hts hown hK hM (c_g_pointOf l G b σ f a (by first | omega | exact fam_lt _ _ _ _ _ | exact gf_lt _ | exact tf_lt _ | exact pt_lt (by first | omega | exact fam_lt _ _ _ _ _) (by omega) | exact tn_lt (by first | omega | exact pt_lt (by omega) (by omega))) (by first | omega | exact fam_lt _ _ _ _ _ | exact gf_lt _ | exact tf_lt _ | exact pt_lt (by first | omega | exact fam_lt _ _ _ _ _) (by omega) | exact tn_lt (by first | omega | exact pt_lt (by omega) (by omega)))) mi_X1_pointOf wl_X1_9 rfl hl.1 rfl (Nat.le_of_ble_eq_true rfl) dX1_gapOf_21 ⟨by decide, by decide⟩ ⟨Nat.le_refl 0, Nat.le_refl 0⟩) hM sgA (fun r_21 σ_21 H locs hp_21 hM => ?_)
              obtain ⟨hr_21, hs_21⟩ := hp_21; subst r_21; subst σ_21
              refine lv_istore (lv' := [(5, .int (nI (pt f a))), (0, .int (nI f)), (1, .int (nI o)), (2, .int r2), (3, .int (nI a)), (4, .int (nI w))]) hx hb dX1_gapOf_24 hl (by decide) rfl (fun ls hl => ?_)
              refine lv_iload_n hx hb dX1_gapOf_26 rfl (lv_at hl 2 rfl) ?_
              refine lv_iload hx hb dX1_gapOf_27 (lv_at hl 5 rfl) ?_
              refine sg_ci (sg_runS (d := 0) (As := [.int (nI o), .int (nI w)]) (rest := []) hx hb hml hts hown hK hM (c_g_pointOf l G b σ o w (by first | omega | exact fam_lt _ _ _ _ _ | exact gf_lt _ | exact tf_lt _ | exact pt_lt (by first | omega | exact fam_lt _ _ _ _ _) (by omega) | exact tn_lt (by first | omega | exact pt_lt (by omega) (by omega))) (by first | omega | exact fam_lt _ _ _ _ _ | exact gf_lt _ | exact tf_lt _ | exact pt_lt (by first | omega | exact fam_lt _ _ _ _ _) (by omega) | exact tn_lt (by first | omega | exact pt_lt (by omega) (by omega)))) mi_X1_pointOf wl_X1_9 rfl hl.1 rfl (Nat.le_of_ble_eq_true rfl) dX1_gapOf_29 ⟨by decide, by decide⟩ ⟨Nat.le_refl 0, Nat.le_refl 0⟩) hM sgA (fun r_29 σ_29 H locs hp_29 hM => ?_)
              obtain ⟨hr_29, hs_29⟩ := hp_29; subst r_29; subst σ_29
              refine lv_istore (lv' := [(6, .int (nI (pt o w))), (5, .int (nI (pt f a))), (0, .int (nI f)), (1, .int (nI o)), (2, .int r2), (3, .int (nI a)), (4, .int (nI w))]) hx hb dX1_gapOf_32 hl (by decide) rfl (fun ls hl => ?_)
              refine lv_iload hx hb dX1_gapOf_34 (lv_at hl 1 rfl) ?_
              refine lv_iload hx hb dX1_gapOf_36 (lv_at hl 0 rfl) ?_
              refine sn_icmp_eq (tgt := 61) hx hb dX1_gapOf_38 (by decide) (by have := pt_lt hf hla; omega) (by have := pt_lt ho hlt; omega) (fun c_38 => ?_) (fun c_38 => ?_)
              · refine lv_iinc (v := nI (w + 1)) (lv' := [(4, .int (nI (w + 1))), (6, .int (nI (pt o w))), (5, .int (nI (pt f a))), (0, .int (nI f)), (1, .int (nI o)), (2, .int r2), (3, .int (nI a))]) hx hb dX1_gapOf_61 hl (k := 6) rfl (q_inc _) (by decide) rfl (fun ls hl => ?_)
                refine lv_goto (tgt := 13) hx hb dX1_gapOf_64 (by decide) ?_
                exact ih13 (w + 1) r2 (by omega) (by rw [show 4 * a + (w + 1) = 4 * a + w + 1 by omega, gpC_s hlt, if_pos c_38]; exact hr2) (by omega) _ _ _ hM (lv_sub hl [3, 4, 5, 6, 0] rfl)
              · refine lv_iload_n hx hb dX1_gapOf_41 rfl (lv_at hl 4 rfl) ?_
                refine lv_iload hx hb dX1_gapOf_42 (lv_at hl 1 rfl) ?_
                refine lv_iload hx hb dX1_gapOf_44 (lv_at hl 0 rfl) ?_
                refine sg_ci (sg_runS (d := 0) (As := [.int (nI (pt o w))]) (rest := [.int (nI (pt f a)), .int r2]) hx hb hml hts hown hK hM (c_g_xOf l G b σ (pt o w) (by first | omega | exact fam_lt _ _ _ _ _ | exact gf_lt _ | exact tf_lt _ | exact pt_lt (by first | omega | exact fam_lt _ _ _ _ _) (by omega) | exact tn_lt (by first | omega | exact pt_lt (by omega) (by omega)))) mi_X1_xOf wl_X1_22 rfl hl.1 rfl (Nat.le_of_ble_eq_true rfl) dX1_gapOf_46 ⟨by decide, by decide⟩ ⟨Nat.le_refl 0, Nat.le_refl 0⟩) hM sgA (fun r_46 σ_46 H locs hp_46 hM => ?_)
                obtain ⟨hr_46, hs_46⟩ := hp_46; subst r_46; subst σ_46
                refine lv_iload hx hb dX1_gapOf_49 (lv_at hl 0 rfl) ?_
                refine sg_ci (sg_runS (d := 0) (As := [.int (nI (pt o w))]) (rest := [.int (gx (pt o w)), .int (nI (pt f a)), .int r2]) hx hb hml hts hown hK hM (c_g_yOf l G b σ (pt o w) (by first | omega | exact fam_lt _ _ _ _ _ | exact gf_lt _ | exact tf_lt _ | exact pt_lt (by first | omega | exact fam_lt _ _ _ _ _) (by omega) | exact tn_lt (by first | omega | exact pt_lt (by omega) (by omega)))) mi_X1_yOf wl_X1_25 rfl hl.1 rfl (Nat.le_of_ble_eq_true rfl) dX1_gapOf_51 ⟨by decide, by decide⟩ ⟨Nat.le_refl 0, Nat.le_refl 0⟩) hM sgA (fun r_51 σ_51 H locs hp_51 hM => ?_)
                obtain ⟨hr_51, hs_51⟩ := hp_51; subst r_51; subst σ_51
                refine sg_ci (sg_runS (d := 1) (As := [.int (nI (pt f a)), .int (gx (pt o w)), .int (gy (pt o w))]) (rest := [.int r2]) hx hb hml hts hown hK hM (c_g_far l G b σ (pt f a) (gx (pt o w)) (gy (pt o w)) (by first | omega | exact fam_lt _ _ _ _ _ | exact gf_lt _ | exact tf_lt _ | exact pt_lt (by first | omega | exact fam_lt _ _ _ _ _) (by omega) | exact tn_lt (by first | omega | exact pt_lt (by omega) (by omega)))) mi_X1_farFrom wl_X1_28 rfl hl.1 rfl (Nat.le_of_ble_eq_true rfl) dX1_gapOf_54 ⟨by decide, by decide⟩ ⟨Nat.le_refl 0, Nat.le_refl 0⟩) hM sgA (fun r_54 σ_54 H locs hp_54 hM => ?_)
                obtain ⟨hr_54, hs_54⟩ := hp_54; subst r_54; subst σ_54
                refine va_mmin hx hb (by rw [hml]; exact hl.1.symm) hown (hts _ wl_X1_33) (hts _ ws_J9_min_7cf53) (hts _ wi_RJ9) (hts _ wc_J9_min_7cf53) (by decide) (Nat.le_of_ble_eq_true rfl) (Nat.le_refl 0) (Nat.le_refl 0) dX1_gapOf_57 ?_
                refine lv_istore_n (lv' := [(2, .int (if far (pt f a) (gx (pt o w)) (gy (pt o w)) < r2 then far (pt f a) (gx (pt o w)) (gy (pt o w)) else r2)), (6, .int (nI (pt o w))), (5, .int (nI (pt f a))), (0, .int (nI f)), (1, .int (nI o)), (3, .int (nI a)), (4, .int (nI w))]) hx hb dX1_gapOf_60 rfl hl (by decide) rfl (fun ls hl => ?_)
                refine lv_iinc (v := nI (w + 1)) (lv' := [(4, .int (nI (w + 1))), (2, .int (if far (pt f a) (gx (pt o w)) (gy (pt o w)) < r2 then far (pt f a) (gx (pt o w)) (gy (pt o w)) else r2)), (6, .int (nI (pt o w))), (5, .int (nI (pt f a))), (0, .int (nI f)), (1, .int (nI o)), (3, .int (nI a))]) hx hb dX1_gapOf_61 hl (k := 6) rfl (q_inc _) (by decide) rfl (fun ls hl => ?_)
                refine lv_goto (tgt := 13) hx hb dX1_gapOf_64 (by decide) ?_
                exact ih13 (w + 1) (if far (pt f a) (gx (pt o w)) (gy (pt o w)) < r2 then far (pt f a) (gx (pt o w)) (gy (pt o w)) else r2) (by omega) (by rw [show 4 * a + (w + 1) = 4 * a + w + 1 by omega, gpC_s hlt, if_neg c_38, ← hr2]) (by omega) _ _ _ hM (lv_sub hl [4, 5, 1, 6, 0] rfl)
        exact L13 (_ + 1) 0 r (by omega) hr (Nat.lt_succ_self _) _ _ _ hM (lv_sub hl [1, 2, 3, 4, 0] rfl)
  exact L5 (_ + 1) 0 (nI 99999999) (by omega) rfl (Nat.lt_succ_self _) _ _ _ hM (lv_sub hl [2, 3, 1, 0] rfl)
end
section
theorem kd_ne {a b x y : Nat} (h1 : kd a = x) (h2 : kd b = y) (h : x ≠ y) : a ≠ b := fun e => h (by rw [← h1, ← h2, e])
theorem mcp_o {σ : Mem} {ks kt n j : Nat} (h : j ≠ kt) : mcp σ ks kt n j = σ j := by unfold mcp; rw [if_neg h]
theorem mcp_s {σ : Mem} {ks kt n j : Nat} (h : j < n) : mcp σ ks kt n kt j = σ ks j := by
  unfold mcp
  rw [if_pos rfl]
  show (if 0 ≤ j ∧ j < 0 + n then σ ks (0 + (j - 0)) else σ kt j) = σ ks j
  rw [if_pos ⟨Nat.zero_le _, by omega⟩, Nat.zero_add, Nat.sub_zero]
theorem CodeAt.keep {σ σ' : Mem} {cd m g h : Nat} (hc : CodeAt σ cd m g h) (e : σ' cd = σ cd) : CodeAt σ' cd m g h := by
  unfold CodeAt
  rw [e]
  exact hc
theorem CodeAt.m {σ : Mem} {cd m g h : Nat} (hc : CodeAt σ cd m g h) : m ≤ 3 := hc.2.2.2.1.2
theorem sh_ok {u m : Nat} (hu : u < 2) (hm : m ≤ 3) : u * 2 ^ m < 2 ^ 32 := by
  have := p2_le hm
  rcases (show u = 0 ∨ u = 1 by omega) with rfl | rfl <;> omega
/-- the state behind a row's steps, as it lies -/
def lastV (σ : Mem) (r n : Nat) : Int32 := if n = 0 then nI 0 else σ (r + 4) (n - 1)
/-- a part of a row's step k -/
def partV (σ : Mem) (r k : Nat) (what : Int32) : Int32 := if what = nI 0 then σ (r + 1) k else if what = nI 1 then σ (r + 2) k else if what = nI 2 then σ (r + 3) k else if what = nI 3 then σ (r + 4) k else (-1000000002)
theorem partV_out {σ : Mem} {r k : Nat} {what : Int32} (h : what.toInt < 0 ∨ ((3 : Nat) : Int) < what.toInt) : partV σ r k what = (-1000000002) := by
  unfold partV
  rw [if_neg (fun q => by rw [q] at h; revert h; decide), if_neg (fun q => by rw [q] at h; revert h; decide), if_neg (fun q => by rw [q] at h; revert h; decide), if_neg (fun q => by rw [q] at h; revert h; decide)]
/-- a step more in a row -/
def rowApp (σ : Mem) (r n u w q s : Nat) : Mem := m2 (m2 (m2 (m2 (m2 σ (r + 1) n (nI u)) (r + 2) n (nI w)) (r + 3) n (nI q)) (r + 4) n (nI s)) r 0 (nI (n + 1))
/-- a place more -/
def plApp (σ : Mem) (r n : Nat) (x y : Int32) : Mem := m2 (m2 (m2 σ (r + 1) n x) (r + 2) n y) r 0 (nI (n + 1))
def rowCp (σ : Mem) (r o n : Nat) : Mem := mcp (mcp (mcp (mcp (m2 σ r 0 (nI n)) (o + 1) (r + 1) n) (o + 2) (r + 2) n) (o + 3) (r + 3) n) (o + 4) (r + 4) n
def plCp (σ : Mem) (r o n : Nat) : Mem := mcp (mcp (m2 σ r 0 (nI n)) (o + 1) (r + 1) n) (o + 2) (r + 2) n
def codeSet (σ : Mem) (cd : Nat) (x y z : Int32) : Mem := m2 (m2 (m2 σ cd 0 x) cd 1 y) cd 2 z
def moClear (σ : Mem) (mo : Nat) : Mem := m2 (m2 σ (mo + 2) 0 (nI 0)) (mo + 7) 0 (nI 0)
def moCp (σ : Mem) (mo oo n k : Nat) (x y z e : Int32) : Mem := m2 (plCp (rowCp (codeSet σ (mo + 1) x y z) (mo + 2) (oo + 2) n) (mo + 7) (oo + 7) k) mo 3 e
/-- blocks of Moments are alike or apart -/
theorem moApart : ∀ a, a < 143 → ∀ b, b < 143 → (a + 10 ≤ b ∨ b + 10 ≤ a ∨ kd a ≠ 1 ∨ kd b ≠ 1 ∨ a = b) := by decide +kernel
theorem mo_ap {a b : Nat} (ha : kd a = 1) (hb : kd b = 1) (h : a ≠ b) : a + 10 ≤ b ∨ b + 10 ≤ a := by
  rcases moApart a (kd_lt ha (by decide)) b (kd_lt hb (by decide)) with q | q | q | q | q
  · exact Or.inl q
  · exact Or.inr q
  · exact absurd ha q
  · exact absurd hb q
  · exact absurd q h
end
section
set_option maxHeartbeats 4000000 in
set_option maxRecDepth 100000 in
theorem c_Code_set (l : Launch) (G : GT) (b : Nat) (σ : Mem) (cd : Nat) (x y z : Int32) (hcd : kd cd = 2) : KV l G b yX0_set cX0_set 4 0 σ [.ref (b + cd), .int x, .int y, .int z] (fun σ' => σ' = codeSet σ cd x y z) := by
  refine sg_metV [.ref (b + cd), .int x, .int y, .int z] (by decide) (Nat.le_of_ble_eq_true rfl) ?_
  intro vp ve vs vm args below meth vc ls Q hx hb hml hown hts hK hM hl hret
  have hl : lv_has ls 4 [(0, .ref (b + cd)), (1, .int x), (2, .int y), (3, .int z)] := hl
  refine lv_aload_n hx hb dX0_set_0 rfl (lv_at hl 0 rfl) ?_
  refine lv_iload_n hx hb dX0_set_1 rfl (lv_at hl 1 rfl) ?_
  refine sg_put (v := x) (ty := .int) hx hb hts hown hK hM sgA (sh2 hcd) (kd_lt hcd (by decide)) rfl inX0 tyX0 tyX0_ok nmX0 0 (by decide) wf_X0_13 rfl (by decide +kernel) rfl rfl (Nat.le_of_ble_eq_true rfl) (by rw [sh2 hcd]; rfl) dX0_set_2 (fun H locs hM => ?_)
  refine lv_aload_n hx hb dX0_set_5 rfl (lv_at hl 0 rfl) ?_
  refine lv_iload_n hx hb dX0_set_6 rfl (lv_at hl 2 rfl) ?_
  refine sg_put (v := y) (ty := .int) hx hb hts hown hK hM sgA (sh2 hcd) (kd_lt hcd (by decide)) rfl inX0 tyX0 tyX0_ok nmX0 1 (by decide) wf_X0_17 rfl (by decide +kernel) rfl rfl (Nat.le_of_ble_eq_true rfl) (by rw [sh2 hcd]; rfl) dX0_set_7 (fun H locs hM => ?_)
  refine lv_aload_n hx hb dX0_set_10 rfl (lv_at hl 0 rfl) ?_
  refine lv_iload_n hx hb dX0_set_11 rfl (lv_at hl 3 rfl) ?_
  refine sg_put (v := z) (ty := .int) hx hb hts hown hK hM sgA (sh2 hcd) (kd_lt hcd (by decide)) rfl inX0 tyX0 tyX0_ok nmX0 2 (by decide) wf_X0_20 rfl (by decide +kernel) rfl rfl (Nat.le_of_ble_eq_true rfl) (by rw [sh2 hcd]; rfl) dX0_set_12 (fun H locs hM => ?_)
  exact hret _ _ _ _ _ dX0_set_15 hM (rfl)
set_option maxHeartbeats 4000000 in
set_option maxRecDepth 100000 in
theorem c_Code_states (l : Launch) (G : GT) (b : Nat) (σ : Mem) (cd m g h : Nat) (hcd : kd cd = 2) (hc : CodeAt σ cd m g h) : KI l G b yX0_states cX0_states 1 0 σ [.ref (b + cd)] (fun r σ' => r = nI (2 ^ m) ∧ σ' = σ) := by
  refine sg_metI [.ref (b + cd)] (by decide) (Nat.le_of_ble_eq_true rfl) ?_
  intro vp ve vs vm args below meth vc ls Q hx hb hml hown hts hK hM hl hret
  have hl : lv_has ls 1 [(0, .ref (b + cd))] := hl
  refine lv_iconst (v := nI 1) hx hb dX0_states_0 (by decide) ?_
  refine lv_aload_n hx hb dX0_states_1 rfl (lv_at hl 0 rfl) ?_
  refine sg_get (v := .int (σ cd 0)) hx hb hts hown hK hM (sh2 hcd) (kd_lt hcd (by decide)) rfl inX0 0 (by decide) wf_X0_13 rfl dX0_states_2 ?_
  refine sn_top (y := nI m) (hc.1) ?_
  refine sn_ishl hx hb dX0_states_5 (by have := hc.m; omega) (by have := p2_le hc.m; omega) ?_
  refine sn_top (y := nI (2 ^ m)) (by rw [Nat.one_mul]) ?_
  exact hret _ _ _ _ _ _ dX0_states_6 hM (⟨rfl, rfl⟩)
set_option maxHeartbeats 4000000 in
set_option maxRecDepth 100000 in
theorem c_Code_reg (l : Launch) (G : GT) (b : Nat) (σ : Mem) (cd m g h s u : Nat) (hcd : kd cd = 2) (hc : CodeAt σ cd m g h) (hu : u < 2) (hs : s < 2 ^ m) : KI l G b yX0_registerOf cX0_registerOf 3 0 σ [.ref (b + cd), .int (nI s), .int (nI u)] (fun r σ' => r = nI (rg m s u) ∧ σ' = σ) := by
  refine sg_metI [.ref (b + cd), .int (nI s), .int (nI u)] (by decide) (Nat.le_of_ble_eq_true rfl) ?_
  intro vp ve vs vm args below meth vc ls Q hx hb hml hown hts hK hM hl hret
  have hl : lv_has ls 3 [(0, .ref (b + cd)), (1, .int (nI s)), (2, .int (nI u))] := hl
  refine lv_iload_n hx hb dX0_registerOf_0 rfl (lv_at hl 2 rfl) ?_
  refine lv_aload_n hx hb dX0_registerOf_1 rfl (lv_at hl 0 rfl) ?_
  refine sg_get (v := .int (σ cd 0)) hx hb hts hown hK hM (sh2 hcd) (kd_lt hcd (by decide)) rfl inX0 0 (by decide) wf_X0_13 rfl dX0_registerOf_2 ?_
  refine sn_top (y := nI m) (hc.1) ?_
  refine sn_ishl hx hb dX0_registerOf_5 (by have := hc.m; omega) (sh_ok hu hc.m) ?_
  refine lv_iload_n hx hb dX0_registerOf_6 rfl (lv_at hl 1 rfl) ?_
  refine sn_iadd hx hb dX0_registerOf_7 ?_
  exact hret _ _ _ _ _ _ dX0_registerOf_8 hM (⟨rfl, rfl⟩)
set_option maxHeartbeats 4000000 in
set_option maxRecDepth 100000 in
theorem c_Code_next (l : Launch) (G : GT) (b : Nat) (σ : Mem) (cd m g h s u : Nat) (hcd : kd cd = 2) (hc : CodeAt σ cd m g h) (hu : u < 2) (hs : s < 2 ^ m) : KI l G b yX0_stateAfter cX0_stateAfter 3 1 σ [.ref (b + cd), .int (nI s), .int (nI u)] (fun r σ' => r = nI (nx m s u) ∧ σ' = σ) := by
  refine sg_metI [.ref (b + cd), .int (nI s), .int (nI u)] (by decide) (Nat.le_of_ble_eq_true rfl) ?_
  intro vp ve vs vm args below meth vc ls Q hx hb hml hown hts hK hM hl hret
  have hl : lv_has ls 3 [(0, .ref (b + cd)), (1, .int (nI s)), (2, .int (nI u))] := hl
  refine lv_aload_n hx hb dX0_stateAfter_0 rfl (lv_at hl 0 rfl) ?_
  refine lv_iload_n hx hb dX0_stateAfter_1 rfl (lv_at hl 1 rfl) ?_
  refine lv_iload_n hx hb dX0_stateAfter_2 rfl (lv_at hl 2 rfl) ?_
  refine sg_ci (sg_runV (d := 0) (As := [.int (nI s), .int (nI u)]) (rest := []) hx hb hml hts hown hK hM (c_Code_reg l G b σ cd m g h s u hcd hc hu hs) mi_X0_registerOf wl_X0_23 (sh2 hcd) (kd_lt hcd (by decide)) rfl rfl rfl hl.1 rfl (Nat.le_of_ble_eq_true rfl) dX0_stateAfter_3 ⟨by decide, by decide⟩ ⟨Nat.le_refl 0, Nat.le_refl 0⟩) hM sgA (fun r_3 σ_3 H locs hp_3 hM => ?_)
  obtain ⟨hr_3, hs_3⟩ := hp_3; subst r_3; subst σ_3
  refine lv_iconst (v := nI 2) hx hb dX0_stateAfter_6 (by decide) ?_
  refine sn_idiv hx hb dX0_stateAfter_7 (by have := rg_16 hc.m hu hs; omega) (by omega) (by omega) ?_
  exact hret _ _ _ _ _ _ dX0_stateAfter_8 hM (⟨rfl, rfl⟩)
set_option maxHeartbeats 4000000 in
set_option maxRecDepth 100000 in
theorem c_Code_fam (l : Launch) (G : GT) (b : Nat) (σ : Mem) (cd m g h s u : Nat) (hcd : kd cd = 2) (hc : CodeAt σ cd m g h) (hu : u < 2) (hs : s < 2 ^ m) : KI l G b yX0_familyFrom cX0_familyFrom 4 1 σ [.ref (b + cd), .int (nI s), .int (nI u)] (fun r σ' => r = nI (fam m g h s u) ∧ σ' = σ) := by
  refine sg_metI [.ref (b + cd), .int (nI s), .int (nI u)] (by decide) (Nat.le_of_ble_eq_true rfl) ?_
  intro vp ve vs vm args below meth vc ls Q hx hb hml hown hts hK hM hl hret
  have hl : lv_has ls 4 [(0, .ref (b + cd)), (1, .int (nI s)), (2, .int (nI u))] := hl
  refine lv_aload_n hx hb dX0_familyFrom_0 rfl (lv_at hl 0 rfl) ?_
  refine lv_iload_n hx hb dX0_familyFrom_1 rfl (lv_at hl 1 rfl) ?_
  refine lv_iload_n hx hb dX0_familyFrom_2 rfl (lv_at hl 2 rfl) ?_
  refine sg_ci (sg_runV (d := 0) (As := [.int (nI s), .int (nI u)]) (rest := []) hx hb hml hts hown hK hM (c_Code_reg l G b σ cd m g h s u hcd hc hu hs) mi_X0_registerOf wl_X0_23 (sh2 hcd) (kd_lt hcd (by decide)) rfl rfl rfl hl.1 rfl (Nat.le_of_ble_eq_true rfl) dX0_familyFrom_3 ⟨by decide, by decide⟩ ⟨Nat.le_refl 0, Nat.le_refl 0⟩) hM sgA (fun r_3 σ_3 H locs hp_3 hM => ?_)
  obtain ⟨hr_3, hs_3⟩ := hp_3; subst r_3; subst σ_3
  refine lv_istore_n (lv' := [(3, .int (nI (rg m s u))), (0, .ref (b + cd)), (1, .int (nI s)), (2, .int (nI u))]) hx hb dX0_familyFrom_6 rfl hl (by decide) rfl (fun ls hl => ?_)
  refine lv_iconst (v := nI 2) hx hb dX0_familyFrom_7 (by decide) ?_
  refine lv_iload_n hx hb dX0_familyFrom_8 rfl (lv_at hl 0 rfl) ?_
  refine lv_aload_n hx hb dX0_familyFrom_9 rfl (lv_at hl 1 rfl) ?_
  refine sg_get (v := .int (σ cd 1)) hx hb hts hown hK hM (sh2 hcd) (kd_lt hcd (by decide)) rfl inX0 1 (by decide) wf_X0_17 rfl dX0_familyFrom_10 ?_
  refine sn_top (y := nI g) (hc.2.1) ?_
  refine sn_iand hx hb dX0_familyFrom_13 ?_
  refine sg_ci (sg_runS (d := 0) (As := [.int (nI ((rg m s u) &&& g))]) (rest := [.int (nI 2)]) hx hb hml hts hown hK hM (c_bitCount l G b σ (rg m s u &&& g) (and_16 (rg_16 hc.m hu hs))) mi_J6_bitCount_0f7a4 wl_X0_27 rfl hl.1 rfl (Nat.le_of_ble_eq_true rfl) dX0_familyFrom_14 ⟨by decide, by decide⟩ ⟨Nat.le_refl 0, Nat.le_refl 0⟩) hM sgA (fun r_14 σ_14 H locs hp_14 hM => ?_)
  obtain ⟨hr_14, hs_14⟩ := hp_14; subst r_14; subst σ_14
  refine lv_iconst (v := nI 2) hx hb dX0_familyFrom_17 (by decide) ?_
  refine sn_irem hx hb dX0_familyFrom_18 (by unfold pc1; omega) (by omega) (by omega) ?_
  refine sn_imul hx hb dX0_familyFrom_19 ?_
  refine lv_iload_n hx hb dX0_familyFrom_20 rfl (lv_at hl 0 rfl) ?_
  refine lv_aload_n hx hb dX0_familyFrom_21 rfl (lv_at hl 1 rfl) ?_
  refine sg_get (v := .int (σ cd 2)) hx hb hts hown hK hM (sh2 hcd) (kd_lt hcd (by decide)) rfl inX0 2 (by decide) wf_X0_20 rfl dX0_familyFrom_22 ?_
  refine sn_top (y := nI h) (hc.2.2.1) ?_
  refine sn_iand hx hb dX0_familyFrom_25 ?_
  refine sg_ci (sg_runS (d := 0) (As := [.int (nI ((rg m s u) &&& h))]) (rest := [.int (nI (2 * ((pc1 (rg m s u &&& g)) % 2)))]) hx hb hml hts hown hK hM (c_bitCount l G b σ (rg m s u &&& h) (and_16 (rg_16 hc.m hu hs))) mi_J6_bitCount_0f7a4 wl_X0_27 rfl hl.1 rfl (Nat.le_of_ble_eq_true rfl) dX0_familyFrom_26 ⟨by decide, by decide⟩ ⟨Nat.le_refl 0, Nat.le_refl 0⟩) hM sgA (fun r_26 σ_26 H locs hp_26 hM => ?_)
  obtain ⟨hr_26, hs_26⟩ := hp_26; subst r_26; subst σ_26
  refine lv_iconst (v := nI 2) hx hb dX0_familyFrom_29 (by decide) ?_
  refine sn_irem hx hb dX0_familyFrom_30 (by unfold pc1; omega) (by omega) (by omega) ?_
  refine sn_iadd hx hb dX0_familyFrom_31 ?_
  exact hret _ _ _ _ _ _ dX0_familyFrom_32 hM (⟨rfl, rfl⟩)
set_option maxHeartbeats 4000000 in
set_option maxRecDepth 100000 in
theorem c_Row_isFull (l : Launch) (G : GT) (b : Nat) (σ : Mem) (r n : Nat) (hr : kd r = 3) (h0 : σ r 0 = nI n) (hn : n ≤ 24) : KZ l G b yX7_isFull cX7_isFull 1 0 σ [.ref (b + r)] (fun r σ' => r = bz (decide (24 ≤ n)) ∧ σ' = σ) := by
  refine sg_metZ [.ref (b + r)] (by decide) (Nat.le_of_ble_eq_true rfl) ?_
  intro vp ve vs vm args below meth vc ls Q hx hb hml hown hts hK hM hl hret
  have hl : lv_has ls 1 [(0, .ref (b + r))] := hl
  refine lv_aload_n hx hb dX7_isFull_0 rfl (lv_at hl 0 rfl) ?_
  refine sg_get (v := .int (σ r 0)) hx hb hts hown hK hM (sh3 hr) (kd_lt hr (by decide)) rfl inX7 0 (by decide) wf_X7_24 rfl dX7_isFull_1 ?_
  refine sn_top (y := nI n) (h0) ?_
  refine lv_bipush (v := nI 24) hx hb dX7_isFull_4 (by decide) ?_
  refine sn_icmp_lt (tgt := 13) hx hb dX7_isFull_6 (by decide) (by omega) (by omega) (fun c_6 => ?_) (fun c_6 => ?_)
  · refine lv_iconst (v := nI 0) hx hb dX7_isFull_13 (by decide) ?_
    exact hret _ _ (decide (24 ≤ n)) _ _ _ _ dX7_isFull_14 hM (by first | rw [decide_eq_true (by omega)]; rfl | rw [decide_eq_false (by omega)]; rfl) (⟨rfl, rfl⟩)
  · refine lv_iconst (v := nI 1) hx hb dX7_isFull_9 (by decide) ?_
    refine lv_goto (tgt := 14) hx hb dX7_isFull_10 (by decide) ?_
    exact hret _ _ (decide (24 ≤ n)) _ _ _ _ dX7_isFull_14 hM (by first | rw [decide_eq_true (by omega)]; rfl | rw [decide_eq_false (by omega)]; rfl) (⟨rfl, rfl⟩)
set_option maxHeartbeats 4000000 in
set_option maxRecDepth 100000 in
theorem c_Pl_isFull (l : Launch) (G : GT) (b : Nat) (σ : Mem) (r n : Nat) (hr : kd r = 5) (h0 : σ r 0 = nI n) (hn : n ≤ 24) : KZ l G b yX6_isFull cX6_isFull 1 0 σ [.ref (b + r)] (fun r σ' => r = bz (decide (24 ≤ n)) ∧ σ' = σ) := by
  refine sg_metZ [.ref (b + r)] (by decide) (Nat.le_of_ble_eq_true rfl) ?_
  intro vp ve vs vm args below meth vc ls Q hx hb hml hown hts hK hM hl hret
  have hl : lv_has ls 1 [(0, .ref (b + r))] := hl
  refine lv_aload_n hx hb dX6_isFull_0 rfl (lv_at hl 0 rfl) ?_
  refine sg_get (v := .int (σ r 0)) hx hb hts hown hK hM (sh5 hr) (kd_lt hr (by decide)) rfl inX6 0 (by decide) wf_X6_18 rfl dX6_isFull_1 ?_
  refine sn_top (y := nI n) (h0) ?_
  refine lv_bipush (v := nI 24) hx hb dX6_isFull_4 (by decide) ?_
  refine sn_icmp_lt (tgt := 13) hx hb dX6_isFull_6 (by decide) (by omega) (by omega) (fun c_6 => ?_) (fun c_6 => ?_)
  · refine lv_iconst (v := nI 0) hx hb dX6_isFull_13 (by decide) ?_
    exact hret _ _ (decide (24 ≤ n)) _ _ _ _ dX6_isFull_14 hM (by first | rw [decide_eq_true (by omega)]; rfl | rw [decide_eq_false (by omega)]; rfl) (⟨rfl, rfl⟩)
  · refine lv_iconst (v := nI 1) hx hb dX6_isFull_9 (by decide) ?_
    refine lv_goto (tgt := 14) hx hb dX6_isFull_10 (by decide) ?_
    exact hret _ _ (decide (24 ≤ n)) _ _ _ _ dX6_isFull_14 hM (by first | rw [decide_eq_true (by omega)]; rfl | rw [decide_eq_false (by omega)]; rfl) (⟨rfl, rfl⟩)
set_option maxHeartbeats 4000000 in
set_option maxRecDepth 100000 in
theorem c_Row_last (l : Launch) (G : GT) (b : Nat) (σ : Mem) (r n : Nat) (hr : kd r = 3) (h0 : σ r 0 = nI n) (hn : n ≤ 24) : KI l G b yX7_lastState cX7_lastState 1 0 σ [.ref (b + r)] (fun r' σ' => r' = lastV σ r n ∧ σ' = σ) := by
  refine sg_metI [.ref (b + r)] (by decide) (Nat.le_of_ble_eq_true rfl) ?_
  intro vp ve vs vm args below meth vc ls Q hx hb hml hown hts hK hM hl hret
  have hl : lv_has ls 1 [(0, .ref (b + r))] := hl
  refine lv_aload_n hx hb dX7_lastState_0 rfl (lv_at hl 0 rfl) ?_
  refine sg_get (v := .int (σ r 0)) hx hb hts hown hK hM (sh3 hr) (kd_lt hr (by decide)) rfl inX7 0 (by decide) wf_X7_24 rfl dX7_lastState_1 ?_
  refine sn_top (y := nI n) (h0) ?_
  refine sn_if_ne (tgt := 11) hx hb dX7_lastState_4 (by decide) (by omega) (fun c_4 => ?_) (fun c_4 => ?_)
  · refine lv_aload_n hx hb dX7_lastState_11 rfl (lv_at hl 0 rfl) ?_
    refine sg_get (v := .ref (b + (r + 4))) hx hb hts hown hK hM (sh3 hr) (kd_lt hr (by decide)) rfl inX7 4 (by decide) wf_X7_21 rfl dX7_lastState_12 ?_
    refine lv_aload_n hx hb dX7_lastState_15 rfl (lv_at hl 0 rfl) ?_
    refine sg_get (v := .int (σ r 0)) hx hb hts hown hK hM (sh3 hr) (kd_lt hr (by decide)) rfl inX7 0 (by decide) wf_X7_24 rfl dX7_lastState_16 ?_
    refine sn_top (y := nI n) (h0) ?_
    refine lv_iconst (v := nI 1) hx hb dX7_lastState_19 (by decide) ?_
    refine sn_isub hx hb dX7_lastState_20 (by omega) ?_
    refine sg_iald hx hb hK hM (sh4 (kR4 hr)) (kd_lt (kR4 hr) (by decide)) (i := n - 1) (by omega) (by decide) dX7_lastState_21 ?_
    exact hret _ _ _ _ _ _ dX7_lastState_22 hM (⟨by unfold lastV; first | rw [if_pos (by omega)] | rw [if_neg (by omega)], rfl⟩)
  · refine lv_iconst (v := nI 0) hx hb dX7_lastState_7 (by decide) ?_
    refine lv_goto (tgt := 22) hx hb dX7_lastState_8 (by decide) ?_
    exact hret _ _ _ _ _ _ dX7_lastState_22 hM (⟨by unfold lastV; first | rw [if_pos (by omega)] | rw [if_neg (by omega)], rfl⟩)
set_option maxHeartbeats 4000000 in
set_option maxRecDepth 100000 in
theorem c_Row_part (l : Launch) (G : GT) (b : Nat) (σ : Mem) (r k : Nat) (what : Int32) (hr : kd r = 3) (hk : k < 24) : KI l G b yX7_partOf cX7_partOf 3 0 σ [.ref (b + r), .int (nI k), .int what] (fun r' σ' => r' = partV σ r k what ∧ σ' = σ) := by
  refine sg_metI [.ref (b + r), .int (nI k), .int what] (by decide) (Nat.le_of_ble_eq_true rfl) ?_
  intro vp ve vs vm args below meth vc ls Q hx hb hml hown hts hK hM hl hret
  have hl : lv_has ls 3 [(0, .ref (b + r)), (1, .int (nI k)), (2, .int what)] := hl
  refine lv_iload_n hx hb dX7_partOf_0 rfl (lv_at hl 2 rfl) ?_
  rcases swc what 3 with c_1 | ⟨j, hj, c_1⟩
  · refine lv_tableOut (tgt := 60) hx hb dX7_partOf_1 c_1 (by decide) ?_
    refine lv_ldc (v := (-1000000002)) hx hb hown (hts (Cond.constant RX7 51 ((-1000000002))) wk_X7_51) dX7_partOf_60 ?_
    exact hret _ _ _ _ _ _ dX7_partOf_62 hM (⟨(partV_out c_1).symm, rfl⟩)
  · match j, hj with
    | 0, _ =>
      subst c_1
      refine lv_tableIn (tgt := 32) (off := 31) hx hb dX7_partOf_1 (by decide) (by decide) (by decide) (by decide) ?_
      have hl : lv_has ls 3 [(0, .ref (b + r)), (1, .int (nI k)), (2, .int (nI 0))] := hl
      refine lv_aload_n hx hb dX7_partOf_32 rfl (lv_at hl 0 rfl) ?_
      refine sg_get (v := .ref (b + (r + 1))) hx hb hts hown hK hM (sh3 hr) (kd_lt hr (by decide)) rfl inX7 1 (by decide) wf_X7_9 rfl dX7_partOf_33 ?_
      refine lv_iload_n hx hb dX7_partOf_36 rfl (lv_at hl 1 rfl) ?_
      refine sg_iald hx hb hK hM (sh4 (kR1 hr)) (kd_lt (kR1 hr) (by decide)) (i := k) (by omega) (by decide) dX7_partOf_37 ?_
      exact hret _ _ _ _ _ _ dX7_partOf_38 hM (⟨rfl, rfl⟩)
    | 1, _ =>
      subst c_1
      refine lv_tableIn (tgt := 39) (off := 38) hx hb dX7_partOf_1 (by decide) (by decide) (by decide) (by decide) ?_
      have hl : lv_has ls 3 [(0, .ref (b + r)), (1, .int (nI k)), (2, .int (nI 1))] := hl
      refine lv_aload_n hx hb dX7_partOf_39 rfl (lv_at hl 0 rfl) ?_
      refine sg_get (v := .ref (b + (r + 2))) hx hb hts hown hK hM (sh3 hr) (kd_lt hr (by decide)) rfl inX7 2 (by decide) wf_X7_15 rfl dX7_partOf_40 ?_
      refine lv_iload_n hx hb dX7_partOf_43 rfl (lv_at hl 1 rfl) ?_
      refine sg_iald hx hb hK hM (sh4 (kR2 hr)) (kd_lt (kR2 hr) (by decide)) (i := k) (by omega) (by decide) dX7_partOf_44 ?_
      exact hret _ _ _ _ _ _ dX7_partOf_45 hM (⟨rfl, rfl⟩)
    | 2, _ =>
      subst c_1
      refine lv_tableIn (tgt := 46) (off := 45) hx hb dX7_partOf_1 (by decide) (by decide) (by decide) (by decide) ?_
      have hl : lv_has ls 3 [(0, .ref (b + r)), (1, .int (nI k)), (2, .int (nI 2))] := hl
      refine lv_aload_n hx hb dX7_partOf_46 rfl (lv_at hl 0 rfl) ?_
      refine sg_get (v := .ref (b + (r + 3))) hx hb hts hown hK hM (sh3 hr) (kd_lt hr (by decide)) rfl inX7 3 (by decide) wf_X7_18 rfl dX7_partOf_47 ?_
      refine lv_iload_n hx hb dX7_partOf_50 rfl (lv_at hl 1 rfl) ?_
      refine sg_iald hx hb hK hM (sh4 (kR3 hr)) (kd_lt (kR3 hr) (by decide)) (i := k) (by omega) (by decide) dX7_partOf_51 ?_
      exact hret _ _ _ _ _ _ dX7_partOf_52 hM (⟨rfl, rfl⟩)
    | 3, _ =>
      subst c_1
      refine lv_tableIn (tgt := 53) (off := 52) hx hb dX7_partOf_1 (by decide) (by decide) (by decide) (by decide) ?_
      have hl : lv_has ls 3 [(0, .ref (b + r)), (1, .int (nI k)), (2, .int (nI 3))] := hl
      refine lv_aload_n hx hb dX7_partOf_53 rfl (lv_at hl 0 rfl) ?_
      refine sg_get (v := .ref (b + (r + 4))) hx hb hts hown hK hM (sh3 hr) (kd_lt hr (by decide)) rfl inX7 4 (by decide) wf_X7_21 rfl dX7_partOf_54 ?_
      refine lv_iload_n hx hb dX7_partOf_57 rfl (lv_at hl 1 rfl) ?_
      refine sg_iald hx hb hK hM (sh4 (kR4 hr)) (kd_lt (kR4 hr) (by decide)) (i := k) (by omega) (by decide) dX7_partOf_58 ?_
      exact hret _ _ _ _ _ _ dX7_partOf_59 hM (⟨rfl, rfl⟩)
    | j + 4, hj => exact absurd hj (by omega)
set_option maxHeartbeats 4000000 in
set_option maxRecDepth 100000 in
theorem c_Row_append (l : Launch) (G : GT) (b : Nat) (σ : Mem) (r n cd m g h s u w : Nat) (hr : kd r = 3) (hcd : kd cd = 2) (hc : CodeAt σ cd m g h) (h0 : σ r 0 = nI n) (hn : n < 24) (hls : lastV σ r n = nI s) (hs : s < 2 ^ m) (hu : u < 2) (hw : w < 4) : KI l G b yX7_append cX7_append 6 2 σ [.ref (b + r), .ref (b + cd), .int (nI u), .int (nI w)] (fun r' σ' => r' = nI (pt (fam m g h s u) w) ∧ σ' = rowApp σ r n u w (pt (fam m g h s u) w) (nx m s u)) := by
  refine sg_metI [.ref (b + r), .ref (b + cd), .int (nI u), .int (nI w)] (by decide) (Nat.le_of_ble_eq_true rfl) ?_
  intro vp ve vs vm args below meth vc ls Q hx hb hml hown hts hK hM hl hret
  have hl : lv_has ls 6 [(0, .ref (b + r)), (1, .ref (b + cd)), (2, .int (nI u)), (3, .int (nI w))] := hl
  have n1 := kd_ne hcd (kR1 hr) (by decide)
  have n2 := kd_ne hcd (kR2 hr) (by decide)
  have n3 := kd_ne hcd (kR3 hr) (by decide)
  refine lv_aload_n hx hb dX7_append_0 rfl (lv_at hl 0 rfl) ?_
  refine sg_ci (sg_runV (d := 0) (As := []) (rest := []) hx hb hml hts hown hK hM (c_Row_isFull l G b σ r n hr h0 (by omega)) mi_X7_isFull wl_X7_28 (sh3 hr) (kd_lt hr (by decide)) rfl rfl rfl hl.1 rfl (Nat.le_of_ble_eq_true rfl) dX7_append_1 ⟨by decide, by decide⟩ ⟨Nat.le_refl 0, Nat.le_refl 0⟩) hM sgA (fun r_1 σ_1 H locs hp_1 hM => ?_)
  obtain ⟨hr_1, hs_1⟩ := hp_1; subst r_1; subst σ_1
  refine sn_ifz_eq (tgt := 10) hx hb dX7_append_4 (by decide) (fun c_4 => ?_) (fun c_4 => ?_)
  · refine lv_aload_n hx hb dX7_append_10 rfl (lv_at hl 0 rfl) ?_
    refine sg_ci (sg_runV (d := 0) (As := []) (rest := []) hx hb hml hts hown hK hM (c_Row_last l G b σ r n hr h0 (by omega)) mi_X7_lastState wl_X7_33 (sh3 hr) (kd_lt hr (by decide)) rfl rfl rfl hl.1 rfl (Nat.le_of_ble_eq_true rfl) dX7_append_11 ⟨by decide, by decide⟩ ⟨Nat.le_refl 0, Nat.le_refl 0⟩) hM sgA (fun r_11 σ_11 H locs hp_11 hM => ?_)
    obtain ⟨hr_11, hs_11⟩ := hp_11; subst r_11; subst σ_11
    refine sn_top (y := nI s) (hls) ?_
    refine lv_istore (lv' := [(4, .int (nI s)), (0, .ref (b + r)), (1, .ref (b + cd)), (2, .int (nI u)), (3, .int (nI w))]) hx hb dX7_append_14 hl (by decide) rfl (fun ls hl => ?_)
    refine lv_aload_n hx hb dX7_append_16 rfl (lv_at hl 2 rfl) ?_
    refine lv_iload hx hb dX7_append_17 (lv_at hl 0 rfl) ?_
    refine lv_iload_n hx hb dX7_append_19 rfl (lv_at hl 3 rfl) ?_
    refine sg_ci (sg_runV (d := 1) (As := [.int (nI s), .int (nI u)]) (rest := []) hx hb hml hts hown hK hM (c_Code_fam l G b σ cd m g h s u hcd (hc) (hu) (hs)) mi_X0_familyFrom wl_X7_37 (sh2 hcd) (kd_lt hcd (by decide)) rfl rfl rfl hl.1 rfl (Nat.le_of_ble_eq_true rfl) dX7_append_20 ⟨by decide, by decide⟩ ⟨Nat.le_refl 0, Nat.le_refl 0⟩) hM sgA (fun r_20 σ_20 H locs hp_20 hM => ?_)
    obtain ⟨hr_20, hs_20⟩ := hp_20; subst r_20; subst σ_20
    refine lv_iload_n hx hb dX7_append_23 rfl (lv_at hl 4 rfl) ?_
    refine sg_ci (sg_runS (d := 0) (As := [.int (nI (fam m g h s u)), .int (nI w)]) (rest := []) hx hb hml hts hown hK hM (c_g_pointOf l G b σ (fam m g h s u) w (by first | omega | exact fam_lt _ _ _ _ _ | exact gf_lt _ | exact tf_lt _ | exact pt_lt (by first | omega | exact fam_lt _ _ _ _ _) (by omega) | exact tn_lt (by first | omega | exact pt_lt (by omega) (by omega))) (by first | omega | exact fam_lt _ _ _ _ _ | exact gf_lt _ | exact tf_lt _ | exact pt_lt (by first | omega | exact fam_lt _ _ _ _ _) (by omega) | exact tn_lt (by first | omega | exact pt_lt (by omega) (by omega)))) mi_X1_pointOf wl_X7_43 rfl hl.1 rfl (Nat.le_of_ble_eq_true rfl) dX7_append_24 ⟨by decide, by decide⟩ ⟨Nat.le_refl 0, Nat.le_refl 0⟩) hM sgA (fun r_24 σ_24 H locs hp_24 hM => ?_)
    obtain ⟨hr_24, hs_24⟩ := hp_24; subst r_24; subst σ_24
    refine lv_istore (lv' := [(5, .int (nI (pt (fam m g h s u) w))), (4, .int (nI s)), (0, .ref (b + r)), (1, .ref (b + cd)), (2, .int (nI u)), (3, .int (nI w))]) hx hb dX7_append_27 hl (by decide) rfl (fun ls hl => ?_)
    refine lv_aload_n hx hb dX7_append_29 rfl (lv_at hl 2 rfl) ?_
    refine sg_get (v := .ref (b + (r + 1))) hx hb hts hown hK hM (sh3 hr) (kd_lt hr (by decide)) rfl inX7 1 (by decide) wf_X7_9 rfl dX7_append_30 ?_
    refine lv_aload_n hx hb dX7_append_33 rfl (lv_at hl 2 rfl) ?_
    refine sg_get (v := .int (σ r 0)) hx hb hts hown hK hM (sh3 hr) (kd_lt hr (by decide)) rfl inX7 0 (by decide) wf_X7_24 rfl dX7_append_34 ?_
    refine sn_top (y := nI n) (h0) ?_
    refine lv_iload_n hx hb dX7_append_37 rfl (lv_at hl 4 rfl) ?_
    refine sg_iast hx hb hK hM sgA (fun f => sh4 (kR1 hr)) (kd_lt (kR1 hr) (by decide)) (i := n) (by omega) (by decide) dX7_append_38 (fun H locs hM => ?_)
    refine lv_aload_n hx hb dX7_append_39 rfl (lv_at hl 2 rfl) ?_
    refine sg_get (v := .ref (b + (r + 2))) hx hb hts hown hK hM (sh3 hr) (kd_lt hr (by decide)) rfl inX7 2 (by decide) wf_X7_15 rfl dX7_append_40 ?_
    refine lv_aload_n hx hb dX7_append_43 rfl (lv_at hl 2 rfl) ?_
    refine sg_get (v := .int ((m2 σ (r + 1) n (nI u)) r 0)) hx hb hts hown hK hM (sh3 hr) (kd_lt hr (by decide)) rfl inX7 0 (by decide) wf_X7_24 rfl dX7_append_44 ?_
    refine sn_top (y := nI n) (by rw [m2_o (by omega)]; exact h0) ?_
    refine lv_iload_n hx hb dX7_append_47 rfl (lv_at hl 5 rfl) ?_
    refine sg_iast hx hb hK hM sgA (fun f => sh4 (kR2 hr)) (kd_lt (kR2 hr) (by decide)) (i := n) (by omega) (by decide) dX7_append_48 (fun H locs hM => ?_)
    refine lv_aload_n hx hb dX7_append_49 rfl (lv_at hl 2 rfl) ?_
    refine sg_get (v := .ref (b + (r + 3))) hx hb hts hown hK hM (sh3 hr) (kd_lt hr (by decide)) rfl inX7 3 (by decide) wf_X7_18 rfl dX7_append_50 ?_
    refine lv_aload_n hx hb dX7_append_53 rfl (lv_at hl 2 rfl) ?_
    refine sg_get (v := .int ((m2 (m2 σ (r + 1) n (nI u)) (r + 2) n (nI w)) r 0)) hx hb hts hown hK hM (sh3 hr) (kd_lt hr (by decide)) rfl inX7 0 (by decide) wf_X7_24 rfl dX7_append_54 ?_
    refine sn_top (y := nI n) (by rw [m2_o (by omega), m2_o (by omega)]; exact h0) ?_
    refine lv_iload hx hb dX7_append_57 (lv_at hl 0 rfl) ?_
    refine sg_iast hx hb hK hM sgA (fun f => sh4 (kR3 hr)) (kd_lt (kR3 hr) (by decide)) (i := n) (by omega) (by decide) dX7_append_59 (fun H locs hM => ?_)
    refine lv_aload_n hx hb dX7_append_60 rfl (lv_at hl 2 rfl) ?_
    refine sg_get (v := .ref (b + (r + 4))) hx hb hts hown hK hM (sh3 hr) (kd_lt hr (by decide)) rfl inX7 4 (by decide) wf_X7_21 rfl dX7_append_61 ?_
    refine lv_aload_n hx hb dX7_append_64 rfl (lv_at hl 2 rfl) ?_
    refine sg_get (v := .int ((m2 (m2 (m2 σ (r + 1) n (nI u)) (r + 2) n (nI w)) (r + 3) n (nI (pt (fam m g h s u) w))) r 0)) hx hb hts hown hK hM (sh3 hr) (kd_lt hr (by decide)) rfl inX7 0 (by decide) wf_X7_24 rfl dX7_append_65 ?_
    refine sn_top (y := nI n) (by rw [m2_o (by omega), m2_o (by omega), m2_o (by omega)]; exact h0) ?_
    refine lv_aload_n hx hb dX7_append_68 rfl (lv_at hl 3 rfl) ?_
    refine lv_iload hx hb dX7_append_69 (lv_at hl 1 rfl) ?_
    refine lv_iload_n hx hb dX7_append_71 rfl (lv_at hl 4 rfl) ?_
    refine sg_ci (sg_runV (d := 1) (As := [.int (nI s), .int (nI u)]) (rest := [.int (nI n), .ref (b + (r + 4))]) hx hb hml hts hown hK hM (c_Code_next l G b (m2 (m2 (m2 σ (r + 1) n (nI u)) (r + 2) n (nI w)) (r + 3) n (nI (pt (fam m g h s u) w))) cd m g h s u hcd (hc.keep (by rw [m2_o (by assumption), m2_o (by assumption), m2_o (by assumption)])) (hu) (hs)) mi_X0_stateAfter wl_X7_48 (sh2 hcd) (kd_lt hcd (by decide)) rfl rfl rfl hl.1 rfl (Nat.le_of_ble_eq_true rfl) dX7_append_72 ⟨by decide, by decide⟩ ⟨Nat.le_refl 0, Nat.le_refl 0⟩) hM sgA (fun r_72 σ_72 H locs hp_72 hM => ?_)
    obtain ⟨hr_72, hs_72⟩ := hp_72; subst r_72; subst σ_72
    refine sg_iast hx hb hK hM sgA (fun f => sh4 (kR4 hr)) (kd_lt (kR4 hr) (by decide)) (i := n) (by omega) (by decide) dX7_append_75 (fun H locs hM => ?_)
    refine lv_aload_n hx hb dX7_append_76 rfl (lv_at hl 2 rfl) ?_
    refine lv_dup hx hb dX7_append_77 rfl ?_
    refine sg_get (v := .int ((m2 (m2 (m2 (m2 σ (r + 1) n (nI u)) (r + 2) n (nI w)) (r + 3) n (nI (pt (fam m g h s u) w))) (r + 4) n (nI (nx m s u))) r 0)) hx hb hts hown hK hM (sh3 hr) (kd_lt hr (by decide)) rfl inX7 0 (by decide) wf_X7_24 rfl dX7_append_78 ?_
    refine sn_top (y := nI n) (by rw [m2_o (by omega), m2_o (by omega), m2_o (by omega), m2_o (by omega)]; exact h0) ?_
    refine lv_iconst (v := nI 1) hx hb dX7_append_81 (by decide) ?_
    refine sn_iadd hx hb dX7_append_82 ?_
    refine sg_put (v := nI (n + 1)) (ty := .int) hx hb hts hown hK hM sgA (sh3 hr) (kd_lt hr (by decide)) rfl inX7 tyX7 tyX7_ok nmX7 0 (by decide) wf_X7_24 rfl (by decide +kernel) rfl rfl (Nat.le_of_ble_eq_true rfl) (by rw [sh3 hr]; rfl) dX7_append_83 (fun H locs hM => ?_)
    refine lv_iload hx hb dX7_append_86 (lv_at hl 0 rfl) ?_
    exact hret _ _ _ _ _ _ dX7_append_88 hM (⟨rfl, rfl⟩)
  · exact absurd c_4 (by rw [decide_eq_false (by omega)]; decide)
set_option maxHeartbeats 4000000 in
set_option maxRecDepth 100000 in
theorem c_Pl_append (l : Launch) (G : GT) (b : Nat) (σ : Mem) (r n : Nat) (x y : Int32) (hr : kd r = 5) (h0 : σ r 0 = nI n) (hn : n < 24) : KV l G b yX6_append cX6_append 3 1 σ [.ref (b + r), .int x, .int y] (fun σ' => σ' = plApp σ r n x y) := by
  refine sg_metV [.ref (b + r), .int x, .int y] (by decide) (Nat.le_of_ble_eq_true rfl) ?_
  intro vp ve vs vm args below meth vc ls Q hx hb hml hown hts hK hM hl hret
  have hl : lv_has ls 3 [(0, .ref (b + r)), (1, .int x), (2, .int y)] := hl
  refine lv_aload_n hx hb dX6_append_0 rfl (lv_at hl 0 rfl) ?_
  refine sg_ci (sg_runV (d := 0) (As := []) (rest := []) hx hb hml hts hown hK hM (c_Pl_isFull l G b σ r n hr h0 (by omega)) mi_X6_isFull wl_X6_22 (sh5 hr) (kd_lt hr (by decide)) rfl rfl rfl hl.1 rfl (Nat.le_of_ble_eq_true rfl) dX6_append_1 ⟨by decide, by decide⟩ ⟨Nat.le_refl 0, Nat.le_refl 0⟩) hM sgA (fun r_1 σ_1 H locs hp_1 hM => ?_)
  obtain ⟨hr_1, hs_1⟩ := hp_1; subst r_1; subst σ_1
  refine sn_ifz_eq (tgt := 8) hx hb dX6_append_4 (by decide) (fun c_4 => ?_) (fun c_4 => ?_)
  · refine lv_aload_n hx hb dX6_append_8 rfl (lv_at hl 0 rfl) ?_
    refine sg_get (v := .ref (b + (r + 1))) hx hb hts hown hK hM (sh5 hr) (kd_lt hr (by decide)) rfl inX6 1 (by decide) wf_X6_9 rfl dX6_append_9 ?_
    refine lv_aload_n hx hb dX6_append_12 rfl (lv_at hl 0 rfl) ?_
    refine sg_get (v := .int (σ r 0)) hx hb hts hown hK hM (sh5 hr) (kd_lt hr (by decide)) rfl inX6 0 (by decide) wf_X6_18 rfl dX6_append_13 ?_
    refine sn_top (y := nI n) (h0) ?_
    refine lv_iload_n hx hb dX6_append_16 rfl (lv_at hl 1 rfl) ?_
    refine sg_iast hx hb hK hM sgA (fun f => sh4 (kP1 hr)) (kd_lt (kP1 hr) (by decide)) (i := n) (by omega) (by decide) dX6_append_17 (fun H locs hM => ?_)
    refine lv_aload_n hx hb dX6_append_18 rfl (lv_at hl 0 rfl) ?_
    refine sg_get (v := .ref (b + (r + 2))) hx hb hts hown hK hM (sh5 hr) (kd_lt hr (by decide)) rfl inX6 2 (by decide) wf_X6_15 rfl dX6_append_19 ?_
    refine lv_aload_n hx hb dX6_append_22 rfl (lv_at hl 0 rfl) ?_
    refine sg_get (v := .int ((m2 σ (r + 1) n x) r 0)) hx hb hts hown hK hM (sh5 hr) (kd_lt hr (by decide)) rfl inX6 0 (by decide) wf_X6_18 rfl dX6_append_23 ?_
    refine sn_top (y := nI n) (by rw [m2_o (by omega)]; exact h0) ?_
    refine lv_iload_n hx hb dX6_append_26 rfl (lv_at hl 2 rfl) ?_
    refine sg_iast hx hb hK hM sgA (fun f => sh4 (kP2 hr)) (kd_lt (kP2 hr) (by decide)) (i := n) (by omega) (by decide) dX6_append_27 (fun H locs hM => ?_)
    refine lv_aload_n hx hb dX6_append_28 rfl (lv_at hl 0 rfl) ?_
    refine lv_dup hx hb dX6_append_29 rfl ?_
    refine sg_get (v := .int ((m2 (m2 σ (r + 1) n x) (r + 2) n y) r 0)) hx hb hts hown hK hM (sh5 hr) (kd_lt hr (by decide)) rfl inX6 0 (by decide) wf_X6_18 rfl dX6_append_30 ?_
    refine sn_top (y := nI n) (by rw [m2_o (by omega), m2_o (by omega)]; exact h0) ?_
    refine lv_iconst (v := nI 1) hx hb dX6_append_33 (by decide) ?_
    refine sn_iadd hx hb dX6_append_34 ?_
    refine sg_put (v := nI (n + 1)) (ty := .int) hx hb hts hown hK hM sgA (sh5 hr) (kd_lt hr (by decide)) rfl inX6 tyX6 tyX6_ok nmX6 0 (by decide) wf_X6_18 rfl (by decide +kernel) rfl rfl (Nat.le_of_ble_eq_true rfl) (by rw [sh5 hr]; rfl) dX6_append_35 (fun H locs hM => ?_)
    exact hret _ _ _ _ _ dX6_append_38 hM (rfl)
  · exact absurd c_4 (by rw [decide_eq_false (by omega)]; decide)
set_option maxHeartbeats 4000000 in
set_option maxRecDepth 100000 in
theorem c_Row_become (l : Launch) (G : GT) (b : Nat) (σ : Mem) (r o n : Nat) (hr : kd r = 3) (ho : kd o = 3) (h0 : σ o 0 = nI n) (hn : n ≤ 24) : KV l G b yX7_become cX7_become 2 1 σ [.ref (b + r), .ref (b + o)] (fun σ' => σ' = rowCp σ r o n) := by
  refine sg_metV [.ref (b + r), .ref (b + o)] (by decide) (Nat.le_of_ble_eq_true rfl) ?_
  intro vp ve vs vm args below meth vc ls Q hx hb hml hown hts hK hM hl hret
  have hl : lv_has ls 2 [(0, .ref (b + r)), (1, .ref (b + o))] := hl
  refine lv_aload_n hx hb dX7_become_0 rfl (lv_at hl 0 rfl) ?_
  refine lv_aload_n hx hb dX7_become_1 rfl (lv_at hl 1 rfl) ?_
  refine sg_get (v := .int (σ o 0)) hx hb hts hown hK hM (sh3 ho) (kd_lt ho (by decide)) rfl inX7 0 (by decide) wf_X7_24 rfl dX7_become_2 ?_
  refine sn_top (y := nI n) (h0) ?_
  refine sg_put (v := nI n) (ty := .int) hx hb hts hown hK hM sgA (sh3 hr) (kd_lt hr (by decide)) rfl inX7 tyX7 tyX7_ok nmX7 0 (by decide) wf_X7_24 rfl (by decide +kernel) rfl rfl (Nat.le_of_ble_eq_true rfl) (by rw [sh3 hr]; rfl) dX7_become_5 (fun H locs hM => ?_)
  refine lv_aload_n hx hb dX7_become_8 rfl (lv_at hl 1 rfl) ?_
  refine sg_get (v := .ref (b + (o + 1))) hx hb hts hown hK hM (sh3 ho) (kd_lt ho (by decide)) rfl inX7 1 (by decide) wf_X7_9 rfl dX7_become_9 ?_
  refine lv_iconst (v := nI 0) hx hb dX7_become_12 (by decide) ?_
  refine lv_aload_n hx hb dX7_become_13 rfl (lv_at hl 0 rfl) ?_
  refine sg_get (v := .ref (b + (r + 1))) hx hb hts hown hK hM (sh3 hr) (kd_lt hr (by decide)) rfl inX7 1 (by decide) wf_X7_9 rfl dX7_become_14 ?_
  refine lv_iconst (v := nI 0) hx hb dX7_become_17 (by decide) ?_
  refine lv_aload_n hx hb dX7_become_18 rfl (lv_at hl 0 rfl) ?_
  refine sg_get (v := .int ((m2 σ r 0 (nI n)) r 0)) hx hb hts hown hK hM (sh3 hr) (kd_lt hr (by decide)) rfl inX7 0 (by decide) wf_X7_24 rfl dX7_become_19 ?_
  refine sn_top (y := nI n) (by rw [m2_ss]) ?_
  refine sg_copy hx hb (by rw [hml]; exact hl.1.symm) hts hown hK hM sgA wl_X7_52 (n := n) (sh4 (kR1 ho)) (fun f => sh4 (kR1 hr)) (kd_lt (kR1 ho) (by decide)) (kd_lt (kR1 hr) (by decide)) (by omega) (by omega) (by omega) (by decide) (Nat.le_of_ble_eq_true rfl) dX7_become_22 (fun H locs hM => ?_)
  refine lv_aload_n hx hb dX7_become_25 rfl (lv_at hl 1 rfl) ?_
  refine sg_get (v := .ref (b + (o + 2))) hx hb hts hown hK hM (sh3 ho) (kd_lt ho (by decide)) rfl inX7 2 (by decide) wf_X7_15 rfl dX7_become_26 ?_
  refine lv_iconst (v := nI 0) hx hb dX7_become_29 (by decide) ?_
  refine lv_aload_n hx hb dX7_become_30 rfl (lv_at hl 0 rfl) ?_
  refine sg_get (v := .ref (b + (r + 2))) hx hb hts hown hK hM (sh3 hr) (kd_lt hr (by decide)) rfl inX7 2 (by decide) wf_X7_15 rfl dX7_become_31 ?_
  refine lv_iconst (v := nI 0) hx hb dX7_become_34 (by decide) ?_
  refine lv_aload_n hx hb dX7_become_35 rfl (lv_at hl 0 rfl) ?_
  refine sg_get (v := .int ((mcp (m2 σ r 0 (nI n)) (o + 1) (r + 1) n) r 0)) hx hb hts hown hK hM (sh3 hr) (kd_lt hr (by decide)) rfl inX7 0 (by decide) wf_X7_24 rfl dX7_become_36 ?_
  refine sn_top (y := nI n) (by rw [mcp_o (by omega), m2_ss]) ?_
  refine sg_copy hx hb (by rw [hml]; exact hl.1.symm) hts hown hK hM sgA wl_X7_52 (n := n) (sh4 (kR2 ho)) (fun f => sh4 (kR2 hr)) (kd_lt (kR2 ho) (by decide)) (kd_lt (kR2 hr) (by decide)) (by omega) (by omega) (by omega) (by decide) (Nat.le_of_ble_eq_true rfl) dX7_become_39 (fun H locs hM => ?_)
  refine lv_aload_n hx hb dX7_become_42 rfl (lv_at hl 1 rfl) ?_
  refine sg_get (v := .ref (b + (o + 3))) hx hb hts hown hK hM (sh3 ho) (kd_lt ho (by decide)) rfl inX7 3 (by decide) wf_X7_18 rfl dX7_become_43 ?_
  refine lv_iconst (v := nI 0) hx hb dX7_become_46 (by decide) ?_
  refine lv_aload_n hx hb dX7_become_47 rfl (lv_at hl 0 rfl) ?_
  refine sg_get (v := .ref (b + (r + 3))) hx hb hts hown hK hM (sh3 hr) (kd_lt hr (by decide)) rfl inX7 3 (by decide) wf_X7_18 rfl dX7_become_48 ?_
  refine lv_iconst (v := nI 0) hx hb dX7_become_51 (by decide) ?_
  refine lv_aload_n hx hb dX7_become_52 rfl (lv_at hl 0 rfl) ?_
  refine sg_get (v := .int ((mcp (mcp (m2 σ r 0 (nI n)) (o + 1) (r + 1) n) (o + 2) (r + 2) n) r 0)) hx hb hts hown hK hM (sh3 hr) (kd_lt hr (by decide)) rfl inX7 0 (by decide) wf_X7_24 rfl dX7_become_53 ?_
  refine sn_top (y := nI n) (by rw [mcp_o (by omega), mcp_o (by omega), m2_ss]) ?_
  refine sg_copy hx hb (by rw [hml]; exact hl.1.symm) hts hown hK hM sgA wl_X7_52 (n := n) (sh4 (kR3 ho)) (fun f => sh4 (kR3 hr)) (kd_lt (kR3 ho) (by decide)) (kd_lt (kR3 hr) (by decide)) (by omega) (by omega) (by omega) (by decide) (Nat.le_of_ble_eq_true rfl) dX7_become_56 (fun H locs hM => ?_)
  refine lv_aload_n hx hb dX7_become_59 rfl (lv_at hl 1 rfl) ?_
  refine sg_get (v := .ref (b + (o + 4))) hx hb hts hown hK hM (sh3 ho) (kd_lt ho (by decide)) rfl inX7 4 (by decide) wf_X7_21 rfl dX7_become_60 ?_
  refine lv_iconst (v := nI 0) hx hb dX7_become_63 (by decide) ?_
  refine lv_aload_n hx hb dX7_become_64 rfl (lv_at hl 0 rfl) ?_
  refine sg_get (v := .ref (b + (r + 4))) hx hb hts hown hK hM (sh3 hr) (kd_lt hr (by decide)) rfl inX7 4 (by decide) wf_X7_21 rfl dX7_become_65 ?_
  refine lv_iconst (v := nI 0) hx hb dX7_become_68 (by decide) ?_
  refine lv_aload_n hx hb dX7_become_69 rfl (lv_at hl 0 rfl) ?_
  refine sg_get (v := .int ((mcp (mcp (mcp (m2 σ r 0 (nI n)) (o + 1) (r + 1) n) (o + 2) (r + 2) n) (o + 3) (r + 3) n) r 0)) hx hb hts hown hK hM (sh3 hr) (kd_lt hr (by decide)) rfl inX7 0 (by decide) wf_X7_24 rfl dX7_become_70 ?_
  refine sn_top (y := nI n) (by rw [mcp_o (by omega), mcp_o (by omega), mcp_o (by omega), m2_ss]) ?_
  refine sg_copy hx hb (by rw [hml]; exact hl.1.symm) hts hown hK hM sgA wl_X7_52 (n := n) (sh4 (kR4 ho)) (fun f => sh4 (kR4 hr)) (kd_lt (kR4 ho) (by decide)) (kd_lt (kR4 hr) (by decide)) (by omega) (by omega) (by omega) (by decide) (Nat.le_of_ble_eq_true rfl) dX7_become_73 (fun H locs hM => ?_)
  exact hret _ _ _ _ _ dX7_become_76 hM (rfl)
set_option maxHeartbeats 4000000 in
set_option maxRecDepth 100000 in
theorem c_Pl_become (l : Launch) (G : GT) (b : Nat) (σ : Mem) (r o n : Nat) (hr : kd r = 5) (ho : kd o = 5) (h0 : σ o 0 = nI n) (hn : n ≤ 24) : KV l G b yX6_become cX6_become 2 1 σ [.ref (b + r), .ref (b + o)] (fun σ' => σ' = plCp σ r o n) := by
  refine sg_metV [.ref (b + r), .ref (b + o)] (by decide) (Nat.le_of_ble_eq_true rfl) ?_
  intro vp ve vs vm args below meth vc ls Q hx hb hml hown hts hK hM hl hret
  have hl : lv_has ls 2 [(0, .ref (b + r)), (1, .ref (b + o))] := hl
  refine lv_aload_n hx hb dX6_become_0 rfl (lv_at hl 0 rfl) ?_
  refine lv_aload_n hx hb dX6_become_1 rfl (lv_at hl 1 rfl) ?_
  refine sg_get (v := .int (σ o 0)) hx hb hts hown hK hM (sh5 ho) (kd_lt ho (by decide)) rfl inX6 0 (by decide) wf_X6_18 rfl dX6_become_2 ?_
  refine sn_top (y := nI n) (h0) ?_
  refine sg_put (v := nI n) (ty := .int) hx hb hts hown hK hM sgA (sh5 hr) (kd_lt hr (by decide)) rfl inX6 tyX6 tyX6_ok nmX6 0 (by decide) wf_X6_18 rfl (by decide +kernel) rfl rfl (Nat.le_of_ble_eq_true rfl) (by rw [sh5 hr]; rfl) dX6_become_5 (fun H locs hM => ?_)
  refine lv_aload_n hx hb dX6_become_8 rfl (lv_at hl 1 rfl) ?_
  refine sg_get (v := .ref (b + (o + 1))) hx hb hts hown hK hM (sh5 ho) (kd_lt ho (by decide)) rfl inX6 1 (by decide) wf_X6_9 rfl dX6_become_9 ?_
  refine lv_iconst (v := nI 0) hx hb dX6_become_12 (by decide) ?_
  refine lv_aload_n hx hb dX6_become_13 rfl (lv_at hl 0 rfl) ?_
  refine sg_get (v := .ref (b + (r + 1))) hx hb hts hown hK hM (sh5 hr) (kd_lt hr (by decide)) rfl inX6 1 (by decide) wf_X6_9 rfl dX6_become_14 ?_
  refine lv_iconst (v := nI 0) hx hb dX6_become_17 (by decide) ?_
  refine lv_aload_n hx hb dX6_become_18 rfl (lv_at hl 0 rfl) ?_
  refine sg_get (v := .int ((m2 σ r 0 (nI n)) r 0)) hx hb hts hown hK hM (sh5 hr) (kd_lt hr (by decide)) rfl inX6 0 (by decide) wf_X6_18 rfl dX6_become_19 ?_
  refine sn_top (y := nI n) (by rw [m2_ss]) ?_
  refine sg_copy hx hb (by rw [hml]; exact hl.1.symm) hts hown hK hM sgA wl_X6_26 (n := n) (sh4 (kP1 ho)) (fun f => sh4 (kP1 hr)) (kd_lt (kP1 ho) (by decide)) (kd_lt (kP1 hr) (by decide)) (by omega) (by omega) (by omega) (by decide) (Nat.le_of_ble_eq_true rfl) dX6_become_22 (fun H locs hM => ?_)
  refine lv_aload_n hx hb dX6_become_25 rfl (lv_at hl 1 rfl) ?_
  refine sg_get (v := .ref (b + (o + 2))) hx hb hts hown hK hM (sh5 ho) (kd_lt ho (by decide)) rfl inX6 2 (by decide) wf_X6_15 rfl dX6_become_26 ?_
  refine lv_iconst (v := nI 0) hx hb dX6_become_29 (by decide) ?_
  refine lv_aload_n hx hb dX6_become_30 rfl (lv_at hl 0 rfl) ?_
  refine sg_get (v := .ref (b + (r + 2))) hx hb hts hown hK hM (sh5 hr) (kd_lt hr (by decide)) rfl inX6 2 (by decide) wf_X6_15 rfl dX6_become_31 ?_
  refine lv_iconst (v := nI 0) hx hb dX6_become_34 (by decide) ?_
  refine lv_aload_n hx hb dX6_become_35 rfl (lv_at hl 0 rfl) ?_
  refine sg_get (v := .int ((mcp (m2 σ r 0 (nI n)) (o + 1) (r + 1) n) r 0)) hx hb hts hown hK hM (sh5 hr) (kd_lt hr (by decide)) rfl inX6 0 (by decide) wf_X6_18 rfl dX6_become_36 ?_
  refine sn_top (y := nI n) (by rw [mcp_o (by omega), m2_ss]) ?_
  refine sg_copy hx hb (by rw [hml]; exact hl.1.symm) hts hown hK hM sgA wl_X6_26 (n := n) (sh4 (kP2 ho)) (fun f => sh4 (kP2 hr)) (kd_lt (kP2 ho) (by decide)) (kd_lt (kP2 hr) (by decide)) (by omega) (by omega) (by omega) (by decide) (Nat.le_of_ble_eq_true rfl) dX6_become_39 (fun H locs hM => ?_)
  exact hret _ _ _ _ _ dX6_become_42 hM (rfl)
set_option maxHeartbeats 4000000 in
set_option maxRecDepth 100000 in
theorem c_Mo_clear (l : Launch) (G : GT) (b : Nat) (σ : Mem) (mo : Nat) (hmo : kd mo = 1) : KV l G b yX3_clear cX3_clear 1 0 σ [.ref (b + mo)] (fun σ' => σ' = moClear σ mo) := by
  refine sg_metV [.ref (b + mo)] (by decide) (Nat.le_of_ble_eq_true rfl) ?_
  intro vp ve vs vm args below meth vc ls Q hx hb hml hown hts hK hM hl hret
  have hl : lv_has ls 1 [(0, .ref (b + mo))] := hl
  refine lv_aload_n hx hb dX3_clear_0 rfl (lv_at hl 0 rfl) ?_
  refine sg_get (v := .ref (b + (mo + 2))) hx hb hts hown hK hM (sh1 hmo) (kd_lt hmo (by decide)) rfl inX3 1 (by decide) wf_X3_21 rfl dX3_clear_1 ?_
  refine lv_iconst (v := nI 0) hx hb dX3_clear_4 (by decide) ?_
  refine sg_put (v := nI 0) (ty := .int) hx hb hts hown hK hM sgA (sh3 (kM2 hmo)) (kd_lt (kM2 hmo) (by decide)) rfl inX7 tyX7 tyX7_ok nmX7 0 (by decide) wf_X3_36 rfl (by decide +kernel) rfl rfl (Nat.le_of_ble_eq_true rfl) (by rw [sh3 (kM2 hmo)]; rfl) dX3_clear_5 (fun H locs hM => ?_)
  refine lv_aload_n hx hb dX3_clear_8 rfl (lv_at hl 0 rfl) ?_
  refine sg_get (v := .ref (b + (mo + 7))) hx hb hts hown hK hM (sh1 hmo) (kd_lt hmo (by decide)) rfl inX3 2 (by decide) wf_X3_28 rfl dX3_clear_9 ?_
  refine lv_iconst (v := nI 0) hx hb dX3_clear_12 (by decide) ?_
  refine sg_put (v := nI 0) (ty := .int) hx hb hts hown hK hM sgA (sh5 (kM7 hmo)) (kd_lt (kM7 hmo) (by decide)) rfl inX6 tyX6 tyX6_ok nmX6 0 (by decide) wf_X3_39 rfl (by decide +kernel) rfl rfl (Nat.le_of_ble_eq_true rfl) (by rw [sh5 (kM7 hmo)]; rfl) dX3_clear_13 (fun H locs hM => ?_)
  exact hret _ _ _ _ _ dX3_clear_16 hM (rfl)
set_option maxHeartbeats 4000000 in
set_option maxRecDepth 100000 in
theorem c_Mo_become (l : Launch) (G : GT) (b : Nat) (σ : Mem) (mo oo n k : Nat) (hmo : kd mo = 1) (hoo : kd oo = 1) (hne : mo ≠ oo) (hn0 : σ (oo + 2) 0 = nI n) (hn : n ≤ 24) (hk0 : σ (oo + 7) 0 = nI k) (hk : k ≤ 24) : KV l G b yX3_become cX3_become 2 2 σ [.ref (b + mo), .ref (b + oo)] (fun σ' => σ' = moCp σ mo oo n k (σ (oo + 1) 0) (σ (oo + 1) 1) (σ (oo + 1) 2) (σ oo 3)) := by
  refine sg_metV [.ref (b + mo), .ref (b + oo)] (by decide) (Nat.le_of_ble_eq_true rfl) ?_
  intro vp ve vs vm args below meth vc ls Q hx hb hml hown hts hK hM hl hret
  have hl : lv_has ls 2 [(0, .ref (b + mo)), (1, .ref (b + oo))] := hl
  have hap := mo_ap hmo hoo hne
  refine lv_aload_n hx hb dX3_become_0 rfl (lv_at hl 0 rfl) ?_
  refine sg_get (v := .ref (b + (mo + 1))) hx hb hts hown hK hM (sh1 hmo) (kd_lt hmo (by decide)) rfl inX3 0 (by decide) wf_X3_12 rfl dX3_become_1 ?_
  refine lv_aload_n hx hb dX3_become_4 rfl (lv_at hl 1 rfl) ?_
  refine sg_get (v := .ref (b + (oo + 1))) hx hb hts hown hK hM (sh1 hoo) (kd_lt hoo (by decide)) rfl inX3 0 (by decide) wf_X3_12 rfl dX3_become_5 ?_
  refine sg_get (v := .int (σ (oo + 1) 0)) hx hb hts hown hK hM (sh2 (kM1 hoo)) (kd_lt (kM1 hoo) (by decide)) rfl inX0 0 (by decide) wf_X3_40 rfl dX3_become_8 ?_
  refine lv_aload_n hx hb dX3_become_11 rfl (lv_at hl 1 rfl) ?_
  refine sg_get (v := .ref (b + (oo + 1))) hx hb hts hown hK hM (sh1 hoo) (kd_lt hoo (by decide)) rfl inX3 0 (by decide) wf_X3_12 rfl dX3_become_12 ?_
  refine sg_get (v := .int (σ (oo + 1) 1)) hx hb hts hown hK hM (sh2 (kM1 hoo)) (kd_lt (kM1 hoo) (by decide)) rfl inX0 1 (by decide) wf_X3_43 rfl dX3_become_15 ?_
  refine lv_aload_n hx hb dX3_become_18 rfl (lv_at hl 1 rfl) ?_
  refine sg_get (v := .ref (b + (oo + 1))) hx hb hts hown hK hM (sh1 hoo) (kd_lt hoo (by decide)) rfl inX3 0 (by decide) wf_X3_12 rfl dX3_become_19 ?_
  refine sg_get (v := .int (σ (oo + 1) 2)) hx hb hts hown hK hM (sh2 (kM1 hoo)) (kd_lt (kM1 hoo) (by decide)) rfl inX0 2 (by decide) wf_X3_46 rfl dX3_become_22 ?_
  refine sg_cv (sg_runV (d := 0) (As := [.int (σ (oo + 1) 0), .int (σ (oo + 1) 1), .int (σ (oo + 1) 2)]) (rest := []) hx hb hml hts hown hK hM (c_Code_set l G b σ (mo + 1) (σ (oo + 1) 0) (σ (oo + 1) 1) (σ (oo + 1) 2) (kM1 hmo)) mi_X0_set wl_X3_49 (sh2 (kM1 hmo)) (kd_lt (kM1 hmo) (by decide)) rfl rfl rfl hl.1 rfl (Nat.le_of_ble_eq_true rfl) dX3_become_25 ⟨by decide, by decide⟩ ⟨Nat.le_refl 0, Nat.le_refl 0⟩) hM sgA (fun σ_25 H locs hp_25 hM => ?_)
  subst σ_25
  refine lv_aload_n hx hb dX3_become_28 rfl (lv_at hl 0 rfl) ?_
  refine sg_get (v := .ref (b + (mo + 2))) hx hb hts hown hK hM (sh1 hmo) (kd_lt hmo (by decide)) rfl inX3 1 (by decide) wf_X3_21 rfl dX3_become_29 ?_
  refine lv_aload_n hx hb dX3_become_32 rfl (lv_at hl 1 rfl) ?_
  refine sg_get (v := .ref (b + (oo + 2))) hx hb hts hown hK hM (sh1 hoo) (kd_lt hoo (by decide)) rfl inX3 1 (by decide) wf_X3_21 rfl dX3_become_33 ?_
  refine sg_cv (sg_runV (d := 1) (As := [.ref (b + (oo + 2))]) (rest := []) hx hb hml hts hown hK hM (c_Row_become l G b (codeSet σ (mo + 1) (σ (oo + 1) 0) (σ (oo + 1) 1) (σ (oo + 1) 2)) (mo + 2) (oo + 2) n (kM2 hmo) (kM2 hoo) (by unfold codeSet; rw [m2_o (by omega), m2_o (by omega), m2_o (by omega)]; exact hn0) hn) mi_X7_become wl_X3_53 (sh3 (kM2 hmo)) (kd_lt (kM2 hmo) (by decide)) rfl rfl rfl hl.1 rfl (Nat.le_of_ble_eq_true rfl) dX3_become_36 ⟨by decide, by decide⟩ ⟨Nat.le_refl 0, Nat.le_refl 0⟩) hM sgA (fun σ_36 H locs hp_36 hM => ?_)
  subst σ_36
  refine lv_aload_n hx hb dX3_become_39 rfl (lv_at hl 0 rfl) ?_
  refine sg_get (v := .ref (b + (mo + 7))) hx hb hts hown hK hM (sh1 hmo) (kd_lt hmo (by decide)) rfl inX3 2 (by decide) wf_X3_28 rfl dX3_become_40 ?_
  refine lv_aload_n hx hb dX3_become_43 rfl (lv_at hl 1 rfl) ?_
  refine sg_get (v := .ref (b + (oo + 7))) hx hb hts hown hK hM (sh1 hoo) (kd_lt hoo (by decide)) rfl inX3 2 (by decide) wf_X3_28 rfl dX3_become_44 ?_
  refine sg_cv (sg_runV (d := 1) (As := [.ref (b + (oo + 7))]) (rest := []) hx hb hml hts hown hK hM (c_Pl_become l G b (rowCp (codeSet σ (mo + 1) (σ (oo + 1) 0) (σ (oo + 1) 1) (σ (oo + 1) 2)) (mo + 2) (oo + 2) n) (mo + 7) (oo + 7) k (kM7 hmo) (kM7 hoo) (by unfold rowCp codeSet; rw [mcp_o (by omega), mcp_o (by omega), mcp_o (by omega), mcp_o (by omega), m2_o (by omega), m2_o (by omega), m2_o (by omega), m2_o (by omega)]; exact hk0) hk) mi_X6_become wl_X3_57 (sh5 (kM7 hmo)) (kd_lt (kM7 hmo) (by decide)) rfl rfl rfl hl.1 rfl (Nat.le_of_ble_eq_true rfl) dX3_become_47 ⟨by decide, by decide⟩ ⟨Nat.le_refl 0, Nat.le_refl 0⟩) hM sgA (fun σ_47 H locs hp_47 hM => ?_)
  subst σ_47
  refine lv_aload_n hx hb dX3_become_50 rfl (lv_at hl 0 rfl) ?_
  refine lv_aload_n hx hb dX3_become_51 rfl (lv_at hl 1 rfl) ?_
  refine sg_get (v := .int ((plCp (rowCp (codeSet σ (mo + 1) (σ (oo + 1) 0) (σ (oo + 1) 1) (σ (oo + 1) 2)) (mo + 2) (oo + 2) n) (mo + 7) (oo + 7) k) oo 3)) hx hb hts hown hK hM (sh1 hoo) (kd_lt hoo (by decide)) rfl inX3 3 (by decide) wf_X3_32 rfl dX3_become_52 ?_
  refine sn_top (y := σ oo 3) (by unfold plCp rowCp codeSet; rw [mcp_o (by omega), mcp_o (by omega), m2_o (by omega), mcp_o (by omega), mcp_o (by omega), mcp_o (by omega), mcp_o (by omega), m2_o (by omega), m2_o (by omega), m2_o (by omega), m2_o (by omega)]) ?_
  refine sg_put (v := σ oo 3) (ty := .int) hx hb hts hown hK hM sgA (sh1 hmo) (kd_lt hmo (by decide)) rfl inX3 tyX3 tyX3_ok nmX3 3 (by decide) wf_X3_32 rfl (by decide +kernel) rfl rfl (Nat.le_of_ble_eq_true rfl) (by rw [sh1 hmo]; rfl) dX3_become_55 (fun H locs hM => ?_)
  exact hret _ _ _ _ _ dX3_become_58 hM (rfl)
end
section
/-! WHAT IS SO: the code, END, what was SENT, HEARD -/
abbrev Rec : Type := (Nat × Nat × Nat × Int32) × (Nat × (Nat → Nat) × (Nat → Nat)) × (Nat × (Nat → Int32) × (Nat → Int32))
abbrev rM (A : Rec) : Nat := A.1.1
abbrev rG (A : Rec) : Nat := A.1.2.1
abbrev rH (A : Rec) : Nat := A.1.2.2.1
abbrev rE (A : Rec) : Int32 := A.1.2.2.2
abbrev rS (A : Rec) : Nat := A.2.1.1
abbrev rU (A : Rec) : Nat → Nat := A.2.1.2.1
abbrev rW (A : Rec) : Nat → Nat := A.2.1.2.2
abbrev rN (A : Rec) : Nat := A.2.2.1
abbrev rX (A : Rec) : Nat → Int32 := A.2.2.2.1
abbrev rY (A : Rec) : Nat → Int32 := A.2.2.2.2
def stS (A : Rec) : Nat → Nat
  | 0 => 0
  | k + 1 => nx (rM A) (stS A k) (rU A k)
def fmS (A : Rec) (k : Nat) : Nat := fam (rM A) (rG A) (rH A) (stS A k) (rU A k)
def ptS (A : Rec) (k : Nat) : Nat := pt (fmS A k) (rW A k)
def hOK (x y : Int32) : Prop := (-99 ≤ x.toInt ∧ x.toInt ≤ 99) ∧ -99 ≤ y.toInt ∧ y.toInt ≤ 99
/-- a code within its bounds -/
def cOK (m g h : Nat) : Prop := (1 ≤ m ∧ m ≤ 3) ∧ (1 ≤ g ∧ g < 2 * 2 ^ m) ∧ (1 ≤ h ∧ h < 2 * 2 ^ m)
theorem cOK.lt {m g h : Nat} (hc : cOK m g h) : g < 16 ∧ h < 16 := by
  have := p2_le hc.1.2
  obtain ⟨_, h1, h2⟩ := hc
  omega
def eOK (m : Nat) (e : Int32) : Prop := e = (-1) ∨ ∃ s, s < 2 ^ m ∧ e = nI s
def ROk (A : Rec) : Prop := cOK (rM A) (rG A) (rH A) ∧ (rS A ≤ 24 ∧ rN A ≤ 24) ∧ (∀ k, k < rS A → rU A k < 2 ∧ rW A k < 4) ∧ (∀ k, k < rN A → hOK (rX A k) (rY A k)) ∧ eOK (rM A) (rE A)
theorem stS_lt {A : Rec} (h : ROk A) : ∀ k, k ≤ rS A → stS A k < 2 ^ rM A
  | 0, _ => p2_pos _
  | k + 1, hk => nx_lt (h.2.2.1 k (by omega)).1 (stS_lt h k (by omega))
/-- a Moment holds what is so -/
def CM (σ : Mem) (mo : Nat) (A : Rec) : Prop := CodeAt σ (mo + 1) (rM A) (rG A) (rH A) ∧ σ mo 3 = rE A ∧ σ (mo + 2) 0 = nI (rS A) ∧ (∀ k, k < rS A → σ (mo + 2 + 1) k = nI (rU A k) ∧ σ (mo + 2 + 2) k = nI (rW A k) ∧ σ (mo + 2 + 3) k = nI (ptS A k) ∧ σ (mo + 2 + 4) k = nI (stS A (k + 1))) ∧ σ (mo + 7) 0 = nI (rN A) ∧ ∀ k, k < rN A → σ (mo + 7 + 1) k = rX A k ∧ σ (mo + 7 + 2) k = rY A k
theorem CM.keep {σ σ' : Mem} {mo : Nat} {A : Rec} (h : CM σ mo A) (e : ∀ k, mo ≤ k → k < mo + 10 → σ' k = σ k) : CM σ' mo A := by
  unfold CM CodeAt
  rw [e mo (by omega) (by omega), e (mo + 1) (by omega) (by omega), e (mo + 2) (by omega) (by omega), e (mo + 7) (by omega) (by omega), e (mo + 2 + 1) (by omega) (by omega), e (mo + 2 + 2) (by omega) (by omega), e (mo + 2 + 3) (by omega) (by omega), e (mo + 2 + 4) (by omega) (by omega), e (mo + 7 + 1) (by omega) (by omega), e (mo + 7 + 2) (by omega) (by omega)]
  exact h
theorem CM.last {σ : Mem} {mo : Nat} {A : Rec} (h : CM σ mo A) : lastV σ (mo + 2) (rS A) = nI (stS A (rS A)) := by
  unfold lastV
  by_cases h0 : rS A = 0
  · rw [if_pos h0, h0]; rfl
  · rw [if_neg h0, (h.2.2.2.1 (rS A - 1) (by omega)).2.2.2, show rS A - 1 + 1 = rS A by omega]
theorem moCp_o {σ : Mem} {mo oo n k : Nat} {x y z e : Int32} {j : Nat} (h : j < mo ∨ mo + 10 ≤ j) : moCp σ mo oo n k x y z e j = σ j := by
  unfold moCp plCp rowCp codeSet
  rw [m2_o (by omega), mcp_o (by omega), mcp_o (by omega), m2_o (by omega), mcp_o (by omega), mcp_o (by omega), mcp_o (by omega), mcp_o (by omega), m2_o (by omega), m2_o (by omega), m2_o (by omega), m2_o (by omega)]
theorem moCp_CM {σ : Mem} {mo oo : Nat} {A : Rec} (hA : CM σ oo A) (hap : mo + 10 ≤ oo ∨ oo + 10 ≤ mo) : CM (moCp σ mo oo (rS A) (rN A) (σ (oo + 1) 0) (σ (oo + 1) 1) (σ (oo + 1) 2) (σ oo 3)) mo A := by
  obtain ⟨h1, h2, h3, h4, h5, h6⟩ := hA
  unfold moCp plCp rowCp codeSet
  refine ⟨⟨?_, ?_, ?_, h1.2.2.2⟩, ?_, ?_, fun k hk => ⟨?_, ?_, ?_, ?_⟩, ?_, fun k hk => ⟨?_, ?_⟩⟩
  · rw [m2_o (by omega), mcp_o (by omega), mcp_o (by omega), m2_o (by omega), mcp_o (by omega), mcp_o (by omega), mcp_o (by omega), mcp_o (by omega), m2_o (by omega), m2_sn (by omega), m2_sn (by omega), m2_ss]; exact h1.1
  · rw [m2_o (by omega), mcp_o (by omega), mcp_o (by omega), m2_o (by omega), mcp_o (by omega), mcp_o (by omega), mcp_o (by omega), mcp_o (by omega), m2_o (by omega), m2_sn (by omega), m2_ss]; exact h1.2.1
  · rw [m2_o (by omega), mcp_o (by omega), mcp_o (by omega), m2_o (by omega), mcp_o (by omega), mcp_o (by omega), mcp_o (by omega), mcp_o (by omega), m2_o (by omega), m2_ss]; exact h1.2.2.1
  · rw [m2_ss]; exact h2
  · rw [m2_o (by omega), mcp_o (by omega), mcp_o (by omega), m2_o (by omega), mcp_o (by omega), mcp_o (by omega), mcp_o (by omega), mcp_o (by omega), m2_ss]
  · rw [m2_o (by omega), mcp_o (by omega), mcp_o (by omega), m2_o (by omega), mcp_o (by omega), mcp_o (by omega), mcp_o (by omega), mcp_s hk, m2_o (by omega), m2_o (by omega), m2_o (by omega), m2_o (by omega)]; exact (h4 k hk).1
  · rw [m2_o (by omega), mcp_o (by omega), mcp_o (by omega), m2_o (by omega), mcp_o (by omega), mcp_o (by omega), mcp_s hk, mcp_o (by omega), m2_o (by omega), m2_o (by omega), m2_o (by omega), m2_o (by omega)]; exact (h4 k hk).2.1
  · rw [m2_o (by omega), mcp_o (by omega), mcp_o (by omega), m2_o (by omega), mcp_o (by omega), mcp_s hk, mcp_o (by omega), mcp_o (by omega), m2_o (by omega), m2_o (by omega), m2_o (by omega), m2_o (by omega)]; exact (h4 k hk).2.2.1
  · rw [m2_o (by omega), mcp_o (by omega), mcp_o (by omega), m2_o (by omega), mcp_s hk, mcp_o (by omega), mcp_o (by omega), mcp_o (by omega), m2_o (by omega), m2_o (by omega), m2_o (by omega), m2_o (by omega)]; exact (h4 k hk).2.2.2
  · rw [m2_o (by omega), mcp_o (by omega), mcp_o (by omega), m2_ss]
  · rw [m2_o (by omega), mcp_o (by omega), mcp_s hk, m2_o (by omega), mcp_o (by omega), mcp_o (by omega), mcp_o (by omega), mcp_o (by omega), m2_o (by omega), m2_o (by omega), m2_o (by omega), m2_o (by omega)]; exact (h6 k hk).1
  · rw [m2_o (by omega), mcp_s hk, mcp_o (by omega), m2_o (by omega), mcp_o (by omega), mcp_o (by omega), mcp_o (by omega), mcp_o (by omega), m2_o (by omega), m2_o (by omega), m2_o (by omega), m2_o (by omega)]; exact (h6 k hk).2
/-- one more is kept for undo() -/
def phN (n : Nat) : Nat := if n < 8 then n + 1 else 8
def phP (n : Nat) (P : Nat → Rec) (A : Rec) : Nat → Rec := fun j => if n < 8 then (if j = n then A else P j) else (if j = 7 then A else P (j + 1))
/-- the ring -/
def PI (σ : Mem) (n o : Nat) (P : Nat → Rec) : Prop := (σ 11 0 = nI n ∧ n ≤ 8) ∧ (σ 11 1 = nI o ∧ o < 8) ∧ ∀ j, j < n → ROk (P j) ∧ CM σ (13 + 10 * ((o + j) % 8)) (P j)
theorem PI.keep {σ σ' : Mem} {n o : Nat} {P : Nat → Rec} (h : PI σ n o P) (e : ∀ k, 11 ≤ k → k < 93 → σ' k = σ k) : PI σ' n o P := by
  obtain ⟨h1, h2, h3⟩ := h
  refine ⟨by rw [e 11 (by omega) (by omega)]; exact h1, by rw [e 11 (by omega) (by omega)]; exact h2, fun j hj => ⟨(h3 j hj).1, (h3 j hj).2.keep (fun k _ _ => e k (by omega) (by omega))⟩⟩
def moC (σ : Mem) (mo oo : Nat) (A : Rec) : Mem := moCp σ mo oo (rS A) (rN A) (σ (oo + 1) 0) (σ (oo + 1) 1) (σ (oo + 1) 2) (σ oo 3)
theorem moC_o {σ : Mem} {mo oo : Nat} {A : Rec} {j : Nat} (h : j < mo ∨ mo + 10 ≤ j) : moC σ mo oo A j = σ j := moCp_o h
theorem moC_CM {σ : Mem} {mo oo : Nat} {A : Rec} (hA : CM σ oo A) (hap : mo + 10 ≤ oo ∨ oo + 10 ≤ mo) : CM (moC σ mo oo A) mo A := moCp_CM hA hap
theorem push1 {σ : Mem} {n o : Nat} {P : Nat → Rec} {A : Rec} (h : PI σ n o P) (hA : CM σ 1 A) (hR : ROk A) (hn : n < 8) : PI (m2 (moC σ (13 + 10 * ((o + n) % 8)) 1 A) 11 0 (nI (n + 1))) (phN n) o (phP n P A) := by
  obtain ⟨h1, h2, h3⟩ := h
  have hq : phN n = n + 1 := by unfold phN; rw [if_pos hn]
  refine ⟨⟨by rw [m2_ss, hq], by omega⟩, ⟨by rw [m2_sn (by omega), moC_o (by omega)]; exact h2.1, h2.2⟩, fun j hj => ?_⟩
  unfold phP
  rw [if_pos hn]
  by_cases hjn : j = n
  · rw [if_pos hjn]
    subst hjn
    exact ⟨hR, (moC_CM hA (by omega)).keep (fun k _ _ => m2_o (by omega))⟩
  · rw [if_neg hjn]
    refine ⟨(h3 j (by omega)).1, (h3 j (by omega)).2.keep (fun k _ _ => ?_)⟩
    rw [m2_o (by omega), moC_o]
    omega
theorem push2 {σ : Mem} {n o : Nat} {P : Nat → Rec} {A : Rec} (h : PI σ n o P) (hA : CM σ 1 A) (hR : ROk A) (hn : ¬ n < 8) : PI (m2 (moC σ (13 + 10 * ((o + n) % 8)) 1 A) 11 1 (nI ((o + 1) % 8))) (phN n) ((o + 1) % 8) (phP n P A) := by
  obtain ⟨h1, h2, h3⟩ := h
  have h8 : n = 8 := by omega
  subst h8
  refine ⟨⟨by rw [m2_sn (by omega), moC_o (by omega)]; exact h1.1, by decide⟩, ⟨by rw [m2_ss], by omega⟩, fun j hj => ?_⟩
  have hj : j < 8 := hj
  unfold phP
  rw [if_neg hn]
  by_cases hjn : j = 7
  · rw [if_pos hjn]
    subst hjn
    refine ⟨hR, ?_⟩
    rw [show ((o + 1) % 8 + 7) % 8 = (o + 8) % 8 by omega]
    exact (moC_CM hA (by omega)).keep (fun k _ _ => m2_o (by omega))
  · rw [if_neg hjn]
    refine ⟨(h3 (j + 1) (by omega)).1, ?_⟩
    rw [show ((o + 1) % 8 + j) % 8 = (o + (j + 1)) % 8 by omega]
    refine (h3 (j + 1) (by omega)).2.keep (fun k _ _ => ?_)
    rw [m2_o (by omega), moC_o]
    omega
/-- the class's part of what is so: now, the ring, the images -/
def IC (σ : Mem) (A : Rec) (n : Nat) (P : Nat → Rec) (J : Nat → Rec) (kp : Nat → Bool) : Prop := ROk A ∧ CM σ 1 A ∧ (∃ o, PI σ n o P) ∧ ∀ i, i < 2 → σ 114 i = bz (kp i) ∧ (kp i = true → ROk (J i) ∧ CM σ (94 + 10 * i) (J i))
theorem IC.keep {σ σ' : Mem} {A : Rec} {n : Nat} {P J : Nat → Rec} {kp : Nat → Bool} (h : IC σ A n P J kp) (e : ∀ k, k < 115 → σ' k = σ k) : IC σ' A n P J kp := by
  obtain ⟨h1, h2, ⟨o, h3⟩, h4⟩ := h
  refine ⟨h1, h2.keep (fun k _ _ => e k (by omega)), ⟨o, h3.keep (fun k _ _ => e k (by omega))⟩, fun i hi => ⟨by rw [e 114 (by omega)]; exact (h4 i hi).1, fun q => ⟨((h4 i hi).2 q).1, ((h4 i hi).2 q).2.keep (fun k _ _ => e k (by omega))⟩⟩⟩
/-- behind push(): now as it was, one more to undo -/
theorem IC.pushed {σ σ' : Mem} {A : Rec} {n o : Nat} {P J : Nat → Rec} {kp : Nat → Bool} (h : IC σ A n P J kp) {n' : Nat} {P' : Nat → Rec} (hp : PI σ' n' o P') (e : ∀ k, k < 11 ∨ 93 ≤ k → σ' k = σ k) : IC σ' A n' P' J kp := by
  obtain ⟨h1, h2, _, h4⟩ := h
  exact ⟨h1, h2.keep (fun k _ _ => e k (by omega)), ⟨o, hp⟩, fun i hi => ⟨by rw [e 114 (by omega)]; exact (h4 i hi).1, fun q => ⟨((h4 i hi).2 q).1, ((h4 i hi).2 q).2.keep (fun k _ _ => e k (by omega))⟩⟩⟩
/-- now is another -/
theorem IC.nowed {σ σ' : Mem} {A B : Rec} {n : Nat} {P J : Nat → Rec} {kp : Nat → Bool} (h : IC σ A n P J kp) (hB : ROk B) (hC : CM σ' 1 B) (e : ∀ k, 11 ≤ k → k < 115 → σ' k = σ k) : IC σ' B n P J kp := by
  obtain ⟨_, _, ⟨o, h3⟩, h4⟩ := h
  exact ⟨hB, hC, ⟨o, h3.keep (fun k _ _ => e k (by omega) (by omega))⟩, fun i hi => ⟨by rw [e 114 (by omega) (by omega)]; exact (h4 i hi).1, fun q => ⟨((h4 i hi).2 q).1, ((h4 i hi).2 q).2.keep (fun k _ _ => e k (by omega) (by omega))⟩⟩⟩
end
section
set_option maxHeartbeats 4000000 in
set_option maxRecDepth 100000 in
theorem c_Past_push (l : Launch) (G : GT) (b : Nat) (σ : Mem) (A : Rec) (n o : Nat) (P : Nat → Rec) (hp : PI σ n o P) (hA : CM σ 1 A) (hR : ROk A) : KV l G b yX5_push cX5_push 2 3 σ [.ref (b + 11), .ref (b + 1)] (fun σ' => (∃ o', PI σ' (phN n) o' (phP n P A)) ∧ ∀ k, k < 11 ∨ 93 ≤ k → σ' k = σ k) := by
  refine sg_metV [.ref (b + 11), .ref (b + 1)] (by decide) (Nat.le_of_ble_eq_true rfl) ?_
  intro vp ve vs vm args below meth vc ls Q hx hb hml hown hts hK hM hl hret
  have hl : lv_has ls 2 [(0, .ref (b + 11)), (1, .ref (b + 1))] := hl
  have hn8 := hp.1.2
  have ho8 := hp.2.1.2
  refine lv_aload_n hx hb dX5_push_0 rfl (lv_at hl 0 rfl) ?_
  refine sg_get (v := .ref (b + 12)) hx hb hts hown hK hM (sh6 kc_11) (kd_lt kc_11 (by decide)) rfl inX5 2 (by decide) wf_X5_11 rfl dX5_push_1 ?_
  refine lv_aload_n hx hb dX5_push_4 rfl (lv_at hl 0 rfl) ?_
  refine sg_get (v := .int (σ 11 1)) hx hb hts hown hK hM (sh6 kc_11) (kd_lt kc_11 (by decide)) rfl inX5 1 (by decide) wf_X5_18 rfl dX5_push_5 ?_
  refine sn_top (y := nI o) (hp.2.1.1) ?_
  refine lv_aload_n hx hb dX5_push_8 rfl (lv_at hl 0 rfl) ?_
  refine sg_get (v := .int (σ 11 0)) hx hb hts hown hK hM (sh6 kc_11) (kd_lt kc_11 (by decide)) rfl inX5 0 (by decide) wf_X5_22 rfl dX5_push_9 ?_
  refine sn_top (y := nI n) (hp.1.1) ?_
  refine sn_iadd hx hb dX5_push_12 ?_
  refine lv_bipush (v := nI 8) hx hb dX5_push_13 (by decide) ?_
  refine sn_irem hx hb dX5_push_15 (by omega) (by omega) (by omega) ?_
  refine sg_aald (g := fun j => 13 + 10 * j) hx hb hK hM (sh7 kc_12) (kd_lt kc_12 (by decide)) (i := (o + n) % 8) (by omega) (by decide) dX5_push_16 ?_
  refine lv_aload_n hx hb dX5_push_17 rfl (lv_at hl 1 rfl) ?_
  refine sg_cv (sg_runV (d := 2) (As := [.ref (b + 1)]) (rest := []) hx hb hml hts hown hK hM (c_Mo_become l G b σ (13 + 10 * ((o + n) % 8)) 1 (rS A) (rN A) (kdRing _ (by omega)) kc_1 (by omega) hA.2.2.1 hR.2.1.1 hA.2.2.2.2.1 hR.2.1.2) mi_X3_become wl_X5_25 (sh1 (kdRing _ (by omega))) (kd_lt (kdRing _ (by omega)) (by decide)) rfl rfl rfl hl.1 rfl (Nat.le_of_ble_eq_true rfl) dX5_push_18 ⟨by decide, by decide⟩ ⟨Nat.le_refl 0, Nat.le_refl 0⟩) hM sgA (fun σ_18 H locs hp_18 hM => ?_)
  subst σ_18
  refine lv_aload_n hx hb dX5_push_21 rfl (lv_at hl 0 rfl) ?_
  refine sg_get (v := .int ((moC σ (13 + 10 * ((o + n) % 8)) 1 A) 11 0)) hx hb hts hown hK hM (sh6 kc_11) (kd_lt kc_11 (by decide)) rfl inX5 0 (by decide) wf_X5_22 rfl dX5_push_22 ?_
  refine sn_top (y := nI n) (by rw [moC_o (by omega)]; exact hp.1.1) ?_
  refine lv_bipush (v := nI 8) hx hb dX5_push_25 (by decide) ?_
  refine sn_icmp_ge (tgt := 43) hx hb dX5_push_27 (by decide) (by omega) (by omega) (fun c_27 => ?_) (fun c_27 => ?_)
  · refine lv_aload_n hx hb dX5_push_43 rfl (lv_at hl 0 rfl) ?_
    refine lv_aload_n hx hb dX5_push_44 rfl (lv_at hl 0 rfl) ?_
    refine sg_get (v := .int ((moC σ (13 + 10 * ((o + n) % 8)) 1 A) 11 1)) hx hb hts hown hK hM (sh6 kc_11) (kd_lt kc_11 (by decide)) rfl inX5 1 (by decide) wf_X5_18 rfl dX5_push_45 ?_
    refine sn_top (y := nI o) (by rw [moC_o (by omega)]; exact hp.2.1.1) ?_
    refine lv_iconst (v := nI 1) hx hb dX5_push_48 (by decide) ?_
    refine sn_iadd hx hb dX5_push_49 ?_
    refine lv_bipush (v := nI 8) hx hb dX5_push_50 (by decide) ?_
    refine sn_irem hx hb dX5_push_52 (by omega) (by omega) (by omega) ?_
    refine sg_put (v := nI ((o + 1) % 8)) (ty := .int) hx hb hts hown hK hM sgA (sh6 kc_11) (kd_lt kc_11 (by decide)) rfl inX5 tyX5 tyX5_ok nmX5 1 (by decide) wf_X5_18 rfl (by decide +kernel) rfl rfl (Nat.le_of_ble_eq_true rfl) (by rw [sh6 kc_11]; rfl) dX5_push_53 (fun H locs hM => ?_)
    exact hret _ _ _ _ _ dX5_push_56 hM (by first | exact ⟨⟨o, push1 hp hA hR (by omega)⟩, fun k hk => by rw [m2_o (by omega), moCp_o (by omega)]⟩ | exact ⟨⟨_, push2 hp hA hR (by omega)⟩, fun k hk => by rw [m2_o (by omega), moCp_o (by omega)]⟩)
  · refine lv_aload_n hx hb dX5_push_30 rfl (lv_at hl 0 rfl) ?_
    refine lv_dup hx hb dX5_push_31 rfl ?_
    refine sg_get (v := .int ((moC σ (13 + 10 * ((o + n) % 8)) 1 A) 11 0)) hx hb hts hown hK hM (sh6 kc_11) (kd_lt kc_11 (by decide)) rfl inX5 0 (by decide) wf_X5_22 rfl dX5_push_32 ?_
    refine sn_top (y := nI n) (by rw [moC_o (by omega)]; exact hp.1.1) ?_
    refine lv_iconst (v := nI 1) hx hb dX5_push_35 (by decide) ?_
    refine sn_iadd hx hb dX5_push_36 ?_
    refine sg_put (v := nI (n + 1)) (ty := .int) hx hb hts hown hK hM sgA (sh6 kc_11) (kd_lt kc_11 (by decide)) rfl inX5 tyX5 tyX5_ok nmX5 0 (by decide) wf_X5_22 rfl (by decide +kernel) rfl rfl (Nat.le_of_ble_eq_true rfl) (by rw [sh6 kc_11]; rfl) dX5_push_37 (fun H locs hM => ?_)
    refine lv_goto (tgt := 56) hx hb dX5_push_40 (by decide) ?_
    exact hret _ _ _ _ _ dX5_push_56 hM (by first | exact ⟨⟨o, push1 hp hA hR (by omega)⟩, fun k hk => by rw [m2_o (by omega), moCp_o (by omega)]⟩ | exact ⟨⟨_, push2 hp hA hR (by omega)⟩, fun k hk => by rw [m2_o (by omega), moCp_o (by omega)]⟩)
theorem pop_ok {σ : Mem} {n o : Nat} {P : Nat → Rec} (h : PI σ n o P) (hn : 0 < n) : PI (moC (m2 σ 11 0 (nI (n - 1))) 1 (13 + 10 * ((o + (n - 1)) % 8)) (P (n - 1))) (n - 1) o P ∧ CM (moC (m2 σ 11 0 (nI (n - 1))) 1 (13 + 10 * ((o + (n - 1)) % 8)) (P (n - 1))) 1 (P (n - 1)) := by
  obtain ⟨h1, h2, h3⟩ := h
  refine ⟨⟨⟨by rw [moC_o (by omega), m2_ss], by omega⟩, ⟨by rw [moC_o (by omega), m2_sn (by omega)]; exact h2.1, h2.2⟩, fun j hj => ⟨(h3 j (by omega)).1, (h3 j (by omega)).2.keep (fun k _ _ => by rw [moC_o (by omega), m2_o (by omega)])⟩⟩, ?_⟩
  exact moC_CM ((h3 (n - 1) (by omega)).2.keep (fun k _ _ => m2_o (by omega))) (by omega)
set_option maxHeartbeats 4000000 in
set_option maxRecDepth 100000 in
theorem c_Past_pop (l : Launch) (G : GT) (b : Nat) (σ : Mem) (n o : Nat) (P : Nat → Rec) (hp : PI σ n o P) (hn0 : n ≠ 0) : KV l G b yX5_popInto cX5_popInto 2 3 σ [.ref (b + 11), .ref (b + 1)] (fun σ' => (PI σ' (n - 1) o P ∧ CM σ' 1 (P (n - 1))) ∧ ∀ k, k = 0 ∨ 12 ≤ k → σ' k = σ k) := by
  refine sg_metV [.ref (b + 11), .ref (b + 1)] (by decide) (Nat.le_of_ble_eq_true rfl) ?_
  intro vp ve vs vm args below meth vc ls Q hx hb hml hown hts hK hM hl hret
  have hl : lv_has ls 2 [(0, .ref (b + 11)), (1, .ref (b + 1))] := hl
  have hn8 := hp.1.2
  have ho8 := hp.2.1.2
  have hR := (hp.2.2 (n - 1) (by omega)).1
  have hC : CM (m2 σ 11 0 (nI (n - 1))) (13 + 10 * ((o + (n - 1)) % 8)) (P (n - 1)) := (hp.2.2 (n - 1) (by omega)).2.keep (fun k _ _ => m2_o (by omega))
  refine lv_aload_n hx hb dX5_popInto_0 rfl (lv_at hl 0 rfl) ?_
  refine sg_get (v := .int (σ 11 0)) hx hb hts hown hK hM (sh6 kc_11) (kd_lt kc_11 (by decide)) rfl inX5 0 (by decide) wf_X5_22 rfl dX5_popInto_1 ?_
  refine sn_top (y := nI n) (hp.1.1) ?_
  refine sn_if_ne (tgt := 8) hx hb dX5_popInto_4 (by decide) (by omega) (fun c_4 => ?_) (fun c_4 => ?_)
  · refine lv_aload_n hx hb dX5_popInto_8 rfl (lv_at hl 0 rfl) ?_
    refine lv_dup hx hb dX5_popInto_9 rfl ?_
    refine sg_get (v := .int (σ 11 0)) hx hb hts hown hK hM (sh6 kc_11) (kd_lt kc_11 (by decide)) rfl inX5 0 (by decide) wf_X5_22 rfl dX5_popInto_10 ?_
    refine sn_top (y := nI n) (hp.1.1) ?_
    refine lv_iconst (v := nI 1) hx hb dX5_popInto_13 (by decide) ?_
    refine sn_isub hx hb dX5_popInto_14 (by omega) ?_
    refine sg_put (v := nI (n - 1)) (ty := .int) hx hb hts hown hK hM sgA (sh6 kc_11) (kd_lt kc_11 (by decide)) rfl inX5 tyX5 tyX5_ok nmX5 0 (by decide) wf_X5_22 rfl (by decide +kernel) rfl rfl (Nat.le_of_ble_eq_true rfl) (by rw [sh6 kc_11]; rfl) dX5_popInto_15 (fun H locs hM => ?_)
    refine lv_aload_n hx hb dX5_popInto_18 rfl (lv_at hl 1 rfl) ?_
    refine lv_aload_n hx hb dX5_popInto_19 rfl (lv_at hl 0 rfl) ?_
    refine sg_get (v := .ref (b + 12)) hx hb hts hown hK hM (sh6 kc_11) (kd_lt kc_11 (by decide)) rfl inX5 2 (by decide) wf_X5_11 rfl dX5_popInto_20 ?_
    refine lv_aload_n hx hb dX5_popInto_23 rfl (lv_at hl 0 rfl) ?_
    refine sg_get (v := .int ((m2 σ 11 0 (nI (n - 1))) 11 1)) hx hb hts hown hK hM (sh6 kc_11) (kd_lt kc_11 (by decide)) rfl inX5 1 (by decide) wf_X5_18 rfl dX5_popInto_24 ?_
    refine sn_top (y := nI o) (by rw [m2_sn (by omega)]; exact hp.2.1.1) ?_
    refine lv_aload_n hx hb dX5_popInto_27 rfl (lv_at hl 0 rfl) ?_
    refine sg_get (v := .int ((m2 σ 11 0 (nI (n - 1))) 11 0)) hx hb hts hown hK hM (sh6 kc_11) (kd_lt kc_11 (by decide)) rfl inX5 0 (by decide) wf_X5_22 rfl dX5_popInto_28 ?_
    refine sn_top (y := nI (n - 1)) (m2_ss) ?_
    refine sn_iadd hx hb dX5_popInto_31 ?_
    refine lv_bipush (v := nI 8) hx hb dX5_popInto_32 (by decide) ?_
    refine sn_irem hx hb dX5_popInto_34 (by omega) (by omega) (by omega) ?_
    refine sg_aald (g := fun j => 13 + 10 * j) hx hb hK hM (sh7 kc_12) (kd_lt kc_12 (by decide)) (i := (o + (n - 1)) % 8) (by omega) (by decide) dX5_popInto_35 ?_
    refine sg_cv (sg_runV (d := 2) (As := [.ref (b + (13 + 10 * ((o + (n - 1)) % 8)))]) (rest := []) hx hb hml hts hown hK hM (c_Mo_become l G b (m2 σ 11 0 (nI (n - 1))) 1 (13 + 10 * ((o + (n - 1)) % 8)) (rS (P (n - 1))) (rN (P (n - 1))) kc_1 (kdRing _ (by omega)) (by omega) hC.2.2.1 hR.2.1.1 hC.2.2.2.2.1 hR.2.1.2) mi_X3_become wl_X5_25 (sh1 kc_1) (kd_lt kc_1 (by decide)) rfl rfl rfl hl.1 rfl (Nat.le_of_ble_eq_true rfl) dX5_popInto_36 ⟨by decide, by decide⟩ ⟨Nat.le_refl 0, Nat.le_refl 0⟩) hM sgA (fun σ_36 H locs hp_36 hM => ?_)
    subst σ_36
    exact hret _ _ _ _ _ dX5_popInto_39 hM (by exact ⟨pop_ok hp (by omega), fun k hk => by rw [moCp_o (by omega), m2_o (by omega)]⟩)
  · exact absurd c_4 (by omega)
set_option maxHeartbeats 4000000 in
set_option maxRecDepth 100000 in
theorem c_Past_forget (l : Launch) (G : GT) (b : Nat) (σ : Mem)  : KV l G b yX5_forget cX5_forget 1 0 σ [.ref (b + 11)] (fun σ' => σ' = m2 σ 11 0 (nI 0)) := by
  refine sg_metV [.ref (b + 11)] (by decide) (Nat.le_of_ble_eq_true rfl) ?_
  intro vp ve vs vm args below meth vc ls Q hx hb hml hown hts hK hM hl hret
  have hl : lv_has ls 1 [(0, .ref (b + 11))] := hl
  refine lv_aload_n hx hb dX5_forget_0 rfl (lv_at hl 0 rfl) ?_
  refine lv_iconst (v := nI 0) hx hb dX5_forget_1 (by decide) ?_
  refine sg_put (v := nI 0) (ty := .int) hx hb hts hown hK hM sgA (sh6 kc_11) (kd_lt kc_11 (by decide)) rfl inX5 tyX5 tyX5_ok nmX5 0 (by decide) wf_X5_22 rfl (by decide +kernel) rfl rfl (Nat.le_of_ble_eq_true rfl) (by rw [sh6 kc_11]; rfl) dX5_forget_2 (fun H locs hM => ?_)
  exact hret _ _ _ _ _ dX5_forget_5 hM (rfl)
end
section
/-! THE NEAREST ROW: distances as numbers from 0 on -/
def dN (q : Nat) (x y : Int32) : Nat := (far q x y).toNatClampNeg
theorem hOK_of {x : Int32} (h : -99 ≤ x.toInt ∧ x.toInt ≤ 99) : ∃ a, a < 199 ∧ x = nI a - nI 99 := by
  refine ⟨(x.toInt + 99).toNat, by omega, ?_⟩
  apply Int32.toInt_inj.mp
  rw [pk_sub_toInt (by omega) (by omega)]
  omega
def sqN (i a : Nat) : Nat := ((nI (20 * i) - nI 30 - (nI a - nI 99)) * (nI (20 * i) - nI 30 - (nI a - nI 99))).toNatClampNeg
theorem sqN_ok : ∀ i, i < 4 → ∀ a, a < 199 → (nI (20 * i) - nI 30 - (nI a - nI 99)) * (nI (20 * i) - nI 30 - (nI a - nI 99)) = nI (sqN i a) ∧ sqN i a ≤ 20000 := by decide +kernel
theorem far_dN {q : Nat} {x y : Int32} (h : hOK x y) (hq : q < 16) : far q x y = nI (dN q x y) ∧ dN q x y ≤ 40000 := by
  obtain ⟨a, ha, rfl⟩ := hOK_of h.1
  obtain ⟨c, hc, rfl⟩ := hOK_of h.2
  have h1 := sqN_ok (q / 4) (by omega) a ha
  have h2 := sqN_ok (q % 4) (by omega) c hc
  have e : far q (nI a - nI 99) (nI c - nI 99) = nI (sqN (q / 4) a + sqN (q % 4) c) := by
    unfold far gx gy
    rw [h1.1, h2.1, nI_add]
  have e2 : dN q (nI a - nI 99) (nI c - nI 99) = sqN (q / 4) a + sqN (q % 4) c := by
    unfold dN
    rw [e, nI_clamp (by omega)]
  rw [e2]
  exact ⟨e, by omega⟩
abbrev NV : Nat := 99999999
/-- the least distance of a family's first n points, and which it is -/
def tlN (f : Nat) (x y : Int32) : Nat → Nat
  | 0 => NV
  | n + 1 => if dN (pt f n) x y < tlN f x y n then dN (pt f n) x y else tlN f x y n
def cwN (f : Nat) (x y : Int32) : Nat → Nat
  | 0 => 0
  | n + 1 => if dN (pt f n) x y < tlN f x y n then n else cwN f x y n
theorem tlN_s (f : Nat) (x y : Int32) (n : Nat) : tlN f x y (n + 1) = if dN (pt f n) x y < tlN f x y n then dN (pt f n) x y else tlN f x y n := rfl
theorem cwN_s (f : Nat) (x y : Int32) (n : Nat) : cwN f x y (n + 1) = if dN (pt f n) x y < tlN f x y n then n else cwN f x y n := rfl
theorem tlN_le (f : Nat) (x y : Int32) : ∀ n, tlN f x y n ≤ NV
  | 0 => Nat.le_refl _
  | n + 1 => by
    rw [tlN_s]
    have := tlN_le f x y n
    split <;> omega
theorem cwN_lt (f : Nat) (x y : Int32) : ∀ n, 0 < n → cwN f x y n < n
  | 0, h => absurd h (by omega)
  | n + 1, _ => by
    rw [cwN_s]
    split
    · omega
    · rcases Nat.eq_zero_or_pos n with rfl | h
      · show 0 < 1; decide
      · have := cwN_lt f x y n h; omega
def tl (f : Nat) (x y : Int32) : Nat := tlN f x y 4
def cw (f : Nat) (x y : Int32) : Nat := cwN f x y 4
theorem cw_lt (f : Nat) (x y : Int32) : cw f x y < 4 := cwN_lt f x y 4 (by decide)
theorem tl_le {f : Nat} {x y : Int32} (h : hOK x y) (hf : f < 4) : tl f x y ≤ 40000 := by
  have h1 := (far_dN h (pt_lt hf (show 0 < 4 by decide))).2
  have s : ∀ n, tlN f x y (n + 1) ≤ 40000 := by
    intro n
    induction n with
    | zero =>
      rw [tlN_s, if_pos (show dN (pt f 0) x y < tlN f x y 0 from Nat.lt_of_le_of_lt h1 (by show 40000 < NV; decide))]
      exact h1
    | succ n ih =>
      rw [tlN_s]
      split <;> omega
  exact s 3
/-- what is left and a step's toll -/
def stp (v t : Nat) : Nat := if v = NV then NV else v + t
/-- the least cost of the last j of n steps from a state -/
def dp (m g h : Nat) (tc : Nat → Nat → Nat) (n : Nat) (e : Int32) : Nat → Nat → Nat
  | 0, s => if e = (-1) ∨ e = nI s then 0 else NV
  | j + 1, s => min (stp (dp m g h tc n e j (nx m s 0)) (tc (n - 1 - j) (fam m g h s 0))) (stp (dp m g h tc n e j (nx m s 1)) (tc (n - 1 - j) (fam m g h s 1)))
theorem dp_s (m g h : Nat) (tc : Nat → Nat → Nat) (n : Nat) (e : Int32) (j s : Nat) : dp m g h tc n e (j + 1) s = min (stp (dp m g h tc n e j (nx m s 0)) (tc (n - 1 - j) (fam m g h s 0))) (stp (dp m g h tc n e j (nx m s 1)) (tc (n - 1 - j) (fam m g h s 1))) := rfl
theorem dp_b {m g h : Nat} {tc : Nat → Nat → Nat} {n : Nat} {e : Int32} (hn : n ≤ 24) (ht : ∀ k, k < n → ∀ f, f < 4 → tc k f ≤ 40000) : ∀ j, j ≤ n → ∀ s, dp m g h tc n e j s = NV ∨ dp m g h tc n e j s ≤ 40000 * j
  | 0, _, s => by
    unfold dp
    split
    · right; omega
    · left; rfl
  | j + 1, hj, s => by
    have hk : n - 1 - j < n := by omega
    have h0 := dp_b (m := m) (g := g) (h := h) (e := e) hn ht j (by omega) (nx m s 0)
    have h1 := dp_b (m := m) (g := g) (h := h) (e := e) hn ht j (by omega) (nx m s 1)
    have t0 := ht _ hk _ (fam_lt m g h s 0)
    have t1 := ht _ hk _ (fam_lt m g h s 1)
    have q0 : ∀ v t, (v = NV ∨ v ≤ 40000 * j) → t ≤ 40000 → (stp v t = NV ∨ stp v t ≤ 40000 * (j + 1)) := by
      intro v t hv ht
      unfold stp
      split
      · exact Or.inl rfl
      · right; omega
    have a := q0 _ _ h0 t0
    have b := q0 _ _ h1 t1
    show min (stp _ _) (stp _ _) = NV ∨ min (stp _ _) (stp _ _) ≤ _
    rw [Nat.min_def]
    split
    · exact a
    · exact b
theorem dp_le {m g h : Nat} {tc : Nat → Nat → Nat} {n : Nat} {e : Int32} (hn : n ≤ 24) (ht : ∀ k, k < n → ∀ f, f < 4 → tc k f ≤ 40000) {j : Nat} (hj : j ≤ n) (s : Nat) : dp m g h tc n e j s ≤ NV := by
  rcases dp_b (e := e) (m := m) (g := g) (h := h) hn ht j hj s with q | q
  · omega
  · show _ ≤ 99999999
    omega
theorem stp_le {v t : Nat} (hv : v ≤ NV) (ht : t ≤ 40000) : stp v t < 2 ^ 31 := by
  unfold stp
  have : NV = 99999999 := rfl
  split <;> omega
/-- the step that is taken at step k from a state -/
def du (m g h : Nat) (tc : Nat → Nat → Nat) (n : Nat) (e : Int32) (k s : Nat) : Nat := if stp (dp m g h tc n e (n - 1 - k) (nx m s 0)) (tc k (fam m g h s 0)) ≤ stp (dp m g h tc n e (n - 1 - k) (nx m s 1)) (tc k (fam m g h s 1)) then 0 else 1
/-- the state ahead of step k of the nearest row -/
def qS (m g h : Nat) (tc : Nat → Nat → Nat) (n : Nat) (e : Int32) : Nat → Nat
  | 0 => 0
  | k + 1 => nx m (qS m g h tc n e k) (du m g h tc n e k (qS m g h tc n e k))
def qU (m g h : Nat) (tc : Nat → Nat → Nat) (n : Nat) (e : Int32) (k : Nat) : Nat := du m g h tc n e k (qS m g h tc n e k)
def qF (m g h : Nat) (tc : Nat → Nat → Nat) (n : Nat) (e : Int32) (k : Nat) : Nat := fam m g h (qS m g h tc n e k) (qU m g h tc n e k)
theorem du_lt (m g h : Nat) (tc : Nat → Nat → Nat) (n : Nat) (e : Int32) (k s : Nat) : du m g h tc n e k s < 2 := by unfold du; split <;> decide
theorem qS_lt (m g h : Nat) (tc : Nat → Nat → Nat) (n : Nat) (e : Int32) : ∀ k, qS m g h tc n e k < 2 ^ m
  | 0 => p2_pos _
  | k + 1 => nx_lt (du_lt _ _ _ _ _ _ _ _) (qS_lt m g h tc n e k)
/-- the tolls of what was HEARD; the choices -/
def tcA (A : Rec) (k f : Nat) : Nat := tl f (rX A k) (rY A k)
def cwA (A : Rec) (k f : Nat) : Nat := cw f (rX A k) (rY A k)
theorem tcA_le {A : Rec} (h : ROk A) : ∀ k, k < rN A → ∀ f, f < 4 → tcA A k f ≤ 40000 := fun k hk _ hf => tl_le (h.2.2.2.1 k hk) hf
abbrev dA (A : Rec) (n : Nat) (e : Int32) (j s : Nat) : Nat := dp (rM A) (rG A) (rH A) (tcA A) n e j s
abbrev sA (A : Rec) (n : Nat) (e : Int32) (k : Nat) : Nat := qS (rM A) (rG A) (rH A) (tcA A) n e k
abbrev uA (A : Rec) (n : Nat) (e : Int32) (k : Nat) : Nat := qU (rM A) (rG A) (rH A) (tcA A) n e k
abbrev fA (A : Rec) (n : Nat) (e : Int32) (k : Nat) : Nat := qF (rM A) (rG A) (rH A) (tcA A) n e k
abbrev wA (A : Rec) (n : Nat) (e : Int32) (k : Nat) : Nat := cwA A k (fA A n e k)
abbrev pA (A : Rec) (n : Nat) (e : Int32) (k : Nat) : Nat := pt (fA A n e k) (wA A n e k)
theorem dA_s (A : Rec) (n : Nat) (e : Int32) (j s : Nat) : dA A n e (j + 1) s = min (stp (dA A n e j (nx (rM A) s 0)) (tcA A (n - 1 - j) (fam (rM A) (rG A) (rH A) s 0))) (stp (dA A n e j (nx (rM A) s 1)) (tcA A (n - 1 - j) (fam (rM A) (rG A) (rH A) s 1))) := rfl
theorem uA_d (A : Rec) (n : Nat) (e : Int32) (k : Nat) : uA A n e k = if stp (dA A n e (n - 1 - k) (nx (rM A) (sA A n e k) 0)) (tcA A k (fam (rM A) (rG A) (rH A) (sA A n e k) 0)) ≤ stp (dA A n e (n - 1 - k) (nx (rM A) (sA A n e k) 1)) (tcA A k (fam (rM A) (rG A) (rH A) (sA A n e k) 1)) then 0 else 1 := rfl
/-- the search's row holds the first i steps of the nearest row -/
def RowN (σ : Mem) (A : Rec) (n : Nat) (e : Int32) (i : Nat) : Prop := σ 116 0 = nI i ∧ ∀ k, k < i → σ 117 k = nI (uA A n e k) ∧ σ 118 k = nI (wA A n e k) ∧ σ 119 k = nI (pA A n e k) ∧ σ 120 k = nI (sA A n e (k + 1))
theorem q_dec1 (a : Int32) : a + Int32.ofInt (-1) = a - nI 1 := by rw [Int32.sub_eq_add_neg]; rfl
theorem q_neg {j : Nat} (hj : j < 2 ^ 30) (h : nI j - nI 1 < 0) : j = 0 := by
  rcases Nat.eq_zero_or_pos j with q | q
  · exact q
  · rw [pk_sub (show 1 ≤ j from q)] at h
    exact absurd h (nI_pos (by omega))
theorem q_nneg {j : Nat} (h : ¬ nI j - nI 1 < 0) : 1 ≤ j := by
  rcases Nat.eq_zero_or_pos j with q | q
  · subst q
    exact absurd (by decide) h
  · exact q
end
section
set_option maxHeartbeats 4000000 in
set_option maxRecDepth 100000 in
theorem c_Se_choose (l : Launch) (G : GT) (b : Nat) (σ : Mem) (k f : Nat) (x y : Int32) (hk : k < 24) (hf : f < 4) (hxy : hOK x y) : KV l G b yX8_choose cX8_choose 8 2 σ [.ref (b + 115), .int (nI k), .int (nI f), .int x, .int y] (fun σ' => (σ' 122 (k * 4 + f) = nI (tl f x y) ∧ σ' 121 (k * 4 + f) = nI (cw f x y)) ∧ (∀ c, c ≠ 121 → c ≠ 122 → σ' c = σ c) ∧ (∀ i, i ≠ k * 4 + f → σ' 121 i = σ 121 i ∧ σ' 122 i = σ 122 i)) := by
  refine sg_metV [.ref (b + 115), .int (nI k), .int (nI f), .int x, .int y] (by decide) (Nat.le_of_ble_eq_true rfl) ?_
  intro vp ve vs vm args below meth vc ls Q hx hb hml hown hts hK hM hl hret
  have hl : lv_has ls 8 [(0, .ref (b + 115)), (1, .int (nI k)), (2, .int (nI f)), (3, .int x), (4, .int y)] := hl
  have hNV : NV = 99999999 := rfl
  refine lv_iload_n hx hb dX8_choose_0 rfl (lv_at hl 1 rfl) ?_
  refine lv_iconst (v := nI 4) hx hb dX8_choose_1 (by decide) ?_
  refine sn_imul hx hb dX8_choose_2 ?_
  refine lv_iload_n hx hb dX8_choose_3 rfl (lv_at hl 2 rfl) ?_
  refine sn_iadd hx hb dX8_choose_4 ?_
  refine lv_istore (lv' := [(5, .int (nI ((k * 4) + f))), (0, .ref (b + 115)), (1, .int (nI k)), (2, .int (nI f)), (3, .int x), (4, .int y)]) hx hb dX8_choose_5 hl (by decide) rfl (fun ls hl => ?_)
  refine lv_aload_n hx hb dX8_choose_7 rfl (lv_at hl 1 rfl) ?_
  refine sg_get (v := .ref (b + 122)) hx hb hts hown hK hM (sh10 kc_115) (kd_lt kc_115 (by decide)) rfl inX8 2 (by decide) wf_X8_22 rfl dX8_choose_8 ?_
  refine lv_iload hx hb dX8_choose_11 (lv_at hl 0 rfl) ?_
  refine lv_ldc (v := nI 99999999) hx hb hown (hts (Cond.constant RX8 50 (nI 99999999)) wk_X8_50) dX8_choose_13 ?_
  refine sg_iast hx hb hK hM sgA (fun f => sh11 kc_122) (kd_lt kc_122 (by decide)) (i := (k * 4) + f) (by omega) (by decide) dX8_choose_15 (fun H locs hM => ?_)
  refine lv_iconst (v := nI 0) hx hb dX8_choose_16 (by decide) ?_
  refine lv_istore (lv' := [(6, .int (nI 0)), (5, .int (nI ((k * 4) + f))), (0, .ref (b + 115)), (1, .int (nI k)), (2, .int (nI f)), (3, .int x), (4, .int y)]) hx hb dX8_choose_17 hl (by decide) rfl (fun ls hl => ?_)
  have L19 : ∀ (fuel : Nat) (w : Nat) (σ1 : Mem), (w ≤ 4) → (σ1 122 (k * 4 + f) = nI (tlN f x y w)) → (0 < w → σ1 121 (k * 4 + f) = nI (cwN f x y w)) → (∀ c, c ≠ 121 → c ≠ 122 → σ1 c = σ c) → (∀ i, i ≠ k * 4 + f → σ1 121 i = σ 121 i ∧ σ1 122 i = σ 122 i) → (4 - w) < fuel → ∀ (H : Heap) (locs : List Loc) (ls : Array Slot), St G (Fr b) b σ1 vs H locs → lv_has ls 8 [(0, .ref (b + 115)), (1, .int (nI k)), (2, .int (nI f)), (3, .int x), (4, .int y), (5, .int (nI (k * 4 + f))), (6, .int (nI w))] → W vp l ve (RM 2) vs vm args below meth vc H locs 0 0 Q (F0 vm 19 ls []) := by
    intro fuel
    induction fuel with
    | zero => intro w σ1 hw h1 h2 h3 h4 hF; exact absurd hF (Nat.not_lt_zero _)
    | succ fuel ih19 =>
      intro w σ1 hw h1 h2 h3 h4 hF H locs ls hM hl
      refine lv_iload hx hb dX8_choose_19 (lv_at hl 6 rfl) ?_
      refine lv_iconst (v := nI 4) hx hb dX8_choose_21 (by decide) ?_
      refine sn_icmp_ge (tgt := 75) hx hb dX8_choose_22 (by decide) (by omega) (by omega) (fun hlt => ?_) (fun hlt => ?_)
      · obtain rfl : w = 4 := by omega
        exact hret _ _ _ _ _ dX8_choose_75 hM (⟨⟨h1, h2 (by decide)⟩, h3, h4⟩)
      · refine lv_iload_n hx hb dX8_choose_25 rfl (lv_at hl 2 rfl) ?_
        refine lv_iload hx hb dX8_choose_26 (lv_at hl 6 rfl) ?_
        refine sg_ci (sg_runS (d := 0) (As := [.int (nI f), .int (nI w)]) (rest := []) hx hb hml hts hown hK hM (c_g_pointOf l G b σ1 f w (by first | omega | exact fam_lt _ _ _ _ _ | exact gf_lt _ | exact tf_lt _ | exact pt_lt (by first | omega | exact fam_lt _ _ _ _ _) (by omega) | exact tn_lt (by first | omega | exact pt_lt (by omega) (by omega))) (by first | omega | exact fam_lt _ _ _ _ _ | exact gf_lt _ | exact tf_lt _ | exact pt_lt (by first | omega | exact fam_lt _ _ _ _ _) (by omega) | exact tn_lt (by first | omega | exact pt_lt (by omega) (by omega)))) mi_X1_pointOf wl_X8_67 rfl hl.1 rfl (Nat.le_of_ble_eq_true rfl) dX8_choose_28 ⟨by decide, by decide⟩ ⟨Nat.le_refl 0, Nat.le_refl 0⟩) hM sgA (fun r_28 σ_28 H locs hp_28 hM => ?_)
        obtain ⟨hr_28, hs_28⟩ := hp_28; subst r_28; subst σ_28
        refine lv_iload_n hx hb dX8_choose_31 rfl (lv_at hl 3 rfl) ?_
        refine lv_iload hx hb dX8_choose_32 (lv_at hl 4 rfl) ?_
        refine sg_ci (sg_runS (d := 1) (As := [.int (nI (pt f w)), .int x, .int y]) (rest := []) hx hb hml hts hown hK hM (c_g_far l G b σ1 (pt f w) x y (by first | omega | exact fam_lt _ _ _ _ _ | exact gf_lt _ | exact tf_lt _ | exact pt_lt (by first | omega | exact fam_lt _ _ _ _ _) (by omega) | exact tn_lt (by first | omega | exact pt_lt (by omega) (by omega)))) mi_X1_farFrom wl_X8_73 rfl hl.1 rfl (Nat.le_of_ble_eq_true rfl) dX8_choose_34 ⟨by decide, by decide⟩ ⟨Nat.le_refl 0, Nat.le_refl 0⟩) hM sgA (fun r_34 σ_34 H locs hp_34 hM => ?_)
        obtain ⟨hr_34, hs_34⟩ := hp_34; subst r_34; subst σ_34
        refine sn_top (y := nI (dN (pt f w) x y)) ((far_dN hxy (pt_lt hf hlt)).1) ?_
        refine lv_istore (lv' := [(7, .int (nI (dN (pt f w) x y))), (0, .ref (b + 115)), (1, .int (nI k)), (2, .int (nI f)), (3, .int x), (4, .int y), (5, .int (nI (k * 4 + f))), (6, .int (nI w))]) hx hb dX8_choose_37 hl (by decide) rfl (fun ls hl => ?_)
        refine lv_iload hx hb dX8_choose_39 (lv_at hl 0 rfl) ?_
        refine lv_aload_n hx hb dX8_choose_41 rfl (lv_at hl 1 rfl) ?_
        refine sg_get (v := .ref (b + 122)) hx hb hts hown hK hM (sh10 kc_115) (kd_lt kc_115 (by decide)) rfl inX8 2 (by decide) wf_X8_22 rfl dX8_choose_42 ?_
        refine lv_iload hx hb dX8_choose_45 (lv_at hl 6 rfl) ?_
        refine sg_iald hx hb hK hM (sh11 kc_122) (kd_lt kc_122 (by decide)) (i := k * 4 + f) (by omega) (by decide) dX8_choose_47 ?_
        refine sn_top (y := nI (tlN f x y w)) (h1) ?_
        refine sn_icmp_ge (tgt := 69) hx hb dX8_choose_48 (by decide) (by have := (far_dN hxy (pt_lt hf hlt)).2; omega) (by have := tlN_le f x y w; omega) (fun c_48 => ?_) (fun c_48 => ?_)
        · refine lv_iinc (v := nI (w + 1)) (lv' := [(6, .int (nI (w + 1))), (7, .int (nI (dN (pt f w) x y))), (0, .ref (b + 115)), (1, .int (nI k)), (2, .int (nI f)), (3, .int x), (4, .int y), (5, .int (nI (k * 4 + f)))]) hx hb dX8_choose_69 hl (k := 7) rfl (q_inc _) (by decide) rfl (fun ls hl => ?_)
          refine lv_goto (tgt := 19) hx hb dX8_choose_72 (by decide) ?_
          exact ih19 (w + 1) σ1 (by omega) (by rw [tlN_s, if_neg (by omega)]; exact h1) (fun _ => by rw [cwN_s, if_neg (by omega)]; rcases Nat.eq_zero_or_pos w with q | q; exact absurd c_48 (by rw [q]; exact Nat.not_le.mpr (Nat.lt_of_le_of_lt (far_dN hxy (pt_lt hf (by decide))).2 (by show 40000 < NV; decide))); exact h2 q) h3 h4 (by omega) _ _ _ hM (lv_sub hl [2, 3, 4, 5, 6, 7, 0] rfl)
        · refine lv_aload_n hx hb dX8_choose_51 rfl (lv_at hl 1 rfl) ?_
          refine sg_get (v := .ref (b + 122)) hx hb hts hown hK hM (sh10 kc_115) (kd_lt kc_115 (by decide)) rfl inX8 2 (by decide) wf_X8_22 rfl dX8_choose_52 ?_
          refine lv_iload hx hb dX8_choose_55 (lv_at hl 6 rfl) ?_
          refine lv_iload hx hb dX8_choose_57 (lv_at hl 0 rfl) ?_
          refine sg_iast hx hb hK hM sgA (fun f => sh11 kc_122) (kd_lt kc_122 (by decide)) (i := k * 4 + f) (by omega) (by decide) dX8_choose_59 (fun H locs hM => ?_)
          refine lv_aload_n hx hb dX8_choose_60 rfl (lv_at hl 1 rfl) ?_
          refine sg_get (v := .ref (b + 121)) hx hb hts hown hK hM (sh10 kc_115) (kd_lt kc_115 (by decide)) rfl inX8 1 (by decide) wf_X8_18 rfl dX8_choose_61 ?_
          refine lv_iload hx hb dX8_choose_64 (lv_at hl 6 rfl) ?_
          refine lv_iload hx hb dX8_choose_66 (lv_at hl 7 rfl) ?_
          refine sg_iast hx hb hK hM sgA (fun f => sh11 kc_121) (kd_lt kc_121 (by decide)) (i := k * 4 + f) (by omega) (by decide) dX8_choose_68 (fun H locs hM => ?_)
          refine lv_iinc (v := nI (w + 1)) (lv' := [(6, .int (nI (w + 1))), (7, .int (nI (dN (pt f w) x y))), (0, .ref (b + 115)), (1, .int (nI k)), (2, .int (nI f)), (3, .int x), (4, .int y), (5, .int (nI (k * 4 + f)))]) hx hb dX8_choose_69 hl (k := 7) rfl (q_inc _) (by decide) rfl (fun ls hl => ?_)
          refine lv_goto (tgt := 19) hx hb dX8_choose_72 (by decide) ?_
          exact ih19 (w + 1) (m2 (m2 σ1 122 (k * 4 + f) (nI (dN (pt f w) x y))) 121 (k * 4 + f) (nI w)) (by omega) (by rw [m2_o (by decide), m2_ss, tlN_s, if_pos c_48]) (fun _ => by rw [m2_ss, cwN_s, if_pos c_48]) (fun c a1 a2 => by rw [m2_o a1, m2_o a2]; exact h3 c a1 a2) (fun i hi => ⟨by rw [m2_sn hi, m2_o (by decide)]; exact (h4 i hi).1, by rw [m2_o (by decide), m2_sn hi]; exact (h4 i hi).2⟩) (by omega) _ _ _ hM (lv_sub hl [2, 3, 4, 5, 6, 7, 0] rfl)
  exact L19 (_ + 1) 0 (m2 σ 122 ((k * 4) + f) (nI 99999999)) (by omega) (by rw [m2_ss]; rfl) (fun q => absurd q (by decide)) (fun c a1 a2 => by rw [m2_o a2]) (fun i hi => ⟨by rw [m2_o (by decide)], by rw [m2_sn hi]⟩) (Nat.lt_succ_self _) _ _ _ hM (lv_sub hl [2, 3, 4, 5, 6, 1, 0] rfl)
set_option maxHeartbeats 4000000 in
set_option maxRecDepth 100000 in
theorem c_Se_weigh (l : Launch) (G : GT) (b : Nat) (σ : Mem) (A : Rec) (n : Nat) (hR : ROk A) (hA : CM σ 1 A) (hn : n ≤ rN A) : KV l G b yX8_weigh cX8_weigh 5 3 σ [.ref (b + 115), .ref (b + 8), .int (nI n)] (fun σ' => (∀ k, k < n → ∀ f, f < 4 → σ' 122 (k * 4 + f) = nI (tcA A k f) ∧ σ' 121 (k * 4 + f) = nI (cwA A k f)) ∧ ∀ c, c ≠ 121 → c ≠ 122 → σ' c = σ c) := by
  refine sg_metV [.ref (b + 115), .ref (b + 8), .int (nI n)] (by decide) (Nat.le_of_ble_eq_true rfl) ?_
  intro vp ve vs vm args below meth vc ls Q hx hb hml hown hts hK hM hl hret
  have hl : lv_has ls 5 [(0, .ref (b + 115)), (1, .ref (b + 8)), (2, .int (nI n))] := hl
  have hn24 := hR.2.1.2
  refine lv_iconst (v := nI 0) hx hb dX8_weigh_0 (by decide) ?_
  refine lv_istore_n (lv' := [(3, .int (nI 0)), (0, .ref (b + 115)), (1, .ref (b + 8)), (2, .int (nI n))]) hx hb dX8_weigh_1 rfl hl (by decide) rfl (fun ls hl => ?_)
  have L2 : ∀ (fuel : Nat) (k : Nat) (σ1 : Mem), (k ≤ n) → (∀ k1, k1 < k → ∀ f1, f1 < 4 → σ1 122 (k1 * 4 + f1) = nI (tcA A k1 f1) ∧ σ1 121 (k1 * 4 + f1) = nI (cwA A k1 f1)) → (∀ c, c ≠ 121 → c ≠ 122 → σ1 c = σ c) → (n - k) < fuel → ∀ (H : Heap) (locs : List Loc) (ls : Array Slot), St G (Fr b) b σ1 vs H locs → lv_has ls 5 [(0, .ref (b + 115)), (1, .ref (b + 8)), (2, .int (nI n)), (3, .int (nI k))] → W vp l ve (RM 3) vs vm args below meth vc H locs 0 0 Q (F0 vm 2 ls []) := by
    intro fuel
    induction fuel with
    | zero => intro k σ1 hk h1 h2 hF; exact absurd hF (Nat.not_lt_zero _)
    | succ fuel ih2 =>
      intro k σ1 hk h1 h2 hF H locs ls hM hl
      refine lv_iload_n hx hb dX8_weigh_2 rfl (lv_at hl 3 rfl) ?_
      refine lv_iload_n hx hb dX8_weigh_3 rfl (lv_at hl 2 rfl) ?_
      refine sn_icmp_ge (tgt := 47) hx hb dX8_weigh_4 (by decide) (by omega) (by omega) (fun hlt => ?_) (fun hlt => ?_)
      · obtain rfl : k = n := by omega
        exact hret _ _ _ _ _ dX8_weigh_47 hM (⟨h1, h2⟩)
      · refine lv_iconst (v := nI 0) hx hb dX8_weigh_7 (by decide) ?_
        refine lv_istore (lv' := [(4, .int (nI 0)), (0, .ref (b + 115)), (1, .ref (b + 8)), (2, .int (nI n)), (3, .int (nI k))]) hx hb dX8_weigh_8 hl (by decide) rfl (fun ls hl => ?_)
        have L10 : ∀ (fuel : Nat) (f : Nat) (σ2 : Mem), (f ≤ 4) → (∀ k1, k1 < k → ∀ f1, f1 < 4 → σ2 122 (k1 * 4 + f1) = nI (tcA A k1 f1) ∧ σ2 121 (k1 * 4 + f1) = nI (cwA A k1 f1)) → (∀ f1, f1 < f → σ2 122 (k * 4 + f1) = nI (tcA A k f1) ∧ σ2 121 (k * 4 + f1) = nI (cwA A k f1)) → (∀ c, c ≠ 121 → c ≠ 122 → σ2 c = σ c) → (4 - f) < fuel → ∀ (H : Heap) (locs : List Loc) (ls : Array Slot), St G (Fr b) b σ2 vs H locs → lv_has ls 5 [(0, .ref (b + 115)), (1, .ref (b + 8)), (2, .int (nI n)), (3, .int (nI k)), (4, .int (nI f))] → W vp l ve (RM 3) vs vm args below meth vc H locs 0 0 Q (F0 vm 10 ls []) := by
          intro fuel
          induction fuel with
          | zero => intro f σ2 hf h3 h4 h5 hF; exact absurd hF (Nat.not_lt_zero _)
          | succ fuel ih10 =>
            intro f σ2 hf h3 h4 h5 hF H locs ls hM hl
            refine lv_iload hx hb dX8_weigh_10 (lv_at hl 4 rfl) ?_
            refine lv_iconst (v := nI 4) hx hb dX8_weigh_12 (by decide) ?_
            refine sn_icmp_ge (tgt := 41) hx hb dX8_weigh_13 (by decide) (by omega) (by omega) (fun hltf => ?_) (fun hltf => ?_)
            · refine lv_iinc (v := nI (k + 1)) (lv' := [(3, .int (nI (k + 1))), (0, .ref (b + 115)), (1, .ref (b + 8)), (2, .int (nI n)), (4, .int (nI f))]) hx hb dX8_weigh_41 hl (k := 3) rfl (q_inc _) (by decide) rfl (fun ls hl => ?_)
              refine lv_goto (tgt := 2) hx hb dX8_weigh_44 (by decide) ?_
              exact ih2 (k + 1) σ2 (by omega) (fun k1 a f1 c => if e : k1 = k then (by subst e; exact h4 f1 (by omega)) else h3 k1 (by omega) f1 c) h5 (by omega) _ _ _ hM (lv_sub hl [1, 2, 3, 0] rfl)
            · refine lv_aload_n hx hb dX8_weigh_16 rfl (lv_at hl 0 rfl) ?_
              refine lv_iload_n hx hb dX8_weigh_17 rfl (lv_at hl 3 rfl) ?_
              refine lv_iload hx hb dX8_weigh_18 (lv_at hl 4 rfl) ?_
              refine lv_aload_n hx hb dX8_weigh_20 rfl (lv_at hl 1 rfl) ?_
              refine sg_get (v := .ref (b + 9)) hx hb hts hown hK hM (sh5 kc_8) (kd_lt kc_8 (by decide)) rfl inX6 1 (by decide) wf_X8_55 rfl dX8_weigh_21 ?_
              refine lv_iload_n hx hb dX8_weigh_24 rfl (lv_at hl 3 rfl) ?_
              refine sg_iald hx hb hK hM (sh4 kc_9) (kd_lt kc_9 (by decide)) (i := k) (by omega) (by decide) dX8_weigh_25 ?_
              refine sn_top (y := rX A k) (by rw [h5 9 (by decide) (by decide)]; exact (hA.2.2.2.2.2 k (by omega)).1) ?_
              refine lv_aload_n hx hb dX8_weigh_26 rfl (lv_at hl 1 rfl) ?_
              refine sg_get (v := .ref (b + 10)) hx hb hts hown hK hM (sh5 kc_8) (kd_lt kc_8 (by decide)) rfl inX6 2 (by decide) wf_X8_60 rfl dX8_weigh_27 ?_
              refine lv_iload_n hx hb dX8_weigh_30 rfl (lv_at hl 3 rfl) ?_
              refine sg_iald hx hb hK hM (sh4 kc_10) (kd_lt kc_10 (by decide)) (i := k) (by omega) (by decide) dX8_weigh_31 ?_
              refine sn_top (y := rY A k) (by rw [h5 10 (by decide) (by decide)]; exact (hA.2.2.2.2.2 k (by omega)).2) ?_
              refine sg_cv (sg_runV (d := 2) (As := [.int (nI k), .int (nI f), .int (rX A k), .int (rY A k)]) (rest := []) hx hb hml hts hown hK hM (c_Se_choose l G b σ2 k f (rX A k) (rY A k) (by omega) hltf (hR.2.2.2.1 k (by omega))) mi_X8_choose wl_X8_63 (sh10 kc_115) (kd_lt kc_115 (by decide)) rfl rfl rfl hl.1 rfl (Nat.le_of_ble_eq_true rfl) dX8_weigh_32 ⟨by decide, by decide⟩ ⟨Nat.le_refl 0, Nat.le_refl 0⟩) hM sgA (fun σ3 H locs hq hM => ?_)
              refine lv_iinc (v := nI (f + 1)) (lv' := [(4, .int (nI (f + 1))), (0, .ref (b + 115)), (1, .ref (b + 8)), (2, .int (nI n)), (3, .int (nI k))]) hx hb dX8_weigh_35 hl (k := 4) rfl (q_inc _) (by decide) rfl (fun ls hl => ?_)
              refine lv_goto (tgt := 10) hx hb dX8_weigh_38 (by decide) ?_
              exact ih10 (f + 1) σ3 (by omega) (fun k1 a f1 c => by rw [(hq.2.2 _ (by omega)).1, (hq.2.2 _ (by omega)).2]; exact h3 k1 a f1 c) (fun f1 q => if e : f1 = f then (by subst e; exact hq.1) else (by rw [(hq.2.2 _ (by omega)).1, (hq.2.2 _ (by omega)).2]; exact h4 f1 (by omega))) (fun c a1 a2 => by rw [hq.2.1 c a1 a2]; exact h5 c a1 a2) (by omega) _ _ _ hM (lv_sub hl [1, 2, 3, 4, 0] rfl)
        exact L10 (_ + 1) 0 σ1 (by omega) h1 (fun f1 q => absurd q (by omega)) h2 (Nat.lt_succ_self _) _ _ _ hM (lv_sub hl [1, 2, 3, 4, 0] rfl)
  exact L2 (_ + 1) 0 σ (by omega) (fun k1 q => absurd q (by omega)) (fun _ _ _ => rfl) (Nat.lt_succ_self _) _ _ _ hM (lv_sub hl [1, 2, 3, 0] rfl)
set_option maxHeartbeats 4000000 in
set_option maxRecDepth 100000 in
theorem c_Se_restBy (l : Launch) (G : GT) (b : Nat) (σ : Mem) (m g h k s u v t : Nat) (hc : CodeAt σ 2 m g h) (hk : k < 24) (hs : s < 2 ^ m) (hu : u < 2) (hv : σ 123 ((k + 1) * 8 + nx m s u) = nI v) (ht : σ 122 (k * 4 + fam m g h s u) = nI t) (hv1 : v ≤ NV) (ht1 : t ≤ 40000) : KI l G b yX8_restBy cX8_restBy 6 2 σ [.ref (b + 115), .ref (b + 2), .int (nI k), .int (nI s), .int (nI u)] (fun r σ' => r = nI (stp v t) ∧ σ' = σ) := by
  refine sg_metI [.ref (b + 115), .ref (b + 2), .int (nI k), .int (nI s), .int (nI u)] (by decide) (Nat.le_of_ble_eq_true rfl) ?_
  intro vp ve vs vm args below meth vc ls Q hx hb hml hown hts hK hM hl hret
  have hl : lv_has ls 6 [(0, .ref (b + 115)), (1, .ref (b + 2)), (2, .int (nI k)), (3, .int (nI s)), (4, .int (nI u))] := hl
  have hm8 := p2_le hc.m
  have hnx := nx_lt hu hs
  have hfm := fam_lt m g h s u
  have hNV : NV = 99999999 := rfl
  refine lv_aload_n hx hb dX8_restBy_0 rfl (lv_at hl 0 rfl) ?_
  refine sg_get (v := .ref (b + 123)) hx hb hts hown hK hM (sh10 kc_115) (kd_lt kc_115 (by decide)) rfl inX8 3 (by decide) wf_X8_25 rfl dX8_restBy_1 ?_
  refine lv_iload_n hx hb dX8_restBy_4 rfl (lv_at hl 2 rfl) ?_
  refine lv_iconst (v := nI 1) hx hb dX8_restBy_5 (by decide) ?_
  refine sn_iadd hx hb dX8_restBy_6 ?_
  refine lv_bipush (v := nI 8) hx hb dX8_restBy_7 (by decide) ?_
  refine sn_imul hx hb dX8_restBy_9 ?_
  refine lv_aload_n hx hb dX8_restBy_10 rfl (lv_at hl 1 rfl) ?_
  refine lv_iload_n hx hb dX8_restBy_11 rfl (lv_at hl 3 rfl) ?_
  refine lv_iload hx hb dX8_restBy_12 (lv_at hl 4 rfl) ?_
  refine sg_ci (sg_runV (d := 1) (As := [.int (nI s), .int (nI u)]) (rest := [.int (nI ((k + 1) * 8)), .ref (b + 123)]) hx hb hml hts hown hK hM (c_Code_next l G b σ 2 m g h s u kc_2 (hc) (hu) (hs)) mi_X0_stateAfter wl_X8_92 (sh2 kc_2) (kd_lt kc_2 (by decide)) rfl rfl rfl hl.1 rfl (Nat.le_of_ble_eq_true rfl) dX8_restBy_14 ⟨by decide, by decide⟩ ⟨Nat.le_refl 0, Nat.le_refl 0⟩) hM sgA (fun r_14 σ_14 H locs hp_14 hM => ?_)
  obtain ⟨hr_14, hs_14⟩ := hp_14; subst r_14; subst σ_14
  refine sn_iadd hx hb dX8_restBy_17 ?_
  refine sg_iald hx hb hK hM (sh12 kc_123) (kd_lt kc_123 (by decide)) (i := ((k + 1) * 8) + (nx m s u)) (by omega) (by decide) dX8_restBy_18 ?_
  refine sn_top (y := nI v) (hv) ?_
  refine lv_istore (lv' := [(5, .int (nI v)), (0, .ref (b + 115)), (1, .ref (b + 2)), (2, .int (nI k)), (3, .int (nI s)), (4, .int (nI u))]) hx hb dX8_restBy_19 hl (by decide) rfl (fun ls hl => ?_)
  refine lv_iload hx hb dX8_restBy_21 (lv_at hl 0 rfl) ?_
  refine lv_ldc (v := nI 99999999) hx hb hown (hts (Cond.constant RX8 50 (nI 99999999)) wk_X8_50) dX8_restBy_23 ?_
  refine sn_icmp_ne (tgt := 31) hx hb dX8_restBy_25 (by decide) (by omega) (by omega) (fun c_25 => ?_) (fun c_25 => ?_)
  · refine lv_iload hx hb dX8_restBy_31 (lv_at hl 0 rfl) ?_
    refine lv_aload_n hx hb dX8_restBy_33 rfl (lv_at hl 1 rfl) ?_
    refine sg_get (v := .ref (b + 122)) hx hb hts hown hK hM (sh10 kc_115) (kd_lt kc_115 (by decide)) rfl inX8 2 (by decide) wf_X8_22 rfl dX8_restBy_34 ?_
    refine lv_iload_n hx hb dX8_restBy_37 rfl (lv_at hl 3 rfl) ?_
    refine lv_iconst (v := nI 4) hx hb dX8_restBy_38 (by decide) ?_
    refine sn_imul hx hb dX8_restBy_39 ?_
    refine lv_aload_n hx hb dX8_restBy_40 rfl (lv_at hl 2 rfl) ?_
    refine lv_iload_n hx hb dX8_restBy_41 rfl (lv_at hl 4 rfl) ?_
    refine lv_iload hx hb dX8_restBy_42 (lv_at hl 5 rfl) ?_
    refine sg_ci (sg_runV (d := 1) (As := [.int (nI s), .int (nI u)]) (rest := [.int (nI (k * 4)), .ref (b + 122), .int (nI v)]) hx hb hml hts hown hK hM (c_Code_fam l G b σ 2 m g h s u kc_2 (hc) (hu) (hs)) mi_X0_familyFrom wl_X8_95 (sh2 kc_2) (kd_lt kc_2 (by decide)) rfl rfl rfl hl.1 rfl (Nat.le_of_ble_eq_true rfl) dX8_restBy_44 ⟨by decide, by decide⟩ ⟨Nat.le_refl 0, Nat.le_refl 0⟩) hM sgA (fun r_44 σ_44 H locs hp_44 hM => ?_)
    obtain ⟨hr_44, hs_44⟩ := hp_44; subst r_44; subst σ_44
    refine sn_iadd hx hb dX8_restBy_47 ?_
    refine sg_iald hx hb hK hM (sh11 kc_122) (kd_lt kc_122 (by decide)) (i := (k * 4) + (fam m g h s u)) (by omega) (by decide) dX8_restBy_48 ?_
    refine sn_top (y := nI t) (ht) ?_
    refine sn_iadd hx hb dX8_restBy_49 ?_
    exact hret _ _ _ _ _ _ dX8_restBy_50 hM (⟨by unfold stp; first | rw [if_pos (by omega)] | rw [if_neg (by omega)], rfl⟩)
  · refine lv_ldc (v := nI 99999999) hx hb hown (hts (Cond.constant RX8 50 (nI 99999999)) wk_X8_50) dX8_restBy_28 ?_
    exact hret _ _ _ _ _ _ dX8_restBy_30 hM (⟨by unfold stp; first | rw [if_pos (by omega)] | rw [if_neg (by omega)], rfl⟩)
set_option maxHeartbeats 4000000 in
set_option maxRecDepth 100000 in
theorem c_Se_reckon (l : Launch) (G : GT) (b : Nat) (σ : Mem) (A : Rec) (n : Nat) (e : Int32) (hR : ROk A) (hA : CM σ 1 A) (hn : n ≤ rN A) (hT : ∀ k, k < n → ∀ f, f < 4 → σ 122 (k * 4 + f) = nI (tcA A k f) ∧ σ 121 (k * 4 + f) = nI (cwA A k f)) : KV l G b yX8_reckon cX8_reckon 6 3 σ [.ref (b + 115), .ref (b + 2), .int (nI n), .int e] (fun σ' => (∀ k, k ≤ n → ∀ s, s < 2 ^ rM A → σ' 123 (k * 8 + s) = nI (dA A n e (n - k) s)) ∧ ∀ c, c ≠ 123 → σ' c = σ c) := by
  refine sg_metV [.ref (b + 115), .ref (b + 2), .int (nI n), .int e] (by decide) (Nat.le_of_ble_eq_true rfl) ?_
  intro vp ve vs vm args below meth vc ls Q hx hb hml hown hts hK hM hl hret
  have hl : lv_has ls 6 [(0, .ref (b + 115)), (1, .ref (b + 2)), (2, .int (nI n)), (3, .int e)] := hl
  have hn24 := hR.2.1.2
  have hm8 := p2_le hR.1.1.2
  have hB : ∀ k, k < n → ∀ f, f < 4 → tcA A k f ≤ 40000 := fun k hk f hf => tcA_le hR k (by omega) f hf
  refine lv_iconst (v := nI 0) hx hb dX8_reckon_0 (by decide) ?_
  refine lv_istore (lv' := [(4, .int (nI 0)), (0, .ref (b + 115)), (1, .ref (b + 2)), (2, .int (nI n)), (3, .int e)]) hx hb dX8_reckon_1 hl (by decide) rfl (fun ls hl => ?_)
  have L3 : ∀ (fuel : Nat) (i : Nat) (σ1 : Mem), (i ≤ 8) → (∀ i1, i1 < i → σ1 123 (n * 8 + i1) = nI (dA A n e 0 i1)) → (∀ c, c ≠ 123 → σ1 c = σ c) → (8 - i) < fuel → ∀ (H : Heap) (locs : List Loc) (ls : Array Slot), St G (Fr b) b σ1 vs H locs → lv_has ls 6 [(0, .ref (b + 115)), (1, .ref (b + 2)), (2, .int (nI n)), (3, .int e), (4, .int (nI i))] → W vp l ve (RM 3) vs vm args below meth vc H locs 0 0 Q (F0 vm 3 ls []) := by
    intro fuel
    induction fuel with
    | zero => intro i σ1 hi h1 h2 hF; exact absurd hF (Nat.not_lt_zero _)
    | succ fuel ih3 =>
      intro i σ1 hi h1 h2 hF H locs ls hM hl
      refine lv_iload hx hb dX8_reckon_3 (lv_at hl 4 rfl) ?_
      refine lv_bipush (v := nI 8) hx hb dX8_reckon_5 (by decide) ?_
      refine sn_icmp_ge (tgt := 45) hx hb dX8_reckon_7 (by decide) (by omega) (by omega) (fun hlt8 => ?_) (fun hlt8 => ?_)
      · refine lv_iload_n hx hb dX8_reckon_45 rfl (lv_at hl 2 rfl) ?_
        refine lv_iconst (v := nI 1) hx hb dX8_reckon_46 (by decide) ?_
        refine lv_isub hx hb dX8_reckon_47 ?_
        refine lv_istore (lv' := [(4, .int ((nI n) - (nI 1))), (0, .ref (b + 115)), (1, .ref (b + 2)), (2, .int (nI n)), (3, .int e)]) hx hb dX8_reckon_48 hl (by decide) rfl (fun ls hl => ?_)
        have L50 : ∀ (fuel : Nat) (j : Nat) (σ2 : Mem), (j ≤ n) → (∀ k, j ≤ k → k ≤ n → ∀ s, s < 2 ^ rM A → σ2 123 (k * 8 + s) = nI (dA A n e (n - k) s)) → (∀ c, c ≠ 123 → σ2 c = σ c) → (j) < fuel → ∀ (H : Heap) (locs : List Loc) (ls : Array Slot), St G (Fr b) b σ2 vs H locs → lv_has ls 6 [(0, .ref (b + 115)), (1, .ref (b + 2)), (2, .int (nI n)), (3, .int e), (4, .int (nI j - nI 1))] → W vp l ve (RM 3) vs vm args below meth vc H locs 0 0 Q (F0 vm 50 ls []) := by
          intro fuel
          induction fuel with
          | zero => intro j σ2 hj h3 h4 hF; exact absurd hF (Nat.not_lt_zero _)
          | succ fuel ih50 =>
            intro j σ2 hj h3 h4 hF H locs ls hM hl
            refine lv_iload hx hb dX8_reckon_50 (lv_at hl 4 rfl) ?_
            refine lv_if_lt (tgt := 115) hx hb dX8_reckon_52 (by decide) (fun c_52 => ?_) (fun c_52 => ?_)
            · have ej := q_neg (by omega) c_52
              exact hret _ _ _ _ _ dX8_reckon_115 hM (by subst ej; exact ⟨fun k a s hs => h3 k (Nat.zero_le _) a s hs, h4⟩)
            · have hj1 := q_nneg c_52
              rw [pk_sub (show 1 ≤ j from hj1)] at hl
              have hl : lv_has ls 6 [(0, .ref (b + 115)), (1, .ref (b + 2)), (2, .int (nI n)), (3, .int e), (4, .int (nI (j - 1)))] := hl
              refine lv_iconst (v := nI 0) hx hb dX8_reckon_55 (by decide) ?_
              refine lv_istore (lv' := [(5, .int (nI 0)), (0, .ref (b + 115)), (1, .ref (b + 2)), (2, .int (nI n)), (3, .int e), (4, .int (nI (j - 1)))]) hx hb dX8_reckon_56 hl (by decide) rfl (fun ls hl => ?_)
              have L58 : ∀ (fuel : Nat) (s : Nat) (σ3 : Mem), (s ≤ 2 ^ rM A) → (∀ k, j ≤ k → k ≤ n → ∀ s, s < 2 ^ rM A → σ3 123 (k * 8 + s) = nI (dA A n e (n - k) s)) → (∀ s1, s1 < s → σ3 123 ((j - 1) * 8 + s1) = nI (dA A n e (n - (j - 1)) s1)) → (∀ c, c ≠ 123 → σ3 c = σ c) → (2 ^ rM A - s) < fuel → ∀ (H : Heap) (locs : List Loc) (ls : Array Slot), St G (Fr b) b σ3 vs H locs → lv_has ls 6 [(0, .ref (b + 115)), (1, .ref (b + 2)), (2, .int (nI n)), (3, .int e), (4, .int (nI (j - 1))), (5, .int (nI s))] → W vp l ve (RM 3) vs vm args below meth vc H locs 0 0 Q (F0 vm 58 ls []) := by
                intro fuel
                induction fuel with
                | zero => intro s σ3 hs h7 h8 h9 hF; exact absurd hF (Nat.not_lt_zero _)
                | succ fuel ih58 =>
                  intro s σ3 hs h7 h8 h9 hF H locs ls hM hl
                  refine lv_iload hx hb dX8_reckon_58 (lv_at hl 5 rfl) ?_
                  refine lv_aload_n hx hb dX8_reckon_60 rfl (lv_at hl 1 rfl) ?_
                  refine sg_ci (sg_runV (d := 0) (As := []) (rest := [.int (nI s)]) hx hb hml hts hown hK hM (c_Code_states l G b σ3 2 (rM A) (rG A) (rH A) kc_2 (hA.1.keep (h9 2 (by decide)))) mi_X0_states wl_X8_77 (sh2 kc_2) (kd_lt kc_2 (by decide)) rfl rfl rfl hl.1 rfl (Nat.le_of_ble_eq_true rfl) dX8_reckon_61 ⟨by decide, by decide⟩ ⟨Nat.le_refl 0, Nat.le_refl 0⟩) hM sgA (fun r_61 σ_61 H locs hp_61 hM => ?_)
                  obtain ⟨hr_61, hs_61⟩ := hp_61; subst r_61; subst σ_61
                  refine sn_icmp_ge (tgt := 109) hx hb dX8_reckon_64 (by decide) (by omega) (by omega) (fun hlts => ?_) (fun hlts => ?_)
                  · refine lv_iinc (v := nI (j - 1) - nI 1) (lv' := [(4, .int (nI (j - 1) - nI 1)), (0, .ref (b + 115)), (1, .ref (b + 2)), (2, .int (nI n)), (3, .int e), (5, .int (nI s))]) hx hb dX8_reckon_109 hl (k := 4) rfl (q_dec1 _) (by decide) rfl (fun ls hl => ?_)
                    refine lv_goto (tgt := 50) hx hb dX8_reckon_112 (by decide) ?_
                    exact ih50 (j - 1) σ3 (by omega) (fun k a1 a2 s1 hs1 => if e1 : k = j - 1 then (by subst e1; exact h8 s1 (by omega)) else h7 k (by omega) a2 s1 hs1) h9 (by omega) _ _ _ hM (lv_sub hl [1, 2, 3, 4, 0] rfl)
                  · refine lv_aload_n hx hb dX8_reckon_67 rfl (lv_at hl 0 rfl) ?_
                    refine sg_get (v := .ref (b + 123)) hx hb hts hown hK hM (sh10 kc_115) (kd_lt kc_115 (by decide)) rfl inX8 3 (by decide) wf_X8_25 rfl dX8_reckon_68 ?_
                    refine lv_iload hx hb dX8_reckon_71 (lv_at hl 4 rfl) ?_
                    refine lv_bipush (v := nI 8) hx hb dX8_reckon_73 (by decide) ?_
                    refine sn_imul hx hb dX8_reckon_75 ?_
                    refine lv_iload hx hb dX8_reckon_76 (lv_at hl 5 rfl) ?_
                    refine sn_iadd hx hb dX8_reckon_78 ?_
                    refine lv_aload_n hx hb dX8_reckon_79 rfl (lv_at hl 0 rfl) ?_
                    refine lv_aload_n hx hb dX8_reckon_80 rfl (lv_at hl 1 rfl) ?_
                    refine lv_iload hx hb dX8_reckon_81 (lv_at hl 4 rfl) ?_
                    refine lv_iload hx hb dX8_reckon_83 (lv_at hl 5 rfl) ?_
                    refine lv_iconst (v := nI 0) hx hb dX8_reckon_85 (by decide) ?_
                    refine sg_ci (sg_runV (d := 2) (As := [.ref (b + 2), .int (nI (j - 1)), .int (nI s), .int (nI 0)]) (rest := [.int (nI (((j - 1) * 8) + s)), .ref (b + 123)]) hx hb hml hts hown hK hM (c_Se_restBy l G b σ3 (rM A) (rG A) (rH A) (j - 1) s 0 (dA A n e (n - j) (nx (rM A) s 0)) (tcA A (j - 1) (fam (rM A) (rG A) (rH A) s 0)) (hA.1.keep (h9 2 (by decide))) (by omega) (by omega) (by decide) (by have q := h7 j (by omega) (by omega) (nx (rM A) s 0) (nx_lt (by decide) hlts); rw [show j - 1 + 1 = j by omega]; exact q) (by rw [h9 122 (by decide)]; exact (hT (j - 1) (by omega) _ (fam_lt _ _ _ _ _)).1) (dp_le (by omega) hB (by omega) _) (hB _ (by omega) _ (fam_lt _ _ _ _ _))) mi_X8_restBy wl_X8_83 (sh10 kc_115) (kd_lt kc_115 (by decide)) rfl rfl rfl hl.1 rfl (Nat.le_of_ble_eq_true rfl) dX8_reckon_86 ⟨by decide, by decide⟩ ⟨Nat.le_refl 0, Nat.le_refl 0⟩) hM sgA (fun r_86 σ_86 H locs hp_86 hM => ?_)
                    obtain ⟨hr_86, hs_86⟩ := hp_86; subst r_86; subst σ_86
                    refine lv_aload_n hx hb dX8_reckon_89 rfl (lv_at hl 0 rfl) ?_
                    refine lv_aload_n hx hb dX8_reckon_90 rfl (lv_at hl 1 rfl) ?_
                    refine lv_iload hx hb dX8_reckon_91 (lv_at hl 4 rfl) ?_
                    refine lv_iload hx hb dX8_reckon_93 (lv_at hl 5 rfl) ?_
                    refine lv_iconst (v := nI 1) hx hb dX8_reckon_95 (by decide) ?_
                    refine sg_ci (sg_runV (d := 2) (As := [.ref (b + 2), .int (nI (j - 1)), .int (nI s), .int (nI 1)]) (rest := [.int (nI (stp (dA A n e (n - j) (nx (rM A) s 0)) (tcA A (j - 1) (fam (rM A) (rG A) (rH A) s 0)))), .int (nI (((j - 1) * 8) + s)), .ref (b + 123)]) hx hb hml hts hown hK hM (c_Se_restBy l G b σ3 (rM A) (rG A) (rH A) (j - 1) s 1 (dA A n e (n - j) (nx (rM A) s 1)) (tcA A (j - 1) (fam (rM A) (rG A) (rH A) s 1)) (hA.1.keep (h9 2 (by decide))) (by omega) (by omega) (by decide) (by have q := h7 j (by omega) (by omega) (nx (rM A) s 1) (nx_lt (by decide) hlts); rw [show j - 1 + 1 = j by omega]; exact q) (by rw [h9 122 (by decide)]; exact (hT (j - 1) (by omega) _ (fam_lt _ _ _ _ _)).1) (dp_le (by omega) hB (by omega) _) (hB _ (by omega) _ (fam_lt _ _ _ _ _))) mi_X8_restBy wl_X8_83 (sh10 kc_115) (kd_lt kc_115 (by decide)) rfl rfl rfl hl.1 rfl (Nat.le_of_ble_eq_true rfl) dX8_reckon_96 ⟨by decide, by decide⟩ ⟨Nat.le_refl 0, Nat.le_refl 0⟩) hM sgA (fun r_96 σ_96 H locs hp_96 hM => ?_)
                    obtain ⟨hr_96, hs_96⟩ := hp_96; subst r_96; subst σ_96
                    refine va_mmin hx hb (by rw [hml]; exact hl.1.symm) hown (hts _ wl_X8_87) (hts _ ws_J9_min_7cf53) (hts _ wi_RJ9) (hts _ wc_J9_min_7cf53) (by decide) (Nat.le_of_ble_eq_true rfl) (Nat.le_refl 0) (Nat.le_refl 0) dX8_reckon_99 ?_
                    refine sn_top (y := nI (min (stp (dA A n e (n - j) (nx (rM A) s 0)) (tcA A (j - 1) (fam (rM A) (rG A) (rH A) s 0))) (stp (dA A n e (n - j) (nx (rM A) s 1)) (tcA A (j - 1) (fam (rM A) (rG A) (rH A) s 1))))) (q_min (stp_le (dp_le (by omega) hB (by omega) _) (hB _ (by omega) _ (fam_lt _ _ _ _ _))) (stp_le (dp_le (by omega) hB (by omega) _) (hB _ (by omega) _ (fam_lt _ _ _ _ _)))) ?_
                    refine sg_iast hx hb hK hM sgA (fun f => sh12 kc_123) (kd_lt kc_123 (by decide)) (i := ((j - 1) * 8) + s) (by omega) (by decide) dX8_reckon_102 (fun H locs hM => ?_)
                    refine lv_iinc (v := nI (s + 1)) (lv' := [(5, .int (nI (s + 1))), (0, .ref (b + 115)), (1, .ref (b + 2)), (2, .int (nI n)), (3, .int e), (4, .int (nI (j - 1)))]) hx hb dX8_reckon_103 hl (k := 5) rfl (q_inc _) (by decide) rfl (fun ls hl => ?_)
                    refine lv_goto (tgt := 58) hx hb dX8_reckon_106 (by decide) ?_
                    exact ih58 (s + 1) (m2 σ3 123 (((j - 1) * 8) + s) (nI (min (stp (dA A n e (n - j) (nx (rM A) s 0)) (tcA A (j - 1) (fam (rM A) (rG A) (rH A) s 0))) (stp (dA A n e (n - j) (nx (rM A) s 1)) (tcA A (j - 1) (fam (rM A) (rG A) (rH A) s 1)))))) (by omega) (fun k a1 a2 s1 hs1 => by rw [m2_sn (by omega)]; exact h7 k a1 a2 s1 hs1) (fun s1 q => if e1 : s1 = s then (by subst e1; rw [m2_ss, show n - (j - 1) = n - j + 1 by omega, dA_s, show n - 1 - (n - j) = j - 1 by omega]) else (by rw [m2_sn (by omega)]; exact h8 s1 (by omega))) (fun c a1 => by rw [m2_o a1]; exact h9 c a1) (by omega) _ _ _ hM (lv_sub hl [1, 2, 3, 4, 5, 0] rfl)
              exact L58 (_ + 1) 0 σ2 (Nat.zero_le _) h3 (fun s1 q => absurd q (by omega)) h4 (Nat.lt_succ_self _) _ _ _ hM (lv_sub hl [1, 2, 3, 4, 5, 0] rfl)
        exact L50 (_ + 1) n σ1 (by omega) (fun k a1 a2 s hs => by rw [show k = n by omega, Nat.sub_self]; exact h1 s (by omega)) h2 (Nat.lt_succ_self _) _ _ _ hM (lv_sub hl [1, 2, 3, 4, 0] rfl)
      · refine lv_aload_n hx hb dX8_reckon_10 rfl (lv_at hl 0 rfl) ?_
        refine sg_get (v := .ref (b + 123)) hx hb hts hown hK hM (sh10 kc_115) (kd_lt kc_115 (by decide)) rfl inX8 3 (by decide) wf_X8_25 rfl dX8_reckon_11 ?_
        refine lv_iload_n hx hb dX8_reckon_14 rfl (lv_at hl 2 rfl) ?_
        refine lv_bipush (v := nI 8) hx hb dX8_reckon_15 (by decide) ?_
        refine sn_imul hx hb dX8_reckon_17 ?_
        refine lv_iload hx hb dX8_reckon_18 (lv_at hl 4 rfl) ?_
        refine sn_iadd hx hb dX8_reckon_20 ?_
        refine lv_iload_n hx hb dX8_reckon_21 rfl (lv_at hl 3 rfl) ?_
        refine lv_iconst (v := (-1)) hx hb dX8_reckon_22 (by decide) ?_
        refine lv_icmp_eq (tgt := 32) hx hb dX8_reckon_23 (by decide) (fun c_23 => ?_) (fun c_23 => ?_)
        · refine lv_iconst (v := nI 0) hx hb dX8_reckon_32 (by decide) ?_
          refine lv_goto (tgt := 38) hx hb dX8_reckon_33 (by decide) ?_
          refine sg_iast hx hb hK hM sgA (fun f => sh12 kc_123) (kd_lt kc_123 (by decide)) (i := (n * 8) + i) (by omega) (by decide) dX8_reckon_38 (fun H locs hM => ?_)
          refine lv_iinc (v := nI (i + 1)) (lv' := [(4, .int (nI (i + 1))), (0, .ref (b + 115)), (1, .ref (b + 2)), (2, .int (nI n)), (3, .int e)]) hx hb dX8_reckon_39 hl (k := 4) rfl (q_inc _) (by decide) rfl (fun ls hl => ?_)
          refine lv_goto (tgt := 3) hx hb dX8_reckon_42 (by decide) ?_
          exact ih3 (i + 1) (m2 σ1 123 ((n * 8) + i) (nI 0)) (by omega) (fun i1 q => if e1 : i1 = i then (by subst e1; rw [m2_ss]; unfold dp; first | rw [if_pos (Or.inl c_23)] | rw [if_pos (Or.inr c_29)] | rw [if_neg (fun q => q.elim c_23 c_29)]) else (by rw [m2_sn (by omega)]; exact h1 i1 (by omega))) (fun c a1 => by rw [m2_o a1]; exact h2 c a1) (by omega) _ _ _ hM (lv_sub hl [1, 2, 3, 4, 0] rfl)
        · refine lv_iload_n hx hb dX8_reckon_26 rfl (lv_at hl 3 rfl) ?_
          refine lv_iload hx hb dX8_reckon_27 (lv_at hl 4 rfl) ?_
          refine lv_icmp_ne (tgt := 36) hx hb dX8_reckon_29 (by decide) (fun c_29 => ?_) (fun c_29 => ?_)
          · refine lv_ldc (v := nI 99999999) hx hb hown (hts (Cond.constant RX8 50 (nI 99999999)) wk_X8_50) dX8_reckon_36 ?_
            refine sg_iast hx hb hK hM sgA (fun f => sh12 kc_123) (kd_lt kc_123 (by decide)) (i := (n * 8) + i) (by omega) (by decide) dX8_reckon_38 (fun H locs hM => ?_)
            refine lv_iinc (v := nI (i + 1)) (lv' := [(4, .int (nI (i + 1))), (0, .ref (b + 115)), (1, .ref (b + 2)), (2, .int (nI n)), (3, .int e)]) hx hb dX8_reckon_39 hl (k := 4) rfl (q_inc _) (by decide) rfl (fun ls hl => ?_)
            refine lv_goto (tgt := 3) hx hb dX8_reckon_42 (by decide) ?_
            exact ih3 (i + 1) (m2 σ1 123 ((n * 8) + i) (nI 99999999)) (by omega) (fun i1 q => if e1 : i1 = i then (by subst e1; rw [m2_ss]; unfold dp; first | rw [if_pos (Or.inl c_23)] | rw [if_pos (Or.inr c_29)] | rw [if_neg (fun q => q.elim c_23 c_29)]) else (by rw [m2_sn (by omega)]; exact h1 i1 (by omega))) (fun c a1 => by rw [m2_o a1]; exact h2 c a1) (by omega) _ _ _ hM (lv_sub hl [1, 2, 3, 4, 0] rfl)
          · refine lv_iconst (v := nI 0) hx hb dX8_reckon_32 (by decide) ?_
            refine lv_goto (tgt := 38) hx hb dX8_reckon_33 (by decide) ?_
            refine sg_iast hx hb hK hM sgA (fun f => sh12 kc_123) (kd_lt kc_123 (by decide)) (i := (n * 8) + i) (by omega) (by decide) dX8_reckon_38 (fun H locs hM => ?_)
            refine lv_iinc (v := nI (i + 1)) (lv' := [(4, .int (nI (i + 1))), (0, .ref (b + 115)), (1, .ref (b + 2)), (2, .int (nI n)), (3, .int e)]) hx hb dX8_reckon_39 hl (k := 4) rfl (q_inc _) (by decide) rfl (fun ls hl => ?_)
            refine lv_goto (tgt := 3) hx hb dX8_reckon_42 (by decide) ?_
            exact ih3 (i + 1) (m2 σ1 123 ((n * 8) + i) (nI 0)) (by omega) (fun i1 q => if e1 : i1 = i then (by subst e1; rw [m2_ss]; unfold dp; first | rw [if_pos (Or.inl c_23)] | rw [if_pos (Or.inr c_29)] | rw [if_neg (fun q => q.elim c_23 c_29)]) else (by rw [m2_sn (by omega)]; exact h1 i1 (by omega))) (fun c a1 => by rw [m2_o a1]; exact h2 c a1) (by omega) _ _ _ hM (lv_sub hl [1, 2, 3, 4, 0] rfl)
  exact L3 (_ + 1) 0 σ (by omega) (fun k1 q => absurd q (by omega)) (fun _ _ => rfl) (Nat.lt_succ_self _) _ _ _ hM (lv_sub hl [1, 2, 3, 4, 0] rfl)
theorem rowN_s {σ : Mem} {A : Rec} {n : Nat} {e : Int32} {k : Nat} (h : RowN σ A n e k) : RowN (rowApp σ 116 k (uA A n e k) (wA A n e k) (pt (fam (rM A) (rG A) (rH A) (sA A n e k) (uA A n e k)) (wA A n e k)) (nx (rM A) (sA A n e k) (uA A n e k))) A n e (k + 1) := by
  unfold rowApp
  refine ⟨m2_ss, fun i hi => ?_⟩
  rw [m2_o (by decide), m2_o (by decide), m2_o (by decide), m2_o (by decide)]
  by_cases e1 : i = k
  · subst e1
    rw [m2_ss]
    refine ⟨rfl, ?_, ?_, ?_⟩
    · rw [m2_o (by decide), m2_o (by decide), m2_o (by decide), m2_ss]
    · rw [m2_o (by decide), m2_o (by decide), m2_ss]; rfl
    · rw [m2_o (by decide), m2_ss]; rfl
  · have q := h.2 i (by omega)
    rw [m2_sn e1]
    refine ⟨q.1, ?_, ?_, ?_⟩
    · rw [m2_o (by decide), m2_o (by decide), m2_o (by decide), m2_sn e1, m2_o (by decide)]; exact q.2.1
    · rw [m2_o (by decide), m2_o (by decide), m2_sn e1, m2_o (by decide), m2_o (by decide)]; exact q.2.2.1
    · rw [m2_o (by decide), m2_sn e1, m2_o (by decide), m2_o (by decide), m2_o (by decide)]; exact q.2.2.2
theorem lastN {σ : Mem} {A : Rec} {n : Nat} {e : Int32} {k : Nat} (h : RowN σ A n e k) : lastV σ 116 k = nI (sA A n e k) := by
  unfold lastV
  by_cases h0 : k = 0
  · rw [if_pos h0, h0]; rfl
  · rw [if_neg h0, (h.2 (k - 1) (by omega)).2.2.2, show k - 1 + 1 = k by omega]
set_option maxHeartbeats 4000000 in
set_option maxRecDepth 100000 in
theorem c_Se_walk (l : Launch) (G : GT) (b : Nat) (σ : Mem) (A : Rec) (n : Nat) (e : Int32) (hR : ROk A) (hA : CM σ 1 A) (hn : n ≤ rN A) (hT : ∀ k, k < n → ∀ f, f < 4 → σ 122 (k * 4 + f) = nI (tcA A k f) ∧ σ 121 (k * 4 + f) = nI (cwA A k f)) (hD : ∀ k, k ≤ n → ∀ s, s < 2 ^ rM A → σ 123 (k * 8 + s) = nI (dA A n e (n - k) s)) (h0 : σ 116 0 = nI 0) : KV l G b yX8_walk cX8_walk 6 3 σ [.ref (b + 115), .ref (b + 2), .int (nI n)] (fun σ' => RowN σ' A n e n ∧ ∀ c, c < 116 ∨ 121 ≤ c → σ' c = σ c) := by
  refine sg_metV [.ref (b + 115), .ref (b + 2), .int (nI n)] (by decide) (Nat.le_of_ble_eq_true rfl) ?_
  intro vp ve vs vm args below meth vc ls Q hx hb hml hown hts hK hM hl hret
  have hl : lv_has ls 6 [(0, .ref (b + 115)), (1, .ref (b + 2)), (2, .int (nI n))] := hl
  have hn24 := hR.2.1.2
  have hm8 := p2_le hR.1.1.2
  have hB : ∀ k, k < n → ∀ f, f < 4 → tcA A k f ≤ 40000 := fun k hk f hf => tcA_le hR k (by omega) f hf
  refine lv_iconst (v := nI 0) hx hb dX8_walk_0 (by decide) ?_
  refine lv_istore_n (lv' := [(3, .int (nI 0)), (0, .ref (b + 115)), (1, .ref (b + 2)), (2, .int (nI n))]) hx hb dX8_walk_1 rfl hl (by decide) rfl (fun ls hl => ?_)
  have L2 : ∀ (fuel : Nat) (k : Nat) (σ1 : Mem), (k ≤ n) → (RowN σ1 A n e k) → (∀ c, c < 116 ∨ 121 ≤ c → σ1 c = σ c) → (n - k) < fuel → ∀ (H : Heap) (locs : List Loc) (ls : Array Slot), St G (Fr b) b σ1 vs H locs → lv_has ls 6 [(0, .ref (b + 115)), (1, .ref (b + 2)), (2, .int (nI n)), (3, .int (nI k))] → W vp l ve (RM 3) vs vm args below meth vc H locs 0 0 Q (F0 vm 2 ls []) := by
    intro fuel
    induction fuel with
    | zero => intro k σ1 hk h4 h5 hF; exact absurd hF (Nat.not_lt_zero _)
    | succ fuel ih2 =>
      intro k σ1 hk h4 h5 hF H locs ls hM hl
      refine lv_iload_n hx hb dX8_walk_2 rfl (lv_at hl 3 rfl) ?_
      refine lv_iload_n hx hb dX8_walk_3 rfl (lv_at hl 2 rfl) ?_
      refine sn_icmp_ge (tgt := 78) hx hb dX8_walk_4 (by decide) (by omega) (by omega) (fun hlt => ?_) (fun hlt => ?_)
      · obtain rfl : k = n := by omega
        exact hret _ _ _ _ _ dX8_walk_78 hM (⟨h4, h5⟩)
      · refine lv_aload_n hx hb dX8_walk_7 rfl (lv_at hl 0 rfl) ?_
        refine sg_get (v := .ref (b + 116)) hx hb hts hown hK hM (sh10 kc_115) (kd_lt kc_115 (by decide)) rfl inX8 0 (by decide) wf_X8_12 rfl dX8_walk_8 ?_
        refine sg_ci (sg_runV (d := 0) (As := []) (rest := []) hx hb hml hts hown hK hM (c_Row_last l G b σ1 116 k kc_116 h4.1 (by omega)) mi_X7_lastState wl_X8_98 (sh3 kc_116) (kd_lt kc_116 (by decide)) rfl rfl rfl hl.1 rfl (Nat.le_of_ble_eq_true rfl) dX8_walk_11 ⟨by decide, by decide⟩ ⟨Nat.le_refl 0, Nat.le_refl 0⟩) hM sgA (fun r_11 σ_11 H locs hp_11 hM => ?_)
        obtain ⟨hr_11, hs_11⟩ := hp_11; subst r_11; subst σ_11
        refine sn_top (y := nI (sA A n e k)) (lastN h4) ?_
        refine lv_istore (lv' := [(4, .int (nI (sA A n e k))), (0, .ref (b + 115)), (1, .ref (b + 2)), (2, .int (nI n)), (3, .int (nI k))]) hx hb dX8_walk_14 hl (by decide) rfl (fun ls hl => ?_)
        refine lv_aload_n hx hb dX8_walk_16 rfl (lv_at hl 1 rfl) ?_
        refine lv_aload_n hx hb dX8_walk_17 rfl (lv_at hl 2 rfl) ?_
        refine lv_iload_n hx hb dX8_walk_18 rfl (lv_at hl 4 rfl) ?_
        refine lv_iload hx hb dX8_walk_19 (lv_at hl 0 rfl) ?_
        refine lv_iconst (v := nI 0) hx hb dX8_walk_21 (by decide) ?_
        refine sg_ci (sg_runV (d := 2) (As := [.ref (b + 2), .int (nI k), .int (nI (sA A n e k)), .int (nI 0)]) (rest := []) hx hb hml hts hown hK hM (c_Se_restBy l G b σ1 (rM A) (rG A) (rH A) k (sA A n e k) 0 (dA A n e (n - 1 - k) (nx (rM A) (sA A n e k) 0)) (tcA A k (fam (rM A) (rG A) (rH A) (sA A n e k) 0)) (hA.1.keep (h5 2 (by omega))) (by omega) (qS_lt _ _ _ _ _ _ _) (by decide) (by rw [h5 123 (by omega), show n - 1 - k = n - (k + 1) by omega]; exact hD (k + 1) (by omega) _ (nx_lt (by decide) (qS_lt _ _ _ _ _ _ _))) (by rw [h5 122 (by omega)]; exact (hT k (by omega) _ (fam_lt _ _ _ _ _)).1) (dp_le (by omega) hB (by omega) _) (hB _ (by omega) _ (fam_lt _ _ _ _ _))) mi_X8_restBy wl_X8_83 (sh10 kc_115) (kd_lt kc_115 (by decide)) rfl rfl rfl hl.1 rfl (Nat.le_of_ble_eq_true rfl) dX8_walk_22 ⟨by decide, by decide⟩ ⟨Nat.le_refl 0, Nat.le_refl 0⟩) hM sgA (fun r_22 σ_22 H locs hp_22 hM => ?_)
        obtain ⟨hr_22, hs_22⟩ := hp_22; subst r_22; subst σ_22
        refine lv_aload_n hx hb dX8_walk_25 rfl (lv_at hl 1 rfl) ?_
        refine lv_aload_n hx hb dX8_walk_26 rfl (lv_at hl 2 rfl) ?_
        refine lv_iload_n hx hb dX8_walk_27 rfl (lv_at hl 4 rfl) ?_
        refine lv_iload hx hb dX8_walk_28 (lv_at hl 0 rfl) ?_
        refine lv_iconst (v := nI 1) hx hb dX8_walk_30 (by decide) ?_
        refine sg_ci (sg_runV (d := 2) (As := [.ref (b + 2), .int (nI k), .int (nI (sA A n e k)), .int (nI 1)]) (rest := [.int (nI (stp (dA A n e (n - 1 - k) (nx (rM A) (sA A n e k) 0)) (tcA A k (fam (rM A) (rG A) (rH A) (sA A n e k) 0))))]) hx hb hml hts hown hK hM (c_Se_restBy l G b σ1 (rM A) (rG A) (rH A) k (sA A n e k) 1 (dA A n e (n - 1 - k) (nx (rM A) (sA A n e k) 1)) (tcA A k (fam (rM A) (rG A) (rH A) (sA A n e k) 1)) (hA.1.keep (h5 2 (by omega))) (by omega) (qS_lt _ _ _ _ _ _ _) (by decide) (by rw [h5 123 (by omega), show n - 1 - k = n - (k + 1) by omega]; exact hD (k + 1) (by omega) _ (nx_lt (by decide) (qS_lt _ _ _ _ _ _ _))) (by rw [h5 122 (by omega)]; exact (hT k (by omega) _ (fam_lt _ _ _ _ _)).1) (dp_le (by omega) hB (by omega) _) (hB _ (by omega) _ (fam_lt _ _ _ _ _))) mi_X8_restBy wl_X8_83 (sh10 kc_115) (kd_lt kc_115 (by decide)) rfl rfl rfl hl.1 rfl (Nat.le_of_ble_eq_true rfl) dX8_walk_31 ⟨by decide, by decide⟩ ⟨Nat.le_refl 0, Nat.le_refl 0⟩) hM sgA (fun r_31 σ_31 H locs hp_31 hM => ?_)
        obtain ⟨hr_31, hs_31⟩ := hp_31; subst r_31; subst σ_31
        have J42 : ∀ (H : Heap) (locs : List Loc) (ls : Array Slot), St G (Fr b) b σ1 vs H locs → lv_has ls 6 [(0, .ref (b + 115)), (1, .ref (b + 2)), (2, .int (nI n)), (3, .int (nI k)), (4, .int (nI (sA A n e k)))] → W vp l ve (RM 3) vs vm args below meth vc H locs 0 0 Q (F0 vm 42 ls [.int (nI (uA A n e k))]) := by
          intro  H locs ls hM hl
          refine lv_istore (lv' := [(5, .int (nI (uA A n e k))), (0, .ref (b + 115)), (1, .ref (b + 2)), (2, .int (nI n)), (3, .int (nI k)), (4, .int (nI (sA A n e k)))]) hx hb dX8_walk_42 hl (by decide) rfl (fun ls hl => ?_)
          refine lv_aload_n hx hb dX8_walk_44 rfl (lv_at hl 1 rfl) ?_
          refine sg_get (v := .ref (b + 116)) hx hb hts hown hK hM (sh10 kc_115) (kd_lt kc_115 (by decide)) rfl inX8 0 (by decide) wf_X8_12 rfl dX8_walk_45 ?_
          refine lv_aload_n hx hb dX8_walk_48 rfl (lv_at hl 2 rfl) ?_
          refine lv_iload hx hb dX8_walk_49 (lv_at hl 0 rfl) ?_
          refine lv_aload_n hx hb dX8_walk_51 rfl (lv_at hl 1 rfl) ?_
          refine sg_get (v := .ref (b + 121)) hx hb hts hown hK hM (sh10 kc_115) (kd_lt kc_115 (by decide)) rfl inX8 1 (by decide) wf_X8_18 rfl dX8_walk_52 ?_
          refine lv_iload_n hx hb dX8_walk_55 rfl (lv_at hl 4 rfl) ?_
          refine lv_iconst (v := nI 4) hx hb dX8_walk_56 (by decide) ?_
          refine sn_imul hx hb dX8_walk_57 ?_
          refine lv_aload_n hx hb dX8_walk_58 rfl (lv_at hl 2 rfl) ?_
          refine lv_iload hx hb dX8_walk_59 (lv_at hl 5 rfl) ?_
          refine lv_iload hx hb dX8_walk_61 (lv_at hl 0 rfl) ?_
          refine sg_ci (sg_runV (d := 1) (As := [.int (nI (sA A n e k)), .int (nI (uA A n e k))]) (rest := [.int (nI (k * 4)), .ref (b + 121), .int (nI (uA A n e k)), .ref (b + 2), .ref (b + 116)]) hx hb hml hts hown hK hM (c_Code_fam l G b σ1 2 (rM A) (rG A) (rH A) (sA A n e k) (uA A n e k) kc_2 (hA.1.keep (h5 2 (by omega))) (du_lt _ _ _ _ _ _ _ _) (qS_lt _ _ _ _ _ _ _)) mi_X0_familyFrom wl_X8_95 (sh2 kc_2) (kd_lt kc_2 (by decide)) rfl rfl rfl hl.1 rfl (Nat.le_of_ble_eq_true rfl) dX8_walk_63 ⟨by decide, by decide⟩ ⟨Nat.le_refl 0, Nat.le_refl 0⟩) hM sgA (fun r_63 σ_63 H locs hp_63 hM => ?_)
          obtain ⟨hr_63, hs_63⟩ := hp_63; subst r_63; subst σ_63
          refine sn_iadd hx hb dX8_walk_66 ?_
          refine sg_iald hx hb hK hM (sh11 kc_121) (kd_lt kc_121 (by decide)) (i := (k * 4) + (fam (rM A) (rG A) (rH A) (sA A n e k) (uA A n e k))) (by have := fam_lt (rM A) (rG A) (rH A) (sA A n e k) (uA A n e k); omega) (by decide) dX8_walk_67 ?_
          refine sn_top (y := nI (wA A n e k)) (by rw [h5 121 (by omega)]; exact (hT k (by omega) _ (fam_lt _ _ _ _ _)).2) ?_
          refine sg_ci (sg_runV (d := 2) (As := [.ref (b + 2), .int (nI (uA A n e k)), .int (nI (wA A n e k))]) (rest := []) hx hb hml hts hown hK hM (c_Row_append l G b σ1 116 k 2 (rM A) (rG A) (rH A) (sA A n e k) (uA A n e k) (wA A n e k) kc_116 kc_2 (hA.1.keep (h5 2 (by omega))) h4.1 (by omega) (lastN h4) (qS_lt _ _ _ _ _ _ _) (du_lt _ _ _ _ _ _ _ _) (cw_lt _ _ _)) mi_X7_append wl_X8_101 (sh3 kc_116) (kd_lt kc_116 (by decide)) rfl rfl rfl hl.1 rfl (Nat.le_of_ble_eq_true rfl) dX8_walk_68 ⟨by decide, by decide⟩ ⟨Nat.le_refl 0, Nat.le_refl 0⟩) hM sgA (fun r_68 σ2 H locs hq hM => ?_)
          obtain ⟨hr_68, hq⟩ := hq; subst r_68
          refine lv_pop hx hb dX8_walk_71 rfl ?_
          refine lv_iinc (v := nI (k + 1)) (lv' := [(3, .int (nI (k + 1))), (5, .int (nI (uA A n e k))), (0, .ref (b + 115)), (1, .ref (b + 2)), (2, .int (nI n)), (4, .int (nI (sA A n e k)))]) hx hb dX8_walk_72 hl (k := 4) rfl (q_inc _) (by decide) rfl (fun ls hl => ?_)
          refine lv_goto (tgt := 2) hx hb dX8_walk_75 (by decide) ?_
          exact ih2 (k + 1) σ2 (by omega) (by rw [hq]; exact rowN_s h4) (fun c a => by rw [hq]; unfold rowApp; rw [m2_o (by omega), m2_o (by omega), m2_o (by omega), m2_o (by omega), m2_o (by omega)]; exact h5 c a) (by omega) _ _ _ hM (lv_sub hl [2, 3, 4, 0] rfl)
        refine sn_icmp_gt (tgt := 41) hx hb dX8_walk_34 (by decide) (stp_le (dp_le (by omega) hB (by omega) _) (hB _ (by omega) _ (fam_lt _ _ _ _ _))) (stp_le (dp_le (by omega) hB (by omega) _) (hB _ (by omega) _ (fam_lt _ _ _ _ _))) (fun c_34 => ?_) (fun c_34 => ?_)
        · refine lv_iconst (v := nI 1) hx hb dX8_walk_41 (by decide) ?_
          refine sn_top (y := nI (uA A n e k)) (by rw [uA_d, if_neg (by omega)]) ?_
          exact J42   _ _ _ hM (lv_sub hl [1, 2, 3, 4, 0] rfl)
        · refine lv_iconst (v := nI 0) hx hb dX8_walk_37 (by decide) ?_
          refine sn_top (y := nI (uA A n e k)) (by rw [uA_d, if_pos c_34]) ?_
          refine lv_goto (tgt := 42) hx hb dX8_walk_38 (by decide) ?_
          exact J42   _ _ _ hM (lv_sub hl [1, 2, 3, 4, 0] rfl)
  exact L2 (_ + 1) 0 σ (by omega) (⟨h0, fun k q => absurd q (by omega)⟩) (fun _ _ => rfl) (Nat.lt_succ_self _) _ _ _ hM (lv_sub hl [1, 2, 3, 0] rfl)
theorem dA_le {A : Rec} (hR : ROk A) {n : Nat} (hn : n ≤ rN A) (e : Int32) (j : Nat) (hj : j ≤ n) (s : Nat) : dA A n e j s ≤ NV := dp_le (by have := hR.2.1.2; omega) (fun k hk f hf => tcA_le hR k (by omega) f hf) hj s
set_option maxHeartbeats 4000000 in
set_option maxRecDepth 100000 in
theorem c_Se_seek (l : Launch) (G : GT) (b : Nat) (σ : Mem) (A : Rec) (n : Nat) (e : Int32) (hR : ROk A) (hA : CM σ 1 A) (hn : n ≤ rN A) : KI l G b yX8_seek cX8_seek 4 4 σ [.ref (b + 115), .ref (b + 1), .int (nI n), .int e] (fun r σ' => r = nI (dA A n e n 0) ∧ (dA A n e n 0 < NV → RowN σ' A n e n) ∧ (¬ dA A n e n 0 < NV → σ' 116 0 = nI 0) ∧ ∀ c, c < 115 ∨ 124 ≤ c → σ' c = σ c) := by
  refine sg_metI [.ref (b + 115), .ref (b + 1), .int (nI n), .int e] (by decide) (Nat.le_of_ble_eq_true rfl) ?_
  intro vp ve vs vm args below meth vc ls Q hx hb hml hown hts hK hM hl hret
  have hl : lv_has ls 4 [(0, .ref (b + 115)), (1, .ref (b + 1)), (2, .int (nI n)), (3, .int e)] := hl
  have hn24 := hR.2.1.2
  have hNV : NV = 99999999 := rfl
  refine lv_aload_n hx hb dX8_seek_0 rfl (lv_at hl 0 rfl) ?_
  refine lv_aload_n hx hb dX8_seek_1 rfl (lv_at hl 1 rfl) ?_
  refine sg_get (v := .ref (b + 8)) hx hb hts hown hK hM (sh1 kc_1) (kd_lt kc_1 (by decide)) rfl inX3 2 (by decide) wf_X8_28 rfl dX8_seek_2 ?_
  refine lv_iload_n hx hb dX8_seek_5 rfl (lv_at hl 2 rfl) ?_
  refine sg_cv (sg_runV (d := 3) (As := [.ref (b + 8), .int (nI n)]) (rest := []) hx hb hml hts hown hK hM (c_Se_weigh l G b σ A n hR hA hn) mi_X8_weigh wl_X8_34 (sh10 kc_115) (kd_lt kc_115 (by decide)) rfl rfl rfl hl.1 rfl (Nat.le_of_ble_eq_true rfl) dX8_seek_6 ⟨by decide, by decide⟩ ⟨Nat.le_refl 0, Nat.le_refl 0⟩) hM sgA (fun σ1 H locs hw hM => ?_)
  refine lv_aload_n hx hb dX8_seek_9 rfl (lv_at hl 0 rfl) ?_
  refine lv_aload_n hx hb dX8_seek_10 rfl (lv_at hl 1 rfl) ?_
  refine sg_get (v := .ref (b + 2)) hx hb hts hown hK hM (sh1 kc_1) (kd_lt kc_1 (by decide)) rfl inX3 0 (by decide) wf_X8_38 rfl dX8_seek_11 ?_
  refine lv_iload_n hx hb dX8_seek_14 rfl (lv_at hl 2 rfl) ?_
  refine lv_iload_n hx hb dX8_seek_15 rfl (lv_at hl 3 rfl) ?_
  refine sg_cv (sg_runV (d := 3) (As := [.ref (b + 2), .int (nI n), .int e]) (rest := []) hx hb hml hts hown hK hM (c_Se_reckon l G b σ1 A n e hR (hA.keep (fun k _ _ => hw.2 k (by omega) (by omega))) hn hw.1) mi_X8_reckon wl_X8_42 (sh10 kc_115) (kd_lt kc_115 (by decide)) rfl rfl rfl hl.1 rfl (Nat.le_of_ble_eq_true rfl) dX8_seek_16 ⟨by decide, by decide⟩ ⟨Nat.le_refl 0, Nat.le_refl 0⟩) hM sgA (fun σ2 H locs hq hM => ?_)
  refine lv_aload_n hx hb dX8_seek_19 rfl (lv_at hl 0 rfl) ?_
  refine sg_get (v := .ref (b + 116)) hx hb hts hown hK hM (sh10 kc_115) (kd_lt kc_115 (by decide)) rfl inX8 0 (by decide) wf_X8_12 rfl dX8_seek_20 ?_
  refine lv_iconst (v := nI 0) hx hb dX8_seek_23 (by decide) ?_
  refine sg_put (v := nI 0) (ty := .int) hx hb hts hown hK hM sgA (sh3 kc_116) (kd_lt kc_116 (by decide)) rfl inX7 tyX7 tyX7_ok nmX7 0 (by decide) wf_X8_46 rfl (by decide +kernel) rfl rfl (Nat.le_of_ble_eq_true rfl) (by rw [sh3 kc_116]; rfl) dX8_seek_24 (fun H locs hM => ?_)
  obtain ⟨σ3, hσ3⟩ : ∃ z : Mem, z = m2 σ2 116 0 (nI 0) := ⟨_, rfl⟩
  rw [← hσ3] at hM
  refine lv_aload_n hx hb dX8_seek_27 rfl (lv_at hl 0 rfl) ?_
  refine sg_get (v := .ref (b + 123)) hx hb hts hown hK hM (sh10 kc_115) (kd_lt kc_115 (by decide)) rfl inX8 3 (by decide) wf_X8_25 rfl dX8_seek_28 ?_
  refine lv_iconst (v := nI 0) hx hb dX8_seek_31 (by decide) ?_
  refine sg_iald hx hb hK hM (sh12 kc_123) (kd_lt kc_123 (by decide)) (i := 0) (by omega) (by decide) dX8_seek_32 ?_
  refine sn_top (y := nI (dA A n e n 0)) (by rw [hσ3, m2_o (by decide)]; exact hq.1 0 (by omega) 0 (p2_pos _)) ?_
  refine lv_ldc (v := nI 99999999) hx hb hown (hts (Cond.constant RX8 50 (nI 99999999)) wk_X8_50) dX8_seek_33 ?_
  refine sn_icmp_ge (tgt := 47) hx hb dX8_seek_35 (by decide) (by have := dA_le hR hn e n (Nat.le_refl _) 0; have : NV = 99999999 := rfl; omega) (by omega) (fun c_35 => ?_) (fun c_35 => ?_)
  · refine lv_aload_n hx hb dX8_seek_47 rfl (lv_at hl 0 rfl) ?_
    refine sg_get (v := .ref (b + 123)) hx hb hts hown hK hM (sh10 kc_115) (kd_lt kc_115 (by decide)) rfl inX8 3 (by decide) wf_X8_25 rfl dX8_seek_48 ?_
    refine lv_iconst (v := nI 0) hx hb dX8_seek_51 (by decide) ?_
    refine sg_iald hx hb hK hM (sh12 kc_123) (kd_lt kc_123 (by decide)) (i := 0) (by omega) (by decide) dX8_seek_52 ?_
    refine sn_top (y := nI (dA A n e n 0)) (by rw [hσ3, m2_o (by decide)]; exact hq.1 0 (by omega) 0 (p2_pos _)) ?_
    exact hret _ _ _ _ _ _ dX8_seek_53 hM (⟨rfl, fun q => absurd c_35 (by omega), fun _ => by rw [hσ3]; exact m2_ss, fun c a => by rw [hσ3, m2_o (by omega), hq.2 c (by omega), hw.2 c (by omega) (by omega)]⟩)
  · refine lv_aload_n hx hb dX8_seek_38 rfl (lv_at hl 0 rfl) ?_
    refine lv_aload_n hx hb dX8_seek_39 rfl (lv_at hl 1 rfl) ?_
    refine sg_get (v := .ref (b + 2)) hx hb hts hown hK hM (sh1 kc_1) (kd_lt kc_1 (by decide)) rfl inX3 0 (by decide) wf_X8_38 rfl dX8_seek_40 ?_
    refine lv_iload_n hx hb dX8_seek_43 rfl (lv_at hl 2 rfl) ?_
    refine sg_cv (sg_runV (d := 3) (As := [.ref (b + 2), .int (nI n)]) (rest := []) hx hb hml hts hown hK hM (c_Se_walk l G b σ3 A n e hR (hA.keep (fun k _ _ => by rw [hσ3, m2_o (by omega), hq.2 k (by omega), hw.2 k (by omega) (by omega)])) hn (by rw [hσ3, m2_o (by decide), m2_o (by decide), hq.2 122 (by decide), hq.2 121 (by decide)]; exact hw.1) (by rw [hσ3, m2_o (by decide)]; exact hq.1) (by rw [hσ3]; exact m2_ss)) mi_X8_walk wl_X8_51 (sh10 kc_115) (kd_lt kc_115 (by decide)) rfl rfl rfl hl.1 rfl (Nat.le_of_ble_eq_true rfl) dX8_seek_44 ⟨by decide, by decide⟩ ⟨Nat.le_refl 0, Nat.le_refl 0⟩) hM sgA (fun σ4 H locs hz hM => ?_)
    refine lv_aload_n hx hb dX8_seek_47 rfl (lv_at hl 0 rfl) ?_
    refine sg_get (v := .ref (b + 123)) hx hb hts hown hK hM (sh10 kc_115) (kd_lt kc_115 (by decide)) rfl inX8 3 (by decide) wf_X8_25 rfl dX8_seek_48 ?_
    refine lv_iconst (v := nI 0) hx hb dX8_seek_51 (by decide) ?_
    refine sg_iald hx hb hK hM (sh12 kc_123) (kd_lt kc_123 (by decide)) (i := 0) (by omega) (by decide) dX8_seek_52 ?_
    refine sn_top (y := nI (dA A n e n 0)) (by rw [hz.2 123 (by omega), hσ3, m2_o (by decide)]; exact hq.1 0 (by omega) 0 (p2_pos _)) ?_
    exact hret _ _ _ _ _ _ dX8_seek_53 hM (⟨rfl, fun _ => hz.1, fun q => absurd c_35 (by omega), fun c a => by rw [hz.2 c (by omega), hσ3, m2_o (by omega), hq.2 c (by omega), hw.2 c (by omega) (by omega)]⟩)
end
section
/-! FREE: the least sum of two rows that part and come together again, by what its paths are -/
def g0 (f o : Nat) : Nat := if f = o then 0 else gap f o
theorem g0_le {f o : Nat} (hf : f < 4) (ho : o < 4) : g0 f o ≤ 1600 := by
  unfold g0
  split
  · omega
  · exact (gap_ok f hf o ho).2
def apv (m g h a u b v : Nat) : Nat := g0 (fam m g h a u) (fam m g h b v)
theorem apv_le (m g h a u b v : Nat) : apv m g h a u b v ≤ 1600 := g0_le (fam_lt _ _ _ _ _) (fam_lt _ _ _ _ _)
def Pth (m g h : Nat) : Nat → Nat → Nat → Nat → Prop
  | 0, a, b, c => ∃ s, s < 2 ^ m ∧ a = nx m s 0 ∧ b = nx m s 1 ∧ c = apv m g h s 0 s 1
  | t + 1, a, b, c => ∃ a0 b0 c0 u v, (a0 < 2 ^ m ∧ b0 < 2 ^ m ∧ u < 2 ∧ v < 2) ∧ Pth m g h t a0 b0 c0 ∧ a = nx m a0 u ∧ b = nx m b0 v ∧ a ≠ b ∧ c = c0 + apv m g h a0 u b0 v
def Cl (m g h t c : Nat) : Prop := ∃ a0 b0 c0 u v, (a0 < 2 ^ m ∧ b0 < 2 ^ m ∧ u < 2 ∧ v < 2) ∧ Pth m g h t a0 b0 c0 ∧ nx m a0 u = nx m b0 v ∧ c = c0 + apv m g h a0 u b0 v
theorem Pth_in {m g h : Nat} : ∀ {t a b c : Nat}, Pth m g h t a b c → (a < 2 ^ m ∧ b < 2 ^ m) ∧ c ≤ 1600 * (t + 1)
  | 0, a, b, c, ⟨s, hs, ha, hb, hc⟩ => by
    rw [ha, hb, hc]
    have := apv_le m g h s 0 s 1
    exact ⟨⟨nx_lt (by decide) hs, nx_lt (by decide) hs⟩, by omega⟩
  | t + 1, a, b, c, ⟨a0, b0, c0, u, v, hx, hp, ha, hb, _, hc⟩ => by
    have h1 := (Pth_in hp).2
    have h2 := apv_le m g h a0 u b0 v
    rw [ha, hb, hc]
    exact ⟨⟨nx_lt hx.2.2.1 hx.1, nx_lt hx.2.2.2 hx.2.1⟩, by omega⟩
def FrI (m g h T r : Nat) : Prop := ((∃ f, f < 4 ∧ r = gap f f) ∨ ∃ t, t < T ∧ Cl m g h t r) ∧ (∀ f, f < 4 → r ≤ gap f f) ∧ ∀ t c, t < T → Cl m g h t c → r ≤ c
theorem FrI_one {m g h T r r' : Nat} (a : FrI m g h T r) (b : FrI m g h T r') : r = r' := by
  have q : ∀ {x y : Nat}, FrI m g h T x → FrI m g h T y → x ≤ y := by
    intro x y hx hy
    rcases hy.1 with ⟨f, hf, e⟩ | ⟨t, ht, e⟩
    · rw [e]; exact hx.2.1 f hf
    · exact hx.2.2 t y ht e
  exact Nat.le_antisymm (q a b) (q b a)
noncomputable def freeV (m g h : Nat) : Nat := @dite Nat (∃ r, FrI m g h 29 r) (Classical.propDecidable _) (fun q => q.choose) (fun _ => 0)
theorem freeV_eq {m g h r : Nat} (hr : FrI m g h 29 r) : freeV m g h = r := by
  unfold freeV
  rw [dif_pos ⟨r, hr⟩]
  exact FrI_one (Exists.choose_spec (⟨r, hr⟩ : ∃ r, FrI m g h 29 r)) hr
/-- a table of sums: each is a path's, and none is missed that could still be the least -/
def Tv (m g h t l : Nat) (tv : Nat → Nat) : Prop := (∀ a b, a < 2 ^ m → b < 2 ^ m → tv (a * 8 + b) = NV ∨ Pth m g h t a b (tv (a * 8 + b))) ∧ ∀ a b c, Pth m g h t a b c → tv (a * 8 + b) ≤ c ∨ l ≤ c
def fu (f : Nat → Nat) (k v : Nat) : Nat → Nat := fun j => if j = k then v else f j
theorem fu_s (f : Nat → Nat) (k v : Nat) : fu f k v k = v := by unfold fu; rw [if_pos rfl]
theorem fu_n (f : Nat → Nat) {k v j : Nat} (h : j ≠ k) : fu f k v j = f j := by unfold fu; rw [if_neg h]
/-- of one pair, the first p of its four ways: the least that closes, the later sums -/
def APs (m g h a b t0 p : Nat) (lv : Nat → Nat) (rv : Nat) (lw : Nat → Nat) : Prop :=
  (rv = NV ∨ ∃ u v, (u < 2 ∧ v < 2) ∧ nx m a u = nx m b v ∧ rv = t0 + apv m g h a u b v) ∧ (∀ u v, u < 2 → v < 2 → 2 * u + v < p → nx m a u = nx m b v → rv ≤ t0 + apv m g h a u b v) ∧
  (∀ i, lw i ≤ lv i ∧ (lw i = lv i ∨ ∃ u v, (u < 2 ∧ v < 2) ∧ nx m a u ≠ nx m b v ∧ i = nx m a u * 8 + nx m b v ∧ lw i = t0 + apv m g h a u b v)) ∧ ∀ u v, u < 2 → v < 2 → 2 * u + v < p → nx m a u ≠ nx m b v → lw (nx m a u * 8 + nx m b v) ≤ t0 + apv m g h a u b v
theorem APs_0 (m g h a b t0 : Nat) (lv : Nat → Nat) : APs m g h a b t0 0 lv NV lv := ⟨Or.inl rfl, fun _ _ _ _ q => absurd q (by omega), fun _ => ⟨Nat.le_refl _, Or.inl rfl⟩, fun _ _ _ _ q => absurd q (by omega)⟩
theorem uv_eq {u v u' v' : Nat} (hv : v < 2) (hv' : v' < 2) (h : 2 * u + v = 2 * u' + v') : u = u' ∧ v = v' := by omega
theorem APs_c {m g h a b t0 u v : Nat} {lv lw : Nat → Nat} {rv : Nat} (H : APs m g h a b t0 (2 * u + v) lv rv lw) (hu : u < 2) (hv : v < 2) (hc : nx m a u = nx m b v) : APs m g h a b t0 (2 * u + v + 1) lv (min rv (t0 + apv m g h a u b v)) lw := by
  obtain ⟨h1, h2, h3, h4⟩ := H
  refine ⟨?_, fun u1 v1 a1 a2 a3 a4 => ?_, h3, fun u1 v1 a1 a2 a3 a4 => ?_⟩
  · rw [Nat.min_def]
    split
    · exact h1
    · exact Or.inr ⟨u, v, ⟨hu, hv⟩, hc, rfl⟩
  · by_cases e : 2 * u1 + v1 = 2 * u + v
    · obtain ⟨rfl, rfl⟩ := uv_eq a2 hv e
      exact Nat.min_le_right _ _
    · exact Nat.le_trans (Nat.min_le_left _ _) (h2 u1 v1 a1 a2 (by omega) a4)
  · by_cases e : 2 * u1 + v1 = 2 * u + v
    · obtain ⟨rfl, rfl⟩ := uv_eq a2 hv e
      exact absurd hc a4
    · exact h4 u1 v1 a1 a2 (by omega) a4
theorem APs_n {m g h a b t0 u v : Nat} {lv lw : Nat → Nat} {rv : Nat} (H : APs m g h a b t0 (2 * u + v) lv rv lw) (hu : u < 2) (hv : v < 2) (hc : nx m a u ≠ nx m b v) : APs m g h a b t0 (2 * u + v + 1) lv rv (fu lw (nx m a u * 8 + nx m b v) (min (lw (nx m a u * 8 + nx m b v)) (t0 + apv m g h a u b v))) := by
  obtain ⟨h1, h2, h3, h4⟩ := H
  refine ⟨h1, fun u1 v1 a1 a2 a3 a4 => ?_, fun i => ?_, fun u1 v1 a1 a2 a3 a4 => ?_⟩
  · by_cases e : 2 * u1 + v1 = 2 * u + v
    · obtain ⟨rfl, rfl⟩ := uv_eq a2 hv e
      exact absurd a4 hc
    · exact h2 u1 v1 a1 a2 (by omega) a4
  · by_cases e : i = nx m a u * 8 + nx m b v
    · rw [e, fu_s]
      refine ⟨Nat.le_trans (Nat.min_le_left _ _) (h3 _).1, ?_⟩
      rw [Nat.min_def]
      split
      · exact (h3 _).2
      · exact Or.inr ⟨u, v, ⟨hu, hv⟩, hc, rfl, rfl⟩
    · rw [fu_n _ e]
      exact h3 i
  · by_cases e : nx m a u1 * 8 + nx m b v1 = nx m a u * 8 + nx m b v
    · rw [e, fu_s]
      by_cases e2 : 2 * u1 + v1 = 2 * u + v
      · obtain ⟨rfl, rfl⟩ := uv_eq a2 hv e2
        exact Nat.min_le_right _ _
      · refine Nat.le_trans (Nat.min_le_left _ _) ?_
        rw [← e]
        exact h4 u1 v1 a1 a2 (by omega) a4
    · rw [fu_n _ e]
      by_cases e2 : 2 * u1 + v1 = 2 * u + v
      · obtain ⟨rfl, rfl⟩ := uv_eq a2 hv e2
        exact absurd rfl e
      · exact h4 u1 v1 a1 a2 (by omega) a4
/-- of all pairs, those ahead of p -/
def AVs (m g h : Nat) (tv : Nat → Nat) (l0 p l : Nat) (lv : Nat → Nat) : Prop :=
  (l = l0 ∨ ∃ a b u v, (a < 2 ^ m ∧ b < 2 ^ m ∧ u < 2 ∧ v < 2) ∧ tv (a * 8 + b) < NV ∧ nx m a u = nx m b v ∧ l = tv (a * 8 + b) + apv m g h a u b v) ∧ l ≤ l0 ∧
  (∀ a b u v, (a < 2 ^ m ∧ b < 2 ^ m ∧ u < 2 ∧ v < 2) → a * 8 + b < p → nx m a u = nx m b v → l ≤ tv (a * 8 + b) + apv m g h a u b v) ∧
  (∀ i, lv i = NV ∨ ∃ a b u v, (a < 2 ^ m ∧ b < 2 ^ m ∧ u < 2 ∧ v < 2) ∧ tv (a * 8 + b) < NV ∧ nx m a u ≠ nx m b v ∧ i = nx m a u * 8 + nx m b v ∧ lv i = tv (a * 8 + b) + apv m g h a u b v) ∧
  ∀ a b u v, (a < 2 ^ m ∧ b < 2 ^ m ∧ u < 2 ∧ v < 2) → a * 8 + b < p → nx m a u ≠ nx m b v → lv (nx m a u * 8 + nx m b v) ≤ tv (a * 8 + b) + apv m g h a u b v ∨ l ≤ tv (a * 8 + b)
theorem AVs_0 (m g h : Nat) (tv : Nat → Nat) (l0 : Nat) : AVs m g h tv l0 0 l0 (fun _ => NV) := ⟨Or.inl rfl, Nat.le_refl _, fun _ _ _ _ _ q => absurd q (by omega), fun _ => Or.inl rfl, fun _ _ _ _ _ q => absurd q (by omega)⟩
theorem AVs_to {m g h : Nat} {tv : Nat → Nat} {l0 p p' l : Nat} {lv : Nat → Nat} (H : AVs m g h tv l0 p l lv) (hp : ∀ a b, a < 2 ^ m → b < 2 ^ m → a * 8 + b < p' → a * 8 + b < p) : AVs m g h tv l0 p' l lv := by
  obtain ⟨h1, h2, h3, h4, h5⟩ := H
  exact ⟨h1, h2, fun a b u v x y => h3 a b u v x (hp a b x.1 x.2.1 y), h4, fun a b u v x y => h5 a b u v x (hp a b x.1 x.2.1 y)⟩
theorem ab_eq {m a b a' b' : Nat} (hm : m ≤ 3) (hb : b < 2 ^ m) (hb' : b' < 2 ^ m) (h : a * 8 + b = a' * 8 + b') : a = a' ∧ b = b' := by
  have := p2_le hm
  omega
/-- a pair that can't be the least is passed over -/
theorem AVs_skip {m g h : Nat} {tv : Nat → Nat} {l0 a b l : Nat} {lv : Nat → Nat} (hm : m ≤ 3) (hb : b < 2 ^ m) (H : AVs m g h tv l0 (a * 8 + b) l lv) (hl : l ≤ tv (a * 8 + b)) : AVs m g h tv l0 (a * 8 + b + 1) l lv := by
  obtain ⟨h1, h2, h3, h4, h5⟩ := H
  refine ⟨h1, h2, fun a1 b1 u v x y z => ?_, h4, fun a1 b1 u v x y z => ?_⟩
  · by_cases e : a1 * 8 + b1 = a * 8 + b
    · rw [e]; omega
    · exact h3 a1 b1 u v x (by omega) z
  · by_cases e : a1 * 8 + b1 = a * 8 + b
    · rw [e]; exact Or.inr hl
    · exact h5 a1 b1 u v x (by omega) z
theorem AVs_pair {m g h : Nat} {tv : Nat → Nat} {l0 a b l : Nat} {lv lw : Nat → Nat} {rv : Nat} (hm : m ≤ 3) (ha : a < 2 ^ m) (hb : b < 2 ^ m) (H : AVs m g h tv l0 (a * 8 + b) l lv) (hl : l ≤ NV) (ht : tv (a * 8 + b) < NV) (P : APs m g h a b (tv (a * 8 + b)) 4 lv rv lw) : AVs m g h tv l0 (a * 8 + b + 1) (min l rv) lw := by
  obtain ⟨h1, h2, h3, h4, h5⟩ := H
  obtain ⟨p1, p2, p3, p4⟩ := P
  refine ⟨?_, Nat.le_trans (Nat.min_le_left _ _) h2, fun a1 b1 u v x y z => ?_, fun i => ?_, fun a1 b1 u v x y z => ?_⟩
  · rw [Nat.min_def]
    split
    · exact h1
    · rcases p1 with q | ⟨u, v, q1, q2, q3⟩
      · omega
      · exact Or.inr ⟨a, b, u, v, ⟨ha, hb, q1.1, q1.2⟩, ht, q2, q3⟩
  · by_cases e : a1 * 8 + b1 = a * 8 + b
    · obtain ⟨rfl, rfl⟩ := ab_eq hm x.2.1 hb e
      exact Nat.le_trans (Nat.min_le_right _ _) (p2 u v x.2.2.1 x.2.2.2 (by omega) z)
    · exact Nat.le_trans (Nat.min_le_left _ _) (h3 a1 b1 u v x (by omega) z)
  · rcases (p3 i).2 with q | ⟨u, v, q1, q2, q3, q4⟩
    · rw [q]; exact h4 i
    · exact Or.inr ⟨a, b, u, v, ⟨ha, hb, q1.1, q1.2⟩, ht, q2, q3, q4⟩
  · by_cases e : a1 * 8 + b1 = a * 8 + b
    · obtain ⟨rfl, rfl⟩ := ab_eq hm x.2.1 hb e
      exact Or.inl (p4 u v x.2.2.1 x.2.2.2 (by omega) z)
    · rcases h5 a1 b1 u v x (by omega) z with q | q
      · exact Or.inl (Nat.le_trans (p3 _).1 q)
      · exact Or.inr (Nat.le_trans (Nat.min_le_left _ _) q)
/-- one step on -/
theorem AVs_end {m g h t l0 l : Nat} {tv lv : Nat → Nat} (hm : m ≤ 3) (hT : Tv m g h t l0 tv) (hF : FrI m g h t l0) (H : AVs m g h tv l0 64 l lv) : FrI m g h (t + 1) l ∧ Tv m g h (t + 1) l lv := by
  obtain ⟨h1, h2, h3, h4, h5⟩ := H
  have hp := p2_le hm
  refine ⟨⟨?_, fun f hf => Nat.le_trans h2 (hF.2.1 f hf), fun t1 c ht hc => ?_⟩, fun a b ha hb => ?_, fun a b c hc => ?_⟩
  · rcases h1 with e | ⟨a, b, u, v, x, y, z, e⟩
    · rw [e]
      rcases hF.1 with q | ⟨t1, q, r⟩
      · exact Or.inl q
      · exact Or.inr ⟨t1, by omega, r⟩
    · refine Or.inr ⟨t, by omega, a, b, tv (a * 8 + b), u, v, x, ?_, z, e⟩
      rcases hT.1 a b x.1 x.2.1 with q | q
      · omega
      · exact q
  · by_cases e : t1 = t
    · subst e
      obtain ⟨a, b, c0, u, v, x, y, z, e⟩ := hc
      rcases hT.2 a b c0 y with q | q
      · have := h3 a b u v x (by omega) z
        omega
      · omega
    · exact Nat.le_trans h2 (hF.2.2 t1 c (by omega) hc)
  · rcases h4 (a * 8 + b) with q | ⟨a1, b1, u, v, x, y, z, e, r⟩
    · exact Or.inl q
    · have n1 := nx_lt (m := m) x.2.2.1 x.1
      have n2 := nx_lt (m := m) x.2.2.2 x.2.1
      obtain ⟨rfl, rfl⟩ := ab_eq hm hb n2 e
      right
      rw [r]
      refine ⟨a1, b1, tv (a1 * 8 + b1), u, v, x, ?_, rfl, rfl, z, rfl⟩
      rcases hT.1 a1 b1 x.1 x.2.1 with q | q
      · omega
      · exact q
  · obtain ⟨a1, b1, c0, u, v, x, y, rfl, rfl, z, e⟩ := hc
    rcases hT.2 a1 b1 c0 y with q | q
    · rcases h5 a1 b1 u v x (by omega) z with r | r
      · left; omega
      · right; omega
    · right; omega
/-- the first sums -/
def P0s (m g h s : Nat) (tv : Nat → Nat) : Prop := (∀ i, tv i = NV ∨ ∃ s1, s1 < s ∧ i = nx m s1 0 * 8 + nx m s1 1 ∧ tv i = apv m g h s1 0 s1 1) ∧ ∀ s1, s1 < s → tv (nx m s1 0 * 8 + nx m s1 1) ≤ apv m g h s1 0 s1 1
theorem P0s_0 (m g h : Nat) : P0s m g h 0 (fun _ => NV) := ⟨fun _ => Or.inl rfl, fun _ q => absurd q (by omega)⟩
theorem P0s_s {m g h s : Nat} {tv : Nat → Nat} (H : P0s m g h s tv) : P0s m g h (s + 1) (fu tv (nx m s 0 * 8 + nx m s 1) (min (tv (nx m s 0 * 8 + nx m s 1)) (apv m g h s 0 s 1))) := by
  obtain ⟨h1, h2⟩ := H
  have up : ∀ i, (tv i = NV ∨ ∃ s1, s1 < s ∧ i = nx m s1 0 * 8 + nx m s1 1 ∧ tv i = apv m g h s1 0 s1 1) → (tv i = NV ∨ ∃ s1, s1 < s + 1 ∧ i = nx m s1 0 * 8 + nx m s1 1 ∧ tv i = apv m g h s1 0 s1 1) := by
    intro i q
    rcases q with q | ⟨s1, a, b, c⟩
    · exact Or.inl q
    · exact Or.inr ⟨s1, by omega, b, c⟩
  refine ⟨fun i => ?_, fun s1 q => ?_⟩
  · by_cases e : i = nx m s 0 * 8 + nx m s 1
    · rw [e, fu_s, Nat.min_def]
      split
      · exact up _ (h1 _)
      · exact Or.inr ⟨s, by omega, rfl, rfl⟩
    · rw [fu_n _ e]
      exact up i (h1 i)
  · by_cases e : nx m s1 0 * 8 + nx m s1 1 = nx m s 0 * 8 + nx m s 1
    · rw [e, fu_s]
      by_cases e2 : s1 = s
      · subst e2; exact Nat.min_le_right _ _
      · refine Nat.le_trans (Nat.min_le_left _ _) ?_
        rw [← e]
        exact h2 s1 (by omega)
    · rw [fu_n _ e]
      by_cases e2 : s1 = s
      · subst e2; exact absurd rfl e
      · exact h2 s1 (by omega)
theorem P0s_T {m g h l : Nat} {tv : Nat → Nat} (hm : m ≤ 3) (H : P0s m g h (2 ^ m) tv) : Tv m g h 0 l tv := by
  refine ⟨fun a b ha hb => ?_, fun a b c hc => ?_⟩
  · rcases H.1 (a * 8 + b) with q | ⟨s, q, r, w⟩
    · exact Or.inl q
    · have n2 := nx_lt (m := m) (u := 1) (by decide) q
      obtain ⟨rfl, rfl⟩ := ab_eq hm hb n2 r
      exact Or.inr ⟨s, q, rfl, rfl, w⟩
  · obtain ⟨s, q, rfl, rfl, rfl⟩ := hc
    exact Or.inl (H.2 s q)
/-- the least of the families' own -/
def gm : Nat → Nat
  | 0 => NV
  | n + 1 => min (gm n) (gap n n)
theorem gm_ok : FrI 0 0 0 0 (gm 4) := by
  refine ⟨Or.inl ⟨0, by decide, by decide +kernel⟩, ?_, fun t c q => absurd q (by omega)⟩
  decide +kernel
theorem gm_F (m g h : Nat) : FrI m g h 0 (gm 4) := ⟨gm_ok.1.elim Or.inl (fun ⟨_, q, _⟩ => absurd q (by omega)), gm_ok.2.1, fun t c q => absurd q (by omega)⟩
theorem gm_le : ∀ n, gm n ≤ NV
  | 0 => Nat.le_refl _
  | n + 1 => Nat.le_trans (Nat.min_le_left _ _) (gm_le n)
/-- an array holds a table -/
def Ar (σ : Mem) (k n : Nat) (tv : Nat → Nat) : Prop := ∀ i, i < n → σ k i = nI (tv i) ∧ tv i ≤ NV
theorem Ar_up {σ : Mem} {k n i v : Nat} {tv : Nat → Nat} (h : Ar σ k n tv) (hv : v ≤ NV) : Ar (m2 σ k i (nI v)) k n (fu tv i v) := by
  intro j hj
  by_cases e : j = i
  · subst e; rw [m2_ss, fu_s]; exact ⟨rfl, hv⟩
  · rw [m2_sn e, fu_n _ e]; exact h j hj
theorem Ar.keep {σ σ' : Mem} {k n : Nat} {tv : Nat → Nat} (h : Ar σ k n tv) (e : σ' k = σ k) : Ar σ' k n tv := by
  intro j hj
  rw [e]
  exact h j hj
end
section
set_option maxHeartbeats 4000000 in
set_option maxRecDepth 100000 in
theorem c_fill64 (l : Launch) (G : GT) (b : Nat) (σ : Mem) (k : Nat) (x : Int32) (hk : kd k = 15) : KV l G b yJ7_fill_53178 cJ7_fill_53178 4 0 σ [.ref (b + k), .int x] (fun σ' => (∀ j, j < 64 → σ' k j = x) ∧ ∀ c, c ≠ k → σ' c = σ c) := by
  refine sg_metV [.ref (b + k), .int x] (by decide) (Nat.le_of_ble_eq_true rfl) ?_
  intro vp ve vs vm args below meth vc ls Q hx hb hml hown hts hK hM hl hret
  have hl : lv_has ls 4 [(0, .ref (b + k)), (1, .int x)] := hl
  refine lv_iconst (v := nI 0) hx hb dJ7_fill_53178_0 (by decide) ?_
  refine lv_istore_n (lv' := [(2, .int (nI 0)), (0, .ref (b + k)), (1, .int x)]) hx hb dJ7_fill_53178_1 rfl hl (by decide) rfl (fun ls hl => ?_)
  refine lv_aload_n hx hb dJ7_fill_53178_2 rfl (lv_at hl 1 rfl) ?_
  refine sg_alen hx hb hK hM (sh15 hk) (kd_lt hk (by decide)) dJ7_fill_53178_3 ?_
  refine lv_istore_n (lv' := [(3, .int (nI 64)), (2, .int (nI 0)), (0, .ref (b + k)), (1, .int x)]) hx hb dJ7_fill_53178_4 rfl hl (by decide) rfl (fun ls hl => ?_)
  have L5 : ∀ (fuel : Nat) (i : Nat) (σ1 : Mem), (i ≤ 64) → (∀ j, j < i → σ1 k j = x) → (∀ c, c ≠ k → σ1 c = σ c) → (64 - i) < fuel → ∀ (H : Heap) (locs : List Loc) (ls : Array Slot), St G (Fr b) b σ1 vs H locs → lv_has ls 4 [(0, .ref (b + k)), (1, .int x), (2, .int (nI i)), (3, .int (nI 64))] → W vp l ve (RM 0) vs vm args below meth vc H locs 0 0 Q (F0 vm 5 ls []) := by
    intro fuel
    induction fuel with
    | zero => intro i σ1 hi h1 h2 hF; exact absurd hF (Nat.not_lt_zero _)
    | succ fuel ih5 =>
      intro i σ1 hi h1 h2 hF H locs ls hM hl
      refine lv_iload_n hx hb dJ7_fill_53178_5 rfl (lv_at hl 2 rfl) ?_
      refine lv_iload_n hx hb dJ7_fill_53178_6 rfl (lv_at hl 3 rfl) ?_
      refine sn_icmp_ge (tgt := 20) hx hb dJ7_fill_53178_7 (by decide) (by omega) (by omega) (fun c_7 => ?_) (fun c_7 => ?_)
      · obtain rfl : i = 64 := by omega
        exact hret _ _ _ _ _ dJ7_fill_53178_20 hM (⟨h1, h2⟩)
      · refine lv_aload_n hx hb dJ7_fill_53178_10 rfl (lv_at hl 0 rfl) ?_
        refine lv_iload_n hx hb dJ7_fill_53178_11 rfl (lv_at hl 2 rfl) ?_
        refine lv_iload_n hx hb dJ7_fill_53178_12 rfl (lv_at hl 1 rfl) ?_
        refine sg_iast hx hb hK hM sgA (fun f => sh15 hk) (kd_lt hk (by decide)) (i := i) (by omega) (by decide) dJ7_fill_53178_13 (fun H locs hM => ?_)
        refine lv_iinc (v := nI (i + 1)) (lv' := [(2, .int (nI (i + 1))), (0, .ref (b + k)), (1, .int x), (3, .int (nI 64))]) hx hb dJ7_fill_53178_14 hl (k := 2) rfl (q_inc _) (by decide) rfl (fun ls hl => ?_)
        refine lv_goto (tgt := 5) hx hb dJ7_fill_53178_17 (by decide) ?_
        exact ih5 (i + 1) (m2 σ1 k i x) (by omega) (fun j q => if e1 : j = i then (by subst e1; rw [m2_ss]) else (by rw [m2_sn e1]; exact h1 j (by omega))) (fun c a => by rw [m2_o a]; exact h2 c a) (by omega) _ _ _ hM (lv_sub hl [1, 2, 0, 3] rfl)
  exact L5 (_ + 1) 0 σ (by omega) (fun j q => absurd q (by omega)) (fun _ _ => rfl) (Nat.lt_succ_self _) _ _ _ hM (lv_sub hl [2, 3, 1, 0] rfl)
set_option maxHeartbeats 4000000 in
set_option maxRecDepth 100000 in
theorem c_fill256 (l : Launch) (G : GT) (b : Nat) (σ : Mem) (k : Nat) (x : Int32) (hk : kd k = 17) : KV l G b yJ7_fill_53178 cJ7_fill_53178 4 0 σ [.ref (b + k), .int x] (fun σ' => (∀ j, j < 256 → σ' k j = x) ∧ ∀ c, c ≠ k → σ' c = σ c) := by
  refine sg_metV [.ref (b + k), .int x] (by decide) (Nat.le_of_ble_eq_true rfl) ?_
  intro vp ve vs vm args below meth vc ls Q hx hb hml hown hts hK hM hl hret
  have hl : lv_has ls 4 [(0, .ref (b + k)), (1, .int x)] := hl
  refine lv_iconst (v := nI 0) hx hb dJ7_fill_53178_0 (by decide) ?_
  refine lv_istore_n (lv' := [(2, .int (nI 0)), (0, .ref (b + k)), (1, .int x)]) hx hb dJ7_fill_53178_1 rfl hl (by decide) rfl (fun ls hl => ?_)
  refine lv_aload_n hx hb dJ7_fill_53178_2 rfl (lv_at hl 1 rfl) ?_
  refine sg_alen hx hb hK hM (sh17 hk) (kd_lt hk (by decide)) dJ7_fill_53178_3 ?_
  refine lv_istore_n (lv' := [(3, .int (nI 256)), (2, .int (nI 0)), (0, .ref (b + k)), (1, .int x)]) hx hb dJ7_fill_53178_4 rfl hl (by decide) rfl (fun ls hl => ?_)
  have L5 : ∀ (fuel : Nat) (i : Nat) (σ1 : Mem), (i ≤ 256) → (∀ j, j < i → σ1 k j = x) → (∀ c, c ≠ k → σ1 c = σ c) → (256 - i) < fuel → ∀ (H : Heap) (locs : List Loc) (ls : Array Slot), St G (Fr b) b σ1 vs H locs → lv_has ls 4 [(0, .ref (b + k)), (1, .int x), (2, .int (nI i)), (3, .int (nI 256))] → W vp l ve (RM 0) vs vm args below meth vc H locs 0 0 Q (F0 vm 5 ls []) := by
    intro fuel
    induction fuel with
    | zero => intro i σ1 hi h1 h2 hF; exact absurd hF (Nat.not_lt_zero _)
    | succ fuel ih5 =>
      intro i σ1 hi h1 h2 hF H locs ls hM hl
      refine lv_iload_n hx hb dJ7_fill_53178_5 rfl (lv_at hl 2 rfl) ?_
      refine lv_iload_n hx hb dJ7_fill_53178_6 rfl (lv_at hl 3 rfl) ?_
      refine sn_icmp_ge (tgt := 20) hx hb dJ7_fill_53178_7 (by decide) (by omega) (by omega) (fun c_7 => ?_) (fun c_7 => ?_)
      · obtain rfl : i = 256 := by omega
        exact hret _ _ _ _ _ dJ7_fill_53178_20 hM (⟨h1, h2⟩)
      · refine lv_aload_n hx hb dJ7_fill_53178_10 rfl (lv_at hl 0 rfl) ?_
        refine lv_iload_n hx hb dJ7_fill_53178_11 rfl (lv_at hl 2 rfl) ?_
        refine lv_iload_n hx hb dJ7_fill_53178_12 rfl (lv_at hl 1 rfl) ?_
        refine sg_iast hx hb hK hM sgA (fun f => sh17 hk) (kd_lt hk (by decide)) (i := i) (by omega) (by decide) dJ7_fill_53178_13 (fun H locs hM => ?_)
        refine lv_iinc (v := nI (i + 1)) (lv' := [(2, .int (nI (i + 1))), (0, .ref (b + k)), (1, .int x), (3, .int (nI 256))]) hx hb dJ7_fill_53178_14 hl (k := 2) rfl (q_inc _) (by decide) rfl (fun ls hl => ?_)
        refine lv_goto (tgt := 5) hx hb dJ7_fill_53178_17 (by decide) ?_
        exact ih5 (i + 1) (m2 σ1 k i x) (by omega) (fun j q => if e1 : j = i then (by subst e1; rw [m2_ss]) else (by rw [m2_sn e1]; exact h1 j (by omega))) (fun c a => by rw [m2_o a]; exact h2 c a) (by omega) _ _ _ hM (lv_sub hl [1, 2, 0, 3] rfl)
  exact L5 (_ + 1) 0 σ (by omega) (fun j q => absurd q (by omega)) (fun _ _ => rfl) (Nat.lt_succ_self _) _ _ _ hM (lv_sub hl [2, 3, 1, 0] rfl)
set_option maxHeartbeats 4000000 in
set_option maxRecDepth 100000 in
theorem c_Pa_fillGaps (l : Launch) (G : GT) (b : Nat) (σ : Mem)  : KV l G b yX4_fillGaps cX4_fillGaps 3 3 σ [.ref (b + 124)] (fun σ' => (∀ f, f < 4 → ∀ o, o < 4 → σ' 125 (f * 4 + o) = nI (g0 f o)) ∧ ∀ c, c ≠ 125 → σ' c = σ c) := by
  refine sg_metV [.ref (b + 124)] (by decide) (Nat.le_of_ble_eq_true rfl) ?_
  intro vp ve vs vm args below meth vc ls Q hx hb hml hown hts hK hM hl hret
  have hl : lv_has ls 3 [(0, .ref (b + 124))] := hl
  refine lv_iconst (v := nI 0) hx hb dX4_fillGaps_0 (by decide) ?_
  refine lv_istore_n (lv' := [(1, .int (nI 0)), (0, .ref (b + 124))]) hx hb dX4_fillGaps_1 rfl hl (by decide) rfl (fun ls hl => ?_)
  have L2 : ∀ (fuel : Nat) (f : Nat) (σ1 : Mem), (f ≤ 4) → (∀ f1, f1 < f → ∀ o, o < 4 → σ1 125 (f1 * 4 + o) = nI (g0 f1 o)) → (∀ c, c ≠ 125 → σ1 c = σ c) → (4 - f) < fuel → ∀ (H : Heap) (locs : List Loc) (ls : Array Slot), St G (Fr b) b σ1 vs H locs → lv_has ls 3 [(0, .ref (b + 124)), (1, .int (nI f))] → W vp l ve (RM 3) vs vm args below meth vc H locs 0 0 Q (F0 vm 2 ls []) := by
    intro fuel
    induction fuel with
    | zero => intro f σ1 hf h1 h2 hF; exact absurd hF (Nat.not_lt_zero _)
    | succ fuel ih2 =>
      intro f σ1 hf h1 h2 hF H locs ls hM hl
      refine lv_iload_n hx hb dX4_fillGaps_2 rfl (lv_at hl 1 rfl) ?_
      refine lv_iconst (v := nI 4) hx hb dX4_fillGaps_3 (by decide) ?_
      refine sn_icmp_ge (tgt := 50) hx hb dX4_fillGaps_4 (by decide) (by omega) (by omega) (fun c_4 => ?_) (fun c_4 => ?_)
      · obtain rfl : f = 4 := by omega
        exact hret _ _ _ _ _ dX4_fillGaps_50 hM (⟨h1, h2⟩)
      · refine lv_iconst (v := nI 0) hx hb dX4_fillGaps_7 (by decide) ?_
        refine lv_istore_n (lv' := [(2, .int (nI 0)), (0, .ref (b + 124)), (1, .int (nI f))]) hx hb dX4_fillGaps_8 rfl hl (by decide) rfl (fun ls hl => ?_)
        have L9 : ∀ (fuel : Nat) (o : Nat) (σ2 : Mem), (o ≤ 4) → (∀ f1, f1 < f → ∀ o, o < 4 → σ2 125 (f1 * 4 + o) = nI (g0 f1 o)) → (∀ o1, o1 < o → σ2 125 (f * 4 + o1) = nI (g0 f o1)) → (∀ c, c ≠ 125 → σ2 c = σ c) → (4 - o) < fuel → ∀ (H : Heap) (locs : List Loc) (ls : Array Slot), St G (Fr b) b σ2 vs H locs → lv_has ls 3 [(0, .ref (b + 124)), (1, .int (nI f)), (2, .int (nI o))] → W vp l ve (RM 3) vs vm args below meth vc H locs 0 0 Q (F0 vm 9 ls []) := by
          intro fuel
          induction fuel with
          | zero => intro o σ2 ho h3 h4 h5 hF; exact absurd hF (Nat.not_lt_zero _)
          | succ fuel ih9 =>
            intro o σ2 ho h3 h4 h5 hF H locs ls hM hl
            refine lv_iload_n hx hb dX4_fillGaps_9 rfl (lv_at hl 2 rfl) ?_
            refine lv_iconst (v := nI 4) hx hb dX4_fillGaps_10 (by decide) ?_
            refine sn_icmp_ge (tgt := 44) hx hb dX4_fillGaps_11 (by decide) (by omega) (by omega) (fun c_11 => ?_) (fun c_11 => ?_)
            · refine lv_iinc (v := nI (f + 1)) (lv' := [(1, .int (nI (f + 1))), (0, .ref (b + 124)), (2, .int (nI o))]) hx hb dX4_fillGaps_44 hl (k := 1) rfl (q_inc _) (by decide) rfl (fun ls hl => ?_)
              refine lv_goto (tgt := 2) hx hb dX4_fillGaps_47 (by decide) ?_
              exact ih2 (f + 1) σ2 (by omega) (fun f1 q o ho => if e1 : f1 = f then (by subst e1; exact h4 o (by omega)) else h3 f1 (by omega) o ho) h5 (by omega) _ _ _ hM (lv_sub hl [1, 0] rfl)
            · refine lv_aload_n hx hb dX4_fillGaps_14 rfl (lv_at hl 0 rfl) ?_
              refine sg_get (v := .ref (b + 125)) hx hb hts hown hK hM (sh13 kc_124) (kd_lt kc_124 (by decide)) rfl inX4 0 (by decide) wf_X4_9 rfl dX4_fillGaps_15 ?_
              refine lv_iload_n hx hb dX4_fillGaps_18 rfl (lv_at hl 1 rfl) ?_
              refine lv_iconst (v := nI 4) hx hb dX4_fillGaps_19 (by decide) ?_
              refine sn_imul hx hb dX4_fillGaps_20 ?_
              refine lv_iload_n hx hb dX4_fillGaps_21 rfl (lv_at hl 2 rfl) ?_
              refine sn_iadd hx hb dX4_fillGaps_22 ?_
              refine lv_iload_n hx hb dX4_fillGaps_23 rfl (lv_at hl 1 rfl) ?_
              refine lv_iload_n hx hb dX4_fillGaps_24 rfl (lv_at hl 2 rfl) ?_
              refine sn_icmp_ne (tgt := 32) hx hb dX4_fillGaps_25 (by decide) (by omega) (by omega) (fun c_25 => ?_) (fun c_25 => ?_)
              · refine lv_iload_n hx hb dX4_fillGaps_32 rfl (lv_at hl 1 rfl) ?_
                refine lv_iload_n hx hb dX4_fillGaps_33 rfl (lv_at hl 2 rfl) ?_
                refine sg_ci (sg_runS (d := 2) (As := [.int (nI f), .int (nI o)]) (rest := [.int (nI ((f * 4) + o)), .ref (b + 125)]) hx hb hml hts hown hK hM (c_g_gapOf l G b σ2 f o (by first | omega | exact fam_lt _ _ _ _ _ | exact gf_lt _ | exact tf_lt _ | exact pt_lt (by first | omega | exact fam_lt _ _ _ _ _) (by omega) | exact tn_lt (by first | omega | exact pt_lt (by omega) (by omega))) (by first | omega | exact fam_lt _ _ _ _ _ | exact gf_lt _ | exact tf_lt _ | exact pt_lt (by first | omega | exact fam_lt _ _ _ _ _) (by omega) | exact tn_lt (by first | omega | exact pt_lt (by omega) (by omega)))) mi_X1_gapOf wl_X4_22 rfl hl.1 rfl (Nat.le_of_ble_eq_true rfl) dX4_fillGaps_34 ⟨by decide, by decide⟩ ⟨Nat.le_refl 0, Nat.le_refl 0⟩) hM sgA (fun r_34 σ_34 H locs hp_34 hM => ?_)
                obtain ⟨hr_34, hs_34⟩ := hp_34; subst r_34; subst σ_34
                refine sg_iast hx hb hK hM sgA (fun f => sh14 kc_125) (kd_lt kc_125 (by decide)) (i := (f * 4) + o) (by omega) (by decide) dX4_fillGaps_37 (fun H locs hM => ?_)
                refine lv_iinc (v := nI (o + 1)) (lv' := [(2, .int (nI (o + 1))), (0, .ref (b + 124)), (1, .int (nI f))]) hx hb dX4_fillGaps_38 hl (k := 2) rfl (q_inc _) (by decide) rfl (fun ls hl => ?_)
                refine lv_goto (tgt := 9) hx hb dX4_fillGaps_41 (by decide) ?_
                exact ih9 (o + 1) (m2 σ2 125 ((f * 4) + o) (nI (gap f o))) (by omega) (fun f1 q o1 ho => by rw [m2_sn (by omega)]; exact h3 f1 q o1 ho) (fun o1 q => if e1 : o1 = o then (by subst e1; rw [m2_ss]; unfold g0; first | rw [if_pos c_25] | rw [if_neg c_25]) else (by rw [m2_sn (by omega)]; exact h4 o1 (by omega))) (fun c a => by rw [m2_o a]; exact h5 c a) (by omega) _ _ _ hM (lv_sub hl [1, 2, 0] rfl)
              · refine lv_iconst (v := nI 0) hx hb dX4_fillGaps_28 (by decide) ?_
                refine lv_goto (tgt := 37) hx hb dX4_fillGaps_29 (by decide) ?_
                refine sg_iast hx hb hK hM sgA (fun f => sh14 kc_125) (kd_lt kc_125 (by decide)) (i := (f * 4) + o) (by omega) (by decide) dX4_fillGaps_37 (fun H locs hM => ?_)
                refine lv_iinc (v := nI (o + 1)) (lv' := [(2, .int (nI (o + 1))), (0, .ref (b + 124)), (1, .int (nI f))]) hx hb dX4_fillGaps_38 hl (k := 2) rfl (q_inc _) (by decide) rfl (fun ls hl => ?_)
                refine lv_goto (tgt := 9) hx hb dX4_fillGaps_41 (by decide) ?_
                exact ih9 (o + 1) (m2 σ2 125 ((f * 4) + o) (nI 0)) (by omega) (fun f1 q o1 ho => by rw [m2_sn (by omega)]; exact h3 f1 q o1 ho) (fun o1 q => if e1 : o1 = o then (by subst e1; rw [m2_ss]; unfold g0; first | rw [if_pos c_25] | rw [if_neg c_25]) else (by rw [m2_sn (by omega)]; exact h4 o1 (by omega))) (fun c a => by rw [m2_o a]; exact h5 c a) (by omega) _ _ _ hM (lv_sub hl [1, 2, 0] rfl)
        exact L9 (_ + 1) 0 σ1 (by omega) h1 (fun j q => absurd q (by omega)) h2 (Nat.lt_succ_self _) _ _ _ hM (lv_sub hl [1, 2, 0] rfl)
  exact L2 (_ + 1) 0 σ (by omega) (fun j q => absurd q (by omega)) (fun _ _ => rfl) (Nat.lt_succ_self _) _ _ _ hM (lv_sub hl [1, 0] rfl)
set_option maxHeartbeats 4000000 in
set_option maxRecDepth 100000 in
theorem c_Pa_gap (l : Launch) (G : GT) (b : Nat) (σ : Mem) (m g h a u b1 v : Nat) (hc : CodeAt σ 2 m g h) (ha : a < 2 ^ m) (hu : u < 2) (hb1 : b1 < 2 ^ m) (hv : v < 2) (hG : ∀ f, f < 4 → ∀ o, o < 4 → σ 125 (f * 4 + o) = nI (g0 f o)) : KI l G b yX4_gapOfSteps cX4_gapOfSteps 6 2 σ [.ref (b + 124), .ref (b + 2), .int (nI a), .int (nI u), .int (nI b1), .int (nI v)] (fun r σ' => r = nI (apv m g h a u b1 v) ∧ σ' = σ) := by
  refine sg_metI [.ref (b + 124), .ref (b + 2), .int (nI a), .int (nI u), .int (nI b1), .int (nI v)] (by decide) (Nat.le_of_ble_eq_true rfl) ?_
  intro vp ve vs vm args below meth vc ls Q hx hb hml hown hts hK hM hl hret
  have hl : lv_has ls 6 [(0, .ref (b + 124)), (1, .ref (b + 2)), (2, .int (nI a)), (3, .int (nI u)), (4, .int (nI b1)), (5, .int (nI v))] := hl
  refine lv_aload_n hx hb dX4_gapOfSteps_0 rfl (lv_at hl 0 rfl) ?_
  refine sg_get (v := .ref (b + 125)) hx hb hts hown hK hM (sh13 kc_124) (kd_lt kc_124 (by decide)) rfl inX4 0 (by decide) wf_X4_9 rfl dX4_gapOfSteps_1 ?_
  refine lv_aload_n hx hb dX4_gapOfSteps_4 rfl (lv_at hl 1 rfl) ?_
  refine lv_iload_n hx hb dX4_gapOfSteps_5 rfl (lv_at hl 2 rfl) ?_
  refine lv_iload_n hx hb dX4_gapOfSteps_6 rfl (lv_at hl 3 rfl) ?_
  refine sg_ci (sg_runV (d := 1) (As := [.int (nI a), .int (nI u)]) (rest := [.ref (b + 125)]) hx hb hml hts hown hK hM (c_Code_fam l G b σ 2 m g h a u kc_2 (hc) (by assumption) (by assumption)) mi_X0_familyFrom wl_X4_73 (sh2 kc_2) (kd_lt kc_2 (by decide)) rfl rfl rfl hl.1 rfl (Nat.le_of_ble_eq_true rfl) dX4_gapOfSteps_7 ⟨by decide, by decide⟩ ⟨Nat.le_refl 0, Nat.le_refl 0⟩) hM sgA (fun r_7 σ_7 H locs hp_7 hM => ?_)
  obtain ⟨hr_7, hs_7⟩ := hp_7; subst r_7; subst σ_7
  refine lv_iconst (v := nI 4) hx hb dX4_gapOfSteps_10 (by decide) ?_
  refine sn_imul hx hb dX4_gapOfSteps_11 ?_
  refine lv_aload_n hx hb dX4_gapOfSteps_12 rfl (lv_at hl 1 rfl) ?_
  refine lv_iload hx hb dX4_gapOfSteps_13 (lv_at hl 4 rfl) ?_
  refine lv_iload hx hb dX4_gapOfSteps_15 (lv_at hl 5 rfl) ?_
  refine sg_ci (sg_runV (d := 1) (As := [.int (nI b1), .int (nI v)]) (rest := [.int (nI ((fam m g h a u) * 4)), .ref (b + 125)]) hx hb hml hts hown hK hM (c_Code_fam l G b σ 2 m g h b1 v kc_2 (hc) (by assumption) (by assumption)) mi_X0_familyFrom wl_X4_73 (sh2 kc_2) (kd_lt kc_2 (by decide)) rfl rfl rfl hl.1 rfl (Nat.le_of_ble_eq_true rfl) dX4_gapOfSteps_17 ⟨by decide, by decide⟩ ⟨Nat.le_refl 0, Nat.le_refl 0⟩) hM sgA (fun r_17 σ_17 H locs hp_17 hM => ?_)
  obtain ⟨hr_17, hs_17⟩ := hp_17; subst r_17; subst σ_17
  refine sn_iadd hx hb dX4_gapOfSteps_20 ?_
  refine sg_iald hx hb hK hM (sh14 kc_125) (kd_lt kc_125 (by decide)) (i := ((fam m g h a u) * 4) + (fam m g h b1 v)) (by have := fam_lt m g h a u; have := fam_lt m g h b1 v; omega) (by decide) dX4_gapOfSteps_21 ?_
  refine sn_top (y := nI (apv m g h a u b1 v)) (hG _ (fam_lt _ _ _ _ _) _ (fam_lt _ _ _ _ _)) ?_
  exact hret _ _ _ _ _ _ dX4_gapOfSteps_22 hM (⟨rfl, rfl⟩)
set_option maxHeartbeats 4000000 in
set_option maxRecDepth 100000 in
theorem c_Pa_part (l : Launch) (G : GT) (b : Nat) (σ : Mem) (m g h l0 : Nat) (hc : CodeAt σ 2 m g h) (hG : ∀ f, f < 4 → ∀ o, o < 4 → σ 125 (f * 4 + o) = nI (g0 f o)) : KV l G b yX4_part cX4_part 4 3 σ [.ref (b + 124), .ref (b + 2)] (fun σ' => ∃ tv, Ar σ' 126 64 tv ∧ Tv m g h 0 l0 tv ∧ ∀ c, c ≠ 126 → σ' c = σ c) := by
  refine sg_metV [.ref (b + 124), .ref (b + 2)] (by decide) (Nat.le_of_ble_eq_true rfl) ?_
  intro vp ve vs vm args below meth vc ls Q hx hb hml hown hts hK hM hl hret
  have hl : lv_has ls 4 [(0, .ref (b + 124)), (1, .ref (b + 2))] := hl
  have hm8 := p2_le hc.m
  have hNV : NV = 99999999 := rfl
  refine lv_aload_n hx hb dX4_part_0 rfl (lv_at hl 0 rfl) ?_
  refine sg_get (v := .ref (b + 126)) hx hb hts hown hK hM (sh13 kc_124) (kd_lt kc_124 (by decide)) rfl inX4 1 (by decide) wf_X4_15 rfl dX4_part_1 ?_
  refine lv_ldc (v := nI 99999999) hx hb hown (hts (Cond.constant RX4 21 (nI 99999999)) wk_X4_21) dX4_part_4 ?_
  refine sg_cv (sg_runS (d := 0) (As := [.ref (b + 126), .int (nI 99999999)]) (rest := []) hx hb hml hts hown hK hM (c_fill64 l G b σ 126 (nI 99999999) kc_126) mi_J7_fill_53178 wl_X4_44 rfl hl.1 rfl (Nat.le_of_ble_eq_true rfl) dX4_part_6 ⟨by decide, by decide⟩ ⟨Nat.le_refl 0, Nat.le_refl 0⟩) hM sgA (fun σ_6 H locs hp_6 hM => ?_)
  refine lv_iconst (v := nI 0) hx hb dX4_part_9 (by decide) ?_
  refine lv_istore_n (lv' := [(2, .int (nI 0)), (0, .ref (b + 124)), (1, .ref (b + 2))]) hx hb dX4_part_10 rfl hl (by decide) rfl (fun ls hl => ?_)
  have L11 : ∀ (fuel : Nat) (s : Nat) (σ1 : Mem) (tv : Nat → Nat), (s ≤ 2 ^ m) → (Ar σ1 126 64 tv) → (P0s m g h s tv) → (∀ c, c ≠ 126 → σ1 c = σ c) → (2 ^ m - s) < fuel → ∀ (H : Heap) (locs : List Loc) (ls : Array Slot), St G (Fr b) b σ1 vs H locs → lv_has ls 4 [(0, .ref (b + 124)), (1, .ref (b + 2)), (2, .int (nI s))] → W vp l ve (RM 3) vs vm args below meth vc H locs 0 0 Q (F0 vm 11 ls []) := by
    intro fuel
    induction fuel with
    | zero => intro s σ1 tv hs h1 h2 h3 hF; exact absurd hF (Nat.not_lt_zero _)
    | succ fuel ih11 =>
      intro s σ1 tv hs h1 h2 h3 hF H locs ls hM hl
      refine lv_iload_n hx hb dX4_part_11 rfl (lv_at hl 2 rfl) ?_
      refine lv_aload_n hx hb dX4_part_12 rfl (lv_at hl 1 rfl) ?_
      refine sg_ci (sg_runV (d := 0) (As := []) (rest := [.int (nI s)]) hx hb hml hts hown hK hM (c_Code_states l G b σ1 2 m g h kc_2 (hc.keep (h3 2 (by decide)))) mi_X0_states wl_X4_50 (sh2 kc_2) (kd_lt kc_2 (by decide)) rfl rfl rfl hl.1 rfl (Nat.le_of_ble_eq_true rfl) dX4_part_13 ⟨by decide, by decide⟩ ⟨Nat.le_refl 0, Nat.le_refl 0⟩) hM sgA (fun r_13 σ_13 H locs hp_13 hM => ?_)
      obtain ⟨hr_13, hs_13⟩ := hp_13; subst r_13; subst σ_13
      refine sn_icmp_ge (tgt := 66) hx hb dX4_part_16 (by decide) (by omega) (by omega) (fun hlt => ?_) (fun hlt => ?_)
      · obtain rfl : s = 2 ^ m := by omega
        exact hret _ _ _ _ _ dX4_part_66 hM (⟨tv, h1, P0s_T hc.m h2, h3⟩)
      · have n0 := nx_lt (m := m) (u := 0) (by decide) hlt
        have n1 := nx_lt (m := m) (u := 1) (by decide) hlt
        refine lv_aload_n hx hb dX4_part_19 rfl (lv_at hl 1 rfl) ?_
        refine lv_iload_n hx hb dX4_part_20 rfl (lv_at hl 2 rfl) ?_
        refine lv_iconst (v := nI 0) hx hb dX4_part_21 (by decide) ?_
        refine sg_ci (sg_runV (d := 1) (As := [.int (nI s), .int (nI 0)]) (rest := []) hx hb hml hts hown hK hM (c_Code_next l G b σ1 2 m g h s 0 kc_2 (hc.keep (h3 2 (by decide))) (by decide) (hlt)) mi_X0_stateAfter wl_X4_56 (sh2 kc_2) (kd_lt kc_2 (by decide)) rfl rfl rfl hl.1 rfl (Nat.le_of_ble_eq_true rfl) dX4_part_22 ⟨by decide, by decide⟩ ⟨Nat.le_refl 0, Nat.le_refl 0⟩) hM sgA (fun r_22 σ_22 H locs hp_22 hM => ?_)
        obtain ⟨hr_22, hs_22⟩ := hp_22; subst r_22; subst σ_22
        refine lv_bipush (v := nI 8) hx hb dX4_part_25 (by decide) ?_
        refine sn_imul hx hb dX4_part_27 ?_
        refine lv_aload_n hx hb dX4_part_28 rfl (lv_at hl 1 rfl) ?_
        refine lv_iload_n hx hb dX4_part_29 rfl (lv_at hl 2 rfl) ?_
        refine lv_iconst (v := nI 1) hx hb dX4_part_30 (by decide) ?_
        refine sg_ci (sg_runV (d := 1) (As := [.int (nI s), .int (nI 1)]) (rest := [.int (nI ((nx m s 0) * 8))]) hx hb hml hts hown hK hM (c_Code_next l G b σ1 2 m g h s 1 kc_2 (hc.keep (h3 2 (by decide))) (by decide) (hlt)) mi_X0_stateAfter wl_X4_56 (sh2 kc_2) (kd_lt kc_2 (by decide)) rfl rfl rfl hl.1 rfl (Nat.le_of_ble_eq_true rfl) dX4_part_31 ⟨by decide, by decide⟩ ⟨Nat.le_refl 0, Nat.le_refl 0⟩) hM sgA (fun r_31 σ_31 H locs hp_31 hM => ?_)
        obtain ⟨hr_31, hs_31⟩ := hp_31; subst r_31; subst σ_31
        refine sn_iadd hx hb dX4_part_34 ?_
        refine lv_istore_n (lv' := [(3, .int (nI (((nx m s 0) * 8) + (nx m s 1)))), (0, .ref (b + 124)), (1, .ref (b + 2)), (2, .int (nI s))]) hx hb dX4_part_35 rfl hl (by decide) rfl (fun ls hl => ?_)
        refine lv_aload_n hx hb dX4_part_36 rfl (lv_at hl 1 rfl) ?_
        refine sg_get (v := .ref (b + 126)) hx hb hts hown hK hM (sh13 kc_124) (kd_lt kc_124 (by decide)) rfl inX4 1 (by decide) wf_X4_15 rfl dX4_part_37 ?_
        refine lv_iload_n hx hb dX4_part_40 rfl (lv_at hl 0 rfl) ?_
        refine lv_aload_n hx hb dX4_part_41 rfl (lv_at hl 1 rfl) ?_
        refine sg_get (v := .ref (b + 126)) hx hb hts hown hK hM (sh13 kc_124) (kd_lt kc_124 (by decide)) rfl inX4 1 (by decide) wf_X4_15 rfl dX4_part_42 ?_
        refine lv_iload_n hx hb dX4_part_45 rfl (lv_at hl 0 rfl) ?_
        refine sg_iald hx hb hK hM (sh15 kc_126) (kd_lt kc_126 (by decide)) (i := ((nx m s 0) * 8) + (nx m s 1)) (by omega) (by decide) dX4_part_46 ?_
        refine sn_top (y := nI (tv (nx m s 0 * 8 + nx m s 1))) ((h1 _ (by omega)).1) ?_
        refine lv_aload_n hx hb dX4_part_47 rfl (lv_at hl 1 rfl) ?_
        refine lv_aload_n hx hb dX4_part_48 rfl (lv_at hl 2 rfl) ?_
        refine lv_iload_n hx hb dX4_part_49 rfl (lv_at hl 3 rfl) ?_
        refine lv_iconst (v := nI 0) hx hb dX4_part_50 (by decide) ?_
        refine lv_iload_n hx hb dX4_part_51 rfl (lv_at hl 3 rfl) ?_
        refine lv_iconst (v := nI 1) hx hb dX4_part_52 (by decide) ?_
        refine sg_ci (sg_runV (d := 2) (As := [.ref (b + 2), .int (nI s), .int (nI 0), .int (nI s), .int (nI 1)]) (rest := [.int (nI (tv (nx m s 0 * 8 + nx m s 1))), .int (nI (((nx m s 0) * 8) + (nx m s 1))), .ref (b + 126)]) hx hb hml hts hown hK hM (c_Pa_gap l G b σ1 m g h s 0 s 1 (hc.keep (h3 2 (by decide))) hlt (by decide) hlt (by decide) (by rw [h3 125 (by decide)]; exact hG)) mi_X4_gapOfSteps wl_X4_59 (sh13 kc_124) (kd_lt kc_124 (by decide)) rfl rfl rfl hl.1 rfl (Nat.le_of_ble_eq_true rfl) dX4_part_53 ⟨by decide, by decide⟩ ⟨Nat.le_refl 0, Nat.le_refl 0⟩) hM sgA (fun r_53 σ_53 H locs hp_53 hM => ?_)
        obtain ⟨hr_53, hs_53⟩ := hp_53; subst r_53; subst σ_53
        refine va_mmin hx hb (by rw [hml]; exact hl.1.symm) hown (hts _ wl_X4_28) (hts _ ws_J9_min_7cf53) (hts _ wi_RJ9) (hts _ wc_J9_min_7cf53) (by decide) (Nat.le_of_ble_eq_true rfl) (Nat.le_refl 0) (Nat.le_refl 0) dX4_part_56 ?_
        refine sn_top (y := nI (min (tv (nx m s 0 * 8 + nx m s 1)) (apv m g h s 0 s 1))) (q_min (by have := (h1 _ (show nx m s 0 * 8 + nx m s 1 < 64 by omega)).2; omega) (by have := apv_le m g h s 0 s 1; omega)) ?_
        refine sg_iast hx hb hK hM sgA (fun f => sh15 kc_126) (kd_lt kc_126 (by decide)) (i := ((nx m s 0) * 8) + (nx m s 1)) (by omega) (by decide) dX4_part_59 (fun H locs hM => ?_)
        refine lv_iinc (v := nI (s + 1)) (lv' := [(2, .int (nI (s + 1))), (3, .int (nI (((nx m s 0) * 8) + (nx m s 1)))), (0, .ref (b + 124)), (1, .ref (b + 2))]) hx hb dX4_part_60 hl (k := 3) rfl (q_inc _) (by decide) rfl (fun ls hl => ?_)
        refine lv_goto (tgt := 11) hx hb dX4_part_63 (by decide) ?_
        exact ih11 (s + 1) (m2 σ1 126 (((nx m s 0) * 8) + (nx m s 1)) (nI (min (tv (nx m s 0 * 8 + nx m s 1)) (apv m g h s 0 s 1)))) (fu tv (nx m s 0 * 8 + nx m s 1) (min (tv (nx m s 0 * 8 + nx m s 1)) (apv m g h s 0 s 1))) (by omega) (Ar_up h1 (Nat.le_trans (Nat.min_le_left _ _) (h1 _ (by omega)).2)) (P0s_s h2) (fun c a => by rw [m2_o a]; exact h3 c a) (by omega) _ _ _ hM (lv_sub hl [2, 3, 0] rfl)
  exact L11 (_ + 1) 0 σ_6 (fun _ => NV) (Nat.zero_le _) (fun j q => ⟨hp_6.1 j q, Nat.le_refl _⟩) (P0s_0 m g h) hp_6.2 (Nat.lt_succ_self _) _ _ _ hM (lv_sub hl [1, 2, 0] rfl)
set_option maxHeartbeats 4000000 in
set_option maxRecDepth 100000 in
theorem c_Pa_pair (l : Launch) (G : GT) (b : Nat) (σ : Mem) (m g h a b1 : Nat) (tv lv : Nat → Nat) (hc : CodeAt σ 2 m g h) (ha : a < 2 ^ m) (hb1 : b1 < 2 ^ m) (hG : ∀ f, f < 4 → ∀ o, o < 4 → σ 125 (f * 4 + o) = nI (g0 f o)) (hS : Ar σ 126 64 tv) (hL : Ar σ 127 64 lv) : KI l G b yX4_advancePair cX4_advancePair 11 3 σ [.ref (b + 124), .ref (b + 2), .int (nI a), .int (nI b1)] (fun r σ' => ∃ rv lw, r = nI rv ∧ rv ≤ NV ∧ Ar σ' 127 64 lw ∧ (∀ c, c ≠ 127 → σ' c = σ c) ∧ APs m g h a b1 (tv (a * 8 + b1)) 4 lv rv lw) := by
  refine sg_metI [.ref (b + 124), .ref (b + 2), .int (nI a), .int (nI b1)] (by decide) (Nat.le_of_ble_eq_true rfl) ?_
  intro vp ve vs vm args below meth vc ls Q hx hb hml hown hts hK hM hl hret
  have hl : lv_has ls 11 [(0, .ref (b + 124)), (1, .ref (b + 2)), (2, .int (nI a)), (3, .int (nI b1))] := hl
  have hm8 := p2_le hc.m
  have hNV : NV = 99999999 := rfl
  refine lv_ldc (v := nI 99999999) hx hb hown (hts (Cond.constant RX4 21 (nI 99999999)) wk_X4_21) dX4_advancePair_0 ?_
  refine lv_istore (lv' := [(4, .int (nI 99999999)), (0, .ref (b + 124)), (1, .ref (b + 2)), (2, .int (nI a)), (3, .int (nI b1))]) hx hb dX4_advancePair_2 hl (by decide) rfl (fun ls hl => ?_)
  refine lv_iconst (v := nI 0) hx hb dX4_advancePair_4 (by decide) ?_
  refine lv_istore (lv' := [(5, .int (nI 0)), (4, .int (nI 99999999)), (0, .ref (b + 124)), (1, .ref (b + 2)), (2, .int (nI a)), (3, .int (nI b1))]) hx hb dX4_advancePair_5 hl (by decide) rfl (fun ls hl => ?_)
  have L7 : ∀ (fuel : Nat) (u : Nat) (rv : Nat) (σ1 : Mem) (lw : Nat → Nat), (u ≤ 2) → (Ar σ1 127 64 lw) → (∀ c, c ≠ 127 → σ1 c = σ c) → (rv ≤ NV) → (APs m g h a b1 (tv (a * 8 + b1)) (2 * u) lv rv lw) → (2 - u) < fuel → ∀ (H : Heap) (locs : List Loc) (ls : Array Slot), St G (Fr b) b σ1 vs H locs → lv_has ls 11 [(0, .ref (b + 124)), (1, .ref (b + 2)), (2, .int (nI a)), (3, .int (nI b1)), (4, .int (nI rv)), (5, .int (nI u))] → W vp l ve (RM 3) vs vm args below meth vc H locs 0 0 Q (F0 vm 7 ls []) := by
    intro fuel
    induction fuel with
    | zero => intro u rv σ1 lw hu h1 h2 h3 h4 hF; exact absurd hF (Nat.not_lt_zero _)
    | succ fuel ih7 =>
      intro u rv σ1 lw hu h1 h2 h3 h4 hF H locs ls hM hl
      refine lv_iload hx hb dX4_advancePair_7 (lv_at hl 5 rfl) ?_
      refine lv_iconst (v := nI 2) hx hb dX4_advancePair_9 (by decide) ?_
      refine sn_icmp_ge (tgt := 125) hx hb dX4_advancePair_10 (by decide) (by omega) (by omega) (fun hlu => ?_) (fun hlu => ?_)
      · refine lv_iload hx hb dX4_advancePair_125 (lv_at hl 4 rfl) ?_
        obtain rfl : u = 2 := by omega
        exact hret _ _ _ _ _ _ dX4_advancePair_127 hM (⟨rv, lw, rfl, h3, h1, h2, h4⟩)
      · refine lv_iconst (v := nI 0) hx hb dX4_advancePair_13 (by decide) ?_
        refine lv_istore (lv' := [(6, .int (nI 0)), (0, .ref (b + 124)), (1, .ref (b + 2)), (2, .int (nI a)), (3, .int (nI b1)), (4, .int (nI rv)), (5, .int (nI u))]) hx hb dX4_advancePair_14 hl (by decide) rfl (fun ls hl => ?_)
        have L16 : ∀ (fuel : Nat) (v : Nat) (rv2 : Nat) (σ2 : Mem) (lw2 : Nat → Nat), (v ≤ 2) → (Ar σ2 127 64 lw2) → (∀ c, c ≠ 127 → σ2 c = σ c) → (rv2 ≤ NV) → (APs m g h a b1 (tv (a * 8 + b1)) (2 * u + v) lv rv2 lw2) → (2 - v) < fuel → ∀ (H : Heap) (locs : List Loc) (ls : Array Slot), St G (Fr b) b σ2 vs H locs → lv_has ls 11 [(0, .ref (b + 124)), (1, .ref (b + 2)), (2, .int (nI a)), (3, .int (nI b1)), (4, .int (nI rv2)), (5, .int (nI u)), (6, .int (nI v))] → W vp l ve (RM 3) vs vm args below meth vc H locs 0 0 Q (F0 vm 16 ls []) := by
          intro fuel
          induction fuel with
          | zero => intro v rv2 σ2 lw2 hv h5 h6 h7 h8 hF; exact absurd hF (Nat.not_lt_zero _)
          | succ fuel ih16 =>
            intro v rv2 σ2 lw2 hv h5 h6 h7 h8 hF H locs ls hM hl
            refine lv_iload hx hb dX4_advancePair_16 (lv_at hl 6 rfl) ?_
            refine lv_iconst (v := nI 2) hx hb dX4_advancePair_18 (by decide) ?_
            refine sn_icmp_ge (tgt := 119) hx hb dX4_advancePair_19 (by decide) (by omega) (by omega) (fun hlv => ?_) (fun hlv => ?_)
            · refine lv_iinc (v := nI (u + 1)) (lv' := [(5, .int (nI (u + 1))), (0, .ref (b + 124)), (1, .ref (b + 2)), (2, .int (nI a)), (3, .int (nI b1)), (4, .int (nI rv2)), (6, .int (nI v))]) hx hb dX4_advancePair_119 hl (k := 5) rfl (q_inc _) (by decide) rfl (fun ls hl => ?_)
              refine lv_goto (tgt := 7) hx hb dX4_advancePair_122 (by decide) ?_
              exact ih7 (u + 1) rv2 σ2 lw2 (by omega) h5 h6 h7 (by rw [show 2 * (u + 1) = 2 * u + v by omega]; exact h8) (by omega) _ _ _ hM (lv_sub hl [1, 2, 3, 4, 5, 0] rfl)
            · have n0 := nx_lt (m := m) hlu ha
              have n1 := nx_lt (m := m) hlv hb1
              have hap := apv_le m g h a u b1 v
              have ht0 := (hS _ (show a * 8 + b1 < 64 by omega)).2
              refine lv_aload_n hx hb dX4_advancePair_22 rfl (lv_at hl 0 rfl) ?_
              refine sg_get (v := .ref (b + 126)) hx hb hts hown hK hM (sh13 kc_124) (kd_lt kc_124 (by decide)) rfl inX4 1 (by decide) wf_X4_15 rfl dX4_advancePair_23 ?_
              refine lv_iload_n hx hb dX4_advancePair_26 rfl (lv_at hl 2 rfl) ?_
              refine lv_bipush (v := nI 8) hx hb dX4_advancePair_27 (by decide) ?_
              refine sn_imul hx hb dX4_advancePair_29 ?_
              refine lv_iload_n hx hb dX4_advancePair_30 rfl (lv_at hl 3 rfl) ?_
              refine sn_iadd hx hb dX4_advancePair_31 ?_
              refine sg_iald hx hb hK hM (sh15 kc_126) (kd_lt kc_126 (by decide)) (i := (a * 8) + b1) (by omega) (by decide) dX4_advancePair_32 ?_
              refine sn_top (y := nI (tv (a * 8 + b1))) (by rw [h6 126 (by decide)]; exact (hS _ (by omega)).1) ?_
              refine lv_aload_n hx hb dX4_advancePair_33 rfl (lv_at hl 0 rfl) ?_
              refine lv_aload_n hx hb dX4_advancePair_34 rfl (lv_at hl 1 rfl) ?_
              refine lv_iload_n hx hb dX4_advancePair_35 rfl (lv_at hl 2 rfl) ?_
              refine lv_iload hx hb dX4_advancePair_36 (lv_at hl 5 rfl) ?_
              refine lv_iload_n hx hb dX4_advancePair_38 rfl (lv_at hl 3 rfl) ?_
              refine lv_iload hx hb dX4_advancePair_39 (lv_at hl 6 rfl) ?_
              refine sg_ci (sg_runV (d := 2) (As := [.ref (b + 2), .int (nI a), .int (nI u), .int (nI b1), .int (nI v)]) (rest := [.int (nI (tv (a * 8 + b1)))]) hx hb hml hts hown hK hM (c_Pa_gap l G b σ2 m g h a u b1 v (hc.keep (h6 2 (by decide))) ha hlu hb1 hlv (by rw [h6 125 (by decide)]; exact hG)) mi_X4_gapOfSteps wl_X4_59 (sh13 kc_124) (kd_lt kc_124 (by decide)) rfl rfl rfl hl.1 rfl (Nat.le_of_ble_eq_true rfl) dX4_advancePair_41 ⟨by decide, by decide⟩ ⟨Nat.le_refl 0, Nat.le_refl 0⟩) hM sgA (fun r_41 σ_41 H locs hp_41 hM => ?_)
              obtain ⟨hr_41, hs_41⟩ := hp_41; subst r_41; subst σ_41
              refine sn_iadd hx hb dX4_advancePair_44 ?_
              refine lv_istore (lv' := [(7, .int (nI ((tv (a * 8 + b1)) + (apv m g h a u b1 v)))), (0, .ref (b + 124)), (1, .ref (b + 2)), (2, .int (nI a)), (3, .int (nI b1)), (4, .int (nI rv2)), (5, .int (nI u)), (6, .int (nI v))]) hx hb dX4_advancePair_45 hl (by decide) rfl (fun ls hl => ?_)
              refine lv_aload_n hx hb dX4_advancePair_47 rfl (lv_at hl 2 rfl) ?_
              refine lv_iload_n hx hb dX4_advancePair_48 rfl (lv_at hl 3 rfl) ?_
              refine lv_iload hx hb dX4_advancePair_49 (lv_at hl 6 rfl) ?_
              refine sg_ci (sg_runV (d := 1) (As := [.int (nI a), .int (nI u)]) (rest := []) hx hb hml hts hown hK hM (c_Code_next l G b σ2 2 m g h a u kc_2 (hc.keep (h6 2 (by decide))) (by assumption) (by assumption)) mi_X0_stateAfter wl_X4_56 (sh2 kc_2) (kd_lt kc_2 (by decide)) rfl rfl rfl hl.1 rfl (Nat.le_of_ble_eq_true rfl) dX4_advancePair_51 ⟨by decide, by decide⟩ ⟨Nat.le_refl 0, Nat.le_refl 0⟩) hM sgA (fun r_51 σ_51 H locs hp_51 hM => ?_)
              obtain ⟨hr_51, hs_51⟩ := hp_51; subst r_51; subst σ_51
              refine lv_istore (lv' := [(8, .int (nI (nx m a u))), (7, .int (nI ((tv (a * 8 + b1)) + (apv m g h a u b1 v)))), (0, .ref (b + 124)), (1, .ref (b + 2)), (2, .int (nI a)), (3, .int (nI b1)), (4, .int (nI rv2)), (5, .int (nI u)), (6, .int (nI v))]) hx hb dX4_advancePair_54 hl (by decide) rfl (fun ls hl => ?_)
              refine lv_aload_n hx hb dX4_advancePair_56 rfl (lv_at hl 3 rfl) ?_
              refine lv_iload_n hx hb dX4_advancePair_57 rfl (lv_at hl 5 rfl) ?_
              refine lv_iload hx hb dX4_advancePair_58 (lv_at hl 8 rfl) ?_
              refine sg_ci (sg_runV (d := 1) (As := [.int (nI b1), .int (nI v)]) (rest := []) hx hb hml hts hown hK hM (c_Code_next l G b σ2 2 m g h b1 v kc_2 (hc.keep (h6 2 (by decide))) (by assumption) (by assumption)) mi_X0_stateAfter wl_X4_56 (sh2 kc_2) (kd_lt kc_2 (by decide)) rfl rfl rfl hl.1 rfl (Nat.le_of_ble_eq_true rfl) dX4_advancePair_60 ⟨by decide, by decide⟩ ⟨Nat.le_refl 0, Nat.le_refl 0⟩) hM sgA (fun r_60 σ_60 H locs hp_60 hM => ?_)
              obtain ⟨hr_60, hs_60⟩ := hp_60; subst r_60; subst σ_60
              refine lv_istore (lv' := [(9, .int (nI (nx m b1 v))), (8, .int (nI (nx m a u))), (7, .int (nI ((tv (a * 8 + b1)) + (apv m g h a u b1 v)))), (0, .ref (b + 124)), (1, .ref (b + 2)), (2, .int (nI a)), (3, .int (nI b1)), (4, .int (nI rv2)), (5, .int (nI u)), (6, .int (nI v))]) hx hb dX4_advancePair_63 hl (by decide) rfl (fun ls hl => ?_)
              refine lv_iload hx hb dX4_advancePair_65 (lv_at hl 1 rfl) ?_
              refine lv_iload hx hb dX4_advancePair_67 (lv_at hl 0 rfl) ?_
              refine sn_icmp_ne (tgt := 84) hx hb dX4_advancePair_69 (by decide) (by omega) (by omega) (fun c_69 => ?_) (fun c_69 => ?_)
              · refine lv_iload hx hb dX4_advancePair_84 (lv_at hl 1 rfl) ?_
                refine lv_bipush (v := nI 8) hx hb dX4_advancePair_86 (by decide) ?_
                refine sn_imul hx hb dX4_advancePair_88 ?_
                refine lv_iload hx hb dX4_advancePair_89 (lv_at hl 0 rfl) ?_
                refine sn_iadd hx hb dX4_advancePair_91 ?_
                refine lv_istore (lv' := [(10, .int (nI (((nx m a u) * 8) + (nx m b1 v)))), (9, .int (nI (nx m b1 v))), (8, .int (nI (nx m a u))), (7, .int (nI ((tv (a * 8 + b1)) + (apv m g h a u b1 v)))), (0, .ref (b + 124)), (1, .ref (b + 2)), (2, .int (nI a)), (3, .int (nI b1)), (4, .int (nI rv2)), (5, .int (nI u)), (6, .int (nI v))]) hx hb dX4_advancePair_92 hl (by decide) rfl (fun ls hl => ?_)
                refine lv_aload_n hx hb dX4_advancePair_94 rfl (lv_at hl 4 rfl) ?_
                refine sg_get (v := .ref (b + 127)) hx hb hts hown hK hM (sh13 kc_124) (kd_lt kc_124 (by decide)) rfl inX4 2 (by decide) wf_X4_18 rfl dX4_advancePair_95 ?_
                refine lv_iload hx hb dX4_advancePair_98 (lv_at hl 0 rfl) ?_
                refine lv_aload_n hx hb dX4_advancePair_100 rfl (lv_at hl 4 rfl) ?_
                refine sg_get (v := .ref (b + 127)) hx hb hts hown hK hM (sh13 kc_124) (kd_lt kc_124 (by decide)) rfl inX4 2 (by decide) wf_X4_18 rfl dX4_advancePair_101 ?_
                refine lv_iload hx hb dX4_advancePair_104 (lv_at hl 0 rfl) ?_
                refine sg_iald hx hb hK hM (sh15 kc_127) (kd_lt kc_127 (by decide)) (i := ((nx m a u) * 8) + (nx m b1 v)) (by omega) (by decide) dX4_advancePair_106 ?_
                refine sn_top (y := nI (lw2 (nx m a u * 8 + nx m b1 v))) ((h5 _ (by omega)).1) ?_
                refine lv_iload hx hb dX4_advancePair_107 (lv_at hl 3 rfl) ?_
                refine va_mmin hx hb (by rw [hml]; exact hl.1.symm) hown (hts _ wl_X4_28) (hts _ ws_J9_min_7cf53) (hts _ wi_RJ9) (hts _ wc_J9_min_7cf53) (by decide) (Nat.le_of_ble_eq_true rfl) (Nat.le_refl 0) (Nat.le_refl 0) dX4_advancePair_109 ?_
                refine sn_top (y := nI (min (lw2 (nx m a u * 8 + nx m b1 v)) ((tv (a * 8 + b1)) + (apv m g h a u b1 v)))) (q_min (by have := (h5 _ (show nx m a u * 8 + nx m b1 v < 64 by omega)).2; omega) (by omega)) ?_
                refine sg_iast hx hb hK hM sgA (fun f => sh15 kc_127) (kd_lt kc_127 (by decide)) (i := ((nx m a u) * 8) + (nx m b1 v)) (by omega) (by decide) dX4_advancePair_112 (fun H locs hM => ?_)
                refine lv_iinc (v := nI (v + 1)) (lv' := [(6, .int (nI (v + 1))), (10, .int (nI (((nx m a u) * 8) + (nx m b1 v)))), (9, .int (nI (nx m b1 v))), (8, .int (nI (nx m a u))), (7, .int (nI ((tv (a * 8 + b1)) + (apv m g h a u b1 v)))), (0, .ref (b + 124)), (1, .ref (b + 2)), (2, .int (nI a)), (3, .int (nI b1)), (4, .int (nI rv2)), (5, .int (nI u))]) hx hb dX4_advancePair_113 hl (k := 10) rfl (q_inc _) (by decide) rfl (fun ls hl => ?_)
                refine lv_goto (tgt := 16) hx hb dX4_advancePair_116 (by decide) ?_
                exact ih16 (v + 1) rv2 (m2 σ2 127 (((nx m a u) * 8) + (nx m b1 v)) (nI (min (lw2 (nx m a u * 8 + nx m b1 v)) ((tv (a * 8 + b1)) + (apv m g h a u b1 v))))) (fu lw2 (nx m a u * 8 + nx m b1 v) (min (lw2 (nx m a u * 8 + nx m b1 v)) (tv (a * 8 + b1) + apv m g h a u b1 v))) (by omega) (Ar_up h5 (Nat.le_trans (Nat.min_le_left _ _) (h5 _ (by omega)).2)) (fun c q => by rw [m2_o q]; exact h6 c q) h7 (APs_n h8 hlu hlv c_69) (by omega) _ _ _ hM (lv_sub hl [5, 6, 7, 8, 9, 10, 0] rfl)
              · refine lv_iload hx hb dX4_advancePair_72 (lv_at hl 7 rfl) ?_
                refine lv_iload hx hb dX4_advancePair_74 (lv_at hl 2 rfl) ?_
                refine va_mmin hx hb (by rw [hml]; exact hl.1.symm) hown (hts _ wl_X4_28) (hts _ ws_J9_min_7cf53) (hts _ wi_RJ9) (hts _ wc_J9_min_7cf53) (by decide) (Nat.le_of_ble_eq_true rfl) (Nat.le_refl 0) (Nat.le_refl 0) dX4_advancePair_76 ?_
                refine sn_top (y := nI (min rv2 ((tv (a * 8 + b1)) + (apv m g h a u b1 v)))) (q_min (by omega) (by omega)) ?_
                refine lv_istore (lv' := [(4, .int (nI (min rv2 ((tv (a * 8 + b1)) + (apv m g h a u b1 v))))), (9, .int (nI (nx m b1 v))), (8, .int (nI (nx m a u))), (7, .int (nI ((tv (a * 8 + b1)) + (apv m g h a u b1 v)))), (0, .ref (b + 124)), (1, .ref (b + 2)), (2, .int (nI a)), (3, .int (nI b1)), (5, .int (nI u)), (6, .int (nI v))]) hx hb dX4_advancePair_79 hl (by decide) rfl (fun ls hl => ?_)
                refine lv_goto (tgt := 113) hx hb dX4_advancePair_81 (by decide) ?_
                refine lv_iinc (v := nI (v + 1)) (lv' := [(6, .int (nI (v + 1))), (4, .int (nI (min rv2 ((tv (a * 8 + b1)) + (apv m g h a u b1 v))))), (9, .int (nI (nx m b1 v))), (8, .int (nI (nx m a u))), (7, .int (nI ((tv (a * 8 + b1)) + (apv m g h a u b1 v)))), (0, .ref (b + 124)), (1, .ref (b + 2)), (2, .int (nI a)), (3, .int (nI b1)), (5, .int (nI u))]) hx hb dX4_advancePair_113 hl (k := 9) rfl (q_inc _) (by decide) rfl (fun ls hl => ?_)
                refine lv_goto (tgt := 16) hx hb dX4_advancePair_116 (by decide) ?_
                exact ih16 (v + 1) (min rv2 (tv (a * 8 + b1) + apv m g h a u b1 v)) σ2 lw2 (by omega) h5 h6 (Nat.le_trans (Nat.min_le_left _ _) h7) (APs_c h8 hlu hlv c_69) (by omega) _ _ _ hM (lv_sub hl [5, 6, 7, 8, 1, 9, 0] rfl)
        exact L16 (_ + 1) 0 rv σ1 lw (by omega) h1 h2 h3 h4 (Nat.lt_succ_self _) _ _ _ hM (lv_sub hl [1, 2, 3, 4, 5, 6, 0] rfl)
  exact L7 (_ + 1) 0 NV σ lv (by omega) hL (fun _ _ => rfl) (Nat.le_refl _) (APs_0 _ _ _ _ _ _ _) (Nat.lt_succ_self _) _ _ _ hM (lv_sub hl [2, 3, 4, 5, 1, 0] rfl)
set_option maxHeartbeats 4000000 in
set_option maxRecDepth 100000 in
theorem c_Pa_advance (l : Launch) (G : GT) (b : Nat) (σ : Mem) (m g h t l0 : Nat) (tv : Nat → Nat) (hc : CodeAt σ 2 m g h) (hG : ∀ f, f < 4 → ∀ o, o < 4 → σ 125 (f * 4 + o) = nI (g0 f o)) (hS : Ar σ 126 64 tv) (hl0 : l0 ≤ NV) (hFr : FrI m g h t l0) (hT : Tv m g h t l0 tv) : KI l G b yX4_advance cX4_advance 6 4 σ [.ref (b + 124), .ref (b + 2), .int (nI l0)] (fun r σ' => ∃ l1 lv, r = nI l1 ∧ Ar σ' 126 64 lv ∧ l1 ≤ NV ∧ (FrI m g h (t + 1) l1 ∧ Tv m g h (t + 1) l1 lv) ∧ ∀ c, c ≠ 126 → c ≠ 127 → σ' c = σ c) := by
  refine sg_metI [.ref (b + 124), .ref (b + 2), .int (nI l0)] (by decide) (Nat.le_of_ble_eq_true rfl) ?_
  intro vp ve vs vm args below meth vc ls Q hx hb hml hown hts hK hM hl hret
  have hl : lv_has ls 6 [(0, .ref (b + 124)), (1, .ref (b + 2)), (2, .int (nI l0))] := hl
  have hm8 := p2_le hc.m
  have hNV : NV = 99999999 := rfl
  refine lv_aload_n hx hb dX4_advance_0 rfl (lv_at hl 0 rfl) ?_
  refine sg_get (v := .ref (b + 127)) hx hb hts hown hK hM (sh13 kc_124) (kd_lt kc_124 (by decide)) rfl inX4 2 (by decide) wf_X4_18 rfl dX4_advance_1 ?_
  refine lv_ldc (v := nI 99999999) hx hb hown (hts (Cond.constant RX4 21 (nI 99999999)) wk_X4_21) dX4_advance_4 ?_
  refine sg_cv (sg_runS (d := 0) (As := [.ref (b + 127), .int (nI 99999999)]) (rest := []) hx hb hml hts hown hK hM (c_fill64 l G b σ 127 (nI 99999999) kc_127) mi_J7_fill_53178 wl_X4_44 rfl hl.1 rfl (Nat.le_of_ble_eq_true rfl) dX4_advance_6 ⟨by decide, by decide⟩ ⟨Nat.le_refl 0, Nat.le_refl 0⟩) hM sgA (fun σ_6 H locs hp_6 hM => ?_)
  refine lv_iload_n hx hb dX4_advance_9 rfl (lv_at hl 2 rfl) ?_
  refine lv_istore_n (lv' := [(3, .int (nI l0)), (0, .ref (b + 124)), (1, .ref (b + 2)), (2, .int (nI l0))]) hx hb dX4_advance_10 rfl hl (by decide) rfl (fun ls hl => ?_)
  refine lv_iconst (v := nI 0) hx hb dX4_advance_11 (by decide) ?_
  refine lv_istore (lv' := [(4, .int (nI 0)), (3, .int (nI l0)), (0, .ref (b + 124)), (1, .ref (b + 2)), (2, .int (nI l0))]) hx hb dX4_advance_12 hl (by decide) rfl (fun ls hl => ?_)
  have L14 : ∀ (fuel : Nat) (a : Nat) (l1 : Nat) (σ1 : Mem) (lv : Nat → Nat), (a ≤ 2 ^ m) → (l1 ≤ NV) → (Ar σ1 127 64 lv) → (∀ c, c ≠ 127 → σ1 c = σ c) → (AVs m g h tv l0 (a * 8) l1 lv) → (2 ^ m - a) < fuel → ∀ (H : Heap) (locs : List Loc) (ls : Array Slot), St G (Fr b) b σ1 vs H locs → lv_has ls 6 [(0, .ref (b + 124)), (1, .ref (b + 2)), (3, .int (nI l1)), (4, .int (nI a))] → W vp l ve (RM 4) vs vm args below meth vc H locs 0 0 Q (F0 vm 14 ls []) := by
    intro fuel
    induction fuel with
    | zero => intro a l1 σ1 lv ha hle h1 h2 h3 hF; exact absurd hF (Nat.not_lt_zero _)
    | succ fuel ih14 =>
      intro a l1 σ1 lv ha hle h1 h2 h3 hF H locs ls hM hl
      refine lv_iload hx hb dX4_advance_14 (lv_at hl 3 rfl) ?_
      refine lv_aload_n hx hb dX4_advance_16 rfl (lv_at hl 1 rfl) ?_
      refine sg_ci (sg_runV (d := 0) (As := []) (rest := [.int (nI a)]) hx hb hml hts hown hK hM (c_Code_states l G b σ1 2 m g h kc_2 (hc.keep (h2 2 (by decide)))) mi_X0_states wl_X4_50 (sh2 kc_2) (kd_lt kc_2 (by decide)) rfl rfl rfl hl.1 rfl (Nat.le_of_ble_eq_true rfl) dX4_advance_17 ⟨by decide, by decide⟩ ⟨Nat.le_refl 0, Nat.le_refl 0⟩) hM sgA (fun r_17 σ_17 H locs hp_17 hM => ?_)
      obtain ⟨hr_17, hs_17⟩ := hp_17; subst r_17; subst σ_17
      refine sn_icmp_ge (tgt := 78) hx hb dX4_advance_20 (by decide) (by omega) (by omega) (fun hla => ?_) (fun hla => ?_)
      · refine lv_aload_n hx hb dX4_advance_78 rfl (lv_at hl 0 rfl) ?_
        refine sg_get (v := .ref (b + 127)) hx hb hts hown hK hM (sh13 kc_124) (kd_lt kc_124 (by decide)) rfl inX4 2 (by decide) wf_X4_18 rfl dX4_advance_79 ?_
        refine lv_iconst (v := nI 0) hx hb dX4_advance_82 (by decide) ?_
        refine lv_aload_n hx hb dX4_advance_83 rfl (lv_at hl 0 rfl) ?_
        refine sg_get (v := .ref (b + 126)) hx hb hts hown hK hM (sh13 kc_124) (kd_lt kc_124 (by decide)) rfl inX4 1 (by decide) wf_X4_15 rfl dX4_advance_84 ?_
        refine lv_iconst (v := nI 0) hx hb dX4_advance_87 (by decide) ?_
        refine lv_aload_n hx hb dX4_advance_88 rfl (lv_at hl 0 rfl) ?_
        refine sg_get (v := .ref (b + 126)) hx hb hts hown hK hM (sh13 kc_124) (kd_lt kc_124 (by decide)) rfl inX4 1 (by decide) wf_X4_15 rfl dX4_advance_89 ?_
        refine sg_alen hx hb hK hM (sh15 kc_126) (kd_lt kc_126 (by decide)) dX4_advance_92 ?_
        refine sg_copy hx hb (by rw [hml]; exact hl.1.symm) hts hown hK hM sgA wl_X4_67 (n := 64) (sh15 kc_127) (fun f => sh15 kc_126) (kd_lt kc_127 (by decide)) (kd_lt kc_126 (by decide)) (by decide) (by decide) (by decide) (by decide) (Nat.le_of_ble_eq_true rfl) dX4_advance_93 (fun H locs hM => ?_)
        refine lv_iload_n hx hb dX4_advance_96 rfl (lv_at hl 2 rfl) ?_
        exact hret _ _ _ _ _ _ dX4_advance_97 hM (⟨l1, lv, rfl, fun i hi => by rw [mcp_s hi]; exact h1 i hi, hle, AVs_end hc.m hT hFr (AVs_to h3 (fun x y hx hy q => by omega)), fun c q1 q2 => by rw [mcp_o q1]; exact h2 c q2⟩)
      · refine lv_iconst (v := nI 0) hx hb dX4_advance_23 (by decide) ?_
        refine lv_istore (lv' := [(5, .int (nI 0)), (0, .ref (b + 124)), (1, .ref (b + 2)), (3, .int (nI l1)), (4, .int (nI a))]) hx hb dX4_advance_24 hl (by decide) rfl (fun ls hl => ?_)
        have L26 : ∀ (fuel : Nat) (b1 : Nat) (l2 : Nat) (σ2 : Mem) (lv2 : Nat → Nat), (b1 ≤ 2 ^ m) → (l2 ≤ NV) → (Ar σ2 127 64 lv2) → (∀ c, c ≠ 127 → σ2 c = σ c) → (AVs m g h tv l0 (a * 8 + b1) l2 lv2) → (2 ^ m - b1) < fuel → ∀ (H : Heap) (locs : List Loc) (ls : Array Slot), St G (Fr b) b σ2 vs H locs → lv_has ls 6 [(0, .ref (b + 124)), (1, .ref (b + 2)), (3, .int (nI l2)), (4, .int (nI a)), (5, .int (nI b1))] → W vp l ve (RM 4) vs vm args below meth vc H locs 0 0 Q (F0 vm 26 ls []) := by
          intro fuel
          induction fuel with
          | zero => intro b1 l2 σ2 lv2 hb1 hle2 h4 h5 h6 hF; exact absurd hF (Nat.not_lt_zero _)
          | succ fuel ih26 =>
            intro b1 l2 σ2 lv2 hb1 hle2 h4 h5 h6 hF H locs ls hM hl
            refine lv_iload hx hb dX4_advance_26 (lv_at hl 4 rfl) ?_
            refine lv_aload_n hx hb dX4_advance_28 rfl (lv_at hl 1 rfl) ?_
            refine sg_ci (sg_runV (d := 0) (As := []) (rest := [.int (nI b1)]) hx hb hml hts hown hK hM (c_Code_states l G b σ2 2 m g h kc_2 (hc.keep (h5 2 (by decide)))) mi_X0_states wl_X4_50 (sh2 kc_2) (kd_lt kc_2 (by decide)) rfl rfl rfl hl.1 rfl (Nat.le_of_ble_eq_true rfl) dX4_advance_29 ⟨by decide, by decide⟩ ⟨Nat.le_refl 0, Nat.le_refl 0⟩) hM sgA (fun r_29 σ_29 H locs hp_29 hM => ?_)
            obtain ⟨hr_29, hs_29⟩ := hp_29; subst r_29; subst σ_29
            refine sn_icmp_ge (tgt := 72) hx hb dX4_advance_32 (by decide) (by omega) (by omega) (fun hlb => ?_) (fun hlb => ?_)
            · refine lv_iinc (v := nI (a + 1)) (lv' := [(4, .int (nI (a + 1))), (0, .ref (b + 124)), (1, .ref (b + 2)), (3, .int (nI l2)), (5, .int (nI b1))]) hx hb dX4_advance_72 hl (k := 3) rfl (q_inc _) (by decide) rfl (fun ls hl => ?_)
              refine lv_goto (tgt := 14) hx hb dX4_advance_75 (by decide) ?_
              exact ih14 (a + 1) l2 σ2 lv2 (by omega) hle2 h4 h5 (AVs_to h6 (fun x y hx hy q => by omega)) (by omega) _ _ _ hM (lv_sub hl [1, 2, 3, 0] rfl)
            · have ht0 := (hS _ (show a * 8 + b1 < 64 by omega)).2
              refine lv_aload_n hx hb dX4_advance_35 rfl (lv_at hl 0 rfl) ?_
              refine sg_get (v := .ref (b + 126)) hx hb hts hown hK hM (sh13 kc_124) (kd_lt kc_124 (by decide)) rfl inX4 1 (by decide) wf_X4_15 rfl dX4_advance_36 ?_
              refine lv_iload hx hb dX4_advance_39 (lv_at hl 3 rfl) ?_
              refine lv_bipush (v := nI 8) hx hb dX4_advance_41 (by decide) ?_
              refine sn_imul hx hb dX4_advance_43 ?_
              refine lv_iload hx hb dX4_advance_44 (lv_at hl 4 rfl) ?_
              refine sn_iadd hx hb dX4_advance_46 ?_
              refine sg_iald hx hb hK hM (sh15 kc_126) (kd_lt kc_126 (by decide)) (i := (a * 8) + b1) (by omega) (by decide) dX4_advance_47 ?_
              refine sn_top (y := nI (tv (a * 8 + b1))) (by rw [h5 126 (by decide)]; exact (hS _ (by omega)).1) ?_
              refine lv_iload_n hx hb dX4_advance_48 rfl (lv_at hl 2 rfl) ?_
              refine sn_icmp_ge (tgt := 66) hx hb dX4_advance_49 (by decide) (by omega) (by omega) (fun c_49 => ?_) (fun c_49 => ?_)
              · refine lv_iinc (v := nI (b1 + 1)) (lv' := [(5, .int (nI (b1 + 1))), (0, .ref (b + 124)), (1, .ref (b + 2)), (3, .int (nI l2)), (4, .int (nI a))]) hx hb dX4_advance_66 hl (k := 4) rfl (q_inc _) (by decide) rfl (fun ls hl => ?_)
                refine lv_goto (tgt := 26) hx hb dX4_advance_69 (by decide) ?_
                exact ih26 (b1 + 1) l2 σ2 lv2 (by omega) hle2 h4 h5 (AVs_skip hc.m hlb h6 c_49) (by omega) _ _ _ hM (lv_sub hl [1, 2, 3, 4, 0] rfl)
              · refine lv_iload_n hx hb dX4_advance_52 rfl (lv_at hl 2 rfl) ?_
                refine lv_aload_n hx hb dX4_advance_53 rfl (lv_at hl 0 rfl) ?_
                refine lv_aload_n hx hb dX4_advance_54 rfl (lv_at hl 1 rfl) ?_
                refine lv_iload hx hb dX4_advance_55 (lv_at hl 3 rfl) ?_
                refine lv_iload hx hb dX4_advance_57 (lv_at hl 4 rfl) ?_
                refine sg_ci (sg_runV (d := 3) (As := [.ref (b + 2), .int (nI a), .int (nI b1)]) (rest := [.int (nI l2)]) hx hb hml hts hown hK hM (c_Pa_pair l G b σ2 m g h a b1 tv lv2 (hc.keep (h5 2 (by decide))) hla hlb (by rw [h5 125 (by decide)]; exact hG) (hS.keep (h5 126 (by decide))) h4) mi_X4_advancePair wl_X4_63 (sh13 kc_124) (kd_lt kc_124 (by decide)) rfl rfl rfl hl.1 rfl (Nat.le_of_ble_eq_true rfl) dX4_advance_59 ⟨by decide, by decide⟩ ⟨Nat.le_refl 0, Nat.le_refl 0⟩) hM sgA (fun r1 σ3 H locs hq hM => ?_)
                obtain ⟨rv, lw, k1, k2, k3, k4, k5⟩ := hq
                subst k1
                refine va_mmin hx hb (by rw [hml]; exact hl.1.symm) hown (hts _ wl_X4_28) (hts _ ws_J9_min_7cf53) (hts _ wi_RJ9) (hts _ wc_J9_min_7cf53) (by decide) (Nat.le_of_ble_eq_true rfl) (Nat.le_refl 0) (Nat.le_refl 0) dX4_advance_62 ?_
                refine sn_top (y := nI (min l2 rv)) (q_min (by omega) (by omega)) ?_
                refine lv_istore_n (lv' := [(3, .int (nI (min l2 rv))), (0, .ref (b + 124)), (1, .ref (b + 2)), (4, .int (nI a)), (5, .int (nI b1))]) hx hb dX4_advance_65 rfl hl (by decide) rfl (fun ls hl => ?_)
                refine lv_iinc (v := nI (b1 + 1)) (lv' := [(5, .int (nI (b1 + 1))), (3, .int (nI (min l2 rv))), (0, .ref (b + 124)), (1, .ref (b + 2)), (4, .int (nI a))]) hx hb dX4_advance_66 hl (k := 4) rfl (q_inc _) (by decide) rfl (fun ls hl => ?_)
                refine lv_goto (tgt := 26) hx hb dX4_advance_69 (by decide) ?_
                exact ih26 (b1 + 1) (min l2 rv) σ3 lw (by omega) (Nat.le_trans (Nat.min_le_left _ _) hle2) k3 (fun c q => by rw [k4 c q]; exact h5 c q) (AVs_pair hc.m hla hlb h6 hle2 (by omega) k5) (by omega) _ _ _ hM (lv_sub hl [2, 3, 1, 4, 0] rfl)
        exact L26 (_ + 1) 0 l1 σ1 lv (Nat.zero_le _) hle h1 h2 h3 (Nat.lt_succ_self _) _ _ _ hM (lv_sub hl [1, 2, 3, 4, 0] rfl)
  exact L14 (_ + 1) 0 l0 σ_6 (fun _ => NV) (Nat.zero_le _) hl0 (fun j q => ⟨hp_6.1 j q, Nat.le_refl _⟩) hp_6.2 (by rw [Nat.zero_mul]; exact AVs_0 _ _ _ _ _) (Nat.lt_succ_self _) _ _ _ hM (lv_sub hl [2, 3, 1, 0] rfl)
set_option maxHeartbeats 4000000 in
set_option maxRecDepth 100000 in
theorem c_Pa_least (l : Launch) (G : GT) (b : Nat) (σ : Mem) (m g h : Nat) (hc : CodeAt σ 2 m g h) : KI l G b yX4_leastSum cX4_leastSum 4 5 σ [.ref (b + 124), .ref (b + 2)] (fun r σ' => r = nI (freeV m g h) ∧ ∀ c, c < 124 ∨ 128 ≤ c → σ' c = σ c) := by
  refine sg_metI [.ref (b + 124), .ref (b + 2)] (by decide) (Nat.le_of_ble_eq_true rfl) ?_
  intro vp ve vs vm args below meth vc ls Q hx hb hml hown hts hK hM hl hret
  have hl : lv_has ls 4 [(0, .ref (b + 124)), (1, .ref (b + 2))] := hl
  have hNV : NV = 99999999 := rfl
  refine lv_ldc (v := nI 99999999) hx hb hown (hts (Cond.constant RX4 21 (nI 99999999)) wk_X4_21) dX4_leastSum_0 ?_
  refine lv_istore_n (lv' := [(2, .int (nI 99999999)), (0, .ref (b + 124)), (1, .ref (b + 2))]) hx hb dX4_leastSum_2 rfl hl (by decide) rfl (fun ls hl => ?_)
  refine lv_iconst (v := nI 0) hx hb dX4_leastSum_3 (by decide) ?_
  refine lv_istore_n (lv' := [(3, .int (nI 0)), (2, .int (nI 99999999)), (0, .ref (b + 124)), (1, .ref (b + 2))]) hx hb dX4_leastSum_4 rfl hl (by decide) rfl (fun ls hl => ?_)
  have L5 : ∀ (fuel : Nat) (f : Nat), (f ≤ 4) → (4 - f) < fuel → ∀ (H : Heap) (locs : List Loc) (ls : Array Slot), St G (Fr b) b σ vs H locs → lv_has ls 4 [(0, .ref (b + 124)), (1, .ref (b + 2)), (2, .int (nI (gm f))), (3, .int (nI f))] → W vp l ve (RM 5) vs vm args below meth vc H locs 0 0 Q (F0 vm 5 ls []) := by
    intro fuel
    induction fuel with
    | zero => intro f hf hF; exact absurd hF (Nat.not_lt_zero _)
    | succ fuel ih5 =>
      intro f hf hF H locs ls hM hl
      refine lv_iload_n hx hb dX4_leastSum_5 rfl (lv_at hl 3 rfl) ?_
      refine lv_iconst (v := nI 4) hx hb dX4_leastSum_6 (by decide) ?_
      refine sn_icmp_ge (tgt := 26) hx hb dX4_leastSum_7 (by decide) (by omega) (by omega) (fun c_7 => ?_) (fun c_7 => ?_)
      · obtain rfl : f = 4 := by omega
        have hl : lv_has ls 4 [(0, .ref (b + 124)), (1, .ref (b + 2)), (2, .int (nI (gm 4))), (3, .int (nI 4))] := hl
        refine lv_aload_n hx hb dX4_leastSum_26 rfl (lv_at hl 0 rfl) ?_
        refine sg_cv (sg_runV (d := 3) (As := []) (rest := []) hx hb hml hts hown hK hM (c_Pa_fillGaps l G b σ) mi_X4_fillGaps wl_X4_33 (sh13 kc_124) (kd_lt kc_124 (by decide)) rfl rfl rfl hl.1 rfl (Nat.le_of_ble_eq_true rfl) dX4_leastSum_27 ⟨by decide, by decide⟩ ⟨Nat.le_refl 0, Nat.le_refl 0⟩) hM sgA (fun σ_27 H locs hp_27 hM => ?_)
        refine lv_aload_n hx hb dX4_leastSum_30 rfl (lv_at hl 0 rfl) ?_
        refine lv_aload_n hx hb dX4_leastSum_31 rfl (lv_at hl 1 rfl) ?_
        refine sg_cv (sg_runV (d := 3) (As := [.ref (b + 2)]) (rest := []) hx hb hml hts hown hK hM (c_Pa_part l G b σ_27 m g h (gm 4) (hc.keep (hp_27.2 2 (by decide))) hp_27.1) mi_X4_part wl_X4_36 (sh13 kc_124) (kd_lt kc_124 (by decide)) rfl rfl rfl hl.1 rfl (Nat.le_of_ble_eq_true rfl) dX4_leastSum_32 ⟨by decide, by decide⟩ ⟨Nat.le_refl 0, Nat.le_refl 0⟩) hM sgA (fun σ_32 H locs hp_32 hM => ?_)
        obtain ⟨tv0, k1, k2, k3⟩ := hp_32
        refine lv_iconst (v := nI 2) hx hb dX4_leastSum_35 (by decide) ?_
        refine lv_istore_n (lv' := [(3, .int (nI 2)), (0, .ref (b + 124)), (1, .ref (b + 2)), (2, .int (nI (gm 4)))]) hx hb dX4_leastSum_36 rfl hl (by decide) rfl (fun ls hl => ?_)
        have L37 : ∀ (fuel : Nat) (t : Nat) (l1 : Nat) (σ1 : Mem) (tv : Nat → Nat), (t ≤ 29) → (l1 ≤ NV) → (Ar σ1 126 64 tv) → (FrI m g h t l1) → (Tv m g h t l1 tv) → (∀ c, c < 124 ∨ 128 ≤ c ∨ c = 125 → σ1 c = σ_27 c) → (30 - t) < fuel → ∀ (H : Heap) (locs : List Loc) (ls : Array Slot), St G (Fr b) b σ1 vs H locs → lv_has ls 4 [(0, .ref (b + 124)), (1, .ref (b + 2)), (2, .int (nI l1)), (3, .int (nI (t + 2)))] → W vp l ve (RM 5) vs vm args below meth vc H locs 0 0 Q (F0 vm 37 ls []) := by
          intro fuel
          induction fuel with
          | zero => intro t l1 σ1 tv ht hle h1 h2 h3 h4 hF; exact absurd hF (Nat.not_lt_zero _)
          | succ fuel ih37 =>
            intro t l1 σ1 tv ht hle h1 h2 h3 h4 hF H locs ls hM hl
            refine lv_iload_n hx hb dX4_leastSum_37 rfl (lv_at hl 3 rfl) ?_
            refine lv_bipush (v := nI 30) hx hb dX4_leastSum_38 (by decide) ?_
            refine sn_icmp_gt (tgt := 56) hx hb dX4_leastSum_40 (by decide) (by omega) (by omega) (fun hgt => ?_) (fun hgt => ?_)
            · refine lv_iload_n hx hb dX4_leastSum_56 rfl (lv_at hl 2 rfl) ?_
              obtain rfl : t = 29 := by omega
              exact hret _ _ _ _ _ _ dX4_leastSum_57 hM (⟨by rw [freeV_eq h2], fun c q => by rw [h4 c (by omega)]; exact hp_27.2 c (by omega)⟩)
            · refine lv_aload_n hx hb dX4_leastSum_43 rfl (lv_at hl 0 rfl) ?_
              refine lv_aload_n hx hb dX4_leastSum_44 rfl (lv_at hl 1 rfl) ?_
              refine lv_iload_n hx hb dX4_leastSum_45 rfl (lv_at hl 2 rfl) ?_
              refine sg_ci (sg_runV (d := 4) (As := [.ref (b + 2), .int (nI l1)]) (rest := []) hx hb hml hts hown hK hM (c_Pa_advance l G b σ1 m g h t l1 tv (hc.keep (by rw [h4 2 (by omega), hp_27.2 2 (by decide)])) (by rw [h4 125 (by omega)]; exact hp_27.1) h1 hle h2 h3) mi_X4_advance wl_X4_40 (sh13 kc_124) (kd_lt kc_124 (by decide)) rfl rfl rfl hl.1 rfl (Nat.le_of_ble_eq_true rfl) dX4_leastSum_46 ⟨by decide, by decide⟩ ⟨Nat.le_refl 0, Nat.le_refl 0⟩) hM sgA (fun r2 σ2 H locs hq hM => ?_)
              obtain ⟨l2, lv2, j1, j2, j3, j4, j5⟩ := hq
              subst j1
              refine lv_istore_n (lv' := [(2, .int (nI l2)), (0, .ref (b + 124)), (1, .ref (b + 2)), (3, .int (nI (t + 2)))]) hx hb dX4_leastSum_49 rfl hl (by decide) rfl (fun ls hl => ?_)
              refine lv_iinc (v := nI (t + 2 + 1)) (lv' := [(3, .int (nI (t + 2 + 1))), (2, .int (nI l2)), (0, .ref (b + 124)), (1, .ref (b + 2))]) hx hb dX4_leastSum_50 hl (k := 3) rfl (q_inc _) (by decide) rfl (fun ls hl => ?_)
              refine lv_goto (tgt := 37) hx hb dX4_leastSum_53 (by decide) ?_
              exact ih37 (t + 1) l2 σ2 lv2 (by omega) j3 j2 j4.1 j4.2 (fun c q => by rw [j5 c (by omega) (by omega)]; exact h4 c q) (by omega) _ _ _ hM (lv_sub hl [2, 3, 1, 0] rfl)
        exact L37 (_ + 1) 0 (gm 4) σ_32 tv0 (by omega) (gm_le 4) k1 (gm_F m g h) k2 (fun c q => k3 c (by omega)) (Nat.lt_succ_self _) _ _ _ hM (lv_sub hl [1, 2, 3, 0] rfl)
      · refine lv_iload_n hx hb dX4_leastSum_10 rfl (lv_at hl 2 rfl) ?_
        refine lv_iload_n hx hb dX4_leastSum_11 rfl (lv_at hl 3 rfl) ?_
        refine lv_iload_n hx hb dX4_leastSum_12 rfl (lv_at hl 3 rfl) ?_
        refine sg_ci (sg_runS (d := 2) (As := [.int (nI f), .int (nI f)]) (rest := [.int (nI (gm f))]) hx hb hml hts hown hK hM (c_g_gapOf l G b σ f f (by first | omega | exact fam_lt _ _ _ _ _ | exact gf_lt _ | exact tf_lt _ | exact pt_lt (by first | omega | exact fam_lt _ _ _ _ _) (by omega) | exact tn_lt (by first | omega | exact pt_lt (by omega) (by omega))) (by first | omega | exact fam_lt _ _ _ _ _ | exact gf_lt _ | exact tf_lt _ | exact pt_lt (by first | omega | exact fam_lt _ _ _ _ _) (by omega) | exact tn_lt (by first | omega | exact pt_lt (by omega) (by omega)))) mi_X1_gapOf wl_X4_22 rfl hl.1 rfl (Nat.le_of_ble_eq_true rfl) dX4_leastSum_13 ⟨by decide, by decide⟩ ⟨Nat.le_refl 0, Nat.le_refl 0⟩) hM sgA (fun r_13 σ_13 H locs hp_13 hM => ?_)
        obtain ⟨hr_13, hs_13⟩ := hp_13; subst r_13; subst σ_13
        refine va_mmin hx hb (by rw [hml]; exact hl.1.symm) hown (hts _ wl_X4_28) (hts _ ws_J9_min_7cf53) (hts _ wi_RJ9) (hts _ wc_J9_min_7cf53) (by decide) (Nat.le_of_ble_eq_true rfl) (Nat.le_refl 0) (Nat.le_refl 0) dX4_leastSum_16 ?_
        refine sn_top (y := nI (min (gm f) (gap f f))) (q_min (by have := gm_le f; omega) (by have := (gap_ok f (by omega) f (by omega)).2; omega)) ?_
        refine sn_top (y := nI (gm (f + 1))) (rfl) ?_
        refine lv_istore_n (lv' := [(2, .int (nI (gm (f + 1)))), (0, .ref (b + 124)), (1, .ref (b + 2)), (3, .int (nI f))]) hx hb dX4_leastSum_19 rfl hl (by decide) rfl (fun ls hl => ?_)
        refine lv_iinc (v := nI (f + 1)) (lv' := [(3, .int (nI (f + 1))), (2, .int (nI (gm (f + 1)))), (0, .ref (b + 124)), (1, .ref (b + 2))]) hx hb dX4_leastSum_20 hl (k := 3) rfl (q_inc _) (by decide) rfl (fun ls hl => ?_)
        refine lv_goto (tgt := 5) hx hb dX4_leastSum_23 (by decide) ?_
        exact ih5 (f + 1) (by omega) (by omega) _ _ _ hM (lv_sub hl [2, 3, 1, 0] rfl)
  exact L5 (_ + 1) 0 (by omega) (Nat.lt_succ_self _) _ _ _ hM (lv_sub hl [2, 3, 1, 0] rfl)
end
section
/-! TURNS ALIKE: for every code within its bounds some row, turned, is no row -/
/-- the states to which steps of a family lead from a set, by the first n of the ways -/
def foN (m g h S f : Nat) : Nat → Nat
  | 0 => 0
  | n + 1 => if S / 2 ^ (n / 2) % 2 = 1 ∧ fam m g h (n / 2) (n % 2) = f then foN m g h S f n ||| 2 ^ nx m (n / 2) (n % 2) else foN m g h S f n
def fo (m g h S f : Nat) : Nat := foN m g h S f (2 * 2 ^ m)
theorem foN_s {m g h S f s u : Nat} (hu : u < 2) : foN m g h S f (2 * s + u + 1) = if S / 2 ^ s % 2 = 1 ∧ fam m g h s u = f then foN m g h S f (2 * s + u) ||| 2 ^ nx m s u else foN m g h S f (2 * s + u) := by
  show (if S / 2 ^ ((2 * s + u) / 2) % 2 = 1 ∧ fam m g h ((2 * s + u) / 2) ((2 * s + u) % 2) = f then _ ||| 2 ^ nx m ((2 * s + u) / 2) ((2 * s + u) % 2) else _) = _
  rw [show (2 * s + u) / 2 = s by omega, show (2 * s + u) % 2 = u by omega]
theorem foN_lt {m g h S f : Nat} : ∀ n, n ≤ 2 * 2 ^ m → foN m g h S f n < 2 ^ 2 ^ m
  | 0, _ => Nat.pow_pos (by decide)
  | n + 1, hn => by
    have h1 := foN_lt (m := m) (g := g) (h := h) (S := S) (f := f) n (by omega)
    show (if _ then _ else _) < _
    split
    · refine Nat.or_lt_two_pow h1 ?_
      exact Nat.pow_lt_pow_right (by decide) (nx_lt (by omega) (by omega))
    · exact h1
theorem fo_lt (m g h S f : Nat) : fo m g h S f < 2 ^ 2 ^ m := foN_lt _ (Nat.le_refl _)
theorem pp_le {m : Nat} (hm : m ≤ 3) : 2 ^ 2 ^ m ≤ 256 := by
  have h1 := p2_le hm
  have h2 : 2 ^ 2 ^ m ≤ 2 ^ 8 := Nat.pow_le_pow_right (by decide) h1
  omega
theorem pp_pos (m : Nat) : 2 ≤ 2 ^ 2 ^ m := by
  have h1 := p2_pos m
  have h2 : 2 ^ 1 ≤ 2 ^ 2 ^ m := Nat.pow_le_pow_right (by decide) h1
  omega
/-- where the turned row can be, step by step -/
abbrev tt (m g h s S u : Nat) : Nat := fo m g h S (tf (fam m g h s u))
/-- within so many steps a row is found whose turned row stops -/
def bdB (m g h : Nat) : Nat → Nat → Nat → Bool
  | 0, s, S => tt m g h s S 0 == 0 || tt m g h s S 1 == 0
  | d + 1, s, S => tt m g h s S 0 == 0 || tt m g h s S 1 == 0 || bdB m g h d (nx m s 0) (tt m g h s S 0) || bdB m g h d (nx m s 1) (tt m g h s S 1)
def bdA (m g h : Nat) : Bool := (List.range (2 ^ m)).any fun s => bdB m g h 3 s (2 ^ 2 ^ m - 1)
theorem bd_1 : ∀ g, g < 4 → ∀ h, h < 4 → g ≠ 0 → h ≠ 0 → bdA 1 g h = true := by decide +kernel
theorem bd_2 : ∀ g, g < 8 → ∀ h, h < 8 → g ≠ 0 → h ≠ 0 → bdA 2 g h = true := by decide +kernel
theorem bd_3 : ∀ g, g < 16 → ∀ h, h < 16 → g ≠ 0 → h ≠ 0 → bdA 3 g h = true := by decide +kernel
theorem bd_ok {m g h : Nat} (hc : cOK m g h) : ∃ s, s < 2 ^ m ∧ bdB m g h 3 s (2 ^ 2 ^ m - 1) = true := by
  have q : bdA m g h = true := by
    obtain ⟨⟨h1, h2⟩, ⟨h3, h4⟩, h5, h6⟩ := hc
    rcases (show m = 1 ∨ m = 2 ∨ m = 3 by omega) with rfl | rfl | rfl
    · exact bd_1 g (by omega) h (by omega) (by omega) (by omega)
    · exact bd_2 g (by omega) h (by omega) (by omega) (by omega)
    · exact bd_3 g (by omega) h (by omega) (by omega) (by omega)
  obtain ⟨s, hs, e⟩ := List.any_eq_true.mp q
  exact ⟨s, List.mem_range.mp hs, e⟩
/-- what holds of the start and goes on from step to step can't hold of all -/
theorem bd_no {m g h : Nat} {K : Nat → Nat → Nat → Prop} (hK : ∀ d s S, K (d + 1) s S → s < 2 ^ m → ∀ u, u < 2 → tt m g h s S u ≠ 0 ∧ K d (nx m s u) (tt m g h s S u)) : ∀ d s S, K (d + 1) s S → s < 2 ^ m → bdB m g h d s S = false
  | 0, s, S, k, hs => by
    have h0 := (hK 0 s S k hs 0 (by decide)).1
    have h1 := (hK 0 s S k hs 1 (by decide)).1
    show (_ == 0 || _ == 0) = false
    simp [h0, h1]
  | d + 1, s, S, k, hs => by
    have h0 := hK _ s S k hs 0 (by decide)
    have h1 := hK _ s S k hs 1 (by decide)
    have b0 := bd_no hK d _ _ h0.2 (nx_lt (by decide) hs)
    have b1 := bd_no hK d _ _ h1.2 (nx_lt (by decide) hs)
    show (_ == 0 || _ == 0 || _ || _) = false
    simp [h0.1, h1.1, b0, b1]
theorem bd_absurd {m g h : Nat} (hc : cOK m g h) {K : Nat → Nat → Nat → Prop} (h0 : ∀ s, s < 2 ^ m → K 4 s (2 ^ 2 ^ m - 1)) (hK : ∀ d s S, K (d + 1) s S → s < 2 ^ m → ∀ u, u < 2 → tt m g h s S u ≠ 0 ∧ K d (nx m s u) (tt m g h s S u)) : False := by
  obtain ⟨s, hs, e⟩ := bd_ok hc
  rw [bd_no hK 3 s _ (h0 s hs) hs] at e
  exact absurd e (by decide)
/-- bits -/
theorem tb_iff (x s : Nat) : x / 2 ^ s % 2 = 1 ↔ x.testBit s = true := by rw [Nat.testBit_eq_decide_div_mod_eq, decide_eq_true_iff]
theorem tb_and (x : Nat) : x &&& 1 = x % 2 := Nat.and_one_is_mod x
/-- a table of sets grows -/
def Gw (rt ru : Nat → Nat) : Prop := ∀ S s, (rt S).testBit s = true → (ru S).testBit s = true
theorem Gw.rf (rt : Nat → Nat) : Gw rt rt := fun _ _ h => h
theorem Gw.tr {a b c : Nat → Nat} (h : Gw a b) (k : Gw b c) : Gw a c := fun S s q => k S s (h S s q)
/-- the array of sets, and whether it has grown -/
def Tr (σ : Mem) (rt : Nat → Nat) (gr : Bool) : Prop := (∀ i, i < 256 → σ 129 i = nI (rt i) ∧ rt i < 256) ∧ σ 128 1 = bz gr
theorem gw_fu (rt : Nat → Nat) (S s : Nat) : Gw rt (fu rt S (rt S ||| 2 ^ s)) := by
  intro S1 s1 q
  by_cases e : S1 = S
  · subst e; rw [fu_s, Nat.testBit_or, q]; rfl
  · rw [fu_n _ e]; exact q
theorem fu_bit (rt : Nat → Nat) (S s : Nat) : (fu rt S (rt S ||| 2 ^ s) S).testBit s = true := by rw [fu_s, Nat.testBit_or, Nat.testBit_two_pow_self, Bool.or_true]
/-- what carryOn has seen to of a set: the states below n, of state n the ways below v -/
def Cy (m g h S : Nat) (rt ru : Nat → Nat) (p : Nat) : Prop := ∀ s u, s < 2 ^ m → u < 2 → 2 * s + u < p → (rt S).testBit s = true → tt m g h s S u ≠ 0 ∧ (ru (tt m g h s S u)).testBit (nx m s u) = true
theorem Cy.up {m g h S p : Nat} {rt ru rv : Nat → Nat} (H : Cy m g h S rt ru p) (k : Gw ru rv) : Cy m g h S rt rv p := fun s u a b c d => ⟨(H s u a b c d).1, k _ _ (H s u a b c d).2⟩
end
section
/-- the pairs of a state and a set that d steps lead to -/
def Rc (m g h : Nat) : Nat → Nat → Nat → Prop
  | 0, s, S => s < 2 ^ m ∧ S = 2 ^ 2 ^ m - 1
  | d + 1, s, S => ∃ s0 S0 u, Rc m g h d s0 S0 ∧ u < 2 ∧ s = nx m s0 u ∧ S = tt m g h s0 S0 u
theorem Rc_in {m g h : Nat} : ∀ {d s S : Nat}, Rc m g h d s S → s < 2 ^ m ∧ S < 2 ^ 2 ^ m
  | 0, s, S, ⟨h1, h2⟩ => ⟨h1, by rw [h2]; have := pp_pos m; omega⟩
  | d + 1, s, S, ⟨s0, S0, u, k, hu, e1, e2⟩ => ⟨by rw [e1]; exact nx_lt hu (Rc_in k).1, by rw [e2]; exact fo_lt _ _ _ _ _⟩
def Nb (m g h r : Nat) : Prop := ∀ d s S, d < r → Rc m g h d s S → ∀ u, u < 2 → tt m g h s S u ≠ 0
def Mk (m g h r : Nat) (rt : Nat → Nat) : Prop := ∀ d s S, d ≤ r → Rc m g h d s S → (rt S).testBit s = true
def Cd (m g h : Nat) (rt : Nat → Nat) : Prop := ∀ s S, s < 2 ^ m → 1 ≤ S → S < 2 ^ 2 ^ m → (rt S).testBit s = true → ∀ u, u < 2 → tt m g h s S u ≠ 0 ∧ (rt (tt m g h s S u)).testBit (nx m s u) = true
theorem nb_no {m g h r : Nat} (hc : cOK m g h) (hr : 4 ≤ r) (hn : Nb m g h r) : False := by
  refine bd_absurd hc (K := fun j s S => j ≤ 4 ∧ Rc m g h (4 - j) s S) (fun s hs => ⟨Nat.le_refl _, by rw [Nat.sub_self]; exact ⟨hs, rfl⟩⟩) (fun d s S k hs u hu => ⟨hn (4 - (d + 1)) s S (by omega) k.2 u hu, by omega, ?_⟩)
  rw [show 4 - d = 4 - (d + 1) + 1 by omega]
  exact ⟨s, S, u, k.2, hu, rfl, rfl⟩
theorem cl_no {m g h : Nat} {rt : Nat → Nat} (hc : cOK m g h) (hst : ∀ s, s < 2 ^ m → (rt (2 ^ 2 ^ m - 1)).testBit s = true) (hcl : Cd m g h rt) : False := by
  have hp := pp_pos m
  refine bd_absurd hc (K := fun _ s S => (1 ≤ S ∧ S < 2 ^ 2 ^ m) ∧ (rt S).testBit s = true) (fun s hs => ⟨⟨by omega, by omega⟩, hst s hs⟩) (fun d s S k hs u hu => ?_)
  have q := hcl s S hs k.1.1 k.1.2 k.2 u hu
  exact ⟨q.1, ⟨Nat.pos_of_ne_zero q.1, fo_lt _ _ _ _ _⟩, q.2⟩
theorem Rc_pos {m g h r d s S : Nat} (hn : Nb m g h r) (hd : d ≤ r) (k : Rc m g h d s S) : 1 ≤ S := by
  have hp := pp_pos m
  cases d with
  | zero => rw [k.2]; omega
  | succ d =>
    obtain ⟨s0, S0, u, k0, hu, _, e⟩ := k
    rw [e]
    exact Nat.pos_of_ne_zero (hn d s0 S0 (by omega) k0 u hu)
theorem rd_nb {m g h r : Nat} {rt ru : Nat → Nat} (hn : Nb m g h r) (hm : Mk m g h r rt) (hC : ∀ S, 1 ≤ S → S < 2 ^ 2 ^ m → Cy m g h S rt ru (2 * 2 ^ m)) : Nb m g h (r + 1) := by
  intro d s S hd k u hu
  have hi := Rc_in k
  exact (hC S (Rc_pos hn (by omega) k) hi.2 s u hi.1 hu (by omega) (hm d s S (by omega) k)).1
theorem rd_mk {m g h r : Nat} {rt ru : Nat → Nat} (hn : Nb m g h r) (hm : Mk m g h r rt) (hG : Gw rt ru) (hC : ∀ S, 1 ≤ S → S < 2 ^ 2 ^ m → Cy m g h S rt ru (2 * 2 ^ m)) : Mk m g h (r + 1) ru := by
  intro d s S hd k
  by_cases e : d ≤ r
  · exact hG S s (hm d s S e k)
  · obtain rfl : d = r + 1 := by omega
    obtain ⟨s0, S0, u, k0, hu, e1, e2⟩ := k
    have hi := Rc_in k0
    rw [e1, e2]
    exact (hC S0 (Rc_pos hn (Nat.le_refl _) k0) hi.2 s0 u hi.1 hu (by omega) (hm r s0 S0 (Nat.le_refl _) k0)).2
theorem rd_cd {m g h : Nat} {rt : Nat → Nat} (hC : ∀ S, 1 ≤ S → S < 2 ^ 2 ^ m → Cy m g h S rt rt (2 * 2 ^ m)) : Cd m g h rt := fun s S hs h1 h2 hb u hu => hC S h1 h2 s u hs hu (by omega) hb
theorem Cy_skip {m g h S s : Nat} {rt ru : Nat → Nat} (H : Cy m g h S rt ru (2 * s)) (hG : Gw rt ru) (hb : ru S / 2 ^ s % 2 = 0) : Cy m g h S rt ru (2 * (s + 1)) := by
  intro s1 u h1 h2 h3 h4
  by_cases e : s1 = s
  · subst e
    have q := (tb_iff _ _).mpr (hG S s1 h4)
    omega
  · exact H s1 u h1 h2 (by omega) h4
theorem Cy_one {m g h S s v : Nat} {rt ru rv : Nat → Nat} (H : Cy m g h S rt ru (2 * s + v)) (hv : v < 2) (hG : Gw ru rv) (h0 : tt m g h s S v ≠ 0) (hb : (rv (tt m g h s S v)).testBit (nx m s v) = true) : Cy m g h S rt rv (2 * s + (v + 1)) := by
  intro s1 u h1 h2 h3 h4
  by_cases e : 2 * s1 + u = 2 * s + v
  · obtain ⟨rfl, rfl⟩ := uv_eq h2 hv e
    exact ⟨h0, hb⟩
  · exact H.up hG s1 u h1 h2 (by omega) h4
theorem Cy_0 {m g h S : Nat} {rt ru : Nat → Nat} : Cy m g h S rt ru (2 * 0) := fun _ _ _ _ q => absurd q (by omega)
theorem Cy_none {m g h S p : Nat} {rt ru : Nat → Nat} (hG : Gw rt ru) (h0 : ru S = 0) : Cy m g h S rt ru p := by
  intro s u _ _ _ q
  have := hG S s q
  rw [h0, Nat.zero_testBit] at this
  exact absurd this (by decide)
theorem st_bits {m s : Nat} (hs : s < 2 ^ m) : (fu (fun _ => 0) (2 ^ 2 ^ m - 1) (2 ^ 2 ^ m - 1) (2 ^ 2 ^ m - 1)).testBit s = true := by
  rw [fu_s, Nat.testBit_two_pow_sub_one, decide_eq_true_iff]
  exact hs
theorem mk_0 (m g h : Nat) : Mk m g h 0 (fu (fun _ => 0) (2 ^ 2 ^ m - 1) (2 ^ 2 ^ m - 1)) := by
  intro d s S hd k
  obtain rfl : d = 0 := by omega
  rw [k.2]
  exact st_bits k.1
set_option maxHeartbeats 4000000 in
set_option maxRecDepth 100000 in
theorem c_Tu_follow (l : Launch) (G : GT) (b : Nat) (σ : Mem) (m g h : Nat) (hc : CodeAt σ 2 m g h) (S f : Nat) (hS : S < 256) (hf : f < 4) : KI l G b yX9_follow cX9_follow 6 2 σ [.ref (b + 2), .int (nI S), .int (nI f)] (fun r σ' => r = nI (fo m g h S f) ∧ σ' = σ) := by
  refine sg_metI [.ref (b + 2), .int (nI S), .int (nI f)] (by decide) (Nat.le_of_ble_eq_true rfl) ?_
  intro vp ve vs vm args below meth vc ls Q hx hb hml hown hts hK hM hl hret
  have hl : lv_has ls 6 [(0, .ref (b + 2)), (1, .int (nI S)), (2, .int (nI f))] := hl
  have hm8 := p2_le hc.m
  refine lv_iconst (v := nI 0) hx hb dX9_follow_0 (by decide) ?_
  refine lv_istore_n (lv' := [(3, .int (nI 0)), (0, .ref (b + 2)), (1, .int (nI S)), (2, .int (nI f))]) hx hb dX9_follow_1 rfl hl (by decide) rfl (fun ls hl => ?_)
  refine lv_iconst (v := nI 0) hx hb dX9_follow_2 (by decide) ?_
  refine lv_istore (lv' := [(4, .int (nI 0)), (3, .int (nI 0)), (0, .ref (b + 2)), (1, .int (nI S)), (2, .int (nI f))]) hx hb dX9_follow_3 hl (by decide) rfl (fun ls hl => ?_)
  have L5 : ∀ (fuel : Nat) (s : Nat) (to1 : Nat), (s ≤ 2 ^ m) → (to1 = foN m g h S f (2 * s)) → (2 ^ m - s) < fuel → ∀ (H : Heap) (locs : List Loc) (ls : Array Slot), St G (Fr b) b σ vs H locs → lv_has ls 6 [(0, .ref (b + 2)), (1, .int (nI S)), (2, .int (nI f)), (3, .int (nI to1)), (4, .int (nI s))] → W vp l ve (RM 2) vs vm args below meth vc H locs 0 0 Q (F0 vm 5 ls []) := by
    intro fuel
    induction fuel with
    | zero => intro s to1 hs h1 hF; exact absurd hF (Nat.not_lt_zero _)
    | succ fuel ih5 =>
      intro s to1 hs h1 hF H locs ls hM hl
      refine lv_iload hx hb dX9_follow_5 (lv_at hl 4 rfl) ?_
      refine lv_aload_n hx hb dX9_follow_7 rfl (lv_at hl 0 rfl) ?_
      refine sg_ci (sg_runV (d := 0) (As := []) (rest := [.int (nI s)]) hx hb hml hts hown hK hM (c_Code_states l G b σ 2 m g h kc_2 (hc)) mi_X0_states wl_X9_15 (sh2 kc_2) (kd_lt kc_2 (by decide)) rfl rfl rfl hl.1 rfl (Nat.le_of_ble_eq_true rfl) dX9_follow_8 ⟨by decide, by decide⟩ ⟨Nat.le_refl 0, Nat.le_refl 0⟩) hM sgA (fun r_8 σ_8 H locs hp_8 hM => ?_)
      obtain ⟨hr_8, hs_8⟩ := hp_8; subst r_8; subst σ_8
      refine sn_icmp_ge (tgt := 70) hx hb dX9_follow_11 (by decide) (by omega) (by omega) (fun hls => ?_) (fun hls => ?_)
      · refine lv_iload_n hx hb dX9_follow_70 rfl (lv_at hl 3 rfl) ?_
        exact hret _ _ _ _ _ _ dX9_follow_71 hM (⟨by rw [h1, show s = 2 ^ m by omega]; rfl, rfl⟩)
      · refine lv_iconst (v := nI 0) hx hb dX9_follow_14 (by decide) ?_
        refine lv_istore (lv' := [(5, .int (nI 0)), (0, .ref (b + 2)), (1, .int (nI S)), (2, .int (nI f)), (3, .int (nI to1)), (4, .int (nI s))]) hx hb dX9_follow_15 hl (by decide) rfl (fun ls hl => ?_)
        have L17 : ∀ (fuel : Nat) (u : Nat) (to2 : Nat), (u ≤ 2) → (to2 = foN m g h S f (2 * s + u)) → (2 - u) < fuel → ∀ (H : Heap) (locs : List Loc) (ls : Array Slot), St G (Fr b) b σ vs H locs → lv_has ls 6 [(0, .ref (b + 2)), (1, .int (nI S)), (2, .int (nI f)), (3, .int (nI to2)), (4, .int (nI s)), (5, .int (nI u))] → W vp l ve (RM 2) vs vm args below meth vc H locs 0 0 Q (F0 vm 17 ls []) := by
          intro fuel
          induction fuel with
          | zero => intro u to2 hu h2 hF; exact absurd hF (Nat.not_lt_zero _)
          | succ fuel ih17 =>
            intro u to2 hu h2 hF H locs ls hM hl
            refine lv_iload hx hb dX9_follow_17 (lv_at hl 5 rfl) ?_
            refine lv_iconst (v := nI 2) hx hb dX9_follow_19 (by decide) ?_
            refine sn_icmp_ge (tgt := 64) hx hb dX9_follow_20 (by decide) (by omega) (by omega) (fun hlu => ?_) (fun hlu => ?_)
            · refine lv_iinc (v := nI (s + 1)) (lv' := [(4, .int (nI (s + 1))), (0, .ref (b + 2)), (1, .int (nI S)), (2, .int (nI f)), (3, .int (nI to2)), (5, .int (nI u))]) hx hb dX9_follow_64 hl (k := 4) rfl (q_inc _) (by decide) rfl (fun ls hl => ?_)
              refine lv_goto (tgt := 5) hx hb dX9_follow_67 (by decide) ?_
              exact ih5 (s + 1) to2 (by omega) (by rw [h2, show u = 2 by omega]; rfl) (by omega) _ _ _ hM (lv_sub hl [1, 2, 3, 4, 0] rfl)
            · have hn0 := nx_lt (m := m) hlu hls
              refine lv_iload_n hx hb dX9_follow_23 rfl (lv_at hl 1 rfl) ?_
              refine lv_iload hx hb dX9_follow_24 (lv_at hl 4 rfl) ?_
              refine sn_ishr hx hb dX9_follow_26 (by omega) (by omega) ?_
              refine lv_iconst (v := nI 1) hx hb dX9_follow_27 (by decide) ?_
              refine sn_iand hx hb dX9_follow_28 ?_
              refine sn_top (y := nI (S / 2 ^ s % 2)) (by rw [tb_and]) ?_
              refine lv_iconst (v := nI 1) hx hb dX9_follow_29 (by decide) ?_
              refine sn_icmp_ne (tgt := 58) hx hb dX9_follow_30 (by decide) (by omega) (by omega) (fun c_30 => ?_) (fun c_30 => ?_)
              · refine lv_iinc (v := nI (u + 1)) (lv' := [(5, .int (nI (u + 1))), (0, .ref (b + 2)), (1, .int (nI S)), (2, .int (nI f)), (3, .int (nI to2)), (4, .int (nI s))]) hx hb dX9_follow_58 hl (k := 5) rfl (q_inc _) (by decide) rfl (fun ls hl => ?_)
                refine lv_goto (tgt := 17) hx hb dX9_follow_61 (by decide) ?_
                exact ih17 (u + 1) to2 (by omega) (by rw [show 2 * s + (u + 1) = 2 * s + u + 1 by omega, foN_s hlu]; first | (rw [if_pos (by omega), ← h2]) | (rw [if_neg (by omega)]; exact h2)) (by omega) _ _ _ hM (lv_sub hl [1, 2, 3, 4, 5, 0] rfl)
              · refine lv_aload_n hx hb dX9_follow_33 rfl (lv_at hl 0 rfl) ?_
                refine lv_iload hx hb dX9_follow_34 (lv_at hl 4 rfl) ?_
                refine lv_iload hx hb dX9_follow_36 (lv_at hl 5 rfl) ?_
                refine sg_ci (sg_runV (d := 1) (As := [.int (nI s), .int (nI u)]) (rest := []) hx hb hml hts hown hK hM (c_Code_fam l G b σ 2 m g h s u kc_2 (hc) (hlu) (hls)) mi_X0_familyFrom wl_X9_35 (sh2 kc_2) (kd_lt kc_2 (by decide)) rfl rfl rfl hl.1 rfl (Nat.le_of_ble_eq_true rfl) dX9_follow_38 ⟨by decide, by decide⟩ ⟨Nat.le_refl 0, Nat.le_refl 0⟩) hM sgA (fun r_38 σ_38 H locs hp_38 hM => ?_)
                obtain ⟨hr_38, hs_38⟩ := hp_38; subst r_38; subst σ_38
                refine lv_iload_n hx hb dX9_follow_41 rfl (lv_at hl 2 rfl) ?_
                refine sn_icmp_ne (tgt := 58) hx hb dX9_follow_42 (by decide) (by have := fam_lt m g h s u; omega) (by omega) (fun c_42 => ?_) (fun c_42 => ?_)
                · refine lv_iinc (v := nI (u + 1)) (lv' := [(5, .int (nI (u + 1))), (0, .ref (b + 2)), (1, .int (nI S)), (2, .int (nI f)), (3, .int (nI to2)), (4, .int (nI s))]) hx hb dX9_follow_58 hl (k := 5) rfl (q_inc _) (by decide) rfl (fun ls hl => ?_)
                  refine lv_goto (tgt := 17) hx hb dX9_follow_61 (by decide) ?_
                  exact ih17 (u + 1) to2 (by omega) (by rw [show 2 * s + (u + 1) = 2 * s + u + 1 by omega, foN_s hlu]; first | (rw [if_pos (by omega), ← h2]) | (rw [if_neg (by omega)]; exact h2)) (by omega) _ _ _ hM (lv_sub hl [1, 2, 3, 4, 5, 0] rfl)
                · refine lv_iload_n hx hb dX9_follow_45 rfl (lv_at hl 3 rfl) ?_
                  refine lv_iconst (v := nI 1) hx hb dX9_follow_46 (by decide) ?_
                  refine lv_aload_n hx hb dX9_follow_47 rfl (lv_at hl 0 rfl) ?_
                  refine lv_iload hx hb dX9_follow_48 (lv_at hl 4 rfl) ?_
                  refine lv_iload hx hb dX9_follow_50 (lv_at hl 5 rfl) ?_
                  refine sg_ci (sg_runV (d := 1) (As := [.int (nI s), .int (nI u)]) (rest := [.int (nI 1), .int (nI to2)]) hx hb hml hts hown hK hM (c_Code_next l G b σ 2 m g h s u kc_2 (hc) (hlu) (hls)) mi_X0_stateAfter wl_X9_49 (sh2 kc_2) (kd_lt kc_2 (by decide)) rfl rfl rfl hl.1 rfl (Nat.le_of_ble_eq_true rfl) dX9_follow_52 ⟨by decide, by decide⟩ ⟨Nat.le_refl 0, Nat.le_refl 0⟩) hM sgA (fun r_52 σ_52 H locs hp_52 hM => ?_)
                  obtain ⟨hr_52, hs_52⟩ := hp_52; subst r_52; subst σ_52
                  refine sn_ishl hx hb dX9_follow_55 (by omega) (by rw [Nat.one_mul]; exact Nat.pow_lt_pow_right (by decide) (by omega)) ?_
                  refine sn_top (y := nI (2 ^ nx m s u)) (by rw [Nat.one_mul]) ?_
                  refine sn_ior hx hb dX9_follow_56 ?_
                  refine lv_istore_n (lv' := [(3, .int (nI (to2 ||| (2 ^ nx m s u)))), (0, .ref (b + 2)), (1, .int (nI S)), (2, .int (nI f)), (4, .int (nI s)), (5, .int (nI u))]) hx hb dX9_follow_57 rfl hl (by decide) rfl (fun ls hl => ?_)
                  refine lv_iinc (v := nI (u + 1)) (lv' := [(5, .int (nI (u + 1))), (3, .int (nI (to2 ||| (2 ^ nx m s u)))), (0, .ref (b + 2)), (1, .int (nI S)), (2, .int (nI f)), (4, .int (nI s))]) hx hb dX9_follow_58 hl (k := 5) rfl (q_inc _) (by decide) rfl (fun ls hl => ?_)
                  refine lv_goto (tgt := 17) hx hb dX9_follow_61 (by decide) ?_
                  exact ih17 (u + 1) (to2 ||| (2 ^ nx m s u)) (by omega) (by rw [show 2 * s + (u + 1) = 2 * s + u + 1 by omega, foN_s hlu]; first | (rw [if_pos (by omega), ← h2]) | (rw [if_neg (by omega)]; exact h2)) (by omega) _ _ _ hM (lv_sub hl [2, 3, 4, 1, 5, 0] rfl)
        exact L17 (_ + 1) 0 to1 (by omega) h1 (Nat.lt_succ_self _) _ _ _ hM (lv_sub hl [1, 2, 3, 4, 5, 0] rfl)
  exact L5 (_ + 1) 0 0 (Nat.zero_le _) rfl (Nat.lt_succ_self _) _ _ _ hM (lv_sub hl [2, 3, 4, 1, 0] rfl)
theorem tr_up {σ : Mem} {rt : Nat → Nat} {gr : Bool} {S s : Nat} (hT : Tr σ rt gr) (hs : s < 8) : ∀ i, i < 256 → m2 σ 129 S (nI (rt S ||| 2 ^ s)) 129 i = nI (fu rt S (rt S ||| 2 ^ s) i) ∧ fu rt S (rt S ||| 2 ^ s) i < 256 := by
  intro i hi
  by_cases e : i = S
  · subst e
    rw [m2_ss, fu_s]
    refine ⟨rfl, Nat.or_lt_two_pow (n := 8) (hT.1 i hi).2 ?_⟩
    exact Nat.pow_lt_pow_right (by decide) hs
  · rw [m2_sn e, fu_n _ e]
    exact hT.1 i hi
set_option maxHeartbeats 4000000 in
set_option maxRecDepth 100000 in
theorem c_Tu_mark (l : Launch) (G : GT) (b : Nat) (σ : Mem) (S s : Nat) (hS : S < 256) (hs : s < 8) (rt : Nat → Nat) (gr : Bool) (hT : Tr σ rt gr) : KV l G b yX9_mark cX9_mark 3 0 σ [.ref (b + 128), .int (nI S), .int (nI s)] (fun σ' => ∃ ru g2, Tr σ' ru g2 ∧ Gw rt ru ∧ (ru S).testBit s = true ∧ (g2 = true ∨ g2 = gr ∧ ru = rt) ∧ ∀ c, c ≠ 128 → c ≠ 129 → σ' c = σ c) := by
  refine sg_metV [.ref (b + 128), .int (nI S), .int (nI s)] (by decide) (Nat.le_of_ble_eq_true rfl) ?_
  intro vp ve vs vm args below meth vc ls Q hx hb hml hown hts hK hM hl hret
  have hl : lv_has ls 3 [(0, .ref (b + 128)), (1, .int (nI S)), (2, .int (nI s))] := hl
  refine lv_aload_n hx hb dX9_mark_0 rfl (lv_at hl 0 rfl) ?_
  refine sg_get (v := .ref (b + 129)) hx hb hts hown hK hM (sh16 kc_128) (kd_lt kc_128 (by decide)) rfl inX9 0 (by decide) wf_X9_11 rfl dX9_mark_1 ?_
  refine lv_iload_n hx hb dX9_mark_4 rfl (lv_at hl 1 rfl) ?_
  refine sg_iald hx hb hK hM (sh17 kc_129) (kd_lt kc_129 (by decide)) (i := S) (by omega) (by decide) dX9_mark_5 ?_
  refine sn_top (y := nI (rt S)) ((hT.1 S hS).1) ?_
  refine lv_iload_n hx hb dX9_mark_6 rfl (lv_at hl 2 rfl) ?_
  refine sn_ishr hx hb dX9_mark_7 (by omega) (by have := (hT.1 S hS).2; omega) ?_
  refine lv_iconst (v := nI 1) hx hb dX9_mark_8 (by decide) ?_
  refine sn_iand hx hb dX9_mark_9 ?_
  refine sn_top (y := nI (rt S / 2 ^ s % 2)) (by rw [tb_and]) ?_
  refine sn_if_ne (tgt := 30) hx hb dX9_mark_10 (by decide) (by omega) (fun c_10 => ?_) (fun c_10 => ?_)
  · exact hret _ _ _ _ _ dX9_mark_30 hM (⟨rt, gr, hT, Gw.rf _, (tb_iff _ _).mp (by omega), Or.inr ⟨rfl, rfl⟩, fun _ _ _ => rfl⟩)
  · refine lv_aload_n hx hb dX9_mark_13 rfl (lv_at hl 0 rfl) ?_
    refine sg_get (v := .ref (b + 129)) hx hb hts hown hK hM (sh16 kc_128) (kd_lt kc_128 (by decide)) rfl inX9 0 (by decide) wf_X9_11 rfl dX9_mark_14 ?_
    refine lv_iload_n hx hb dX9_mark_17 rfl (lv_at hl 1 rfl) ?_
    refine lv_dup2_11 hx hb dX9_mark_18 rfl rfl ?_
    refine sg_iald hx hb hK hM (sh17 kc_129) (kd_lt kc_129 (by decide)) (i := S) (by omega) (by decide) dX9_mark_19 ?_
    refine sn_top (y := nI (rt S)) ((hT.1 S hS).1) ?_
    refine lv_iconst (v := nI 1) hx hb dX9_mark_20 (by decide) ?_
    refine lv_iload_n hx hb dX9_mark_21 rfl (lv_at hl 2 rfl) ?_
    refine sn_ishl hx hb dX9_mark_22 (by omega) (by rw [Nat.one_mul]; exact Nat.pow_lt_pow_right (by decide) (by omega)) ?_
    refine sn_top (y := nI (2 ^ s)) (by rw [Nat.one_mul]) ?_
    refine sn_ior hx hb dX9_mark_23 ?_
    refine sg_iast hx hb hK hM sgA (fun f => sh17 kc_129) (kd_lt kc_129 (by decide)) (i := S) (by omega) (by decide) dX9_mark_24 (fun H locs hM => ?_)
    refine lv_aload_n hx hb dX9_mark_25 rfl (lv_at hl 0 rfl) ?_
    refine lv_iconst (v := nI 1) hx hb dX9_mark_26 (by decide) ?_
    refine sg_put (v := nI 1) (ty := .boolean) hx hb hts hown hK hM sgA (sh16 kc_128) (kd_lt kc_128 (by decide)) rfl inX9 tyX9 tyX9_ok nmX9 1 (by decide) wf_X9_27 rfl (by decide +kernel) rfl rfl (Nat.le_of_ble_eq_true rfl) (by rw [sh16 kc_128]; rfl) dX9_mark_27 (fun H locs hM => ?_)
    exact hret _ _ _ _ _ dX9_mark_30 hM (⟨fu rt S (rt S ||| 2 ^ s), true, ⟨fun i hi => by rw [m2_o (by decide)]; exact tr_up hT hs i hi, m2_ss⟩, gw_fu _ _ _, fu_bit _ _ _, Or.inl rfl, fun c a1 a2 => by rw [m2_o a1, m2_o a2]⟩)
set_option maxHeartbeats 4000000 in
set_option maxRecDepth 100000 in
theorem c_Tu_carry (l : Launch) (G : GT) (b : Nat) (σ : Mem) (m g h : Nat) (hc : CodeAt σ 2 m g h) (S : Nat) (hS : S < 256) (rt : Nat → Nat) (gr : Bool) (hT : Tr σ rt gr) : KZ l G b yX9_carryOn cX9_carryOn 6 3 σ [.ref (b + 128), .ref (b + 2), .int (nI S)] (fun r σ' => ∃ z ru g2, r = bz z ∧ Tr σ' ru g2 ∧ Gw rt ru ∧ (z = true → Cy m g h S rt ru (2 * 2 ^ m)) ∧ (g2 = true ∨ g2 = gr ∧ ru = rt) ∧ ∀ c, c ≠ 128 → c ≠ 129 → σ' c = σ c) := by
  refine sg_metZ [.ref (b + 128), .ref (b + 2), .int (nI S)] (by decide) (Nat.le_of_ble_eq_true rfl) ?_
  intro vp ve vs vm args below meth vc ls Q hx hb hml hown hts hK hM hl hret
  have hl : lv_has ls 6 [(0, .ref (b + 128)), (1, .ref (b + 2)), (2, .int (nI S))] := hl
  have hm8 := p2_le hc.m
  have hpp := pp_le hc.m
  refine lv_iconst (v := nI 0) hx hb dX9_carryOn_0 (by decide) ?_
  refine lv_istore_n (lv' := [(3, .int (nI 0)), (0, .ref (b + 128)), (1, .ref (b + 2)), (2, .int (nI S))]) hx hb dX9_carryOn_1 rfl hl (by decide) rfl (fun ls hl => ?_)
  have L2 : ∀ (fuel : Nat) (s : Nat) (σ1 : Mem) (ru : Nat → Nat) (g1 : Bool), (s ≤ 2 ^ m) → (Tr σ1 ru g1) → (Gw rt ru) → (Cy m g h S rt ru (2 * s)) → (g1 = true ∨ g1 = gr ∧ ru = rt) → (∀ c, c ≠ 128 → c ≠ 129 → σ1 c = σ c) → (2 ^ m - s) < fuel → ∀ (H : Heap) (locs : List Loc) (ls : Array Slot), St G (Fr b) b σ1 vs H locs → lv_has ls 6 [(0, .ref (b + 128)), (1, .ref (b + 2)), (2, .int (nI S)), (3, .int (nI s))] → W vp l ve (RM 3) vs vm args below meth vc H locs 0 0 Q (F0 vm 2 ls []) := by
    intro fuel
    induction fuel with
    | zero => intro s σ1 ru g1 hs a1 a2 a3 a4 a5 hF; exact absurd hF (Nat.not_lt_zero _)
    | succ fuel ih2 =>
      intro s σ1 ru g1 hs a1 a2 a3 a4 a5 hF H locs ls hM hl
      refine lv_iload_n hx hb dX9_carryOn_2 rfl (lv_at hl 3 rfl) ?_
      refine lv_aload_n hx hb dX9_carryOn_3 rfl (lv_at hl 1 rfl) ?_
      refine sg_ci (sg_runV (d := 0) (As := []) (rest := [.int (nI s)]) hx hb hml hts hown hK hM (c_Code_states l G b σ1 2 m g h kc_2 (hc.keep (a5 2 (by decide) (by decide)))) mi_X0_states wl_X9_15 (sh2 kc_2) (kd_lt kc_2 (by decide)) rfl rfl rfl hl.1 rfl (Nat.le_of_ble_eq_true rfl) dX9_carryOn_4 ⟨by decide, by decide⟩ ⟨Nat.le_refl 0, Nat.le_refl 0⟩) hM sgA (fun r_4 σ_4 H locs hp_4 hM => ?_)
      obtain ⟨hr_4, hs_4⟩ := hp_4; subst r_4; subst σ_4
      refine sn_icmp_ge (tgt := 84) hx hb dX9_carryOn_7 (by decide) (by omega) (by omega) (fun hls => ?_) (fun hls => ?_)
      · refine lv_iconst (v := nI 1) hx hb dX9_carryOn_84 (by decide) ?_
        exact hret _ _ (true) _ _ _ _ dX9_carryOn_85 hM (rfl) (⟨true, ru, g1, rfl, a1, a2, fun _ => by rw [show 2 ^ m = s by omega]; exact a3, a4, a5⟩)
      · refine lv_aload_n hx hb dX9_carryOn_10 rfl (lv_at hl 0 rfl) ?_
        refine sg_get (v := .ref (b + 129)) hx hb hts hown hK hM (sh16 kc_128) (kd_lt kc_128 (by decide)) rfl inX9 0 (by decide) wf_X9_11 rfl dX9_carryOn_11 ?_
        refine lv_iload_n hx hb dX9_carryOn_14 rfl (lv_at hl 2 rfl) ?_
        refine sg_iald hx hb hK hM (sh17 kc_129) (kd_lt kc_129 (by decide)) (i := S) (by omega) (by decide) dX9_carryOn_15 ?_
        refine sn_top (y := nI (ru S)) ((a1.1 S (by omega)).1) ?_
        refine lv_iload_n hx hb dX9_carryOn_16 rfl (lv_at hl 3 rfl) ?_
        refine sn_ishr hx hb dX9_carryOn_17 (by omega) (by have := (a1.1 S (by omega)).2; omega) ?_
        refine lv_iconst (v := nI 1) hx hb dX9_carryOn_18 (by decide) ?_
        refine sn_iand hx hb dX9_carryOn_19 ?_
        refine sn_top (y := nI (ru S / 2 ^ s % 2)) (by rw [tb_and]) ?_
        refine sn_if_ne (tgt := 26) hx hb dX9_carryOn_20 (by decide) (by omega) (fun c_20 => ?_) (fun c_20 => ?_)
        · refine lv_iconst (v := nI 0) hx hb dX9_carryOn_26 (by decide) ?_
          refine lv_istore (lv' := [(4, .int (nI 0)), (0, .ref (b + 128)), (1, .ref (b + 2)), (2, .int (nI S)), (3, .int (nI s))]) hx hb dX9_carryOn_27 hl (by decide) rfl (fun ls hl => ?_)
          have L29 : ∀ (fuel : Nat) (v : Nat) (σ2 : Mem) (rv : Nat → Nat) (g2 : Bool), (v ≤ 2) → (Tr σ2 rv g2) → (Gw rt rv) → (Cy m g h S rt rv (2 * s + v)) → (g2 = true ∨ g2 = gr ∧ rv = rt) → (∀ c, c ≠ 128 → c ≠ 129 → σ2 c = σ c) → (2 - v) < fuel → ∀ (H : Heap) (locs : List Loc) (ls : Array Slot), St G (Fr b) b σ2 vs H locs → lv_has ls 6 [(0, .ref (b + 128)), (1, .ref (b + 2)), (2, .int (nI S)), (3, .int (nI s)), (4, .int (nI v))] → W vp l ve (RM 3) vs vm args below meth vc H locs 0 0 Q (F0 vm 29 ls []) := by
            intro fuel
            induction fuel with
            | zero => intro v σ2 rv g2 hv b1 b2 b3 b4 b5 hF; exact absurd hF (Nat.not_lt_zero _)
            | succ fuel ih29 =>
              intro v σ2 rv g2 hv b1 b2 b3 b4 b5 hF H locs ls hM hl
              refine lv_iload hx hb dX9_carryOn_29 (lv_at hl 4 rfl) ?_
              refine lv_iconst (v := nI 2) hx hb dX9_carryOn_31 (by decide) ?_
              refine sn_icmp_ge (tgt := 78) hx hb dX9_carryOn_32 (by decide) (by omega) (by omega) (fun hlv => ?_) (fun hlv => ?_)
              · refine lv_iinc (v := nI (s + 1)) (lv' := [(3, .int (nI (s + 1))), (0, .ref (b + 128)), (1, .ref (b + 2)), (2, .int (nI S)), (4, .int (nI v))]) hx hb dX9_carryOn_78 hl (k := 3) rfl (q_inc _) (by decide) rfl (fun ls hl => ?_)
                refine lv_goto (tgt := 2) hx hb dX9_carryOn_81 (by decide) ?_
                exact ih2 (s + 1) σ2 rv g2 (by omega) b1 b2 (by rw [show 2 * (s + 1) = 2 * s + v by omega]; exact b3) b4 b5 (by omega) _ _ _ hM (lv_sub hl [1, 2, 3, 0] rfl)
              · have hn0 := nx_lt (m := m) hlv hls
                refine lv_aload_n hx hb dX9_carryOn_35 rfl (lv_at hl 1 rfl) ?_
                refine lv_iload_n hx hb dX9_carryOn_36 rfl (lv_at hl 2 rfl) ?_
                refine lv_aload_n hx hb dX9_carryOn_37 rfl (lv_at hl 1 rfl) ?_
                refine lv_iload_n hx hb dX9_carryOn_38 rfl (lv_at hl 3 rfl) ?_
                refine lv_iload hx hb dX9_carryOn_39 (lv_at hl 4 rfl) ?_
                refine sg_ci (sg_runV (d := 1) (As := [.int (nI s), .int (nI v)]) (rest := [.int (nI S), .ref (b + 2)]) hx hb hml hts hown hK hM (c_Code_fam l G b σ2 2 m g h s v kc_2 (hc.keep (b5 2 (by decide) (by decide))) (hlv) (hls)) mi_X0_familyFrom wl_X9_35 (sh2 kc_2) (kd_lt kc_2 (by decide)) rfl rfl rfl hl.1 rfl (Nat.le_of_ble_eq_true rfl) dX9_carryOn_41 ⟨by decide, by decide⟩ ⟨Nat.le_refl 0, Nat.le_refl 0⟩) hM sgA (fun r_41 σ_41 H locs hp_41 hM => ?_)
                obtain ⟨hr_41, hs_41⟩ := hp_41; subst r_41; subst σ_41
                refine sg_ci (sg_runS (d := 1) (As := [.int (nI (fam m g h s v))]) (rest := [.int (nI S), .ref (b + 2)]) hx hb hml hts hown hK hM (c_g_turnOfFamily l G b σ2 (fam m g h s v) (fam_lt _ _ _ _ _)) mi_X1_turnOfFamily wl_X9_39 rfl hl.1 rfl (Nat.le_of_ble_eq_true rfl) dX9_carryOn_44 ⟨by decide, by decide⟩ ⟨Nat.le_refl 0, Nat.le_refl 0⟩) hM sgA (fun r_44 σ_44 H locs hp_44 hM => ?_)
                obtain ⟨hr_44, hs_44⟩ := hp_44; subst r_44; subst σ_44
                refine sg_ci (sg_runS (d := 2) (As := [.ref (b + 2), .int (nI S), .int (nI (tf (fam m g h s v)))]) (rest := []) hx hb hml hts hown hK hM (c_Tu_follow l G b σ2 m g h (hc.keep (b5 2 (by decide) (by decide))) S (tf (fam m g h s v)) (by omega) (tf_lt _)) mi_X9_follow wl_X9_45 rfl hl.1 rfl (Nat.le_of_ble_eq_true rfl) dX9_carryOn_47 ⟨by decide, by decide⟩ ⟨Nat.le_refl 0, Nat.le_refl 0⟩) hM sgA (fun r_47 σ_47 H locs hp_47 hM => ?_)
                obtain ⟨hr_47, hs_47⟩ := hp_47; subst r_47; subst σ_47
                refine lv_istore (lv' := [(5, .int (nI (tt m g h s S v))), (0, .ref (b + 128)), (1, .ref (b + 2)), (2, .int (nI S)), (3, .int (nI s)), (4, .int (nI v))]) hx hb dX9_carryOn_50 hl (by decide) rfl (fun ls hl => ?_)
                refine lv_iload hx hb dX9_carryOn_52 (lv_at hl 0 rfl) ?_
                refine sn_if_ne (tgt := 59) hx hb dX9_carryOn_54 (by decide) (by have : tt m g h s S v < 2 ^ 2 ^ m := fo_lt _ _ _ _ _; omega) (fun c_54 => ?_) (fun c_54 => ?_)
                · refine lv_aload_n hx hb dX9_carryOn_59 rfl (lv_at hl 1 rfl) ?_
                  refine lv_iload hx hb dX9_carryOn_60 (lv_at hl 0 rfl) ?_
                  refine lv_aload_n hx hb dX9_carryOn_62 rfl (lv_at hl 2 rfl) ?_
                  refine lv_iload_n hx hb dX9_carryOn_63 rfl (lv_at hl 4 rfl) ?_
                  refine lv_iload hx hb dX9_carryOn_64 (lv_at hl 5 rfl) ?_
                  refine sg_ci (sg_runV (d := 1) (As := [.int (nI s), .int (nI v)]) (rest := [.int (nI (tt m g h s S v)), .ref (b + 128)]) hx hb hml hts hown hK hM (c_Code_next l G b σ2 2 m g h s v kc_2 (hc.keep (b5 2 (by decide) (by decide))) (hlv) (hls)) mi_X0_stateAfter wl_X9_49 (sh2 kc_2) (kd_lt kc_2 (by decide)) rfl rfl rfl hl.1 rfl (Nat.le_of_ble_eq_true rfl) dX9_carryOn_66 ⟨by decide, by decide⟩ ⟨Nat.le_refl 0, Nat.le_refl 0⟩) hM sgA (fun r_66 σ_66 H locs hp_66 hM => ?_)
                  obtain ⟨hr_66, hs_66⟩ := hp_66; subst r_66; subst σ_66
                  refine sg_cv (sg_runV (d := 0) (As := [.int (nI (tt m g h s S v)), .int (nI (nx m s v))]) (rest := []) hx hb hml hts hown hK hM (c_Tu_mark l G b σ2 (tt m g h s S v) (nx m s v) (by have : tt m g h s S v < 2 ^ 2 ^ m := fo_lt _ _ _ _ _; omega) (by omega) rv g2 b1) mi_X9_mark wl_X9_52 (sh16 kc_128) (kd_lt kc_128 (by decide)) rfl rfl rfl hl.1 rfl (Nat.le_of_ble_eq_true rfl) dX9_carryOn_69 ⟨by decide, by decide⟩ ⟨Nat.le_refl 0, Nat.le_refl 0⟩) hM sgA (fun σ3 H locs hq hM => ?_)
                  obtain ⟨rw2, g3, k1, k2, k3, k4, k5⟩ := hq
                  refine lv_iinc (v := nI (v + 1)) (lv' := [(4, .int (nI (v + 1))), (5, .int (nI (tt m g h s S v))), (0, .ref (b + 128)), (1, .ref (b + 2)), (2, .int (nI S)), (3, .int (nI s))]) hx hb dX9_carryOn_72 hl (k := 5) rfl (q_inc _) (by decide) rfl (fun ls hl => ?_)
                  refine lv_goto (tgt := 29) hx hb dX9_carryOn_75 (by decide) ?_
                  exact ih29 (v + 1) σ3 rw2 g3 (by omega) k1 (b2.tr k2) (Cy_one b3 hlv k2 c_54 k3) (k4.elim Or.inl (fun q => b4.elim (fun z => Or.inl (q.1.trans z)) (fun z => Or.inr ⟨q.1.trans z.1, q.2.trans z.2⟩))) (fun c q1 q2 => by rw [k5 c q1 q2]; exact b5 c q1 q2) (by omega) _ _ _ hM (lv_sub hl [2, 3, 4, 5, 0] rfl)
                · refine lv_iconst (v := nI 0) hx hb dX9_carryOn_57 (by decide) ?_
                  exact hret _ _ (false) _ _ _ _ dX9_carryOn_58 hM (rfl) (⟨false, rv, g2, rfl, b1, b2, fun q => absurd q (by decide), b4, b5⟩)
          exact L29 (_ + 1) 0 σ1 ru g1 (by omega) a1 a2 a3 a4 a5 (Nat.lt_succ_self _) _ _ _ hM (lv_sub hl [1, 2, 3, 4, 0] rfl)
        · refine lv_goto (tgt := 78) hx hb dX9_carryOn_23 (by decide) ?_
          refine lv_iinc (v := nI (s + 1)) (lv' := [(3, .int (nI (s + 1))), (0, .ref (b + 128)), (1, .ref (b + 2)), (2, .int (nI S))]) hx hb dX9_carryOn_78 hl (k := 3) rfl (q_inc _) (by decide) rfl (fun ls hl => ?_)
          refine lv_goto (tgt := 2) hx hb dX9_carryOn_81 (by decide) ?_
          exact ih2 (s + 1) σ1 ru g1 (by omega) a1 a2 (Cy_skip a3 a2 (by omega)) a4 a5 (by omega) _ _ _ hM (lv_sub hl [1, 2, 3, 0] rfl)
  exact L2 (_ + 1) 0 σ rt gr (Nat.zero_le _) hT (Gw.rf _) Cy_0 (Or.inr ⟨rfl, rfl⟩) (fun _ _ _ => rfl) (Nat.lt_succ_self _) _ _ _ hM (lv_sub hl [1, 2, 3, 0] rfl)
theorem tr_0 {σ : Mem} {m : Nat} (hm : m ≤ 3) (hz : ∀ j, j < 256 → σ 129 j = nI 0) : ∀ i, i < 256 → m2 σ 129 (2 ^ 2 ^ m - 1) (nI (2 ^ 2 ^ m - 1)) 129 i = nI (fu (fun _ => 0) (2 ^ 2 ^ m - 1) (2 ^ 2 ^ m - 1) i) ∧ fu (fun _ => 0) (2 ^ 2 ^ m - 1) (2 ^ 2 ^ m - 1) i < 256 := by
  have := pp_le hm
  have := pp_pos m
  intro i hi
  by_cases e : i = 2 ^ 2 ^ m - 1
  · rw [e, m2_ss, fu_s]; exact ⟨rfl, by omega⟩
  · rw [m2_sn e, fu_n _ e]; exact ⟨hz i hi, by decide⟩
set_option maxHeartbeats 4000000 in
set_option maxRecDepth 100000 in
theorem c_Tu_holds (l : Launch) (G : GT) (b : Nat) (σ : Mem) (m g h : Nat) (hc : CodeAt σ 2 m g h) (hk : cOK m g h) : KZ l G b yX9_holdsFor cX9_holdsFor 5 4 σ [.ref (b + 128), .ref (b + 2)] (fun r σ' => r = bz false ∧ ∀ c, c < 128 ∨ 130 ≤ c → σ' c = σ c) := by
  refine sg_metZ [.ref (b + 128), .ref (b + 2)] (by decide) (Nat.le_of_ble_eq_true rfl) ?_
  intro vp ve vs vm args below meth vc ls Q hx hb hml hown hts hK hM hl hret
  have hl : lv_has ls 5 [(0, .ref (b + 128)), (1, .ref (b + 2))] := hl
  have hm8 := p2_le hc.m
  have hpp := pp_le hc.m
  have hp2 := pp_pos m
  refine lv_iconst (v := nI 1) hx hb dX9_holdsFor_0 (by decide) ?_
  refine lv_aload_n hx hb dX9_holdsFor_1 rfl (lv_at hl 1 rfl) ?_
  refine sg_ci (sg_runV (d := 0) (As := []) (rest := [.int (nI 1)]) hx hb hml hts hown hK hM (c_Code_states l G b σ 2 m g h kc_2 (hc)) mi_X0_states wl_X9_15 (sh2 kc_2) (kd_lt kc_2 (by decide)) rfl rfl rfl hl.1 rfl (Nat.le_of_ble_eq_true rfl) dX9_holdsFor_2 ⟨by decide, by decide⟩ ⟨Nat.le_refl 0, Nat.le_refl 0⟩) hM sgA (fun r_2 σ_2 H locs hp_2 hM => ?_)
  obtain ⟨hr_2, hs_2⟩ := hp_2; subst r_2; subst σ_2
  refine sn_ishl hx hb dX9_holdsFor_5 (by omega) (by rw [Nat.one_mul]; omega) ?_
  refine sn_top (y := nI (2 ^ 2 ^ m)) (by rw [Nat.one_mul]) ?_
  refine lv_iconst (v := nI 1) hx hb dX9_holdsFor_6 (by decide) ?_
  refine sn_isub hx hb dX9_holdsFor_7 (by omega) ?_
  refine lv_istore_n (lv' := [(2, .int (nI ((2 ^ 2 ^ m) - 1))), (0, .ref (b + 128)), (1, .ref (b + 2))]) hx hb dX9_holdsFor_8 rfl hl (by decide) rfl (fun ls hl => ?_)
  refine lv_aload_n hx hb dX9_holdsFor_9 rfl (lv_at hl 1 rfl) ?_
  refine sg_get (v := .ref (b + 129)) hx hb hts hown hK hM (sh16 kc_128) (kd_lt kc_128 (by decide)) rfl inX9 0 (by decide) wf_X9_11 rfl dX9_holdsFor_10 ?_
  refine lv_iconst (v := nI 0) hx hb dX9_holdsFor_13 (by decide) ?_
  refine sg_cv (sg_runS (d := 0) (As := [.ref (b + 129), .int (nI 0)]) (rest := []) hx hb hml hts hown hK hM (c_fill256 l G b σ 129 (nI 0) kc_129) mi_J7_fill_53178 wl_X9_21 rfl hl.1 rfl (Nat.le_of_ble_eq_true rfl) dX9_holdsFor_14 ⟨by decide, by decide⟩ ⟨Nat.le_refl 0, Nat.le_refl 0⟩) hM sgA (fun σ_14 H locs hp_14 hM => ?_)
  refine lv_aload_n hx hb dX9_holdsFor_17 rfl (lv_at hl 1 rfl) ?_
  refine sg_get (v := .ref (b + 129)) hx hb hts hown hK hM (sh16 kc_128) (kd_lt kc_128 (by decide)) rfl inX9 0 (by decide) wf_X9_11 rfl dX9_holdsFor_18 ?_
  refine lv_iload_n hx hb dX9_holdsFor_21 rfl (lv_at hl 0 rfl) ?_
  refine lv_iload_n hx hb dX9_holdsFor_22 rfl (lv_at hl 0 rfl) ?_
  refine sg_iast hx hb hK hM sgA (fun f => sh17 kc_129) (kd_lt kc_129 (by decide)) (i := (2 ^ 2 ^ m) - 1) (by omega) (by decide) dX9_holdsFor_23 (fun H locs hM => ?_)
  refine lv_aload_n hx hb dX9_holdsFor_24 rfl (lv_at hl 1 rfl) ?_
  refine lv_iconst (v := nI 1) hx hb dX9_holdsFor_25 (by decide) ?_
  refine sg_put (v := nI 1) (ty := .boolean) hx hb hts hown hK hM sgA (sh16 kc_128) (kd_lt kc_128 (by decide)) rfl inX9 tyX9 tyX9_ok nmX9 1 (by decide) wf_X9_27 rfl (by decide +kernel) rfl rfl (Nat.le_of_ble_eq_true rfl) (by rw [sh16 kc_128]; rfl) dX9_holdsFor_26 (fun H locs hM => ?_)
  refine lv_iconst (v := nI 0) hx hb dX9_holdsFor_29 (by decide) ?_
  refine lv_istore_n (lv' := [(3, .int (nI 0)), (2, .int (nI ((2 ^ 2 ^ m) - 1))), (0, .ref (b + 128)), (1, .ref (b + 2))]) hx hb dX9_holdsFor_30 rfl hl (by decide) rfl (fun ls hl => ?_)
  have L31 : ∀ (fuel : Nat) (r1 : Nat) (σ1 : Mem) (rt : Nat → Nat) (gr : Bool), (r1 < 4) → (Tr σ1 rt gr) → (Nb m g h r1) → (Mk m g h r1 rt) → (gr = true ∨ Cd m g h rt) → (∀ c, c ≠ 128 → c ≠ 129 → σ1 c = σ c) → (5 - r1) < fuel → ∀ (H : Heap) (locs : List Loc) (ls : Array Slot), St G (Fr b) b σ1 vs H locs → lv_has ls 5 [(0, .ref (b + 128)), (1, .ref (b + 2)), (2, .int (nI (2 ^ 2 ^ m - 1))), (3, .int (nI r1))] → W vp l ve (RM 4) vs vm args below meth vc H locs 0 0 Q (F0 vm 31 ls []) := by
    intro fuel
    induction fuel with
    | zero => intro r1 σ1 rt gr hr4 a1 a2 a3 a4 a5 hF; exact absurd hF (Nat.not_lt_zero _)
    | succ fuel ih31 =>
      intro r1 σ1 rt gr hr4 a1 a2 a3 a4 a5 hF H locs ls hM hl
      refine lv_aload_n hx hb dX9_holdsFor_31 rfl (lv_at hl 0 rfl) ?_
      refine sg_get (v := .int (σ1 128 1)) hx hb hts hown hK hM (sh16 kc_128) (kd_lt kc_128 (by decide)) rfl inX9 1 (by decide) wf_X9_27 rfl dX9_holdsFor_32 ?_
      refine sn_top (y := bz gr) (a1.2) ?_
      refine sn_ifz_eq (tgt := 93) hx hb dX9_holdsFor_35 (by decide) (fun c_35 => ?_) (fun c_35 => ?_)
      · exact (cl_no hk (fun s hs => a3 0 s _ (Nat.zero_le _) ⟨hs, rfl⟩) (a4.resolve_left (by rw [c_35]; decide))).elim
      · refine lv_iload_n hx hb dX9_holdsFor_38 rfl (lv_at hl 3 rfl) ?_
        refine lv_sipush (v := nI 2048) hx hb dX9_holdsFor_39 (by decide) ?_
        refine sn_icmp_gt (tgt := 93) hx hb dX9_holdsFor_42 (by decide) (by omega) (by omega) (fun c_42 => ?_) (fun c_42 => ?_)
        · exact absurd c_42 (by omega)
        · refine lv_aload_n hx hb dX9_holdsFor_45 rfl (lv_at hl 0 rfl) ?_
          refine lv_iconst (v := nI 0) hx hb dX9_holdsFor_46 (by decide) ?_
          refine sg_put (v := nI 0) (ty := .boolean) hx hb hts hown hK hM sgA (sh16 kc_128) (kd_lt kc_128 (by decide)) rfl inX9 tyX9 tyX9_ok nmX9 1 (by decide) wf_X9_27 rfl (by decide +kernel) rfl rfl (Nat.le_of_ble_eq_true rfl) (by rw [sh16 kc_128]; rfl) dX9_holdsFor_47 (fun H locs hM => ?_)
          refine lv_iconst (v := nI 1) hx hb dX9_holdsFor_50 (by decide) ?_
          refine lv_istore (lv' := [(4, .int (nI 1)), (0, .ref (b + 128)), (1, .ref (b + 2)), (2, .int (nI (2 ^ 2 ^ m - 1))), (3, .int (nI r1))]) hx hb dX9_holdsFor_51 hl (by decide) rfl (fun ls hl => ?_)
          have L53 : ∀ (fuel : Nat) (S : Nat) (σ2 : Mem) (ru : Nat → Nat) (g2 : Bool), (1 ≤ S) → (S ≤ 2 ^ 2 ^ m) → (Tr σ2 ru g2) → (Gw rt ru) → (∀ S1, 1 ≤ S1 → S1 < S → Cy m g h S1 rt ru (2 * 2 ^ m)) → (g2 = true ∨ ru = rt) → (∀ c, c ≠ 128 → c ≠ 129 → σ2 c = σ c) → (2 ^ 2 ^ m - S) < fuel → ∀ (H : Heap) (locs : List Loc) (ls : Array Slot), St G (Fr b) b σ2 vs H locs → lv_has ls 5 [(0, .ref (b + 128)), (1, .ref (b + 2)), (2, .int (nI (2 ^ 2 ^ m - 1))), (3, .int (nI r1)), (4, .int (nI S))] → W vp l ve (RM 4) vs vm args below meth vc H locs 0 0 Q (F0 vm 53 ls []) := by
            intro fuel
            induction fuel with
            | zero => intro S σ2 ru g2 hS1 hS b1 b2 b3 b4 b5 hF; exact absurd hF (Nat.not_lt_zero _)
            | succ fuel ih53 =>
              intro S σ2 ru g2 hS1 hS b1 b2 b3 b4 b5 hF H locs ls hM hl
              refine lv_iload hx hb dX9_holdsFor_53 (lv_at hl 4 rfl) ?_
              refine lv_iload_n hx hb dX9_holdsFor_55 rfl (lv_at hl 2 rfl) ?_
              refine sn_icmp_gt (tgt := 87) hx hb dX9_holdsFor_56 (by decide) (by omega) (by omega) (fun c_56 => ?_) (fun c_56 => ?_)
              · refine lv_iinc (v := nI (r1 + 1)) (lv' := [(3, .int (nI (r1 + 1))), (0, .ref (b + 128)), (1, .ref (b + 2)), (2, .int (nI (2 ^ 2 ^ m - 1))), (4, .int (nI S))]) hx hb dX9_holdsFor_87 hl (k := 3) rfl (q_inc _) (by decide) rfl (fun ls hl => ?_)
                refine lv_goto (tgt := 31) hx hb dX9_holdsFor_90 (by decide) ?_
                exact ih31 (r1 + 1) σ2 ru g2 (Nat.lt_of_not_le (fun q => nb_no hk q (rd_nb a2 a3 (fun S q1 q2 => b3 S q1 (by omega))))) b1 (rd_nb a2 a3 (fun S q1 q2 => b3 S q1 (by omega))) (rd_mk a2 a3 b2 (fun S q1 q2 => b3 S q1 (by omega))) (b4.elim Or.inl (fun q => Or.inr (by rw [q]; exact rd_cd (fun S q1 q2 => by have := b3 S q1 (by omega); rw [q] at this; exact this)))) b5 (by omega) _ _ _ hM (lv_sub hl [1, 2, 3, 0] rfl)
              · refine lv_aload_n hx hb dX9_holdsFor_59 rfl (lv_at hl 0 rfl) ?_
                refine sg_get (v := .ref (b + 129)) hx hb hts hown hK hM (sh16 kc_128) (kd_lt kc_128 (by decide)) rfl inX9 0 (by decide) wf_X9_11 rfl dX9_holdsFor_60 ?_
                refine lv_iload hx hb dX9_holdsFor_63 (lv_at hl 4 rfl) ?_
                refine sg_iald hx hb hK hM (sh17 kc_129) (kd_lt kc_129 (by decide)) (i := S) (by omega) (by decide) dX9_holdsFor_65 ?_
                refine sn_top (y := nI (ru S)) ((b1.1 S (by omega)).1) ?_
                refine sn_if_eq (tgt := 81) hx hb dX9_holdsFor_66 (by decide) (by have := (b1.1 S (by omega)).2; omega) (fun c_66 => ?_) (fun c_66 => ?_)
                · refine lv_iinc (v := nI (S + 1)) (lv' := [(4, .int (nI (S + 1))), (0, .ref (b + 128)), (1, .ref (b + 2)), (2, .int (nI (2 ^ 2 ^ m - 1))), (3, .int (nI r1))]) hx hb dX9_holdsFor_81 hl (k := 4) rfl (q_inc _) (by decide) rfl (fun ls hl => ?_)
                  refine lv_goto (tgt := 53) hx hb dX9_holdsFor_84 (by decide) ?_
                  exact ih53 (S + 1) σ2 ru g2 (by omega) (by omega) b1 b2 (fun S1 q1 q2 => if e1 : S1 = S then (by subst e1; exact Cy_none b2 c_66) else b3 S1 q1 (by omega)) b4 b5 (by omega) _ _ _ hM (lv_sub hl [1, 2, 3, 4, 0] rfl)
                · refine lv_aload_n hx hb dX9_holdsFor_69 rfl (lv_at hl 0 rfl) ?_
                  refine lv_aload_n hx hb dX9_holdsFor_70 rfl (lv_at hl 1 rfl) ?_
                  refine lv_iload hx hb dX9_holdsFor_71 (lv_at hl 4 rfl) ?_
                  refine sg_ci (sg_runV (d := 3) (As := [.ref (b + 2), .int (nI S)]) (rest := []) hx hb hml hts hown hK hM (c_Tu_carry l G b σ2 m g h (hc.keep (b5 2 (by decide) (by decide))) S (by omega) ru g2 b1) mi_X9_carryOn wl_X9_31 (sh16 kc_128) (kd_lt kc_128 (by decide)) rfl rfl rfl hl.1 rfl (Nat.le_of_ble_eq_true rfl) dX9_holdsFor_73 ⟨by decide, by decide⟩ ⟨Nat.le_refl 0, Nat.le_refl 0⟩) hM sgA (fun r2 σ3 H locs hq hM => ?_)
                  obtain ⟨z, rv, g3, k1, k2, k3, k4, k5, k6⟩ := hq
                  subst k1
                  refine sn_ifz_ne (tgt := 81) hx hb dX9_holdsFor_76 (by decide) (fun c_76 => ?_) (fun c_76 => ?_)
                  · refine lv_iinc (v := nI (S + 1)) (lv' := [(4, .int (nI (S + 1))), (0, .ref (b + 128)), (1, .ref (b + 2)), (2, .int (nI (2 ^ 2 ^ m - 1))), (3, .int (nI r1))]) hx hb dX9_holdsFor_81 hl (k := 4) rfl (q_inc _) (by decide) rfl (fun ls hl => ?_)
                    refine lv_goto (tgt := 53) hx hb dX9_holdsFor_84 (by decide) ?_
                    exact ih53 (S + 1) σ3 rv g3 (by omega) (by omega) k2 (b2.tr k3) (fun S1 q1 q2 => if e1 : S1 = S then (by subst e1; exact fun s u x1 x2 x3 x4 => k4 c_76 s u x1 x2 x3 (b2 _ _ x4)) else (b3 S1 q1 (by omega)).up k3) (k5.elim Or.inl (fun q => b4.elim (fun z => Or.inl (q.1.trans z)) (fun z => Or.inr (q.2.trans z)))) (fun c q1 q2 => by rw [k6 c q1 q2]; exact b5 c q1 q2) (by omega) _ _ _ hM (lv_sub hl [1, 2, 3, 4, 0] rfl)
                  · refine lv_iconst (v := nI 0) hx hb dX9_holdsFor_79 (by decide) ?_
                    exact hret _ _ (false) _ _ _ _ dX9_holdsFor_80 hM (rfl) (⟨rfl, fun c q => by rw [k6 c (by omega) (by omega)]; exact b5 c (by omega) (by omega)⟩)
          exact L53 (_ + 1) 1 (m2 σ1 128 1 (nI 0)) rt false (by decide) (by omega) (⟨fun i hi => by rw [m2_o (by decide)]; exact a1.1 i hi, m2_ss⟩) (Gw.rf _) (fun S1 q1 q2 => absurd q1 (by omega)) (Or.inr rfl) (fun c q1 q2 => by rw [m2_o q1]; exact a5 c q1 q2) (Nat.lt_succ_self _) _ _ _ hM (lv_sub hl [1, 2, 3, 4, 0] rfl)
  exact L31 (_ + 1) 0 (m2 (m2 σ_14 129 ((2 ^ 2 ^ m) - 1) (nI ((2 ^ 2 ^ m) - 1))) 128 1 (nI 1)) (fu (fun _ => 0) (2 ^ 2 ^ m - 1) (2 ^ 2 ^ m - 1)) true (by decide) (⟨fun i hi => by rw [m2_o (by decide)]; exact tr_0 hc.m hp_14.1 i hi, m2_ss⟩) (fun d s S q => absurd q (by omega)) (mk_0 m g h) (Or.inl rfl) (fun c q1 q2 => by rw [m2_o q1, m2_o q2]; exact hp_14.2 c q2) (Nat.lt_succ_self _) _ _ _ hM (lv_sub hl [2, 3, 1, 0] rfl)
end
section
/-! WHAT EACH CALL ANSWERS AND DOES -/
def inR (x lo hi : Int32) : Bool := decide (lo ≤ x ∧ x ≤ hi)
theorem inR_t {x lo hi : Int32} (h1 : ¬ x < lo) (h2 : x ≤ hi) : inR x lo hi = true := decide_eq_true ⟨Int32.not_lt.mp h1, h2⟩
theorem inR_f1 {x lo hi : Int32} (h1 : x < lo) : inR x lo hi = false := decide_eq_false (fun q => Int32.not_lt.mpr q.1 h1)
theorem inR_f2 {x lo hi : Int32} (h1 : ¬ x ≤ hi) : inR x lo hi = false := decide_eq_false (fun q => h1 q.2)
theorem inR_nat {x : Int32} {k : Nat} (hk : k < 2 ^ 31) (h : inR x (nI 0) (nI k) = true) : ∃ u, u ≤ k ∧ x = nI u := by
  have q := of_decide_eq_true h
  refine nI_of2 (M := nI k) (nI_toInt hk) (fun z => ?_) q.2
  exact Int32.not_lt.mpr q.1 z
theorem inR_nat1 {x : Int32} {k : Nat} (hk : k < 2 ^ 31) (h : inR x (nI 1) (nI k) = true) : ∃ u, 1 ≤ u ∧ u ≤ k ∧ x = nI u := by
  have q := of_decide_eq_true h
  obtain ⟨u, hu, e⟩ := nI_of2 (x := x) (M := nI k) (nI_toInt hk) (fun z => absurd (Int32.lt_of_le_of_lt q.1 z) (by decide)) q.2
  refine ⟨u, ?_, hu, e⟩
  have q1 := q.1
  rw [e] at q1
  exact (nI_leI (by decide) (by omega)).mp q1
theorem inR_n {a lo hi : Nat} (ha : a < 2 ^ 31) (hl : lo < 2 ^ 31) (hh : hi < 2 ^ 31) : inR (nI a) (nI lo) (nI hi) = decide (lo ≤ a ∧ a ≤ hi) := by
  unfold inR
  rw [decide_eq_decide, nI_leI hl ha, nI_leI ha hh]
/-- a step that there is, of n -/
def ixB (x : Int32) (n : Nat) : Bool := inR x (nI 0) (nI n - nI 1)
theorem ixB_t {x : Int32} {n : Nat} (hn : n < 2 ^ 30) (h : ixB x n = true) : ∃ k, k < n ∧ x = nI k := by
  unfold ixB at h
  rcases Nat.eq_zero_or_pos n with e | e
  · subst e
    have q := of_decide_eq_true h
    exact absurd (Int32.le_trans q.1 q.2) (by decide)
  · rw [pk_sub (show 1 ≤ n from e)] at h
    obtain ⟨u, hu, e1⟩ := inR_nat (by omega) h
    exact ⟨u, by omega, e1⟩
theorem ixB_n {k n : Nat} (hk : k < n) (hn : n < 2 ^ 30) : ixB (nI k) n = true := by
  unfold ixB
  rw [pk_sub (show 1 ≤ n by omega), inR_n (by omega) (by omega) (by omega)]
  exact decide_eq_true ⟨by omega, by omega⟩
/-- a state that there is -/
def stB (x : Int32) (m : Nat) : Bool := inR x (nI 0) (nI (2 ^ m - 1))
theorem stB_t {x : Int32} {m : Nat} (hm : m ≤ 3) (h : stB x m = true) : ∃ s, s < 2 ^ m ∧ x = nI s := by
  have h1 := p2_le hm
  have h2 := p2_pos m
  obtain ⟨u, hu, e⟩ := inR_nat (by omega) h
  exact ⟨u, by omega, e⟩
/-- one of several, by its number -/
def swp (what : Int32) (l : List Int32) (d : Int32) : Int32 := if 0 ≤ what.toInt ∧ what.toInt < l.length then l.getD what.toInt.toNat d else d
theorem swp_in {l : List Int32} {d : Int32} (j : Nat) (hj : j < l.length) (hl : l.length < 1000) : swp (nI j) l d = l.getD j d := by
  unfold swp
  rw [nI_toInt (by omega), if_pos ⟨by omega, by omega⟩]
  rfl
theorem swp_out {what : Int32} {l : List Int32} {d : Int32} {hi : Nat} (h : what.toInt < 0 ∨ (hi : Int) < what.toInt) (hl : l.length = hi + 1) : swp what l d = d := by
  unfold swp
  rw [if_neg (by omega)]
abbrev World : Type := Rec × Nat × (Nat → Rec) × (Nat → Rec) × (Nat → Bool)
def ICw (σ : Mem) (w : World) : Prop := IC σ w.1 w.2.1 w.2.2.1 w.2.2.2.1 w.2.2.2.2
/-- what is so is kept for undo(), another is so now -/
def psh (w : World) (B : Rec) : World := (B, phN w.2.1, phP w.2.1 w.2.2.1 w.1, w.2.2.2)
def cokB (x y z : Int32) : Bool := inR x (nI 1) (nI 3) && (inR y (nI 1) (nI (2 * 2 ^ x.toNatClampNeg - 1)) && inR z (nI 1) (nI (2 * 2 ^ x.toNatClampNeg - 1)))
theorem cokB_n {m : Nat} (h : 1 ≤ m ∧ m ≤ 3) (y z : Int32) : cokB (nI m) y z = (inR y (nI 1) (nI (2 * 2 ^ m - 1)) && inR z (nI 1) (nI (2 * 2 ^ m - 1))) := by
  unfold cokB
  rw [nI_clamp (by omega), inR_n (by omega) (by omega) (by omega), decide_eq_true h, Bool.true_and]
def cleared (A : Rec) : Rec := (A.1, (0, A.2.1.2), (0, A.2.2.2))
def coded (A : Rec) (m g h : Nat) : Rec := ((m, g, h, (-1)), (0, A.2.1.2), (0, A.2.2.2))
def sentR (A : Rec) (u w : Nat) : Rec := (A.1, (rS A + 1, fu (rU A) (rS A) u, fu (rW A) (rS A) w), A.2.2)
def heardR (A : Rec) (x y : Int32) : Rec := (A.1, A.2.1, (rN A + 1, upd (rX A) (rN A) x, upd (rY A) (rN A) y))
def endedR (A : Rec) (e : Int32) : Rec := ((rM A, rG A, rH A, e), A.2)
def S_code (w : World) (x y z : Int32) : Int32 × World := if cokB x y z then (nI (2 ^ x.toNatClampNeg), psh w (coded w.1 x.toNatClampNeg y.toNatClampNeg z.toNatClampNeg)) else ((-1000000002), w)
def S_send (w : World) (x y : Int32) : Int32 × World := if inR x (nI 0) (nI 1) && inR y (nI 0) (nI 3) then (if rS w.1 = 24 then ((-1000000004), w) else (nI (ptS (sentR w.1 x.toNatClampNeg y.toNatClampNeg) (rS w.1)), psh w (sentR w.1 x.toNatClampNeg y.toNatClampNeg))) else ((-1000000002), w)
def S_hear (w : World) (x y : Int32) : Int32 × World := if inR x (-99) (nI 99) && inR y (-99) (nI 99) then (if rN w.1 = 24 then ((-1000000004), w) else (nI (rN w.1 + 1), psh w (heardR w.1 x y))) else ((-1000000002), w)
/-- lots -/
def lt1 (x : Nat) : Nat := x * 16807 % 2147483647
def drR (A : Rec) (x : Nat) : Rec := heardR (sentR A (lt1 x % 2) (lt1 (lt1 x) % 4)) (gx (ptS (sentR A (lt1 x % 2) (lt1 (lt1 x) % 4)) (rS A)) + nI (lt1 (lt1 (lt1 x)) % 25) - nI 12) (gy (ptS (sentR A (lt1 x % 2) (lt1 (lt1 x) % 4)) (rS A)) + nI (lt1 (lt1 (lt1 (lt1 x))) % 25) - nI 12)
def dr : Nat → Rec → Nat → Nat × Rec
  | 0, A, _ => (0, A)
  | k + 1, A, x => if rS A < 24 ∧ rN A < 24 then ((dr k (drR A x) (lt1 (lt1 (lt1 (lt1 x))))).1 + 1, (dr k (drR A x) (lt1 (lt1 (lt1 (lt1 x))))).2) else (0, A)
def S_drift (w : World) (x y : Int32) : Int32 × World := if inR x (nI 1) (nI 24) && inR y (nI 1) (nI 999999) then (nI (dr x.toNatClampNeg w.1 y.toNatClampNeg).1, psh w (dr x.toNatClampNeg w.1 y.toNatClampNeg).2) else ((-1000000002), w)
def S_wipe (w : World) : Int32 × World := (nI (rS w.1 + rN w.1), psh w (cleared w.1))
def S_end (w : World) (x : Int32) : Int32 × World := if x = (-1) ∨ stB x (rM w.1) = true then (rE w.1, psh w (endedR w.1 x)) else ((-1000000001), w)
def S_undo (w : World) : Int32 × World := if w.2.1 = 0 then ((-1000000003), w) else (nI (w.2.1 - 1), (w.2.2.1 (w.2.1 - 1), w.2.1 - 1, w.2.2))
def uR {α : Type} (f : Nat → α) (k : Nat) (v : α) : Nat → α := fun j => if j = k then v else f j
def S_keep (w : World) (x : Int32) : Int32 × World := if inR x (nI 0) (nI 1) then (nI (rN w.1), (w.1, 0, w.2.2.1, uR w.2.2.2.1 x.toNatClampNeg w.1, uR w.2.2.2.2 x.toNatClampNeg true)) else ((-1000000001), w)
def S_goBack (w : World) (x : Int32) : Int32 × World := if inR x (nI 0) (nI 1) then (if w.2.2.2.2 x.toNatClampNeg = true then (nI (rN (w.2.2.2.1 x.toNatClampNeg)), (w.2.2.2.1 x.toNatClampNeg, 0, w.2.2)) else ((-1000000003), w)) else ((-1000000001), w)
abbrev dE (A : Rec) : Nat := dA A (rN A) (rE A) (rN A) 0
def unN (A : Rec) : Nat → Nat
  | 0 => 0
  | k + 1 => unN A k + (if ptS A k = pA A (rN A) (rE A) k then 0 else 1)
def unA (A : Rec) : Nat := if dE A < NV then unN A (min (rS A) (rN A)) else 0
def sgA' (A : Rec) : Nat := if dE A < NV ∧ rN A ≠ 0 then 2 * rN A + (rN A - 1) / 4 else 0
noncomputable def F_told (A : Rec) (n : Nat) (what : Int32) : Int32 := swp what [nI (rM A), nI (rG A), nI (rH A), nI (2 ^ rM A), nI (rS A), nI (rN A), nI (stS A (rS A)), rE A, nI (dE A), nI (unA A), nI (freeV (rM A) (rG A) (rH A)), nI 0, nI (sgA' A), nI n] (-1000000002)
def F_point (x what : Int32) : Int32 := if inR x (nI 0) (nI 15) then swp what [gx x.toNatClampNeg, gy x.toNatClampNeg, nI (gf x.toNatClampNeg), nI (grk x.toNatClampNeg), nI (tn x.toNatClampNeg)] (-1000000002) else (-1000000001)
def F_member (x y : Int32) : Int32 := if inR x (nI 0) (nI 3) then (if inR y (nI 0) (nI 3) then nI (pt x.toNatClampNeg y.toNatClampNeg) else (-1000000002)) else (-1000000001)
def F_apart (x y : Int32) : Int32 := if inR x (nI 0) (nI 3) && inR y (nI 0) (nI 3) then nI (gap x.toNatClampNeg y.toNatClampNeg) else (-1000000001)
def F_distance (x y : Int32) : Int32 := if inR x (nI 0) (nI 15) && (inR y (nI 0) (nI 15) && decide (x ≠ y)) then far x.toNatClampNeg (gx y.toNatClampNeg) (gy y.toNatClampNeg) else (-1000000001)
def F_turned (x : Int32) : Int32 := if inR x (nI 0) (nI 3) then nI (tf x.toNatClampNeg) else (-1000000001)
def F_next (A : Rec) (x y what : Int32) : Int32 := if stB x (rM A) then (if inR y (nI 0) (nI 1) then swp what [nI (fam (rM A) (rG A) (rH A) x.toNatClampNeg y.toNatClampNeg), nI (nx (rM A) x.toNatClampNeg y.toNatClampNeg)] (-1000000002) else (-1000000002)) else (-1000000001)
def F_sent (A : Rec) (x what : Int32) : Int32 := if ixB x (rS A) then swp what [nI (rU A x.toNatClampNeg), nI (rW A x.toNatClampNeg), nI (ptS A x.toNatClampNeg), nI (stS A (x.toNatClampNeg + 1))] (-1000000002) else (-1000000001)
def F_heard (A : Rec) (x what : Int32) : Int32 := if ixB x (rN A) then swp what [rX A x.toNatClampNeg, rY A x.toNatClampNeg, nI (pa (rX A x.toNatClampNeg) (rY A x.toNatClampNeg) 16)] (-1000000002) else (-1000000001)
def F_nearest (A : Rec) (x what : Int32) : Int32 := if ixB x (rN A) then (if inR what (nI 0) (nI 3) then (if dE A < NV then swp what [nI (uA A (rN A) (rE A) x.toNatClampNeg), nI (wA A (rN A) (rE A) x.toNatClampNeg), nI (pA A (rN A) (rE A) x.toNatClampNeg), nI (sA A (rN A) (rE A) (x.toNatClampNeg + 1))] (-1000000002) else (-1)) else (-1000000002)) else (-1000000001)
def F_ahead (A : Rec) (x y : Int32) : Int32 := if stB y (rM A) then (if inR x (nI 0) (nI (rN A)) then nI (dA A x.toNatClampNeg y x.toNatClampNeg 0) else (-1000000002)) else (-1000000001)
def F_decided (A : Rec) (x y : Int32) : Int32 := if ixB x (rN A) then (if inR y (nI 0) (nI 23) then (if x.toNatClampNeg + y.toNatClampNeg + 1 ≤ rN A then nI (pA A (x.toNatClampNeg + y.toNatClampNeg + 1) (-1) x.toNatClampNeg) else (-1)) else (-1000000002)) else (-1000000001)
def csN (A : Rec) : Nat → Int32
  | 0 => nI 0
  | k + 1 => csN A k + far (ptS A k) (rX A k) (rY A k)
def F_cost (A : Rec) : Int32 := csN A (min (rS A) (rN A))
def sgV (A : Rec) (i : Nat) : Nat := if i % 9 = 8 then 45 else if i % 9 % 2 = 0 then 65 + gf (pA A (rN A) (rE A) (i / 9 * 4 + i % 9 / 2)) else 48 + wA A (rN A) (rE A) (i / 9 * 4 + i % 9 / 2)
def F_sign (A : Rec) (x : Int32) : Int32 := if x < 0 then (-1000000002) else if sgA' A ≤ x.toNatClampNeg then (-1) else nI (sgV A x.toNatClampNeg)
theorem dp_none {m g h : Nat} {tc : Nat → Nat → Nat} {n : Nat} (hn : n ≤ 24) (ht : ∀ k, k < n → ∀ f, f < 4 → tc k f ≤ 40000) : ∀ j, j ≤ n → ∀ s, dp m g h tc n (-1) j s ≤ 40000 * j
  | 0, _, s => by
    unfold dp
    rw [if_pos (Or.inl rfl)]
    omega
  | j + 1, hj, s => by
    have hNV : NV = 99999999 := rfl
    have h0 := dp_none (m := m) (g := g) (h := h) hn ht j (by omega) (nx m s 0)
    have t0 := ht (n - 1 - j) (by omega) _ (fam_lt m g h s 0)
    rw [dp_s]
    refine Nat.le_trans (Nat.min_le_left _ _) ?_
    unfold stp
    rw [if_neg (by omega)]
    omega
theorem dA_none {A : Rec} (hR : ROk A) {n : Nat} (hn : n ≤ rN A) : dA A n (-1) n 0 < NV := by
  have h : dA A n (-1) n 0 ≤ 40000 * n := dp_none (m := rM A) (g := rG A) (h := rH A) (tc := tcA A) (n := n) (by have := hR.2.1.2; omega) (fun k hk f hf => tcA_le hR k (by omega) f hf) n (Nat.le_refl _) 0
  have := hR.2.1.2
  show _ < 99999999
  omega
end
section
/-! steps of the calls' words -/
theorem inR_ge {x : Int32} {k : Nat} (hk : k < 2 ^ 30) (h : nI (k + 1) ≤ x) : inR x (nI 0) (nI k) = false := by
  apply inR_f2
  intro q
  have a := Int32.le_iff_toInt_le.mp h
  have b := Int32.le_iff_toInt_le.mp q
  rw [nI_toInt (by omega)] at a b
  omega
theorem inR_ok {x : Int32} {k : Nat} (hk : k < 2 ^ 30) (h0 : ¬ x < 0) (h : ¬ nI (k + 1) ≤ x) : inR x (nI 0) (nI k) = true := by
  refine inR_t h0 ?_
  have a := Int32.lt_iff_toInt_lt.mp (Int32.not_le.mp h)
  apply Int32.le_iff_toInt_le.mpr
  rw [nI_toInt (by omega)] at a ⊢
  omega
theorem not_t {b : Bool} (h : (!b) = true) : b = false := by cases b <;> simp_all
theorem not_f {b : Bool} (h : (!b) = false) : b = true := by cases b <;> simp_all
theorem S_send_o1 {w : World} {x y : Int32} (h : inR x (nI 0) (nI 1) = false) : S_send w x y = ((-1000000002), w) := by unfold S_send; rw [h]; rfl
theorem S_send_o2 {w : World} {x y : Int32} (h : inR y (nI 0) (nI 3) = false) : S_send w x y = ((-1000000002), w) := by unfold S_send; rw [h, Bool.and_false]; rfl
theorem S_send_full {w : World} {u v : Nat} (hu : u < 2) (hv : v < 4) (h : rS w.1 = 24) : S_send w (nI u) (nI v) = ((-1000000004), w) := by
  unfold S_send
  rw [inR_n (by omega) (by omega) (by omega), inR_n (by omega) (by omega) (by omega), decide_eq_true (by omega), decide_eq_true (by omega), if_pos (by rfl), if_pos h]
theorem S_send_ok {w : World} {u v : Nat} (hu : u < 2) (hv : v < 4) (h : rS w.1 ≠ 24) : S_send w (nI u) (nI v) = (nI (ptS (sentR w.1 u v) (rS w.1)), psh w (sentR w.1 u v)) := by
  unfold S_send
  rw [inR_n (by omega) (by omega) (by omega), inR_n (by omega) (by omega) (by omega), decide_eq_true (by omega), decide_eq_true (by omega), if_pos (by rfl), if_neg h, nI_clamp (by omega), nI_clamp (by omega)]
theorem S_hear_o1 {w : World} {x y : Int32} (h : inR x (-99) (nI 99) = false) : S_hear w x y = ((-1000000002), w) := by unfold S_hear; rw [h]; rfl
theorem S_hear_o2 {w : World} {x y : Int32} (h : inR y (-99) (nI 99) = false) : S_hear w x y = ((-1000000002), w) := by unfold S_hear; rw [h, Bool.and_false]; rfl
theorem S_hear_full {w : World} {x y : Int32} (h1 : inR x (-99) (nI 99) = true) (h2 : inR y (-99) (nI 99) = true) (h : rN w.1 = 24) : S_hear w x y = ((-1000000004), w) := by unfold S_hear; rw [h1, h2, if_pos (by rfl), if_pos h]
theorem S_hear_ok {w : World} {x y : Int32} (h1 : inR x (-99) (nI 99) = true) (h2 : inR y (-99) (nI 99) = true) (h : rN w.1 ≠ 24) : S_hear w x y = (nI (rN w.1 + 1), psh w (heardR w.1 x y)) := by unfold S_hear; rw [h1, h2, if_pos (by rfl), if_neg h]
theorem inR_99 {x : Int32} (h : inR x (-99) (nI 99) = true) : -99 ≤ x.toInt ∧ x.toInt ≤ 99 := by
  have q := of_decide_eq_true h
  have a := Int32.le_iff_toInt_le.mp q.1
  have b := Int32.le_iff_toInt_le.mp q.2
  rw [nI_toInt (by omega)] at b
  exact ⟨a, b⟩
theorem S_code_o {w : World} {x y z : Int32} (h : cokB x y z = false) : S_code w x y z = ((-1000000002), w) := by unfold S_code; rw [h]; rfl
theorem cokB_o1 {x y z : Int32} (h : inR x (nI 1) (nI 3) = false) : cokB x y z = false := by unfold cokB; rw [h]; rfl
theorem cokB_o2 {m : Nat} {y z : Int32} (hm : 1 ≤ m ∧ m ≤ 3) (h : inR y (nI 1) (nI (2 * 2 ^ m - 1)) = false) : cokB (nI m) y z = false := by rw [cokB_n hm, h]; rfl
theorem cokB_o3 {m : Nat} {y z : Int32} (hm : 1 ≤ m ∧ m ≤ 3) (h : inR z (nI 1) (nI (2 * 2 ^ m - 1)) = false) : cokB (nI m) y z = false := by rw [cokB_n hm, h, Bool.and_false]
theorem S_code_ok {w : World} {m g h : Nat} (hc : cOK m g h) : S_code w (nI m) (nI g) (nI h) = (nI (2 ^ m), psh w (coded w.1 m g h)) := by
  have h1 := p2_le hc.1.2
  obtain ⟨hm, hg, hh⟩ := hc
  unfold S_code
  rw [cokB_n hm, inR_n (by omega) (by omega) (by omega), inR_n (by omega) (by omega) (by omega), decide_eq_true (by omega), decide_eq_true (by omega), if_pos (by rfl), nI_clamp (by omega), nI_clamp (by omega), nI_clamp (by omega)]
theorem S_drift_o1 {w : World} {x y : Int32} (h : inR x (nI 1) (nI 24) = false) : S_drift w x y = ((-1000000002), w) := by unfold S_drift; rw [h]; rfl
theorem S_drift_o2 {w : World} {x y : Int32} (h : inR y (nI 1) (nI 999999) = false) : S_drift w x y = ((-1000000002), w) := by unfold S_drift; rw [h, Bool.and_false]; rfl
theorem S_drift_ok {w : World} {k x : Nat} (hk : 1 ≤ k ∧ k ≤ 24) (hx : 1 ≤ x ∧ x ≤ 999999) : S_drift w (nI k) (nI x) = (nI (dr k w.1 x).1, psh w (dr k w.1 x).2) := by
  unfold S_drift
  rw [inR_n (by omega) (by omega) (by omega), inR_n (by omega) (by omega) (by omega), decide_eq_true (by omega), decide_eq_true (by omega), if_pos (by rfl), nI_clamp (by omega), nI_clamp (by omega)]
theorem S_keep_o {w : World} {x : Int32} (h : inR x (nI 0) (nI 1) = false) : S_keep w x = ((-1000000001), w) := by unfold S_keep; rw [h]; rfl
theorem S_keep_ok {w : World} {i : Nat} (hi : i < 2) : S_keep w (nI i) = (nI (rN w.1), (w.1, 0, w.2.2.1, uR w.2.2.2.1 i w.1, uR w.2.2.2.2 i true)) := by
  unfold S_keep
  rw [inR_n (by omega) (by omega) (by omega), decide_eq_true (by omega), if_pos (by rfl), nI_clamp (by omega)]
theorem S_goBack_o {w : World} {x : Int32} (h : inR x (nI 0) (nI 1) = false) : S_goBack w x = ((-1000000001), w) := by unfold S_goBack; rw [h]; rfl
theorem S_goBack_n {w : World} {i : Nat} (hi : i < 2) (h : w.2.2.2.2 i = false) : S_goBack w (nI i) = ((-1000000003), w) := by
  unfold S_goBack
  rw [inR_n (by omega) (by omega) (by omega), decide_eq_true (by omega), if_pos (by rfl), nI_clamp (by omega), if_neg (by rw [h]; decide)]
theorem S_goBack_ok {w : World} {i : Nat} (hi : i < 2) (h : w.2.2.2.2 i = true) : S_goBack w (nI i) = (nI (rN (w.2.2.2.1 i)), (w.2.2.2.1 i, 0, w.2.2)) := by
  unfold S_goBack
  rw [inR_n (by omega) (by omega) (by omega), decide_eq_true (by omega), if_pos (by rfl), nI_clamp (by omega), if_pos h]
theorem uR_s {α : Type} (f : Nat → α) (k : Nat) (v : α) : uR f k v k = v := by unfold uR; rw [if_pos rfl]
theorem uR_n {α : Type} (f : Nat → α) {k j : Nat} (v : α) (h : j ≠ k) : uR f k v j = f j := by unfold uR; rw [if_neg h]
/-! what was SENT with one more -/
theorem stS_sent {A : Rec} {u w : Nat} : ∀ k, k ≤ rS A → stS (sentR A u w) k = stS A k
  | 0, _ => rfl
  | k + 1, h => by
    show nx (rM A) (stS (sentR A u w) k) (fu (rU A) (rS A) u k) = nx (rM A) (stS A k) (rU A k)
    rw [stS_sent k (by omega), fu_n _ (by omega)]
theorem stS_sent' {A : Rec} {u w : Nat} : stS (sentR A u w) (rS A + 1) = nx (rM A) (stS A (rS A)) u := by
  show nx (rM A) (stS (sentR A u w) (rS A)) (fu (rU A) (rS A) u (rS A)) = _
  rw [stS_sent _ (Nat.le_refl _), fu_s]
theorem ptS_sent {A : Rec} {u w : Nat} {k : Nat} (h : k < rS A) : ptS (sentR A u w) k = ptS A k := by
  show pt (fam (rM A) (rG A) (rH A) (stS (sentR A u w) k) (fu (rU A) (rS A) u k)) (fu (rW A) (rS A) w k) = pt (fam (rM A) (rG A) (rH A) (stS A k) (rU A k)) (rW A k)
  rw [stS_sent k (by omega), fu_n _ (by omega), fu_n _ (by omega)]
theorem ptS_sent' {A : Rec} {u w : Nat} : ptS (sentR A u w) (rS A) = pt (fam (rM A) (rG A) (rH A) (stS A (rS A)) u) w := by
  show pt (fam (rM A) (rG A) (rH A) (stS (sentR A u w) (rS A)) (fu (rU A) (rS A) u (rS A))) (fu (rW A) (rS A) w (rS A)) = _
  rw [stS_sent _ (Nat.le_refl _), fu_s, fu_s]
theorem sent_ok {A : Rec} (h : ROk A) {u w : Nat} (hu : u < 2) (hw : w < 4) (hn : rS A < 24) : ROk (sentR A u w) := by
  obtain ⟨h1, h2, h3, h4, h5⟩ := h
  refine ⟨h1, ⟨by show rS A + 1 ≤ 24; omega, h2.2⟩, fun k hk => ?_, h4, h5⟩
  have hk : k < rS A + 1 := hk
  show fu (rU A) (rS A) u k < 2 ∧ fu (rW A) (rS A) w k < 4
  by_cases e : k = rS A
  · subst e; rw [fu_s, fu_s]; exact ⟨hu, hw⟩
  · rw [fu_n _ e, fu_n _ e]; exact h3 k (by omega)
theorem sent_CM {σ : Mem} {mo : Nat} {A : Rec} (h : CM σ mo A) (u w : Nat) : CM (rowApp σ (mo + 2) (rS A) u w (pt (fam (rM A) (rG A) (rH A) (stS A (rS A)) u) w) (nx (rM A) (stS A (rS A)) u)) mo (sentR A u w) := by
  obtain ⟨h1, h2, h3, h4, h5, h6⟩ := h
  unfold rowApp
  refine ⟨h1.keep (by rw [m2_o (by omega), m2_o (by omega), m2_o (by omega), m2_o (by omega), m2_o (by omega)]), ?_, m2_ss, fun k hk => ?_, ?_, fun k hk => ?_⟩
  · rw [m2_o (by omega), m2_o (by omega), m2_o (by omega), m2_o (by omega), m2_o (by omega)]; exact h2
  · have hk : k < rS A + 1 := hk
    by_cases e : k = rS A
    · subst e
      refine ⟨?_, ?_, ?_, ?_⟩
      · rw [m2_o (by omega), m2_o (by omega), m2_o (by omega), m2_o (by omega), m2_ss]; exact congrArg nI (fu_s _ _ _).symm
      · rw [m2_o (by omega), m2_o (by omega), m2_o (by omega), m2_ss]; exact congrArg nI (fu_s _ _ _).symm
      · rw [m2_o (by omega), m2_o (by omega), m2_ss, ptS_sent']
      · rw [m2_o (by omega), m2_ss, stS_sent']
    · have q := h4 k (by omega)
      refine ⟨?_, ?_, ?_, ?_⟩
      · rw [m2_o (by omega), m2_o (by omega), m2_o (by omega), m2_o (by omega), m2_sn e]; exact q.1.trans (congrArg nI (fu_n _ e).symm)
      · rw [m2_o (by omega), m2_o (by omega), m2_o (by omega), m2_sn e, m2_o (by omega)]; exact q.2.1.trans (congrArg nI (fu_n _ e).symm)
      · rw [m2_o (by omega), m2_o (by omega), m2_sn e, m2_o (by omega), m2_o (by omega), ptS_sent (by omega)]; exact q.2.2.1
      · rw [m2_o (by omega), m2_sn e, m2_o (by omega), m2_o (by omega), m2_o (by omega), stS_sent _ (by omega)]; exact q.2.2.2
  · rw [m2_o (by omega), m2_o (by omega), m2_o (by omega), m2_o (by omega), m2_o (by omega)]; exact h5
  · rw [m2_o (by omega), m2_o (by omega), m2_o (by omega), m2_o (by omega), m2_o (by omega), m2_o (by omega), m2_o (by omega), m2_o (by omega), m2_o (by omega), m2_o (by omega)]; exact h6 k hk
theorem heard_ok {A : Rec} (h : ROk A) {x y : Int32} (hx : hOK x y) (hn : rN A < 24) : ROk (heardR A x y) := by
  obtain ⟨h1, h2, h3, h4, h5⟩ := h
  refine ⟨h1, ⟨h2.1, by show rN A + 1 ≤ 24; omega⟩, h3, fun k hk => ?_, h5⟩
  have hk : k < rN A + 1 := hk
  show hOK (upd (rX A) (rN A) x k) (upd (rY A) (rN A) y k)
  unfold upd
  by_cases e : k = rN A
  · rw [if_pos e, if_pos e]; exact hx
  · rw [if_neg e, if_neg e]; exact h4 k (by omega)
theorem stS_heard {A : Rec} {x y : Int32} : ∀ k, stS (heardR A x y) k = stS A k
  | 0 => rfl
  | k + 1 => by
    show nx (rM A) (stS (heardR A x y) k) (rU A k) = nx (rM A) (stS A k) (rU A k)
    rw [stS_heard k]
theorem ptS_heard {A : Rec} {x y : Int32} (k : Nat) : ptS (heardR A x y) k = ptS A k := by
  show pt (fam (rM A) (rG A) (rH A) (stS (heardR A x y) k) (rU A k)) (rW A k) = _
  rw [stS_heard k]
  rfl
theorem heard_CM {σ : Mem} {mo : Nat} {A : Rec} (h : CM σ mo A) (x y : Int32) : CM (plApp σ (mo + 7) (rN A) x y) mo (heardR A x y) := by
  obtain ⟨h1, h2, h3, h4, h5, h6⟩ := h
  unfold plApp
  refine ⟨h1.keep (by rw [m2_o (by omega), m2_o (by omega), m2_o (by omega)]), ?_, ?_, fun k hk => ?_, m2_ss, fun k hk => ?_⟩
  · rw [m2_o (by omega), m2_o (by omega), m2_o (by omega)]; exact h2
  · rw [m2_o (by omega), m2_o (by omega), m2_o (by omega)]; exact h3
  · rw [m2_o (by omega), m2_o (by omega), m2_o (by omega), m2_o (by omega), m2_o (by omega), m2_o (by omega), m2_o (by omega), m2_o (by omega), m2_o (by omega), m2_o (by omega), m2_o (by omega), m2_o (by omega), ptS_heard, stS_heard]; exact h4 k hk
  · have hk : k < rN A + 1 := hk
    show m2 _ _ _ _ _ _ = upd (rX A) (rN A) x k ∧ m2 _ _ _ _ _ _ = upd (rY A) (rN A) y k
    unfold upd
    by_cases e : k = rN A
    · rw [if_pos e, if_pos e, e, m2_o (by omega), m2_o (by omega), m2_ss, m2_o (by omega), m2_ss]; exact ⟨rfl, rfl⟩
    · have q := h6 k (by omega)
      rw [if_neg e, if_neg e, m2_o (by omega), m2_o (by omega), m2_sn e, m2_o (by omega), m2_sn e, m2_o (by omega)]; exact q
theorem cleared_ok {A : Rec} (h : ROk A) : ROk (cleared A) := ⟨h.1, ⟨Nat.zero_le _, Nat.zero_le _⟩, fun _ q => absurd q (Nat.not_lt_zero _), fun _ q => absurd q (Nat.not_lt_zero _), h.2.2.2.2⟩
theorem cleared_CM {σ : Mem} {mo : Nat} {A : Rec} (h : CM σ mo A) : CM (moClear σ mo) mo (cleared A) := by
  unfold moClear
  refine ⟨h.1.keep (by rw [m2_o (by omega), m2_o (by omega)]), ?_, ?_, fun _ q => absurd q (Nat.not_lt_zero _), m2_ss, fun _ q => absurd q (Nat.not_lt_zero _)⟩
  · rw [m2_o (by omega), m2_o (by omega)]; exact h.2.1
  · rw [m2_o (by omega), m2_ss]; rfl
theorem coded_ok {A : Rec} {m g h : Nat} (hc : cOK m g h) : ROk (coded A m g h) := ⟨hc, ⟨Nat.zero_le _, Nat.zero_le _⟩, fun _ q => absurd q (Nat.not_lt_zero _), fun _ q => absurd q (Nat.not_lt_zero _), Or.inl rfl⟩
theorem coded_CM {σ : Mem} {mo : Nat} {A : Rec} {m g h : Nat} (hc : cOK m g h) : CM (m2 (moClear (codeSet σ (mo + 1) (nI m) (nI g) (nI h)) mo) mo 3 (-1)) mo (coded A m g h) := by
  have hl := hc.lt
  unfold moClear codeSet
  refine ⟨⟨?_, ?_, ?_, hc.1, hl.1, hl.2⟩, m2_ss, ?_, fun _ q => absurd q (Nat.not_lt_zero _), ?_, fun _ q => absurd q (Nat.not_lt_zero _)⟩
  · rw [m2_o (by omega), m2_o (by omega), m2_o (by omega), m2_sn (by omega), m2_sn (by omega), m2_ss]; rfl
  · rw [m2_o (by omega), m2_o (by omega), m2_o (by omega), m2_sn (by omega), m2_ss]; rfl
  · rw [m2_o (by omega), m2_o (by omega), m2_o (by omega), m2_ss]; rfl
  · rw [m2_o (by omega), m2_o (by omega), m2_ss]; rfl
  · rw [m2_o (by omega), m2_ss]; rfl
theorem ended_ok {A : Rec} (h : ROk A) {e : Int32} (he : eOK (rM A) e) : ROk (endedR A e) := ⟨h.1, h.2.1, h.2.2.1, h.2.2.2.1, he⟩
theorem stS_ended {A : Rec} {e : Int32} : ∀ k, stS (endedR A e) k = stS A k
  | 0 => rfl
  | k + 1 => by
    show nx (rM A) (stS (endedR A e) k) (rU A k) = nx (rM A) (stS A k) (rU A k)
    rw [stS_ended k]
theorem ended_CM {σ : Mem} {mo : Nat} {A : Rec} (h : CM σ mo A) (e : Int32) : CM (m2 σ mo 3 e) mo (endedR A e) := by
  obtain ⟨h1, h2, h3, h4, h5, h6⟩ := h
  refine ⟨h1.keep (by rw [m2_o (by omega)]), m2_ss, ?_, fun k hk => ?_, ?_, fun k hk => ?_⟩
  · rw [m2_o (by omega)]; exact h3
  · rw [m2_o (by omega), m2_o (by omega), m2_o (by omega), m2_o (by omega), stS_ended]
    have e1 : ptS (endedR A e) k = ptS A k := by
      show pt (fam (rM A) (rG A) (rH A) (stS (endedR A e) k) (rU A k)) (rW A k) = _
      rw [stS_ended k]
      rfl
    rw [e1]
    exact h4 k hk
  · rw [m2_o (by omega)]; exact h5
  · rw [m2_o (by omega), m2_o (by omega)]; exact h6 k hk
end
