section
-- ===== PART A: goes FIRST, ahead of the names: the tables' words, and 'selects' of the private methods out of them =====
/-- a private method of a class that the tables say can be made, by its rows of tables_1 -/
def lw_okq (q : MethodName × Nat) : Prop := (q.1.cls ≠ "java/lang/invoke/MethodHandle" ∧ q.1.cls ≠ "java/lang/invoke/VarHandle") ∧ Cond.instantiable q.1.cls q.2 ∈ tables_1 ∧ Cond.privateMethod q.1 ∈ tables_1 ∧ Cond.instanceMethod q.1 ∈ tables_1
theorem lw_p0 : lw_okq (⟨"LeafInk$Text", "fits", "(I)Z"⟩, 2) := ⟨⟨by decide +kernel, by decide +kernel⟩, List.mem_of_getElem? (i := 20) (by decide +kernel), List.mem_of_getElem? (i := 212) (by decide +kernel), List.mem_of_getElem? (i := 213) (by decide +kernel)⟩
theorem lw_p1 : lw_okq (⟨"LeafInk$Text", "letterAt", "(I)I"⟩, 2) := ⟨⟨by decide +kernel, by decide +kernel⟩, List.mem_of_getElem? (i := 20) (by decide +kernel), List.mem_of_getElem? (i := 216) (by decide +kernel), List.mem_of_getElem? (i := 217) (by decide +kernel)⟩
theorem lw_p2 : lw_okq (⟨"LeafInk$Text", "dotsTold", "()I"⟩, 2) := ⟨⟨by decide +kernel, by decide +kernel⟩, List.mem_of_getElem? (i := 20) (by decide +kernel), List.mem_of_getElem? (i := 220) (by decide +kernel), List.mem_of_getElem? (i := 221) (by decide +kernel)⟩
theorem lw_p3 : lw_okq (⟨"LeafInk$Eye", "isDark", "(III)Z"⟩, 7) := ⟨⟨by decide +kernel, by decide +kernel⟩, List.mem_of_getElem? (i := 83) (by decide +kernel), List.mem_of_getElem? (i := 332) (by decide +kernel), List.mem_of_getElem? (i := 333) (by decide +kernel)⟩
theorem lw_p4 : lw_okq (⟨"LeafInk$Sheet", "withNeighbours", "(I)I"⟩, 10) := ⟨⟨by decide +kernel, by decide +kernel⟩, List.mem_of_getElem? (i := 34) (by decide +kernel), List.mem_of_getElem? (i := 430) (by decide +kernel), List.mem_of_getElem? (i := 431) (by decide +kernel)⟩
theorem lw_p5 : lw_okq (⟨"LeafInk$Doings", "forgetFirst", "()V"⟩, 5) := ⟨⟨by decide +kernel, by decide +kernel⟩, List.mem_of_getElem? (i := 111) (by decide +kernel), List.mem_of_getElem? (i := 443) (by decide +kernel), List.mem_of_getElem? (i := 444) (by decide +kernel)⟩
theorem lw_p6 : lw_okq (⟨"LeafInk$Doings", "takeBack", "(LLeafInk$Sheet;III)V"⟩, 5) := ⟨⟨by decide +kernel, by decide +kernel⟩, List.mem_of_getElem? (i := 111) (by decide +kernel), List.mem_of_getElem? (i := 495) (by decide +kernel), List.mem_of_getElem? (i := 496) (by decide +kernel)⟩
theorem lw_p7 : lw_okq (⟨"LeafInk", "bestLie", "()I"⟩, 11) := ⟨⟨by decide +kernel, by decide +kernel⟩, List.mem_of_getElem? (i := 12) (by decide +kernel), List.mem_of_getElem? (i := 520) (by decide +kernel), List.mem_of_getElem? (i := 521) (by decide +kernel)⟩
theorem lw_p8 : lw_okq (⟨"LeafInk", "bestWindow", "(Z)I"⟩, 11) := ⟨⟨by decide +kernel, by decide +kernel⟩, List.mem_of_getElem? (i := 12) (by decide +kernel), List.mem_of_getElem? (i := 524) (by decide +kernel), List.mem_of_getElem? (i := 525) (by decide +kernel)⟩
theorem lw_p9 : lw_okq (⟨"LeafInk", "canBe", "(I)Z"⟩, 11) := ⟨⟨by decide +kernel, by decide +kernel⟩, List.mem_of_getElem? (i := 12) (by decide +kernel), List.mem_of_getElem? (i := 543) (by decide +kernel), List.mem_of_getElem? (i := 544) (by decide +kernel)⟩
theorem lw_p10 : lw_okq (⟨"LeafInk", "canPaint", "(III)Z"⟩, 11) := ⟨⟨by decide +kernel, by decide +kernel⟩, List.mem_of_getElem? (i := 12) (by decide +kernel), List.mem_of_getElem? (i := 547) (by decide +kernel), List.mem_of_getElem? (i := 548) (by decide +kernel)⟩
theorem lw_p11 : lw_okq (⟨"LeafInk", "canLighten", "(I)Z"⟩, 11) := ⟨⟨by decide +kernel, by decide +kernel⟩, List.mem_of_getElem? (i := 12) (by decide +kernel), List.mem_of_getElem? (i := 551) (by decide +kernel), List.mem_of_getElem? (i := 552) (by decide +kernel)⟩
theorem lw_p12 : lw_okq (⟨"LeafInk", "canRule", "(III)Z"⟩, 11) := ⟨⟨by decide +kernel, by decide +kernel⟩, List.mem_of_getElem? (i := 12) (by decide +kernel), List.mem_of_getElem? (i := 555) (by decide +kernel), List.mem_of_getElem? (i := 556) (by decide +kernel)⟩
theorem lw_p13 : lw_okq (⟨"LeafInk", "canTable", "(II)Z"⟩, 11) := ⟨⟨by decide +kernel, by decide +kernel⟩, List.mem_of_getElem? (i := 12) (by decide +kernel), List.mem_of_getElem? (i := 559) (by decide +kernel), List.mem_of_getElem? (i := 560) (by decide +kernel)⟩
theorem lw_p14 : lw_okq (⟨"LeafInk", "canLay", "(II)Z"⟩, 11) := ⟨⟨by decide +kernel, by decide +kernel⟩, List.mem_of_getElem? (i := 12) (by decide +kernel), List.mem_of_getElem? (i := 563) (by decide +kernel), List.mem_of_getElem? (i := 564) (by decide +kernel)⟩
theorem lw_p15 : lw_okq (⟨"LeafInk", "isSoMarked", "(II)Z"⟩, 11) := ⟨⟨by decide +kernel, by decide +kernel⟩, List.mem_of_getElem? (i := 12) (by decide +kernel), List.mem_of_getElem? (i := 567) (by decide +kernel), List.mem_of_getElem? (i := 568) (by decide +kernel)⟩
def lw_privs_1 : List (MethodName × Nat) := [(⟨"LeafInk$Text", "fits", "(I)Z"⟩, 2), (⟨"LeafInk$Text", "letterAt", "(I)I"⟩, 2), (⟨"LeafInk$Text", "dotsTold", "()I"⟩, 2), (⟨"LeafInk$Eye", "isDark", "(III)Z"⟩, 7), (⟨"LeafInk$Sheet", "withNeighbours", "(I)I"⟩, 10), (⟨"LeafInk$Doings", "forgetFirst", "()V"⟩, 5), (⟨"LeafInk$Doings", "takeBack", "(LLeafInk$Sheet;III)V"⟩, 5), (⟨"LeafInk", "bestLie", "()I"⟩, 11), (⟨"LeafInk", "bestWindow", "(Z)I"⟩, 11), (⟨"LeafInk", "canBe", "(I)Z"⟩, 11), (⟨"LeafInk", "canPaint", "(III)Z"⟩, 11), (⟨"LeafInk", "canLighten", "(I)Z"⟩, 11), (⟨"LeafInk", "canRule", "(III)Z"⟩, 11), (⟨"LeafInk", "canTable", "(II)Z"⟩, 11), (⟨"LeafInk", "canLay", "(II)Z"⟩, 11), (⟨"LeafInk", "isSoMarked", "(II)Z"⟩, 11)]
theorem lw_r1 : ∀ q ∈ lw_privs_1, lw_okq q := List.forall_mem_cons.mpr ⟨lw_p0, List.forall_mem_cons.mpr ⟨lw_p1, List.forall_mem_cons.mpr ⟨lw_p2, List.forall_mem_cons.mpr ⟨lw_p3, List.forall_mem_cons.mpr ⟨lw_p4, List.forall_mem_cons.mpr ⟨lw_p5, List.forall_mem_cons.mpr ⟨lw_p6, List.forall_mem_cons.mpr ⟨lw_p7, List.forall_mem_cons.mpr ⟨lw_p8, List.forall_mem_cons.mpr ⟨lw_p9, List.forall_mem_cons.mpr ⟨lw_p10, List.forall_mem_cons.mpr ⟨lw_p11, List.forall_mem_cons.mpr ⟨lw_p12, List.forall_mem_cons.mpr ⟨lw_p13, List.forall_mem_cons.mpr ⟨lw_p14, List.forall_mem_cons.mpr ⟨lw_p15, fun _ h => absurd h List.not_mem_nil⟩⟩⟩⟩⟩⟩⟩⟩⟩⟩⟩⟩⟩⟩⟩⟩
theorem lw_p16 : lw_okq (⟨"LeafInk", "inkWhenCome", "(I)I"⟩, 11) := ⟨⟨by decide +kernel, by decide +kernel⟩, List.mem_of_getElem? (i := 12) (by decide +kernel), List.mem_of_getElem? (i := 579) (by decide +kernel), List.mem_of_getElem? (i := 580) (by decide +kernel)⟩
theorem lw_p17 : lw_okq (⟨"LeafInk", "inkWhenBleached", "(II)I"⟩, 11) := ⟨⟨by decide +kernel, by decide +kernel⟩, List.mem_of_getElem? (i := 12) (by decide +kernel), List.mem_of_getElem? (i := 628) (by decide +kernel), List.mem_of_getElem? (i := 629) (by decide +kernel)⟩
theorem lw_p18 : lw_okq (⟨"LeafInk", "slotAt", "(I)LLeafInk$Sheet;"⟩, 11) := ⟨⟨by decide +kernel, by decide +kernel⟩, List.mem_of_getElem? (i := 12) (by decide +kernel), List.mem_of_getElem? (i := 655) (by decide +kernel), List.mem_of_getElem? (i := 656) (by decide +kernel)⟩
theorem lw_p19 : lw_okq (⟨"LeafInkModel", "readLeaf", "()I"⟩, 22) := ⟨⟨by decide +kernel, by decide +kernel⟩, List.mem_of_getElem? (i := 663) (by decide +kernel), List.mem_of_getElem? (i := 756) (by decide +kernel), List.mem_of_getElem? (i := 757) (by decide +kernel)⟩
theorem lw_p20 : lw_okq (⟨"LeafInkModel", "figureAt", "(I)I"⟩, 22) := ⟨⟨by decide +kernel, by decide +kernel⟩, List.mem_of_getElem? (i := 663) (by decide +kernel), List.mem_of_getElem? (i := 760) (by decide +kernel), List.mem_of_getElem? (i := 761) (by decide +kernel)⟩
theorem lw_p21 : lw_okq (⟨"LeafInkModel", "marks", "(II)I"⟩, 22) := ⟨⟨by decide +kernel, by decide +kernel⟩, List.mem_of_getElem? (i := 663) (by decide +kernel), List.mem_of_getElem? (i := 777) (by decide +kernel), List.mem_of_getElem? (i := 778) (by decide +kernel)⟩
theorem lw_p22 : lw_okq (⟨"LeafInkModel", "markOf", "([II)I"⟩, 22) := ⟨⟨by decide +kernel, by decide +kernel⟩, List.mem_of_getElem? (i := 663) (by decide +kernel), List.mem_of_getElem? (i := 781) (by decide +kernel), List.mem_of_getElem? (i := 782) (by decide +kernel)⟩
theorem lw_p23 : lw_okq (⟨"LeafInkModel", "layWindow", "([III)V"⟩, 22) := ⟨⟨by decide +kernel, by decide +kernel⟩, List.mem_of_getElem? (i := 663) (by decide +kernel), List.mem_of_getElem? (i := 785) (by decide +kernel), List.mem_of_getElem? (i := 786) (by decide +kernel)⟩
theorem lw_p24 : lw_okq (⟨"LeafInkModel", "isDark", "([II)Z"⟩, 22) := ⟨⟨by decide +kernel, by decide +kernel⟩, List.mem_of_getElem? (i := 663) (by decide +kernel), List.mem_of_getElem? (i := 792) (by decide +kernel), List.mem_of_getElem? (i := 793) (by decide +kernel)⟩
theorem lw_p25 : lw_okq (⟨"LeafInkModel", "noDot", "(I)Z"⟩, 22) := ⟨⟨by decide +kernel, by decide +kernel⟩, List.mem_of_getElem? (i := 663) (by decide +kernel), List.mem_of_getElem? (i := 806) (by decide +kernel), List.mem_of_getElem? (i := 807) (by decide +kernel)⟩
theorem lw_p26 : lw_okq (⟨"LeafInkModel", "inkOf", "([I)I"⟩, 22) := ⟨⟨by decide +kernel, by decide +kernel⟩, List.mem_of_getElem? (i := 663) (by decide +kernel), List.mem_of_getElem? (i := 841) (by decide +kernel), List.mem_of_getElem? (i := 842) (by decide +kernel)⟩
theorem lw_p27 : lw_okq (⟨"LeafInkModel", "note", "()V"⟩, 22) := ⟨⟨by decide +kernel, by decide +kernel⟩, List.mem_of_getElem? (i := 663) (by decide +kernel), List.mem_of_getElem? (i := 858) (by decide +kernel), List.mem_of_getElem? (i := 859) (by decide +kernel)⟩
theorem lw_p28 : lw_okq (⟨"LeafInkModel", "layFit", "(II)V"⟩, 22) := ⟨⟨by decide +kernel, by decide +kernel⟩, List.mem_of_getElem? (i := 663) (by decide +kernel), List.mem_of_getElem? (i := 904) (by decide +kernel), List.mem_of_getElem? (i := 905) (by decide +kernel)⟩
theorem lw_p29 : lw_okq (⟨"LeafInkModel", "bestLie", "()I"⟩, 22) := ⟨⟨by decide +kernel, by decide +kernel⟩, List.mem_of_getElem? (i := 663) (by decide +kernel), List.mem_of_getElem? (i := 912) (by decide +kernel), List.mem_of_getElem? (i := 913) (by decide +kernel)⟩
theorem lw_p30 : lw_okq (⟨"LeafInkModel", "bestRule", "(Z)I"⟩, 22) := ⟨⟨by decide +kernel, by decide +kernel⟩, List.mem_of_getElem? (i := 663) (by decide +kernel), List.mem_of_getElem? (i := 916) (by decide +kernel), List.mem_of_getElem? (i := 917) (by decide +kernel)⟩
theorem lw_p31 : lw_okq (⟨"LeafInkModel", "inkBy", "(I)I"⟩, 22) := ⟨⟨by decide +kernel, by decide +kernel⟩, List.mem_of_getElem? (i := 663) (by decide +kernel), List.mem_of_getElem? (i := 920) (by decide +kernel), List.mem_of_getElem? (i := 921) (by decide +kernel)⟩
def lw_privs_2 : List (MethodName × Nat) := [(⟨"LeafInk", "inkWhenCome", "(I)I"⟩, 11), (⟨"LeafInk", "inkWhenBleached", "(II)I"⟩, 11), (⟨"LeafInk", "slotAt", "(I)LLeafInk$Sheet;"⟩, 11), (⟨"LeafInkModel", "readLeaf", "()I"⟩, 22), (⟨"LeafInkModel", "figureAt", "(I)I"⟩, 22), (⟨"LeafInkModel", "marks", "(II)I"⟩, 22), (⟨"LeafInkModel", "markOf", "([II)I"⟩, 22), (⟨"LeafInkModel", "layWindow", "([III)V"⟩, 22), (⟨"LeafInkModel", "isDark", "([II)Z"⟩, 22), (⟨"LeafInkModel", "noDot", "(I)Z"⟩, 22), (⟨"LeafInkModel", "inkOf", "([I)I"⟩, 22), (⟨"LeafInkModel", "note", "()V"⟩, 22), (⟨"LeafInkModel", "layFit", "(II)V"⟩, 22), (⟨"LeafInkModel", "bestLie", "()I"⟩, 22), (⟨"LeafInkModel", "bestRule", "(Z)I"⟩, 22), (⟨"LeafInkModel", "inkBy", "(I)I"⟩, 22)]
theorem lw_r2 : ∀ q ∈ lw_privs_2, lw_okq q := List.forall_mem_cons.mpr ⟨lw_p16, List.forall_mem_cons.mpr ⟨lw_p17, List.forall_mem_cons.mpr ⟨lw_p18, List.forall_mem_cons.mpr ⟨lw_p19, List.forall_mem_cons.mpr ⟨lw_p20, List.forall_mem_cons.mpr ⟨lw_p21, List.forall_mem_cons.mpr ⟨lw_p22, List.forall_mem_cons.mpr ⟨lw_p23, List.forall_mem_cons.mpr ⟨lw_p24, List.forall_mem_cons.mpr ⟨lw_p25, List.forall_mem_cons.mpr ⟨lw_p26, List.forall_mem_cons.mpr ⟨lw_p27, List.forall_mem_cons.mpr ⟨lw_p28, List.forall_mem_cons.mpr ⟨lw_p29, List.forall_mem_cons.mpr ⟨lw_p30, List.forall_mem_cons.mpr ⟨lw_p31, fun _ h => absurd h List.not_mem_nil⟩⟩⟩⟩⟩⟩⟩⟩⟩⟩⟩⟩⟩⟩⟩⟩
theorem lw_p32 : lw_okq (⟨"LeafInkModel", "begin", "()V"⟩, 22) := ⟨⟨by decide +kernel, by decide +kernel⟩, List.mem_of_getElem? (i := 663) (by decide +kernel), List.mem_of_getElem? (i := 924) (by decide +kernel), List.mem_of_getElem? (i := 925) (by decide +kernel)⟩
theorem lw_p33 : lw_okq (⟨"LeafInkModel", "does", "(I)Z"⟩, 22) := ⟨⟨by decide +kernel, by decide +kernel⟩, List.mem_of_getElem? (i := 663) (by decide +kernel), List.mem_of_getElem? (i := 937) (by decide +kernel), List.mem_of_getElem? (i := 938) (by decide +kernel)⟩
theorem lw_p34 : lw_okq (⟨"LeafInkModel", "puts", "(ZII)Z"⟩, 22) := ⟨⟨by decide +kernel, by decide +kernel⟩, List.mem_of_getElem? (i := 663) (by decide +kernel), List.mem_of_getElem? (i := 941) (by decide +kernel), List.mem_of_getElem? (i := 942) (by decide +kernel)⟩
theorem lw_p35 : lw_okq (⟨"LeafInkModel", "lights", "(I)Z"⟩, 22) := ⟨⟨by decide +kernel, by decide +kernel⟩, List.mem_of_getElem? (i := 663) (by decide +kernel), List.mem_of_getElem? (i := 945) (by decide +kernel), List.mem_of_getElem? (i := 946) (by decide +kernel)⟩
theorem lw_p36 : lw_okq (⟨"LeafInkModel", "rules", "(III)Z"⟩, 22) := ⟨⟨by decide +kernel, by decide +kernel⟩, List.mem_of_getElem? (i := 663) (by decide +kernel), List.mem_of_getElem? (i := 949) (by decide +kernel), List.mem_of_getElem? (i := 950) (by decide +kernel)⟩
theorem lw_p37 : lw_okq (⟨"LeafInkModel", "lies", "(II)Z"⟩, 22) := ⟨⟨by decide +kernel, by decide +kernel⟩, List.mem_of_getElem? (i := 663) (by decide +kernel), List.mem_of_getElem? (i := 953) (by decide +kernel), List.mem_of_getElem? (i := 954) (by decide +kernel)⟩
theorem lw_p38 : lw_okq (⟨"LeafInkModel", "inkOfRows", "(I)I"⟩, 22) := ⟨⟨by decide +kernel, by decide +kernel⟩, List.mem_of_getElem? (i := 663) (by decide +kernel), List.mem_of_getElem? (i := 961) (by decide +kernel), List.mem_of_getElem? (i := 962) (by decide +kernel)⟩
def lw_privs_3 : List (MethodName × Nat) := [(⟨"LeafInkModel", "begin", "()V"⟩, 22), (⟨"LeafInkModel", "does", "(I)Z"⟩, 22), (⟨"LeafInkModel", "puts", "(ZII)Z"⟩, 22), (⟨"LeafInkModel", "lights", "(I)Z"⟩, 22), (⟨"LeafInkModel", "rules", "(III)Z"⟩, 22), (⟨"LeafInkModel", "lies", "(II)Z"⟩, 22), (⟨"LeafInkModel", "inkOfRows", "(I)I"⟩, 22)]
theorem lw_r3 : ∀ q ∈ lw_privs_3, lw_okq q := List.forall_mem_cons.mpr ⟨lw_p32, List.forall_mem_cons.mpr ⟨lw_p33, List.forall_mem_cons.mpr ⟨lw_p34, List.forall_mem_cons.mpr ⟨lw_p35, List.forall_mem_cons.mpr ⟨lw_p36, List.forall_mem_cons.mpr ⟨lw_p37, List.forall_mem_cons.mpr ⟨lw_p38, fun _ h => absurd h List.not_mem_nil⟩⟩⟩⟩⟩⟩⟩
def lw_privs : List (MethodName × Nat) := lw_privs_1 ++ (lw_privs_2 ++ (lw_privs_3))
def lw_tbl : List Cond := k2_sels lw_privs ++ tables_1
theorem lw_privs_ok : ∀ q ∈ lw_privs, lw_okq q := by
  show ∀ q ∈ lw_privs_1 ++ (lw_privs_2 ++ (lw_privs_3)), lw_okq q
  exact List.forall_mem_append.mpr ⟨lw_r1, List.forall_mem_append.mpr ⟨lw_r2, lw_r3⟩⟩
end
section
def RX0 : String := "LeafInk$Doings"
def TX0 : u_T := fun k => match k with
  | 0 => ("LeafInk$Doings", "kinds", "[I", true)
  | 1 => ("LeafInk$Doings", "firsts", "[I", true)
  | 2 => ("LeafInk$Doings", "seconds", "[I", true)
  | 3 => ("LeafInk$Doings", "thirds", "[I", true)
  | _ => ("LeafInk$Doings", "size", "I", false)
def tyX0 : Nat → FieldType := fun k => match k with
  | 0 => .array .int
  | 1 => .array .int
  | 2 => .array .int
  | 3 => .array .int
  | _ => .int
abbrev wsX00 : List Cond := u_ws RX0 TX0 5
theorem nmX0 : ∀ a, a < 5 → ∀ b, b < 5 → a ≠ b → (TX0 a).2.1 ≠ (TX0 b).2.1 := by decide +kernel
theorem tyX0_ok : ∀ k, k < 5 → parseFieldDescriptor (TX0 k).2.2.1 = some (tyX0 k) := by decide +kernel
abbrev cX0_init : ByteArray := prog_2_method_1_code
def yX0_init : MethodName := ⟨RX0, "<init>", "()V"⟩
abbrev cX0_size : ByteArray := prog_2_method_2_code
def yX0_size : MethodName := ⟨RX0, "size", "()I"⟩
abbrev cX0_forgetAll : ByteArray := prog_2_method_3_code
def yX0_forgetAll : MethodName := ⟨RX0, "forgetAll", "()V"⟩
abbrev cX0_add : ByteArray := prog_2_method_4_code
def yX0_add : MethodName := ⟨RX0, "add", "(IIII)V"⟩
abbrev cX0_forgetFirst : ByteArray := prog_2_method_5_code
def yX0_forgetFirst : MethodName := ⟨RX0, "forgetFirst", "()V"⟩
abbrev cX0_takeBackLast : ByteArray := prog_2_method_6_code
def yX0_takeBackLast : MethodName := ⟨RX0, "takeBackLast", "(LLeafInk$Sheet;)I"⟩
abbrev cX0_takeBack : ByteArray := prog_2_method_7_code
def yX0_takeBack : MethodName := ⟨RX0, "takeBack", "(LLeafInk$Sheet;III)V"⟩
def RX1 : String := "LeafInk$Eye"
def TX1 : u_T := fun k => match k with
  | 0 => ("LeafInk$Eye", "counts", "[I", true)
  | 1 => ("LeafInk$Eye", "sums", "[I", true)
  | 2 => ("LeafInk$Eye", "squares", "[I", true)
  | 3 => ("LeafInk$Eye", "greys", "[I", true)
  | 4 => ("LeafInk$Eye", "alone", "[I", true)
  | 5 => ("LeafInk$Eye", "rule", "I", false)
  | _ => ("LeafInk$Eye", "dots", "I", false)
def tyX1 : Nat → FieldType := fun k => match k with
  | 0 => .array .int
  | 1 => .array .int
  | 2 => .array .int
  | 3 => .array .int
  | 4 => .array .int
  | 5 => .int
  | _ => .int
abbrev wsX10 : List Cond := u_ws RX1 TX1 7
theorem nmX1 : ∀ a, a < 7 → ∀ b, b < 7 → a ≠ b → (TX1 a).2.1 ≠ (TX1 b).2.1 := by decide +kernel
theorem tyX1_ok : ∀ k, k < 7 → parseFieldDescriptor (TX1 k).2.2.1 = some (tyX1 k) := by decide +kernel
abbrev cX1_init : ByteArray := prog_3_method_1_code
def yX1_init : MethodName := ⟨RX1, "<init>", "()V"⟩
abbrev cX1_howMany : ByteArray := prog_3_method_2_code
def yX1_howMany : MethodName := ⟨RX1, "howMany", "(LLeafInk$Sheet;I)I"⟩
abbrev cX1_look : ByteArray := prog_3_method_3_code
def yX1_look : MethodName := ⟨RX1, "look", "(LLeafInk$Sheet;I)V"⟩
abbrev cX1_lookAt : ByteArray := prog_3_method_4_code
def yX1_lookAt : MethodName := ⟨RX1, "lookAt", "(LLeafInk$Sheet;II)V"⟩
abbrev cX1_countOf : ByteArray := prog_3_method_5_code
def yX1_countOf : MethodName := ⟨RX1, "countOf", "(I)I"⟩
abbrev cX1_sumOf : ByteArray := prog_3_method_6_code
def yX1_sumOf : MethodName := ⟨RX1, "sumOf", "(I)I"⟩
abbrev cX1_squaresOf : ByteArray := prog_3_method_7_code
def yX1_squaresOf : MethodName := ⟨RX1, "squaresOf", "(I)I"⟩
abbrev cX1_unevenness : ByteArray := prog_3_method_8_code
def yX1_unevenness : MethodName := ⟨RX1, "unevenness", "(I)I"⟩
abbrev cX1_dotsMarked : ByteArray := prog_3_method_9_code
def yX1_dotsMarked : MethodName := ⟨RX1, "dotsMarked", "(II)I"⟩
abbrev cX1_markOf : ByteArray := prog_3_method_10_code
def yX1_markOf : MethodName := ⟨RX1, "markOf", "(II)I"⟩
abbrev cX1_isDark : ByteArray := prog_3_method_11_code
def yX1_isDark : MethodName := ⟨RX1, "isDark", "(III)Z"⟩
abbrev cX1_isPlace : ByteArray := prog_3_method_12_code
def yX1_isPlace : MethodName := ⟨RX1, "isPlace", "(I)Z"⟩
def RX2 : String := "LeafInk$Seen"
def TX2 : u_T := fun k => match k with
  | 0 => ("LeafInk$Seen", "dots", "[I", true)
  | 1 => ("LeafInk$Seen", "inks", "[I", true)
  | _ => ("LeafInk$Seen", "size", "I", false)
def tyX2 : Nat → FieldType := fun k => match k with
  | 0 => .array .int
  | 1 => .array .int
  | _ => .int
abbrev wsX20 : List Cond := u_ws RX2 TX2 3
theorem nmX2 : ∀ a, a < 3 → ∀ b, b < 3 → a ≠ b → (TX2 a).2.1 ≠ (TX2 b).2.1 := by decide +kernel
theorem tyX2_ok : ∀ k, k < 3 → parseFieldDescriptor (TX2 k).2.2.1 = some (tyX2 k) := by decide +kernel
abbrev cX2_init : ByteArray := prog_4_method_1_code
def yX2_init : MethodName := ⟨RX2, "<init>", "()V"⟩
abbrev cX2_size : ByteArray := prog_4_method_2_code
def yX2_size : MethodName := ⟨RX2, "size", "()I"⟩
abbrev cX2_isFull : ByteArray := prog_4_method_3_code
def yX2_isFull : MethodName := ⟨RX2, "isFull", "()Z"⟩
abbrev cX2_add : ByteArray := prog_4_method_4_code
def yX2_add : MethodName := ⟨RX2, "add", "(II)I"⟩
abbrev cX2_clear : ByteArray := prog_4_method_5_code
def yX2_clear : MethodName := ⟨RX2, "clear", "()I"⟩
abbrev cX2_agreesWith : ByteArray := prog_4_method_6_code
def yX2_agreesWith : MethodName := ⟨RX2, "agreesWith", "(I)Z"⟩
def RX3 : String := "LeafInk$Sheet"
def TX3 : u_T := fun k => match k with
  | 0 => ("LeafInk$Sheet", "front", "[I", true)
  | 1 => ("LeafInk$Sheet", "back", "[I", true)
  | 2 => ("LeafInk$Sheet", "shown", "[I", true)
  | 3 => ("LeafInk$Sheet", "width", "I", false)
  | 4 => ("LeafInk$Sheet", "height", "I", false)
  | 5 => ("LeafInk$Sheet", "rule", "I", false)
  | 6 => ("LeafInk$Sheet", "reach", "I", false)
  | 7 => ("LeafInk$Sheet", "bound", "I", false)
  | 8 => ("LeafInk$Sheet", "dx", "I", false)
  | _ => ("LeafInk$Sheet", "dy", "I", false)
def tyX3 : Nat → FieldType := fun k => match k with
  | 0 => .array .int
  | 1 => .array .int
  | 2 => .array .int
  | 3 => .int
  | 4 => .int
  | 5 => .int
  | 6 => .int
  | 7 => .int
  | 8 => .int
  | _ => .int
abbrev wsX30 : List Cond := u_ws RX3 TX3 10
theorem nmX3 : ∀ a, a < 10 → ∀ b, b < 10 → a ≠ b → (TX3 a).2.1 ≠ (TX3 b).2.1 := by decide +kernel
theorem tyX3_ok : ∀ k, k < 10 → parseFieldDescriptor (TX3 k).2.2.1 = some (tyX3 k) := by decide +kernel
abbrev cX3_init : ByteArray := prog_5_method_1_code
def yX3_init : MethodName := ⟨RX3, "<init>", "()V"⟩
abbrev cX3_becomeText : ByteArray := prog_5_method_2_code
def yX3_becomeText : MethodName := ⟨RX3, "becomeText", "(LLeafInk$Text;)V"⟩
abbrev cX3_copyFrom : ByteArray := prog_5_method_3_code
def yX3_copyFrom : MethodName := ⟨RX3, "copyFrom", "(LLeafInk$Sheet;)V"⟩
abbrev cX3_dots : ByteArray := prog_5_method_4_code
def yX3_dots : MethodName := ⟨RX3, "dots", "()I"⟩
abbrev cX3_has : ByteArray := prog_5_method_5_code
def yX3_has : MethodName := ⟨RX3, "has", "(I)Z"⟩
abbrev cX3_hasRow : ByteArray := prog_5_method_6_code
def yX3_hasRow : MethodName := ⟨RX3, "hasRow", "(I)Z"⟩
abbrev cX3_greyOf : ByteArray := prog_5_method_7_code
def yX3_greyOf : MethodName := ⟨RX3, "greyOf", "(II)I"⟩
abbrev cX3_setGrey : ByteArray := prog_5_method_8_code
def yX3_setGrey : MethodName := ⟨RX3, "setGrey", "(III)V"⟩
abbrev cX3_shownFor : ByteArray := prog_5_method_9_code
def yX3_shownFor : MethodName := ⟨RX3, "shownFor", "(I)I"⟩
abbrev cX3_setShown : ByteArray := prog_5_method_10_code
def yX3_setShown : MethodName := ⟨RX3, "setShown", "(II)V"⟩
abbrev cX3_setRule : ByteArray := prog_5_method_11_code
def yX3_setRule : MethodName := ⟨RX3, "setRule", "(III)V"⟩
abbrev cX3_setLie : ByteArray := prog_5_method_12_code
def yX3_setLie : MethodName := ⟨RX3, "setLie", "(II)V"⟩
abbrev cX3_greysTogether : ByteArray := prog_5_method_13_code
def yX3_greysTogether : MethodName := ⟨RX3, "greysTogether", "()I"⟩
abbrev cX3_staysGrey : ByteArray := prog_5_method_14_code
def yX3_staysGrey : MethodName := ⟨RX3, "staysGrey", "(I)Z"⟩
abbrev cX3_lighten : ByteArray := prog_5_method_15_code
def yX3_lighten : MethodName := ⟨RX3, "lighten", "(I)V"⟩
abbrev cX3_whiten : ByteArray := prog_5_method_16_code
def yX3_whiten : MethodName := ⟨RX3, "whiten", "(II)V"⟩
abbrev cX3_columnOf : ByteArray := prog_5_method_17_code
def yX3_columnOf : MethodName := ⟨RX3, "columnOf", "(I)I"⟩
abbrev cX3_rowOf : ByteArray := prog_5_method_18_code
def yX3_rowOf : MethodName := ⟨RX3, "rowOf", "(I)I"⟩
abbrev cX3_lyingUnder : ByteArray := prog_5_method_19_code
def yX3_lyingUnder : MethodName := ⟨RX3, "lyingUnder", "(III)I"⟩
abbrev cX3_greyAlone : ByteArray := prog_5_method_20_code
def yX3_greyAlone : MethodName := ⟨RX3, "greyAlone", "(I)I"⟩
abbrev cX3_pairs : ByteArray := prog_5_method_21_code
def yX3_pairs : MethodName := ⟨RX3, "pairs", "(II)I"⟩
abbrev cX3_difference : ByteArray := prog_5_method_22_code
def yX3_difference : MethodName := ⟨RX3, "difference", "(II)I"⟩
abbrev cX3_hangingTogether : ByteArray := prog_5_method_23_code
def yX3_hangingTogether : MethodName := ⟨RX3, "hangingTogether", "(II)I"⟩
abbrev cX3_withNeighbours : ByteArray := prog_5_method_24_code
def yX3_withNeighbours : MethodName := ⟨RX3, "withNeighbours", "(I)I"⟩
def RX4 : String := "LeafInk$Text"
def TX4 : u_T := fun k => match k with
  | 0 => ("LeafInk$Text", "letters", "[I", true)
  | _ => ("LeafInk$Text", "length", "I", false)
def tyX4 : Nat → FieldType := fun k => match k with
  | 0 => .array .int
  | _ => .int
abbrev wsX40 : List Cond := u_ws RX4 TX4 2
theorem nmX4 : ∀ a, a < 2 → ∀ b, b < 2 → a ≠ b → (TX4 a).2.1 ≠ (TX4 b).2.1 := by decide +kernel
theorem tyX4_ok : ∀ k, k < 2 → parseFieldDescriptor (TX4 k).2.2.1 = some (tyX4 k) := by decide +kernel
abbrev cX4_init : ByteArray := prog_6_method_1_code
def yX4_init : MethodName := ⟨RX4, "<init>", "()V"⟩
abbrev cX4_size : ByteArray := prog_6_method_2_code
def yX4_size : MethodName := ⟨RX4, "size", "()I"⟩
abbrev cX4_isFull : ByteArray := prog_6_method_3_code
def yX4_isFull : MethodName := ⟨RX4, "isFull", "()Z"⟩
abbrev cX4_append : ByteArray := prog_6_method_4_code
def yX4_append : MethodName := ⟨RX4, "append", "(I)I"⟩
abbrev cX4_clear : ByteArray := prog_6_method_5_code
def yX4_clear : MethodName := ⟨RX4, "clear", "()I"⟩
abbrev cX4_firstFault : ByteArray := prog_6_method_6_code
def yX4_firstFault : MethodName := ⟨RX4, "firstFault", "()I"⟩
abbrev cX4_fits : ByteArray := prog_6_method_7_code
def yX4_fits : MethodName := ⟨RX4, "fits", "(I)Z"⟩
abbrev cX4_letterAt : ByteArray := prog_6_method_8_code
def yX4_letterAt : MethodName := ⟨RX4, "letterAt", "(I)I"⟩
abbrev cX4_figureAt : ByteArray := prog_6_method_9_code
def yX4_figureAt : MethodName := ⟨RX4, "figureAt", "(I)I"⟩
abbrev cX4_dotsTold : ByteArray := prog_6_method_10_code
def yX4_dotsTold : MethodName := ⟨RX4, "dotsTold", "()I"⟩
def RX5 : String := "LeafInk"
def TX5 : u_T := fun k => match k with
  | 0 => ("LeafInk", "text", "LLeafInk$Text;", true)
  | 1 => ("LeafInk", "now", "LLeafInk$Sheet;", true)
  | 2 => ("LeafInk", "trial", "LLeafInk$Sheet;", true)
  | 3 => ("LeafInk", "firstSlot", "LLeafInk$Sheet;", true)
  | 4 => ("LeafInk", "secondSlot", "LLeafInk$Sheet;", true)
  | 5 => ("LeafInk", "eye", "LLeafInk$Eye;", true)
  | 6 => ("LeafInk", "doings", "LLeafInk$Doings;", true)
  | 7 => ("LeafInk", "seen", "LLeafInk$Seen;", true)
  | 8 => ("LeafInk", "inkByRows", "[I", true)
  | 9 => ("LeafInk", "keptSlots", "I", false)
  | _ => ("LeafInk", "lastDrawn", "J", false)
def tyX5 : Nat → FieldType := fun k => match k with
  | 0 => .object "LeafInk$Text"
  | 1 => .object "LeafInk$Sheet"
  | 2 => .object "LeafInk$Sheet"
  | 3 => .object "LeafInk$Sheet"
  | 4 => .object "LeafInk$Sheet"
  | 5 => .object "LeafInk$Eye"
  | 6 => .object "LeafInk$Doings"
  | 7 => .object "LeafInk$Seen"
  | 8 => .array .int
  | 9 => .int
  | _ => .long
abbrev wsX50 : List Cond := u_ws RX5 TX5 11
theorem nmX5 : ∀ a, a < 11 → ∀ b, b < 11 → a ≠ b → (TX5 a).2.1 ≠ (TX5 b).2.1 := by decide +kernel
theorem tyX5_ok : ∀ k, k < 11 → parseFieldDescriptor (TX5 k).2.2.1 = some (tyX5 k) := by decide +kernel
abbrev cX5_init : ByteArray := prog_1_method_1_code
def yX5_init : MethodName := ⟨RX5, "<init>", "()V"⟩
abbrev cX5_write : ByteArray := prog_1_method_2_code
def yX5_write : MethodName := ⟨RX5, "write", "(I)I"⟩
abbrev cX5_wipe : ByteArray := prog_1_method_3_code
def yX5_wipe : MethodName := ⟨RX5, "wipe", "()I"⟩
abbrev cX5_fault : ByteArray := prog_1_method_4_code
def yX5_fault : MethodName := ⟨RX5, "fault", "()I"⟩
abbrev cX5_leaf : ByteArray := prog_1_method_5_code
def yX5_leaf : MethodName := ⟨RX5, "leaf", "()I"⟩
abbrev cX5_about : ByteArray := prog_1_method_6_code
def yX5_about : MethodName := ⟨RX5, "about", "(I)I"⟩
abbrev cX5_grey : ByteArray := prog_1_method_7_code
def yX5_grey : MethodName := ⟨RX5, "grey", "(II)I"⟩
abbrev cX5_shows : ByteArray := prog_1_method_8_code
def yX5_shows : MethodName := ⟨RX5, "shows", "(I)I"⟩
abbrev cX5_window : ByteArray := prog_1_method_9_code
def yX5_window : MethodName := ⟨RX5, "window", "(II)I"⟩
abbrev cX5_spread : ByteArray := prog_1_method_10_code
def yX5_spread : MethodName := ⟨RX5, "spread", "(IIZ)I"⟩
abbrev cX5_mark : ByteArray := prog_1_method_11_code
def yX5_mark : MethodName := ⟨RX5, "mark", "(I)I"⟩
abbrev cX5_under : ByteArray := prog_1_method_12_code
def yX5_under : MethodName := ⟨RX5, "under", "(I)I"⟩
abbrev cX5_cleaned : ByteArray := prog_1_method_13_code
def yX5_cleaned : MethodName := ⟨RX5, "cleaned", "(I)I"⟩
abbrev cX5_paint : ByteArray := prog_1_method_14_code
def yX5_paint : MethodName := ⟨RX5, "paint", "(III)I"⟩
abbrev cX5_light : ByteArray := prog_1_method_15_code
def yX5_light : MethodName := ⟨RX5, "light", "(I)I"⟩
abbrev cX5_rule : ByteArray := prog_1_method_16_code
def yX5_rule : MethodName := ⟨RX5, "rule", "(III)I"⟩
abbrev cX5_table : ByteArray := prog_1_method_17_code
def yX5_table : MethodName := ⟨RX5, "table", "(II)I"⟩
abbrev cX5_lay : ByteArray := prog_1_method_18_code
def yX5_lay : MethodName := ⟨RX5, "lay", "(II)I"⟩
abbrev cX5_undo : ByteArray := prog_1_method_19_code
def yX5_undo : MethodName := ⟨RX5, "undo", "()I"⟩
abbrev cX5_fit : ByteArray := prog_1_method_20_code
def yX5_fit : MethodName := ⟨RX5, "fit", "(IIZ)I"⟩
abbrev cX5_best : ByteArray := prog_1_method_21_code
def yX5_best : MethodName := ⟨RX5, "best", "(I)I"⟩
abbrev cX5_judge : ByteArray := prog_1_method_22_code
def yX5_judge : MethodName := ⟨RX5, "judge", "(IJ)I"⟩
abbrev cX5_share : ByteArray := prog_1_method_23_code
def yX5_share : MethodName := ⟨RX5, "share", "(IZ)I"⟩
abbrev cX5_see : ByteArray := prog_1_method_24_code
def yX5_see : MethodName := ⟨RX5, "see", "(II)I"⟩
abbrev cX5_unsee : ByteArray := prog_1_method_25_code
def yX5_unsee : MethodName := ⟨RX5, "unsee", "()I"⟩
abbrev cX5_ways : ByteArray := prog_1_method_26_code
def yX5_ways : MethodName := ⟨RX5, "ways", "(I)I"⟩
abbrev cX5_bleached : ByteArray := prog_1_method_27_code
def yX5_bleached : MethodName := ⟨RX5, "bleached", "(IIIZ)I"⟩
abbrev cX5_seed : ByteArray := prog_1_method_28_code
def yX5_seed : MethodName := ⟨RX5, "seed", "(J)J"⟩
abbrev cX5_drawn : ByteArray := prog_1_method_29_code
def yX5_drawn : MethodName := ⟨RX5, "drawn", "(I)I"⟩
abbrev cX5_keep : ByteArray := prog_1_method_30_code
def yX5_keep : MethodName := ⟨RX5, "keep", "(I)I"⟩
abbrev cX5_again : ByteArray := prog_1_method_31_code
def yX5_again : MethodName := ⟨RX5, "again", "(I)I"⟩
abbrev cX5_isSide : ByteArray := prog_1_method_32_code
def yX5_isSide : MethodName := ⟨RX5, "isSide", "(I)Z"⟩
abbrev cX5_isFigure : ByteArray := prog_1_method_33_code
def yX5_isFigure : MethodName := ⟨RX5, "isFigure", "(I)Z"⟩
abbrev cX5_isLight : ByteArray := prog_1_method_34_code
def yX5_isLight : MethodName := ⟨RX5, "isLight", "(I)Z"⟩
abbrev cX5_isRule : ByteArray := prog_1_method_35_code
def yX5_isRule : MethodName := ⟨RX5, "isRule", "(III)Z"⟩
abbrev cX5_isLie : ByteArray := prog_1_method_36_code
def yX5_isLie : MethodName := ⟨RX5, "isLie", "(II)Z"⟩
abbrev cX5_isSlot : ByteArray := prog_1_method_37_code
def yX5_isSlot : MethodName := ⟨RX5, "isSlot", "(I)Z"⟩
abbrev cX5_slotAt : ByteArray := prog_1_method_38_code
def yX5_slotAt : MethodName := ⟨RX5, "slotAt", "(I)LLeafInk$Sheet;"⟩
abbrev cX5_inkWhenCome : ByteArray := prog_1_method_39_code
def yX5_inkWhenCome : MethodName := ⟨RX5, "inkWhenCome", "(I)I"⟩
abbrev cX5_ordersWith : ByteArray := prog_1_method_40_code
def yX5_ordersWith : MethodName := ⟨RX5, "ordersWith", "(II)I"⟩
abbrev cX5_inkWhenBleached : ByteArray := prog_1_method_41_code
def yX5_inkWhenBleached : MethodName := ⟨RX5, "inkWhenBleached", "(II)I"⟩
abbrev cX5_bestLie : ByteArray := prog_1_method_42_code
def yX5_bestLie : MethodName := ⟨RX5, "bestLie", "()I"⟩
abbrev cX5_bestWindow : ByteArray := prog_1_method_43_code
def yX5_bestWindow : MethodName := ⟨RX5, "bestWindow", "(Z)I"⟩
abbrev cX5_lieNumber : ByteArray := prog_1_method_44_code
def yX5_lieNumber : MethodName := ⟨RX5, "lieNumber", "(II)I"⟩
abbrev cX5_windowNumber : ByteArray := prog_1_method_45_code
def yX5_windowNumber : MethodName := ⟨RX5, "windowNumber", "(II)I"⟩
abbrev cX5_canBe : ByteArray := prog_1_method_46_code
def yX5_canBe : MethodName := ⟨RX5, "canBe", "(I)Z"⟩
abbrev cX5_canPaint : ByteArray := prog_1_method_47_code
def yX5_canPaint : MethodName := ⟨RX5, "canPaint", "(III)Z"⟩
abbrev cX5_canLighten : ByteArray := prog_1_method_48_code
def yX5_canLighten : MethodName := ⟨RX5, "canLighten", "(I)Z"⟩
abbrev cX5_canRule : ByteArray := prog_1_method_49_code
def yX5_canRule : MethodName := ⟨RX5, "canRule", "(III)Z"⟩
abbrev cX5_canTable : ByteArray := prog_1_method_50_code
def yX5_canTable : MethodName := ⟨RX5, "canTable", "(II)Z"⟩
abbrev cX5_canLay : ByteArray := prog_1_method_51_code
def yX5_canLay : MethodName := ⟨RX5, "canLay", "(II)Z"⟩
abbrev cX5_isSoMarked : ByteArray := prog_1_method_52_code
def yX5_isSoMarked : MethodName := ⟨RX5, "isSoMarked", "(II)Z"⟩
abbrev cX5_fraction : ByteArray := prog_1_method_53_code
def yX5_fraction : MethodName := ⟨RX5, "fraction", "(IIZ)I"⟩
abbrev cX5_commonDivisor : ByteArray := prog_1_method_54_code
def yX5_commonDivisor : MethodName := ⟨RX5, "commonDivisor", "(II)I"⟩
abbrev cX5_remainder : ByteArray := prog_1_method_55_code
def yX5_remainder : MethodName := ⟨RX5, "remainder", "(II)I"⟩
abbrev cX5_factorial : ByteArray := prog_1_method_56_code
def yX5_factorial : MethodName := ⟨RX5, "factorial", "(I)I"⟩
abbrev cX5_power : ByteArray := prog_1_method_57_code
def yX5_power : MethodName := ⟨RX5, "power", "(II)I"⟩
def RX6 : String := "LeafInkModel"
def TX6 : u_T := fun k => match k with
  | 0 => ("LeafInkModel", "thrown", "I", false)
  | 1 => ("LeafInkModel", "text", "[I", true)
  | 2 => ("LeafInkModel", "textSize", "I", false)
  | 3 => ("LeafInkModel", "readPage", "[I", true)
  | 4 => ("LeafInkModel", "page", "[I", true)
  | 5 => ("LeafInkModel", "trial", "[I", true)
  | 6 => ("LeafInkModel", "book", "[I", true)
  | 7 => ("LeafInkModel", "doings", "I", false)
  | 8 => ("LeafInkModel", "kept", "[I", true)
  | 9 => ("LeafInkModel", "isKept", "[Z", true)
  | 10 => ("LeafInkModel", "seen", "I", false)
  | 11 => ("LeafInkModel", "seenDot", "[I", true)
  | 12 => ("LeafInkModel", "seenInk", "[I", true)
  | 13 => ("LeafInkModel", "seed", "J", false)
  | 14 => ("LeafInkModel", "windowMany", "I", false)
  | 15 => ("LeafInkModel", "windowSum", "I", false)
  | 16 => ("LeafInkModel", "windowSquares", "I", false)
  | 17 => ("LeafInkModel", "fitSum", "I", false)
  | 18 => ("LeafInkModel", "fitMany", "I", false)
  | 19 => ("LeafInkModel", "wayMany", "I", false)
  | 20 => ("LeafInkModel", "wayFirst", "I", false)
  | _ => ("LeafInkModel", "value", "[I", true)
def tyX6 : Nat → FieldType := fun k => match k with
  | 0 => .int
  | 1 => .array .int
  | 2 => .int
  | 3 => .array .int
  | 4 => .array .int
  | 5 => .array .int
  | 6 => .array .int
  | 7 => .int
  | 8 => .array .int
  | 9 => .array .boolean
  | 10 => .int
  | 11 => .array .int
  | 12 => .array .int
  | 13 => .long
  | 14 => .int
  | 15 => .int
  | 16 => .int
  | 17 => .int
  | 18 => .int
  | 19 => .int
  | 20 => .int
  | _ => .array .int
abbrev wsX60 : List Cond := u_ws RX6 TX6 22
theorem nmX6 : ∀ a, a < 22 → ∀ b, b < 22 → a ≠ b → (TX6 a).2.1 ≠ (TX6 b).2.1 := by decide +kernel
theorem tyX6_ok : ∀ k, k < 22 → parseFieldDescriptor (TX6 k).2.2.1 = some (tyX6 k) := by decide +kernel
abbrev cX6_init : ByteArray := prog_8_method_1_code
def yX6_init : MethodName := ⟨RX6, "<init>", "()V"⟩
abbrev cX6_in : ByteArray := prog_8_method_3_code
def yX6_in : MethodName := ⟨RX6, "in", "(JJJ)Z"⟩
abbrev cX6_has : ByteArray := prog_8_method_4_code
def yX6_has : MethodName := ⟨RX6, "has", "(II)Z"⟩
abbrev cX6_many : ByteArray := prog_8_method_5_code
def yX6_many : MethodName := ⟨RX6, "many", "(I)I"⟩
abbrev cX6_power : ByteArray := prog_8_method_6_code
def yX6_power : MethodName := ⟨RX6, "power", "(II)I"⟩
abbrev cX6_divisor : ByteArray := prog_8_method_7_code
def yX6_divisor : MethodName := ⟨RX6, "divisor", "(II)I"⟩
abbrev cX6_fraction : ByteArray := prog_8_method_8_code
def yX6_fraction : MethodName := ⟨RX6, "fraction", "(IIZ)I"⟩
abbrev cX6_openRule : ByteArray := prog_8_method_9_code
def yX6_openRule : MethodName := ⟨RX6, "openRule", "([I)V"⟩
abbrev cX6_dotsOf : ByteArray := prog_8_method_10_code
def yX6_dotsOf : MethodName := ⟨RX6, "dotsOf", "([I)I"⟩
abbrev cX6_noDot : ByteArray := prog_8_method_11_code
def yX6_noDot : MethodName := ⟨RX6, "noDot", "(I)Z"⟩
abbrev cX6_write : ByteArray := prog_8_method_12_code
def yX6_write : MethodName := ⟨RX6, "write", "(I)I"⟩
abbrev cX6_wipe : ByteArray := prog_8_method_13_code
def yX6_wipe : MethodName := ⟨RX6, "wipe", "()I"⟩
abbrev cX6_figureAt : ByteArray := prog_8_method_14_code
def yX6_figureAt : MethodName := ⟨RX6, "figureAt", "(I)I"⟩
abbrev cX6_readLeaf : ByteArray := prog_8_method_15_code
def yX6_readLeaf : MethodName := ⟨RX6, "readLeaf", "()I"⟩
abbrev cX6_fault : ByteArray := prog_8_method_16_code
def yX6_fault : MethodName := ⟨RX6, "fault", "()I"⟩
abbrev cX6_leaf : ByteArray := prog_8_method_17_code
def yX6_leaf : MethodName := ⟨RX6, "leaf", "()I"⟩
abbrev cX6_far : ByteArray := prog_8_method_18_code
def yX6_far : MethodName := ⟨RX6, "far", "(II)I"⟩
abbrev cX6_layWindow : ByteArray := prog_8_method_19_code
def yX6_layWindow : MethodName := ⟨RX6, "layWindow", "([III)V"⟩
abbrev cX6_isDark : ByteArray := prog_8_method_20_code
def yX6_isDark : MethodName := ⟨RX6, "isDark", "([II)Z"⟩
abbrev cX6_underOf : ByteArray := prog_8_method_21_code
def yX6_underOf : MethodName := ⟨RX6, "underOf", "([IIII)I"⟩
abbrev cX6_markOf : ByteArray := prog_8_method_22_code
def yX6_markOf : MethodName := ⟨RX6, "markOf", "([II)I"⟩
abbrev cX6_inkOf : ByteArray := prog_8_method_23_code
def yX6_inkOf : MethodName := ⟨RX6, "inkOf", "([I)I"⟩
abbrev cX6_marks : ByteArray := prog_8_method_24_code
def yX6_marks : MethodName := ⟨RX6, "marks", "(II)I"⟩
abbrev cX6_greys : ByteArray := prog_8_method_25_code
def yX6_greys : MethodName := ⟨RX6, "greys", "([I)I"⟩
abbrev cX6_about : ByteArray := prog_8_method_26_code
def yX6_about : MethodName := ⟨RX6, "about", "(I)I"⟩
abbrev cX6_grey : ByteArray := prog_8_method_27_code
def yX6_grey : MethodName := ⟨RX6, "grey", "(II)I"⟩
abbrev cX6_shows : ByteArray := prog_8_method_28_code
def yX6_shows : MethodName := ⟨RX6, "shows", "(I)I"⟩
abbrev cX6_window : ByteArray := prog_8_method_29_code
def yX6_window : MethodName := ⟨RX6, "window", "(II)I"⟩
abbrev cX6_spread : ByteArray := prog_8_method_30_code
def yX6_spread : MethodName := ⟨RX6, "spread", "(IIZ)I"⟩
abbrev cX6_mark : ByteArray := prog_8_method_31_code
def yX6_mark : MethodName := ⟨RX6, "mark", "(I)I"⟩
abbrev cX6_under : ByteArray := prog_8_method_32_code
def yX6_under : MethodName := ⟨RX6, "under", "(I)I"⟩
abbrev cX6_hanging : ByteArray := prog_8_method_33_code
def yX6_hanging : MethodName := ⟨RX6, "hanging", "([III)I"⟩
abbrev cX6_cleaned : ByteArray := prog_8_method_34_code
def yX6_cleaned : MethodName := ⟨RX6, "cleaned", "(I)I"⟩
abbrev cX6_note : ByteArray := prog_8_method_35_code
def yX6_note : MethodName := ⟨RX6, "note", "()V"⟩
abbrev cX6_paint : ByteArray := prog_8_method_36_code
def yX6_paint : MethodName := ⟨RX6, "paint", "(III)I"⟩
abbrev cX6_canLight : ByteArray := prog_8_method_37_code
def yX6_canLight : MethodName := ⟨RX6, "canLight", "([II)Z"⟩
abbrev cX6_goLight : ByteArray := prog_8_method_38_code
def yX6_goLight : MethodName := ⟨RX6, "goLight", "([II)V"⟩
abbrev cX6_light : ByteArray := prog_8_method_39_code
def yX6_light : MethodName := ⟨RX6, "light", "(I)I"⟩
abbrev cX6_isRule : ByteArray := prog_8_method_40_code
def yX6_isRule : MethodName := ⟨RX6, "isRule", "(III)Z"⟩
abbrev cX6_goRule : ByteArray := prog_8_method_41_code
def yX6_goRule : MethodName := ⟨RX6, "goRule", "([IIII)V"⟩
abbrev cX6_rule : ByteArray := prog_8_method_42_code
def yX6_rule : MethodName := ⟨RX6, "rule", "(III)I"⟩
abbrev cX6_table : ByteArray := prog_8_method_43_code
def yX6_table : MethodName := ⟨RX6, "table", "(II)I"⟩
abbrev cX6_isLie : ByteArray := prog_8_method_44_code
def yX6_isLie : MethodName := ⟨RX6, "isLie", "(II)Z"⟩
abbrev cX6_lay : ByteArray := prog_8_method_45_code
def yX6_lay : MethodName := ⟨RX6, "lay", "(II)I"⟩
abbrev cX6_undo : ByteArray := prog_8_method_46_code
def yX6_undo : MethodName := ⟨RX6, "undo", "()I"⟩
abbrev cX6_layFit : ByteArray := prog_8_method_47_code
def yX6_layFit : MethodName := ⟨RX6, "layFit", "(II)V"⟩
abbrev cX6_fit : ByteArray := prog_8_method_48_code
def yX6_fit : MethodName := ⟨RX6, "fit", "(IIZ)I"⟩
abbrev cX6_bestLie : ByteArray := prog_8_method_49_code
def yX6_bestLie : MethodName := ⟨RX6, "bestLie", "()I"⟩
abbrev cX6_begin : ByteArray := prog_8_method_50_code
def yX6_begin : MethodName := ⟨RX6, "begin", "()V"⟩
abbrev cX6_inkBy : ByteArray := prog_8_method_51_code
def yX6_inkBy : MethodName := ⟨RX6, "inkBy", "(I)I"⟩
abbrev cX6_bestRule : ByteArray := prog_8_method_52_code
def yX6_bestRule : MethodName := ⟨RX6, "bestRule", "(Z)I"⟩
abbrev cX6_best : ByteArray := prog_8_method_53_code
def yX6_best : MethodName := ⟨RX6, "best", "(I)I"⟩
abbrev cX6_longPower : ByteArray := prog_8_method_54_code
def yX6_longPower : MethodName := ⟨RX6, "longPower", "(JI)J"⟩
abbrev cX6_puts : ByteArray := prog_8_method_55_code
def yX6_puts : MethodName := ⟨RX6, "puts", "(ZII)Z"⟩
abbrev cX6_lights : ByteArray := prog_8_method_56_code
def yX6_lights : MethodName := ⟨RX6, "lights", "(I)Z"⟩
abbrev cX6_rules : ByteArray := prog_8_method_57_code
def yX6_rules : MethodName := ⟨RX6, "rules", "(III)Z"⟩
abbrev cX6_lies : ByteArray := prog_8_method_58_code
def yX6_lies : MethodName := ⟨RX6, "lies", "(II)Z"⟩
abbrev cX6_does : ByteArray := prog_8_method_59_code
def yX6_does : MethodName := ⟨RX6, "does", "(I)Z"⟩
abbrev cX6_judge : ByteArray := prog_8_method_60_code
def yX6_judge : MethodName := ⟨RX6, "judge", "(IJ)I"⟩
abbrev cX6_orders : ByteArray := prog_8_method_61_code
def yX6_orders : MethodName := ⟨RX6, "orders", "(II)I"⟩
abbrev cX6_inkOfRows : ByteArray := prog_8_method_62_code
def yX6_inkOfRows : MethodName := ⟨RX6, "inkOfRows", "(I)I"⟩
abbrev cX6_share : ByteArray := prog_8_method_63_code
def yX6_share : MethodName := ⟨RX6, "share", "(IZ)I"⟩
abbrev cX6_see : ByteArray := prog_8_method_64_code
def yX6_see : MethodName := ⟨RX6, "see", "(II)I"⟩
abbrev cX6_unsee : ByteArray := prog_8_method_65_code
def yX6_unsee : MethodName := ⟨RX6, "unsee", "()I"⟩
abbrev cX6_ways : ByteArray := prog_8_method_66_code
def yX6_ways : MethodName := ⟨RX6, "ways", "(I)I"⟩
abbrev cX6_bleached : ByteArray := prog_8_method_67_code
def yX6_bleached : MethodName := ⟨RX6, "bleached", "(IIIZ)I"⟩
abbrev cX6_seed : ByteArray := prog_8_method_68_code
def yX6_seed : MethodName := ⟨RX6, "seed", "(J)J"⟩
abbrev cX6_drawn : ByteArray := prog_8_method_69_code
def yX6_drawn : MethodName := ⟨RX6, "drawn", "(I)I"⟩
abbrev cX6_keep : ByteArray := prog_8_method_70_code
def yX6_keep : MethodName := ⟨RX6, "keep", "(I)I"⟩
abbrev cX6_again : ByteArray := prog_8_method_71_code
def yX6_again : MethodName := ⟨RX6, "again", "(I)I"⟩
def RJ6 : String := "java/lang/Integer"
def TJ6 : u_T := fun k => match k with
  | _ => ("", "", "", false)
def tyJ6 : Nat → FieldType := fun k => match k with
  | _ => .int
abbrev wsJ60 : List Cond := u_ws RJ6 TJ6 0
theorem nmJ6 : ∀ a, a < 0 → ∀ b, b < 0 → a ≠ b → (TJ6 a).2.1 ≠ (TJ6 b).2.1 := by decide +kernel
theorem tyJ6_ok : ∀ k, k < 0 → parseFieldDescriptor (TJ6 k).2.2.1 = some (tyJ6 k) := by decide +kernel
abbrev cJ6_bitCount_0f7a4 : ByteArray := prog_9_method_49_code
def yJ6_bitCount_0f7a4 : MethodName := ⟨RJ6, "bitCount", "(I)I"⟩
def RJ9 : String := "java/lang/Math"
def TJ9 : u_T := fun k => match k with
  | _ => ("", "", "", false)
def tyJ9 : Nat → FieldType := fun k => match k with
  | _ => .int
abbrev wsJ90 : List Cond := u_ws RJ9 TJ9 0
theorem nmJ9 : ∀ a, a < 0 → ∀ b, b < 0 → a ≠ b → (TJ9 a).2.1 ≠ (TJ9 b).2.1 := by decide +kernel
theorem tyJ9_ok : ∀ k, k < 0 → parseFieldDescriptor (TJ9 k).2.2.1 = some (tyJ9 k) := by decide +kernel
abbrev cJ9_abs_0f7a4 : ByteArray := prog_10_method_59_code
def yJ9_abs_0f7a4 : MethodName := ⟨RJ9, "abs", "(I)I"⟩
abbrev cJ9_max_7cf53 : ByteArray := prog_10_method_65_code
def yJ9_max_7cf53 : MethodName := ⟨RJ9, "max", "(II)I"⟩
abbrev cJ9_min_7cf53 : ByteArray := prog_10_method_69_code
def yJ9_min_7cf53 : MethodName := ⟨RJ9, "min", "(II)I"⟩
def RJ10 : String := "java/lang/System"
def TJ10 : u_T := fun k => match k with
  | _ => ("", "", "", false)
def tyJ10 : Nat → FieldType := fun k => match k with
  | _ => .int
abbrev wsJ100 : List Cond := u_ws RJ10 TJ10 0
theorem nmJ10 : ∀ a, a < 0 → ∀ b, b < 0 → a ≠ b → (TJ10 a).2.1 ≠ (TJ10 b).2.1 := by decide +kernel
theorem tyJ10_ok : ∀ k, k < 0 → parseFieldDescriptor (TJ10 k).2.2.1 = some (tyJ10 k) := by decide +kernel
def RL : String := "LeafInkLaw"
abbrev cL_law : ByteArray := code
def yL_law : MethodName := ⟨RL, "law", "([I)Z"⟩
abbrev vwCl : List vw_C := [(RX0, TX0, 5), (RX1, TX1, 7), (RX2, TX2, 3), (RX3, TX3, 10), (RX4, TX4, 2), (RX5, TX5, 11), (RX6, TX6, 22)]
end
section
theorem dX0_init_0 : decode cX0_init 0 = .ok (.aload_n 0, 1) := by decide +kernel
theorem dX0_init_1 : decode cX0_init 1 = .ok (.invokespecial 3, 3) := by decide +kernel
theorem dX0_init_4 : decode cX0_init 4 = .ok (.aload_n 0, 1) := by decide +kernel
theorem dX0_init_5 : decode cX0_init 5 = .ok (.bipush 14, 2) := by decide +kernel
theorem dX0_init_7 : decode cX0_init 7 = .ok (.newarray .int, 2) := by decide +kernel
theorem dX0_init_9 : decode cX0_init 9 = .ok (.putfield 9, 3) := by decide +kernel
theorem dX0_init_12 : decode cX0_init 12 = .ok (.aload_n 0, 1) := by decide +kernel
theorem dX0_init_13 : decode cX0_init 13 = .ok (.bipush 14, 2) := by decide +kernel
theorem dX0_init_15 : decode cX0_init 15 = .ok (.newarray .int, 2) := by decide +kernel
theorem dX0_init_17 : decode cX0_init 17 = .ok (.putfield 15, 3) := by decide +kernel
theorem dX0_init_20 : decode cX0_init 20 = .ok (.aload_n 0, 1) := by decide +kernel
theorem dX0_init_21 : decode cX0_init 21 = .ok (.bipush 14, 2) := by decide +kernel
theorem dX0_init_23 : decode cX0_init 23 = .ok (.newarray .int, 2) := by decide +kernel
theorem dX0_init_25 : decode cX0_init 25 = .ok (.putfield 18, 3) := by decide +kernel
theorem dX0_init_28 : decode cX0_init 28 = .ok (.aload_n 0, 1) := by decide +kernel
theorem dX0_init_29 : decode cX0_init 29 = .ok (.bipush 14, 2) := by decide +kernel
theorem dX0_init_31 : decode cX0_init 31 = .ok (.newarray .int, 2) := by decide +kernel
theorem dX0_init_33 : decode cX0_init 33 = .ok (.putfield 21, 3) := by decide +kernel
theorem dX0_init_36 : decode cX0_init 36 = .ok (.aload_n 0, 1) := by decide +kernel
theorem dX0_init_37 : decode cX0_init 37 = .ok (.iconst 0, 1) := by decide +kernel
theorem dX0_init_38 : decode cX0_init 38 = .ok (.putfield 24, 3) := by decide +kernel
theorem dX0_init_41 : decode cX0_init 41 = .ok (.return_, 1) := by decide +kernel
theorem dX0_size_0 : decode cX0_size 0 = .ok (.aload_n 0, 1) := by decide +kernel
theorem dX0_size_1 : decode cX0_size 1 = .ok (.getfield 24, 3) := by decide +kernel
theorem dX0_size_4 : decode cX0_size 4 = .ok (.ireturn, 1) := by decide +kernel
theorem dX0_forgetAll_0 : decode cX0_forgetAll 0 = .ok (.aload_n 0, 1) := by decide +kernel
theorem dX0_forgetAll_1 : decode cX0_forgetAll 1 = .ok (.iconst 0, 1) := by decide +kernel
theorem dX0_forgetAll_2 : decode cX0_forgetAll 2 = .ok (.putfield 24, 3) := by decide +kernel
theorem dX0_forgetAll_5 : decode cX0_forgetAll 5 = .ok (.return_, 1) := by decide +kernel
theorem dX0_add_0 : decode cX0_add 0 = .ok (.aload_n 0, 1) := by decide +kernel
theorem dX0_add_1 : decode cX0_add 1 = .ok (.getfield 24, 3) := by decide +kernel
theorem dX0_add_4 : decode cX0_add 4 = .ok (.bipush 14, 2) := by decide +kernel
theorem dX0_add_6 : decode cX0_add 6 = .ok (.if_icmp .lt 7, 3) := by decide +kernel
theorem dX0_add_9 : decode cX0_add 9 = .ok (.aload_n 0, 1) := by decide +kernel
theorem dX0_add_10 : decode cX0_add 10 = .ok (.invokevirtual 28, 3) := by decide +kernel
theorem dX0_add_13 : decode cX0_add 13 = .ok (.aload_n 0, 1) := by decide +kernel
theorem dX0_add_14 : decode cX0_add 14 = .ok (.getfield 9, 3) := by decide +kernel
theorem dX0_add_17 : decode cX0_add 17 = .ok (.aload_n 0, 1) := by decide +kernel
theorem dX0_add_18 : decode cX0_add 18 = .ok (.getfield 24, 3) := by decide +kernel
theorem dX0_add_21 : decode cX0_add 21 = .ok (.iload_n 1, 1) := by decide +kernel
theorem dX0_add_22 : decode cX0_add 22 = .ok (.iastore, 1) := by decide +kernel
theorem dX0_add_23 : decode cX0_add 23 = .ok (.aload_n 0, 1) := by decide +kernel
theorem dX0_add_24 : decode cX0_add 24 = .ok (.getfield 15, 3) := by decide +kernel
theorem dX0_add_27 : decode cX0_add 27 = .ok (.aload_n 0, 1) := by decide +kernel
theorem dX0_add_28 : decode cX0_add 28 = .ok (.getfield 24, 3) := by decide +kernel
theorem dX0_add_31 : decode cX0_add 31 = .ok (.iload_n 2, 1) := by decide +kernel
theorem dX0_add_32 : decode cX0_add 32 = .ok (.iastore, 1) := by decide +kernel
theorem dX0_add_33 : decode cX0_add 33 = .ok (.aload_n 0, 1) := by decide +kernel
theorem dX0_add_34 : decode cX0_add 34 = .ok (.getfield 18, 3) := by decide +kernel
theorem dX0_add_37 : decode cX0_add 37 = .ok (.aload_n 0, 1) := by decide +kernel
theorem dX0_add_38 : decode cX0_add 38 = .ok (.getfield 24, 3) := by decide +kernel
theorem dX0_add_41 : decode cX0_add 41 = .ok (.iload_n 3, 1) := by decide +kernel
theorem dX0_add_42 : decode cX0_add 42 = .ok (.iastore, 1) := by decide +kernel
theorem dX0_add_43 : decode cX0_add 43 = .ok (.aload_n 0, 1) := by decide +kernel
theorem dX0_add_44 : decode cX0_add 44 = .ok (.getfield 21, 3) := by decide +kernel
theorem dX0_add_47 : decode cX0_add 47 = .ok (.aload_n 0, 1) := by decide +kernel
theorem dX0_add_48 : decode cX0_add 48 = .ok (.getfield 24, 3) := by decide +kernel
theorem dX0_add_51 : decode cX0_add 51 = .ok (.iload 4, 2) := by decide +kernel
theorem dX0_add_53 : decode cX0_add 53 = .ok (.iastore, 1) := by decide +kernel
theorem dX0_add_54 : decode cX0_add 54 = .ok (.aload_n 0, 1) := by decide +kernel
theorem dX0_add_55 : decode cX0_add 55 = .ok (.dup, 1) := by decide +kernel
theorem dX0_add_56 : decode cX0_add 56 = .ok (.getfield 24, 3) := by decide +kernel
theorem dX0_add_59 : decode cX0_add 59 = .ok (.iconst 1, 1) := by decide +kernel
theorem dX0_add_60 : decode cX0_add 60 = .ok (.iadd, 1) := by decide +kernel
theorem dX0_add_61 : decode cX0_add 61 = .ok (.putfield 24, 3) := by decide +kernel
theorem dX0_add_64 : decode cX0_add 64 = .ok (.return_, 1) := by decide +kernel
theorem dX0_forgetFirst_0 : decode cX0_forgetFirst 0 = .ok (.aload_n 0, 1) := by decide +kernel
theorem dX0_forgetFirst_1 : decode cX0_forgetFirst 1 = .ok (.bipush 13, 2) := by decide +kernel
theorem dX0_forgetFirst_3 : decode cX0_forgetFirst 3 = .ok (.putfield 24, 3) := by decide +kernel
theorem dX0_forgetFirst_6 : decode cX0_forgetFirst 6 = .ok (.aload_n 0, 1) := by decide +kernel
theorem dX0_forgetFirst_7 : decode cX0_forgetFirst 7 = .ok (.getfield 9, 3) := by decide +kernel
theorem dX0_forgetFirst_10 : decode cX0_forgetFirst 10 = .ok (.iconst 1, 1) := by decide +kernel
theorem dX0_forgetFirst_11 : decode cX0_forgetFirst 11 = .ok (.aload_n 0, 1) := by decide +kernel
theorem dX0_forgetFirst_12 : decode cX0_forgetFirst 12 = .ok (.getfield 9, 3) := by decide +kernel
theorem dX0_forgetFirst_15 : decode cX0_forgetFirst 15 = .ok (.iconst 0, 1) := by decide +kernel
theorem dX0_forgetFirst_16 : decode cX0_forgetFirst 16 = .ok (.aload_n 0, 1) := by decide +kernel
theorem dX0_forgetFirst_17 : decode cX0_forgetFirst 17 = .ok (.getfield 24, 3) := by decide +kernel
theorem dX0_forgetFirst_20 : decode cX0_forgetFirst 20 = .ok (.invokestatic 31, 3) := by decide +kernel
theorem dX0_forgetFirst_23 : decode cX0_forgetFirst 23 = .ok (.aload_n 0, 1) := by decide +kernel
theorem dX0_forgetFirst_24 : decode cX0_forgetFirst 24 = .ok (.getfield 15, 3) := by decide +kernel
theorem dX0_forgetFirst_27 : decode cX0_forgetFirst 27 = .ok (.iconst 1, 1) := by decide +kernel
theorem dX0_forgetFirst_28 : decode cX0_forgetFirst 28 = .ok (.aload_n 0, 1) := by decide +kernel
theorem dX0_forgetFirst_29 : decode cX0_forgetFirst 29 = .ok (.getfield 15, 3) := by decide +kernel
theorem dX0_forgetFirst_32 : decode cX0_forgetFirst 32 = .ok (.iconst 0, 1) := by decide +kernel
theorem dX0_forgetFirst_33 : decode cX0_forgetFirst 33 = .ok (.aload_n 0, 1) := by decide +kernel
theorem dX0_forgetFirst_34 : decode cX0_forgetFirst 34 = .ok (.getfield 24, 3) := by decide +kernel
theorem dX0_forgetFirst_37 : decode cX0_forgetFirst 37 = .ok (.invokestatic 31, 3) := by decide +kernel
theorem dX0_forgetFirst_40 : decode cX0_forgetFirst 40 = .ok (.aload_n 0, 1) := by decide +kernel
theorem dX0_forgetFirst_41 : decode cX0_forgetFirst 41 = .ok (.getfield 18, 3) := by decide +kernel
theorem dX0_forgetFirst_44 : decode cX0_forgetFirst 44 = .ok (.iconst 1, 1) := by decide +kernel
theorem dX0_forgetFirst_45 : decode cX0_forgetFirst 45 = .ok (.aload_n 0, 1) := by decide +kernel
theorem dX0_forgetFirst_46 : decode cX0_forgetFirst 46 = .ok (.getfield 18, 3) := by decide +kernel
theorem dX0_forgetFirst_49 : decode cX0_forgetFirst 49 = .ok (.iconst 0, 1) := by decide +kernel
theorem dX0_forgetFirst_50 : decode cX0_forgetFirst 50 = .ok (.aload_n 0, 1) := by decide +kernel
theorem dX0_forgetFirst_51 : decode cX0_forgetFirst 51 = .ok (.getfield 24, 3) := by decide +kernel
theorem dX0_forgetFirst_54 : decode cX0_forgetFirst 54 = .ok (.invokestatic 31, 3) := by decide +kernel
theorem dX0_forgetFirst_57 : decode cX0_forgetFirst 57 = .ok (.aload_n 0, 1) := by decide +kernel
theorem dX0_forgetFirst_58 : decode cX0_forgetFirst 58 = .ok (.getfield 21, 3) := by decide +kernel
theorem dX0_forgetFirst_61 : decode cX0_forgetFirst 61 = .ok (.iconst 1, 1) := by decide +kernel
theorem dX0_forgetFirst_62 : decode cX0_forgetFirst 62 = .ok (.aload_n 0, 1) := by decide +kernel
theorem dX0_forgetFirst_63 : decode cX0_forgetFirst 63 = .ok (.getfield 21, 3) := by decide +kernel
theorem dX0_forgetFirst_66 : decode cX0_forgetFirst 66 = .ok (.iconst 0, 1) := by decide +kernel
theorem dX0_forgetFirst_67 : decode cX0_forgetFirst 67 = .ok (.aload_n 0, 1) := by decide +kernel
theorem dX0_forgetFirst_68 : decode cX0_forgetFirst 68 = .ok (.getfield 24, 3) := by decide +kernel
theorem dX0_forgetFirst_71 : decode cX0_forgetFirst 71 = .ok (.invokestatic 31, 3) := by decide +kernel
theorem dX0_forgetFirst_74 : decode cX0_forgetFirst 74 = .ok (.return_, 1) := by decide +kernel
theorem dX0_takeBackLast_0 : decode cX0_takeBackLast 0 = .ok (.aload_n 0, 1) := by decide +kernel
theorem dX0_takeBackLast_1 : decode cX0_takeBackLast 1 = .ok (.getfield 24, 3) := by decide +kernel
theorem dX0_takeBackLast_4 : decode cX0_takeBackLast 4 = .ok (.ifCond .le 45, 3) := by decide +kernel
theorem dX0_takeBackLast_7 : decode cX0_takeBackLast 7 = .ok (.aload_n 0, 1) := by decide +kernel
theorem dX0_takeBackLast_8 : decode cX0_takeBackLast 8 = .ok (.dup, 1) := by decide +kernel
theorem dX0_takeBackLast_9 : decode cX0_takeBackLast 9 = .ok (.getfield 24, 3) := by decide +kernel
theorem dX0_takeBackLast_12 : decode cX0_takeBackLast 12 = .ok (.iconst 1, 1) := by decide +kernel
theorem dX0_takeBackLast_13 : decode cX0_takeBackLast 13 = .ok (.isub, 1) := by decide +kernel
theorem dX0_takeBackLast_14 : decode cX0_takeBackLast 14 = .ok (.putfield 24, 3) := by decide +kernel
theorem dX0_takeBackLast_17 : decode cX0_takeBackLast 17 = .ok (.aload_n 0, 1) := by decide +kernel
theorem dX0_takeBackLast_18 : decode cX0_takeBackLast 18 = .ok (.aload_n 1, 1) := by decide +kernel
theorem dX0_takeBackLast_19 : decode cX0_takeBackLast 19 = .ok (.aload_n 0, 1) := by decide +kernel
theorem dX0_takeBackLast_20 : decode cX0_takeBackLast 20 = .ok (.getfield 15, 3) := by decide +kernel
theorem dX0_takeBackLast_23 : decode cX0_takeBackLast 23 = .ok (.aload_n 0, 1) := by decide +kernel
theorem dX0_takeBackLast_24 : decode cX0_takeBackLast 24 = .ok (.getfield 24, 3) := by decide +kernel
theorem dX0_takeBackLast_27 : decode cX0_takeBackLast 27 = .ok (.iaload, 1) := by decide +kernel
theorem dX0_takeBackLast_28 : decode cX0_takeBackLast 28 = .ok (.aload_n 0, 1) := by decide +kernel
theorem dX0_takeBackLast_29 : decode cX0_takeBackLast 29 = .ok (.getfield 18, 3) := by decide +kernel
theorem dX0_takeBackLast_32 : decode cX0_takeBackLast 32 = .ok (.aload_n 0, 1) := by decide +kernel
theorem dX0_takeBackLast_33 : decode cX0_takeBackLast 33 = .ok (.getfield 24, 3) := by decide +kernel
theorem dX0_takeBackLast_36 : decode cX0_takeBackLast 36 = .ok (.iaload, 1) := by decide +kernel
theorem dX0_takeBackLast_37 : decode cX0_takeBackLast 37 = .ok (.aload_n 0, 1) := by decide +kernel
theorem dX0_takeBackLast_38 : decode cX0_takeBackLast 38 = .ok (.getfield 21, 3) := by decide +kernel
theorem dX0_takeBackLast_41 : decode cX0_takeBackLast 41 = .ok (.aload_n 0, 1) := by decide +kernel
theorem dX0_takeBackLast_42 : decode cX0_takeBackLast 42 = .ok (.getfield 24, 3) := by decide +kernel
theorem dX0_takeBackLast_45 : decode cX0_takeBackLast 45 = .ok (.iaload, 1) := by decide +kernel
theorem dX0_takeBackLast_46 : decode cX0_takeBackLast 46 = .ok (.invokevirtual 37, 3) := by decide +kernel
theorem dX0_takeBackLast_49 : decode cX0_takeBackLast 49 = .ok (.aload_n 0, 1) := by decide +kernel
theorem dX0_takeBackLast_50 : decode cX0_takeBackLast 50 = .ok (.getfield 24, 3) := by decide +kernel
theorem dX0_takeBackLast_53 : decode cX0_takeBackLast 53 = .ok (.ireturn, 1) := by decide +kernel
theorem dX0_takeBack_0 : decode cX0_takeBack 0 = .ok (.aload_n 0, 1) := by decide +kernel
theorem dX0_takeBack_1 : decode cX0_takeBack 1 = .ok (.getfield 9, 3) := by decide +kernel
theorem dX0_takeBack_4 : decode cX0_takeBack 4 = .ok (.aload_n 0, 1) := by decide +kernel
theorem dX0_takeBack_5 : decode cX0_takeBack 5 = .ok (.getfield 24, 3) := by decide +kernel
theorem dX0_takeBack_8 : decode cX0_takeBack 8 = .ok (.iaload, 1) := by decide +kernel
theorem dX0_takeBack_9 : decode cX0_takeBack 9 = .ok (.tableswitch 71 1 4 #[31, 42, 51, 62], 31) := by decide +kernel
theorem dX0_takeBack_40 : decode cX0_takeBack 40 = .ok (.aload_n 1, 1) := by decide +kernel
theorem dX0_takeBack_41 : decode cX0_takeBack 41 = .ok (.iload_n 2, 1) := by decide +kernel
theorem dX0_takeBack_42 : decode cX0_takeBack 42 = .ok (.iload_n 3, 1) := by decide +kernel
theorem dX0_takeBack_43 : decode cX0_takeBack 43 = .ok (.iload 4, 2) := by decide +kernel
theorem dX0_takeBack_45 : decode cX0_takeBack 45 = .ok (.invokevirtual 41, 3) := by decide +kernel
theorem dX0_takeBack_48 : decode cX0_takeBack 48 = .ok (.goto 38, 3) := by decide +kernel
theorem dX0_takeBack_51 : decode cX0_takeBack 51 = .ok (.aload_n 1, 1) := by decide +kernel
theorem dX0_takeBack_52 : decode cX0_takeBack 52 = .ok (.iload_n 2, 1) := by decide +kernel
theorem dX0_takeBack_53 : decode cX0_takeBack 53 = .ok (.ineg, 1) := by decide +kernel
theorem dX0_takeBack_54 : decode cX0_takeBack 54 = .ok (.invokevirtual 47, 3) := by decide +kernel
theorem dX0_takeBack_57 : decode cX0_takeBack 57 = .ok (.goto 29, 3) := by decide +kernel
theorem dX0_takeBack_60 : decode cX0_takeBack 60 = .ok (.aload_n 1, 1) := by decide +kernel
theorem dX0_takeBack_61 : decode cX0_takeBack 61 = .ok (.iload_n 2, 1) := by decide +kernel
theorem dX0_takeBack_62 : decode cX0_takeBack 62 = .ok (.iload_n 3, 1) := by decide +kernel
theorem dX0_takeBack_63 : decode cX0_takeBack 63 = .ok (.iload 4, 2) := by decide +kernel
theorem dX0_takeBack_65 : decode cX0_takeBack 65 = .ok (.invokevirtual 51, 3) := by decide +kernel
theorem dX0_takeBack_68 : decode cX0_takeBack 68 = .ok (.goto 18, 3) := by decide +kernel
theorem dX0_takeBack_71 : decode cX0_takeBack 71 = .ok (.aload_n 1, 1) := by decide +kernel
theorem dX0_takeBack_72 : decode cX0_takeBack 72 = .ok (.iload_n 2, 1) := by decide +kernel
theorem dX0_takeBack_73 : decode cX0_takeBack 73 = .ok (.iload_n 3, 1) := by decide +kernel
theorem dX0_takeBack_74 : decode cX0_takeBack 74 = .ok (.invokevirtual 54, 3) := by decide +kernel
theorem dX0_takeBack_77 : decode cX0_takeBack 77 = .ok (.goto 9, 3) := by decide +kernel
theorem dX0_takeBack_80 : decode cX0_takeBack 80 = .ok (.aload_n 1, 1) := by decide +kernel
theorem dX0_takeBack_81 : decode cX0_takeBack 81 = .ok (.iload_n 2, 1) := by decide +kernel
theorem dX0_takeBack_82 : decode cX0_takeBack 82 = .ok (.iload_n 3, 1) := by decide +kernel
theorem dX0_takeBack_83 : decode cX0_takeBack 83 = .ok (.invokevirtual 58, 3) := by decide +kernel
theorem dX0_takeBack_86 : decode cX0_takeBack 86 = .ok (.return_, 1) := by decide +kernel
theorem dX1_init_0 : decode cX1_init 0 = .ok (.aload_n 0, 1) := by decide +kernel
theorem dX1_init_1 : decode cX1_init 1 = .ok (.invokespecial 3, 3) := by decide +kernel
theorem dX1_init_4 : decode cX1_init 4 = .ok (.aload_n 0, 1) := by decide +kernel
theorem dX1_init_5 : decode cX1_init 5 = .ok (.bipush 25, 2) := by decide +kernel
theorem dX1_init_7 : decode cX1_init 7 = .ok (.newarray .int, 2) := by decide +kernel
theorem dX1_init_9 : decode cX1_init 9 = .ok (.putfield 9, 3) := by decide +kernel
theorem dX1_init_12 : decode cX1_init 12 = .ok (.aload_n 0, 1) := by decide +kernel
theorem dX1_init_13 : decode cX1_init 13 = .ok (.bipush 25, 2) := by decide +kernel
theorem dX1_init_15 : decode cX1_init 15 = .ok (.newarray .int, 2) := by decide +kernel
theorem dX1_init_17 : decode cX1_init 17 = .ok (.putfield 15, 3) := by decide +kernel
theorem dX1_init_20 : decode cX1_init 20 = .ok (.aload_n 0, 1) := by decide +kernel
theorem dX1_init_21 : decode cX1_init 21 = .ok (.bipush 25, 2) := by decide +kernel
theorem dX1_init_23 : decode cX1_init 23 = .ok (.newarray .int, 2) := by decide +kernel
theorem dX1_init_25 : decode cX1_init 25 = .ok (.putfield 18, 3) := by decide +kernel
theorem dX1_init_28 : decode cX1_init 28 = .ok (.aload_n 0, 1) := by decide +kernel
theorem dX1_init_29 : decode cX1_init 29 = .ok (.bipush 25, 2) := by decide +kernel
theorem dX1_init_31 : decode cX1_init 31 = .ok (.newarray .int, 2) := by decide +kernel
theorem dX1_init_33 : decode cX1_init 33 = .ok (.putfield 21, 3) := by decide +kernel
theorem dX1_init_36 : decode cX1_init 36 = .ok (.aload_n 0, 1) := by decide +kernel
theorem dX1_init_37 : decode cX1_init 37 = .ok (.bipush 25, 2) := by decide +kernel
theorem dX1_init_39 : decode cX1_init 39 = .ok (.newarray .int, 2) := by decide +kernel
theorem dX1_init_41 : decode cX1_init 41 = .ok (.putfield 24, 3) := by decide +kernel
theorem dX1_init_44 : decode cX1_init 44 = .ok (.aload_n 0, 1) := by decide +kernel
theorem dX1_init_45 : decode cX1_init 45 = .ok (.iconst 0, 1) := by decide +kernel
theorem dX1_init_46 : decode cX1_init 46 = .ok (.putfield 27, 3) := by decide +kernel
theorem dX1_init_49 : decode cX1_init 49 = .ok (.aload_n 0, 1) := by decide +kernel
theorem dX1_init_50 : decode cX1_init 50 = .ok (.iconst 0, 1) := by decide +kernel
theorem dX1_init_51 : decode cX1_init 51 = .ok (.putfield 31, 3) := by decide +kernel
theorem dX1_init_54 : decode cX1_init 54 = .ok (.return_, 1) := by decide +kernel
theorem dX1_howMany_0 : decode cX1_howMany 0 = .ok (.aload_n 0, 1) := by decide +kernel
theorem dX1_howMany_1 : decode cX1_howMany 1 = .ok (.aload_n 1, 1) := by decide +kernel
theorem dX1_howMany_2 : decode cX1_howMany 2 = .ok (.aload_n 1, 1) := by decide +kernel
theorem dX1_howMany_3 : decode cX1_howMany 3 = .ok (.getfield 34, 3) := by decide +kernel
theorem dX1_howMany_6 : decode cX1_howMany 6 = .ok (.invokevirtual 39, 3) := by decide +kernel
theorem dX1_howMany_9 : decode cX1_howMany 9 = .ok (.aload_n 0, 1) := by decide +kernel
theorem dX1_howMany_10 : decode cX1_howMany 10 = .ok (.aload_n 1, 1) := by decide +kernel
theorem dX1_howMany_11 : decode cX1_howMany 11 = .ok (.getfield 43, 3) := by decide +kernel
theorem dX1_howMany_14 : decode cX1_howMany 14 = .ok (.iload_n 2, 1) := by decide +kernel
theorem dX1_howMany_15 : decode cX1_howMany 15 = .ok (.invokevirtual 46, 3) := by decide +kernel
theorem dX1_howMany_18 : decode cX1_howMany 18 = .ok (.invokestatic 50, 3) := by decide +kernel
theorem dX1_howMany_21 : decode cX1_howMany 21 = .ok (.ireturn, 1) := by decide +kernel
theorem dX1_look_0 : decode cX1_look 0 = .ok (.aload_n 0, 1) := by decide +kernel
theorem dX1_look_1 : decode cX1_look 1 = .ok (.aload_n 1, 1) := by decide +kernel
theorem dX1_look_2 : decode cX1_look 2 = .ok (.invokevirtual 56, 3) := by decide +kernel
theorem dX1_look_5 : decode cX1_look 5 = .ok (.putfield 31, 3) := by decide +kernel
theorem dX1_look_8 : decode cX1_look 8 = .ok (.iconst 0, 1) := by decide +kernel
theorem dX1_look_9 : decode cX1_look 9 = .ok (.istore_n 3, 1) := by decide +kernel
theorem dX1_look_10 : decode cX1_look 10 = .ok (.iload_n 3, 1) := by decide +kernel
theorem dX1_look_11 : decode cX1_look 11 = .ok (.aload_n 0, 1) := by decide +kernel
theorem dX1_look_12 : decode cX1_look 12 = .ok (.getfield 31, 3) := by decide +kernel
theorem dX1_look_15 : decode cX1_look 15 = .ok (.if_icmp .ge 16, 3) := by decide +kernel
theorem dX1_look_18 : decode cX1_look 18 = .ok (.aload_n 0, 1) := by decide +kernel
theorem dX1_look_19 : decode cX1_look 19 = .ok (.aload_n 1, 1) := by decide +kernel
theorem dX1_look_20 : decode cX1_look 20 = .ok (.iload_n 3, 1) := by decide +kernel
theorem dX1_look_21 : decode cX1_look 21 = .ok (.iload_n 2, 1) := by decide +kernel
theorem dX1_look_22 : decode cX1_look 22 = .ok (.invokevirtual 59, 3) := by decide +kernel
theorem dX1_look_25 : decode cX1_look 25 = .ok (.iinc 3 1, 3) := by decide +kernel
theorem dX1_look_28 : decode cX1_look 28 = .ok (.goto (-18), 3) := by decide +kernel
theorem dX1_look_31 : decode cX1_look 31 = .ok (.return_, 1) := by decide +kernel
theorem dX1_lookAt_0 : decode cX1_lookAt 0 = .ok (.aload_n 1, 1) := by decide +kernel
theorem dX1_lookAt_1 : decode cX1_lookAt 1 = .ok (.iload_n 2, 1) := by decide +kernel
theorem dX1_lookAt_2 : decode cX1_lookAt 2 = .ok (.invokevirtual 63, 3) := by decide +kernel
theorem dX1_lookAt_5 : decode cX1_lookAt 5 = .ok (.ifCond .ne 4, 3) := by decide +kernel
theorem dX1_lookAt_8 : decode cX1_lookAt 8 = .ok (.return_, 1) := by decide +kernel
theorem dX1_lookAt_9 : decode cX1_lookAt 9 = .ok (.aload_n 0, 1) := by decide +kernel
theorem dX1_lookAt_10 : decode cX1_lookAt 10 = .ok (.aload_n 1, 1) := by decide +kernel
theorem dX1_lookAt_11 : decode cX1_lookAt 11 = .ok (.getfield 67, 3) := by decide +kernel
theorem dX1_lookAt_14 : decode cX1_lookAt 14 = .ok (.putfield 27, 3) := by decide +kernel
theorem dX1_lookAt_17 : decode cX1_lookAt 17 = .ok (.aload_n 0, 1) := by decide +kernel
theorem dX1_lookAt_18 : decode cX1_lookAt 18 = .ok (.getfield 21, 3) := by decide +kernel
theorem dX1_lookAt_21 : decode cX1_lookAt 21 = .ok (.iload_n 2, 1) := by decide +kernel
theorem dX1_lookAt_22 : decode cX1_lookAt 22 = .ok (.aload_n 1, 1) := by decide +kernel
theorem dX1_lookAt_23 : decode cX1_lookAt 23 = .ok (.iconst 0, 1) := by decide +kernel
theorem dX1_lookAt_24 : decode cX1_lookAt 24 = .ok (.iload_n 2, 1) := by decide +kernel
theorem dX1_lookAt_25 : decode cX1_lookAt 25 = .ok (.invokevirtual 68, 3) := by decide +kernel
theorem dX1_lookAt_28 : decode cX1_lookAt 28 = .ok (.iastore, 1) := by decide +kernel
theorem dX1_lookAt_29 : decode cX1_lookAt 29 = .ok (.aload_n 0, 1) := by decide +kernel
theorem dX1_lookAt_30 : decode cX1_lookAt 30 = .ok (.getfield 24, 3) := by decide +kernel
theorem dX1_lookAt_33 : decode cX1_lookAt 33 = .ok (.iload_n 2, 1) := by decide +kernel
theorem dX1_lookAt_34 : decode cX1_lookAt 34 = .ok (.aload_n 1, 1) := by decide +kernel
theorem dX1_lookAt_35 : decode cX1_lookAt 35 = .ok (.iload_n 2, 1) := by decide +kernel
theorem dX1_lookAt_36 : decode cX1_lookAt 36 = .ok (.invokevirtual 71, 3) := by decide +kernel
theorem dX1_lookAt_39 : decode cX1_lookAt 39 = .ok (.iastore, 1) := by decide +kernel
theorem dX1_lookAt_40 : decode cX1_lookAt 40 = .ok (.aload_n 1, 1) := by decide +kernel
theorem dX1_lookAt_41 : decode cX1_lookAt 41 = .ok (.iload_n 2, 1) := by decide +kernel
theorem dX1_lookAt_42 : decode cX1_lookAt 42 = .ok (.invokevirtual 74, 3) := by decide +kernel
theorem dX1_lookAt_45 : decode cX1_lookAt 45 = .ok (.istore 4, 2) := by decide +kernel
theorem dX1_lookAt_47 : decode cX1_lookAt 47 = .ok (.aload_n 1, 1) := by decide +kernel
theorem dX1_lookAt_48 : decode cX1_lookAt 48 = .ok (.iload_n 2, 1) := by decide +kernel
theorem dX1_lookAt_49 : decode cX1_lookAt 49 = .ok (.invokevirtual 77, 3) := by decide +kernel
theorem dX1_lookAt_52 : decode cX1_lookAt 52 = .ok (.istore 5, 2) := by decide +kernel
theorem dX1_lookAt_54 : decode cX1_lookAt 54 = .ok (.iconst 0, 1) := by decide +kernel
theorem dX1_lookAt_55 : decode cX1_lookAt 55 = .ok (.iload 4, 2) := by decide +kernel
theorem dX1_lookAt_57 : decode cX1_lookAt 57 = .ok (.iload_n 3, 1) := by decide +kernel
theorem dX1_lookAt_58 : decode cX1_lookAt 58 = .ok (.isub, 1) := by decide +kernel
theorem dX1_lookAt_59 : decode cX1_lookAt 59 = .ok (.invokestatic 80, 3) := by decide +kernel
theorem dX1_lookAt_62 : decode cX1_lookAt 62 = .ok (.istore 6, 2) := by decide +kernel
theorem dX1_lookAt_64 : decode cX1_lookAt 64 = .ok (.aload_n 1, 1) := by decide +kernel
theorem dX1_lookAt_65 : decode cX1_lookAt 65 = .ok (.getfield 85, 3) := by decide +kernel
theorem dX1_lookAt_68 : decode cX1_lookAt 68 = .ok (.iconst 1, 1) := by decide +kernel
theorem dX1_lookAt_69 : decode cX1_lookAt 69 = .ok (.isub, 1) := by decide +kernel
theorem dX1_lookAt_70 : decode cX1_lookAt 70 = .ok (.iload 4, 2) := by decide +kernel
theorem dX1_lookAt_72 : decode cX1_lookAt 72 = .ok (.iload_n 3, 1) := by decide +kernel
theorem dX1_lookAt_73 : decode cX1_lookAt 73 = .ok (.iadd, 1) := by decide +kernel
theorem dX1_lookAt_74 : decode cX1_lookAt 74 = .ok (.invokestatic 88, 3) := by decide +kernel
theorem dX1_lookAt_77 : decode cX1_lookAt 77 = .ok (.istore 7, 2) := by decide +kernel
theorem dX1_lookAt_79 : decode cX1_lookAt 79 = .ok (.iconst 0, 1) := by decide +kernel
theorem dX1_lookAt_80 : decode cX1_lookAt 80 = .ok (.iload 5, 2) := by decide +kernel
theorem dX1_lookAt_82 : decode cX1_lookAt 82 = .ok (.iload_n 3, 1) := by decide +kernel
theorem dX1_lookAt_83 : decode cX1_lookAt 83 = .ok (.isub, 1) := by decide +kernel
theorem dX1_lookAt_84 : decode cX1_lookAt 84 = .ok (.invokestatic 80, 3) := by decide +kernel
theorem dX1_lookAt_87 : decode cX1_lookAt 87 = .ok (.istore 8, 2) := by decide +kernel
theorem dX1_lookAt_89 : decode cX1_lookAt 89 = .ok (.aload_n 1, 1) := by decide +kernel
theorem dX1_lookAt_90 : decode cX1_lookAt 90 = .ok (.getfield 91, 3) := by decide +kernel
theorem dX1_lookAt_93 : decode cX1_lookAt 93 = .ok (.iconst 1, 1) := by decide +kernel
theorem dX1_lookAt_94 : decode cX1_lookAt 94 = .ok (.isub, 1) := by decide +kernel
theorem dX1_lookAt_95 : decode cX1_lookAt 95 = .ok (.iload 5, 2) := by decide +kernel
theorem dX1_lookAt_97 : decode cX1_lookAt 97 = .ok (.iload_n 3, 1) := by decide +kernel
theorem dX1_lookAt_98 : decode cX1_lookAt 98 = .ok (.iadd, 1) := by decide +kernel
theorem dX1_lookAt_99 : decode cX1_lookAt 99 = .ok (.invokestatic 88, 3) := by decide +kernel
theorem dX1_lookAt_102 : decode cX1_lookAt 102 = .ok (.istore 9, 2) := by decide +kernel
theorem dX1_lookAt_104 : decode cX1_lookAt 104 = .ok (.aload_n 0, 1) := by decide +kernel
theorem dX1_lookAt_105 : decode cX1_lookAt 105 = .ok (.getfield 9, 3) := by decide +kernel
theorem dX1_lookAt_108 : decode cX1_lookAt 108 = .ok (.iload_n 2, 1) := by decide +kernel
theorem dX1_lookAt_109 : decode cX1_lookAt 109 = .ok (.iload 7, 2) := by decide +kernel
theorem dX1_lookAt_111 : decode cX1_lookAt 111 = .ok (.iload 6, 2) := by decide +kernel
theorem dX1_lookAt_113 : decode cX1_lookAt 113 = .ok (.isub, 1) := by decide +kernel
theorem dX1_lookAt_114 : decode cX1_lookAt 114 = .ok (.iconst 1, 1) := by decide +kernel
theorem dX1_lookAt_115 : decode cX1_lookAt 115 = .ok (.iadd, 1) := by decide +kernel
theorem dX1_lookAt_116 : decode cX1_lookAt 116 = .ok (.iload 9, 2) := by decide +kernel
theorem dX1_lookAt_118 : decode cX1_lookAt 118 = .ok (.iload 8, 2) := by decide +kernel
theorem dX1_lookAt_120 : decode cX1_lookAt 120 = .ok (.isub, 1) := by decide +kernel
theorem dX1_lookAt_121 : decode cX1_lookAt 121 = .ok (.iconst 1, 1) := by decide +kernel
theorem dX1_lookAt_122 : decode cX1_lookAt 122 = .ok (.iadd, 1) := by decide +kernel
theorem dX1_lookAt_123 : decode cX1_lookAt 123 = .ok (.imul, 1) := by decide +kernel
theorem dX1_lookAt_124 : decode cX1_lookAt 124 = .ok (.iastore, 1) := by decide +kernel
theorem dX1_lookAt_125 : decode cX1_lookAt 125 = .ok (.aload_n 0, 1) := by decide +kernel
theorem dX1_lookAt_126 : decode cX1_lookAt 126 = .ok (.getfield 15, 3) := by decide +kernel
theorem dX1_lookAt_129 : decode cX1_lookAt 129 = .ok (.iload_n 2, 1) := by decide +kernel
theorem dX1_lookAt_130 : decode cX1_lookAt 130 = .ok (.iconst 0, 1) := by decide +kernel
theorem dX1_lookAt_131 : decode cX1_lookAt 131 = .ok (.iastore, 1) := by decide +kernel
theorem dX1_lookAt_132 : decode cX1_lookAt 132 = .ok (.aload_n 0, 1) := by decide +kernel
theorem dX1_lookAt_133 : decode cX1_lookAt 133 = .ok (.getfield 18, 3) := by decide +kernel
theorem dX1_lookAt_136 : decode cX1_lookAt 136 = .ok (.iload_n 2, 1) := by decide +kernel
theorem dX1_lookAt_137 : decode cX1_lookAt 137 = .ok (.iconst 0, 1) := by decide +kernel
theorem dX1_lookAt_138 : decode cX1_lookAt 138 = .ok (.iastore, 1) := by decide +kernel
theorem dX1_lookAt_139 : decode cX1_lookAt 139 = .ok (.iload 8, 2) := by decide +kernel
theorem dX1_lookAt_141 : decode cX1_lookAt 141 = .ok (.istore 10, 2) := by decide +kernel
theorem dX1_lookAt_143 : decode cX1_lookAt 143 = .ok (.iload 10, 2) := by decide +kernel
theorem dX1_lookAt_145 : decode cX1_lookAt 145 = .ok (.iload 9, 2) := by decide +kernel
theorem dX1_lookAt_147 : decode cX1_lookAt 147 = .ok (.if_icmp .gt 68, 3) := by decide +kernel
theorem dX1_lookAt_150 : decode cX1_lookAt 150 = .ok (.iload 6, 2) := by decide +kernel
theorem dX1_lookAt_152 : decode cX1_lookAt 152 = .ok (.istore 11, 2) := by decide +kernel
theorem dX1_lookAt_154 : decode cX1_lookAt 154 = .ok (.iload 11, 2) := by decide +kernel
theorem dX1_lookAt_156 : decode cX1_lookAt 156 = .ok (.iload 7, 2) := by decide +kernel
theorem dX1_lookAt_158 : decode cX1_lookAt 158 = .ok (.if_icmp .gt 51, 3) := by decide +kernel
theorem dX1_lookAt_161 : decode cX1_lookAt 161 = .ok (.aload_n 1, 1) := by decide +kernel
theorem dX1_lookAt_162 : decode cX1_lookAt 162 = .ok (.iconst 0, 1) := by decide +kernel
theorem dX1_lookAt_163 : decode cX1_lookAt 163 = .ok (.iload 10, 2) := by decide +kernel
theorem dX1_lookAt_165 : decode cX1_lookAt 165 = .ok (.aload_n 1, 1) := by decide +kernel
theorem dX1_lookAt_166 : decode cX1_lookAt 166 = .ok (.getfield 85, 3) := by decide +kernel
theorem dX1_lookAt_169 : decode cX1_lookAt 169 = .ok (.imul, 1) := by decide +kernel
theorem dX1_lookAt_170 : decode cX1_lookAt 170 = .ok (.iload 11, 2) := by decide +kernel
theorem dX1_lookAt_172 : decode cX1_lookAt 172 = .ok (.iadd, 1) := by decide +kernel
theorem dX1_lookAt_173 : decode cX1_lookAt 173 = .ok (.invokevirtual 68, 3) := by decide +kernel
theorem dX1_lookAt_176 : decode cX1_lookAt 176 = .ok (.istore 12, 2) := by decide +kernel
theorem dX1_lookAt_178 : decode cX1_lookAt 178 = .ok (.aload_n 0, 1) := by decide +kernel
theorem dX1_lookAt_179 : decode cX1_lookAt 179 = .ok (.getfield 15, 3) := by decide +kernel
theorem dX1_lookAt_182 : decode cX1_lookAt 182 = .ok (.iload_n 2, 1) := by decide +kernel
theorem dX1_lookAt_183 : decode cX1_lookAt 183 = .ok (.dup2, 1) := by decide +kernel
theorem dX1_lookAt_184 : decode cX1_lookAt 184 = .ok (.iaload, 1) := by decide +kernel
theorem dX1_lookAt_185 : decode cX1_lookAt 185 = .ok (.iload 12, 2) := by decide +kernel
theorem dX1_lookAt_187 : decode cX1_lookAt 187 = .ok (.iadd, 1) := by decide +kernel
theorem dX1_lookAt_188 : decode cX1_lookAt 188 = .ok (.iastore, 1) := by decide +kernel
theorem dX1_lookAt_189 : decode cX1_lookAt 189 = .ok (.aload_n 0, 1) := by decide +kernel
theorem dX1_lookAt_190 : decode cX1_lookAt 190 = .ok (.getfield 18, 3) := by decide +kernel
theorem dX1_lookAt_193 : decode cX1_lookAt 193 = .ok (.iload_n 2, 1) := by decide +kernel
theorem dX1_lookAt_194 : decode cX1_lookAt 194 = .ok (.dup2, 1) := by decide +kernel
theorem dX1_lookAt_195 : decode cX1_lookAt 195 = .ok (.iaload, 1) := by decide +kernel
theorem dX1_lookAt_196 : decode cX1_lookAt 196 = .ok (.iload 12, 2) := by decide +kernel
theorem dX1_lookAt_198 : decode cX1_lookAt 198 = .ok (.iload 12, 2) := by decide +kernel
theorem dX1_lookAt_200 : decode cX1_lookAt 200 = .ok (.imul, 1) := by decide +kernel
theorem dX1_lookAt_201 : decode cX1_lookAt 201 = .ok (.iadd, 1) := by decide +kernel
theorem dX1_lookAt_202 : decode cX1_lookAt 202 = .ok (.iastore, 1) := by decide +kernel
theorem dX1_lookAt_203 : decode cX1_lookAt 203 = .ok (.iinc 11 1, 3) := by decide +kernel
theorem dX1_lookAt_206 : decode cX1_lookAt 206 = .ok (.goto (-52), 3) := by decide +kernel
theorem dX1_lookAt_209 : decode cX1_lookAt 209 = .ok (.iinc 10 1, 3) := by decide +kernel
theorem dX1_lookAt_212 : decode cX1_lookAt 212 = .ok (.goto (-69), 3) := by decide +kernel
theorem dX1_lookAt_215 : decode cX1_lookAt 215 = .ok (.return_, 1) := by decide +kernel
theorem dX1_countOf_0 : decode cX1_countOf 0 = .ok (.iload_n 1, 1) := by decide +kernel
theorem dX1_countOf_1 : decode cX1_countOf 1 = .ok (.invokestatic 94, 3) := by decide +kernel
theorem dX1_countOf_4 : decode cX1_countOf 4 = .ok (.ifCond .eq 12, 3) := by decide +kernel
theorem dX1_countOf_7 : decode cX1_countOf 7 = .ok (.aload_n 0, 1) := by decide +kernel
theorem dX1_countOf_8 : decode cX1_countOf 8 = .ok (.getfield 9, 3) := by decide +kernel
theorem dX1_countOf_11 : decode cX1_countOf 11 = .ok (.iload_n 1, 1) := by decide +kernel
theorem dX1_countOf_12 : decode cX1_countOf 12 = .ok (.iaload, 1) := by decide +kernel
theorem dX1_countOf_13 : decode cX1_countOf 13 = .ok (.goto 4, 3) := by decide +kernel
theorem dX1_countOf_16 : decode cX1_countOf 16 = .ok (.iconst 0, 1) := by decide +kernel
theorem dX1_countOf_17 : decode cX1_countOf 17 = .ok (.ireturn, 1) := by decide +kernel
theorem dX1_sumOf_0 : decode cX1_sumOf 0 = .ok (.iload_n 1, 1) := by decide +kernel
theorem dX1_sumOf_1 : decode cX1_sumOf 1 = .ok (.invokestatic 94, 3) := by decide +kernel
theorem dX1_sumOf_4 : decode cX1_sumOf 4 = .ok (.ifCond .eq 12, 3) := by decide +kernel
theorem dX1_sumOf_7 : decode cX1_sumOf 7 = .ok (.aload_n 0, 1) := by decide +kernel
theorem dX1_sumOf_8 : decode cX1_sumOf 8 = .ok (.getfield 15, 3) := by decide +kernel
theorem dX1_sumOf_11 : decode cX1_sumOf 11 = .ok (.iload_n 1, 1) := by decide +kernel
theorem dX1_sumOf_12 : decode cX1_sumOf 12 = .ok (.iaload, 1) := by decide +kernel
theorem dX1_sumOf_13 : decode cX1_sumOf 13 = .ok (.goto 4, 3) := by decide +kernel
theorem dX1_sumOf_16 : decode cX1_sumOf 16 = .ok (.iconst 0, 1) := by decide +kernel
theorem dX1_sumOf_17 : decode cX1_sumOf 17 = .ok (.ireturn, 1) := by decide +kernel
theorem dX1_squaresOf_0 : decode cX1_squaresOf 0 = .ok (.iload_n 1, 1) := by decide +kernel
theorem dX1_squaresOf_1 : decode cX1_squaresOf 1 = .ok (.invokestatic 94, 3) := by decide +kernel
theorem dX1_squaresOf_4 : decode cX1_squaresOf 4 = .ok (.ifCond .eq 12, 3) := by decide +kernel
theorem dX1_squaresOf_7 : decode cX1_squaresOf 7 = .ok (.aload_n 0, 1) := by decide +kernel
theorem dX1_squaresOf_8 : decode cX1_squaresOf 8 = .ok (.getfield 18, 3) := by decide +kernel
theorem dX1_squaresOf_11 : decode cX1_squaresOf 11 = .ok (.iload_n 1, 1) := by decide +kernel
theorem dX1_squaresOf_12 : decode cX1_squaresOf 12 = .ok (.iaload, 1) := by decide +kernel
theorem dX1_squaresOf_13 : decode cX1_squaresOf 13 = .ok (.goto 4, 3) := by decide +kernel
theorem dX1_squaresOf_16 : decode cX1_squaresOf 16 = .ok (.iconst 0, 1) := by decide +kernel
theorem dX1_squaresOf_17 : decode cX1_squaresOf 17 = .ok (.ireturn, 1) := by decide +kernel
theorem dX1_unevenness_0 : decode cX1_unevenness 0 = .ok (.iload_n 1, 1) := by decide +kernel
theorem dX1_unevenness_1 : decode cX1_unevenness 1 = .ok (.invokestatic 94, 3) := by decide +kernel
theorem dX1_unevenness_4 : decode cX1_unevenness 4 = .ok (.ifCond .eq 33, 3) := by decide +kernel
theorem dX1_unevenness_7 : decode cX1_unevenness 7 = .ok (.aload_n 0, 1) := by decide +kernel
theorem dX1_unevenness_8 : decode cX1_unevenness 8 = .ok (.getfield 9, 3) := by decide +kernel
theorem dX1_unevenness_11 : decode cX1_unevenness 11 = .ok (.iload_n 1, 1) := by decide +kernel
theorem dX1_unevenness_12 : decode cX1_unevenness 12 = .ok (.iaload, 1) := by decide +kernel
theorem dX1_unevenness_13 : decode cX1_unevenness 13 = .ok (.aload_n 0, 1) := by decide +kernel
theorem dX1_unevenness_14 : decode cX1_unevenness 14 = .ok (.getfield 18, 3) := by decide +kernel
theorem dX1_unevenness_17 : decode cX1_unevenness 17 = .ok (.iload_n 1, 1) := by decide +kernel
theorem dX1_unevenness_18 : decode cX1_unevenness 18 = .ok (.iaload, 1) := by decide +kernel
theorem dX1_unevenness_19 : decode cX1_unevenness 19 = .ok (.imul, 1) := by decide +kernel
theorem dX1_unevenness_20 : decode cX1_unevenness 20 = .ok (.aload_n 0, 1) := by decide +kernel
theorem dX1_unevenness_21 : decode cX1_unevenness 21 = .ok (.getfield 15, 3) := by decide +kernel
theorem dX1_unevenness_24 : decode cX1_unevenness 24 = .ok (.iload_n 1, 1) := by decide +kernel
theorem dX1_unevenness_25 : decode cX1_unevenness 25 = .ok (.iaload, 1) := by decide +kernel
theorem dX1_unevenness_26 : decode cX1_unevenness 26 = .ok (.aload_n 0, 1) := by decide +kernel
theorem dX1_unevenness_27 : decode cX1_unevenness 27 = .ok (.getfield 15, 3) := by decide +kernel
theorem dX1_unevenness_30 : decode cX1_unevenness 30 = .ok (.iload_n 1, 1) := by decide +kernel
theorem dX1_unevenness_31 : decode cX1_unevenness 31 = .ok (.iaload, 1) := by decide +kernel
theorem dX1_unevenness_32 : decode cX1_unevenness 32 = .ok (.imul, 1) := by decide +kernel
theorem dX1_unevenness_33 : decode cX1_unevenness 33 = .ok (.isub, 1) := by decide +kernel
theorem dX1_unevenness_34 : decode cX1_unevenness 34 = .ok (.goto 4, 3) := by decide +kernel
theorem dX1_unevenness_37 : decode cX1_unevenness 37 = .ok (.iconst 0, 1) := by decide +kernel
theorem dX1_unevenness_38 : decode cX1_unevenness 38 = .ok (.ireturn, 1) := by decide +kernel
theorem dX1_dotsMarked_0 : decode cX1_dotsMarked 0 = .ok (.iconst 0, 1) := by decide +kernel
theorem dX1_dotsMarked_1 : decode cX1_dotsMarked 1 = .ok (.istore_n 3, 1) := by decide +kernel
theorem dX1_dotsMarked_2 : decode cX1_dotsMarked 2 = .ok (.iconst 0, 1) := by decide +kernel
theorem dX1_dotsMarked_3 : decode cX1_dotsMarked 3 = .ok (.istore 4, 2) := by decide +kernel
theorem dX1_dotsMarked_5 : decode cX1_dotsMarked 5 = .ok (.iload 4, 2) := by decide +kernel
theorem dX1_dotsMarked_7 : decode cX1_dotsMarked 7 = .ok (.aload_n 0, 1) := by decide +kernel
theorem dX1_dotsMarked_8 : decode cX1_dotsMarked 8 = .ok (.getfield 31, 3) := by decide +kernel
theorem dX1_dotsMarked_11 : decode cX1_dotsMarked 11 = .ok (.if_icmp .ge 27, 3) := by decide +kernel
theorem dX1_dotsMarked_14 : decode cX1_dotsMarked 14 = .ok (.aload_n 0, 1) := by decide +kernel
theorem dX1_dotsMarked_15 : decode cX1_dotsMarked 15 = .ok (.iload 4, 2) := by decide +kernel
theorem dX1_dotsMarked_17 : decode cX1_dotsMarked 17 = .ok (.iload_n 1, 1) := by decide +kernel
theorem dX1_dotsMarked_18 : decode cX1_dotsMarked 18 = .ok (.invokevirtual 97, 3) := by decide +kernel
theorem dX1_dotsMarked_21 : decode cX1_dotsMarked 21 = .ok (.iload_n 2, 1) := by decide +kernel
theorem dX1_dotsMarked_22 : decode cX1_dotsMarked 22 = .ok (.if_icmp .ne 10, 3) := by decide +kernel
theorem dX1_dotsMarked_25 : decode cX1_dotsMarked 25 = .ok (.iload_n 3, 1) := by decide +kernel
theorem dX1_dotsMarked_26 : decode cX1_dotsMarked 26 = .ok (.iconst 1, 1) := by decide +kernel
theorem dX1_dotsMarked_27 : decode cX1_dotsMarked 27 = .ok (.iload 4, 2) := by decide +kernel
theorem dX1_dotsMarked_29 : decode cX1_dotsMarked 29 = .ok (.ishl, 1) := by decide +kernel
theorem dX1_dotsMarked_30 : decode cX1_dotsMarked 30 = .ok (.ior, 1) := by decide +kernel
theorem dX1_dotsMarked_31 : decode cX1_dotsMarked 31 = .ok (.istore_n 3, 1) := by decide +kernel
theorem dX1_dotsMarked_32 : decode cX1_dotsMarked 32 = .ok (.iinc 4 1, 3) := by decide +kernel
theorem dX1_dotsMarked_35 : decode cX1_dotsMarked 35 = .ok (.goto (-30), 3) := by decide +kernel
theorem dX1_dotsMarked_38 : decode cX1_dotsMarked 38 = .ok (.iload_n 3, 1) := by decide +kernel
theorem dX1_dotsMarked_39 : decode cX1_dotsMarked 39 = .ok (.ireturn, 1) := by decide +kernel
theorem dX1_markOf_0 : decode cX1_markOf 0 = .ok (.iload_n 1, 1) := by decide +kernel
theorem dX1_markOf_1 : decode cX1_markOf 1 = .ok (.invokestatic 94, 3) := by decide +kernel
theorem dX1_markOf_4 : decode cX1_markOf 4 = .ok (.ifCond .eq 18, 3) := by decide +kernel
theorem dX1_markOf_7 : decode cX1_markOf 7 = .ok (.aload_n 0, 1) := by decide +kernel
theorem dX1_markOf_8 : decode cX1_markOf 8 = .ok (.iload_n 1, 1) := by decide +kernel
theorem dX1_markOf_9 : decode cX1_markOf 9 = .ok (.aload_n 0, 1) := by decide +kernel
theorem dX1_markOf_10 : decode cX1_markOf 10 = .ok (.getfield 21, 3) := by decide +kernel
theorem dX1_markOf_13 : decode cX1_markOf 13 = .ok (.iload_n 1, 1) := by decide +kernel
theorem dX1_markOf_14 : decode cX1_markOf 14 = .ok (.iaload, 1) := by decide +kernel
theorem dX1_markOf_15 : decode cX1_markOf 15 = .ok (.iload_n 2, 1) := by decide +kernel
theorem dX1_markOf_16 : decode cX1_markOf 16 = .ok (.invokevirtual 100, 3) := by decide +kernel
theorem dX1_markOf_19 : decode cX1_markOf 19 = .ok (.ifCond .ne 5, 3) := by decide +kernel
theorem dX1_markOf_22 : decode cX1_markOf 22 = .ok (.iconst 0, 1) := by decide +kernel
theorem dX1_markOf_23 : decode cX1_markOf 23 = .ok (.ireturn, 1) := by decide +kernel
theorem dX1_markOf_24 : decode cX1_markOf 24 = .ok (.aload_n 0, 1) := by decide +kernel
theorem dX1_markOf_25 : decode cX1_markOf 25 = .ok (.iload_n 1, 1) := by decide +kernel
theorem dX1_markOf_26 : decode cX1_markOf 26 = .ok (.aload_n 0, 1) := by decide +kernel
theorem dX1_markOf_27 : decode cX1_markOf 27 = .ok (.getfield 24, 3) := by decide +kernel
theorem dX1_markOf_30 : decode cX1_markOf 30 = .ok (.iload_n 1, 1) := by decide +kernel
theorem dX1_markOf_31 : decode cX1_markOf 31 = .ok (.iaload, 1) := by decide +kernel
theorem dX1_markOf_32 : decode cX1_markOf 32 = .ok (.iload_n 2, 1) := by decide +kernel
theorem dX1_markOf_33 : decode cX1_markOf 33 = .ok (.invokevirtual 100, 3) := by decide +kernel
theorem dX1_markOf_36 : decode cX1_markOf 36 = .ok (.ifCond .eq 7, 3) := by decide +kernel
theorem dX1_markOf_39 : decode cX1_markOf 39 = .ok (.iconst 2, 1) := by decide +kernel
theorem dX1_markOf_40 : decode cX1_markOf 40 = .ok (.goto 4, 3) := by decide +kernel
theorem dX1_markOf_43 : decode cX1_markOf 43 = .ok (.iconst 1, 1) := by decide +kernel
theorem dX1_markOf_44 : decode cX1_markOf 44 = .ok (.ireturn, 1) := by decide +kernel
theorem dX1_isDark_0 : decode cX1_isDark 0 = .ok (.iload_n 1, 1) := by decide +kernel
theorem dX1_isDark_1 : decode cX1_isDark 1 = .ok (.invokestatic 94, 3) := by decide +kernel
theorem dX1_isDark_4 : decode cX1_isDark 4 = .ok (.ifCond .ne 5, 3) := by decide +kernel
theorem dX1_isDark_7 : decode cX1_isDark 7 = .ok (.iconst 0, 1) := by decide +kernel
theorem dX1_isDark_8 : decode cX1_isDark 8 = .ok (.ireturn, 1) := by decide +kernel
theorem dX1_isDark_9 : decode cX1_isDark 9 = .ok (.aload_n 0, 1) := by decide +kernel
theorem dX1_isDark_10 : decode cX1_isDark 10 = .ok (.getfield 9, 3) := by decide +kernel
theorem dX1_isDark_13 : decode cX1_isDark 13 = .ok (.iload_n 1, 1) := by decide +kernel
theorem dX1_isDark_14 : decode cX1_isDark 14 = .ok (.iaload, 1) := by decide +kernel
theorem dX1_isDark_15 : decode cX1_isDark 15 = .ok (.istore 4, 2) := by decide +kernel
theorem dX1_isDark_17 : decode cX1_isDark 17 = .ok (.aload_n 0, 1) := by decide +kernel
theorem dX1_isDark_18 : decode cX1_isDark 18 = .ok (.getfield 15, 3) := by decide +kernel
theorem dX1_isDark_21 : decode cX1_isDark 21 = .ok (.iload_n 1, 1) := by decide +kernel
theorem dX1_isDark_22 : decode cX1_isDark 22 = .ok (.iaload, 1) := by decide +kernel
theorem dX1_isDark_23 : decode cX1_isDark 23 = .ok (.iload 4, 2) := by decide +kernel
theorem dX1_isDark_25 : decode cX1_isDark 25 = .ok (.iload_n 2, 1) := by decide +kernel
theorem dX1_isDark_26 : decode cX1_isDark 26 = .ok (.imul, 1) := by decide +kernel
theorem dX1_isDark_27 : decode cX1_isDark 27 = .ok (.isub, 1) := by decide +kernel
theorem dX1_isDark_28 : decode cX1_isDark 28 = .ok (.istore 5, 2) := by decide +kernel
theorem dX1_isDark_30 : decode cX1_isDark 30 = .ok (.iload 4, 2) := by decide +kernel
theorem dX1_isDark_32 : decode cX1_isDark 32 = .ok (.aload_n 0, 1) := by decide +kernel
theorem dX1_isDark_33 : decode cX1_isDark 33 = .ok (.getfield 18, 3) := by decide +kernel
theorem dX1_isDark_36 : decode cX1_isDark 36 = .ok (.iload_n 1, 1) := by decide +kernel
theorem dX1_isDark_37 : decode cX1_isDark 37 = .ok (.iaload, 1) := by decide +kernel
theorem dX1_isDark_38 : decode cX1_isDark 38 = .ok (.imul, 1) := by decide +kernel
theorem dX1_isDark_39 : decode cX1_isDark 39 = .ok (.aload_n 0, 1) := by decide +kernel
theorem dX1_isDark_40 : decode cX1_isDark 40 = .ok (.getfield 15, 3) := by decide +kernel
theorem dX1_isDark_43 : decode cX1_isDark 43 = .ok (.iload_n 1, 1) := by decide +kernel
theorem dX1_isDark_44 : decode cX1_isDark 44 = .ok (.iaload, 1) := by decide +kernel
theorem dX1_isDark_45 : decode cX1_isDark 45 = .ok (.aload_n 0, 1) := by decide +kernel
theorem dX1_isDark_46 : decode cX1_isDark 46 = .ok (.getfield 15, 3) := by decide +kernel
theorem dX1_isDark_49 : decode cX1_isDark 49 = .ok (.iload_n 1, 1) := by decide +kernel
theorem dX1_isDark_50 : decode cX1_isDark 50 = .ok (.iaload, 1) := by decide +kernel
theorem dX1_isDark_51 : decode cX1_isDark 51 = .ok (.imul, 1) := by decide +kernel
theorem dX1_isDark_52 : decode cX1_isDark 52 = .ok (.isub, 1) := by decide +kernel
theorem dX1_isDark_53 : decode cX1_isDark 53 = .ok (.istore 6, 2) := by decide +kernel
theorem dX1_isDark_55 : decode cX1_isDark 55 = .ok (.aload_n 0, 1) := by decide +kernel
theorem dX1_isDark_56 : decode cX1_isDark 56 = .ok (.getfield 27, 3) := by decide +kernel
theorem dX1_isDark_59 : decode cX1_isDark 59 = .ok (.lookupswitch 68 #[(0, 25), (1, 40)], 25) := by decide +kernel
theorem dX1_isDark_84 : decode cX1_isDark 84 = .ok (.iload 5, 2) := by decide +kernel
theorem dX1_isDark_86 : decode cX1_isDark 86 = .ok (.iload 4, 2) := by decide +kernel
theorem dX1_isDark_88 : decode cX1_isDark 88 = .ok (.iload_n 3, 1) := by decide +kernel
theorem dX1_isDark_89 : decode cX1_isDark 89 = .ok (.imul, 1) := by decide +kernel
theorem dX1_isDark_90 : decode cX1_isDark 90 = .ok (.if_icmp .le 7, 3) := by decide +kernel
theorem dX1_isDark_93 : decode cX1_isDark 93 = .ok (.iconst 1, 1) := by decide +kernel
theorem dX1_isDark_94 : decode cX1_isDark 94 = .ok (.goto 4, 3) := by decide +kernel
theorem dX1_isDark_97 : decode cX1_isDark 97 = .ok (.iconst 0, 1) := by decide +kernel
theorem dX1_isDark_98 : decode cX1_isDark 98 = .ok (.ireturn, 1) := by decide +kernel
theorem dX1_isDark_99 : decode cX1_isDark 99 = .ok (.iload 5, 2) := by decide +kernel
theorem dX1_isDark_101 : decode cX1_isDark 101 = .ok (.ifCond .le 24, 3) := by decide +kernel
theorem dX1_isDark_104 : decode cX1_isDark 104 = .ok (.bipush 100, 2) := by decide +kernel
theorem dX1_isDark_106 : decode cX1_isDark 106 = .ok (.iload 5, 2) := by decide +kernel
theorem dX1_isDark_108 : decode cX1_isDark 108 = .ok (.imul, 1) := by decide +kernel
theorem dX1_isDark_109 : decode cX1_isDark 109 = .ok (.iload 5, 2) := by decide +kernel
theorem dX1_isDark_111 : decode cX1_isDark 111 = .ok (.imul, 1) := by decide +kernel
theorem dX1_isDark_112 : decode cX1_isDark 112 = .ok (.iload_n 3, 1) := by decide +kernel
theorem dX1_isDark_113 : decode cX1_isDark 113 = .ok (.iload_n 3, 1) := by decide +kernel
theorem dX1_isDark_114 : decode cX1_isDark 114 = .ok (.imul, 1) := by decide +kernel
theorem dX1_isDark_115 : decode cX1_isDark 115 = .ok (.iload 6, 2) := by decide +kernel
theorem dX1_isDark_117 : decode cX1_isDark 117 = .ok (.imul, 1) := by decide +kernel
theorem dX1_isDark_118 : decode cX1_isDark 118 = .ok (.if_icmp .le 7, 3) := by decide +kernel
theorem dX1_isDark_121 : decode cX1_isDark 121 = .ok (.iconst 1, 1) := by decide +kernel
theorem dX1_isDark_122 : decode cX1_isDark 122 = .ok (.goto 4, 3) := by decide +kernel
theorem dX1_isDark_125 : decode cX1_isDark 125 = .ok (.iconst 0, 1) := by decide +kernel
theorem dX1_isDark_126 : decode cX1_isDark 126 = .ok (.ireturn, 1) := by decide +kernel
theorem dX1_isDark_127 : decode cX1_isDark 127 = .ok (.iload_n 2, 1) := by decide +kernel
theorem dX1_isDark_128 : decode cX1_isDark 128 = .ok (.iload_n 3, 1) := by decide +kernel
theorem dX1_isDark_129 : decode cX1_isDark 129 = .ok (.if_icmp .ge 7, 3) := by decide +kernel
theorem dX1_isDark_132 : decode cX1_isDark 132 = .ok (.iconst 1, 1) := by decide +kernel
theorem dX1_isDark_133 : decode cX1_isDark 133 = .ok (.goto 4, 3) := by decide +kernel
theorem dX1_isDark_136 : decode cX1_isDark 136 = .ok (.iconst 0, 1) := by decide +kernel
theorem dX1_isDark_137 : decode cX1_isDark 137 = .ok (.ireturn, 1) := by decide +kernel
theorem dX1_isPlace_0 : decode cX1_isPlace 0 = .ok (.iload_n 0, 1) := by decide +kernel
theorem dX1_isPlace_1 : decode cX1_isPlace 1 = .ok (.ifCond .lt 13, 3) := by decide +kernel
theorem dX1_isPlace_4 : decode cX1_isPlace 4 = .ok (.iload_n 0, 1) := by decide +kernel
theorem dX1_isPlace_5 : decode cX1_isPlace 5 = .ok (.bipush 25, 2) := by decide +kernel
theorem dX1_isPlace_7 : decode cX1_isPlace 7 = .ok (.if_icmp .ge 7, 3) := by decide +kernel
theorem dX1_isPlace_10 : decode cX1_isPlace 10 = .ok (.iconst 1, 1) := by decide +kernel
theorem dX1_isPlace_11 : decode cX1_isPlace 11 = .ok (.goto 4, 3) := by decide +kernel
theorem dX1_isPlace_14 : decode cX1_isPlace 14 = .ok (.iconst 0, 1) := by decide +kernel
theorem dX1_isPlace_15 : decode cX1_isPlace 15 = .ok (.ireturn, 1) := by decide +kernel
theorem dX2_init_0 : decode cX2_init 0 = .ok (.aload_n 0, 1) := by decide +kernel
theorem dX2_init_1 : decode cX2_init 1 = .ok (.invokespecial 3, 3) := by decide +kernel
theorem dX2_init_4 : decode cX2_init 4 = .ok (.aload_n 0, 1) := by decide +kernel
theorem dX2_init_5 : decode cX2_init 5 = .ok (.bipush 6, 2) := by decide +kernel
theorem dX2_init_7 : decode cX2_init 7 = .ok (.newarray .int, 2) := by decide +kernel
theorem dX2_init_9 : decode cX2_init 9 = .ok (.putfield 9, 3) := by decide +kernel
theorem dX2_init_12 : decode cX2_init 12 = .ok (.aload_n 0, 1) := by decide +kernel
theorem dX2_init_13 : decode cX2_init 13 = .ok (.bipush 6, 2) := by decide +kernel
theorem dX2_init_15 : decode cX2_init 15 = .ok (.newarray .int, 2) := by decide +kernel
theorem dX2_init_17 : decode cX2_init 17 = .ok (.putfield 15, 3) := by decide +kernel
theorem dX2_init_20 : decode cX2_init 20 = .ok (.aload_n 0, 1) := by decide +kernel
theorem dX2_init_21 : decode cX2_init 21 = .ok (.iconst 0, 1) := by decide +kernel
theorem dX2_init_22 : decode cX2_init 22 = .ok (.putfield 18, 3) := by decide +kernel
theorem dX2_init_25 : decode cX2_init 25 = .ok (.return_, 1) := by decide +kernel
theorem dX2_size_0 : decode cX2_size 0 = .ok (.aload_n 0, 1) := by decide +kernel
theorem dX2_size_1 : decode cX2_size 1 = .ok (.getfield 18, 3) := by decide +kernel
theorem dX2_size_4 : decode cX2_size 4 = .ok (.ireturn, 1) := by decide +kernel
theorem dX2_isFull_0 : decode cX2_isFull 0 = .ok (.aload_n 0, 1) := by decide +kernel
theorem dX2_isFull_1 : decode cX2_isFull 1 = .ok (.getfield 18, 3) := by decide +kernel
theorem dX2_isFull_4 : decode cX2_isFull 4 = .ok (.bipush 6, 2) := by decide +kernel
theorem dX2_isFull_6 : decode cX2_isFull 6 = .ok (.if_icmp .lt 7, 3) := by decide +kernel
theorem dX2_isFull_9 : decode cX2_isFull 9 = .ok (.iconst 1, 1) := by decide +kernel
theorem dX2_isFull_10 : decode cX2_isFull 10 = .ok (.goto 4, 3) := by decide +kernel
theorem dX2_isFull_13 : decode cX2_isFull 13 = .ok (.iconst 0, 1) := by decide +kernel
theorem dX2_isFull_14 : decode cX2_isFull 14 = .ok (.ireturn, 1) := by decide +kernel
theorem dX2_add_0 : decode cX2_add 0 = .ok (.aload_n 0, 1) := by decide +kernel
theorem dX2_add_1 : decode cX2_add 1 = .ok (.invokevirtual 22, 3) := by decide +kernel
theorem dX2_add_4 : decode cX2_add 4 = .ok (.ifCond .ne 33, 3) := by decide +kernel
theorem dX2_add_7 : decode cX2_add 7 = .ok (.aload_n 0, 1) := by decide +kernel
theorem dX2_add_8 : decode cX2_add 8 = .ok (.getfield 9, 3) := by decide +kernel
theorem dX2_add_11 : decode cX2_add 11 = .ok (.aload_n 0, 1) := by decide +kernel
theorem dX2_add_12 : decode cX2_add 12 = .ok (.getfield 18, 3) := by decide +kernel
theorem dX2_add_15 : decode cX2_add 15 = .ok (.iload_n 1, 1) := by decide +kernel
theorem dX2_add_16 : decode cX2_add 16 = .ok (.iastore, 1) := by decide +kernel
theorem dX2_add_17 : decode cX2_add 17 = .ok (.aload_n 0, 1) := by decide +kernel
theorem dX2_add_18 : decode cX2_add 18 = .ok (.getfield 15, 3) := by decide +kernel
theorem dX2_add_21 : decode cX2_add 21 = .ok (.aload_n 0, 1) := by decide +kernel
theorem dX2_add_22 : decode cX2_add 22 = .ok (.getfield 18, 3) := by decide +kernel
theorem dX2_add_25 : decode cX2_add 25 = .ok (.iload_n 2, 1) := by decide +kernel
theorem dX2_add_26 : decode cX2_add 26 = .ok (.iastore, 1) := by decide +kernel
theorem dX2_add_27 : decode cX2_add 27 = .ok (.aload_n 0, 1) := by decide +kernel
theorem dX2_add_28 : decode cX2_add 28 = .ok (.dup, 1) := by decide +kernel
theorem dX2_add_29 : decode cX2_add 29 = .ok (.getfield 18, 3) := by decide +kernel
theorem dX2_add_32 : decode cX2_add 32 = .ok (.iconst 1, 1) := by decide +kernel
theorem dX2_add_33 : decode cX2_add 33 = .ok (.iadd, 1) := by decide +kernel
theorem dX2_add_34 : decode cX2_add 34 = .ok (.putfield 18, 3) := by decide +kernel
theorem dX2_add_37 : decode cX2_add 37 = .ok (.aload_n 0, 1) := by decide +kernel
theorem dX2_add_38 : decode cX2_add 38 = .ok (.getfield 18, 3) := by decide +kernel
theorem dX2_add_41 : decode cX2_add 41 = .ok (.ireturn, 1) := by decide +kernel
theorem dX2_clear_0 : decode cX2_clear 0 = .ok (.aload_n 0, 1) := by decide +kernel
theorem dX2_clear_1 : decode cX2_clear 1 = .ok (.getfield 18, 3) := by decide +kernel
theorem dX2_clear_4 : decode cX2_clear 4 = .ok (.istore_n 1, 1) := by decide +kernel
theorem dX2_clear_5 : decode cX2_clear 5 = .ok (.aload_n 0, 1) := by decide +kernel
theorem dX2_clear_6 : decode cX2_clear 6 = .ok (.iconst 0, 1) := by decide +kernel
theorem dX2_clear_7 : decode cX2_clear 7 = .ok (.putfield 18, 3) := by decide +kernel
theorem dX2_clear_10 : decode cX2_clear 10 = .ok (.iload_n 1, 1) := by decide +kernel
theorem dX2_clear_11 : decode cX2_clear 11 = .ok (.ireturn, 1) := by decide +kernel
theorem dX2_agreesWith_0 : decode cX2_agreesWith 0 = .ok (.iconst 1, 1) := by decide +kernel
theorem dX2_agreesWith_1 : decode cX2_agreesWith 1 = .ok (.istore_n 2, 1) := by decide +kernel
theorem dX2_agreesWith_2 : decode cX2_agreesWith 2 = .ok (.iconst 0, 1) := by decide +kernel
theorem dX2_agreesWith_3 : decode cX2_agreesWith 3 = .ok (.istore_n 3, 1) := by decide +kernel
theorem dX2_agreesWith_4 : decode cX2_agreesWith 4 = .ok (.iload_n 3, 1) := by decide +kernel
theorem dX2_agreesWith_5 : decode cX2_agreesWith 5 = .ok (.aload_n 0, 1) := by decide +kernel
theorem dX2_agreesWith_6 : decode cX2_agreesWith 6 = .ok (.getfield 18, 3) := by decide +kernel
theorem dX2_agreesWith_9 : decode cX2_agreesWith 9 = .ok (.if_icmp .ge 38, 3) := by decide +kernel
theorem dX2_agreesWith_12 : decode cX2_agreesWith 12 = .ok (.iload_n 2, 1) := by decide +kernel
theorem dX2_agreesWith_13 : decode cX2_agreesWith 13 = .ok (.ifCond .eq 26, 3) := by decide +kernel
theorem dX2_agreesWith_16 : decode cX2_agreesWith 16 = .ok (.iload_n 1, 1) := by decide +kernel
theorem dX2_agreesWith_17 : decode cX2_agreesWith 17 = .ok (.aload_n 0, 1) := by decide +kernel
theorem dX2_agreesWith_18 : decode cX2_agreesWith 18 = .ok (.getfield 9, 3) := by decide +kernel
theorem dX2_agreesWith_21 : decode cX2_agreesWith 21 = .ok (.iload_n 3, 1) := by decide +kernel
theorem dX2_agreesWith_22 : decode cX2_agreesWith 22 = .ok (.iaload, 1) := by decide +kernel
theorem dX2_agreesWith_23 : decode cX2_agreesWith 23 = .ok (.ishr, 1) := by decide +kernel
theorem dX2_agreesWith_24 : decode cX2_agreesWith 24 = .ok (.iconst 1, 1) := by decide +kernel
theorem dX2_agreesWith_25 : decode cX2_agreesWith 25 = .ok (.iand, 1) := by decide +kernel
theorem dX2_agreesWith_26 : decode cX2_agreesWith 26 = .ok (.aload_n 0, 1) := by decide +kernel
theorem dX2_agreesWith_27 : decode cX2_agreesWith 27 = .ok (.getfield 15, 3) := by decide +kernel
theorem dX2_agreesWith_30 : decode cX2_agreesWith 30 = .ok (.iload_n 3, 1) := by decide +kernel
theorem dX2_agreesWith_31 : decode cX2_agreesWith 31 = .ok (.iaload, 1) := by decide +kernel
theorem dX2_agreesWith_32 : decode cX2_agreesWith 32 = .ok (.if_icmp .ne 7, 3) := by decide +kernel
theorem dX2_agreesWith_35 : decode cX2_agreesWith 35 = .ok (.iconst 1, 1) := by decide +kernel
theorem dX2_agreesWith_36 : decode cX2_agreesWith 36 = .ok (.goto 4, 3) := by decide +kernel
theorem dX2_agreesWith_39 : decode cX2_agreesWith 39 = .ok (.iconst 0, 1) := by decide +kernel
theorem dX2_agreesWith_40 : decode cX2_agreesWith 40 = .ok (.istore_n 2, 1) := by decide +kernel
theorem dX2_agreesWith_41 : decode cX2_agreesWith 41 = .ok (.iinc 3 1, 3) := by decide +kernel
theorem dX2_agreesWith_44 : decode cX2_agreesWith 44 = .ok (.goto (-40), 3) := by decide +kernel
theorem dX2_agreesWith_47 : decode cX2_agreesWith 47 = .ok (.iload_n 2, 1) := by decide +kernel
theorem dX2_agreesWith_48 : decode cX2_agreesWith 48 = .ok (.ireturn, 1) := by decide +kernel
theorem dX3_init_0 : decode cX3_init 0 = .ok (.aload_n 0, 1) := by decide +kernel
theorem dX3_init_1 : decode cX3_init 1 = .ok (.invokespecial 3, 3) := by decide +kernel
theorem dX3_init_4 : decode cX3_init 4 = .ok (.aload_n 0, 1) := by decide +kernel
theorem dX3_init_5 : decode cX3_init 5 = .ok (.bipush 25, 2) := by decide +kernel
theorem dX3_init_7 : decode cX3_init 7 = .ok (.newarray .int, 2) := by decide +kernel
theorem dX3_init_9 : decode cX3_init 9 = .ok (.putfield 9, 3) := by decide +kernel
theorem dX3_init_12 : decode cX3_init 12 = .ok (.aload_n 0, 1) := by decide +kernel
theorem dX3_init_13 : decode cX3_init 13 = .ok (.bipush 25, 2) := by decide +kernel
theorem dX3_init_15 : decode cX3_init 15 = .ok (.newarray .int, 2) := by decide +kernel
theorem dX3_init_17 : decode cX3_init 17 = .ok (.putfield 15, 3) := by decide +kernel
theorem dX3_init_20 : decode cX3_init 20 = .ok (.aload_n 0, 1) := by decide +kernel
theorem dX3_init_21 : decode cX3_init 21 = .ok (.bipush 10, 2) := by decide +kernel
theorem dX3_init_23 : decode cX3_init 23 = .ok (.newarray .int, 2) := by decide +kernel
theorem dX3_init_25 : decode cX3_init 25 = .ok (.putfield 18, 3) := by decide +kernel
theorem dX3_init_28 : decode cX3_init 28 = .ok (.aload_n 0, 1) := by decide +kernel
theorem dX3_init_29 : decode cX3_init 29 = .ok (.iconst 1, 1) := by decide +kernel
theorem dX3_init_30 : decode cX3_init 30 = .ok (.putfield 21, 3) := by decide +kernel
theorem dX3_init_33 : decode cX3_init 33 = .ok (.aload_n 0, 1) := by decide +kernel
theorem dX3_init_34 : decode cX3_init 34 = .ok (.iconst 1, 1) := by decide +kernel
theorem dX3_init_35 : decode cX3_init 35 = .ok (.putfield 25, 3) := by decide +kernel
theorem dX3_init_38 : decode cX3_init 38 = .ok (.aload_n 0, 1) := by decide +kernel
theorem dX3_init_39 : decode cX3_init 39 = .ok (.getfield 9, 3) := by decide +kernel
theorem dX3_init_42 : decode cX3_init 42 = .ok (.iconst 0, 1) := by decide +kernel
theorem dX3_init_43 : decode cX3_init 43 = .ok (.bipush 9, 2) := by decide +kernel
theorem dX3_init_45 : decode cX3_init 45 = .ok (.iastore, 1) := by decide +kernel
theorem dX3_init_46 : decode cX3_init 46 = .ok (.aload_n 0, 1) := by decide +kernel
theorem dX3_init_47 : decode cX3_init 47 = .ok (.getfield 15, 3) := by decide +kernel
theorem dX3_init_50 : decode cX3_init 50 = .ok (.iconst 0, 1) := by decide +kernel
theorem dX3_init_51 : decode cX3_init 51 = .ok (.bipush 9, 2) := by decide +kernel
theorem dX3_init_53 : decode cX3_init 53 = .ok (.iastore, 1) := by decide +kernel
theorem dX3_init_54 : decode cX3_init 54 = .ok (.aload_n 0, 1) := by decide +kernel
theorem dX3_init_55 : decode cX3_init 55 = .ok (.iconst 0, 1) := by decide +kernel
theorem dX3_init_56 : decode cX3_init 56 = .ok (.putfield 28, 3) := by decide +kernel
theorem dX3_init_59 : decode cX3_init 59 = .ok (.aload_n 0, 1) := by decide +kernel
theorem dX3_init_60 : decode cX3_init 60 = .ok (.iconst 1, 1) := by decide +kernel
theorem dX3_init_61 : decode cX3_init 61 = .ok (.putfield 31, 3) := by decide +kernel
theorem dX3_init_64 : decode cX3_init 64 = .ok (.aload_n 0, 1) := by decide +kernel
theorem dX3_init_65 : decode cX3_init 65 = .ok (.iconst 1, 1) := by decide +kernel
theorem dX3_init_66 : decode cX3_init 66 = .ok (.putfield 34, 3) := by decide +kernel
theorem dX3_init_69 : decode cX3_init 69 = .ok (.aload_n 0, 1) := by decide +kernel
theorem dX3_init_70 : decode cX3_init 70 = .ok (.iconst 0, 1) := by decide +kernel
theorem dX3_init_71 : decode cX3_init 71 = .ok (.putfield 37, 3) := by decide +kernel
theorem dX3_init_74 : decode cX3_init 74 = .ok (.aload_n 0, 1) := by decide +kernel
theorem dX3_init_75 : decode cX3_init 75 = .ok (.iconst 0, 1) := by decide +kernel
theorem dX3_init_76 : decode cX3_init 76 = .ok (.putfield 40, 3) := by decide +kernel
theorem dX3_init_79 : decode cX3_init 79 = .ok (.return_, 1) := by decide +kernel
theorem dX3_becomeText_0 : decode cX3_becomeText 0 = .ok (.aload_n 0, 1) := by decide +kernel
theorem dX3_becomeText_1 : decode cX3_becomeText 1 = .ok (.aload_n 1, 1) := by decide +kernel
theorem dX3_becomeText_2 : decode cX3_becomeText 2 = .ok (.iconst 1, 1) := by decide +kernel
theorem dX3_becomeText_3 : decode cX3_becomeText 3 = .ok (.invokevirtual 43, 3) := by decide +kernel
theorem dX3_becomeText_6 : decode cX3_becomeText 6 = .ok (.putfield 21, 3) := by decide +kernel
theorem dX3_becomeText_9 : decode cX3_becomeText 9 = .ok (.aload_n 0, 1) := by decide +kernel
theorem dX3_becomeText_10 : decode cX3_becomeText 10 = .ok (.aload_n 1, 1) := by decide +kernel
theorem dX3_becomeText_11 : decode cX3_becomeText 11 = .ok (.iconst 2, 1) := by decide +kernel
theorem dX3_becomeText_12 : decode cX3_becomeText 12 = .ok (.invokevirtual 43, 3) := by decide +kernel
theorem dX3_becomeText_15 : decode cX3_becomeText 15 = .ok (.putfield 25, 3) := by decide +kernel
theorem dX3_becomeText_18 : decode cX3_becomeText 18 = .ok (.iconst 0, 1) := by decide +kernel
theorem dX3_becomeText_19 : decode cX3_becomeText 19 = .ok (.istore_n 2, 1) := by decide +kernel
theorem dX3_becomeText_20 : decode cX3_becomeText 20 = .ok (.iload_n 2, 1) := by decide +kernel
theorem dX3_becomeText_21 : decode cX3_becomeText 21 = .ok (.aload_n 0, 1) := by decide +kernel
theorem dX3_becomeText_22 : decode cX3_becomeText 22 = .ok (.invokevirtual 49, 3) := by decide +kernel
theorem dX3_becomeText_25 : decode cX3_becomeText 25 = .ok (.if_icmp .ge 40, 3) := by decide +kernel
theorem dX3_becomeText_28 : decode cX3_becomeText 28 = .ok (.aload_n 0, 1) := by decide +kernel
theorem dX3_becomeText_29 : decode cX3_becomeText 29 = .ok (.iconst 0, 1) := by decide +kernel
theorem dX3_becomeText_30 : decode cX3_becomeText 30 = .ok (.iload_n 2, 1) := by decide +kernel
theorem dX3_becomeText_31 : decode cX3_becomeText 31 = .ok (.aload_n 1, 1) := by decide +kernel
theorem dX3_becomeText_32 : decode cX3_becomeText 32 = .ok (.iconst 3, 1) := by decide +kernel
theorem dX3_becomeText_33 : decode cX3_becomeText 33 = .ok (.iload_n 2, 1) := by decide +kernel
theorem dX3_becomeText_34 : decode cX3_becomeText 34 = .ok (.iadd, 1) := by decide +kernel
theorem dX3_becomeText_35 : decode cX3_becomeText 35 = .ok (.invokevirtual 43, 3) := by decide +kernel
theorem dX3_becomeText_38 : decode cX3_becomeText 38 = .ok (.invokevirtual 53, 3) := by decide +kernel
theorem dX3_becomeText_41 : decode cX3_becomeText 41 = .ok (.aload_n 0, 1) := by decide +kernel
theorem dX3_becomeText_42 : decode cX3_becomeText 42 = .ok (.iconst 1, 1) := by decide +kernel
theorem dX3_becomeText_43 : decode cX3_becomeText 43 = .ok (.iload_n 2, 1) := by decide +kernel
theorem dX3_becomeText_44 : decode cX3_becomeText 44 = .ok (.aload_n 1, 1) := by decide +kernel
theorem dX3_becomeText_45 : decode cX3_becomeText 45 = .ok (.iconst 4, 1) := by decide +kernel
theorem dX3_becomeText_46 : decode cX3_becomeText 46 = .ok (.aload_n 0, 1) := by decide +kernel
theorem dX3_becomeText_47 : decode cX3_becomeText 47 = .ok (.invokevirtual 49, 3) := by decide +kernel
theorem dX3_becomeText_50 : decode cX3_becomeText 50 = .ok (.iadd, 1) := by decide +kernel
theorem dX3_becomeText_51 : decode cX3_becomeText 51 = .ok (.iload_n 2, 1) := by decide +kernel
theorem dX3_becomeText_52 : decode cX3_becomeText 52 = .ok (.iadd, 1) := by decide +kernel
theorem dX3_becomeText_53 : decode cX3_becomeText 53 = .ok (.invokevirtual 43, 3) := by decide +kernel
theorem dX3_becomeText_56 : decode cX3_becomeText 56 = .ok (.invokevirtual 53, 3) := by decide +kernel
theorem dX3_becomeText_59 : decode cX3_becomeText 59 = .ok (.iinc 2 1, 3) := by decide +kernel
theorem dX3_becomeText_62 : decode cX3_becomeText 62 = .ok (.goto (-42), 3) := by decide +kernel
theorem dX3_becomeText_65 : decode cX3_becomeText 65 = .ok (.iconst 0, 1) := by decide +kernel
theorem dX3_becomeText_66 : decode cX3_becomeText 66 = .ok (.istore_n 2, 1) := by decide +kernel
theorem dX3_becomeText_67 : decode cX3_becomeText 67 = .ok (.iload_n 2, 1) := by decide +kernel
theorem dX3_becomeText_68 : decode cX3_becomeText 68 = .ok (.bipush 10, 2) := by decide +kernel
theorem dX3_becomeText_70 : decode cX3_becomeText 70 = .ok (.if_icmp .ge 15, 3) := by decide +kernel
theorem dX3_becomeText_73 : decode cX3_becomeText 73 = .ok (.aload_n 0, 1) := by decide +kernel
theorem dX3_becomeText_74 : decode cX3_becomeText 74 = .ok (.iload_n 2, 1) := by decide +kernel
theorem dX3_becomeText_75 : decode cX3_becomeText 75 = .ok (.iconst 0, 1) := by decide +kernel
theorem dX3_becomeText_76 : decode cX3_becomeText 76 = .ok (.invokevirtual 57, 3) := by decide +kernel
theorem dX3_becomeText_79 : decode cX3_becomeText 79 = .ok (.iinc 2 1, 3) := by decide +kernel
theorem dX3_becomeText_82 : decode cX3_becomeText 82 = .ok (.goto (-15), 3) := by decide +kernel
theorem dX3_becomeText_85 : decode cX3_becomeText 85 = .ok (.aload_n 0, 1) := by decide +kernel
theorem dX3_becomeText_86 : decode cX3_becomeText 86 = .ok (.iconst 0, 1) := by decide +kernel
theorem dX3_becomeText_87 : decode cX3_becomeText 87 = .ok (.iconst 1, 1) := by decide +kernel
theorem dX3_becomeText_88 : decode cX3_becomeText 88 = .ok (.iconst 1, 1) := by decide +kernel
theorem dX3_becomeText_89 : decode cX3_becomeText 89 = .ok (.invokevirtual 61, 3) := by decide +kernel
theorem dX3_becomeText_92 : decode cX3_becomeText 92 = .ok (.aload_n 0, 1) := by decide +kernel
theorem dX3_becomeText_93 : decode cX3_becomeText 93 = .ok (.iconst 0, 1) := by decide +kernel
theorem dX3_becomeText_94 : decode cX3_becomeText 94 = .ok (.iconst 0, 1) := by decide +kernel
theorem dX3_becomeText_95 : decode cX3_becomeText 95 = .ok (.invokevirtual 64, 3) := by decide +kernel
theorem dX3_becomeText_98 : decode cX3_becomeText 98 = .ok (.return_, 1) := by decide +kernel
theorem dX3_copyFrom_0 : decode cX3_copyFrom 0 = .ok (.aload_n 0, 1) := by decide +kernel
theorem dX3_copyFrom_1 : decode cX3_copyFrom 1 = .ok (.aload_n 1, 1) := by decide +kernel
theorem dX3_copyFrom_2 : decode cX3_copyFrom 2 = .ok (.getfield 21, 3) := by decide +kernel
theorem dX3_copyFrom_5 : decode cX3_copyFrom 5 = .ok (.putfield 21, 3) := by decide +kernel
theorem dX3_copyFrom_8 : decode cX3_copyFrom 8 = .ok (.aload_n 0, 1) := by decide +kernel
theorem dX3_copyFrom_9 : decode cX3_copyFrom 9 = .ok (.aload_n 1, 1) := by decide +kernel
theorem dX3_copyFrom_10 : decode cX3_copyFrom 10 = .ok (.getfield 25, 3) := by decide +kernel
theorem dX3_copyFrom_13 : decode cX3_copyFrom 13 = .ok (.putfield 25, 3) := by decide +kernel
theorem dX3_copyFrom_16 : decode cX3_copyFrom 16 = .ok (.aload_n 1, 1) := by decide +kernel
theorem dX3_copyFrom_17 : decode cX3_copyFrom 17 = .ok (.getfield 9, 3) := by decide +kernel
theorem dX3_copyFrom_20 : decode cX3_copyFrom 20 = .ok (.iconst 0, 1) := by decide +kernel
theorem dX3_copyFrom_21 : decode cX3_copyFrom 21 = .ok (.aload_n 0, 1) := by decide +kernel
theorem dX3_copyFrom_22 : decode cX3_copyFrom 22 = .ok (.getfield 9, 3) := by decide +kernel
theorem dX3_copyFrom_25 : decode cX3_copyFrom 25 = .ok (.iconst 0, 1) := by decide +kernel
theorem dX3_copyFrom_26 : decode cX3_copyFrom 26 = .ok (.bipush 25, 2) := by decide +kernel
theorem dX3_copyFrom_28 : decode cX3_copyFrom 28 = .ok (.invokestatic 67, 3) := by decide +kernel
theorem dX3_copyFrom_31 : decode cX3_copyFrom 31 = .ok (.aload_n 1, 1) := by decide +kernel
theorem dX3_copyFrom_32 : decode cX3_copyFrom 32 = .ok (.getfield 15, 3) := by decide +kernel
theorem dX3_copyFrom_35 : decode cX3_copyFrom 35 = .ok (.iconst 0, 1) := by decide +kernel
theorem dX3_copyFrom_36 : decode cX3_copyFrom 36 = .ok (.aload_n 0, 1) := by decide +kernel
theorem dX3_copyFrom_37 : decode cX3_copyFrom 37 = .ok (.getfield 15, 3) := by decide +kernel
theorem dX3_copyFrom_40 : decode cX3_copyFrom 40 = .ok (.iconst 0, 1) := by decide +kernel
theorem dX3_copyFrom_41 : decode cX3_copyFrom 41 = .ok (.bipush 25, 2) := by decide +kernel
theorem dX3_copyFrom_43 : decode cX3_copyFrom 43 = .ok (.invokestatic 67, 3) := by decide +kernel
theorem dX3_copyFrom_46 : decode cX3_copyFrom 46 = .ok (.aload_n 1, 1) := by decide +kernel
theorem dX3_copyFrom_47 : decode cX3_copyFrom 47 = .ok (.getfield 18, 3) := by decide +kernel
theorem dX3_copyFrom_50 : decode cX3_copyFrom 50 = .ok (.iconst 0, 1) := by decide +kernel
theorem dX3_copyFrom_51 : decode cX3_copyFrom 51 = .ok (.aload_n 0, 1) := by decide +kernel
theorem dX3_copyFrom_52 : decode cX3_copyFrom 52 = .ok (.getfield 18, 3) := by decide +kernel
theorem dX3_copyFrom_55 : decode cX3_copyFrom 55 = .ok (.iconst 0, 1) := by decide +kernel
theorem dX3_copyFrom_56 : decode cX3_copyFrom 56 = .ok (.bipush 10, 2) := by decide +kernel
theorem dX3_copyFrom_58 : decode cX3_copyFrom 58 = .ok (.invokestatic 67, 3) := by decide +kernel
theorem dX3_copyFrom_61 : decode cX3_copyFrom 61 = .ok (.aload_n 0, 1) := by decide +kernel
theorem dX3_copyFrom_62 : decode cX3_copyFrom 62 = .ok (.aload_n 1, 1) := by decide +kernel
theorem dX3_copyFrom_63 : decode cX3_copyFrom 63 = .ok (.getfield 28, 3) := by decide +kernel
theorem dX3_copyFrom_66 : decode cX3_copyFrom 66 = .ok (.aload_n 1, 1) := by decide +kernel
theorem dX3_copyFrom_67 : decode cX3_copyFrom 67 = .ok (.getfield 31, 3) := by decide +kernel
theorem dX3_copyFrom_70 : decode cX3_copyFrom 70 = .ok (.aload_n 1, 1) := by decide +kernel
theorem dX3_copyFrom_71 : decode cX3_copyFrom 71 = .ok (.getfield 34, 3) := by decide +kernel
theorem dX3_copyFrom_74 : decode cX3_copyFrom 74 = .ok (.invokevirtual 61, 3) := by decide +kernel
theorem dX3_copyFrom_77 : decode cX3_copyFrom 77 = .ok (.aload_n 0, 1) := by decide +kernel
theorem dX3_copyFrom_78 : decode cX3_copyFrom 78 = .ok (.aload_n 1, 1) := by decide +kernel
theorem dX3_copyFrom_79 : decode cX3_copyFrom 79 = .ok (.getfield 37, 3) := by decide +kernel
theorem dX3_copyFrom_82 : decode cX3_copyFrom 82 = .ok (.aload_n 1, 1) := by decide +kernel
theorem dX3_copyFrom_83 : decode cX3_copyFrom 83 = .ok (.getfield 40, 3) := by decide +kernel
theorem dX3_copyFrom_86 : decode cX3_copyFrom 86 = .ok (.invokevirtual 64, 3) := by decide +kernel
theorem dX3_copyFrom_89 : decode cX3_copyFrom 89 = .ok (.return_, 1) := by decide +kernel
theorem dX3_dots_0 : decode cX3_dots 0 = .ok (.aload_n 0, 1) := by decide +kernel
theorem dX3_dots_1 : decode cX3_dots 1 = .ok (.getfield 21, 3) := by decide +kernel
theorem dX3_dots_4 : decode cX3_dots 4 = .ok (.aload_n 0, 1) := by decide +kernel
theorem dX3_dots_5 : decode cX3_dots 5 = .ok (.getfield 25, 3) := by decide +kernel
theorem dX3_dots_8 : decode cX3_dots 8 = .ok (.imul, 1) := by decide +kernel
theorem dX3_dots_9 : decode cX3_dots 9 = .ok (.ireturn, 1) := by decide +kernel
theorem dX3_has_0 : decode cX3_has 0 = .ok (.iload_n 1, 1) := by decide +kernel
theorem dX3_has_1 : decode cX3_has 1 = .ok (.ifCond .lt 26, 3) := by decide +kernel
theorem dX3_has_4 : decode cX3_has 4 = .ok (.iload_n 1, 1) := by decide +kernel
theorem dX3_has_5 : decode cX3_has 5 = .ok (.aload_n 0, 1) := by decide +kernel
theorem dX3_has_6 : decode cX3_has 6 = .ok (.getfield 21, 3) := by decide +kernel
theorem dX3_has_9 : decode cX3_has 9 = .ok (.aload_n 0, 1) := by decide +kernel
theorem dX3_has_10 : decode cX3_has 10 = .ok (.getfield 25, 3) := by decide +kernel
theorem dX3_has_13 : decode cX3_has 13 = .ok (.imul, 1) := by decide +kernel
theorem dX3_has_14 : decode cX3_has 14 = .ok (.if_icmp .ge 13, 3) := by decide +kernel
theorem dX3_has_17 : decode cX3_has 17 = .ok (.iload_n 1, 1) := by decide +kernel
theorem dX3_has_18 : decode cX3_has 18 = .ok (.bipush 25, 2) := by decide +kernel
theorem dX3_has_20 : decode cX3_has 20 = .ok (.if_icmp .ge 7, 3) := by decide +kernel
theorem dX3_has_23 : decode cX3_has 23 = .ok (.iconst 1, 1) := by decide +kernel
theorem dX3_has_24 : decode cX3_has 24 = .ok (.goto 4, 3) := by decide +kernel
theorem dX3_has_27 : decode cX3_has 27 = .ok (.iconst 0, 1) := by decide +kernel
theorem dX3_has_28 : decode cX3_has 28 = .ok (.ireturn, 1) := by decide +kernel
theorem dX3_hasRow_0 : decode cX3_hasRow 0 = .ok (.iload_n 1, 1) := by decide +kernel
theorem dX3_hasRow_1 : decode cX3_hasRow 1 = .ok (.ifCond .lt 15, 3) := by decide +kernel
theorem dX3_hasRow_4 : decode cX3_hasRow 4 = .ok (.iload_n 1, 1) := by decide +kernel
theorem dX3_hasRow_5 : decode cX3_hasRow 5 = .ok (.aload_n 0, 1) := by decide +kernel
theorem dX3_hasRow_6 : decode cX3_hasRow 6 = .ok (.getfield 25, 3) := by decide +kernel
theorem dX3_hasRow_9 : decode cX3_hasRow 9 = .ok (.if_icmp .ge 7, 3) := by decide +kernel
theorem dX3_hasRow_12 : decode cX3_hasRow 12 = .ok (.iconst 1, 1) := by decide +kernel
theorem dX3_hasRow_13 : decode cX3_hasRow 13 = .ok (.goto 4, 3) := by decide +kernel
theorem dX3_hasRow_16 : decode cX3_hasRow 16 = .ok (.iconst 0, 1) := by decide +kernel
theorem dX3_hasRow_17 : decode cX3_hasRow 17 = .ok (.ireturn, 1) := by decide +kernel
theorem dX3_greyOf_0 : decode cX3_greyOf 0 = .ok (.iload_n 2, 1) := by decide +kernel
theorem dX3_greyOf_1 : decode cX3_greyOf 1 = .ok (.ifCond .lt 9, 3) := by decide +kernel
theorem dX3_greyOf_4 : decode cX3_greyOf 4 = .ok (.iload_n 2, 1) := by decide +kernel
theorem dX3_greyOf_5 : decode cX3_greyOf 5 = .ok (.bipush 25, 2) := by decide +kernel
theorem dX3_greyOf_7 : decode cX3_greyOf 7 = .ok (.if_icmp .lt 6, 3) := by decide +kernel
theorem dX3_greyOf_10 : decode cX3_greyOf 10 = .ok (.bipush 9, 2) := by decide +kernel
theorem dX3_greyOf_12 : decode cX3_greyOf 12 = .ok (.ireturn, 1) := by decide +kernel
theorem dX3_greyOf_13 : decode cX3_greyOf 13 = .ok (.iload_n 1, 1) := by decide +kernel
theorem dX3_greyOf_14 : decode cX3_greyOf 14 = .ok (.ifCond .ne 12, 3) := by decide +kernel
theorem dX3_greyOf_17 : decode cX3_greyOf 17 = .ok (.aload_n 0, 1) := by decide +kernel
theorem dX3_greyOf_18 : decode cX3_greyOf 18 = .ok (.getfield 9, 3) := by decide +kernel
theorem dX3_greyOf_21 : decode cX3_greyOf 21 = .ok (.iload_n 2, 1) := by decide +kernel
theorem dX3_greyOf_22 : decode cX3_greyOf 22 = .ok (.iaload, 1) := by decide +kernel
theorem dX3_greyOf_23 : decode cX3_greyOf 23 = .ok (.goto 9, 3) := by decide +kernel
theorem dX3_greyOf_26 : decode cX3_greyOf 26 = .ok (.aload_n 0, 1) := by decide +kernel
theorem dX3_greyOf_27 : decode cX3_greyOf 27 = .ok (.getfield 15, 3) := by decide +kernel
theorem dX3_greyOf_30 : decode cX3_greyOf 30 = .ok (.iload_n 2, 1) := by decide +kernel
theorem dX3_greyOf_31 : decode cX3_greyOf 31 = .ok (.iaload, 1) := by decide +kernel
theorem dX3_greyOf_32 : decode cX3_greyOf 32 = .ok (.ireturn, 1) := by decide +kernel
theorem dX3_setGrey_0 : decode cX3_setGrey 0 = .ok (.aload_n 0, 1) := by decide +kernel
theorem dX3_setGrey_1 : decode cX3_setGrey 1 = .ok (.iload_n 2, 1) := by decide +kernel
theorem dX3_setGrey_2 : decode cX3_setGrey 2 = .ok (.invokevirtual 73, 3) := by decide +kernel
theorem dX3_setGrey_5 : decode cX3_setGrey 5 = .ok (.ifCond .eq 24, 3) := by decide +kernel
theorem dX3_setGrey_8 : decode cX3_setGrey 8 = .ok (.iload_n 1, 1) := by decide +kernel
theorem dX3_setGrey_9 : decode cX3_setGrey 9 = .ok (.ifCond .ne 13, 3) := by decide +kernel
theorem dX3_setGrey_12 : decode cX3_setGrey 12 = .ok (.aload_n 0, 1) := by decide +kernel
theorem dX3_setGrey_13 : decode cX3_setGrey 13 = .ok (.getfield 9, 3) := by decide +kernel
theorem dX3_setGrey_16 : decode cX3_setGrey 16 = .ok (.iload_n 2, 1) := by decide +kernel
theorem dX3_setGrey_17 : decode cX3_setGrey 17 = .ok (.iload_n 3, 1) := by decide +kernel
theorem dX3_setGrey_18 : decode cX3_setGrey 18 = .ok (.iastore, 1) := by decide +kernel
theorem dX3_setGrey_19 : decode cX3_setGrey 19 = .ok (.goto 10, 3) := by decide +kernel
theorem dX3_setGrey_22 : decode cX3_setGrey 22 = .ok (.aload_n 0, 1) := by decide +kernel
theorem dX3_setGrey_23 : decode cX3_setGrey 23 = .ok (.getfield 15, 3) := by decide +kernel
theorem dX3_setGrey_26 : decode cX3_setGrey 26 = .ok (.iload_n 2, 1) := by decide +kernel
theorem dX3_setGrey_27 : decode cX3_setGrey 27 = .ok (.iload_n 3, 1) := by decide +kernel
theorem dX3_setGrey_28 : decode cX3_setGrey 28 = .ok (.iastore, 1) := by decide +kernel
theorem dX3_setGrey_29 : decode cX3_setGrey 29 = .ok (.return_, 1) := by decide +kernel
theorem dX3_shownFor_0 : decode cX3_shownFor 0 = .ok (.iload_n 1, 1) := by decide +kernel
theorem dX3_shownFor_1 : decode cX3_shownFor 1 = .ok (.ifCond .lt 18, 3) := by decide +kernel
theorem dX3_shownFor_4 : decode cX3_shownFor 4 = .ok (.iload_n 1, 1) := by decide +kernel
theorem dX3_shownFor_5 : decode cX3_shownFor 5 = .ok (.bipush 10, 2) := by decide +kernel
theorem dX3_shownFor_7 : decode cX3_shownFor 7 = .ok (.if_icmp .ge 12, 3) := by decide +kernel
theorem dX3_shownFor_10 : decode cX3_shownFor 10 = .ok (.aload_n 0, 1) := by decide +kernel
theorem dX3_shownFor_11 : decode cX3_shownFor 11 = .ok (.getfield 18, 3) := by decide +kernel
theorem dX3_shownFor_14 : decode cX3_shownFor 14 = .ok (.iload_n 1, 1) := by decide +kernel
theorem dX3_shownFor_15 : decode cX3_shownFor 15 = .ok (.iaload, 1) := by decide +kernel
theorem dX3_shownFor_16 : decode cX3_shownFor 16 = .ok (.goto 4, 3) := by decide +kernel
theorem dX3_shownFor_19 : decode cX3_shownFor 19 = .ok (.iconst 0, 1) := by decide +kernel
theorem dX3_shownFor_20 : decode cX3_shownFor 20 = .ok (.ireturn, 1) := by decide +kernel
theorem dX3_setShown_0 : decode cX3_setShown 0 = .ok (.iload_n 1, 1) := by decide +kernel
theorem dX3_setShown_1 : decode cX3_setShown 1 = .ok (.invokestatic 77, 3) := by decide +kernel
theorem dX3_setShown_4 : decode cX3_setShown 4 = .ok (.ifCond .eq 10, 3) := by decide +kernel
theorem dX3_setShown_7 : decode cX3_setShown 7 = .ok (.aload_n 0, 1) := by decide +kernel
theorem dX3_setShown_8 : decode cX3_setShown 8 = .ok (.getfield 18, 3) := by decide +kernel
theorem dX3_setShown_11 : decode cX3_setShown 11 = .ok (.iload_n 1, 1) := by decide +kernel
theorem dX3_setShown_12 : decode cX3_setShown 12 = .ok (.iload_n 2, 1) := by decide +kernel
theorem dX3_setShown_13 : decode cX3_setShown 13 = .ok (.iastore, 1) := by decide +kernel
theorem dX3_setShown_14 : decode cX3_setShown 14 = .ok (.return_, 1) := by decide +kernel
theorem dX3_setRule_0 : decode cX3_setRule 0 = .ok (.aload_n 0, 1) := by decide +kernel
theorem dX3_setRule_1 : decode cX3_setRule 1 = .ok (.iload_n 1, 1) := by decide +kernel
theorem dX3_setRule_2 : decode cX3_setRule 2 = .ok (.putfield 28, 3) := by decide +kernel
theorem dX3_setRule_5 : decode cX3_setRule 5 = .ok (.aload_n 0, 1) := by decide +kernel
theorem dX3_setRule_6 : decode cX3_setRule 6 = .ok (.iload_n 2, 1) := by decide +kernel
theorem dX3_setRule_7 : decode cX3_setRule 7 = .ok (.putfield 31, 3) := by decide +kernel
theorem dX3_setRule_10 : decode cX3_setRule 10 = .ok (.aload_n 0, 1) := by decide +kernel
theorem dX3_setRule_11 : decode cX3_setRule 11 = .ok (.iload_n 3, 1) := by decide +kernel
theorem dX3_setRule_12 : decode cX3_setRule 12 = .ok (.putfield 34, 3) := by decide +kernel
theorem dX3_setRule_15 : decode cX3_setRule 15 = .ok (.return_, 1) := by decide +kernel
theorem dX3_setLie_0 : decode cX3_setLie 0 = .ok (.aload_n 0, 1) := by decide +kernel
theorem dX3_setLie_1 : decode cX3_setLie 1 = .ok (.iload_n 1, 1) := by decide +kernel
theorem dX3_setLie_2 : decode cX3_setLie 2 = .ok (.putfield 37, 3) := by decide +kernel
theorem dX3_setLie_5 : decode cX3_setLie 5 = .ok (.aload_n 0, 1) := by decide +kernel
theorem dX3_setLie_6 : decode cX3_setLie 6 = .ok (.iload_n 2, 1) := by decide +kernel
theorem dX3_setLie_7 : decode cX3_setLie 7 = .ok (.putfield 40, 3) := by decide +kernel
theorem dX3_setLie_10 : decode cX3_setLie 10 = .ok (.return_, 1) := by decide +kernel
theorem dX3_greysTogether_0 : decode cX3_greysTogether 0 = .ok (.iconst 0, 1) := by decide +kernel
theorem dX3_greysTogether_1 : decode cX3_greysTogether 1 = .ok (.istore_n 1, 1) := by decide +kernel
theorem dX3_greysTogether_2 : decode cX3_greysTogether 2 = .ok (.iconst 0, 1) := by decide +kernel
theorem dX3_greysTogether_3 : decode cX3_greysTogether 3 = .ok (.istore_n 2, 1) := by decide +kernel
theorem dX3_greysTogether_4 : decode cX3_greysTogether 4 = .ok (.iload_n 2, 1) := by decide +kernel
theorem dX3_greysTogether_5 : decode cX3_greysTogether 5 = .ok (.aload_n 0, 1) := by decide +kernel
theorem dX3_greysTogether_6 : decode cX3_greysTogether 6 = .ok (.invokevirtual 49, 3) := by decide +kernel
theorem dX3_greysTogether_9 : decode cX3_greysTogether 9 = .ok (.if_icmp .ge 18, 3) := by decide +kernel
theorem dX3_greysTogether_12 : decode cX3_greysTogether 12 = .ok (.iload_n 1, 1) := by decide +kernel
theorem dX3_greysTogether_13 : decode cX3_greysTogether 13 = .ok (.aload_n 0, 1) := by decide +kernel
theorem dX3_greysTogether_14 : decode cX3_greysTogether 14 = .ok (.iconst 0, 1) := by decide +kernel
theorem dX3_greysTogether_15 : decode cX3_greysTogether 15 = .ok (.iload_n 2, 1) := by decide +kernel
theorem dX3_greysTogether_16 : decode cX3_greysTogether 16 = .ok (.invokevirtual 80, 3) := by decide +kernel
theorem dX3_greysTogether_19 : decode cX3_greysTogether 19 = .ok (.iadd, 1) := by decide +kernel
theorem dX3_greysTogether_20 : decode cX3_greysTogether 20 = .ok (.istore_n 1, 1) := by decide +kernel
theorem dX3_greysTogether_21 : decode cX3_greysTogether 21 = .ok (.iinc 2 1, 3) := by decide +kernel
theorem dX3_greysTogether_24 : decode cX3_greysTogether 24 = .ok (.goto (-20), 3) := by decide +kernel
theorem dX3_greysTogether_27 : decode cX3_greysTogether 27 = .ok (.iload_n 1, 1) := by decide +kernel
theorem dX3_greysTogether_28 : decode cX3_greysTogether 28 = .ok (.ireturn, 1) := by decide +kernel
theorem dX3_staysGrey_0 : decode cX3_staysGrey 0 = .ok (.iconst 1, 1) := by decide +kernel
theorem dX3_staysGrey_1 : decode cX3_staysGrey 1 = .ok (.istore_n 2, 1) := by decide +kernel
theorem dX3_staysGrey_2 : decode cX3_staysGrey 2 = .ok (.iconst 0, 1) := by decide +kernel
theorem dX3_staysGrey_3 : decode cX3_staysGrey 3 = .ok (.istore_n 3, 1) := by decide +kernel
theorem dX3_staysGrey_4 : decode cX3_staysGrey 4 = .ok (.iload_n 3, 1) := by decide +kernel
theorem dX3_staysGrey_5 : decode cX3_staysGrey 5 = .ok (.aload_n 0, 1) := by decide +kernel
theorem dX3_staysGrey_6 : decode cX3_staysGrey 6 = .ok (.invokevirtual 49, 3) := by decide +kernel
theorem dX3_staysGrey_9 : decode cX3_staysGrey 9 = .ok (.if_icmp .ge 33, 3) := by decide +kernel
theorem dX3_staysGrey_12 : decode cX3_staysGrey 12 = .ok (.iload_n 2, 1) := by decide +kernel
theorem dX3_staysGrey_13 : decode cX3_staysGrey 13 = .ok (.ifCond .eq 21, 3) := by decide +kernel
theorem dX3_staysGrey_16 : decode cX3_staysGrey 16 = .ok (.aload_n 0, 1) := by decide +kernel
theorem dX3_staysGrey_17 : decode cX3_staysGrey 17 = .ok (.iconst 0, 1) := by decide +kernel
theorem dX3_staysGrey_18 : decode cX3_staysGrey 18 = .ok (.iload_n 3, 1) := by decide +kernel
theorem dX3_staysGrey_19 : decode cX3_staysGrey 19 = .ok (.invokevirtual 80, 3) := by decide +kernel
theorem dX3_staysGrey_22 : decode cX3_staysGrey 22 = .ok (.iload_n 1, 1) := by decide +kernel
theorem dX3_staysGrey_23 : decode cX3_staysGrey 23 = .ok (.iadd, 1) := by decide +kernel
theorem dX3_staysGrey_24 : decode cX3_staysGrey 24 = .ok (.invokestatic 77, 3) := by decide +kernel
theorem dX3_staysGrey_27 : decode cX3_staysGrey 27 = .ok (.ifCond .eq 7, 3) := by decide +kernel
theorem dX3_staysGrey_30 : decode cX3_staysGrey 30 = .ok (.iconst 1, 1) := by decide +kernel
theorem dX3_staysGrey_31 : decode cX3_staysGrey 31 = .ok (.goto 4, 3) := by decide +kernel
theorem dX3_staysGrey_34 : decode cX3_staysGrey 34 = .ok (.iconst 0, 1) := by decide +kernel
theorem dX3_staysGrey_35 : decode cX3_staysGrey 35 = .ok (.istore_n 2, 1) := by decide +kernel
theorem dX3_staysGrey_36 : decode cX3_staysGrey 36 = .ok (.iinc 3 1, 3) := by decide +kernel
theorem dX3_staysGrey_39 : decode cX3_staysGrey 39 = .ok (.goto (-35), 3) := by decide +kernel
theorem dX3_staysGrey_42 : decode cX3_staysGrey 42 = .ok (.iload_n 2, 1) := by decide +kernel
theorem dX3_staysGrey_43 : decode cX3_staysGrey 43 = .ok (.ireturn, 1) := by decide +kernel
theorem dX3_lighten_0 : decode cX3_lighten 0 = .ok (.iconst 0, 1) := by decide +kernel
theorem dX3_lighten_1 : decode cX3_lighten 1 = .ok (.istore_n 2, 1) := by decide +kernel
theorem dX3_lighten_2 : decode cX3_lighten 2 = .ok (.iload_n 2, 1) := by decide +kernel
theorem dX3_lighten_3 : decode cX3_lighten 3 = .ok (.aload_n 0, 1) := by decide +kernel
theorem dX3_lighten_4 : decode cX3_lighten 4 = .ok (.invokevirtual 49, 3) := by decide +kernel
theorem dX3_lighten_7 : decode cX3_lighten 7 = .ok (.if_icmp .ge 23, 3) := by decide +kernel
theorem dX3_lighten_10 : decode cX3_lighten 10 = .ok (.aload_n 0, 1) := by decide +kernel
theorem dX3_lighten_11 : decode cX3_lighten 11 = .ok (.iconst 0, 1) := by decide +kernel
theorem dX3_lighten_12 : decode cX3_lighten 12 = .ok (.iload_n 2, 1) := by decide +kernel
theorem dX3_lighten_13 : decode cX3_lighten 13 = .ok (.aload_n 0, 1) := by decide +kernel
theorem dX3_lighten_14 : decode cX3_lighten 14 = .ok (.iconst 0, 1) := by decide +kernel
theorem dX3_lighten_15 : decode cX3_lighten 15 = .ok (.iload_n 2, 1) := by decide +kernel
theorem dX3_lighten_16 : decode cX3_lighten 16 = .ok (.invokevirtual 80, 3) := by decide +kernel
theorem dX3_lighten_19 : decode cX3_lighten 19 = .ok (.iload_n 1, 1) := by decide +kernel
theorem dX3_lighten_20 : decode cX3_lighten 20 = .ok (.iadd, 1) := by decide +kernel
theorem dX3_lighten_21 : decode cX3_lighten 21 = .ok (.invokevirtual 53, 3) := by decide +kernel
theorem dX3_lighten_24 : decode cX3_lighten 24 = .ok (.iinc 2 1, 3) := by decide +kernel
theorem dX3_lighten_27 : decode cX3_lighten 27 = .ok (.goto (-25), 3) := by decide +kernel
theorem dX3_lighten_30 : decode cX3_lighten 30 = .ok (.return_, 1) := by decide +kernel
theorem dX3_whiten_0 : decode cX3_whiten 0 = .ok (.iconst 0, 1) := by decide +kernel
theorem dX3_whiten_1 : decode cX3_whiten 1 = .ok (.istore_n 3, 1) := by decide +kernel
theorem dX3_whiten_2 : decode cX3_whiten 2 = .ok (.iload_n 3, 1) := by decide +kernel
theorem dX3_whiten_3 : decode cX3_whiten 3 = .ok (.aload_n 0, 1) := by decide +kernel
theorem dX3_whiten_4 : decode cX3_whiten 4 = .ok (.getfield 21, 3) := by decide +kernel
theorem dX3_whiten_7 : decode cX3_whiten 7 = .ok (.if_icmp .ge 32, 3) := by decide +kernel
theorem dX3_whiten_10 : decode cX3_whiten 10 = .ok (.iload_n 2, 1) := by decide +kernel
theorem dX3_whiten_11 : decode cX3_whiten 11 = .ok (.iconst 1, 1) := by decide +kernel
theorem dX3_whiten_12 : decode cX3_whiten 12 = .ok (.iload_n 3, 1) := by decide +kernel
theorem dX3_whiten_13 : decode cX3_whiten 13 = .ok (.ishl, 1) := by decide +kernel
theorem dX3_whiten_14 : decode cX3_whiten 14 = .ok (.iand, 1) := by decide +kernel
theorem dX3_whiten_15 : decode cX3_whiten 15 = .ok (.ifCond .eq 18, 3) := by decide +kernel
theorem dX3_whiten_18 : decode cX3_whiten 18 = .ok (.aload_n 0, 1) := by decide +kernel
theorem dX3_whiten_19 : decode cX3_whiten 19 = .ok (.iconst 0, 1) := by decide +kernel
theorem dX3_whiten_20 : decode cX3_whiten 20 = .ok (.iload_n 1, 1) := by decide +kernel
theorem dX3_whiten_21 : decode cX3_whiten 21 = .ok (.aload_n 0, 1) := by decide +kernel
theorem dX3_whiten_22 : decode cX3_whiten 22 = .ok (.getfield 21, 3) := by decide +kernel
theorem dX3_whiten_25 : decode cX3_whiten 25 = .ok (.imul, 1) := by decide +kernel
theorem dX3_whiten_26 : decode cX3_whiten 26 = .ok (.iload_n 3, 1) := by decide +kernel
theorem dX3_whiten_27 : decode cX3_whiten 27 = .ok (.iadd, 1) := by decide +kernel
theorem dX3_whiten_28 : decode cX3_whiten 28 = .ok (.bipush 9, 2) := by decide +kernel
theorem dX3_whiten_30 : decode cX3_whiten 30 = .ok (.invokevirtual 53, 3) := by decide +kernel
theorem dX3_whiten_33 : decode cX3_whiten 33 = .ok (.iinc 3 1, 3) := by decide +kernel
theorem dX3_whiten_36 : decode cX3_whiten 36 = .ok (.goto (-34), 3) := by decide +kernel
theorem dX3_whiten_39 : decode cX3_whiten 39 = .ok (.return_, 1) := by decide +kernel
theorem dX3_columnOf_0 : decode cX3_columnOf 0 = .ok (.aload_n 0, 1) := by decide +kernel
theorem dX3_columnOf_1 : decode cX3_columnOf 1 = .ok (.getfield 21, 3) := by decide +kernel
theorem dX3_columnOf_4 : decode cX3_columnOf 4 = .ok (.ifCond .ne 7, 3) := by decide +kernel
theorem dX3_columnOf_7 : decode cX3_columnOf 7 = .ok (.iconst 0, 1) := by decide +kernel
theorem dX3_columnOf_8 : decode cX3_columnOf 8 = .ok (.goto 9, 3) := by decide +kernel
theorem dX3_columnOf_11 : decode cX3_columnOf 11 = .ok (.iload_n 1, 1) := by decide +kernel
theorem dX3_columnOf_12 : decode cX3_columnOf 12 = .ok (.aload_n 0, 1) := by decide +kernel
theorem dX3_columnOf_13 : decode cX3_columnOf 13 = .ok (.getfield 21, 3) := by decide +kernel
theorem dX3_columnOf_16 : decode cX3_columnOf 16 = .ok (.irem, 1) := by decide +kernel
theorem dX3_columnOf_17 : decode cX3_columnOf 17 = .ok (.ireturn, 1) := by decide +kernel
theorem dX3_rowOf_0 : decode cX3_rowOf 0 = .ok (.aload_n 0, 1) := by decide +kernel
theorem dX3_rowOf_1 : decode cX3_rowOf 1 = .ok (.getfield 21, 3) := by decide +kernel
theorem dX3_rowOf_4 : decode cX3_rowOf 4 = .ok (.ifCond .ne 7, 3) := by decide +kernel
theorem dX3_rowOf_7 : decode cX3_rowOf 7 = .ok (.iconst 0, 1) := by decide +kernel
theorem dX3_rowOf_8 : decode cX3_rowOf 8 = .ok (.goto 9, 3) := by decide +kernel
theorem dX3_rowOf_11 : decode cX3_rowOf 11 = .ok (.iload_n 1, 1) := by decide +kernel
theorem dX3_rowOf_12 : decode cX3_rowOf 12 = .ok (.aload_n 0, 1) := by decide +kernel
theorem dX3_rowOf_13 : decode cX3_rowOf 13 = .ok (.getfield 21, 3) := by decide +kernel
theorem dX3_rowOf_16 : decode cX3_rowOf 16 = .ok (.idiv, 1) := by decide +kernel
theorem dX3_rowOf_17 : decode cX3_rowOf 17 = .ok (.ireturn, 1) := by decide +kernel
theorem dX3_lyingUnder_0 : decode cX3_lyingUnder 0 = .ok (.aload_n 0, 1) := by decide +kernel
theorem dX3_lyingUnder_1 : decode cX3_lyingUnder 1 = .ok (.getfield 21, 3) := by decide +kernel
theorem dX3_lyingUnder_4 : decode cX3_lyingUnder 4 = .ok (.ifCond .ne 6, 3) := by decide +kernel
theorem dX3_lyingUnder_7 : decode cX3_lyingUnder 7 = .ok (.bipush (-9), 2) := by decide +kernel
theorem dX3_lyingUnder_9 : decode cX3_lyingUnder 9 = .ok (.ireturn, 1) := by decide +kernel
theorem dX3_lyingUnder_10 : decode cX3_lyingUnder 10 = .ok (.aload_n 0, 1) := by decide +kernel
theorem dX3_lyingUnder_11 : decode cX3_lyingUnder 11 = .ok (.getfield 21, 3) := by decide +kernel
theorem dX3_lyingUnder_14 : decode cX3_lyingUnder 14 = .ok (.iconst 1, 1) := by decide +kernel
theorem dX3_lyingUnder_15 : decode cX3_lyingUnder 15 = .ok (.isub, 1) := by decide +kernel
theorem dX3_lyingUnder_16 : decode cX3_lyingUnder 16 = .ok (.iload_n 1, 1) := by decide +kernel
theorem dX3_lyingUnder_17 : decode cX3_lyingUnder 17 = .ok (.aload_n 0, 1) := by decide +kernel
theorem dX3_lyingUnder_18 : decode cX3_lyingUnder 18 = .ok (.getfield 21, 3) := by decide +kernel
theorem dX3_lyingUnder_21 : decode cX3_lyingUnder 21 = .ok (.irem, 1) := by decide +kernel
theorem dX3_lyingUnder_22 : decode cX3_lyingUnder 22 = .ok (.isub, 1) := by decide +kernel
theorem dX3_lyingUnder_23 : decode cX3_lyingUnder 23 = .ok (.iload_n 2, 1) := by decide +kernel
theorem dX3_lyingUnder_24 : decode cX3_lyingUnder 24 = .ok (.iadd, 1) := by decide +kernel
theorem dX3_lyingUnder_25 : decode cX3_lyingUnder 25 = .ok (.istore 4, 2) := by decide +kernel
theorem dX3_lyingUnder_27 : decode cX3_lyingUnder 27 = .ok (.iload_n 1, 1) := by decide +kernel
theorem dX3_lyingUnder_28 : decode cX3_lyingUnder 28 = .ok (.aload_n 0, 1) := by decide +kernel
theorem dX3_lyingUnder_29 : decode cX3_lyingUnder 29 = .ok (.getfield 21, 3) := by decide +kernel
theorem dX3_lyingUnder_32 : decode cX3_lyingUnder 32 = .ok (.idiv, 1) := by decide +kernel
theorem dX3_lyingUnder_33 : decode cX3_lyingUnder 33 = .ok (.iload_n 3, 1) := by decide +kernel
theorem dX3_lyingUnder_34 : decode cX3_lyingUnder 34 = .ok (.iadd, 1) := by decide +kernel
theorem dX3_lyingUnder_35 : decode cX3_lyingUnder 35 = .ok (.istore 5, 2) := by decide +kernel
theorem dX3_lyingUnder_37 : decode cX3_lyingUnder 37 = .ok (.iload 4, 2) := by decide +kernel
theorem dX3_lyingUnder_39 : decode cX3_lyingUnder 39 = .ok (.ifCond .lt 30, 3) := by decide +kernel
theorem dX3_lyingUnder_42 : decode cX3_lyingUnder 42 = .ok (.iload 4, 2) := by decide +kernel
theorem dX3_lyingUnder_44 : decode cX3_lyingUnder 44 = .ok (.aload_n 0, 1) := by decide +kernel
theorem dX3_lyingUnder_45 : decode cX3_lyingUnder 45 = .ok (.getfield 21, 3) := by decide +kernel
theorem dX3_lyingUnder_48 : decode cX3_lyingUnder 48 = .ok (.if_icmp .ge 21, 3) := by decide +kernel
theorem dX3_lyingUnder_51 : decode cX3_lyingUnder 51 = .ok (.iload 5, 2) := by decide +kernel
theorem dX3_lyingUnder_53 : decode cX3_lyingUnder 53 = .ok (.ifCond .lt 16, 3) := by decide +kernel
theorem dX3_lyingUnder_56 : decode cX3_lyingUnder 56 = .ok (.iload 5, 2) := by decide +kernel
theorem dX3_lyingUnder_58 : decode cX3_lyingUnder 58 = .ok (.aload_n 0, 1) := by decide +kernel
theorem dX3_lyingUnder_59 : decode cX3_lyingUnder 59 = .ok (.getfield 25, 3) := by decide +kernel
theorem dX3_lyingUnder_62 : decode cX3_lyingUnder 62 = .ok (.if_icmp .ge 7, 3) := by decide +kernel
theorem dX3_lyingUnder_65 : decode cX3_lyingUnder 65 = .ok (.iconst 1, 1) := by decide +kernel
theorem dX3_lyingUnder_66 : decode cX3_lyingUnder 66 = .ok (.goto 4, 3) := by decide +kernel
theorem dX3_lyingUnder_69 : decode cX3_lyingUnder 69 = .ok (.iconst 0, 1) := by decide +kernel
theorem dX3_lyingUnder_70 : decode cX3_lyingUnder 70 = .ok (.istore 6, 2) := by decide +kernel
theorem dX3_lyingUnder_72 : decode cX3_lyingUnder 72 = .ok (.iload 6, 2) := by decide +kernel
theorem dX3_lyingUnder_74 : decode cX3_lyingUnder 74 = .ok (.ifCond .eq 16, 3) := by decide +kernel
theorem dX3_lyingUnder_77 : decode cX3_lyingUnder 77 = .ok (.iload 5, 2) := by decide +kernel
theorem dX3_lyingUnder_79 : decode cX3_lyingUnder 79 = .ok (.aload_n 0, 1) := by decide +kernel
theorem dX3_lyingUnder_80 : decode cX3_lyingUnder 80 = .ok (.getfield 21, 3) := by decide +kernel
theorem dX3_lyingUnder_83 : decode cX3_lyingUnder 83 = .ok (.imul, 1) := by decide +kernel
theorem dX3_lyingUnder_84 : decode cX3_lyingUnder 84 = .ok (.iload 4, 2) := by decide +kernel
theorem dX3_lyingUnder_86 : decode cX3_lyingUnder 86 = .ok (.iadd, 1) := by decide +kernel
theorem dX3_lyingUnder_87 : decode cX3_lyingUnder 87 = .ok (.goto 5, 3) := by decide +kernel
theorem dX3_lyingUnder_90 : decode cX3_lyingUnder 90 = .ok (.bipush (-9), 2) := by decide +kernel
theorem dX3_lyingUnder_92 : decode cX3_lyingUnder 92 = .ok (.ireturn, 1) := by decide +kernel
theorem dX3_greyAlone_0 : decode cX3_greyAlone 0 = .ok (.aload_n 0, 1) := by decide +kernel
theorem dX3_greyAlone_1 : decode cX3_greyAlone 1 = .ok (.iconst 0, 1) := by decide +kernel
theorem dX3_greyAlone_2 : decode cX3_greyAlone 2 = .ok (.iload_n 1, 1) := by decide +kernel
theorem dX3_greyAlone_3 : decode cX3_greyAlone 3 = .ok (.invokevirtual 80, 3) := by decide +kernel
theorem dX3_greyAlone_6 : decode cX3_greyAlone 6 = .ok (.istore_n 2, 1) := by decide +kernel
theorem dX3_greyAlone_7 : decode cX3_greyAlone 7 = .ok (.aload_n 0, 1) := by decide +kernel
theorem dX3_greyAlone_8 : decode cX3_greyAlone 8 = .ok (.iload_n 1, 1) := by decide +kernel
theorem dX3_greyAlone_9 : decode cX3_greyAlone 9 = .ok (.aload_n 0, 1) := by decide +kernel
theorem dX3_greyAlone_10 : decode cX3_greyAlone 10 = .ok (.getfield 37, 3) := by decide +kernel
theorem dX3_greyAlone_13 : decode cX3_greyAlone 13 = .ok (.aload_n 0, 1) := by decide +kernel
theorem dX3_greyAlone_14 : decode cX3_greyAlone 14 = .ok (.getfield 40, 3) := by decide +kernel
theorem dX3_greyAlone_17 : decode cX3_greyAlone 17 = .ok (.invokevirtual 84, 3) := by decide +kernel
theorem dX3_greyAlone_20 : decode cX3_greyAlone 20 = .ok (.istore_n 3, 1) := by decide +kernel
theorem dX3_greyAlone_21 : decode cX3_greyAlone 21 = .ok (.iload_n 3, 1) := by decide +kernel
theorem dX3_greyAlone_22 : decode cX3_greyAlone 22 = .ok (.bipush (-9), 2) := by decide +kernel
theorem dX3_greyAlone_24 : decode cX3_greyAlone 24 = .ok (.if_icmp .ne 7, 3) := by decide +kernel
theorem dX3_greyAlone_27 : decode cX3_greyAlone 27 = .ok (.iload_n 2, 1) := by decide +kernel
theorem dX3_greyAlone_28 : decode cX3_greyAlone 28 = .ok (.goto 20, 3) := by decide +kernel
theorem dX3_greyAlone_31 : decode cX3_greyAlone 31 = .ok (.bipush 9, 2) := by decide +kernel
theorem dX3_greyAlone_33 : decode cX3_greyAlone 33 = .ok (.iload_n 2, 1) := by decide +kernel
theorem dX3_greyAlone_34 : decode cX3_greyAlone 34 = .ok (.aload_n 0, 1) := by decide +kernel
theorem dX3_greyAlone_35 : decode cX3_greyAlone 35 = .ok (.aload_n 0, 1) := by decide +kernel
theorem dX3_greyAlone_36 : decode cX3_greyAlone 36 = .ok (.iconst 1, 1) := by decide +kernel
theorem dX3_greyAlone_37 : decode cX3_greyAlone 37 = .ok (.iload_n 3, 1) := by decide +kernel
theorem dX3_greyAlone_38 : decode cX3_greyAlone 38 = .ok (.invokevirtual 80, 3) := by decide +kernel
theorem dX3_greyAlone_41 : decode cX3_greyAlone 41 = .ok (.invokevirtual 88, 3) := by decide +kernel
theorem dX3_greyAlone_44 : decode cX3_greyAlone 44 = .ok (.iadd, 1) := by decide +kernel
theorem dX3_greyAlone_45 : decode cX3_greyAlone 45 = .ok (.invokestatic 91, 3) := by decide +kernel
theorem dX3_greyAlone_48 : decode cX3_greyAlone 48 = .ok (.ireturn, 1) := by decide +kernel
theorem dX3_pairs_0 : decode cX3_pairs 0 = .ok (.iconst 0, 1) := by decide +kernel
theorem dX3_pairs_1 : decode cX3_pairs 1 = .ok (.istore_n 3, 1) := by decide +kernel
theorem dX3_pairs_2 : decode cX3_pairs 2 = .ok (.iconst 0, 1) := by decide +kernel
theorem dX3_pairs_3 : decode cX3_pairs 3 = .ok (.istore 4, 2) := by decide +kernel
theorem dX3_pairs_5 : decode cX3_pairs 5 = .ok (.iload 4, 2) := by decide +kernel
theorem dX3_pairs_7 : decode cX3_pairs 7 = .ok (.aload_n 0, 1) := by decide +kernel
theorem dX3_pairs_8 : decode cX3_pairs 8 = .ok (.invokevirtual 49, 3) := by decide +kernel
theorem dX3_pairs_11 : decode cX3_pairs 11 = .ok (.if_icmp .ge 30, 3) := by decide +kernel
theorem dX3_pairs_14 : decode cX3_pairs 14 = .ok (.iload_n 3, 1) := by decide +kernel
theorem dX3_pairs_15 : decode cX3_pairs 15 = .ok (.aload_n 0, 1) := by decide +kernel
theorem dX3_pairs_16 : decode cX3_pairs 16 = .ok (.iload 4, 2) := by decide +kernel
theorem dX3_pairs_18 : decode cX3_pairs 18 = .ok (.iload_n 1, 1) := by decide +kernel
theorem dX3_pairs_19 : decode cX3_pairs 19 = .ok (.iload_n 2, 1) := by decide +kernel
theorem dX3_pairs_20 : decode cX3_pairs 20 = .ok (.invokevirtual 84, 3) := by decide +kernel
theorem dX3_pairs_23 : decode cX3_pairs 23 = .ok (.bipush (-9), 2) := by decide +kernel
theorem dX3_pairs_25 : decode cX3_pairs 25 = .ok (.if_icmp .ne 7, 3) := by decide +kernel
theorem dX3_pairs_28 : decode cX3_pairs 28 = .ok (.iconst 0, 1) := by decide +kernel
theorem dX3_pairs_29 : decode cX3_pairs 29 = .ok (.goto 4, 3) := by decide +kernel
theorem dX3_pairs_32 : decode cX3_pairs 32 = .ok (.iconst 1, 1) := by decide +kernel
theorem dX3_pairs_33 : decode cX3_pairs 33 = .ok (.iadd, 1) := by decide +kernel
theorem dX3_pairs_34 : decode cX3_pairs 34 = .ok (.istore_n 3, 1) := by decide +kernel
theorem dX3_pairs_35 : decode cX3_pairs 35 = .ok (.iinc 4 1, 3) := by decide +kernel
theorem dX3_pairs_38 : decode cX3_pairs 38 = .ok (.goto (-33), 3) := by decide +kernel
theorem dX3_pairs_41 : decode cX3_pairs 41 = .ok (.iload_n 3, 1) := by decide +kernel
theorem dX3_pairs_42 : decode cX3_pairs 42 = .ok (.ireturn, 1) := by decide +kernel
theorem dX3_difference_0 : decode cX3_difference 0 = .ok (.iconst 0, 1) := by decide +kernel
theorem dX3_difference_1 : decode cX3_difference 1 = .ok (.istore_n 3, 1) := by decide +kernel
theorem dX3_difference_2 : decode cX3_difference 2 = .ok (.iconst 0, 1) := by decide +kernel
theorem dX3_difference_3 : decode cX3_difference 3 = .ok (.istore 4, 2) := by decide +kernel
theorem dX3_difference_5 : decode cX3_difference 5 = .ok (.iload 4, 2) := by decide +kernel
theorem dX3_difference_7 : decode cX3_difference 7 = .ok (.aload_n 0, 1) := by decide +kernel
theorem dX3_difference_8 : decode cX3_difference 8 = .ok (.invokevirtual 49, 3) := by decide +kernel
theorem dX3_difference_11 : decode cX3_difference 11 = .ok (.if_icmp .ge 51, 3) := by decide +kernel
theorem dX3_difference_14 : decode cX3_difference 14 = .ok (.aload_n 0, 1) := by decide +kernel
theorem dX3_difference_15 : decode cX3_difference 15 = .ok (.iload 4, 2) := by decide +kernel
theorem dX3_difference_17 : decode cX3_difference 17 = .ok (.iload_n 1, 1) := by decide +kernel
theorem dX3_difference_18 : decode cX3_difference 18 = .ok (.iload_n 2, 1) := by decide +kernel
theorem dX3_difference_19 : decode cX3_difference 19 = .ok (.invokevirtual 84, 3) := by decide +kernel
theorem dX3_difference_22 : decode cX3_difference 22 = .ok (.istore 5, 2) := by decide +kernel
theorem dX3_difference_24 : decode cX3_difference 24 = .ok (.iload 5, 2) := by decide +kernel
theorem dX3_difference_26 : decode cX3_difference 26 = .ok (.bipush (-9), 2) := by decide +kernel
theorem dX3_difference_28 : decode cX3_difference 28 = .ok (.if_icmp .eq 28, 3) := by decide +kernel
theorem dX3_difference_31 : decode cX3_difference 31 = .ok (.aload_n 0, 1) := by decide +kernel
theorem dX3_difference_32 : decode cX3_difference 32 = .ok (.iconst 0, 1) := by decide +kernel
theorem dX3_difference_33 : decode cX3_difference 33 = .ok (.iload 4, 2) := by decide +kernel
theorem dX3_difference_35 : decode cX3_difference 35 = .ok (.invokevirtual 80, 3) := by decide +kernel
theorem dX3_difference_38 : decode cX3_difference 38 = .ok (.aload_n 0, 1) := by decide +kernel
theorem dX3_difference_39 : decode cX3_difference 39 = .ok (.iconst 1, 1) := by decide +kernel
theorem dX3_difference_40 : decode cX3_difference 40 = .ok (.iload 5, 2) := by decide +kernel
theorem dX3_difference_42 : decode cX3_difference 42 = .ok (.invokevirtual 80, 3) := by decide +kernel
theorem dX3_difference_45 : decode cX3_difference 45 = .ok (.isub, 1) := by decide +kernel
theorem dX3_difference_46 : decode cX3_difference 46 = .ok (.istore 6, 2) := by decide +kernel
theorem dX3_difference_48 : decode cX3_difference 48 = .ok (.iload_n 3, 1) := by decide +kernel
theorem dX3_difference_49 : decode cX3_difference 49 = .ok (.iload 6, 2) := by decide +kernel
theorem dX3_difference_51 : decode cX3_difference 51 = .ok (.iload 6, 2) := by decide +kernel
theorem dX3_difference_53 : decode cX3_difference 53 = .ok (.imul, 1) := by decide +kernel
theorem dX3_difference_54 : decode cX3_difference 54 = .ok (.iadd, 1) := by decide +kernel
theorem dX3_difference_55 : decode cX3_difference 55 = .ok (.istore_n 3, 1) := by decide +kernel
theorem dX3_difference_56 : decode cX3_difference 56 = .ok (.iinc 4 1, 3) := by decide +kernel
theorem dX3_difference_59 : decode cX3_difference 59 = .ok (.goto (-54), 3) := by decide +kernel
theorem dX3_difference_62 : decode cX3_difference 62 = .ok (.iload_n 3, 1) := by decide +kernel
theorem dX3_difference_63 : decode cX3_difference 63 = .ok (.ireturn, 1) := by decide +kernel
theorem dX3_hangingTogether_0 : decode cX3_hangingTogether 0 = .ok (.iload_n 1, 1) := by decide +kernel
theorem dX3_hangingTogether_1 : decode cX3_hangingTogether 1 = .ok (.istore_n 3, 1) := by decide +kernel
theorem dX3_hangingTogether_2 : decode cX3_hangingTogether 2 = .ok (.iconst 0, 1) := by decide +kernel
theorem dX3_hangingTogether_3 : decode cX3_hangingTogether 3 = .ok (.istore 4, 2) := by decide +kernel
theorem dX3_hangingTogether_5 : decode cX3_hangingTogether 5 = .ok (.iconst 0, 1) := by decide +kernel
theorem dX3_hangingTogether_6 : decode cX3_hangingTogether 6 = .ok (.istore 5, 2) := by decide +kernel
theorem dX3_hangingTogether_8 : decode cX3_hangingTogether 8 = .ok (.iload 5, 2) := by decide +kernel
theorem dX3_hangingTogether_10 : decode cX3_hangingTogether 10 = .ok (.bipush 25, 2) := by decide +kernel
theorem dX3_hangingTogether_12 : decode cX3_hangingTogether 12 = .ok (.if_icmp .ge 26, 3) := by decide +kernel
theorem dX3_hangingTogether_15 : decode cX3_hangingTogether 15 = .ok (.iload_n 3, 1) := by decide +kernel
theorem dX3_hangingTogether_16 : decode cX3_hangingTogether 16 = .ok (.iload 4, 2) := by decide +kernel
theorem dX3_hangingTogether_18 : decode cX3_hangingTogether 18 = .ok (.if_icmp .eq 20, 3) := by decide +kernel
theorem dX3_hangingTogether_21 : decode cX3_hangingTogether 21 = .ok (.iload_n 3, 1) := by decide +kernel
theorem dX3_hangingTogether_22 : decode cX3_hangingTogether 22 = .ok (.istore 4, 2) := by decide +kernel
theorem dX3_hangingTogether_24 : decode cX3_hangingTogether 24 = .ok (.iload_n 2, 1) := by decide +kernel
theorem dX3_hangingTogether_25 : decode cX3_hangingTogether 25 = .ok (.aload_n 0, 1) := by decide +kernel
theorem dX3_hangingTogether_26 : decode cX3_hangingTogether 26 = .ok (.iload_n 3, 1) := by decide +kernel
theorem dX3_hangingTogether_27 : decode cX3_hangingTogether 27 = .ok (.invokevirtual 96, 3) := by decide +kernel
theorem dX3_hangingTogether_30 : decode cX3_hangingTogether 30 = .ok (.iand, 1) := by decide +kernel
theorem dX3_hangingTogether_31 : decode cX3_hangingTogether 31 = .ok (.istore_n 3, 1) := by decide +kernel
theorem dX3_hangingTogether_32 : decode cX3_hangingTogether 32 = .ok (.iinc 5 1, 3) := by decide +kernel
theorem dX3_hangingTogether_35 : decode cX3_hangingTogether 35 = .ok (.goto (-27), 3) := by decide +kernel
theorem dX3_hangingTogether_38 : decode cX3_hangingTogether 38 = .ok (.iload_n 3, 1) := by decide +kernel
theorem dX3_hangingTogether_39 : decode cX3_hangingTogether 39 = .ok (.ireturn, 1) := by decide +kernel
theorem dX3_withNeighbours_0 : decode cX3_withNeighbours 0 = .ok (.iconst 0, 1) := by decide +kernel
theorem dX3_withNeighbours_1 : decode cX3_withNeighbours 1 = .ok (.istore_n 2, 1) := by decide +kernel
theorem dX3_withNeighbours_2 : decode cX3_withNeighbours 2 = .ok (.iconst 0, 1) := by decide +kernel
theorem dX3_withNeighbours_3 : decode cX3_withNeighbours 3 = .ok (.istore_n 3, 1) := by decide +kernel
theorem dX3_withNeighbours_4 : decode cX3_withNeighbours 4 = .ok (.iload_n 3, 1) := by decide +kernel
theorem dX3_withNeighbours_5 : decode cX3_withNeighbours 5 = .ok (.aload_n 0, 1) := by decide +kernel
theorem dX3_withNeighbours_6 : decode cX3_withNeighbours 6 = .ok (.getfield 25, 3) := by decide +kernel
theorem dX3_withNeighbours_9 : decode cX3_withNeighbours 9 = .ok (.if_icmp .ge 20, 3) := by decide +kernel
theorem dX3_withNeighbours_12 : decode cX3_withNeighbours 12 = .ok (.iload_n 2, 1) := by decide +kernel
theorem dX3_withNeighbours_13 : decode cX3_withNeighbours 13 = .ok (.iconst 1, 1) := by decide +kernel
theorem dX3_withNeighbours_14 : decode cX3_withNeighbours 14 = .ok (.iload_n 3, 1) := by decide +kernel
theorem dX3_withNeighbours_15 : decode cX3_withNeighbours 15 = .ok (.aload_n 0, 1) := by decide +kernel
theorem dX3_withNeighbours_16 : decode cX3_withNeighbours 16 = .ok (.getfield 21, 3) := by decide +kernel
theorem dX3_withNeighbours_19 : decode cX3_withNeighbours 19 = .ok (.imul, 1) := by decide +kernel
theorem dX3_withNeighbours_20 : decode cX3_withNeighbours 20 = .ok (.ishl, 1) := by decide +kernel
theorem dX3_withNeighbours_21 : decode cX3_withNeighbours 21 = .ok (.ior, 1) := by decide +kernel
theorem dX3_withNeighbours_22 : decode cX3_withNeighbours 22 = .ok (.istore_n 2, 1) := by decide +kernel
theorem dX3_withNeighbours_23 : decode cX3_withNeighbours 23 = .ok (.iinc 3 1, 3) := by decide +kernel
theorem dX3_withNeighbours_26 : decode cX3_withNeighbours 26 = .ok (.goto (-22), 3) := by decide +kernel
theorem dX3_withNeighbours_29 : decode cX3_withNeighbours 29 = .ok (.iload_n 2, 1) := by decide +kernel
theorem dX3_withNeighbours_30 : decode cX3_withNeighbours 30 = .ok (.aload_n 0, 1) := by decide +kernel
theorem dX3_withNeighbours_31 : decode cX3_withNeighbours 31 = .ok (.getfield 21, 3) := by decide +kernel
theorem dX3_withNeighbours_34 : decode cX3_withNeighbours 34 = .ok (.iconst 1, 1) := by decide +kernel
theorem dX3_withNeighbours_35 : decode cX3_withNeighbours 35 = .ok (.isub, 1) := by decide +kernel
theorem dX3_withNeighbours_36 : decode cX3_withNeighbours 36 = .ok (.ishl, 1) := by decide +kernel
theorem dX3_withNeighbours_37 : decode cX3_withNeighbours 37 = .ok (.istore_n 3, 1) := by decide +kernel
theorem dX3_withNeighbours_38 : decode cX3_withNeighbours 38 = .ok (.iload_n 1, 1) := by decide +kernel
theorem dX3_withNeighbours_39 : decode cX3_withNeighbours 39 = .ok (.iload_n 1, 1) := by decide +kernel
theorem dX3_withNeighbours_40 : decode cX3_withNeighbours 40 = .ok (.iload_n 3, 1) := by decide +kernel
theorem dX3_withNeighbours_41 : decode cX3_withNeighbours 41 = .ok (.iconst (-1), 1) := by decide +kernel
theorem dX3_withNeighbours_42 : decode cX3_withNeighbours 42 = .ok (.ixor, 1) := by decide +kernel
theorem dX3_withNeighbours_43 : decode cX3_withNeighbours 43 = .ok (.iand, 1) := by decide +kernel
theorem dX3_withNeighbours_44 : decode cX3_withNeighbours 44 = .ok (.iconst 1, 1) := by decide +kernel
theorem dX3_withNeighbours_45 : decode cX3_withNeighbours 45 = .ok (.ishl, 1) := by decide +kernel
theorem dX3_withNeighbours_46 : decode cX3_withNeighbours 46 = .ok (.ior, 1) := by decide +kernel
theorem dX3_withNeighbours_47 : decode cX3_withNeighbours 47 = .ok (.iload_n 1, 1) := by decide +kernel
theorem dX3_withNeighbours_48 : decode cX3_withNeighbours 48 = .ok (.iload_n 2, 1) := by decide +kernel
theorem dX3_withNeighbours_49 : decode cX3_withNeighbours 49 = .ok (.iconst (-1), 1) := by decide +kernel
theorem dX3_withNeighbours_50 : decode cX3_withNeighbours 50 = .ok (.ixor, 1) := by decide +kernel
theorem dX3_withNeighbours_51 : decode cX3_withNeighbours 51 = .ok (.iand, 1) := by decide +kernel
theorem dX3_withNeighbours_52 : decode cX3_withNeighbours 52 = .ok (.iconst 1, 1) := by decide +kernel
theorem dX3_withNeighbours_53 : decode cX3_withNeighbours 53 = .ok (.iushr, 1) := by decide +kernel
theorem dX3_withNeighbours_54 : decode cX3_withNeighbours 54 = .ok (.ior, 1) := by decide +kernel
theorem dX3_withNeighbours_55 : decode cX3_withNeighbours 55 = .ok (.istore 4, 2) := by decide +kernel
theorem dX3_withNeighbours_57 : decode cX3_withNeighbours 57 = .ok (.iload 4, 2) := by decide +kernel
theorem dX3_withNeighbours_59 : decode cX3_withNeighbours 59 = .ok (.iload 4, 2) := by decide +kernel
theorem dX3_withNeighbours_61 : decode cX3_withNeighbours 61 = .ok (.aload_n 0, 1) := by decide +kernel
theorem dX3_withNeighbours_62 : decode cX3_withNeighbours 62 = .ok (.getfield 21, 3) := by decide +kernel
theorem dX3_withNeighbours_65 : decode cX3_withNeighbours 65 = .ok (.ishl, 1) := by decide +kernel
theorem dX3_withNeighbours_66 : decode cX3_withNeighbours 66 = .ok (.ior, 1) := by decide +kernel
theorem dX3_withNeighbours_67 : decode cX3_withNeighbours 67 = .ok (.iload 4, 2) := by decide +kernel
theorem dX3_withNeighbours_69 : decode cX3_withNeighbours 69 = .ok (.aload_n 0, 1) := by decide +kernel
theorem dX3_withNeighbours_70 : decode cX3_withNeighbours 70 = .ok (.getfield 21, 3) := by decide +kernel
theorem dX3_withNeighbours_73 : decode cX3_withNeighbours 73 = .ok (.iushr, 1) := by decide +kernel
theorem dX3_withNeighbours_74 : decode cX3_withNeighbours 74 = .ok (.ior, 1) := by decide +kernel
theorem dX3_withNeighbours_75 : decode cX3_withNeighbours 75 = .ok (.ireturn, 1) := by decide +kernel
theorem dX4_init_0 : decode cX4_init 0 = .ok (.aload_n 0, 1) := by decide +kernel
theorem dX4_init_1 : decode cX4_init 1 = .ok (.invokespecial 3, 3) := by decide +kernel
theorem dX4_init_4 : decode cX4_init 4 = .ok (.aload_n 0, 1) := by decide +kernel
theorem dX4_init_5 : decode cX4_init 5 = .ok (.bipush 56, 2) := by decide +kernel
theorem dX4_init_7 : decode cX4_init 7 = .ok (.newarray .int, 2) := by decide +kernel
theorem dX4_init_9 : decode cX4_init 9 = .ok (.putfield 9, 3) := by decide +kernel
theorem dX4_init_12 : decode cX4_init 12 = .ok (.aload_n 0, 1) := by decide +kernel
theorem dX4_init_13 : decode cX4_init 13 = .ok (.iconst 0, 1) := by decide +kernel
theorem dX4_init_14 : decode cX4_init 14 = .ok (.putfield 15, 3) := by decide +kernel
theorem dX4_init_17 : decode cX4_init 17 = .ok (.return_, 1) := by decide +kernel
theorem dX4_size_0 : decode cX4_size 0 = .ok (.aload_n 0, 1) := by decide +kernel
theorem dX4_size_1 : decode cX4_size 1 = .ok (.getfield 15, 3) := by decide +kernel
theorem dX4_size_4 : decode cX4_size 4 = .ok (.ireturn, 1) := by decide +kernel
theorem dX4_isFull_0 : decode cX4_isFull 0 = .ok (.aload_n 0, 1) := by decide +kernel
theorem dX4_isFull_1 : decode cX4_isFull 1 = .ok (.getfield 15, 3) := by decide +kernel
theorem dX4_isFull_4 : decode cX4_isFull 4 = .ok (.aload_n 0, 1) := by decide +kernel
theorem dX4_isFull_5 : decode cX4_isFull 5 = .ok (.getfield 9, 3) := by decide +kernel
theorem dX4_isFull_8 : decode cX4_isFull 8 = .ok (.arraylength, 1) := by decide +kernel
theorem dX4_isFull_9 : decode cX4_isFull 9 = .ok (.if_icmp .lt 7, 3) := by decide +kernel
theorem dX4_isFull_12 : decode cX4_isFull 12 = .ok (.iconst 1, 1) := by decide +kernel
theorem dX4_isFull_13 : decode cX4_isFull 13 = .ok (.goto 4, 3) := by decide +kernel
theorem dX4_isFull_16 : decode cX4_isFull 16 = .ok (.iconst 0, 1) := by decide +kernel
theorem dX4_isFull_17 : decode cX4_isFull 17 = .ok (.ireturn, 1) := by decide +kernel
theorem dX4_append_0 : decode cX4_append 0 = .ok (.aload_n 0, 1) := by decide +kernel
theorem dX4_append_1 : decode cX4_append 1 = .ok (.invokevirtual 19, 3) := by decide +kernel
theorem dX4_append_4 : decode cX4_append 4 = .ok (.ifCond .ne 23, 3) := by decide +kernel
theorem dX4_append_7 : decode cX4_append 7 = .ok (.aload_n 0, 1) := by decide +kernel
theorem dX4_append_8 : decode cX4_append 8 = .ok (.getfield 9, 3) := by decide +kernel
theorem dX4_append_11 : decode cX4_append 11 = .ok (.aload_n 0, 1) := by decide +kernel
theorem dX4_append_12 : decode cX4_append 12 = .ok (.getfield 15, 3) := by decide +kernel
theorem dX4_append_15 : decode cX4_append 15 = .ok (.iload_n 1, 1) := by decide +kernel
theorem dX4_append_16 : decode cX4_append 16 = .ok (.iastore, 1) := by decide +kernel
theorem dX4_append_17 : decode cX4_append 17 = .ok (.aload_n 0, 1) := by decide +kernel
theorem dX4_append_18 : decode cX4_append 18 = .ok (.dup, 1) := by decide +kernel
theorem dX4_append_19 : decode cX4_append 19 = .ok (.getfield 15, 3) := by decide +kernel
theorem dX4_append_22 : decode cX4_append 22 = .ok (.iconst 1, 1) := by decide +kernel
theorem dX4_append_23 : decode cX4_append 23 = .ok (.iadd, 1) := by decide +kernel
theorem dX4_append_24 : decode cX4_append 24 = .ok (.putfield 15, 3) := by decide +kernel
theorem dX4_append_27 : decode cX4_append 27 = .ok (.aload_n 0, 1) := by decide +kernel
theorem dX4_append_28 : decode cX4_append 28 = .ok (.getfield 15, 3) := by decide +kernel
theorem dX4_append_31 : decode cX4_append 31 = .ok (.ireturn, 1) := by decide +kernel
theorem dX4_clear_0 : decode cX4_clear 0 = .ok (.aload_n 0, 1) := by decide +kernel
theorem dX4_clear_1 : decode cX4_clear 1 = .ok (.getfield 15, 3) := by decide +kernel
theorem dX4_clear_4 : decode cX4_clear 4 = .ok (.istore_n 1, 1) := by decide +kernel
theorem dX4_clear_5 : decode cX4_clear 5 = .ok (.aload_n 0, 1) := by decide +kernel
theorem dX4_clear_6 : decode cX4_clear 6 = .ok (.iconst 0, 1) := by decide +kernel
theorem dX4_clear_7 : decode cX4_clear 7 = .ok (.putfield 15, 3) := by decide +kernel
theorem dX4_clear_10 : decode cX4_clear 10 = .ok (.iload_n 1, 1) := by decide +kernel
theorem dX4_clear_11 : decode cX4_clear 11 = .ok (.ireturn, 1) := by decide +kernel
theorem dX4_firstFault_0 : decode cX4_firstFault 0 = .ok (.iconst 0, 1) := by decide +kernel
theorem dX4_firstFault_1 : decode cX4_firstFault 1 = .ok (.istore_n 1, 1) := by decide +kernel
theorem dX4_firstFault_2 : decode cX4_firstFault 2 = .ok (.iload_n 1, 1) := by decide +kernel
theorem dX4_firstFault_3 : decode cX4_firstFault 3 = .ok (.aload_n 0, 1) := by decide +kernel
theorem dX4_firstFault_4 : decode cX4_firstFault 4 = .ok (.getfield 15, 3) := by decide +kernel
theorem dX4_firstFault_7 : decode cX4_firstFault 7 = .ok (.if_icmp .ge 19, 3) := by decide +kernel
theorem dX4_firstFault_10 : decode cX4_firstFault 10 = .ok (.aload_n 0, 1) := by decide +kernel
theorem dX4_firstFault_11 : decode cX4_firstFault 11 = .ok (.iload_n 1, 1) := by decide +kernel
theorem dX4_firstFault_12 : decode cX4_firstFault 12 = .ok (.invokevirtual 23, 3) := by decide +kernel
theorem dX4_firstFault_15 : decode cX4_firstFault 15 = .ok (.ifCond .ne 5, 3) := by decide +kernel
theorem dX4_firstFault_18 : decode cX4_firstFault 18 = .ok (.iload_n 1, 1) := by decide +kernel
theorem dX4_firstFault_19 : decode cX4_firstFault 19 = .ok (.ireturn, 1) := by decide +kernel
theorem dX4_firstFault_20 : decode cX4_firstFault 20 = .ok (.iinc 1 1, 3) := by decide +kernel
theorem dX4_firstFault_23 : decode cX4_firstFault 23 = .ok (.goto (-21), 3) := by decide +kernel
theorem dX4_firstFault_26 : decode cX4_firstFault 26 = .ok (.aload_n 0, 1) := by decide +kernel
theorem dX4_firstFault_27 : decode cX4_firstFault 27 = .ok (.getfield 15, 3) := by decide +kernel
theorem dX4_firstFault_30 : decode cX4_firstFault 30 = .ok (.iconst 2, 1) := by decide +kernel
theorem dX4_firstFault_31 : decode cX4_firstFault 31 = .ok (.if_icmp .le 22, 3) := by decide +kernel
theorem dX4_firstFault_34 : decode cX4_firstFault 34 = .ok (.aload_n 0, 1) := by decide +kernel
theorem dX4_firstFault_35 : decode cX4_firstFault 35 = .ok (.getfield 15, 3) := by decide +kernel
theorem dX4_firstFault_38 : decode cX4_firstFault 38 = .ok (.iconst 4, 1) := by decide +kernel
theorem dX4_firstFault_39 : decode cX4_firstFault 39 = .ok (.iconst 2, 1) := by decide +kernel
theorem dX4_firstFault_40 : decode cX4_firstFault 40 = .ok (.aload_n 0, 1) := by decide +kernel
theorem dX4_firstFault_41 : decode cX4_firstFault 41 = .ok (.invokevirtual 27, 3) := by decide +kernel
theorem dX4_firstFault_44 : decode cX4_firstFault 44 = .ok (.imul, 1) := by decide +kernel
theorem dX4_firstFault_45 : decode cX4_firstFault 45 = .ok (.iadd, 1) := by decide +kernel
theorem dX4_firstFault_46 : decode cX4_firstFault 46 = .ok (.if_icmp .ne 7, 3) := by decide +kernel
theorem dX4_firstFault_49 : decode cX4_firstFault 49 = .ok (.iconst 1, 1) := by decide +kernel
theorem dX4_firstFault_50 : decode cX4_firstFault 50 = .ok (.goto 4, 3) := by decide +kernel
theorem dX4_firstFault_53 : decode cX4_firstFault 53 = .ok (.iconst 0, 1) := by decide +kernel
theorem dX4_firstFault_54 : decode cX4_firstFault 54 = .ok (.istore_n 1, 1) := by decide +kernel
theorem dX4_firstFault_55 : decode cX4_firstFault 55 = .ok (.iload_n 1, 1) := by decide +kernel
theorem dX4_firstFault_56 : decode cX4_firstFault 56 = .ok (.ifCond .eq 8, 3) := by decide +kernel
theorem dX4_firstFault_59 : decode cX4_firstFault 59 = .ok (.bipush (-9), 2) := by decide +kernel
theorem dX4_firstFault_61 : decode cX4_firstFault 61 = .ok (.goto 7, 3) := by decide +kernel
theorem dX4_firstFault_64 : decode cX4_firstFault 64 = .ok (.aload_n 0, 1) := by decide +kernel
theorem dX4_firstFault_65 : decode cX4_firstFault 65 = .ok (.getfield 15, 3) := by decide +kernel
theorem dX4_firstFault_68 : decode cX4_firstFault 68 = .ok (.ireturn, 1) := by decide +kernel
theorem dX4_fits_0 : decode cX4_fits 0 = .ok (.aload_n 0, 1) := by decide +kernel
theorem dX4_fits_1 : decode cX4_fits 1 = .ok (.iload_n 1, 1) := by decide +kernel
theorem dX4_fits_2 : decode cX4_fits 2 = .ok (.invokevirtual 31, 3) := by decide +kernel
theorem dX4_fits_5 : decode cX4_fits 5 = .ok (.istore_n 2, 1) := by decide +kernel
theorem dX4_fits_6 : decode cX4_fits 6 = .ok (.iload_n 1, 1) := by decide +kernel
theorem dX4_fits_7 : decode cX4_fits 7 = .ok (.ifCond .ne 15, 3) := by decide +kernel
theorem dX4_fits_10 : decode cX4_fits 10 = .ok (.iload_n 2, 1) := by decide +kernel
theorem dX4_fits_11 : decode cX4_fits 11 = .ok (.bipush 76, 2) := by decide +kernel
theorem dX4_fits_13 : decode cX4_fits 13 = .ok (.if_icmp .ne 7, 3) := by decide +kernel
theorem dX4_fits_16 : decode cX4_fits 16 = .ok (.iconst 1, 1) := by decide +kernel
theorem dX4_fits_17 : decode cX4_fits 17 = .ok (.goto 4, 3) := by decide +kernel
theorem dX4_fits_20 : decode cX4_fits 20 = .ok (.iconst 0, 1) := by decide +kernel
theorem dX4_fits_21 : decode cX4_fits 21 = .ok (.ireturn, 1) := by decide +kernel
theorem dX4_fits_22 : decode cX4_fits 22 = .ok (.iload_n 1, 1) := by decide +kernel
theorem dX4_fits_23 : decode cX4_fits 23 = .ok (.iconst 2, 1) := by decide +kernel
theorem dX4_fits_24 : decode cX4_fits 24 = .ok (.if_icmp .gt 21, 3) := by decide +kernel
theorem dX4_fits_27 : decode cX4_fits 27 = .ok (.iload_n 2, 1) := by decide +kernel
theorem dX4_fits_28 : decode cX4_fits 28 = .ok (.bipush 49, 2) := by decide +kernel
theorem dX4_fits_30 : decode cX4_fits 30 = .ok (.if_icmp .lt 13, 3) := by decide +kernel
theorem dX4_fits_33 : decode cX4_fits 33 = .ok (.iload_n 2, 1) := by decide +kernel
theorem dX4_fits_34 : decode cX4_fits 34 = .ok (.bipush 53, 2) := by decide +kernel
theorem dX4_fits_36 : decode cX4_fits 36 = .ok (.if_icmp .gt 7, 3) := by decide +kernel
theorem dX4_fits_39 : decode cX4_fits 39 = .ok (.iconst 1, 1) := by decide +kernel
theorem dX4_fits_40 : decode cX4_fits 40 = .ok (.goto 4, 3) := by decide +kernel
theorem dX4_fits_43 : decode cX4_fits 43 = .ok (.iconst 0, 1) := by decide +kernel
theorem dX4_fits_44 : decode cX4_fits 44 = .ok (.ireturn, 1) := by decide +kernel
theorem dX4_fits_45 : decode cX4_fits 45 = .ok (.aload_n 0, 1) := by decide +kernel
theorem dX4_fits_46 : decode cX4_fits 46 = .ok (.invokevirtual 27, 3) := by decide +kernel
theorem dX4_fits_49 : decode cX4_fits 49 = .ok (.istore_n 3, 1) := by decide +kernel
theorem dX4_fits_50 : decode cX4_fits 50 = .ok (.iload_n 1, 1) := by decide +kernel
theorem dX4_fits_51 : decode cX4_fits 51 = .ok (.iconst 3, 1) := by decide +kernel
theorem dX4_fits_52 : decode cX4_fits 52 = .ok (.iload_n 3, 1) := by decide +kernel
theorem dX4_fits_53 : decode cX4_fits 53 = .ok (.iadd, 1) := by decide +kernel
theorem dX4_fits_54 : decode cX4_fits 54 = .ok (.if_icmp .ne 15, 3) := by decide +kernel
theorem dX4_fits_57 : decode cX4_fits 57 = .ok (.iload_n 2, 1) := by decide +kernel
theorem dX4_fits_58 : decode cX4_fits 58 = .ok (.bipush 66, 2) := by decide +kernel
theorem dX4_fits_60 : decode cX4_fits 60 = .ok (.if_icmp .ne 7, 3) := by decide +kernel
theorem dX4_fits_63 : decode cX4_fits 63 = .ok (.iconst 1, 1) := by decide +kernel
theorem dX4_fits_64 : decode cX4_fits 64 = .ok (.goto 4, 3) := by decide +kernel
theorem dX4_fits_67 : decode cX4_fits 67 = .ok (.iconst 0, 1) := by decide +kernel
theorem dX4_fits_68 : decode cX4_fits 68 = .ok (.ireturn, 1) := by decide +kernel
theorem dX4_fits_69 : decode cX4_fits 69 = .ok (.iload_n 1, 1) := by decide +kernel
theorem dX4_fits_70 : decode cX4_fits 70 = .ok (.iconst 4, 1) := by decide +kernel
theorem dX4_fits_71 : decode cX4_fits 71 = .ok (.iconst 2, 1) := by decide +kernel
theorem dX4_fits_72 : decode cX4_fits 72 = .ok (.iload_n 3, 1) := by decide +kernel
theorem dX4_fits_73 : decode cX4_fits 73 = .ok (.imul, 1) := by decide +kernel
theorem dX4_fits_74 : decode cX4_fits 74 = .ok (.iadd, 1) := by decide +kernel
theorem dX4_fits_75 : decode cX4_fits 75 = .ok (.if_icmp .ge 19, 3) := by decide +kernel
theorem dX4_fits_78 : decode cX4_fits 78 = .ok (.iload_n 2, 1) := by decide +kernel
theorem dX4_fits_79 : decode cX4_fits 79 = .ok (.bipush 48, 2) := by decide +kernel
theorem dX4_fits_81 : decode cX4_fits 81 = .ok (.if_icmp .lt 13, 3) := by decide +kernel
theorem dX4_fits_84 : decode cX4_fits 84 = .ok (.iload_n 2, 1) := by decide +kernel
theorem dX4_fits_85 : decode cX4_fits 85 = .ok (.bipush 57, 2) := by decide +kernel
theorem dX4_fits_87 : decode cX4_fits 87 = .ok (.if_icmp .gt 7, 3) := by decide +kernel
theorem dX4_fits_90 : decode cX4_fits 90 = .ok (.iconst 1, 1) := by decide +kernel
theorem dX4_fits_91 : decode cX4_fits 91 = .ok (.goto 4, 3) := by decide +kernel
theorem dX4_fits_94 : decode cX4_fits 94 = .ok (.iconst 0, 1) := by decide +kernel
theorem dX4_fits_95 : decode cX4_fits 95 = .ok (.ireturn, 1) := by decide +kernel
theorem dX4_letterAt_0 : decode cX4_letterAt 0 = .ok (.iload_n 1, 1) := by decide +kernel
theorem dX4_letterAt_1 : decode cX4_letterAt 1 = .ok (.ifCond .lt 20, 3) := by decide +kernel
theorem dX4_letterAt_4 : decode cX4_letterAt 4 = .ok (.iload_n 1, 1) := by decide +kernel
theorem dX4_letterAt_5 : decode cX4_letterAt 5 = .ok (.aload_n 0, 1) := by decide +kernel
theorem dX4_letterAt_6 : decode cX4_letterAt 6 = .ok (.getfield 15, 3) := by decide +kernel
theorem dX4_letterAt_9 : decode cX4_letterAt 9 = .ok (.if_icmp .ge 12, 3) := by decide +kernel
theorem dX4_letterAt_12 : decode cX4_letterAt 12 = .ok (.aload_n 0, 1) := by decide +kernel
theorem dX4_letterAt_13 : decode cX4_letterAt 13 = .ok (.getfield 9, 3) := by decide +kernel
theorem dX4_letterAt_16 : decode cX4_letterAt 16 = .ok (.iload_n 1, 1) := by decide +kernel
theorem dX4_letterAt_17 : decode cX4_letterAt 17 = .ok (.iaload, 1) := by decide +kernel
theorem dX4_letterAt_18 : decode cX4_letterAt 18 = .ok (.goto 4, 3) := by decide +kernel
theorem dX4_letterAt_21 : decode cX4_letterAt 21 = .ok (.iconst 0, 1) := by decide +kernel
theorem dX4_letterAt_22 : decode cX4_letterAt 22 = .ok (.ireturn, 1) := by decide +kernel
theorem dX4_figureAt_0 : decode cX4_figureAt 0 = .ok (.iconst 0, 1) := by decide +kernel
theorem dX4_figureAt_1 : decode cX4_figureAt 1 = .ok (.aload_n 0, 1) := by decide +kernel
theorem dX4_figureAt_2 : decode cX4_figureAt 2 = .ok (.iload_n 1, 1) := by decide +kernel
theorem dX4_figureAt_3 : decode cX4_figureAt 3 = .ok (.invokevirtual 31, 3) := by decide +kernel
theorem dX4_figureAt_6 : decode cX4_figureAt 6 = .ok (.bipush 48, 2) := by decide +kernel
theorem dX4_figureAt_8 : decode cX4_figureAt 8 = .ok (.isub, 1) := by decide +kernel
theorem dX4_figureAt_9 : decode cX4_figureAt 9 = .ok (.bipush 9, 2) := by decide +kernel
theorem dX4_figureAt_11 : decode cX4_figureAt 11 = .ok (.invokestatic 35, 3) := by decide +kernel
theorem dX4_figureAt_14 : decode cX4_figureAt 14 = .ok (.invokestatic 41, 3) := by decide +kernel
theorem dX4_figureAt_17 : decode cX4_figureAt 17 = .ok (.ireturn, 1) := by decide +kernel
theorem dX4_dotsTold_0 : decode cX4_dotsTold 0 = .ok (.aload_n 0, 1) := by decide +kernel
theorem dX4_dotsTold_1 : decode cX4_dotsTold 1 = .ok (.iconst 1, 1) := by decide +kernel
theorem dX4_dotsTold_2 : decode cX4_dotsTold 2 = .ok (.invokevirtual 44, 3) := by decide +kernel
theorem dX4_dotsTold_5 : decode cX4_dotsTold 5 = .ok (.aload_n 0, 1) := by decide +kernel
theorem dX4_dotsTold_6 : decode cX4_dotsTold 6 = .ok (.iconst 2, 1) := by decide +kernel
theorem dX4_dotsTold_7 : decode cX4_dotsTold 7 = .ok (.invokevirtual 44, 3) := by decide +kernel
theorem dX4_dotsTold_10 : decode cX4_dotsTold 10 = .ok (.imul, 1) := by decide +kernel
theorem dX4_dotsTold_11 : decode cX4_dotsTold 11 = .ok (.ireturn, 1) := by decide +kernel
theorem dJ6_bitCount_0f7a4_0 : decode cJ6_bitCount_0f7a4 0 = .ok (.iload_n 0, 1) := by decide +kernel
theorem dJ6_bitCount_0f7a4_1 : decode cJ6_bitCount_0f7a4 1 = .ok (.iload_n 0, 1) := by decide +kernel
theorem dJ6_bitCount_0f7a4_2 : decode cJ6_bitCount_0f7a4 2 = .ok (.iconst 1, 1) := by decide +kernel
theorem dJ6_bitCount_0f7a4_3 : decode cJ6_bitCount_0f7a4 3 = .ok (.iushr, 1) := by decide +kernel
theorem dJ6_bitCount_0f7a4_4 : decode cJ6_bitCount_0f7a4 4 = .ok (.ldc_w 265, 3) := by decide +kernel
theorem dJ6_bitCount_0f7a4_7 : decode cJ6_bitCount_0f7a4 7 = .ok (.iand, 1) := by decide +kernel
theorem dJ6_bitCount_0f7a4_8 : decode cJ6_bitCount_0f7a4 8 = .ok (.isub, 1) := by decide +kernel
theorem dJ6_bitCount_0f7a4_9 : decode cJ6_bitCount_0f7a4 9 = .ok (.istore_n 0, 1) := by decide +kernel
theorem dJ6_bitCount_0f7a4_10 : decode cJ6_bitCount_0f7a4 10 = .ok (.iload_n 0, 1) := by decide +kernel
theorem dJ6_bitCount_0f7a4_11 : decode cJ6_bitCount_0f7a4 11 = .ok (.ldc_w 266, 3) := by decide +kernel
theorem dJ6_bitCount_0f7a4_14 : decode cJ6_bitCount_0f7a4 14 = .ok (.iand, 1) := by decide +kernel
theorem dJ6_bitCount_0f7a4_15 : decode cJ6_bitCount_0f7a4 15 = .ok (.iload_n 0, 1) := by decide +kernel
theorem dJ6_bitCount_0f7a4_16 : decode cJ6_bitCount_0f7a4 16 = .ok (.iconst 2, 1) := by decide +kernel
theorem dJ6_bitCount_0f7a4_17 : decode cJ6_bitCount_0f7a4 17 = .ok (.iushr, 1) := by decide +kernel
theorem dJ6_bitCount_0f7a4_18 : decode cJ6_bitCount_0f7a4 18 = .ok (.ldc_w 266, 3) := by decide +kernel
theorem dJ6_bitCount_0f7a4_21 : decode cJ6_bitCount_0f7a4 21 = .ok (.iand, 1) := by decide +kernel
theorem dJ6_bitCount_0f7a4_22 : decode cJ6_bitCount_0f7a4 22 = .ok (.iadd, 1) := by decide +kernel
theorem dJ6_bitCount_0f7a4_23 : decode cJ6_bitCount_0f7a4 23 = .ok (.istore_n 0, 1) := by decide +kernel
theorem dJ6_bitCount_0f7a4_24 : decode cJ6_bitCount_0f7a4 24 = .ok (.iload_n 0, 1) := by decide +kernel
theorem dJ6_bitCount_0f7a4_25 : decode cJ6_bitCount_0f7a4 25 = .ok (.iload_n 0, 1) := by decide +kernel
theorem dJ6_bitCount_0f7a4_26 : decode cJ6_bitCount_0f7a4 26 = .ok (.iconst 4, 1) := by decide +kernel
theorem dJ6_bitCount_0f7a4_27 : decode cJ6_bitCount_0f7a4 27 = .ok (.iushr, 1) := by decide +kernel
theorem dJ6_bitCount_0f7a4_28 : decode cJ6_bitCount_0f7a4 28 = .ok (.iadd, 1) := by decide +kernel
theorem dJ6_bitCount_0f7a4_29 : decode cJ6_bitCount_0f7a4 29 = .ok (.ldc_w 267, 3) := by decide +kernel
theorem dJ6_bitCount_0f7a4_32 : decode cJ6_bitCount_0f7a4 32 = .ok (.iand, 1) := by decide +kernel
theorem dJ6_bitCount_0f7a4_33 : decode cJ6_bitCount_0f7a4 33 = .ok (.istore_n 0, 1) := by decide +kernel
theorem dJ6_bitCount_0f7a4_34 : decode cJ6_bitCount_0f7a4 34 = .ok (.iload_n 0, 1) := by decide +kernel
theorem dJ6_bitCount_0f7a4_35 : decode cJ6_bitCount_0f7a4 35 = .ok (.iload_n 0, 1) := by decide +kernel
theorem dJ6_bitCount_0f7a4_36 : decode cJ6_bitCount_0f7a4 36 = .ok (.bipush 8, 2) := by decide +kernel
theorem dJ6_bitCount_0f7a4_38 : decode cJ6_bitCount_0f7a4 38 = .ok (.iushr, 1) := by decide +kernel
theorem dJ6_bitCount_0f7a4_39 : decode cJ6_bitCount_0f7a4 39 = .ok (.iadd, 1) := by decide +kernel
theorem dJ6_bitCount_0f7a4_40 : decode cJ6_bitCount_0f7a4 40 = .ok (.istore_n 0, 1) := by decide +kernel
theorem dJ6_bitCount_0f7a4_41 : decode cJ6_bitCount_0f7a4 41 = .ok (.iload_n 0, 1) := by decide +kernel
theorem dJ6_bitCount_0f7a4_42 : decode cJ6_bitCount_0f7a4 42 = .ok (.iload_n 0, 1) := by decide +kernel
theorem dJ6_bitCount_0f7a4_43 : decode cJ6_bitCount_0f7a4 43 = .ok (.bipush 16, 2) := by decide +kernel
theorem dJ6_bitCount_0f7a4_45 : decode cJ6_bitCount_0f7a4 45 = .ok (.iushr, 1) := by decide +kernel
theorem dJ6_bitCount_0f7a4_46 : decode cJ6_bitCount_0f7a4 46 = .ok (.iadd, 1) := by decide +kernel
theorem dJ6_bitCount_0f7a4_47 : decode cJ6_bitCount_0f7a4 47 = .ok (.istore_n 0, 1) := by decide +kernel
theorem dJ6_bitCount_0f7a4_48 : decode cJ6_bitCount_0f7a4 48 = .ok (.iload_n 0, 1) := by decide +kernel
theorem dJ6_bitCount_0f7a4_49 : decode cJ6_bitCount_0f7a4 49 = .ok (.bipush 63, 2) := by decide +kernel
theorem dJ6_bitCount_0f7a4_51 : decode cJ6_bitCount_0f7a4 51 = .ok (.iand, 1) := by decide +kernel
theorem dJ6_bitCount_0f7a4_52 : decode cJ6_bitCount_0f7a4 52 = .ok (.ireturn, 1) := by decide +kernel
theorem dJ9_abs_0f7a4_0 : decode cJ9_abs_0f7a4 0 = .ok (.iload_n 0, 1) := by decide +kernel
theorem dJ9_abs_0f7a4_1 : decode cJ9_abs_0f7a4 1 = .ok (.ifCond .ge 8, 3) := by decide +kernel
theorem dJ9_abs_0f7a4_4 : decode cJ9_abs_0f7a4 4 = .ok (.iload_n 0, 1) := by decide +kernel
theorem dJ9_abs_0f7a4_5 : decode cJ9_abs_0f7a4 5 = .ok (.ineg, 1) := by decide +kernel
theorem dJ9_abs_0f7a4_6 : decode cJ9_abs_0f7a4 6 = .ok (.goto 4, 3) := by decide +kernel
theorem dJ9_abs_0f7a4_9 : decode cJ9_abs_0f7a4 9 = .ok (.iload_n 0, 1) := by decide +kernel
theorem dJ9_abs_0f7a4_10 : decode cJ9_abs_0f7a4 10 = .ok (.ireturn, 1) := by decide +kernel
theorem dJ9_max_7cf53_0 : decode cJ9_max_7cf53 0 = .ok (.iload_n 0, 1) := by decide +kernel
theorem dJ9_max_7cf53_1 : decode cJ9_max_7cf53 1 = .ok (.iload_n 1, 1) := by decide +kernel
theorem dJ9_max_7cf53_2 : decode cJ9_max_7cf53 2 = .ok (.if_icmp .lt 7, 3) := by decide +kernel
theorem dJ9_max_7cf53_5 : decode cJ9_max_7cf53 5 = .ok (.iload_n 0, 1) := by decide +kernel
theorem dJ9_max_7cf53_6 : decode cJ9_max_7cf53 6 = .ok (.goto 4, 3) := by decide +kernel
theorem dJ9_max_7cf53_9 : decode cJ9_max_7cf53 9 = .ok (.iload_n 1, 1) := by decide +kernel
theorem dJ9_max_7cf53_10 : decode cJ9_max_7cf53 10 = .ok (.ireturn, 1) := by decide +kernel
theorem dJ9_min_7cf53_0 : decode cJ9_min_7cf53 0 = .ok (.iload_n 0, 1) := by decide +kernel
theorem dJ9_min_7cf53_1 : decode cJ9_min_7cf53 1 = .ok (.iload_n 1, 1) := by decide +kernel
theorem dJ9_min_7cf53_2 : decode cJ9_min_7cf53 2 = .ok (.if_icmp .gt 7, 3) := by decide +kernel
theorem dJ9_min_7cf53_5 : decode cJ9_min_7cf53 5 = .ok (.iload_n 0, 1) := by decide +kernel
theorem dJ9_min_7cf53_6 : decode cJ9_min_7cf53 6 = .ok (.goto 4, 3) := by decide +kernel
theorem dJ9_min_7cf53_9 : decode cJ9_min_7cf53 9 = .ok (.iload_n 1, 1) := by decide +kernel
theorem dJ9_min_7cf53_10 : decode cJ9_min_7cf53 10 = .ok (.ireturn, 1) := by decide +kernel
end
section
theorem dX5_init_0 : decode cX5_init 0 = .ok (.aload_n 0, 1) := by decide +kernel
theorem dX5_init_1 : decode cX5_init 1 = .ok (.invokespecial 1, 3) := by decide +kernel
theorem dX5_init_4 : decode cX5_init 4 = .ok (.aload_n 0, 1) := by decide +kernel
theorem dX5_init_5 : decode cX5_init 5 = .ok (.new 7, 3) := by decide +kernel
theorem dX5_init_8 : decode cX5_init 8 = .ok (.dup, 1) := by decide +kernel
theorem dX5_init_9 : decode cX5_init 9 = .ok (.invokespecial 9, 3) := by decide +kernel
theorem dX5_init_12 : decode cX5_init 12 = .ok (.putfield 10, 3) := by decide +kernel
theorem dX5_init_15 : decode cX5_init 15 = .ok (.aload_n 0, 1) := by decide +kernel
theorem dX5_init_16 : decode cX5_init 16 = .ok (.new 16, 3) := by decide +kernel
theorem dX5_init_19 : decode cX5_init 19 = .ok (.dup, 1) := by decide +kernel
theorem dX5_init_20 : decode cX5_init 20 = .ok (.invokespecial 18, 3) := by decide +kernel
theorem dX5_init_23 : decode cX5_init 23 = .ok (.putfield 19, 3) := by decide +kernel
theorem dX5_init_26 : decode cX5_init 26 = .ok (.aload_n 0, 1) := by decide +kernel
theorem dX5_init_27 : decode cX5_init 27 = .ok (.new 16, 3) := by decide +kernel
theorem dX5_init_30 : decode cX5_init 30 = .ok (.dup, 1) := by decide +kernel
theorem dX5_init_31 : decode cX5_init 31 = .ok (.invokespecial 18, 3) := by decide +kernel
theorem dX5_init_34 : decode cX5_init 34 = .ok (.putfield 23, 3) := by decide +kernel
theorem dX5_init_37 : decode cX5_init 37 = .ok (.aload_n 0, 1) := by decide +kernel
theorem dX5_init_38 : decode cX5_init 38 = .ok (.new 16, 3) := by decide +kernel
theorem dX5_init_41 : decode cX5_init 41 = .ok (.dup, 1) := by decide +kernel
theorem dX5_init_42 : decode cX5_init 42 = .ok (.invokespecial 18, 3) := by decide +kernel
theorem dX5_init_45 : decode cX5_init 45 = .ok (.putfield 26, 3) := by decide +kernel
theorem dX5_init_48 : decode cX5_init 48 = .ok (.aload_n 0, 1) := by decide +kernel
theorem dX5_init_49 : decode cX5_init 49 = .ok (.new 16, 3) := by decide +kernel
theorem dX5_init_52 : decode cX5_init 52 = .ok (.dup, 1) := by decide +kernel
theorem dX5_init_53 : decode cX5_init 53 = .ok (.invokespecial 18, 3) := by decide +kernel
theorem dX5_init_56 : decode cX5_init 56 = .ok (.putfield 29, 3) := by decide +kernel
theorem dX5_init_59 : decode cX5_init 59 = .ok (.aload_n 0, 1) := by decide +kernel
theorem dX5_init_60 : decode cX5_init 60 = .ok (.new 32, 3) := by decide +kernel
theorem dX5_init_63 : decode cX5_init 63 = .ok (.dup, 1) := by decide +kernel
theorem dX5_init_64 : decode cX5_init 64 = .ok (.invokespecial 34, 3) := by decide +kernel
theorem dX5_init_67 : decode cX5_init 67 = .ok (.putfield 35, 3) := by decide +kernel
theorem dX5_init_70 : decode cX5_init 70 = .ok (.aload_n 0, 1) := by decide +kernel
theorem dX5_init_71 : decode cX5_init 71 = .ok (.new 39, 3) := by decide +kernel
theorem dX5_init_74 : decode cX5_init 74 = .ok (.dup, 1) := by decide +kernel
theorem dX5_init_75 : decode cX5_init 75 = .ok (.invokespecial 41, 3) := by decide +kernel
theorem dX5_init_78 : decode cX5_init 78 = .ok (.putfield 42, 3) := by decide +kernel
theorem dX5_init_81 : decode cX5_init 81 = .ok (.aload_n 0, 1) := by decide +kernel
theorem dX5_init_82 : decode cX5_init 82 = .ok (.new 46, 3) := by decide +kernel
theorem dX5_init_85 : decode cX5_init 85 = .ok (.dup, 1) := by decide +kernel
theorem dX5_init_86 : decode cX5_init 86 = .ok (.invokespecial 48, 3) := by decide +kernel
theorem dX5_init_89 : decode cX5_init 89 = .ok (.putfield 49, 3) := by decide +kernel
theorem dX5_init_92 : decode cX5_init 92 = .ok (.aload_n 0, 1) := by decide +kernel
theorem dX5_init_93 : decode cX5_init 93 = .ok (.bipush 32, 2) := by decide +kernel
theorem dX5_init_95 : decode cX5_init 95 = .ok (.newarray .int, 2) := by decide +kernel
theorem dX5_init_97 : decode cX5_init 97 = .ok (.putfield 53, 3) := by decide +kernel
theorem dX5_init_100 : decode cX5_init 100 = .ok (.aload_n 0, 1) := by decide +kernel
theorem dX5_init_101 : decode cX5_init 101 = .ok (.iconst 0, 1) := by decide +kernel
theorem dX5_init_102 : decode cX5_init 102 = .ok (.putfield 57, 3) := by decide +kernel
theorem dX5_init_105 : decode cX5_init 105 = .ok (.aload_n 0, 1) := by decide +kernel
theorem dX5_init_106 : decode cX5_init 106 = .ok (.lconst 0, 1) := by decide +kernel
theorem dX5_init_107 : decode cX5_init 107 = .ok (.putfield 61, 3) := by decide +kernel
theorem dX5_init_110 : decode cX5_init 110 = .ok (.return_, 1) := by decide +kernel
theorem dX5_write_0 : decode cX5_write 0 = .ok (.iload_n 1, 1) := by decide +kernel
theorem dX5_write_1 : decode cX5_write 1 = .ok (.ifCond .lt 10, 3) := by decide +kernel
theorem dX5_write_4 : decode cX5_write 4 = .ok (.iload_n 1, 1) := by decide +kernel
theorem dX5_write_5 : decode cX5_write 5 = .ok (.sipush 255, 3) := by decide +kernel
theorem dX5_write_8 : decode cX5_write 8 = .ok (.if_icmp .le 6, 3) := by decide +kernel
theorem dX5_write_11 : decode cX5_write 11 = .ok (.bipush (-2), 2) := by decide +kernel
theorem dX5_write_13 : decode cX5_write 13 = .ok (.ireturn, 1) := by decide +kernel
theorem dX5_write_14 : decode cX5_write 14 = .ok (.aload_n 0, 1) := by decide +kernel
theorem dX5_write_15 : decode cX5_write 15 = .ok (.getfield 10, 3) := by decide +kernel
theorem dX5_write_18 : decode cX5_write 18 = .ok (.invokevirtual 65, 3) := by decide +kernel
theorem dX5_write_21 : decode cX5_write 21 = .ok (.ifCond .eq 6, 3) := by decide +kernel
theorem dX5_write_24 : decode cX5_write 24 = .ok (.bipush (-4), 2) := by decide +kernel
theorem dX5_write_26 : decode cX5_write 26 = .ok (.ireturn, 1) := by decide +kernel
theorem dX5_write_27 : decode cX5_write 27 = .ok (.aload_n 0, 1) := by decide +kernel
theorem dX5_write_28 : decode cX5_write 28 = .ok (.getfield 10, 3) := by decide +kernel
theorem dX5_write_31 : decode cX5_write 31 = .ok (.iload_n 1, 1) := by decide +kernel
theorem dX5_write_32 : decode cX5_write 32 = .ok (.invokevirtual 69, 3) := by decide +kernel
theorem dX5_write_35 : decode cX5_write 35 = .ok (.ireturn, 1) := by decide +kernel
theorem dX5_wipe_0 : decode cX5_wipe 0 = .ok (.aload_n 0, 1) := by decide +kernel
theorem dX5_wipe_1 : decode cX5_wipe 1 = .ok (.getfield 10, 3) := by decide +kernel
theorem dX5_wipe_4 : decode cX5_wipe 4 = .ok (.invokevirtual 73, 3) := by decide +kernel
theorem dX5_wipe_7 : decode cX5_wipe 7 = .ok (.ireturn, 1) := by decide +kernel
theorem dX5_fault_0 : decode cX5_fault 0 = .ok (.aload_n 0, 1) := by decide +kernel
theorem dX5_fault_1 : decode cX5_fault 1 = .ok (.getfield 10, 3) := by decide +kernel
theorem dX5_fault_4 : decode cX5_fault 4 = .ok (.invokevirtual 77, 3) := by decide +kernel
theorem dX5_fault_7 : decode cX5_fault 7 = .ok (.ireturn, 1) := by decide +kernel
theorem dX5_leaf_0 : decode cX5_leaf 0 = .ok (.aload_n 0, 1) := by decide +kernel
theorem dX5_leaf_1 : decode cX5_leaf 1 = .ok (.getfield 10, 3) := by decide +kernel
theorem dX5_leaf_4 : decode cX5_leaf 4 = .ok (.invokevirtual 77, 3) := by decide +kernel
theorem dX5_leaf_7 : decode cX5_leaf 7 = .ok (.bipush (-9), 2) := by decide +kernel
theorem dX5_leaf_9 : decode cX5_leaf 9 = .ok (.if_icmp .eq 6, 3) := by decide +kernel
theorem dX5_leaf_12 : decode cX5_leaf 12 = .ok (.bipush (-3), 2) := by decide +kernel
theorem dX5_leaf_14 : decode cX5_leaf 14 = .ok (.ireturn, 1) := by decide +kernel
theorem dX5_leaf_15 : decode cX5_leaf 15 = .ok (.aload_n 0, 1) := by decide +kernel
theorem dX5_leaf_16 : decode cX5_leaf 16 = .ok (.getfield 19, 3) := by decide +kernel
theorem dX5_leaf_19 : decode cX5_leaf 19 = .ok (.aload_n 0, 1) := by decide +kernel
theorem dX5_leaf_20 : decode cX5_leaf 20 = .ok (.getfield 10, 3) := by decide +kernel
theorem dX5_leaf_23 : decode cX5_leaf 23 = .ok (.invokevirtual 80, 3) := by decide +kernel
theorem dX5_leaf_26 : decode cX5_leaf 26 = .ok (.aload_n 0, 1) := by decide +kernel
theorem dX5_leaf_27 : decode cX5_leaf 27 = .ok (.getfield 42, 3) := by decide +kernel
theorem dX5_leaf_30 : decode cX5_leaf 30 = .ok (.invokevirtual 84, 3) := by decide +kernel
theorem dX5_leaf_33 : decode cX5_leaf 33 = .ok (.aload_n 0, 1) := by decide +kernel
theorem dX5_leaf_34 : decode cX5_leaf 34 = .ok (.iconst 0, 1) := by decide +kernel
theorem dX5_leaf_35 : decode cX5_leaf 35 = .ok (.putfield 57, 3) := by decide +kernel
theorem dX5_leaf_38 : decode cX5_leaf 38 = .ok (.aload_n 0, 1) := by decide +kernel
theorem dX5_leaf_39 : decode cX5_leaf 39 = .ok (.getfield 19, 3) := by decide +kernel
theorem dX5_leaf_42 : decode cX5_leaf 42 = .ok (.invokevirtual 87, 3) := by decide +kernel
theorem dX5_leaf_45 : decode cX5_leaf 45 = .ok (.ireturn, 1) := by decide +kernel
theorem dX5_about_0 : decode cX5_about 0 = .ok (.iload_n 1, 1) := by decide +kernel
theorem dX5_about_1 : decode cX5_about 1 = .ok (.tableswitch 204 0 12 #[67, 75, 83, 104, 117, 130, 138, 146, 154, 162, 180, 188, 196], 67) := by decide +kernel
theorem dX5_about_68 : decode cX5_about 68 = .ok (.aload_n 0, 1) := by decide +kernel
theorem dX5_about_69 : decode cX5_about 69 = .ok (.getfield 19, 3) := by decide +kernel
theorem dX5_about_72 : decode cX5_about 72 = .ok (.getfield 90, 3) := by decide +kernel
theorem dX5_about_75 : decode cX5_about 75 = .ok (.ireturn, 1) := by decide +kernel
theorem dX5_about_76 : decode cX5_about 76 = .ok (.aload_n 0, 1) := by decide +kernel
theorem dX5_about_77 : decode cX5_about 77 = .ok (.getfield 19, 3) := by decide +kernel
theorem dX5_about_80 : decode cX5_about 80 = .ok (.getfield 93, 3) := by decide +kernel
theorem dX5_about_83 : decode cX5_about 83 = .ok (.ireturn, 1) := by decide +kernel
theorem dX5_about_84 : decode cX5_about 84 = .ok (.aload_n 0, 1) := by decide +kernel
theorem dX5_about_85 : decode cX5_about 85 = .ok (.getfield 19, 3) := by decide +kernel
theorem dX5_about_88 : decode cX5_about 88 = .ok (.invokevirtual 87, 3) := by decide +kernel
theorem dX5_about_91 : decode cX5_about 91 = .ok (.aload_n 0, 1) := by decide +kernel
theorem dX5_about_92 : decode cX5_about 92 = .ok (.getfield 35, 3) := by decide +kernel
theorem dX5_about_95 : decode cX5_about 95 = .ok (.aload_n 0, 1) := by decide +kernel
theorem dX5_about_96 : decode cX5_about 96 = .ok (.getfield 19, 3) := by decide +kernel
theorem dX5_about_99 : decode cX5_about 99 = .ok (.iconst 0, 1) := by decide +kernel
theorem dX5_about_100 : decode cX5_about 100 = .ok (.invokevirtual 96, 3) := by decide +kernel
theorem dX5_about_103 : decode cX5_about 103 = .ok (.isub, 1) := by decide +kernel
theorem dX5_about_104 : decode cX5_about 104 = .ok (.ireturn, 1) := by decide +kernel
theorem dX5_about_105 : decode cX5_about 105 = .ok (.aload_n 0, 1) := by decide +kernel
theorem dX5_about_106 : decode cX5_about 106 = .ok (.getfield 35, 3) := by decide +kernel
theorem dX5_about_109 : decode cX5_about 109 = .ok (.aload_n 0, 1) := by decide +kernel
theorem dX5_about_110 : decode cX5_about 110 = .ok (.getfield 19, 3) := by decide +kernel
theorem dX5_about_113 : decode cX5_about 113 = .ok (.iconst 1, 1) := by decide +kernel
theorem dX5_about_114 : decode cX5_about 114 = .ok (.invokevirtual 96, 3) := by decide +kernel
theorem dX5_about_117 : decode cX5_about 117 = .ok (.ireturn, 1) := by decide +kernel
theorem dX5_about_118 : decode cX5_about 118 = .ok (.aload_n 0, 1) := by decide +kernel
theorem dX5_about_119 : decode cX5_about 119 = .ok (.getfield 35, 3) := by decide +kernel
theorem dX5_about_122 : decode cX5_about 122 = .ok (.aload_n 0, 1) := by decide +kernel
theorem dX5_about_123 : decode cX5_about 123 = .ok (.getfield 19, 3) := by decide +kernel
theorem dX5_about_126 : decode cX5_about 126 = .ok (.iconst 2, 1) := by decide +kernel
theorem dX5_about_127 : decode cX5_about 127 = .ok (.invokevirtual 96, 3) := by decide +kernel
theorem dX5_about_130 : decode cX5_about 130 = .ok (.ireturn, 1) := by decide +kernel
theorem dX5_about_131 : decode cX5_about 131 = .ok (.aload_n 0, 1) := by decide +kernel
theorem dX5_about_132 : decode cX5_about 132 = .ok (.getfield 19, 3) := by decide +kernel
theorem dX5_about_135 : decode cX5_about 135 = .ok (.invokevirtual 100, 3) := by decide +kernel
theorem dX5_about_138 : decode cX5_about 138 = .ok (.ireturn, 1) := by decide +kernel
theorem dX5_about_139 : decode cX5_about 139 = .ok (.aload_n 0, 1) := by decide +kernel
theorem dX5_about_140 : decode cX5_about 140 = .ok (.getfield 19, 3) := by decide +kernel
theorem dX5_about_143 : decode cX5_about 143 = .ok (.getfield 103, 3) := by decide +kernel
theorem dX5_about_146 : decode cX5_about 146 = .ok (.ireturn, 1) := by decide +kernel
theorem dX5_about_147 : decode cX5_about 147 = .ok (.aload_n 0, 1) := by decide +kernel
theorem dX5_about_148 : decode cX5_about 148 = .ok (.getfield 19, 3) := by decide +kernel
theorem dX5_about_151 : decode cX5_about 151 = .ok (.getfield 106, 3) := by decide +kernel
theorem dX5_about_154 : decode cX5_about 154 = .ok (.ireturn, 1) := by decide +kernel
theorem dX5_about_155 : decode cX5_about 155 = .ok (.aload_n 0, 1) := by decide +kernel
theorem dX5_about_156 : decode cX5_about 156 = .ok (.getfield 19, 3) := by decide +kernel
theorem dX5_about_159 : decode cX5_about 159 = .ok (.getfield 109, 3) := by decide +kernel
theorem dX5_about_162 : decode cX5_about 162 = .ok (.ireturn, 1) := by decide +kernel
theorem dX5_about_163 : decode cX5_about 163 = .ok (.aload_n 0, 1) := by decide +kernel
theorem dX5_about_164 : decode cX5_about 164 = .ok (.getfield 19, 3) := by decide +kernel
theorem dX5_about_167 : decode cX5_about 167 = .ok (.getfield 112, 3) := by decide +kernel
theorem dX5_about_170 : decode cX5_about 170 = .ok (.aload_n 0, 1) := by decide +kernel
theorem dX5_about_171 : decode cX5_about 171 = .ok (.getfield 19, 3) := by decide +kernel
theorem dX5_about_174 : decode cX5_about 174 = .ok (.getfield 115, 3) := by decide +kernel
theorem dX5_about_177 : decode cX5_about 177 = .ok (.invokestatic 118, 3) := by decide +kernel
theorem dX5_about_180 : decode cX5_about 180 = .ok (.ireturn, 1) := by decide +kernel
theorem dX5_about_181 : decode cX5_about 181 = .ok (.aload_n 0, 1) := by decide +kernel
theorem dX5_about_182 : decode cX5_about 182 = .ok (.getfield 42, 3) := by decide +kernel
theorem dX5_about_185 : decode cX5_about 185 = .ok (.invokevirtual 122, 3) := by decide +kernel
theorem dX5_about_188 : decode cX5_about 188 = .ok (.ireturn, 1) := by decide +kernel
theorem dX5_about_189 : decode cX5_about 189 = .ok (.aload_n 0, 1) := by decide +kernel
theorem dX5_about_190 : decode cX5_about 190 = .ok (.getfield 49, 3) := by decide +kernel
theorem dX5_about_193 : decode cX5_about 193 = .ok (.invokevirtual 125, 3) := by decide +kernel
theorem dX5_about_196 : decode cX5_about 196 = .ok (.ireturn, 1) := by decide +kernel
theorem dX5_about_197 : decode cX5_about 197 = .ok (.aload_n 0, 1) := by decide +kernel
theorem dX5_about_198 : decode cX5_about 198 = .ok (.getfield 10, 3) := by decide +kernel
theorem dX5_about_201 : decode cX5_about 201 = .ok (.invokevirtual 126, 3) := by decide +kernel
theorem dX5_about_204 : decode cX5_about 204 = .ok (.ireturn, 1) := by decide +kernel
theorem dX5_about_205 : decode cX5_about 205 = .ok (.bipush (-2), 2) := by decide +kernel
theorem dX5_about_207 : decode cX5_about 207 = .ok (.ireturn, 1) := by decide +kernel
theorem dX5_grey_0 : decode cX5_grey 0 = .ok (.iload_n 1, 1) := by decide +kernel
theorem dX5_grey_1 : decode cX5_grey 1 = .ok (.invokestatic 127, 3) := by decide +kernel
theorem dX5_grey_4 : decode cX5_grey 4 = .ok (.ifCond .eq 14, 3) := by decide +kernel
theorem dX5_grey_7 : decode cX5_grey 7 = .ok (.aload_n 0, 1) := by decide +kernel
theorem dX5_grey_8 : decode cX5_grey 8 = .ok (.getfield 19, 3) := by decide +kernel
theorem dX5_grey_11 : decode cX5_grey 11 = .ok (.iload_n 2, 1) := by decide +kernel
theorem dX5_grey_12 : decode cX5_grey 12 = .ok (.invokevirtual 131, 3) := by decide +kernel
theorem dX5_grey_15 : decode cX5_grey 15 = .ok (.ifCond .ne 5, 3) := by decide +kernel
theorem dX5_grey_18 : decode cX5_grey 18 = .ok (.iconst (-1), 1) := by decide +kernel
theorem dX5_grey_19 : decode cX5_grey 19 = .ok (.ireturn, 1) := by decide +kernel
theorem dX5_grey_20 : decode cX5_grey 20 = .ok (.aload_n 0, 1) := by decide +kernel
theorem dX5_grey_21 : decode cX5_grey 21 = .ok (.getfield 19, 3) := by decide +kernel
theorem dX5_grey_24 : decode cX5_grey 24 = .ok (.iload_n 1, 1) := by decide +kernel
theorem dX5_grey_25 : decode cX5_grey 25 = .ok (.iload_n 2, 1) := by decide +kernel
theorem dX5_grey_26 : decode cX5_grey 26 = .ok (.invokevirtual 134, 3) := by decide +kernel
theorem dX5_grey_29 : decode cX5_grey 29 = .ok (.ireturn, 1) := by decide +kernel
theorem dX5_shows_0 : decode cX5_shows 0 = .ok (.iload_n 1, 1) := by decide +kernel
theorem dX5_shows_1 : decode cX5_shows 1 = .ok (.invokestatic 137, 3) := by decide +kernel
theorem dX5_shows_4 : decode cX5_shows 4 = .ok (.ifCond .ne 6, 3) := by decide +kernel
theorem dX5_shows_7 : decode cX5_shows 7 = .ok (.bipush (-2), 2) := by decide +kernel
theorem dX5_shows_9 : decode cX5_shows 9 = .ok (.ireturn, 1) := by decide +kernel
theorem dX5_shows_10 : decode cX5_shows 10 = .ok (.aload_n 0, 1) := by decide +kernel
theorem dX5_shows_11 : decode cX5_shows 11 = .ok (.getfield 19, 3) := by decide +kernel
theorem dX5_shows_14 : decode cX5_shows 14 = .ok (.iload_n 1, 1) := by decide +kernel
theorem dX5_shows_15 : decode cX5_shows 15 = .ok (.invokevirtual 140, 3) := by decide +kernel
theorem dX5_shows_18 : decode cX5_shows 18 = .ok (.ireturn, 1) := by decide +kernel
theorem dX5_window_0 : decode cX5_window 0 = .ok (.aload_n 0, 1) := by decide +kernel
theorem dX5_window_1 : decode cX5_window 1 = .ok (.getfield 19, 3) := by decide +kernel
theorem dX5_window_4 : decode cX5_window 4 = .ok (.iload_n 1, 1) := by decide +kernel
theorem dX5_window_5 : decode cX5_window 5 = .ok (.invokevirtual 131, 3) := by decide +kernel
theorem dX5_window_8 : decode cX5_window 8 = .ok (.ifCond .ne 5, 3) := by decide +kernel
theorem dX5_window_11 : decode cX5_window 11 = .ok (.iconst (-1), 1) := by decide +kernel
theorem dX5_window_12 : decode cX5_window 12 = .ok (.ireturn, 1) := by decide +kernel
theorem dX5_window_13 : decode cX5_window 13 = .ok (.aload_n 0, 1) := by decide +kernel
theorem dX5_window_14 : decode cX5_window 14 = .ok (.getfield 35, 3) := by decide +kernel
theorem dX5_window_17 : decode cX5_window 17 = .ok (.aload_n 0, 1) := by decide +kernel
theorem dX5_window_18 : decode cX5_window 18 = .ok (.getfield 19, 3) := by decide +kernel
theorem dX5_window_21 : decode cX5_window 21 = .ok (.iload_n 1, 1) := by decide +kernel
theorem dX5_window_22 : decode cX5_window 22 = .ok (.aload_n 0, 1) := by decide +kernel
theorem dX5_window_23 : decode cX5_window 23 = .ok (.getfield 19, 3) := by decide +kernel
theorem dX5_window_26 : decode cX5_window 26 = .ok (.getfield 106, 3) := by decide +kernel
theorem dX5_window_29 : decode cX5_window 29 = .ok (.invokevirtual 143, 3) := by decide +kernel
theorem dX5_window_32 : decode cX5_window 32 = .ok (.iload_n 2, 1) := by decide +kernel
theorem dX5_window_33 : decode cX5_window 33 = .ok (.tableswitch 54 0 2 #[27, 36, 45], 27) := by decide +kernel
theorem dX5_window_60 : decode cX5_window 60 = .ok (.aload_n 0, 1) := by decide +kernel
theorem dX5_window_61 : decode cX5_window 61 = .ok (.getfield 35, 3) := by decide +kernel
theorem dX5_window_64 : decode cX5_window 64 = .ok (.iload_n 1, 1) := by decide +kernel
theorem dX5_window_65 : decode cX5_window 65 = .ok (.invokevirtual 147, 3) := by decide +kernel
theorem dX5_window_68 : decode cX5_window 68 = .ok (.ireturn, 1) := by decide +kernel
theorem dX5_window_69 : decode cX5_window 69 = .ok (.aload_n 0, 1) := by decide +kernel
theorem dX5_window_70 : decode cX5_window 70 = .ok (.getfield 35, 3) := by decide +kernel
theorem dX5_window_73 : decode cX5_window 73 = .ok (.iload_n 1, 1) := by decide +kernel
theorem dX5_window_74 : decode cX5_window 74 = .ok (.invokevirtual 150, 3) := by decide +kernel
theorem dX5_window_77 : decode cX5_window 77 = .ok (.ireturn, 1) := by decide +kernel
theorem dX5_window_78 : decode cX5_window 78 = .ok (.aload_n 0, 1) := by decide +kernel
theorem dX5_window_79 : decode cX5_window 79 = .ok (.getfield 35, 3) := by decide +kernel
theorem dX5_window_82 : decode cX5_window 82 = .ok (.iload_n 1, 1) := by decide +kernel
theorem dX5_window_83 : decode cX5_window 83 = .ok (.invokevirtual 153, 3) := by decide +kernel
theorem dX5_window_86 : decode cX5_window 86 = .ok (.ireturn, 1) := by decide +kernel
theorem dX5_window_87 : decode cX5_window 87 = .ok (.bipush (-2), 2) := by decide +kernel
theorem dX5_window_89 : decode cX5_window 89 = .ok (.ireturn, 1) := by decide +kernel
theorem dX5_spread_0 : decode cX5_spread 0 = .ok (.aload_n 0, 1) := by decide +kernel
theorem dX5_spread_1 : decode cX5_spread 1 = .ok (.getfield 19, 3) := by decide +kernel
theorem dX5_spread_4 : decode cX5_spread 4 = .ok (.iload_n 1, 1) := by decide +kernel
theorem dX5_spread_5 : decode cX5_spread 5 = .ok (.invokevirtual 131, 3) := by decide +kernel
theorem dX5_spread_8 : decode cX5_spread 8 = .ok (.ifCond .ne 5, 3) := by decide +kernel
theorem dX5_spread_11 : decode cX5_spread 11 = .ok (.iconst (-1), 1) := by decide +kernel
theorem dX5_spread_12 : decode cX5_spread 12 = .ok (.ireturn, 1) := by decide +kernel
theorem dX5_spread_13 : decode cX5_spread 13 = .ok (.aload_n 0, 1) := by decide +kernel
theorem dX5_spread_14 : decode cX5_spread 14 = .ok (.getfield 35, 3) := by decide +kernel
theorem dX5_spread_17 : decode cX5_spread 17 = .ok (.aload_n 0, 1) := by decide +kernel
theorem dX5_spread_18 : decode cX5_spread 18 = .ok (.getfield 19, 3) := by decide +kernel
theorem dX5_spread_21 : decode cX5_spread 21 = .ok (.iload_n 1, 1) := by decide +kernel
theorem dX5_spread_22 : decode cX5_spread 22 = .ok (.aload_n 0, 1) := by decide +kernel
theorem dX5_spread_23 : decode cX5_spread 23 = .ok (.getfield 19, 3) := by decide +kernel
theorem dX5_spread_26 : decode cX5_spread 26 = .ok (.getfield 106, 3) := by decide +kernel
theorem dX5_spread_29 : decode cX5_spread 29 = .ok (.invokevirtual 143, 3) := by decide +kernel
theorem dX5_spread_32 : decode cX5_spread 32 = .ok (.aload_n 0, 1) := by decide +kernel
theorem dX5_spread_33 : decode cX5_spread 33 = .ok (.getfield 35, 3) := by decide +kernel
theorem dX5_spread_36 : decode cX5_spread 36 = .ok (.iload_n 1, 1) := by decide +kernel
theorem dX5_spread_37 : decode cX5_spread 37 = .ok (.invokevirtual 147, 3) := by decide +kernel
theorem dX5_spread_40 : decode cX5_spread 40 = .ok (.istore 4, 2) := by decide +kernel
theorem dX5_spread_42 : decode cX5_spread 42 = .ok (.iload_n 2, 1) := by decide +kernel
theorem dX5_spread_43 : decode cX5_spread 43 = .ok (.lookupswitch 58 #[(0, 25), (1, 40)], 25) := by decide +kernel
theorem dX5_spread_68 : decode cX5_spread 68 = .ok (.aload_n 0, 1) := by decide +kernel
theorem dX5_spread_69 : decode cX5_spread 69 = .ok (.getfield 35, 3) := by decide +kernel
theorem dX5_spread_72 : decode cX5_spread 72 = .ok (.iload_n 1, 1) := by decide +kernel
theorem dX5_spread_73 : decode cX5_spread 73 = .ok (.invokevirtual 150, 3) := by decide +kernel
theorem dX5_spread_76 : decode cX5_spread 76 = .ok (.iload 4, 2) := by decide +kernel
theorem dX5_spread_78 : decode cX5_spread 78 = .ok (.iload_n 3, 1) := by decide +kernel
theorem dX5_spread_79 : decode cX5_spread 79 = .ok (.invokestatic 156, 3) := by decide +kernel
theorem dX5_spread_82 : decode cX5_spread 82 = .ok (.ireturn, 1) := by decide +kernel
theorem dX5_spread_83 : decode cX5_spread 83 = .ok (.aload_n 0, 1) := by decide +kernel
theorem dX5_spread_84 : decode cX5_spread 84 = .ok (.getfield 35, 3) := by decide +kernel
theorem dX5_spread_87 : decode cX5_spread 87 = .ok (.iload_n 1, 1) := by decide +kernel
theorem dX5_spread_88 : decode cX5_spread 88 = .ok (.invokevirtual 160, 3) := by decide +kernel
theorem dX5_spread_91 : decode cX5_spread 91 = .ok (.iload 4, 2) := by decide +kernel
theorem dX5_spread_93 : decode cX5_spread 93 = .ok (.iload 4, 2) := by decide +kernel
theorem dX5_spread_95 : decode cX5_spread 95 = .ok (.imul, 1) := by decide +kernel
theorem dX5_spread_96 : decode cX5_spread 96 = .ok (.iload_n 3, 1) := by decide +kernel
theorem dX5_spread_97 : decode cX5_spread 97 = .ok (.invokestatic 156, 3) := by decide +kernel
theorem dX5_spread_100 : decode cX5_spread 100 = .ok (.ireturn, 1) := by decide +kernel
theorem dX5_spread_101 : decode cX5_spread 101 = .ok (.bipush (-2), 2) := by decide +kernel
theorem dX5_spread_103 : decode cX5_spread 103 = .ok (.ireturn, 1) := by decide +kernel
theorem dX5_mark_0 : decode cX5_mark 0 = .ok (.aload_n 0, 1) := by decide +kernel
theorem dX5_mark_1 : decode cX5_mark 1 = .ok (.getfield 19, 3) := by decide +kernel
theorem dX5_mark_4 : decode cX5_mark 4 = .ok (.iload_n 1, 1) := by decide +kernel
theorem dX5_mark_5 : decode cX5_mark 5 = .ok (.invokevirtual 131, 3) := by decide +kernel
theorem dX5_mark_8 : decode cX5_mark 8 = .ok (.ifCond .ne 5, 3) := by decide +kernel
theorem dX5_mark_11 : decode cX5_mark 11 = .ok (.iconst (-1), 1) := by decide +kernel
theorem dX5_mark_12 : decode cX5_mark 12 = .ok (.ireturn, 1) := by decide +kernel
theorem dX5_mark_13 : decode cX5_mark 13 = .ok (.aload_n 0, 1) := by decide +kernel
theorem dX5_mark_14 : decode cX5_mark 14 = .ok (.getfield 35, 3) := by decide +kernel
theorem dX5_mark_17 : decode cX5_mark 17 = .ok (.aload_n 0, 1) := by decide +kernel
theorem dX5_mark_18 : decode cX5_mark 18 = .ok (.getfield 19, 3) := by decide +kernel
theorem dX5_mark_21 : decode cX5_mark 21 = .ok (.iload_n 1, 1) := by decide +kernel
theorem dX5_mark_22 : decode cX5_mark 22 = .ok (.aload_n 0, 1) := by decide +kernel
theorem dX5_mark_23 : decode cX5_mark 23 = .ok (.getfield 19, 3) := by decide +kernel
theorem dX5_mark_26 : decode cX5_mark 26 = .ok (.getfield 106, 3) := by decide +kernel
theorem dX5_mark_29 : decode cX5_mark 29 = .ok (.invokevirtual 143, 3) := by decide +kernel
theorem dX5_mark_32 : decode cX5_mark 32 = .ok (.aload_n 0, 1) := by decide +kernel
theorem dX5_mark_33 : decode cX5_mark 33 = .ok (.getfield 35, 3) := by decide +kernel
theorem dX5_mark_36 : decode cX5_mark 36 = .ok (.iload_n 1, 1) := by decide +kernel
theorem dX5_mark_37 : decode cX5_mark 37 = .ok (.aload_n 0, 1) := by decide +kernel
theorem dX5_mark_38 : decode cX5_mark 38 = .ok (.getfield 19, 3) := by decide +kernel
theorem dX5_mark_41 : decode cX5_mark 41 = .ok (.getfield 109, 3) := by decide +kernel
theorem dX5_mark_44 : decode cX5_mark 44 = .ok (.invokevirtual 163, 3) := by decide +kernel
theorem dX5_mark_47 : decode cX5_mark 47 = .ok (.ireturn, 1) := by decide +kernel
theorem dX5_under_0 : decode cX5_under 0 = .ok (.aload_n 0, 1) := by decide +kernel
theorem dX5_under_1 : decode cX5_under 1 = .ok (.getfield 19, 3) := by decide +kernel
theorem dX5_under_4 : decode cX5_under 4 = .ok (.iload_n 1, 1) := by decide +kernel
theorem dX5_under_5 : decode cX5_under 5 = .ok (.invokevirtual 131, 3) := by decide +kernel
theorem dX5_under_8 : decode cX5_under 8 = .ok (.ifCond .ne 5, 3) := by decide +kernel
theorem dX5_under_11 : decode cX5_under 11 = .ok (.iconst (-1), 1) := by decide +kernel
theorem dX5_under_12 : decode cX5_under 12 = .ok (.ireturn, 1) := by decide +kernel
theorem dX5_under_13 : decode cX5_under 13 = .ok (.aload_n 0, 1) := by decide +kernel
theorem dX5_under_14 : decode cX5_under 14 = .ok (.getfield 19, 3) := by decide +kernel
theorem dX5_under_17 : decode cX5_under 17 = .ok (.iload_n 1, 1) := by decide +kernel
theorem dX5_under_18 : decode cX5_under 18 = .ok (.aload_n 0, 1) := by decide +kernel
theorem dX5_under_19 : decode cX5_under 19 = .ok (.getfield 19, 3) := by decide +kernel
theorem dX5_under_22 : decode cX5_under 22 = .ok (.getfield 112, 3) := by decide +kernel
theorem dX5_under_25 : decode cX5_under 25 = .ok (.aload_n 0, 1) := by decide +kernel
theorem dX5_under_26 : decode cX5_under 26 = .ok (.getfield 19, 3) := by decide +kernel
theorem dX5_under_29 : decode cX5_under 29 = .ok (.getfield 115, 3) := by decide +kernel
theorem dX5_under_32 : decode cX5_under 32 = .ok (.invokevirtual 166, 3) := by decide +kernel
theorem dX5_under_35 : decode cX5_under 35 = .ok (.ireturn, 1) := by decide +kernel
theorem dX5_cleaned_0 : decode cX5_cleaned 0 = .ok (.iload_n 1, 1) := by decide +kernel
theorem dX5_cleaned_1 : decode cX5_cleaned 1 = .ok (.ifCond .lt 9, 3) := by decide +kernel
theorem dX5_cleaned_4 : decode cX5_cleaned 4 = .ok (.iload_n 1, 1) := by decide +kernel
theorem dX5_cleaned_5 : decode cX5_cleaned 5 = .ok (.bipush 25, 2) := by decide +kernel
theorem dX5_cleaned_7 : decode cX5_cleaned 7 = .ok (.if_icmp .le 6, 3) := by decide +kernel
theorem dX5_cleaned_10 : decode cX5_cleaned 10 = .ok (.bipush (-2), 2) := by decide +kernel
theorem dX5_cleaned_12 : decode cX5_cleaned 12 = .ok (.ireturn, 1) := by decide +kernel
theorem dX5_cleaned_13 : decode cX5_cleaned 13 = .ok (.aload_n 0, 1) := by decide +kernel
theorem dX5_cleaned_14 : decode cX5_cleaned 14 = .ok (.getfield 35, 3) := by decide +kernel
theorem dX5_cleaned_17 : decode cX5_cleaned 17 = .ok (.aload_n 0, 1) := by decide +kernel
theorem dX5_cleaned_18 : decode cX5_cleaned 18 = .ok (.getfield 19, 3) := by decide +kernel
theorem dX5_cleaned_21 : decode cX5_cleaned 21 = .ok (.aload_n 0, 1) := by decide +kernel
theorem dX5_cleaned_22 : decode cX5_cleaned 22 = .ok (.getfield 19, 3) := by decide +kernel
theorem dX5_cleaned_25 : decode cX5_cleaned 25 = .ok (.getfield 106, 3) := by decide +kernel
theorem dX5_cleaned_28 : decode cX5_cleaned 28 = .ok (.invokevirtual 170, 3) := by decide +kernel
theorem dX5_cleaned_31 : decode cX5_cleaned 31 = .ok (.aload_n 0, 1) := by decide +kernel
theorem dX5_cleaned_32 : decode cX5_cleaned 32 = .ok (.getfield 35, 3) := by decide +kernel
theorem dX5_cleaned_35 : decode cX5_cleaned 35 = .ok (.aload_n 0, 1) := by decide +kernel
theorem dX5_cleaned_36 : decode cX5_cleaned 36 = .ok (.getfield 19, 3) := by decide +kernel
theorem dX5_cleaned_39 : decode cX5_cleaned 39 = .ok (.getfield 109, 3) := by decide +kernel
theorem dX5_cleaned_42 : decode cX5_cleaned 42 = .ok (.iconst 2, 1) := by decide +kernel
theorem dX5_cleaned_43 : decode cX5_cleaned 43 = .ok (.invokevirtual 174, 3) := by decide +kernel
theorem dX5_cleaned_46 : decode cX5_cleaned 46 = .ok (.istore_n 2, 1) := by decide +kernel
theorem dX5_cleaned_47 : decode cX5_cleaned 47 = .ok (.iload_n 2, 1) := by decide +kernel
theorem dX5_cleaned_48 : decode cX5_cleaned 48 = .ok (.istore_n 3, 1) := by decide +kernel
theorem dX5_cleaned_49 : decode cX5_cleaned 49 = .ok (.iconst 0, 1) := by decide +kernel
theorem dX5_cleaned_50 : decode cX5_cleaned 50 = .ok (.istore 4, 2) := by decide +kernel
theorem dX5_cleaned_52 : decode cX5_cleaned 52 = .ok (.iconst 0, 1) := by decide +kernel
theorem dX5_cleaned_53 : decode cX5_cleaned 53 = .ok (.istore 5, 2) := by decide +kernel
theorem dX5_cleaned_55 : decode cX5_cleaned 55 = .ok (.iload 5, 2) := by decide +kernel
theorem dX5_cleaned_57 : decode cX5_cleaned 57 = .ok (.bipush 25, 2) := by decide +kernel
theorem dX5_cleaned_59 : decode cX5_cleaned 59 = .ok (.if_icmp .ge 61, 3) := by decide +kernel
theorem dX5_cleaned_62 : decode cX5_cleaned 62 = .ok (.iload_n 3, 1) := by decide +kernel
theorem dX5_cleaned_63 : decode cX5_cleaned 63 = .ok (.iconst 1, 1) := by decide +kernel
theorem dX5_cleaned_64 : decode cX5_cleaned 64 = .ok (.iload 5, 2) := by decide +kernel
theorem dX5_cleaned_66 : decode cX5_cleaned 66 = .ok (.ishl, 1) := by decide +kernel
theorem dX5_cleaned_67 : decode cX5_cleaned 67 = .ok (.iand, 1) := by decide +kernel
theorem dX5_cleaned_68 : decode cX5_cleaned 68 = .ok (.istore 6, 2) := by decide +kernel
theorem dX5_cleaned_70 : decode cX5_cleaned 70 = .ok (.iload 6, 2) := by decide +kernel
theorem dX5_cleaned_72 : decode cX5_cleaned 72 = .ok (.ifCond .eq 42, 3) := by decide +kernel
theorem dX5_cleaned_75 : decode cX5_cleaned 75 = .ok (.aload_n 0, 1) := by decide +kernel
theorem dX5_cleaned_76 : decode cX5_cleaned 76 = .ok (.getfield 19, 3) := by decide +kernel
theorem dX5_cleaned_79 : decode cX5_cleaned 79 = .ok (.iload 6, 2) := by decide +kernel
theorem dX5_cleaned_81 : decode cX5_cleaned 81 = .ok (.iload_n 2, 1) := by decide +kernel
theorem dX5_cleaned_82 : decode cX5_cleaned 82 = .ok (.invokevirtual 177, 3) := by decide +kernel
theorem dX5_cleaned_85 : decode cX5_cleaned 85 = .ok (.istore 7, 2) := by decide +kernel
theorem dX5_cleaned_87 : decode cX5_cleaned 87 = .ok (.iload_n 3, 1) := by decide +kernel
theorem dX5_cleaned_88 : decode cX5_cleaned 88 = .ok (.iload 7, 2) := by decide +kernel
theorem dX5_cleaned_90 : decode cX5_cleaned 90 = .ok (.iconst (-1), 1) := by decide +kernel
theorem dX5_cleaned_91 : decode cX5_cleaned 91 = .ok (.ixor, 1) := by decide +kernel
theorem dX5_cleaned_92 : decode cX5_cleaned 92 = .ok (.iand, 1) := by decide +kernel
theorem dX5_cleaned_93 : decode cX5_cleaned 93 = .ok (.istore_n 3, 1) := by decide +kernel
theorem dX5_cleaned_94 : decode cX5_cleaned 94 = .ok (.iload 4, 2) := by decide +kernel
theorem dX5_cleaned_96 : decode cX5_cleaned 96 = .ok (.iload 7, 2) := by decide +kernel
theorem dX5_cleaned_98 : decode cX5_cleaned 98 = .ok (.invokestatic 180, 3) := by decide +kernel
theorem dX5_cleaned_101 : decode cX5_cleaned 101 = .ok (.iload_n 1, 1) := by decide +kernel
theorem dX5_cleaned_102 : decode cX5_cleaned 102 = .ok (.if_icmp .le 8, 3) := by decide +kernel
theorem dX5_cleaned_105 : decode cX5_cleaned 105 = .ok (.iload 7, 2) := by decide +kernel
theorem dX5_cleaned_107 : decode cX5_cleaned 107 = .ok (.goto 4, 3) := by decide +kernel
theorem dX5_cleaned_110 : decode cX5_cleaned 110 = .ok (.iconst 0, 1) := by decide +kernel
theorem dX5_cleaned_111 : decode cX5_cleaned 111 = .ok (.ior, 1) := by decide +kernel
theorem dX5_cleaned_112 : decode cX5_cleaned 112 = .ok (.istore 4, 2) := by decide +kernel
theorem dX5_cleaned_114 : decode cX5_cleaned 114 = .ok (.iinc 5 1, 3) := by decide +kernel
theorem dX5_cleaned_117 : decode cX5_cleaned 117 = .ok (.goto (-62), 3) := by decide +kernel
theorem dX5_cleaned_120 : decode cX5_cleaned 120 = .ok (.iload 4, 2) := by decide +kernel
theorem dX5_cleaned_122 : decode cX5_cleaned 122 = .ok (.ireturn, 1) := by decide +kernel
theorem dX5_paint_0 : decode cX5_paint 0 = .ok (.iload_n 1, 1) := by decide +kernel
theorem dX5_paint_1 : decode cX5_paint 1 = .ok (.invokestatic 127, 3) := by decide +kernel
theorem dX5_paint_4 : decode cX5_paint 4 = .ok (.ifCond .eq 14, 3) := by decide +kernel
theorem dX5_paint_7 : decode cX5_paint 7 = .ok (.aload_n 0, 1) := by decide +kernel
theorem dX5_paint_8 : decode cX5_paint 8 = .ok (.getfield 19, 3) := by decide +kernel
theorem dX5_paint_11 : decode cX5_paint 11 = .ok (.iload_n 2, 1) := by decide +kernel
theorem dX5_paint_12 : decode cX5_paint 12 = .ok (.invokevirtual 131, 3) := by decide +kernel
theorem dX5_paint_15 : decode cX5_paint 15 = .ok (.ifCond .ne 5, 3) := by decide +kernel
theorem dX5_paint_18 : decode cX5_paint 18 = .ok (.iconst (-1), 1) := by decide +kernel
theorem dX5_paint_19 : decode cX5_paint 19 = .ok (.ireturn, 1) := by decide +kernel
theorem dX5_paint_20 : decode cX5_paint 20 = .ok (.iload_n 3, 1) := by decide +kernel
theorem dX5_paint_21 : decode cX5_paint 21 = .ok (.invokestatic 137, 3) := by decide +kernel
theorem dX5_paint_24 : decode cX5_paint 24 = .ok (.ifCond .ne 6, 3) := by decide +kernel
theorem dX5_paint_27 : decode cX5_paint 27 = .ok (.bipush (-2), 2) := by decide +kernel
theorem dX5_paint_29 : decode cX5_paint 29 = .ok (.ireturn, 1) := by decide +kernel
theorem dX5_paint_30 : decode cX5_paint 30 = .ok (.aload_n 0, 1) := by decide +kernel
theorem dX5_paint_31 : decode cX5_paint 31 = .ok (.getfield 19, 3) := by decide +kernel
theorem dX5_paint_34 : decode cX5_paint 34 = .ok (.iload_n 1, 1) := by decide +kernel
theorem dX5_paint_35 : decode cX5_paint 35 = .ok (.iload_n 2, 1) := by decide +kernel
theorem dX5_paint_36 : decode cX5_paint 36 = .ok (.invokevirtual 134, 3) := by decide +kernel
theorem dX5_paint_39 : decode cX5_paint 39 = .ok (.istore 4, 2) := by decide +kernel
theorem dX5_paint_41 : decode cX5_paint 41 = .ok (.aload_n 0, 1) := by decide +kernel
theorem dX5_paint_42 : decode cX5_paint 42 = .ok (.getfield 42, 3) := by decide +kernel
theorem dX5_paint_45 : decode cX5_paint 45 = .ok (.iconst 1, 1) := by decide +kernel
theorem dX5_paint_46 : decode cX5_paint 46 = .ok (.iload_n 1, 1) := by decide +kernel
theorem dX5_paint_47 : decode cX5_paint 47 = .ok (.iload_n 2, 1) := by decide +kernel
theorem dX5_paint_48 : decode cX5_paint 48 = .ok (.iload 4, 2) := by decide +kernel
theorem dX5_paint_50 : decode cX5_paint 50 = .ok (.invokevirtual 185, 3) := by decide +kernel
theorem dX5_paint_53 : decode cX5_paint 53 = .ok (.aload_n 0, 1) := by decide +kernel
theorem dX5_paint_54 : decode cX5_paint 54 = .ok (.getfield 19, 3) := by decide +kernel
theorem dX5_paint_57 : decode cX5_paint 57 = .ok (.iload_n 1, 1) := by decide +kernel
theorem dX5_paint_58 : decode cX5_paint 58 = .ok (.iload_n 2, 1) := by decide +kernel
theorem dX5_paint_59 : decode cX5_paint 59 = .ok (.iload_n 3, 1) := by decide +kernel
theorem dX5_paint_60 : decode cX5_paint 60 = .ok (.invokevirtual 189, 3) := by decide +kernel
theorem dX5_paint_63 : decode cX5_paint 63 = .ok (.iload 4, 2) := by decide +kernel
theorem dX5_paint_65 : decode cX5_paint 65 = .ok (.ireturn, 1) := by decide +kernel
theorem dX5_light_0 : decode cX5_light 0 = .ok (.iload_n 1, 1) := by decide +kernel
theorem dX5_light_1 : decode cX5_light 1 = .ok (.invokestatic 193, 3) := by decide +kernel
theorem dX5_light_4 : decode cX5_light 4 = .ok (.ifCond .ne 6, 3) := by decide +kernel
theorem dX5_light_7 : decode cX5_light 7 = .ok (.bipush (-2), 2) := by decide +kernel
theorem dX5_light_9 : decode cX5_light 9 = .ok (.ireturn, 1) := by decide +kernel
theorem dX5_light_10 : decode cX5_light 10 = .ok (.aload_n 0, 1) := by decide +kernel
theorem dX5_light_11 : decode cX5_light 11 = .ok (.getfield 19, 3) := by decide +kernel
theorem dX5_light_14 : decode cX5_light 14 = .ok (.iload_n 1, 1) := by decide +kernel
theorem dX5_light_15 : decode cX5_light 15 = .ok (.invokevirtual 196, 3) := by decide +kernel
theorem dX5_light_18 : decode cX5_light 18 = .ok (.ifCond .ne 6, 3) := by decide +kernel
theorem dX5_light_21 : decode cX5_light 21 = .ok (.bipush (-3), 2) := by decide +kernel
theorem dX5_light_23 : decode cX5_light 23 = .ok (.ireturn, 1) := by decide +kernel
theorem dX5_light_24 : decode cX5_light 24 = .ok (.aload_n 0, 1) := by decide +kernel
theorem dX5_light_25 : decode cX5_light 25 = .ok (.getfield 42, 3) := by decide +kernel
theorem dX5_light_28 : decode cX5_light 28 = .ok (.iconst 2, 1) := by decide +kernel
theorem dX5_light_29 : decode cX5_light 29 = .ok (.iload_n 1, 1) := by decide +kernel
theorem dX5_light_30 : decode cX5_light 30 = .ok (.iconst 0, 1) := by decide +kernel
theorem dX5_light_31 : decode cX5_light 31 = .ok (.iconst 0, 1) := by decide +kernel
theorem dX5_light_32 : decode cX5_light 32 = .ok (.invokevirtual 185, 3) := by decide +kernel
theorem dX5_light_35 : decode cX5_light 35 = .ok (.aload_n 0, 1) := by decide +kernel
theorem dX5_light_36 : decode cX5_light 36 = .ok (.getfield 19, 3) := by decide +kernel
theorem dX5_light_39 : decode cX5_light 39 = .ok (.iload_n 1, 1) := by decide +kernel
theorem dX5_light_40 : decode cX5_light 40 = .ok (.invokevirtual 199, 3) := by decide +kernel
theorem dX5_light_43 : decode cX5_light 43 = .ok (.aload_n 0, 1) := by decide +kernel
theorem dX5_light_44 : decode cX5_light 44 = .ok (.getfield 19, 3) := by decide +kernel
theorem dX5_light_47 : decode cX5_light 47 = .ok (.invokevirtual 100, 3) := by decide +kernel
theorem dX5_light_50 : decode cX5_light 50 = .ok (.ireturn, 1) := by decide +kernel
theorem dX5_rule_0 : decode cX5_rule 0 = .ok (.iload_n 1, 1) := by decide +kernel
theorem dX5_rule_1 : decode cX5_rule 1 = .ok (.iload_n 2, 1) := by decide +kernel
theorem dX5_rule_2 : decode cX5_rule 2 = .ok (.iload_n 3, 1) := by decide +kernel
theorem dX5_rule_3 : decode cX5_rule 3 = .ok (.invokestatic 203, 3) := by decide +kernel
theorem dX5_rule_6 : decode cX5_rule 6 = .ok (.ifCond .ne 6, 3) := by decide +kernel
theorem dX5_rule_9 : decode cX5_rule 9 = .ok (.bipush (-2), 2) := by decide +kernel
theorem dX5_rule_11 : decode cX5_rule 11 = .ok (.ireturn, 1) := by decide +kernel
theorem dX5_rule_12 : decode cX5_rule 12 = .ok (.aload_n 0, 1) := by decide +kernel
theorem dX5_rule_13 : decode cX5_rule 13 = .ok (.getfield 42, 3) := by decide +kernel
theorem dX5_rule_16 : decode cX5_rule 16 = .ok (.iconst 3, 1) := by decide +kernel
theorem dX5_rule_17 : decode cX5_rule 17 = .ok (.aload_n 0, 1) := by decide +kernel
theorem dX5_rule_18 : decode cX5_rule 18 = .ok (.getfield 19, 3) := by decide +kernel
theorem dX5_rule_21 : decode cX5_rule 21 = .ok (.getfield 103, 3) := by decide +kernel
theorem dX5_rule_24 : decode cX5_rule 24 = .ok (.aload_n 0, 1) := by decide +kernel
theorem dX5_rule_25 : decode cX5_rule 25 = .ok (.getfield 19, 3) := by decide +kernel
theorem dX5_rule_28 : decode cX5_rule 28 = .ok (.getfield 106, 3) := by decide +kernel
theorem dX5_rule_31 : decode cX5_rule 31 = .ok (.aload_n 0, 1) := by decide +kernel
theorem dX5_rule_32 : decode cX5_rule 32 = .ok (.getfield 19, 3) := by decide +kernel
theorem dX5_rule_35 : decode cX5_rule 35 = .ok (.getfield 109, 3) := by decide +kernel
theorem dX5_rule_38 : decode cX5_rule 38 = .ok (.invokevirtual 185, 3) := by decide +kernel
theorem dX5_rule_41 : decode cX5_rule 41 = .ok (.aload_n 0, 1) := by decide +kernel
theorem dX5_rule_42 : decode cX5_rule 42 = .ok (.getfield 19, 3) := by decide +kernel
theorem dX5_rule_45 : decode cX5_rule 45 = .ok (.iload_n 1, 1) := by decide +kernel
theorem dX5_rule_46 : decode cX5_rule 46 = .ok (.iload_n 2, 1) := by decide +kernel
theorem dX5_rule_47 : decode cX5_rule 47 = .ok (.iload_n 3, 1) := by decide +kernel
theorem dX5_rule_48 : decode cX5_rule 48 = .ok (.invokevirtual 207, 3) := by decide +kernel
theorem dX5_rule_51 : decode cX5_rule 51 = .ok (.aload_n 0, 1) := by decide +kernel
theorem dX5_rule_52 : decode cX5_rule 52 = .ok (.getfield 35, 3) := by decide +kernel
theorem dX5_rule_55 : decode cX5_rule 55 = .ok (.aload_n 0, 1) := by decide +kernel
theorem dX5_rule_56 : decode cX5_rule 56 = .ok (.getfield 19, 3) := by decide +kernel
theorem dX5_rule_59 : decode cX5_rule 59 = .ok (.iconst 2, 1) := by decide +kernel
theorem dX5_rule_60 : decode cX5_rule 60 = .ok (.invokevirtual 96, 3) := by decide +kernel
theorem dX5_rule_63 : decode cX5_rule 63 = .ok (.ireturn, 1) := by decide +kernel
theorem dX5_table_0 : decode cX5_table 0 = .ok (.iload_n 1, 1) := by decide +kernel
theorem dX5_table_1 : decode cX5_table 1 = .ok (.invokestatic 137, 3) := by decide +kernel
theorem dX5_table_4 : decode cX5_table 4 = .ok (.ifCond .eq 10, 3) := by decide +kernel
theorem dX5_table_7 : decode cX5_table 7 = .ok (.iload_n 2, 1) := by decide +kernel
theorem dX5_table_8 : decode cX5_table 8 = .ok (.invokestatic 137, 3) := by decide +kernel
theorem dX5_table_11 : decode cX5_table 11 = .ok (.ifCond .ne 6, 3) := by decide +kernel
theorem dX5_table_14 : decode cX5_table 14 = .ok (.bipush (-2), 2) := by decide +kernel
theorem dX5_table_16 : decode cX5_table 16 = .ok (.ireturn, 1) := by decide +kernel
theorem dX5_table_17 : decode cX5_table 17 = .ok (.aload_n 0, 1) := by decide +kernel
theorem dX5_table_18 : decode cX5_table 18 = .ok (.getfield 19, 3) := by decide +kernel
theorem dX5_table_21 : decode cX5_table 21 = .ok (.iload_n 1, 1) := by decide +kernel
theorem dX5_table_22 : decode cX5_table 22 = .ok (.invokevirtual 140, 3) := by decide +kernel
theorem dX5_table_25 : decode cX5_table 25 = .ok (.istore_n 3, 1) := by decide +kernel
theorem dX5_table_26 : decode cX5_table 26 = .ok (.aload_n 0, 1) := by decide +kernel
theorem dX5_table_27 : decode cX5_table 27 = .ok (.getfield 42, 3) := by decide +kernel
theorem dX5_table_30 : decode cX5_table 30 = .ok (.iconst 4, 1) := by decide +kernel
theorem dX5_table_31 : decode cX5_table 31 = .ok (.iload_n 1, 1) := by decide +kernel
theorem dX5_table_32 : decode cX5_table 32 = .ok (.iload_n 3, 1) := by decide +kernel
theorem dX5_table_33 : decode cX5_table 33 = .ok (.iconst 0, 1) := by decide +kernel
theorem dX5_table_34 : decode cX5_table 34 = .ok (.invokevirtual 185, 3) := by decide +kernel
theorem dX5_table_37 : decode cX5_table 37 = .ok (.aload_n 0, 1) := by decide +kernel
theorem dX5_table_38 : decode cX5_table 38 = .ok (.getfield 19, 3) := by decide +kernel
theorem dX5_table_41 : decode cX5_table 41 = .ok (.iload_n 1, 1) := by decide +kernel
theorem dX5_table_42 : decode cX5_table 42 = .ok (.iload_n 2, 1) := by decide +kernel
theorem dX5_table_43 : decode cX5_table 43 = .ok (.invokevirtual 210, 3) := by decide +kernel
theorem dX5_table_46 : decode cX5_table 46 = .ok (.iload_n 3, 1) := by decide +kernel
theorem dX5_table_47 : decode cX5_table 47 = .ok (.ireturn, 1) := by decide +kernel
theorem dX5_lay_0 : decode cX5_lay 0 = .ok (.iload_n 1, 1) := by decide +kernel
theorem dX5_lay_1 : decode cX5_lay 1 = .ok (.iload_n 2, 1) := by decide +kernel
theorem dX5_lay_2 : decode cX5_lay 2 = .ok (.invokestatic 214, 3) := by decide +kernel
theorem dX5_lay_5 : decode cX5_lay 5 = .ok (.ifCond .ne 6, 3) := by decide +kernel
theorem dX5_lay_8 : decode cX5_lay 8 = .ok (.bipush (-2), 2) := by decide +kernel
theorem dX5_lay_10 : decode cX5_lay 10 = .ok (.ireturn, 1) := by decide +kernel
theorem dX5_lay_11 : decode cX5_lay 11 = .ok (.aload_n 0, 1) := by decide +kernel
theorem dX5_lay_12 : decode cX5_lay 12 = .ok (.getfield 42, 3) := by decide +kernel
theorem dX5_lay_15 : decode cX5_lay 15 = .ok (.iconst 5, 1) := by decide +kernel
theorem dX5_lay_16 : decode cX5_lay 16 = .ok (.aload_n 0, 1) := by decide +kernel
theorem dX5_lay_17 : decode cX5_lay 17 = .ok (.getfield 19, 3) := by decide +kernel
theorem dX5_lay_20 : decode cX5_lay 20 = .ok (.getfield 112, 3) := by decide +kernel
theorem dX5_lay_23 : decode cX5_lay 23 = .ok (.aload_n 0, 1) := by decide +kernel
theorem dX5_lay_24 : decode cX5_lay 24 = .ok (.getfield 19, 3) := by decide +kernel
theorem dX5_lay_27 : decode cX5_lay 27 = .ok (.getfield 115, 3) := by decide +kernel
theorem dX5_lay_30 : decode cX5_lay 30 = .ok (.iconst 0, 1) := by decide +kernel
theorem dX5_lay_31 : decode cX5_lay 31 = .ok (.invokevirtual 185, 3) := by decide +kernel
theorem dX5_lay_34 : decode cX5_lay 34 = .ok (.aload_n 0, 1) := by decide +kernel
theorem dX5_lay_35 : decode cX5_lay 35 = .ok (.getfield 19, 3) := by decide +kernel
theorem dX5_lay_38 : decode cX5_lay 38 = .ok (.iload_n 1, 1) := by decide +kernel
theorem dX5_lay_39 : decode cX5_lay 39 = .ok (.iload_n 2, 1) := by decide +kernel
theorem dX5_lay_40 : decode cX5_lay 40 = .ok (.invokevirtual 218, 3) := by decide +kernel
theorem dX5_lay_43 : decode cX5_lay 43 = .ok (.aload_n 0, 1) := by decide +kernel
theorem dX5_lay_44 : decode cX5_lay 44 = .ok (.getfield 35, 3) := by decide +kernel
theorem dX5_lay_47 : decode cX5_lay 47 = .ok (.aload_n 0, 1) := by decide +kernel
theorem dX5_lay_48 : decode cX5_lay 48 = .ok (.getfield 19, 3) := by decide +kernel
theorem dX5_lay_51 : decode cX5_lay 51 = .ok (.iconst 2, 1) := by decide +kernel
theorem dX5_lay_52 : decode cX5_lay 52 = .ok (.invokevirtual 96, 3) := by decide +kernel
theorem dX5_lay_55 : decode cX5_lay 55 = .ok (.ireturn, 1) := by decide +kernel
theorem dX5_undo_0 : decode cX5_undo 0 = .ok (.aload_n 0, 1) := by decide +kernel
theorem dX5_undo_1 : decode cX5_undo 1 = .ok (.getfield 42, 3) := by decide +kernel
theorem dX5_undo_4 : decode cX5_undo 4 = .ok (.invokevirtual 122, 3) := by decide +kernel
theorem dX5_undo_7 : decode cX5_undo 7 = .ok (.ifCond .ne 6, 3) := by decide +kernel
theorem dX5_undo_10 : decode cX5_undo 10 = .ok (.bipush (-3), 2) := by decide +kernel
theorem dX5_undo_12 : decode cX5_undo 12 = .ok (.ireturn, 1) := by decide +kernel
theorem dX5_undo_13 : decode cX5_undo 13 = .ok (.aload_n 0, 1) := by decide +kernel
theorem dX5_undo_14 : decode cX5_undo 14 = .ok (.getfield 42, 3) := by decide +kernel
theorem dX5_undo_17 : decode cX5_undo 17 = .ok (.aload_n 0, 1) := by decide +kernel
theorem dX5_undo_18 : decode cX5_undo 18 = .ok (.getfield 19, 3) := by decide +kernel
theorem dX5_undo_21 : decode cX5_undo 21 = .ok (.invokevirtual 221, 3) := by decide +kernel
theorem dX5_undo_24 : decode cX5_undo 24 = .ok (.ireturn, 1) := by decide +kernel
theorem dX5_fit_0 : decode cX5_fit 0 = .ok (.iload_n 1, 1) := by decide +kernel
theorem dX5_fit_1 : decode cX5_fit 1 = .ok (.iload_n 2, 1) := by decide +kernel
theorem dX5_fit_2 : decode cX5_fit 2 = .ok (.invokestatic 214, 3) := by decide +kernel
theorem dX5_fit_5 : decode cX5_fit 5 = .ok (.ifCond .ne 6, 3) := by decide +kernel
theorem dX5_fit_8 : decode cX5_fit 8 = .ok (.bipush (-2), 2) := by decide +kernel
theorem dX5_fit_10 : decode cX5_fit 10 = .ok (.ireturn, 1) := by decide +kernel
theorem dX5_fit_11 : decode cX5_fit 11 = .ok (.aload_n 0, 1) := by decide +kernel
theorem dX5_fit_12 : decode cX5_fit 12 = .ok (.getfield 19, 3) := by decide +kernel
theorem dX5_fit_15 : decode cX5_fit 15 = .ok (.iload_n 1, 1) := by decide +kernel
theorem dX5_fit_16 : decode cX5_fit 16 = .ok (.iload_n 2, 1) := by decide +kernel
theorem dX5_fit_17 : decode cX5_fit 17 = .ok (.invokevirtual 225, 3) := by decide +kernel
theorem dX5_fit_20 : decode cX5_fit 20 = .ok (.istore 4, 2) := by decide +kernel
theorem dX5_fit_22 : decode cX5_fit 22 = .ok (.iload 4, 2) := by decide +kernel
theorem dX5_fit_24 : decode cX5_fit 24 = .ok (.ifCond .ne 8, 3) := by decide +kernel
theorem dX5_fit_27 : decode cX5_fit 27 = .ok (.bipush (-9), 2) := by decide +kernel
theorem dX5_fit_29 : decode cX5_fit 29 = .ok (.goto 18, 3) := by decide +kernel
theorem dX5_fit_32 : decode cX5_fit 32 = .ok (.aload_n 0, 1) := by decide +kernel
theorem dX5_fit_33 : decode cX5_fit 33 = .ok (.getfield 19, 3) := by decide +kernel
theorem dX5_fit_36 : decode cX5_fit 36 = .ok (.iload_n 1, 1) := by decide +kernel
theorem dX5_fit_37 : decode cX5_fit 37 = .ok (.iload_n 2, 1) := by decide +kernel
theorem dX5_fit_38 : decode cX5_fit 38 = .ok (.invokevirtual 228, 3) := by decide +kernel
theorem dX5_fit_41 : decode cX5_fit 41 = .ok (.iload 4, 2) := by decide +kernel
theorem dX5_fit_43 : decode cX5_fit 43 = .ok (.iload_n 3, 1) := by decide +kernel
theorem dX5_fit_44 : decode cX5_fit 44 = .ok (.invokestatic 156, 3) := by decide +kernel
theorem dX5_fit_47 : decode cX5_fit 47 = .ok (.ireturn, 1) := by decide +kernel
theorem dX5_best_0 : decode cX5_best 0 = .ok (.iload_n 1, 1) := by decide +kernel
theorem dX5_best_1 : decode cX5_best 1 = .ok (.tableswitch 44 0 2 #[27, 32, 38], 27) := by decide +kernel
theorem dX5_best_28 : decode cX5_best 28 = .ok (.aload_n 0, 1) := by decide +kernel
theorem dX5_best_29 : decode cX5_best 29 = .ok (.invokevirtual 231, 3) := by decide +kernel
theorem dX5_best_32 : decode cX5_best 32 = .ok (.ireturn, 1) := by decide +kernel
theorem dX5_best_33 : decode cX5_best 33 = .ok (.aload_n 0, 1) := by decide +kernel
theorem dX5_best_34 : decode cX5_best 34 = .ok (.iconst 1, 1) := by decide +kernel
theorem dX5_best_35 : decode cX5_best 35 = .ok (.invokevirtual 234, 3) := by decide +kernel
theorem dX5_best_38 : decode cX5_best 38 = .ok (.ireturn, 1) := by decide +kernel
theorem dX5_best_39 : decode cX5_best 39 = .ok (.aload_n 0, 1) := by decide +kernel
theorem dX5_best_40 : decode cX5_best 40 = .ok (.iconst 0, 1) := by decide +kernel
theorem dX5_best_41 : decode cX5_best 41 = .ok (.invokevirtual 234, 3) := by decide +kernel
theorem dX5_best_44 : decode cX5_best 44 = .ok (.ireturn, 1) := by decide +kernel
theorem dX5_best_45 : decode cX5_best 45 = .ok (.bipush (-2), 2) := by decide +kernel
theorem dX5_best_47 : decode cX5_best 47 = .ok (.ireturn, 1) := by decide +kernel
theorem dX5_judge_0 : decode cX5_judge 0 = .ok (.iload_n 1, 1) := by decide +kernel
theorem dX5_judge_1 : decode cX5_judge 1 = .ok (.iconst 1, 1) := by decide +kernel
theorem dX5_judge_2 : decode cX5_judge 2 = .ok (.if_icmp .lt 24, 3) := by decide +kernel
theorem dX5_judge_5 : decode cX5_judge 5 = .ok (.iload_n 1, 1) := by decide +kernel
theorem dX5_judge_6 : decode cX5_judge 6 = .ok (.iconst 3, 1) := by decide +kernel
theorem dX5_judge_7 : decode cX5_judge 7 = .ok (.if_icmp .gt 19, 3) := by decide +kernel
theorem dX5_judge_10 : decode cX5_judge 10 = .ok (.lload_n 2, 1) := by decide +kernel
theorem dX5_judge_11 : decode cX5_judge 11 = .ok (.lconst 0, 1) := by decide +kernel
theorem dX5_judge_12 : decode cX5_judge 12 = .ok (.lcmp, 1) := by decide +kernel
theorem dX5_judge_13 : decode cX5_judge 13 = .ok (.ifCond .lt 13, 3) := by decide +kernel
theorem dX5_judge_16 : decode cX5_judge 16 = .ok (.lload_n 2, 1) := by decide +kernel
theorem dX5_judge_17 : decode cX5_judge 17 = .ok (.getstatic 238, 3) := by decide +kernel
theorem dX5_judge_20 : decode cX5_judge 20 = .ok (.iload_n 1, 1) := by decide +kernel
theorem dX5_judge_21 : decode cX5_judge 21 = .ok (.laload, 1) := by decide +kernel
theorem dX5_judge_22 : decode cX5_judge 22 = .ok (.lcmp, 1) := by decide +kernel
theorem dX5_judge_23 : decode cX5_judge 23 = .ok (.ifCond .lt 6, 3) := by decide +kernel
theorem dX5_judge_26 : decode cX5_judge 26 = .ok (.bipush (-2), 2) := by decide +kernel
theorem dX5_judge_28 : decode cX5_judge 28 = .ok (.ireturn, 1) := by decide +kernel
theorem dX5_judge_29 : decode cX5_judge 29 = .ok (.aload_n 0, 1) := by decide +kernel
theorem dX5_judge_30 : decode cX5_judge 30 = .ok (.getfield 23, 3) := by decide +kernel
theorem dX5_judge_33 : decode cX5_judge 33 = .ok (.aload_n 0, 1) := by decide +kernel
theorem dX5_judge_34 : decode cX5_judge 34 = .ok (.getfield 19, 3) := by decide +kernel
theorem dX5_judge_37 : decode cX5_judge 37 = .ok (.invokevirtual 242, 3) := by decide +kernel
theorem dX5_judge_40 : decode cX5_judge 40 = .ok (.iconst 0, 1) := by decide +kernel
theorem dX5_judge_41 : decode cX5_judge 41 = .ok (.istore 4, 2) := by decide +kernel
theorem dX5_judge_43 : decode cX5_judge 43 = .ok (.iload 4, 2) := by decide +kernel
theorem dX5_judge_45 : decode cX5_judge 45 = .ok (.iload_n 1, 1) := by decide +kernel
theorem dX5_judge_46 : decode cX5_judge 46 = .ok (.if_icmp .ge 40, 3) := by decide +kernel
theorem dX5_judge_49 : decode cX5_judge 49 = .ok (.lload_n 2, 1) := by decide +kernel
theorem dX5_judge_50 : decode cX5_judge 50 = .ok (.getstatic 238, 3) := by decide +kernel
theorem dX5_judge_53 : decode cX5_judge 53 = .ok (.iload_n 1, 1) := by decide +kernel
theorem dX5_judge_54 : decode cX5_judge 54 = .ok (.iconst 1, 1) := by decide +kernel
theorem dX5_judge_55 : decode cX5_judge 55 = .ok (.isub, 1) := by decide +kernel
theorem dX5_judge_56 : decode cX5_judge 56 = .ok (.iload 4, 2) := by decide +kernel
theorem dX5_judge_58 : decode cX5_judge 58 = .ok (.isub, 1) := by decide +kernel
theorem dX5_judge_59 : decode cX5_judge 59 = .ok (.laload, 1) := by decide +kernel
theorem dX5_judge_60 : decode cX5_judge 60 = .ok (.ldiv, 1) := by decide +kernel
theorem dX5_judge_61 : decode cX5_judge 61 = .ok (.ldc2_w 246, 3) := by decide +kernel
theorem dX5_judge_64 : decode cX5_judge 64 = .ok (.lrem, 1) := by decide +kernel
theorem dX5_judge_65 : decode cX5_judge 65 = .ok (.l2i, 1) := by decide +kernel
theorem dX5_judge_66 : decode cX5_judge 66 = .ok (.istore 5, 2) := by decide +kernel
theorem dX5_judge_68 : decode cX5_judge 68 = .ok (.aload_n 0, 1) := by decide +kernel
theorem dX5_judge_69 : decode cX5_judge 69 = .ok (.iload 5, 2) := by decide +kernel
theorem dX5_judge_71 : decode cX5_judge 71 = .ok (.invokevirtual 248, 3) := by decide +kernel
theorem dX5_judge_74 : decode cX5_judge 74 = .ok (.ifCond .ne 6, 3) := by decide +kernel
theorem dX5_judge_77 : decode cX5_judge 77 = .ok (.iload 4, 2) := by decide +kernel
theorem dX5_judge_79 : decode cX5_judge 79 = .ok (.ireturn, 1) := by decide +kernel
theorem dX5_judge_80 : decode cX5_judge 80 = .ok (.iinc 4 1, 3) := by decide +kernel
theorem dX5_judge_83 : decode cX5_judge 83 = .ok (.goto (-40), 3) := by decide +kernel
theorem dX5_judge_86 : decode cX5_judge 86 = .ok (.bipush (-9), 2) := by decide +kernel
theorem dX5_judge_88 : decode cX5_judge 88 = .ok (.ireturn, 1) := by decide +kernel
theorem dX5_share_0 : decode cX5_share 0 = .ok (.aload_n 0, 1) := by decide +kernel
theorem dX5_share_1 : decode cX5_share 1 = .ok (.getfield 19, 3) := by decide +kernel
theorem dX5_share_4 : decode cX5_share 4 = .ok (.iload_n 1, 1) := by decide +kernel
theorem dX5_share_5 : decode cX5_share 5 = .ok (.invokevirtual 251, 3) := by decide +kernel
theorem dX5_share_8 : decode cX5_share 8 = .ok (.ifCond .ne 5, 3) := by decide +kernel
theorem dX5_share_11 : decode cX5_share 11 = .ok (.iconst (-1), 1) := by decide +kernel
theorem dX5_share_12 : decode cX5_share 12 = .ok (.ireturn, 1) := by decide +kernel
theorem dX5_share_13 : decode cX5_share 13 = .ok (.aload_n 0, 1) := by decide +kernel
theorem dX5_share_14 : decode cX5_share 14 = .ok (.getfield 19, 3) := by decide +kernel
theorem dX5_share_17 : decode cX5_share 17 = .ok (.getfield 93, 3) := by decide +kernel
theorem dX5_share_20 : decode cX5_share 20 = .ok (.istore_n 3, 1) := by decide +kernel
theorem dX5_share_21 : decode cX5_share 21 = .ok (.iconst 0, 1) := by decide +kernel
theorem dX5_share_22 : decode cX5_share 22 = .ok (.istore 4, 2) := by decide +kernel
theorem dX5_share_24 : decode cX5_share 24 = .ok (.iload 4, 2) := by decide +kernel
theorem dX5_share_26 : decode cX5_share 26 = .ok (.iconst 1, 1) := by decide +kernel
theorem dX5_share_27 : decode cX5_share 27 = .ok (.iload_n 3, 1) := by decide +kernel
theorem dX5_share_28 : decode cX5_share 28 = .ok (.ishl, 1) := by decide +kernel
theorem dX5_share_29 : decode cX5_share 29 = .ok (.if_icmp .ge 32, 3) := by decide +kernel
theorem dX5_share_32 : decode cX5_share 32 = .ok (.iload 4, 2) := by decide +kernel
theorem dX5_share_34 : decode cX5_share 34 = .ok (.aload_n 0, 1) := by decide +kernel
theorem dX5_share_35 : decode cX5_share 35 = .ok (.getfield 53, 3) := by decide +kernel
theorem dX5_share_38 : decode cX5_share 38 = .ok (.arraylength, 1) := by decide +kernel
theorem dX5_share_39 : decode cX5_share 39 = .ok (.if_icmp .ge 22, 3) := by decide +kernel
theorem dX5_share_42 : decode cX5_share 42 = .ok (.aload_n 0, 1) := by decide +kernel
theorem dX5_share_43 : decode cX5_share 43 = .ok (.getfield 53, 3) := by decide +kernel
theorem dX5_share_46 : decode cX5_share 46 = .ok (.iload 4, 2) := by decide +kernel
theorem dX5_share_48 : decode cX5_share 48 = .ok (.aload_n 0, 1) := by decide +kernel
theorem dX5_share_49 : decode cX5_share 49 = .ok (.iload 4, 2) := by decide +kernel
theorem dX5_share_51 : decode cX5_share 51 = .ok (.invokevirtual 254, 3) := by decide +kernel
theorem dX5_share_54 : decode cX5_share 54 = .ok (.iastore, 1) := by decide +kernel
theorem dX5_share_55 : decode cX5_share 55 = .ok (.iinc 4 1, 3) := by decide +kernel
theorem dX5_share_58 : decode cX5_share 58 = .ok (.goto (-34), 3) := by decide +kernel
theorem dX5_share_61 : decode cX5_share 61 = .ok (.iconst 0, 1) := by decide +kernel
theorem dX5_share_62 : decode cX5_share 62 = .ok (.istore 4, 2) := by decide +kernel
theorem dX5_share_64 : decode cX5_share 64 = .ok (.iconst 0, 1) := by decide +kernel
theorem dX5_share_65 : decode cX5_share 65 = .ok (.istore 5, 2) := by decide +kernel
theorem dX5_share_67 : decode cX5_share 67 = .ok (.iload 5, 2) := by decide +kernel
theorem dX5_share_69 : decode cX5_share 69 = .ok (.iconst 1, 1) := by decide +kernel
theorem dX5_share_70 : decode cX5_share 70 = .ok (.iload_n 3, 1) := by decide +kernel
theorem dX5_share_71 : decode cX5_share 71 = .ok (.ishl, 1) := by decide +kernel
theorem dX5_share_72 : decode cX5_share 72 = .ok (.if_icmp .ge 71, 3) := by decide +kernel
theorem dX5_share_75 : decode cX5_share 75 = .ok (.iload 5, 2) := by decide +kernel
theorem dX5_share_77 : decode cX5_share 77 = .ok (.aload_n 0, 1) := by decide +kernel
theorem dX5_share_78 : decode cX5_share 78 = .ok (.getfield 53, 3) := by decide +kernel
theorem dX5_share_81 : decode cX5_share 81 = .ok (.arraylength, 1) := by decide +kernel
theorem dX5_share_82 : decode cX5_share 82 = .ok (.if_icmp .ge 61, 3) := by decide +kernel
theorem dX5_share_85 : decode cX5_share 85 = .ok (.iload 5, 2) := by decide +kernel
theorem dX5_share_87 : decode cX5_share 87 = .ok (.iconst 1, 1) := by decide +kernel
theorem dX5_share_88 : decode cX5_share 88 = .ok (.iload_n 1, 1) := by decide +kernel
theorem dX5_share_89 : decode cX5_share 89 = .ok (.ishl, 1) := by decide +kernel
theorem dX5_share_90 : decode cX5_share 90 = .ok (.ior, 1) := by decide +kernel
theorem dX5_share_91 : decode cX5_share 91 = .ok (.istore 6, 2) := by decide +kernel
theorem dX5_share_93 : decode cX5_share 93 = .ok (.iload 6, 2) := by decide +kernel
theorem dX5_share_95 : decode cX5_share 95 = .ok (.iload 5, 2) := by decide +kernel
theorem dX5_share_97 : decode cX5_share 97 = .ok (.if_icmp .eq 40, 3) := by decide +kernel
theorem dX5_share_100 : decode cX5_share 100 = .ok (.iload 6, 2) := by decide +kernel
theorem dX5_share_102 : decode cX5_share 102 = .ok (.aload_n 0, 1) := by decide +kernel
theorem dX5_share_103 : decode cX5_share 103 = .ok (.getfield 53, 3) := by decide +kernel
theorem dX5_share_106 : decode cX5_share 106 = .ok (.arraylength, 1) := by decide +kernel
theorem dX5_share_107 : decode cX5_share 107 = .ok (.if_icmp .ge 30, 3) := by decide +kernel
theorem dX5_share_110 : decode cX5_share 110 = .ok (.iload 4, 2) := by decide +kernel
theorem dX5_share_112 : decode cX5_share 112 = .ok (.iload 5, 2) := by decide +kernel
theorem dX5_share_114 : decode cX5_share 114 = .ok (.iload_n 3, 1) := by decide +kernel
theorem dX5_share_115 : decode cX5_share 115 = .ok (.invokestatic 257, 3) := by decide +kernel
theorem dX5_share_118 : decode cX5_share 118 = .ok (.aload_n 0, 1) := by decide +kernel
theorem dX5_share_119 : decode cX5_share 119 = .ok (.getfield 53, 3) := by decide +kernel
theorem dX5_share_122 : decode cX5_share 122 = .ok (.iload 6, 2) := by decide +kernel
theorem dX5_share_124 : decode cX5_share 124 = .ok (.iaload, 1) := by decide +kernel
theorem dX5_share_125 : decode cX5_share 125 = .ok (.aload_n 0, 1) := by decide +kernel
theorem dX5_share_126 : decode cX5_share 126 = .ok (.getfield 53, 3) := by decide +kernel
theorem dX5_share_129 : decode cX5_share 129 = .ok (.iload 5, 2) := by decide +kernel
theorem dX5_share_131 : decode cX5_share 131 = .ok (.iaload, 1) := by decide +kernel
theorem dX5_share_132 : decode cX5_share 132 = .ok (.isub, 1) := by decide +kernel
theorem dX5_share_133 : decode cX5_share 133 = .ok (.imul, 1) := by decide +kernel
theorem dX5_share_134 : decode cX5_share 134 = .ok (.iadd, 1) := by decide +kernel
theorem dX5_share_135 : decode cX5_share 135 = .ok (.istore 4, 2) := by decide +kernel
theorem dX5_share_137 : decode cX5_share 137 = .ok (.iinc 5 1, 3) := by decide +kernel
theorem dX5_share_140 : decode cX5_share 140 = .ok (.goto (-73), 3) := by decide +kernel
theorem dX5_share_143 : decode cX5_share 143 = .ok (.iload 4, 2) := by decide +kernel
theorem dX5_share_145 : decode cX5_share 145 = .ok (.iload_n 3, 1) := by decide +kernel
theorem dX5_share_146 : decode cX5_share 146 = .ok (.invokestatic 260, 3) := by decide +kernel
theorem dX5_share_149 : decode cX5_share 149 = .ok (.iload_n 2, 1) := by decide +kernel
theorem dX5_share_150 : decode cX5_share 150 = .ok (.invokestatic 156, 3) := by decide +kernel
theorem dX5_share_153 : decode cX5_share 153 = .ok (.ireturn, 1) := by decide +kernel
theorem dX5_see_0 : decode cX5_see 0 = .ok (.aload_n 0, 1) := by decide +kernel
theorem dX5_see_1 : decode cX5_see 1 = .ok (.getfield 19, 3) := by decide +kernel
theorem dX5_see_4 : decode cX5_see 4 = .ok (.iload_n 1, 1) := by decide +kernel
theorem dX5_see_5 : decode cX5_see 5 = .ok (.invokevirtual 131, 3) := by decide +kernel
theorem dX5_see_8 : decode cX5_see 8 = .ok (.ifCond .ne 5, 3) := by decide +kernel
theorem dX5_see_11 : decode cX5_see 11 = .ok (.iconst (-1), 1) := by decide +kernel
theorem dX5_see_12 : decode cX5_see 12 = .ok (.ireturn, 1) := by decide +kernel
theorem dX5_see_13 : decode cX5_see 13 = .ok (.iload_n 2, 1) := by decide +kernel
theorem dX5_see_14 : decode cX5_see 14 = .ok (.ifCond .eq 11, 3) := by decide +kernel
theorem dX5_see_17 : decode cX5_see 17 = .ok (.iload_n 2, 1) := by decide +kernel
theorem dX5_see_18 : decode cX5_see 18 = .ok (.iconst 1, 1) := by decide +kernel
theorem dX5_see_19 : decode cX5_see 19 = .ok (.if_icmp .eq 6, 3) := by decide +kernel
theorem dX5_see_22 : decode cX5_see 22 = .ok (.bipush (-2), 2) := by decide +kernel
theorem dX5_see_24 : decode cX5_see 24 = .ok (.ireturn, 1) := by decide +kernel
theorem dX5_see_25 : decode cX5_see 25 = .ok (.aload_n 0, 1) := by decide +kernel
theorem dX5_see_26 : decode cX5_see 26 = .ok (.getfield 49, 3) := by decide +kernel
theorem dX5_see_29 : decode cX5_see 29 = .ok (.invokevirtual 263, 3) := by decide +kernel
theorem dX5_see_32 : decode cX5_see 32 = .ok (.ifCond .eq 6, 3) := by decide +kernel
theorem dX5_see_35 : decode cX5_see 35 = .ok (.bipush (-4), 2) := by decide +kernel
theorem dX5_see_37 : decode cX5_see 37 = .ok (.ireturn, 1) := by decide +kernel
theorem dX5_see_38 : decode cX5_see 38 = .ok (.aload_n 0, 1) := by decide +kernel
theorem dX5_see_39 : decode cX5_see 39 = .ok (.getfield 49, 3) := by decide +kernel
theorem dX5_see_42 : decode cX5_see 42 = .ok (.iload_n 1, 1) := by decide +kernel
theorem dX5_see_43 : decode cX5_see 43 = .ok (.iload_n 2, 1) := by decide +kernel
theorem dX5_see_44 : decode cX5_see 44 = .ok (.invokevirtual 264, 3) := by decide +kernel
theorem dX5_see_47 : decode cX5_see 47 = .ok (.ireturn, 1) := by decide +kernel
theorem dX5_unsee_0 : decode cX5_unsee 0 = .ok (.aload_n 0, 1) := by decide +kernel
theorem dX5_unsee_1 : decode cX5_unsee 1 = .ok (.getfield 49, 3) := by decide +kernel
theorem dX5_unsee_4 : decode cX5_unsee 4 = .ok (.invokevirtual 266, 3) := by decide +kernel
theorem dX5_unsee_7 : decode cX5_unsee 7 = .ok (.ireturn, 1) := by decide +kernel
theorem dX5_ways_0 : decode cX5_ways 0 = .ok (.iload_n 1, 1) := by decide +kernel
theorem dX5_ways_1 : decode cX5_ways 1 = .ok (.ifCond .eq 11, 3) := by decide +kernel
theorem dX5_ways_4 : decode cX5_ways 4 = .ok (.iload_n 1, 1) := by decide +kernel
theorem dX5_ways_5 : decode cX5_ways 5 = .ok (.iconst 1, 1) := by decide +kernel
theorem dX5_ways_6 : decode cX5_ways 6 = .ok (.if_icmp .eq 6, 3) := by decide +kernel
theorem dX5_ways_9 : decode cX5_ways 9 = .ok (.bipush (-2), 2) := by decide +kernel
theorem dX5_ways_11 : decode cX5_ways 11 = .ok (.ireturn, 1) := by decide +kernel
theorem dX5_ways_12 : decode cX5_ways 12 = .ok (.bipush (-9), 2) := by decide +kernel
theorem dX5_ways_14 : decode cX5_ways 14 = .ok (.istore_n 2, 1) := by decide +kernel
theorem dX5_ways_15 : decode cX5_ways 15 = .ok (.iconst 0, 1) := by decide +kernel
theorem dX5_ways_16 : decode cX5_ways 16 = .ok (.istore_n 3, 1) := by decide +kernel
theorem dX5_ways_17 : decode cX5_ways 17 = .ok (.iconst 0, 1) := by decide +kernel
theorem dX5_ways_18 : decode cX5_ways 18 = .ok (.istore 4, 2) := by decide +kernel
theorem dX5_ways_20 : decode cX5_ways 20 = .ok (.iload 4, 2) := by decide +kernel
theorem dX5_ways_22 : decode cX5_ways 22 = .ok (.iconst 3, 1) := by decide +kernel
theorem dX5_ways_23 : decode cX5_ways 23 = .ok (.if_icmp .ge 77, 3) := by decide +kernel
theorem dX5_ways_26 : decode cX5_ways 26 = .ok (.aload_n 0, 1) := by decide +kernel
theorem dX5_ways_27 : decode cX5_ways 27 = .ok (.getfield 35, 3) := by decide +kernel
theorem dX5_ways_30 : decode cX5_ways 30 = .ok (.aload_n 0, 1) := by decide +kernel
theorem dX5_ways_31 : decode cX5_ways 31 = .ok (.getfield 19, 3) := by decide +kernel
theorem dX5_ways_34 : decode cX5_ways 34 = .ok (.iload 4, 2) := by decide +kernel
theorem dX5_ways_36 : decode cX5_ways 36 = .ok (.invokevirtual 170, 3) := by decide +kernel
theorem dX5_ways_39 : decode cX5_ways 39 = .ok (.iconst 0, 1) := by decide +kernel
theorem dX5_ways_40 : decode cX5_ways 40 = .ok (.istore 5, 2) := by decide +kernel
theorem dX5_ways_42 : decode cX5_ways 42 = .ok (.iload 5, 2) := by decide +kernel
theorem dX5_ways_44 : decode cX5_ways 44 = .ok (.bipush 10, 2) := by decide +kernel
theorem dX5_ways_46 : decode cX5_ways 46 = .ok (.if_icmp .ge 48, 3) := by decide +kernel
theorem dX5_ways_49 : decode cX5_ways 49 = .ok (.aload_n 0, 1) := by decide +kernel
theorem dX5_ways_50 : decode cX5_ways 50 = .ok (.getfield 49, 3) := by decide +kernel
theorem dX5_ways_53 : decode cX5_ways 53 = .ok (.aload_n 0, 1) := by decide +kernel
theorem dX5_ways_54 : decode cX5_ways 54 = .ok (.getfield 35, 3) := by decide +kernel
theorem dX5_ways_57 : decode cX5_ways 57 = .ok (.iload 5, 2) := by decide +kernel
theorem dX5_ways_59 : decode cX5_ways 59 = .ok (.iconst 2, 1) := by decide +kernel
theorem dX5_ways_60 : decode cX5_ways 60 = .ok (.invokevirtual 174, 3) := by decide +kernel
theorem dX5_ways_63 : decode cX5_ways 63 = .ok (.invokevirtual 267, 3) := by decide +kernel
theorem dX5_ways_66 : decode cX5_ways 66 = .ok (.ifCond .eq 22, 3) := by decide +kernel
theorem dX5_ways_69 : decode cX5_ways 69 = .ok (.iload_n 3, 1) := by decide +kernel
theorem dX5_ways_70 : decode cX5_ways 70 = .ok (.ifCond .ne 13, 3) := by decide +kernel
theorem dX5_ways_73 : decode cX5_ways 73 = .ok (.iload 4, 2) := by decide +kernel
theorem dX5_ways_75 : decode cX5_ways 75 = .ok (.iload 5, 2) := by decide +kernel
theorem dX5_ways_77 : decode cX5_ways 77 = .ok (.invokestatic 270, 3) := by decide +kernel
theorem dX5_ways_80 : decode cX5_ways 80 = .ok (.goto 4, 3) := by decide +kernel
theorem dX5_ways_83 : decode cX5_ways 83 = .ok (.iload_n 2, 1) := by decide +kernel
theorem dX5_ways_84 : decode cX5_ways 84 = .ok (.istore_n 2, 1) := by decide +kernel
theorem dX5_ways_85 : decode cX5_ways 85 = .ok (.iinc 3 1, 3) := by decide +kernel
theorem dX5_ways_88 : decode cX5_ways 88 = .ok (.iinc 5 1, 3) := by decide +kernel
theorem dX5_ways_91 : decode cX5_ways 91 = .ok (.goto (-49), 3) := by decide +kernel
theorem dX5_ways_94 : decode cX5_ways 94 = .ok (.iinc 4 1, 3) := by decide +kernel
theorem dX5_ways_97 : decode cX5_ways 97 = .ok (.goto (-77), 3) := by decide +kernel
theorem dX5_ways_100 : decode cX5_ways 100 = .ok (.iload_n 1, 1) := by decide +kernel
theorem dX5_ways_101 : decode cX5_ways 101 = .ok (.ifCond .ne 7, 3) := by decide +kernel
theorem dX5_ways_104 : decode cX5_ways 104 = .ok (.iload_n 3, 1) := by decide +kernel
theorem dX5_ways_105 : decode cX5_ways 105 = .ok (.goto 4, 3) := by decide +kernel
theorem dX5_ways_108 : decode cX5_ways 108 = .ok (.iload_n 2, 1) := by decide +kernel
theorem dX5_ways_109 : decode cX5_ways 109 = .ok (.ireturn, 1) := by decide +kernel
theorem dX5_bleached_0 : decode cX5_bleached 0 = .ok (.aload_n 0, 1) := by decide +kernel
theorem dX5_bleached_1 : decode cX5_bleached 1 = .ok (.getfield 19, 3) := by decide +kernel
theorem dX5_bleached_4 : decode cX5_bleached 4 = .ok (.iload_n 1, 1) := by decide +kernel
theorem dX5_bleached_5 : decode cX5_bleached 5 = .ok (.invokevirtual 251, 3) := by decide +kernel
theorem dX5_bleached_8 : decode cX5_bleached 8 = .ok (.ifCond .ne 5, 3) := by decide +kernel
theorem dX5_bleached_11 : decode cX5_bleached 11 = .ok (.iconst (-1), 1) := by decide +kernel
theorem dX5_bleached_12 : decode cX5_bleached 12 = .ok (.ireturn, 1) := by decide +kernel
theorem dX5_bleached_13 : decode cX5_bleached 13 = .ok (.iload_n 2, 1) := by decide +kernel
theorem dX5_bleached_14 : decode cX5_bleached 14 = .ok (.ifCond .lt 19, 3) := by decide +kernel
theorem dX5_bleached_17 : decode cX5_bleached 17 = .ok (.iload_n 2, 1) := by decide +kernel
theorem dX5_bleached_18 : decode cX5_bleached 18 = .ok (.bipush 25, 2) := by decide +kernel
theorem dX5_bleached_20 : decode cX5_bleached 20 = .ok (.if_icmp .gt 13, 3) := by decide +kernel
theorem dX5_bleached_23 : decode cX5_bleached 23 = .ok (.iload_n 3, 1) := by decide +kernel
theorem dX5_bleached_24 : decode cX5_bleached 24 = .ok (.ifCond .lt 9, 3) := by decide +kernel
theorem dX5_bleached_27 : decode cX5_bleached 27 = .ok (.iload_n 3, 1) := by decide +kernel
theorem dX5_bleached_28 : decode cX5_bleached 28 = .ok (.bipush 10, 2) := by decide +kernel
theorem dX5_bleached_30 : decode cX5_bleached 30 = .ok (.if_icmp .le 6, 3) := by decide +kernel
theorem dX5_bleached_33 : decode cX5_bleached 33 = .ok (.bipush (-2), 2) := by decide +kernel
theorem dX5_bleached_35 : decode cX5_bleached 35 = .ok (.ireturn, 1) := by decide +kernel
theorem dX5_bleached_36 : decode cX5_bleached 36 = .ok (.aload_n 0, 1) := by decide +kernel
theorem dX5_bleached_37 : decode cX5_bleached 37 = .ok (.getfield 19, 3) := by decide +kernel
theorem dX5_bleached_40 : decode cX5_bleached 40 = .ok (.getfield 90, 3) := by decide +kernel
theorem dX5_bleached_43 : decode cX5_bleached 43 = .ok (.istore 5, 2) := by decide +kernel
theorem dX5_bleached_45 : decode cX5_bleached 45 = .ok (.iconst 0, 1) := by decide +kernel
theorem dX5_bleached_46 : decode cX5_bleached 46 = .ok (.istore 6, 2) := by decide +kernel
theorem dX5_bleached_48 : decode cX5_bleached 48 = .ok (.iconst 0, 1) := by decide +kernel
theorem dX5_bleached_49 : decode cX5_bleached 49 = .ok (.istore 7, 2) := by decide +kernel
theorem dX5_bleached_51 : decode cX5_bleached 51 = .ok (.iload 7, 2) := by decide +kernel
theorem dX5_bleached_53 : decode cX5_bleached 53 = .ok (.iconst 1, 1) := by decide +kernel
theorem dX5_bleached_54 : decode cX5_bleached 54 = .ok (.iload 5, 2) := by decide +kernel
theorem dX5_bleached_56 : decode cX5_bleached 56 = .ok (.ishl, 1) := by decide +kernel
theorem dX5_bleached_57 : decode cX5_bleached 57 = .ok (.if_icmp .ge 51, 3) := by decide +kernel
theorem dX5_bleached_60 : decode cX5_bleached 60 = .ok (.aload_n 0, 1) := by decide +kernel
theorem dX5_bleached_61 : decode cX5_bleached 61 = .ok (.iload_n 1, 1) := by decide +kernel
theorem dX5_bleached_62 : decode cX5_bleached 62 = .ok (.iload 7, 2) := by decide +kernel
theorem dX5_bleached_64 : decode cX5_bleached 64 = .ok (.invokevirtual 273, 3) := by decide +kernel
theorem dX5_bleached_67 : decode cX5_bleached 67 = .ok (.iload_n 2, 1) := by decide +kernel
theorem dX5_bleached_68 : decode cX5_bleached 68 = .ok (.if_icmp .lt 34, 3) := by decide +kernel
theorem dX5_bleached_71 : decode cX5_bleached 71 = .ok (.iload 7, 2) := by decide +kernel
theorem dX5_bleached_73 : decode cX5_bleached 73 = .ok (.invokestatic 180, 3) := by decide +kernel
theorem dX5_bleached_76 : decode cX5_bleached 76 = .ok (.istore 8, 2) := by decide +kernel
theorem dX5_bleached_78 : decode cX5_bleached 78 = .ok (.iload 6, 2) := by decide +kernel
theorem dX5_bleached_80 : decode cX5_bleached 80 = .ok (.iload_n 3, 1) := by decide +kernel
theorem dX5_bleached_81 : decode cX5_bleached 81 = .ok (.iload 8, 2) := by decide +kernel
theorem dX5_bleached_83 : decode cX5_bleached 83 = .ok (.invokestatic 276, 3) := by decide +kernel
theorem dX5_bleached_86 : decode cX5_bleached 86 = .ok (.bipush 10, 2) := by decide +kernel
theorem dX5_bleached_88 : decode cX5_bleached 88 = .ok (.iload_n 3, 1) := by decide +kernel
theorem dX5_bleached_89 : decode cX5_bleached 89 = .ok (.isub, 1) := by decide +kernel
theorem dX5_bleached_90 : decode cX5_bleached 90 = .ok (.iload 5, 2) := by decide +kernel
theorem dX5_bleached_92 : decode cX5_bleached 92 = .ok (.iload 8, 2) := by decide +kernel
theorem dX5_bleached_94 : decode cX5_bleached 94 = .ok (.isub, 1) := by decide +kernel
theorem dX5_bleached_95 : decode cX5_bleached 95 = .ok (.invokestatic 276, 3) := by decide +kernel
theorem dX5_bleached_98 : decode cX5_bleached 98 = .ok (.imul, 1) := by decide +kernel
theorem dX5_bleached_99 : decode cX5_bleached 99 = .ok (.iadd, 1) := by decide +kernel
theorem dX5_bleached_100 : decode cX5_bleached 100 = .ok (.istore 6, 2) := by decide +kernel
theorem dX5_bleached_102 : decode cX5_bleached 102 = .ok (.iinc 7 1, 3) := by decide +kernel
theorem dX5_bleached_105 : decode cX5_bleached 105 = .ok (.goto (-54), 3) := by decide +kernel
theorem dX5_bleached_108 : decode cX5_bleached 108 = .ok (.iload 6, 2) := by decide +kernel
theorem dX5_bleached_110 : decode cX5_bleached 110 = .ok (.bipush 10, 2) := by decide +kernel
theorem dX5_bleached_112 : decode cX5_bleached 112 = .ok (.iload 5, 2) := by decide +kernel
theorem dX5_bleached_114 : decode cX5_bleached 114 = .ok (.invokestatic 276, 3) := by decide +kernel
theorem dX5_bleached_117 : decode cX5_bleached 117 = .ok (.iload 4, 2) := by decide +kernel
theorem dX5_bleached_119 : decode cX5_bleached 119 = .ok (.invokestatic 156, 3) := by decide +kernel
theorem dX5_bleached_122 : decode cX5_bleached 122 = .ok (.ireturn, 1) := by decide +kernel
theorem dX5_seed_0 : decode cX5_seed 0 = .ok (.aload_n 0, 1) := by decide +kernel
theorem dX5_seed_1 : decode cX5_seed 1 = .ok (.getfield 61, 3) := by decide +kernel
theorem dX5_seed_4 : decode cX5_seed 4 = .ok (.lstore_n 3, 1) := by decide +kernel
theorem dX5_seed_5 : decode cX5_seed 5 = .ok (.aload_n 0, 1) := by decide +kernel
theorem dX5_seed_6 : decode cX5_seed 6 = .ok (.lload_n 1, 1) := by decide +kernel
theorem dX5_seed_7 : decode cX5_seed 7 = .ok (.putfield 61, 3) := by decide +kernel
theorem dX5_seed_10 : decode cX5_seed 10 = .ok (.lload_n 3, 1) := by decide +kernel
theorem dX5_seed_11 : decode cX5_seed 11 = .ok (.lreturn, 1) := by decide +kernel
theorem dX5_drawn_0 : decode cX5_drawn 0 = .ok (.iload_n 1, 1) := by decide +kernel
theorem dX5_drawn_1 : decode cX5_drawn 1 = .ok (.iconst 1, 1) := by decide +kernel
theorem dX5_drawn_2 : decode cX5_drawn 2 = .ok (.if_icmp .lt 9, 3) := by decide +kernel
theorem dX5_drawn_5 : decode cX5_drawn 5 = .ok (.iload_n 1, 1) := by decide +kernel
theorem dX5_drawn_6 : decode cX5_drawn 6 = .ok (.bipush 20, 2) := by decide +kernel
theorem dX5_drawn_8 : decode cX5_drawn 8 = .ok (.if_icmp .le 6, 3) := by decide +kernel
theorem dX5_drawn_11 : decode cX5_drawn 11 = .ok (.bipush (-2), 2) := by decide +kernel
theorem dX5_drawn_13 : decode cX5_drawn 13 = .ok (.ireturn, 1) := by decide +kernel
theorem dX5_drawn_14 : decode cX5_drawn 14 = .ok (.aload_n 0, 1) := by decide +kernel
theorem dX5_drawn_15 : decode cX5_drawn 15 = .ok (.getfield 23, 3) := by decide +kernel
theorem dX5_drawn_18 : decode cX5_drawn 18 = .ok (.aload_n 0, 1) := by decide +kernel
theorem dX5_drawn_19 : decode cX5_drawn 19 = .ok (.getfield 19, 3) := by decide +kernel
theorem dX5_drawn_22 : decode cX5_drawn 22 = .ok (.invokevirtual 242, 3) := by decide +kernel
theorem dX5_drawn_25 : decode cX5_drawn 25 = .ok (.iconst 0, 1) := by decide +kernel
theorem dX5_drawn_26 : decode cX5_drawn 26 = .ok (.istore_n 2, 1) := by decide +kernel
theorem dX5_drawn_27 : decode cX5_drawn 27 = .ok (.iconst 0, 1) := by decide +kernel
theorem dX5_drawn_28 : decode cX5_drawn 28 = .ok (.istore_n 3, 1) := by decide +kernel
theorem dX5_drawn_29 : decode cX5_drawn 29 = .ok (.iload_n 3, 1) := by decide +kernel
theorem dX5_drawn_30 : decode cX5_drawn 30 = .ok (.iload_n 1, 1) := by decide +kernel
theorem dX5_drawn_31 : decode cX5_drawn 31 = .ok (.if_icmp .ge 78, 3) := by decide +kernel
theorem dX5_drawn_34 : decode cX5_drawn 34 = .ok (.aload_n 0, 1) := by decide +kernel
theorem dX5_drawn_35 : decode cX5_drawn 35 = .ok (.aload_n 0, 1) := by decide +kernel
theorem dX5_drawn_36 : decode cX5_drawn 36 = .ok (.getfield 61, 3) := by decide +kernel
theorem dX5_drawn_39 : decode cX5_drawn 39 = .ok (.ldc2_w 279, 3) := by decide +kernel
theorem dX5_drawn_42 : decode cX5_drawn 42 = .ok (.lmul, 1) := by decide +kernel
theorem dX5_drawn_43 : decode cX5_drawn 43 = .ok (.ldc2_w 281, 3) := by decide +kernel
theorem dX5_drawn_46 : decode cX5_drawn 46 = .ok (.ladd, 1) := by decide +kernel
theorem dX5_drawn_47 : decode cX5_drawn 47 = .ok (.putfield 61, 3) := by decide +kernel
theorem dX5_drawn_50 : decode cX5_drawn 50 = .ok (.aload_n 0, 1) := by decide +kernel
theorem dX5_drawn_51 : decode cX5_drawn 51 = .ok (.getfield 61, 3) := by decide +kernel
theorem dX5_drawn_54 : decode cX5_drawn 54 = .ok (.bipush 33, 2) := by decide +kernel
theorem dX5_drawn_56 : decode cX5_drawn 56 = .ok (.lushr, 1) := by decide +kernel
theorem dX5_drawn_57 : decode cX5_drawn 57 = .ok (.l2i, 1) := by decide +kernel
theorem dX5_drawn_58 : decode cX5_drawn 58 = .ok (.istore 4, 2) := by decide +kernel
theorem dX5_drawn_60 : decode cX5_drawn 60 = .ok (.aload_n 0, 1) := by decide +kernel
theorem dX5_drawn_61 : decode cX5_drawn 61 = .ok (.getfield 23, 3) := by decide +kernel
theorem dX5_drawn_64 : decode cX5_drawn 64 = .ok (.iconst 0, 1) := by decide +kernel
theorem dX5_drawn_65 : decode cX5_drawn 65 = .ok (.iload 4, 2) := by decide +kernel
theorem dX5_drawn_67 : decode cX5_drawn 67 = .ok (.aload_n 0, 1) := by decide +kernel
theorem dX5_drawn_68 : decode cX5_drawn 68 = .ok (.getfield 23, 3) := by decide +kernel
theorem dX5_drawn_71 : decode cX5_drawn 71 = .ok (.invokevirtual 87, 3) := by decide +kernel
theorem dX5_drawn_74 : decode cX5_drawn 74 = .ok (.invokestatic 283, 3) := by decide +kernel
theorem dX5_drawn_77 : decode cX5_drawn 77 = .ok (.iload 4, 2) := by decide +kernel
theorem dX5_drawn_79 : decode cX5_drawn 79 = .ok (.bipush 32, 2) := by decide +kernel
theorem dX5_drawn_81 : decode cX5_drawn 81 = .ok (.idiv, 1) := by decide +kernel
theorem dX5_drawn_82 : decode cX5_drawn 82 = .ok (.bipush 10, 2) := by decide +kernel
theorem dX5_drawn_84 : decode cX5_drawn 84 = .ok (.irem, 1) := by decide +kernel
theorem dX5_drawn_85 : decode cX5_drawn 85 = .ok (.invokevirtual 189, 3) := by decide +kernel
theorem dX5_drawn_88 : decode cX5_drawn 88 = .ok (.iload_n 2, 1) := by decide +kernel
theorem dX5_drawn_89 : decode cX5_drawn 89 = .ok (.aload_n 0, 1) := by decide +kernel
theorem dX5_drawn_90 : decode cX5_drawn 90 = .ok (.getfield 35, 3) := by decide +kernel
theorem dX5_drawn_93 : decode cX5_drawn 93 = .ok (.aload_n 0, 1) := by decide +kernel
theorem dX5_drawn_94 : decode cX5_drawn 94 = .ok (.getfield 23, 3) := by decide +kernel
theorem dX5_drawn_97 : decode cX5_drawn 97 = .ok (.iconst 2, 1) := by decide +kernel
theorem dX5_drawn_98 : decode cX5_drawn 98 = .ok (.invokevirtual 96, 3) := by decide +kernel
theorem dX5_drawn_101 : decode cX5_drawn 101 = .ok (.iadd, 1) := by decide +kernel
theorem dX5_drawn_102 : decode cX5_drawn 102 = .ok (.istore_n 2, 1) := by decide +kernel
theorem dX5_drawn_103 : decode cX5_drawn 103 = .ok (.iinc 3 1, 3) := by decide +kernel
theorem dX5_drawn_106 : decode cX5_drawn 106 = .ok (.goto (-77), 3) := by decide +kernel
theorem dX5_drawn_109 : decode cX5_drawn 109 = .ok (.iload_n 2, 1) := by decide +kernel
theorem dX5_drawn_110 : decode cX5_drawn 110 = .ok (.ireturn, 1) := by decide +kernel
theorem dX5_keep_0 : decode cX5_keep 0 = .ok (.iload_n 1, 1) := by decide +kernel
theorem dX5_keep_1 : decode cX5_keep 1 = .ok (.invokestatic 286, 3) := by decide +kernel
theorem dX5_keep_4 : decode cX5_keep 4 = .ok (.ifCond .ne 5, 3) := by decide +kernel
theorem dX5_keep_7 : decode cX5_keep 7 = .ok (.iconst (-1), 1) := by decide +kernel
theorem dX5_keep_8 : decode cX5_keep 8 = .ok (.ireturn, 1) := by decide +kernel
theorem dX5_keep_9 : decode cX5_keep 9 = .ok (.aload_n 0, 1) := by decide +kernel
theorem dX5_keep_10 : decode cX5_keep 10 = .ok (.iload_n 1, 1) := by decide +kernel
theorem dX5_keep_11 : decode cX5_keep 11 = .ok (.invokevirtual 289, 3) := by decide +kernel
theorem dX5_keep_14 : decode cX5_keep 14 = .ok (.aload_n 0, 1) := by decide +kernel
theorem dX5_keep_15 : decode cX5_keep 15 = .ok (.getfield 19, 3) := by decide +kernel
theorem dX5_keep_18 : decode cX5_keep 18 = .ok (.invokevirtual 242, 3) := by decide +kernel
theorem dX5_keep_21 : decode cX5_keep 21 = .ok (.aload_n 0, 1) := by decide +kernel
theorem dX5_keep_22 : decode cX5_keep 22 = .ok (.dup, 1) := by decide +kernel
theorem dX5_keep_23 : decode cX5_keep 23 = .ok (.getfield 57, 3) := by decide +kernel
theorem dX5_keep_26 : decode cX5_keep 26 = .ok (.iconst 1, 1) := by decide +kernel
theorem dX5_keep_27 : decode cX5_keep 27 = .ok (.iload_n 1, 1) := by decide +kernel
theorem dX5_keep_28 : decode cX5_keep 28 = .ok (.ishl, 1) := by decide +kernel
theorem dX5_keep_29 : decode cX5_keep 29 = .ok (.ior, 1) := by decide +kernel
theorem dX5_keep_30 : decode cX5_keep 30 = .ok (.putfield 57, 3) := by decide +kernel
theorem dX5_keep_33 : decode cX5_keep 33 = .ok (.aload_n 0, 1) := by decide +kernel
theorem dX5_keep_34 : decode cX5_keep 34 = .ok (.getfield 35, 3) := by decide +kernel
theorem dX5_keep_37 : decode cX5_keep 37 = .ok (.aload_n 0, 1) := by decide +kernel
theorem dX5_keep_38 : decode cX5_keep 38 = .ok (.getfield 19, 3) := by decide +kernel
theorem dX5_keep_41 : decode cX5_keep 41 = .ok (.iconst 2, 1) := by decide +kernel
theorem dX5_keep_42 : decode cX5_keep 42 = .ok (.invokevirtual 96, 3) := by decide +kernel
theorem dX5_keep_45 : decode cX5_keep 45 = .ok (.ireturn, 1) := by decide +kernel
theorem dX5_again_0 : decode cX5_again 0 = .ok (.iload_n 1, 1) := by decide +kernel
theorem dX5_again_1 : decode cX5_again 1 = .ok (.invokestatic 286, 3) := by decide +kernel
theorem dX5_again_4 : decode cX5_again 4 = .ok (.ifCond .ne 5, 3) := by decide +kernel
theorem dX5_again_7 : decode cX5_again 7 = .ok (.iconst (-1), 1) := by decide +kernel
theorem dX5_again_8 : decode cX5_again 8 = .ok (.ireturn, 1) := by decide +kernel
theorem dX5_again_9 : decode cX5_again 9 = .ok (.aload_n 0, 1) := by decide +kernel
theorem dX5_again_10 : decode cX5_again 10 = .ok (.getfield 57, 3) := by decide +kernel
theorem dX5_again_13 : decode cX5_again 13 = .ok (.iconst 1, 1) := by decide +kernel
theorem dX5_again_14 : decode cX5_again 14 = .ok (.iload_n 1, 1) := by decide +kernel
theorem dX5_again_15 : decode cX5_again 15 = .ok (.ishl, 1) := by decide +kernel
theorem dX5_again_16 : decode cX5_again 16 = .ok (.iand, 1) := by decide +kernel
theorem dX5_again_17 : decode cX5_again 17 = .ok (.ifCond .ne 6, 3) := by decide +kernel
theorem dX5_again_20 : decode cX5_again 20 = .ok (.bipush (-3), 2) := by decide +kernel
theorem dX5_again_22 : decode cX5_again 22 = .ok (.ireturn, 1) := by decide +kernel
theorem dX5_again_23 : decode cX5_again 23 = .ok (.aload_n 0, 1) := by decide +kernel
theorem dX5_again_24 : decode cX5_again 24 = .ok (.getfield 19, 3) := by decide +kernel
theorem dX5_again_27 : decode cX5_again 27 = .ok (.aload_n 0, 1) := by decide +kernel
theorem dX5_again_28 : decode cX5_again 28 = .ok (.iload_n 1, 1) := by decide +kernel
theorem dX5_again_29 : decode cX5_again 29 = .ok (.invokevirtual 289, 3) := by decide +kernel
theorem dX5_again_32 : decode cX5_again 32 = .ok (.invokevirtual 242, 3) := by decide +kernel
theorem dX5_again_35 : decode cX5_again 35 = .ok (.aload_n 0, 1) := by decide +kernel
theorem dX5_again_36 : decode cX5_again 36 = .ok (.getfield 42, 3) := by decide +kernel
theorem dX5_again_39 : decode cX5_again 39 = .ok (.invokevirtual 84, 3) := by decide +kernel
theorem dX5_again_42 : decode cX5_again 42 = .ok (.aload_n 0, 1) := by decide +kernel
theorem dX5_again_43 : decode cX5_again 43 = .ok (.getfield 35, 3) := by decide +kernel
theorem dX5_again_46 : decode cX5_again 46 = .ok (.aload_n 0, 1) := by decide +kernel
theorem dX5_again_47 : decode cX5_again 47 = .ok (.getfield 19, 3) := by decide +kernel
theorem dX5_again_50 : decode cX5_again 50 = .ok (.iconst 2, 1) := by decide +kernel
theorem dX5_again_51 : decode cX5_again 51 = .ok (.invokevirtual 96, 3) := by decide +kernel
theorem dX5_again_54 : decode cX5_again 54 = .ok (.ireturn, 1) := by decide +kernel
theorem dX5_isSide_0 : decode cX5_isSide 0 = .ok (.iload_n 0, 1) := by decide +kernel
theorem dX5_isSide_1 : decode cX5_isSide 1 = .ok (.ifCond .eq 8, 3) := by decide +kernel
theorem dX5_isSide_4 : decode cX5_isSide 4 = .ok (.iload_n 0, 1) := by decide +kernel
theorem dX5_isSide_5 : decode cX5_isSide 5 = .ok (.iconst 1, 1) := by decide +kernel
theorem dX5_isSide_6 : decode cX5_isSide 6 = .ok (.if_icmp .ne 7, 3) := by decide +kernel
theorem dX5_isSide_9 : decode cX5_isSide 9 = .ok (.iconst 1, 1) := by decide +kernel
theorem dX5_isSide_10 : decode cX5_isSide 10 = .ok (.goto 4, 3) := by decide +kernel
theorem dX5_isSide_13 : decode cX5_isSide 13 = .ok (.iconst 0, 1) := by decide +kernel
theorem dX5_isSide_14 : decode cX5_isSide 14 = .ok (.ireturn, 1) := by decide +kernel
theorem dX5_isFigure_0 : decode cX5_isFigure 0 = .ok (.iload_n 0, 1) := by decide +kernel
theorem dX5_isFigure_1 : decode cX5_isFigure 1 = .ok (.ifCond .lt 13, 3) := by decide +kernel
theorem dX5_isFigure_4 : decode cX5_isFigure 4 = .ok (.iload_n 0, 1) := by decide +kernel
theorem dX5_isFigure_5 : decode cX5_isFigure 5 = .ok (.bipush 10, 2) := by decide +kernel
theorem dX5_isFigure_7 : decode cX5_isFigure 7 = .ok (.if_icmp .ge 7, 3) := by decide +kernel
theorem dX5_isFigure_10 : decode cX5_isFigure 10 = .ok (.iconst 1, 1) := by decide +kernel
theorem dX5_isFigure_11 : decode cX5_isFigure 11 = .ok (.goto 4, 3) := by decide +kernel
theorem dX5_isFigure_14 : decode cX5_isFigure 14 = .ok (.iconst 0, 1) := by decide +kernel
theorem dX5_isFigure_15 : decode cX5_isFigure 15 = .ok (.ireturn, 1) := by decide +kernel
theorem dX5_isLight_0 : decode cX5_isLight 0 = .ok (.iload_n 0, 1) := by decide +kernel
theorem dX5_isLight_1 : decode cX5_isLight 1 = .ok (.bipush (-9), 2) := by decide +kernel
theorem dX5_isLight_3 : decode cX5_isLight 3 = .ok (.if_icmp .lt 13, 3) := by decide +kernel
theorem dX5_isLight_6 : decode cX5_isLight 6 = .ok (.iload_n 0, 1) := by decide +kernel
theorem dX5_isLight_7 : decode cX5_isLight 7 = .ok (.bipush 9, 2) := by decide +kernel
theorem dX5_isLight_9 : decode cX5_isLight 9 = .ok (.if_icmp .gt 7, 3) := by decide +kernel
theorem dX5_isLight_12 : decode cX5_isLight 12 = .ok (.iconst 1, 1) := by decide +kernel
theorem dX5_isLight_13 : decode cX5_isLight 13 = .ok (.goto 4, 3) := by decide +kernel
theorem dX5_isLight_16 : decode cX5_isLight 16 = .ok (.iconst 0, 1) := by decide +kernel
theorem dX5_isLight_17 : decode cX5_isLight 17 = .ok (.ireturn, 1) := by decide +kernel
theorem dX5_isRule_0 : decode cX5_isRule 0 = .ok (.iload_n 0, 1) := by decide +kernel
theorem dX5_isRule_1 : decode cX5_isRule 1 = .ok (.ifCond .lt 28, 3) := by decide +kernel
theorem dX5_isRule_4 : decode cX5_isRule 4 = .ok (.iload_n 0, 1) := by decide +kernel
theorem dX5_isRule_5 : decode cX5_isRule 5 = .ok (.iconst 3, 1) := by decide +kernel
theorem dX5_isRule_6 : decode cX5_isRule 6 = .ok (.if_icmp .ge 23, 3) := by decide +kernel
theorem dX5_isRule_9 : decode cX5_isRule 9 = .ok (.iload_n 1, 1) := by decide +kernel
theorem dX5_isRule_10 : decode cX5_isRule 10 = .ok (.ifCond .lt 19, 3) := by decide +kernel
theorem dX5_isRule_13 : decode cX5_isRule 13 = .ok (.iload_n 1, 1) := by decide +kernel
theorem dX5_isRule_14 : decode cX5_isRule 14 = .ok (.iconst 3, 1) := by decide +kernel
theorem dX5_isRule_15 : decode cX5_isRule 15 = .ok (.if_icmp .ge 14, 3) := by decide +kernel
theorem dX5_isRule_18 : decode cX5_isRule 18 = .ok (.iload_n 2, 1) := by decide +kernel
theorem dX5_isRule_19 : decode cX5_isRule 19 = .ok (.invokestatic 137, 3) := by decide +kernel
theorem dX5_isRule_22 : decode cX5_isRule 22 = .ok (.ifCond .eq 7, 3) := by decide +kernel
theorem dX5_isRule_25 : decode cX5_isRule 25 = .ok (.iconst 1, 1) := by decide +kernel
theorem dX5_isRule_26 : decode cX5_isRule 26 = .ok (.goto 4, 3) := by decide +kernel
theorem dX5_isRule_29 : decode cX5_isRule 29 = .ok (.iconst 0, 1) := by decide +kernel
theorem dX5_isRule_30 : decode cX5_isRule 30 = .ok (.ireturn, 1) := by decide +kernel
theorem dX5_isLie_0 : decode cX5_isLie 0 = .ok (.iload_n 0, 1) := by decide +kernel
theorem dX5_isLie_1 : decode cX5_isLie 1 = .ok (.iconst (-1), 1) := by decide +kernel
theorem dX5_isLie_2 : decode cX5_isLie 2 = .ok (.if_icmp .lt 22, 3) := by decide +kernel
theorem dX5_isLie_5 : decode cX5_isLie 5 = .ok (.iload_n 0, 1) := by decide +kernel
theorem dX5_isLie_6 : decode cX5_isLie 6 = .ok (.iconst 1, 1) := by decide +kernel
theorem dX5_isLie_7 : decode cX5_isLie 7 = .ok (.if_icmp .gt 17, 3) := by decide +kernel
theorem dX5_isLie_10 : decode cX5_isLie 10 = .ok (.iload_n 1, 1) := by decide +kernel
theorem dX5_isLie_11 : decode cX5_isLie 11 = .ok (.iconst (-1), 1) := by decide +kernel
theorem dX5_isLie_12 : decode cX5_isLie 12 = .ok (.if_icmp .lt 12, 3) := by decide +kernel
theorem dX5_isLie_15 : decode cX5_isLie 15 = .ok (.iload_n 1, 1) := by decide +kernel
theorem dX5_isLie_16 : decode cX5_isLie 16 = .ok (.iconst 1, 1) := by decide +kernel
theorem dX5_isLie_17 : decode cX5_isLie 17 = .ok (.if_icmp .gt 7, 3) := by decide +kernel
theorem dX5_isLie_20 : decode cX5_isLie 20 = .ok (.iconst 1, 1) := by decide +kernel
theorem dX5_isLie_21 : decode cX5_isLie 21 = .ok (.goto 4, 3) := by decide +kernel
theorem dX5_isLie_24 : decode cX5_isLie 24 = .ok (.iconst 0, 1) := by decide +kernel
theorem dX5_isLie_25 : decode cX5_isLie 25 = .ok (.ireturn, 1) := by decide +kernel
theorem dX5_isSlot_0 : decode cX5_isSlot 0 = .ok (.iload_n 0, 1) := by decide +kernel
theorem dX5_isSlot_1 : decode cX5_isSlot 1 = .ok (.ifCond .lt 12, 3) := by decide +kernel
theorem dX5_isSlot_4 : decode cX5_isSlot 4 = .ok (.iload_n 0, 1) := by decide +kernel
theorem dX5_isSlot_5 : decode cX5_isSlot 5 = .ok (.iconst 2, 1) := by decide +kernel
theorem dX5_isSlot_6 : decode cX5_isSlot 6 = .ok (.if_icmp .ge 7, 3) := by decide +kernel
theorem dX5_isSlot_9 : decode cX5_isSlot 9 = .ok (.iconst 1, 1) := by decide +kernel
theorem dX5_isSlot_10 : decode cX5_isSlot 10 = .ok (.goto 4, 3) := by decide +kernel
theorem dX5_isSlot_13 : decode cX5_isSlot 13 = .ok (.iconst 0, 1) := by decide +kernel
theorem dX5_isSlot_14 : decode cX5_isSlot 14 = .ok (.ireturn, 1) := by decide +kernel
theorem dX5_slotAt_0 : decode cX5_slotAt 0 = .ok (.iload_n 1, 1) := by decide +kernel
theorem dX5_slotAt_1 : decode cX5_slotAt 1 = .ok (.ifCond .ne 10, 3) := by decide +kernel
theorem dX5_slotAt_4 : decode cX5_slotAt 4 = .ok (.aload_n 0, 1) := by decide +kernel
theorem dX5_slotAt_5 : decode cX5_slotAt 5 = .ok (.getfield 26, 3) := by decide +kernel
theorem dX5_slotAt_8 : decode cX5_slotAt 8 = .ok (.goto 7, 3) := by decide +kernel
theorem dX5_slotAt_11 : decode cX5_slotAt 11 = .ok (.aload_n 0, 1) := by decide +kernel
theorem dX5_slotAt_12 : decode cX5_slotAt 12 = .ok (.getfield 29, 3) := by decide +kernel
theorem dX5_slotAt_15 : decode cX5_slotAt 15 = .ok (.areturn, 1) := by decide +kernel
theorem dX5_inkWhenCome_0 : decode cX5_inkWhenCome 0 = .ok (.aload_n 0, 1) := by decide +kernel
theorem dX5_inkWhenCome_1 : decode cX5_inkWhenCome 1 = .ok (.getfield 23, 3) := by decide +kernel
theorem dX5_inkWhenCome_4 : decode cX5_inkWhenCome 4 = .ok (.aload_n 0, 1) := by decide +kernel
theorem dX5_inkWhenCome_5 : decode cX5_inkWhenCome 5 = .ok (.getfield 19, 3) := by decide +kernel
theorem dX5_inkWhenCome_8 : decode cX5_inkWhenCome 8 = .ok (.invokevirtual 242, 3) := by decide +kernel
theorem dX5_inkWhenCome_11 : decode cX5_inkWhenCome 11 = .ok (.iconst 0, 1) := by decide +kernel
theorem dX5_inkWhenCome_12 : decode cX5_inkWhenCome 12 = .ok (.istore_n 2, 1) := by decide +kernel
theorem dX5_inkWhenCome_13 : decode cX5_inkWhenCome 13 = .ok (.iload_n 2, 1) := by decide +kernel
theorem dX5_inkWhenCome_14 : decode cX5_inkWhenCome 14 = .ok (.aload_n 0, 1) := by decide +kernel
theorem dX5_inkWhenCome_15 : decode cX5_inkWhenCome 15 = .ok (.getfield 19, 3) := by decide +kernel
theorem dX5_inkWhenCome_18 : decode cX5_inkWhenCome 18 = .ok (.getfield 93, 3) := by decide +kernel
theorem dX5_inkWhenCome_21 : decode cX5_inkWhenCome 21 = .ok (.if_icmp .ge 26, 3) := by decide +kernel
theorem dX5_inkWhenCome_24 : decode cX5_inkWhenCome 24 = .ok (.iload_n 1, 1) := by decide +kernel
theorem dX5_inkWhenCome_25 : decode cX5_inkWhenCome 25 = .ok (.iconst 1, 1) := by decide +kernel
theorem dX5_inkWhenCome_26 : decode cX5_inkWhenCome 26 = .ok (.iload_n 2, 1) := by decide +kernel
theorem dX5_inkWhenCome_27 : decode cX5_inkWhenCome 27 = .ok (.ishl, 1) := by decide +kernel
theorem dX5_inkWhenCome_28 : decode cX5_inkWhenCome 28 = .ok (.iand, 1) := by decide +kernel
theorem dX5_inkWhenCome_29 : decode cX5_inkWhenCome 29 = .ok (.ifCond .ne 12, 3) := by decide +kernel
theorem dX5_inkWhenCome_32 : decode cX5_inkWhenCome 32 = .ok (.aload_n 0, 1) := by decide +kernel
theorem dX5_inkWhenCome_33 : decode cX5_inkWhenCome 33 = .ok (.getfield 23, 3) := by decide +kernel
theorem dX5_inkWhenCome_36 : decode cX5_inkWhenCome 36 = .ok (.iload_n 2, 1) := by decide +kernel
theorem dX5_inkWhenCome_37 : decode cX5_inkWhenCome 37 = .ok (.iconst (-1), 1) := by decide +kernel
theorem dX5_inkWhenCome_38 : decode cX5_inkWhenCome 38 = .ok (.invokevirtual 293, 3) := by decide +kernel
theorem dX5_inkWhenCome_41 : decode cX5_inkWhenCome 41 = .ok (.iinc 2 1, 3) := by decide +kernel
theorem dX5_inkWhenCome_44 : decode cX5_inkWhenCome 44 = .ok (.goto (-31), 3) := by decide +kernel
theorem dX5_inkWhenCome_47 : decode cX5_inkWhenCome 47 = .ok (.aload_n 0, 1) := by decide +kernel
theorem dX5_inkWhenCome_48 : decode cX5_inkWhenCome 48 = .ok (.getfield 35, 3) := by decide +kernel
theorem dX5_inkWhenCome_51 : decode cX5_inkWhenCome 51 = .ok (.aload_n 0, 1) := by decide +kernel
theorem dX5_inkWhenCome_52 : decode cX5_inkWhenCome 52 = .ok (.getfield 23, 3) := by decide +kernel
theorem dX5_inkWhenCome_55 : decode cX5_inkWhenCome 55 = .ok (.iconst 2, 1) := by decide +kernel
theorem dX5_inkWhenCome_56 : decode cX5_inkWhenCome 56 = .ok (.invokevirtual 96, 3) := by decide +kernel
theorem dX5_inkWhenCome_59 : decode cX5_inkWhenCome 59 = .ok (.ireturn, 1) := by decide +kernel
theorem dX5_ordersWith_0 : decode cX5_ordersWith 0 = .ok (.iload_n 0, 1) := by decide +kernel
theorem dX5_ordersWith_1 : decode cX5_ordersWith 1 = .ok (.invokestatic 180, 3) := by decide +kernel
theorem dX5_ordersWith_4 : decode cX5_ordersWith 4 = .ok (.istore_n 2, 1) := by decide +kernel
theorem dX5_ordersWith_5 : decode cX5_ordersWith 5 = .ok (.iload_n 2, 1) := by decide +kernel
theorem dX5_ordersWith_6 : decode cX5_ordersWith 6 = .ok (.invokestatic 260, 3) := by decide +kernel
theorem dX5_ordersWith_9 : decode cX5_ordersWith 9 = .ok (.iload_n 1, 1) := by decide +kernel
theorem dX5_ordersWith_10 : decode cX5_ordersWith 10 = .ok (.iconst 1, 1) := by decide +kernel
theorem dX5_ordersWith_11 : decode cX5_ordersWith 11 = .ok (.isub, 1) := by decide +kernel
theorem dX5_ordersWith_12 : decode cX5_ordersWith 12 = .ok (.iload_n 2, 1) := by decide +kernel
theorem dX5_ordersWith_13 : decode cX5_ordersWith 13 = .ok (.isub, 1) := by decide +kernel
theorem dX5_ordersWith_14 : decode cX5_ordersWith 14 = .ok (.invokestatic 260, 3) := by decide +kernel
theorem dX5_ordersWith_17 : decode cX5_ordersWith 17 = .ok (.imul, 1) := by decide +kernel
theorem dX5_ordersWith_18 : decode cX5_ordersWith 18 = .ok (.ireturn, 1) := by decide +kernel
theorem dX5_inkWhenBleached_0 : decode cX5_inkWhenBleached 0 = .ok (.aload_n 0, 1) := by decide +kernel
theorem dX5_inkWhenBleached_1 : decode cX5_inkWhenBleached 1 = .ok (.getfield 23, 3) := by decide +kernel
theorem dX5_inkWhenBleached_4 : decode cX5_inkWhenBleached 4 = .ok (.aload_n 0, 1) := by decide +kernel
theorem dX5_inkWhenBleached_5 : decode cX5_inkWhenBleached 5 = .ok (.getfield 19, 3) := by decide +kernel
theorem dX5_inkWhenBleached_8 : decode cX5_inkWhenBleached 8 = .ok (.invokevirtual 242, 3) := by decide +kernel
theorem dX5_inkWhenBleached_11 : decode cX5_inkWhenBleached 11 = .ok (.aload_n 0, 1) := by decide +kernel
theorem dX5_inkWhenBleached_12 : decode cX5_inkWhenBleached 12 = .ok (.getfield 23, 3) := by decide +kernel
theorem dX5_inkWhenBleached_15 : decode cX5_inkWhenBleached 15 = .ok (.iload_n 1, 1) := by decide +kernel
theorem dX5_inkWhenBleached_16 : decode cX5_inkWhenBleached 16 = .ok (.iload_n 2, 1) := by decide +kernel
theorem dX5_inkWhenBleached_17 : decode cX5_inkWhenBleached 17 = .ok (.invokevirtual 293, 3) := by decide +kernel
theorem dX5_inkWhenBleached_20 : decode cX5_inkWhenBleached 20 = .ok (.aload_n 0, 1) := by decide +kernel
theorem dX5_inkWhenBleached_21 : decode cX5_inkWhenBleached 21 = .ok (.getfield 35, 3) := by decide +kernel
theorem dX5_inkWhenBleached_24 : decode cX5_inkWhenBleached 24 = .ok (.aload_n 0, 1) := by decide +kernel
theorem dX5_inkWhenBleached_25 : decode cX5_inkWhenBleached 25 = .ok (.getfield 23, 3) := by decide +kernel
theorem dX5_inkWhenBleached_28 : decode cX5_inkWhenBleached 28 = .ok (.iconst 2, 1) := by decide +kernel
theorem dX5_inkWhenBleached_29 : decode cX5_inkWhenBleached 29 = .ok (.invokevirtual 96, 3) := by decide +kernel
theorem dX5_inkWhenBleached_32 : decode cX5_inkWhenBleached 32 = .ok (.ireturn, 1) := by decide +kernel
theorem dX5_bestLie_0 : decode cX5_bestLie 0 = .ok (.bipush (-9), 2) := by decide +kernel
theorem dX5_bestLie_2 : decode cX5_bestLie 2 = .ok (.istore_n 1, 1) := by decide +kernel
theorem dX5_bestLie_3 : decode cX5_bestLie 3 = .ok (.iconst 0, 1) := by decide +kernel
theorem dX5_bestLie_4 : decode cX5_bestLie 4 = .ok (.istore_n 2, 1) := by decide +kernel
theorem dX5_bestLie_5 : decode cX5_bestLie 5 = .ok (.iconst 1, 1) := by decide +kernel
theorem dX5_bestLie_6 : decode cX5_bestLie 6 = .ok (.istore_n 3, 1) := by decide +kernel
theorem dX5_bestLie_7 : decode cX5_bestLie 7 = .ok (.iconst (-1), 1) := by decide +kernel
theorem dX5_bestLie_8 : decode cX5_bestLie 8 = .ok (.istore 4, 2) := by decide +kernel
theorem dX5_bestLie_10 : decode cX5_bestLie 10 = .ok (.iload 4, 2) := by decide +kernel
theorem dX5_bestLie_12 : decode cX5_bestLie 12 = .ok (.iconst 1, 1) := by decide +kernel
theorem dX5_bestLie_13 : decode cX5_bestLie 13 = .ok (.if_icmp .gt 86, 3) := by decide +kernel
theorem dX5_bestLie_16 : decode cX5_bestLie 16 = .ok (.iconst (-1), 1) := by decide +kernel
theorem dX5_bestLie_17 : decode cX5_bestLie 17 = .ok (.istore 5, 2) := by decide +kernel
theorem dX5_bestLie_19 : decode cX5_bestLie 19 = .ok (.iload 5, 2) := by decide +kernel
theorem dX5_bestLie_21 : decode cX5_bestLie 21 = .ok (.iconst 1, 1) := by decide +kernel
theorem dX5_bestLie_22 : decode cX5_bestLie 22 = .ok (.if_icmp .gt 71, 3) := by decide +kernel
theorem dX5_bestLie_25 : decode cX5_bestLie 25 = .ok (.aload_n 0, 1) := by decide +kernel
theorem dX5_bestLie_26 : decode cX5_bestLie 26 = .ok (.getfield 19, 3) := by decide +kernel
theorem dX5_bestLie_29 : decode cX5_bestLie 29 = .ok (.iload 4, 2) := by decide +kernel
theorem dX5_bestLie_31 : decode cX5_bestLie 31 = .ok (.iload 5, 2) := by decide +kernel
theorem dX5_bestLie_33 : decode cX5_bestLie 33 = .ok (.invokevirtual 228, 3) := by decide +kernel
theorem dX5_bestLie_36 : decode cX5_bestLie 36 = .ok (.istore 6, 2) := by decide +kernel
theorem dX5_bestLie_38 : decode cX5_bestLie 38 = .ok (.aload_n 0, 1) := by decide +kernel
theorem dX5_bestLie_39 : decode cX5_bestLie 39 = .ok (.getfield 19, 3) := by decide +kernel
theorem dX5_bestLie_42 : decode cX5_bestLie 42 = .ok (.iload 4, 2) := by decide +kernel
theorem dX5_bestLie_44 : decode cX5_bestLie 44 = .ok (.iload 5, 2) := by decide +kernel
theorem dX5_bestLie_46 : decode cX5_bestLie 46 = .ok (.invokevirtual 225, 3) := by decide +kernel
theorem dX5_bestLie_49 : decode cX5_bestLie 49 = .ok (.istore 7, 2) := by decide +kernel
theorem dX5_bestLie_51 : decode cX5_bestLie 51 = .ok (.iload 7, 2) := by decide +kernel
theorem dX5_bestLie_53 : decode cX5_bestLie 53 = .ok (.ifCond .le 34, 3) := by decide +kernel
theorem dX5_bestLie_56 : decode cX5_bestLie 56 = .ok (.iload_n 1, 1) := by decide +kernel
theorem dX5_bestLie_57 : decode cX5_bestLie 57 = .ok (.bipush (-9), 2) := by decide +kernel
theorem dX5_bestLie_59 : decode cX5_bestLie 59 = .ok (.if_icmp .eq 14, 3) := by decide +kernel
theorem dX5_bestLie_62 : decode cX5_bestLie 62 = .ok (.iload 6, 2) := by decide +kernel
theorem dX5_bestLie_64 : decode cX5_bestLie 64 = .ok (.iload_n 3, 1) := by decide +kernel
theorem dX5_bestLie_65 : decode cX5_bestLie 65 = .ok (.imul, 1) := by decide +kernel
theorem dX5_bestLie_66 : decode cX5_bestLie 66 = .ok (.iload_n 2, 1) := by decide +kernel
theorem dX5_bestLie_67 : decode cX5_bestLie 67 = .ok (.iload 7, 2) := by decide +kernel
theorem dX5_bestLie_69 : decode cX5_bestLie 69 = .ok (.imul, 1) := by decide +kernel
theorem dX5_bestLie_70 : decode cX5_bestLie 70 = .ok (.if_icmp .ge 17, 3) := by decide +kernel
theorem dX5_bestLie_73 : decode cX5_bestLie 73 = .ok (.iload 4, 2) := by decide +kernel
theorem dX5_bestLie_75 : decode cX5_bestLie 75 = .ok (.iload 5, 2) := by decide +kernel
theorem dX5_bestLie_77 : decode cX5_bestLie 77 = .ok (.invokestatic 118, 3) := by decide +kernel
theorem dX5_bestLie_80 : decode cX5_bestLie 80 = .ok (.istore_n 1, 1) := by decide +kernel
theorem dX5_bestLie_81 : decode cX5_bestLie 81 = .ok (.iload 6, 2) := by decide +kernel
theorem dX5_bestLie_83 : decode cX5_bestLie 83 = .ok (.istore_n 2, 1) := by decide +kernel
theorem dX5_bestLie_84 : decode cX5_bestLie 84 = .ok (.iload 7, 2) := by decide +kernel
theorem dX5_bestLie_86 : decode cX5_bestLie 86 = .ok (.istore_n 3, 1) := by decide +kernel
theorem dX5_bestLie_87 : decode cX5_bestLie 87 = .ok (.iinc 5 1, 3) := by decide +kernel
theorem dX5_bestLie_90 : decode cX5_bestLie 90 = .ok (.goto (-71), 3) := by decide +kernel
theorem dX5_bestLie_93 : decode cX5_bestLie 93 = .ok (.iinc 4 1, 3) := by decide +kernel
theorem dX5_bestLie_96 : decode cX5_bestLie 96 = .ok (.goto (-86), 3) := by decide +kernel
theorem dX5_bestLie_99 : decode cX5_bestLie 99 = .ok (.iload_n 1, 1) := by decide +kernel
theorem dX5_bestLie_100 : decode cX5_bestLie 100 = .ok (.ireturn, 1) := by decide +kernel
theorem dX5_bestWindow_0 : decode cX5_bestWindow 0 = .ok (.bipush (-9), 2) := by decide +kernel
theorem dX5_bestWindow_2 : decode cX5_bestWindow 2 = .ok (.istore_n 2, 1) := by decide +kernel
theorem dX5_bestWindow_3 : decode cX5_bestWindow 3 = .ok (.iconst 0, 1) := by decide +kernel
theorem dX5_bestWindow_4 : decode cX5_bestWindow 4 = .ok (.istore_n 3, 1) := by decide +kernel
theorem dX5_bestWindow_5 : decode cX5_bestWindow 5 = .ok (.iconst 0, 1) := by decide +kernel
theorem dX5_bestWindow_6 : decode cX5_bestWindow 6 = .ok (.istore 4, 2) := by decide +kernel
theorem dX5_bestWindow_8 : decode cX5_bestWindow 8 = .ok (.iload 4, 2) := by decide +kernel
theorem dX5_bestWindow_10 : decode cX5_bestWindow 10 = .ok (.iconst 3, 1) := by decide +kernel
theorem dX5_bestWindow_11 : decode cX5_bestWindow 11 = .ok (.if_icmp .ge 123, 3) := by decide +kernel
theorem dX5_bestWindow_14 : decode cX5_bestWindow 14 = .ok (.aload_n 0, 1) := by decide +kernel
theorem dX5_bestWindow_15 : decode cX5_bestWindow 15 = .ok (.getfield 35, 3) := by decide +kernel
theorem dX5_bestWindow_18 : decode cX5_bestWindow 18 = .ok (.aload_n 0, 1) := by decide +kernel
theorem dX5_bestWindow_19 : decode cX5_bestWindow 19 = .ok (.getfield 19, 3) := by decide +kernel
theorem dX5_bestWindow_22 : decode cX5_bestWindow 22 = .ok (.iload 4, 2) := by decide +kernel
theorem dX5_bestWindow_24 : decode cX5_bestWindow 24 = .ok (.invokevirtual 170, 3) := by decide +kernel
theorem dX5_bestWindow_27 : decode cX5_bestWindow 27 = .ok (.iconst 0, 1) := by decide +kernel
theorem dX5_bestWindow_28 : decode cX5_bestWindow 28 = .ok (.istore 5, 2) := by decide +kernel
theorem dX5_bestWindow_30 : decode cX5_bestWindow 30 = .ok (.iload 5, 2) := by decide +kernel
theorem dX5_bestWindow_32 : decode cX5_bestWindow 32 = .ok (.bipush 10, 2) := by decide +kernel
theorem dX5_bestWindow_34 : decode cX5_bestWindow 34 = .ok (.if_icmp .ge 94, 3) := by decide +kernel
theorem dX5_bestWindow_37 : decode cX5_bestWindow 37 = .ok (.aload_n 0, 1) := by decide +kernel
theorem dX5_bestWindow_38 : decode cX5_bestWindow 38 = .ok (.getfield 35, 3) := by decide +kernel
theorem dX5_bestWindow_41 : decode cX5_bestWindow 41 = .ok (.iload 5, 2) := by decide +kernel
theorem dX5_bestWindow_43 : decode cX5_bestWindow 43 = .ok (.iconst 2, 1) := by decide +kernel
theorem dX5_bestWindow_44 : decode cX5_bestWindow 44 = .ok (.invokevirtual 174, 3) := by decide +kernel
theorem dX5_bestWindow_47 : decode cX5_bestWindow 47 = .ok (.invokestatic 180, 3) := by decide +kernel
theorem dX5_bestWindow_50 : decode cX5_bestWindow 50 = .ok (.istore 6, 2) := by decide +kernel
theorem dX5_bestWindow_52 : decode cX5_bestWindow 52 = .ok (.iload_n 1, 1) := by decide +kernel
theorem dX5_bestWindow_53 : decode cX5_bestWindow 53 = .ok (.ifCond .ne 9, 3) := by decide +kernel
theorem dX5_bestWindow_56 : decode cX5_bestWindow 56 = .ok (.iload 6, 2) := by decide +kernel
theorem dX5_bestWindow_58 : decode cX5_bestWindow 58 = .ok (.iconst 1, 1) := by decide +kernel
theorem dX5_bestWindow_59 : decode cX5_bestWindow 59 = .ok (.if_icmp .lt 7, 3) := by decide +kernel
theorem dX5_bestWindow_62 : decode cX5_bestWindow 62 = .ok (.iconst 1, 1) := by decide +kernel
theorem dX5_bestWindow_63 : decode cX5_bestWindow 63 = .ok (.goto 4, 3) := by decide +kernel
theorem dX5_bestWindow_66 : decode cX5_bestWindow 66 = .ok (.iconst 0, 1) := by decide +kernel
theorem dX5_bestWindow_67 : decode cX5_bestWindow 67 = .ok (.istore 7, 2) := by decide +kernel
theorem dX5_bestWindow_69 : decode cX5_bestWindow 69 = .ok (.iload_n 2, 1) := by decide +kernel
theorem dX5_bestWindow_70 : decode cX5_bestWindow 70 = .ok (.bipush (-9), 2) := by decide +kernel
theorem dX5_bestWindow_72 : decode cX5_bestWindow 72 = .ok (.if_icmp .eq 22, 3) := by decide +kernel
theorem dX5_bestWindow_75 : decode cX5_bestWindow 75 = .ok (.iload_n 1, 1) := by decide +kernel
theorem dX5_bestWindow_76 : decode cX5_bestWindow 76 = .ok (.ifCond .eq 12, 3) := by decide +kernel
theorem dX5_bestWindow_79 : decode cX5_bestWindow 79 = .ok (.iload 6, 2) := by decide +kernel
theorem dX5_bestWindow_81 : decode cX5_bestWindow 81 = .ok (.iload_n 3, 1) := by decide +kernel
theorem dX5_bestWindow_82 : decode cX5_bestWindow 82 = .ok (.if_icmp .le 16, 3) := by decide +kernel
theorem dX5_bestWindow_85 : decode cX5_bestWindow 85 = .ok (.goto 9, 3) := by decide +kernel
theorem dX5_bestWindow_88 : decode cX5_bestWindow 88 = .ok (.iload 6, 2) := by decide +kernel
theorem dX5_bestWindow_90 : decode cX5_bestWindow 90 = .ok (.iload_n 3, 1) := by decide +kernel
theorem dX5_bestWindow_91 : decode cX5_bestWindow 91 = .ok (.if_icmp .ge 7, 3) := by decide +kernel
theorem dX5_bestWindow_94 : decode cX5_bestWindow 94 = .ok (.iconst 1, 1) := by decide +kernel
theorem dX5_bestWindow_95 : decode cX5_bestWindow 95 = .ok (.goto 4, 3) := by decide +kernel
theorem dX5_bestWindow_98 : decode cX5_bestWindow 98 = .ok (.iconst 0, 1) := by decide +kernel
theorem dX5_bestWindow_99 : decode cX5_bestWindow 99 = .ok (.istore 8, 2) := by decide +kernel
theorem dX5_bestWindow_101 : decode cX5_bestWindow 101 = .ok (.iload 7, 2) := by decide +kernel
theorem dX5_bestWindow_103 : decode cX5_bestWindow 103 = .ok (.ifCond .eq 19, 3) := by decide +kernel
theorem dX5_bestWindow_106 : decode cX5_bestWindow 106 = .ok (.iload 8, 2) := by decide +kernel
theorem dX5_bestWindow_108 : decode cX5_bestWindow 108 = .ok (.ifCond .eq 14, 3) := by decide +kernel
theorem dX5_bestWindow_111 : decode cX5_bestWindow 111 = .ok (.iload 4, 2) := by decide +kernel
theorem dX5_bestWindow_113 : decode cX5_bestWindow 113 = .ok (.iload 5, 2) := by decide +kernel
theorem dX5_bestWindow_115 : decode cX5_bestWindow 115 = .ok (.invokestatic 270, 3) := by decide +kernel
theorem dX5_bestWindow_118 : decode cX5_bestWindow 118 = .ok (.istore_n 2, 1) := by decide +kernel
theorem dX5_bestWindow_119 : decode cX5_bestWindow 119 = .ok (.iload 6, 2) := by decide +kernel
theorem dX5_bestWindow_121 : decode cX5_bestWindow 121 = .ok (.istore_n 3, 1) := by decide +kernel
theorem dX5_bestWindow_122 : decode cX5_bestWindow 122 = .ok (.iinc 5 1, 3) := by decide +kernel
theorem dX5_bestWindow_125 : decode cX5_bestWindow 125 = .ok (.goto (-95), 3) := by decide +kernel
theorem dX5_bestWindow_128 : decode cX5_bestWindow 128 = .ok (.iinc 4 1, 3) := by decide +kernel
theorem dX5_bestWindow_131 : decode cX5_bestWindow 131 = .ok (.goto (-123), 3) := by decide +kernel
theorem dX5_bestWindow_134 : decode cX5_bestWindow 134 = .ok (.iload_n 2, 1) := by decide +kernel
theorem dX5_bestWindow_135 : decode cX5_bestWindow 135 = .ok (.ireturn, 1) := by decide +kernel
theorem dX5_lieNumber_0 : decode cX5_lieNumber 0 = .ok (.bipush 10, 2) := by decide +kernel
theorem dX5_lieNumber_2 : decode cX5_lieNumber 2 = .ok (.iload_n 0, 1) := by decide +kernel
theorem dX5_lieNumber_3 : decode cX5_lieNumber 3 = .ok (.iconst 1, 1) := by decide +kernel
theorem dX5_lieNumber_4 : decode cX5_lieNumber 4 = .ok (.iadd, 1) := by decide +kernel
theorem dX5_lieNumber_5 : decode cX5_lieNumber 5 = .ok (.imul, 1) := by decide +kernel
theorem dX5_lieNumber_6 : decode cX5_lieNumber 6 = .ok (.iload_n 1, 1) := by decide +kernel
theorem dX5_lieNumber_7 : decode cX5_lieNumber 7 = .ok (.iadd, 1) := by decide +kernel
theorem dX5_lieNumber_8 : decode cX5_lieNumber 8 = .ok (.iconst 1, 1) := by decide +kernel
theorem dX5_lieNumber_9 : decode cX5_lieNumber 9 = .ok (.iadd, 1) := by decide +kernel
theorem dX5_lieNumber_10 : decode cX5_lieNumber 10 = .ok (.ireturn, 1) := by decide +kernel
theorem dX5_windowNumber_0 : decode cX5_windowNumber 0 = .ok (.bipush 10, 2) := by decide +kernel
theorem dX5_windowNumber_2 : decode cX5_windowNumber 2 = .ok (.iload_n 0, 1) := by decide +kernel
theorem dX5_windowNumber_3 : decode cX5_windowNumber 3 = .ok (.imul, 1) := by decide +kernel
theorem dX5_windowNumber_4 : decode cX5_windowNumber 4 = .ok (.iload_n 1, 1) := by decide +kernel
theorem dX5_windowNumber_5 : decode cX5_windowNumber 5 = .ok (.iadd, 1) := by decide +kernel
theorem dX5_windowNumber_6 : decode cX5_windowNumber 6 = .ok (.ireturn, 1) := by decide +kernel
theorem dX5_canBe_0 : decode cX5_canBe 0 = .ok (.iload_n 1, 1) := by decide +kernel
theorem dX5_canBe_1 : decode cX5_canBe 1 = .ok (.sipush 1000, 3) := by decide +kernel
theorem dX5_canBe_4 : decode cX5_canBe 4 = .ok (.idiv, 1) := by decide +kernel
theorem dX5_canBe_5 : decode cX5_canBe 5 = .ok (.bipush 10, 2) := by decide +kernel
theorem dX5_canBe_7 : decode cX5_canBe 7 = .ok (.irem, 1) := by decide +kernel
theorem dX5_canBe_8 : decode cX5_canBe 8 = .ok (.istore_n 2, 1) := by decide +kernel
theorem dX5_canBe_9 : decode cX5_canBe 9 = .ok (.iload_n 1, 1) := by decide +kernel
theorem dX5_canBe_10 : decode cX5_canBe 10 = .ok (.bipush 100, 2) := by decide +kernel
theorem dX5_canBe_12 : decode cX5_canBe 12 = .ok (.idiv, 1) := by decide +kernel
theorem dX5_canBe_13 : decode cX5_canBe 13 = .ok (.bipush 10, 2) := by decide +kernel
theorem dX5_canBe_15 : decode cX5_canBe 15 = .ok (.irem, 1) := by decide +kernel
theorem dX5_canBe_16 : decode cX5_canBe 16 = .ok (.istore_n 3, 1) := by decide +kernel
theorem dX5_canBe_17 : decode cX5_canBe 17 = .ok (.iload_n 1, 1) := by decide +kernel
theorem dX5_canBe_18 : decode cX5_canBe 18 = .ok (.bipush 10, 2) := by decide +kernel
theorem dX5_canBe_20 : decode cX5_canBe 20 = .ok (.idiv, 1) := by decide +kernel
theorem dX5_canBe_21 : decode cX5_canBe 21 = .ok (.bipush 10, 2) := by decide +kernel
theorem dX5_canBe_23 : decode cX5_canBe 23 = .ok (.irem, 1) := by decide +kernel
theorem dX5_canBe_24 : decode cX5_canBe 24 = .ok (.istore 4, 2) := by decide +kernel
theorem dX5_canBe_26 : decode cX5_canBe 26 = .ok (.iload_n 1, 1) := by decide +kernel
theorem dX5_canBe_27 : decode cX5_canBe 27 = .ok (.bipush 10, 2) := by decide +kernel
theorem dX5_canBe_29 : decode cX5_canBe 29 = .ok (.irem, 1) := by decide +kernel
theorem dX5_canBe_30 : decode cX5_canBe 30 = .ok (.istore 5, 2) := by decide +kernel
theorem dX5_canBe_32 : decode cX5_canBe 32 = .ok (.bipush 10, 2) := by decide +kernel
theorem dX5_canBe_34 : decode cX5_canBe 34 = .ok (.iload_n 3, 1) := by decide +kernel
theorem dX5_canBe_35 : decode cX5_canBe 35 = .ok (.imul, 1) := by decide +kernel
theorem dX5_canBe_36 : decode cX5_canBe 36 = .ok (.iload 4, 2) := by decide +kernel
theorem dX5_canBe_38 : decode cX5_canBe 38 = .ok (.iadd, 1) := by decide +kernel
theorem dX5_canBe_39 : decode cX5_canBe 39 = .ok (.istore 6, 2) := by decide +kernel
theorem dX5_canBe_41 : decode cX5_canBe 41 = .ok (.iload 4, 2) := by decide +kernel
theorem dX5_canBe_43 : decode cX5_canBe 43 = .ok (.ifCond .ne 12, 3) := by decide +kernel
theorem dX5_canBe_46 : decode cX5_canBe 46 = .ok (.iload 5, 2) := by decide +kernel
theorem dX5_canBe_48 : decode cX5_canBe 48 = .ok (.ifCond .ne 7, 3) := by decide +kernel
theorem dX5_canBe_51 : decode cX5_canBe 51 = .ok (.iconst 1, 1) := by decide +kernel
theorem dX5_canBe_52 : decode cX5_canBe 52 = .ok (.goto 4, 3) := by decide +kernel
theorem dX5_canBe_55 : decode cX5_canBe 55 = .ok (.iconst 0, 1) := by decide +kernel
theorem dX5_canBe_56 : decode cX5_canBe 56 = .ok (.istore 7, 2) := by decide +kernel
theorem dX5_canBe_58 : decode cX5_canBe 58 = .ok (.iload_n 1, 1) := by decide +kernel
theorem dX5_canBe_59 : decode cX5_canBe 59 = .ok (.sipush 10000, 3) := by decide +kernel
theorem dX5_canBe_62 : decode cX5_canBe 62 = .ok (.idiv, 1) := by decide +kernel
theorem dX5_canBe_63 : decode cX5_canBe 63 = .ok (.tableswitch 197 1 7 #[41, 51, 78, 100, 120, 144, 165], 41) := by decide +kernel
theorem dX5_canBe_104 : decode cX5_canBe 104 = .ok (.aload_n 0, 1) := by decide +kernel
theorem dX5_canBe_105 : decode cX5_canBe 105 = .ok (.iload_n 2, 1) := by decide +kernel
theorem dX5_canBe_106 : decode cX5_canBe 106 = .ok (.iload 6, 2) := by decide +kernel
theorem dX5_canBe_108 : decode cX5_canBe 108 = .ok (.iload 5, 2) := by decide +kernel
theorem dX5_canBe_110 : decode cX5_canBe 110 = .ok (.invokevirtual 296, 3) := by decide +kernel
theorem dX5_canBe_113 : decode cX5_canBe 113 = .ok (.ireturn, 1) := by decide +kernel
theorem dX5_canBe_114 : decode cX5_canBe 114 = .ok (.iload 7, 2) := by decide +kernel
theorem dX5_canBe_116 : decode cX5_canBe 116 = .ok (.ifCond .eq 23, 3) := by decide +kernel
theorem dX5_canBe_119 : decode cX5_canBe 119 = .ok (.aload_n 0, 1) := by decide +kernel
theorem dX5_canBe_120 : decode cX5_canBe 120 = .ok (.bipush 10, 2) := by decide +kernel
theorem dX5_canBe_122 : decode cX5_canBe 122 = .ok (.iload_n 2, 1) := by decide +kernel
theorem dX5_canBe_123 : decode cX5_canBe 123 = .ok (.imul, 1) := by decide +kernel
theorem dX5_canBe_124 : decode cX5_canBe 124 = .ok (.iload_n 3, 1) := by decide +kernel
theorem dX5_canBe_125 : decode cX5_canBe 125 = .ok (.iadd, 1) := by decide +kernel
theorem dX5_canBe_126 : decode cX5_canBe 126 = .ok (.bipush 9, 2) := by decide +kernel
theorem dX5_canBe_128 : decode cX5_canBe 128 = .ok (.isub, 1) := by decide +kernel
theorem dX5_canBe_129 : decode cX5_canBe 129 = .ok (.invokevirtual 299, 3) := by decide +kernel
theorem dX5_canBe_132 : decode cX5_canBe 132 = .ok (.ifCond .eq 7, 3) := by decide +kernel
theorem dX5_canBe_135 : decode cX5_canBe 135 = .ok (.iconst 1, 1) := by decide +kernel
theorem dX5_canBe_136 : decode cX5_canBe 136 = .ok (.goto 4, 3) := by decide +kernel
theorem dX5_canBe_139 : decode cX5_canBe 139 = .ok (.iconst 0, 1) := by decide +kernel
theorem dX5_canBe_140 : decode cX5_canBe 140 = .ok (.ireturn, 1) := by decide +kernel
theorem dX5_canBe_141 : decode cX5_canBe 141 = .ok (.iload 5, 2) := by decide +kernel
theorem dX5_canBe_143 : decode cX5_canBe 143 = .ok (.ifCond .ne 18, 3) := by decide +kernel
theorem dX5_canBe_146 : decode cX5_canBe 146 = .ok (.aload_n 0, 1) := by decide +kernel
theorem dX5_canBe_147 : decode cX5_canBe 147 = .ok (.iload_n 2, 1) := by decide +kernel
theorem dX5_canBe_148 : decode cX5_canBe 148 = .ok (.iload_n 3, 1) := by decide +kernel
theorem dX5_canBe_149 : decode cX5_canBe 149 = .ok (.iload 4, 2) := by decide +kernel
theorem dX5_canBe_151 : decode cX5_canBe 151 = .ok (.invokevirtual 302, 3) := by decide +kernel
theorem dX5_canBe_154 : decode cX5_canBe 154 = .ok (.ifCond .eq 7, 3) := by decide +kernel
theorem dX5_canBe_157 : decode cX5_canBe 157 = .ok (.iconst 1, 1) := by decide +kernel
theorem dX5_canBe_158 : decode cX5_canBe 158 = .ok (.goto 4, 3) := by decide +kernel
theorem dX5_canBe_161 : decode cX5_canBe 161 = .ok (.iconst 0, 1) := by decide +kernel
theorem dX5_canBe_162 : decode cX5_canBe 162 = .ok (.ireturn, 1) := by decide +kernel
theorem dX5_canBe_163 : decode cX5_canBe 163 = .ok (.iload 7, 2) := by decide +kernel
theorem dX5_canBe_165 : decode cX5_canBe 165 = .ok (.ifCond .eq 16, 3) := by decide +kernel
theorem dX5_canBe_168 : decode cX5_canBe 168 = .ok (.aload_n 0, 1) := by decide +kernel
theorem dX5_canBe_169 : decode cX5_canBe 169 = .ok (.iload_n 2, 1) := by decide +kernel
theorem dX5_canBe_170 : decode cX5_canBe 170 = .ok (.iload_n 3, 1) := by decide +kernel
theorem dX5_canBe_171 : decode cX5_canBe 171 = .ok (.invokevirtual 305, 3) := by decide +kernel
theorem dX5_canBe_174 : decode cX5_canBe 174 = .ok (.ifCond .eq 7, 3) := by decide +kernel
theorem dX5_canBe_177 : decode cX5_canBe 177 = .ok (.iconst 1, 1) := by decide +kernel
theorem dX5_canBe_178 : decode cX5_canBe 178 = .ok (.goto 4, 3) := by decide +kernel
theorem dX5_canBe_181 : decode cX5_canBe 181 = .ok (.iconst 0, 1) := by decide +kernel
theorem dX5_canBe_182 : decode cX5_canBe 182 = .ok (.ireturn, 1) := by decide +kernel
theorem dX5_canBe_183 : decode cX5_canBe 183 = .ok (.iload 7, 2) := by decide +kernel
theorem dX5_canBe_185 : decode cX5_canBe 185 = .ok (.ifCond .eq 20, 3) := by decide +kernel
theorem dX5_canBe_188 : decode cX5_canBe 188 = .ok (.aload_n 0, 1) := by decide +kernel
theorem dX5_canBe_189 : decode cX5_canBe 189 = .ok (.iload_n 2, 1) := by decide +kernel
theorem dX5_canBe_190 : decode cX5_canBe 190 = .ok (.iconst 1, 1) := by decide +kernel
theorem dX5_canBe_191 : decode cX5_canBe 191 = .ok (.isub, 1) := by decide +kernel
theorem dX5_canBe_192 : decode cX5_canBe 192 = .ok (.iload_n 3, 1) := by decide +kernel
theorem dX5_canBe_193 : decode cX5_canBe 193 = .ok (.iconst 1, 1) := by decide +kernel
theorem dX5_canBe_194 : decode cX5_canBe 194 = .ok (.isub, 1) := by decide +kernel
theorem dX5_canBe_195 : decode cX5_canBe 195 = .ok (.invokevirtual 308, 3) := by decide +kernel
theorem dX5_canBe_198 : decode cX5_canBe 198 = .ok (.ifCond .eq 7, 3) := by decide +kernel
theorem dX5_canBe_201 : decode cX5_canBe 201 = .ok (.iconst 1, 1) := by decide +kernel
theorem dX5_canBe_202 : decode cX5_canBe 202 = .ok (.goto 4, 3) := by decide +kernel
theorem dX5_canBe_205 : decode cX5_canBe 205 = .ok (.iconst 0, 1) := by decide +kernel
theorem dX5_canBe_206 : decode cX5_canBe 206 = .ok (.ireturn, 1) := by decide +kernel
theorem dX5_canBe_207 : decode cX5_canBe 207 = .ok (.iload_n 2, 1) := by decide +kernel
theorem dX5_canBe_208 : decode cX5_canBe 208 = .ok (.ifCond .ne 18, 3) := by decide +kernel
theorem dX5_canBe_211 : decode cX5_canBe 211 = .ok (.aload_n 0, 1) := by decide +kernel
theorem dX5_canBe_212 : decode cX5_canBe 212 = .ok (.iload 6, 2) := by decide +kernel
theorem dX5_canBe_214 : decode cX5_canBe 214 = .ok (.iload 5, 2) := by decide +kernel
theorem dX5_canBe_216 : decode cX5_canBe 216 = .ok (.invokevirtual 311, 3) := by decide +kernel
theorem dX5_canBe_219 : decode cX5_canBe 219 = .ok (.ifCond .eq 7, 3) := by decide +kernel
theorem dX5_canBe_222 : decode cX5_canBe 222 = .ok (.iconst 1, 1) := by decide +kernel
theorem dX5_canBe_223 : decode cX5_canBe 223 = .ok (.goto 4, 3) := by decide +kernel
theorem dX5_canBe_226 : decode cX5_canBe 226 = .ok (.iconst 0, 1) := by decide +kernel
theorem dX5_canBe_227 : decode cX5_canBe 227 = .ok (.ireturn, 1) := by decide +kernel
theorem dX5_canBe_228 : decode cX5_canBe 228 = .ok (.iload_n 2, 1) := by decide +kernel
theorem dX5_canBe_229 : decode cX5_canBe 229 = .ok (.ifCond .ne 29, 3) := by decide +kernel
theorem dX5_canBe_232 : decode cX5_canBe 232 = .ok (.iload 5, 2) := by decide +kernel
theorem dX5_canBe_234 : decode cX5_canBe 234 = .ok (.ifCond .ne 24, 3) := by decide +kernel
theorem dX5_canBe_237 : decode cX5_canBe 237 = .ok (.aload_n 0, 1) := by decide +kernel
theorem dX5_canBe_238 : decode cX5_canBe 238 = .ok (.getfield 35, 3) := by decide +kernel
theorem dX5_canBe_241 : decode cX5_canBe 241 = .ok (.aload_n 0, 1) := by decide +kernel
theorem dX5_canBe_242 : decode cX5_canBe 242 = .ok (.getfield 23, 3) := by decide +kernel
theorem dX5_canBe_245 : decode cX5_canBe 245 = .ok (.iconst 2, 1) := by decide +kernel
theorem dX5_canBe_246 : decode cX5_canBe 246 = .ok (.invokevirtual 96, 3) := by decide +kernel
theorem dX5_canBe_249 : decode cX5_canBe 249 = .ok (.iload 6, 2) := by decide +kernel
theorem dX5_canBe_251 : decode cX5_canBe 251 = .ok (.if_icmp .lt 7, 3) := by decide +kernel
theorem dX5_canBe_254 : decode cX5_canBe 254 = .ok (.iconst 1, 1) := by decide +kernel
theorem dX5_canBe_255 : decode cX5_canBe 255 = .ok (.goto 4, 3) := by decide +kernel
theorem dX5_canBe_258 : decode cX5_canBe 258 = .ok (.iconst 0, 1) := by decide +kernel
theorem dX5_canBe_259 : decode cX5_canBe 259 = .ok (.ireturn, 1) := by decide +kernel
theorem dX5_canBe_260 : decode cX5_canBe 260 = .ok (.iconst 0, 1) := by decide +kernel
theorem dX5_canBe_261 : decode cX5_canBe 261 = .ok (.ireturn, 1) := by decide +kernel
theorem dX5_canPaint_0 : decode cX5_canPaint 0 = .ok (.iload_n 1, 1) := by decide +kernel
theorem dX5_canPaint_1 : decode cX5_canPaint 1 = .ok (.invokestatic 127, 3) := by decide +kernel
theorem dX5_canPaint_4 : decode cX5_canPaint 4 = .ok (.ifCond .eq 25, 3) := by decide +kernel
theorem dX5_canPaint_7 : decode cX5_canPaint 7 = .ok (.aload_n 0, 1) := by decide +kernel
theorem dX5_canPaint_8 : decode cX5_canPaint 8 = .ok (.getfield 23, 3) := by decide +kernel
theorem dX5_canPaint_11 : decode cX5_canPaint 11 = .ok (.iload_n 2, 1) := by decide +kernel
theorem dX5_canPaint_12 : decode cX5_canPaint 12 = .ok (.invokevirtual 131, 3) := by decide +kernel
theorem dX5_canPaint_15 : decode cX5_canPaint 15 = .ok (.ifCond .eq 14, 3) := by decide +kernel
theorem dX5_canPaint_18 : decode cX5_canPaint 18 = .ok (.iload_n 3, 1) := by decide +kernel
theorem dX5_canPaint_19 : decode cX5_canPaint 19 = .ok (.invokestatic 137, 3) := by decide +kernel
theorem dX5_canPaint_22 : decode cX5_canPaint 22 = .ok (.ifCond .eq 7, 3) := by decide +kernel
theorem dX5_canPaint_25 : decode cX5_canPaint 25 = .ok (.iconst 1, 1) := by decide +kernel
theorem dX5_canPaint_26 : decode cX5_canPaint 26 = .ok (.goto 4, 3) := by decide +kernel
theorem dX5_canPaint_29 : decode cX5_canPaint 29 = .ok (.iconst 0, 1) := by decide +kernel
theorem dX5_canPaint_30 : decode cX5_canPaint 30 = .ok (.istore 4, 2) := by decide +kernel
theorem dX5_canPaint_32 : decode cX5_canPaint 32 = .ok (.iload 4, 2) := by decide +kernel
theorem dX5_canPaint_34 : decode cX5_canPaint 34 = .ok (.ifCond .eq 13, 3) := by decide +kernel
theorem dX5_canPaint_37 : decode cX5_canPaint 37 = .ok (.aload_n 0, 1) := by decide +kernel
theorem dX5_canPaint_38 : decode cX5_canPaint 38 = .ok (.getfield 23, 3) := by decide +kernel
theorem dX5_canPaint_41 : decode cX5_canPaint 41 = .ok (.iload_n 1, 1) := by decide +kernel
theorem dX5_canPaint_42 : decode cX5_canPaint 42 = .ok (.iload_n 2, 1) := by decide +kernel
theorem dX5_canPaint_43 : decode cX5_canPaint 43 = .ok (.iload_n 3, 1) := by decide +kernel
theorem dX5_canPaint_44 : decode cX5_canPaint 44 = .ok (.invokevirtual 189, 3) := by decide +kernel
theorem dX5_canPaint_47 : decode cX5_canPaint 47 = .ok (.iload 4, 2) := by decide +kernel
theorem dX5_canPaint_49 : decode cX5_canPaint 49 = .ok (.ireturn, 1) := by decide +kernel
theorem dX5_canLighten_0 : decode cX5_canLighten 0 = .ok (.iload_n 1, 1) := by decide +kernel
theorem dX5_canLighten_1 : decode cX5_canLighten 1 = .ok (.invokestatic 193, 3) := by decide +kernel
theorem dX5_canLighten_4 : decode cX5_canLighten 4 = .ok (.ifCond .eq 18, 3) := by decide +kernel
theorem dX5_canLighten_7 : decode cX5_canLighten 7 = .ok (.aload_n 0, 1) := by decide +kernel
theorem dX5_canLighten_8 : decode cX5_canLighten 8 = .ok (.getfield 23, 3) := by decide +kernel
theorem dX5_canLighten_11 : decode cX5_canLighten 11 = .ok (.iload_n 1, 1) := by decide +kernel
theorem dX5_canLighten_12 : decode cX5_canLighten 12 = .ok (.invokevirtual 196, 3) := by decide +kernel
theorem dX5_canLighten_15 : decode cX5_canLighten 15 = .ok (.ifCond .eq 7, 3) := by decide +kernel
theorem dX5_canLighten_18 : decode cX5_canLighten 18 = .ok (.iconst 1, 1) := by decide +kernel
theorem dX5_canLighten_19 : decode cX5_canLighten 19 = .ok (.goto 4, 3) := by decide +kernel
theorem dX5_canLighten_22 : decode cX5_canLighten 22 = .ok (.iconst 0, 1) := by decide +kernel
theorem dX5_canLighten_23 : decode cX5_canLighten 23 = .ok (.istore_n 2, 1) := by decide +kernel
theorem dX5_canLighten_24 : decode cX5_canLighten 24 = .ok (.iload_n 2, 1) := by decide +kernel
theorem dX5_canLighten_25 : decode cX5_canLighten 25 = .ok (.ifCond .eq 11, 3) := by decide +kernel
theorem dX5_canLighten_28 : decode cX5_canLighten 28 = .ok (.aload_n 0, 1) := by decide +kernel
theorem dX5_canLighten_29 : decode cX5_canLighten 29 = .ok (.getfield 23, 3) := by decide +kernel
theorem dX5_canLighten_32 : decode cX5_canLighten 32 = .ok (.iload_n 1, 1) := by decide +kernel
theorem dX5_canLighten_33 : decode cX5_canLighten 33 = .ok (.invokevirtual 199, 3) := by decide +kernel
theorem dX5_canLighten_36 : decode cX5_canLighten 36 = .ok (.iload_n 2, 1) := by decide +kernel
theorem dX5_canLighten_37 : decode cX5_canLighten 37 = .ok (.ireturn, 1) := by decide +kernel
theorem dX5_canRule_0 : decode cX5_canRule 0 = .ok (.iload_n 1, 1) := by decide +kernel
theorem dX5_canRule_1 : decode cX5_canRule 1 = .ok (.iload_n 2, 1) := by decide +kernel
theorem dX5_canRule_2 : decode cX5_canRule 2 = .ok (.iload_n 3, 1) := by decide +kernel
theorem dX5_canRule_3 : decode cX5_canRule 3 = .ok (.invokestatic 203, 3) := by decide +kernel
theorem dX5_canRule_6 : decode cX5_canRule 6 = .ok (.istore 4, 2) := by decide +kernel
theorem dX5_canRule_8 : decode cX5_canRule 8 = .ok (.iload 4, 2) := by decide +kernel
theorem dX5_canRule_10 : decode cX5_canRule 10 = .ok (.ifCond .eq 13, 3) := by decide +kernel
theorem dX5_canRule_13 : decode cX5_canRule 13 = .ok (.aload_n 0, 1) := by decide +kernel
theorem dX5_canRule_14 : decode cX5_canRule 14 = .ok (.getfield 23, 3) := by decide +kernel
theorem dX5_canRule_17 : decode cX5_canRule 17 = .ok (.iload_n 1, 1) := by decide +kernel
theorem dX5_canRule_18 : decode cX5_canRule 18 = .ok (.iload_n 2, 1) := by decide +kernel
theorem dX5_canRule_19 : decode cX5_canRule 19 = .ok (.iload_n 3, 1) := by decide +kernel
theorem dX5_canRule_20 : decode cX5_canRule 20 = .ok (.invokevirtual 207, 3) := by decide +kernel
theorem dX5_canRule_23 : decode cX5_canRule 23 = .ok (.iload 4, 2) := by decide +kernel
theorem dX5_canRule_25 : decode cX5_canRule 25 = .ok (.ireturn, 1) := by decide +kernel
theorem dX5_canTable_0 : decode cX5_canTable 0 = .ok (.iload_n 1, 1) := by decide +kernel
theorem dX5_canTable_1 : decode cX5_canTable 1 = .ok (.invokestatic 137, 3) := by decide +kernel
theorem dX5_canTable_4 : decode cX5_canTable 4 = .ok (.ifCond .eq 14, 3) := by decide +kernel
theorem dX5_canTable_7 : decode cX5_canTable 7 = .ok (.iload_n 2, 1) := by decide +kernel
theorem dX5_canTable_8 : decode cX5_canTable 8 = .ok (.invokestatic 137, 3) := by decide +kernel
theorem dX5_canTable_11 : decode cX5_canTable 11 = .ok (.ifCond .eq 7, 3) := by decide +kernel
theorem dX5_canTable_14 : decode cX5_canTable 14 = .ok (.iconst 1, 1) := by decide +kernel
theorem dX5_canTable_15 : decode cX5_canTable 15 = .ok (.goto 4, 3) := by decide +kernel
theorem dX5_canTable_18 : decode cX5_canTable 18 = .ok (.iconst 0, 1) := by decide +kernel
theorem dX5_canTable_19 : decode cX5_canTable 19 = .ok (.istore_n 3, 1) := by decide +kernel
theorem dX5_canTable_20 : decode cX5_canTable 20 = .ok (.iload_n 3, 1) := by decide +kernel
theorem dX5_canTable_21 : decode cX5_canTable 21 = .ok (.ifCond .eq 12, 3) := by decide +kernel
theorem dX5_canTable_24 : decode cX5_canTable 24 = .ok (.aload_n 0, 1) := by decide +kernel
theorem dX5_canTable_25 : decode cX5_canTable 25 = .ok (.getfield 23, 3) := by decide +kernel
theorem dX5_canTable_28 : decode cX5_canTable 28 = .ok (.iload_n 1, 1) := by decide +kernel
theorem dX5_canTable_29 : decode cX5_canTable 29 = .ok (.iload_n 2, 1) := by decide +kernel
theorem dX5_canTable_30 : decode cX5_canTable 30 = .ok (.invokevirtual 210, 3) := by decide +kernel
theorem dX5_canTable_33 : decode cX5_canTable 33 = .ok (.iload_n 3, 1) := by decide +kernel
theorem dX5_canTable_34 : decode cX5_canTable 34 = .ok (.ireturn, 1) := by decide +kernel
theorem dX5_canLay_0 : decode cX5_canLay 0 = .ok (.iload_n 1, 1) := by decide +kernel
theorem dX5_canLay_1 : decode cX5_canLay 1 = .ok (.iload_n 2, 1) := by decide +kernel
theorem dX5_canLay_2 : decode cX5_canLay 2 = .ok (.invokestatic 214, 3) := by decide +kernel
theorem dX5_canLay_5 : decode cX5_canLay 5 = .ok (.istore_n 3, 1) := by decide +kernel
theorem dX5_canLay_6 : decode cX5_canLay 6 = .ok (.iload_n 3, 1) := by decide +kernel
theorem dX5_canLay_7 : decode cX5_canLay 7 = .ok (.ifCond .eq 12, 3) := by decide +kernel
theorem dX5_canLay_10 : decode cX5_canLay 10 = .ok (.aload_n 0, 1) := by decide +kernel
theorem dX5_canLay_11 : decode cX5_canLay 11 = .ok (.getfield 23, 3) := by decide +kernel
theorem dX5_canLay_14 : decode cX5_canLay 14 = .ok (.iload_n 1, 1) := by decide +kernel
theorem dX5_canLay_15 : decode cX5_canLay 15 = .ok (.iload_n 2, 1) := by decide +kernel
theorem dX5_canLay_16 : decode cX5_canLay 16 = .ok (.invokevirtual 218, 3) := by decide +kernel
theorem dX5_canLay_19 : decode cX5_canLay 19 = .ok (.iload_n 3, 1) := by decide +kernel
theorem dX5_canLay_20 : decode cX5_canLay 20 = .ok (.ireturn, 1) := by decide +kernel
theorem dX5_isSoMarked_0 : decode cX5_isSoMarked 0 = .ok (.aload_n 0, 1) := by decide +kernel
theorem dX5_isSoMarked_1 : decode cX5_isSoMarked 1 = .ok (.getfield 23, 3) := by decide +kernel
theorem dX5_isSoMarked_4 : decode cX5_isSoMarked 4 = .ok (.iload_n 1, 1) := by decide +kernel
theorem dX5_isSoMarked_5 : decode cX5_isSoMarked 5 = .ok (.invokevirtual 131, 3) := by decide +kernel
theorem dX5_isSoMarked_8 : decode cX5_isSoMarked 8 = .ok (.ifCond .eq 8, 3) := by decide +kernel
theorem dX5_isSoMarked_11 : decode cX5_isSoMarked 11 = .ok (.iload_n 2, 1) := by decide +kernel
theorem dX5_isSoMarked_12 : decode cX5_isSoMarked 12 = .ok (.iconst 1, 1) := by decide +kernel
theorem dX5_isSoMarked_13 : decode cX5_isSoMarked 13 = .ok (.if_icmp .le 5, 3) := by decide +kernel
theorem dX5_isSoMarked_16 : decode cX5_isSoMarked 16 = .ok (.iconst 0, 1) := by decide +kernel
theorem dX5_isSoMarked_17 : decode cX5_isSoMarked 17 = .ok (.ireturn, 1) := by decide +kernel
theorem dX5_isSoMarked_18 : decode cX5_isSoMarked 18 = .ok (.aload_n 0, 1) := by decide +kernel
theorem dX5_isSoMarked_19 : decode cX5_isSoMarked 19 = .ok (.getfield 35, 3) := by decide +kernel
theorem dX5_isSoMarked_22 : decode cX5_isSoMarked 22 = .ok (.aload_n 0, 1) := by decide +kernel
theorem dX5_isSoMarked_23 : decode cX5_isSoMarked 23 = .ok (.getfield 23, 3) := by decide +kernel
theorem dX5_isSoMarked_26 : decode cX5_isSoMarked 26 = .ok (.iload_n 1, 1) := by decide +kernel
theorem dX5_isSoMarked_27 : decode cX5_isSoMarked 27 = .ok (.aload_n 0, 1) := by decide +kernel
theorem dX5_isSoMarked_28 : decode cX5_isSoMarked 28 = .ok (.getfield 23, 3) := by decide +kernel
theorem dX5_isSoMarked_31 : decode cX5_isSoMarked 31 = .ok (.getfield 106, 3) := by decide +kernel
theorem dX5_isSoMarked_34 : decode cX5_isSoMarked 34 = .ok (.invokevirtual 143, 3) := by decide +kernel
theorem dX5_isSoMarked_37 : decode cX5_isSoMarked 37 = .ok (.aload_n 0, 1) := by decide +kernel
theorem dX5_isSoMarked_38 : decode cX5_isSoMarked 38 = .ok (.getfield 35, 3) := by decide +kernel
theorem dX5_isSoMarked_41 : decode cX5_isSoMarked 41 = .ok (.iload_n 1, 1) := by decide +kernel
theorem dX5_isSoMarked_42 : decode cX5_isSoMarked 42 = .ok (.aload_n 0, 1) := by decide +kernel
theorem dX5_isSoMarked_43 : decode cX5_isSoMarked 43 = .ok (.getfield 23, 3) := by decide +kernel
theorem dX5_isSoMarked_46 : decode cX5_isSoMarked 46 = .ok (.getfield 109, 3) := by decide +kernel
theorem dX5_isSoMarked_49 : decode cX5_isSoMarked 49 = .ok (.invokevirtual 163, 3) := by decide +kernel
theorem dX5_isSoMarked_52 : decode cX5_isSoMarked 52 = .ok (.iconst 2, 1) := by decide +kernel
theorem dX5_isSoMarked_53 : decode cX5_isSoMarked 53 = .ok (.if_icmp .ne 7, 3) := by decide +kernel
theorem dX5_isSoMarked_56 : decode cX5_isSoMarked 56 = .ok (.iconst 1, 1) := by decide +kernel
theorem dX5_isSoMarked_57 : decode cX5_isSoMarked 57 = .ok (.goto 4, 3) := by decide +kernel
theorem dX5_isSoMarked_60 : decode cX5_isSoMarked 60 = .ok (.iconst 0, 1) := by decide +kernel
theorem dX5_isSoMarked_61 : decode cX5_isSoMarked 61 = .ok (.istore_n 3, 1) := by decide +kernel
theorem dX5_isSoMarked_62 : decode cX5_isSoMarked 62 = .ok (.iload_n 3, 1) := by decide +kernel
theorem dX5_isSoMarked_63 : decode cX5_isSoMarked 63 = .ok (.iload_n 2, 1) := by decide +kernel
theorem dX5_isSoMarked_64 : decode cX5_isSoMarked 64 = .ok (.iconst 1, 1) := by decide +kernel
theorem dX5_isSoMarked_65 : decode cX5_isSoMarked 65 = .ok (.if_icmp .ne 7, 3) := by decide +kernel
theorem dX5_isSoMarked_68 : decode cX5_isSoMarked 68 = .ok (.iconst 1, 1) := by decide +kernel
theorem dX5_isSoMarked_69 : decode cX5_isSoMarked 69 = .ok (.goto 4, 3) := by decide +kernel
theorem dX5_isSoMarked_72 : decode cX5_isSoMarked 72 = .ok (.iconst 0, 1) := by decide +kernel
theorem dX5_isSoMarked_73 : decode cX5_isSoMarked 73 = .ok (.if_icmp .ne 7, 3) := by decide +kernel
theorem dX5_isSoMarked_76 : decode cX5_isSoMarked 76 = .ok (.iconst 1, 1) := by decide +kernel
theorem dX5_isSoMarked_77 : decode cX5_isSoMarked 77 = .ok (.goto 4, 3) := by decide +kernel
theorem dX5_isSoMarked_80 : decode cX5_isSoMarked 80 = .ok (.iconst 0, 1) := by decide +kernel
theorem dX5_isSoMarked_81 : decode cX5_isSoMarked 81 = .ok (.ireturn, 1) := by decide +kernel
theorem dX5_fraction_0 : decode cX5_fraction 0 = .ok (.iload_n 0, 1) := by decide +kernel
theorem dX5_fraction_1 : decode cX5_fraction 1 = .ok (.invokestatic 314, 3) := by decide +kernel
theorem dX5_fraction_4 : decode cX5_fraction 4 = .ok (.iload_n 1, 1) := by decide +kernel
theorem dX5_fraction_5 : decode cX5_fraction 5 = .ok (.invokestatic 319, 3) := by decide +kernel
theorem dX5_fraction_8 : decode cX5_fraction 8 = .ok (.istore_n 3, 1) := by decide +kernel
theorem dX5_fraction_9 : decode cX5_fraction 9 = .ok (.iload_n 3, 1) := by decide +kernel
theorem dX5_fraction_10 : decode cX5_fraction 10 = .ok (.ifCond .ne 5, 3) := by decide +kernel
theorem dX5_fraction_13 : decode cX5_fraction 13 = .ok (.iconst 0, 1) := by decide +kernel
theorem dX5_fraction_14 : decode cX5_fraction 14 = .ok (.ireturn, 1) := by decide +kernel
theorem dX5_fraction_15 : decode cX5_fraction 15 = .ok (.iload_n 2, 1) := by decide +kernel
theorem dX5_fraction_16 : decode cX5_fraction 16 = .ok (.ifCond .eq 9, 3) := by decide +kernel
theorem dX5_fraction_19 : decode cX5_fraction 19 = .ok (.iload_n 0, 1) := by decide +kernel
theorem dX5_fraction_20 : decode cX5_fraction 20 = .ok (.iload_n 3, 1) := by decide +kernel
theorem dX5_fraction_21 : decode cX5_fraction 21 = .ok (.idiv, 1) := by decide +kernel
theorem dX5_fraction_22 : decode cX5_fraction 22 = .ok (.goto 6, 3) := by decide +kernel
theorem dX5_fraction_25 : decode cX5_fraction 25 = .ok (.iload_n 1, 1) := by decide +kernel
theorem dX5_fraction_26 : decode cX5_fraction 26 = .ok (.iload_n 3, 1) := by decide +kernel
theorem dX5_fraction_27 : decode cX5_fraction 27 = .ok (.idiv, 1) := by decide +kernel
theorem dX5_fraction_28 : decode cX5_fraction 28 = .ok (.ireturn, 1) := by decide +kernel
theorem dX5_commonDivisor_0 : decode cX5_commonDivisor 0 = .ok (.iload_n 0, 1) := by decide +kernel
theorem dX5_commonDivisor_1 : decode cX5_commonDivisor 1 = .ok (.istore_n 2, 1) := by decide +kernel
theorem dX5_commonDivisor_2 : decode cX5_commonDivisor 2 = .ok (.iload_n 1, 1) := by decide +kernel
theorem dX5_commonDivisor_3 : decode cX5_commonDivisor 3 = .ok (.istore_n 3, 1) := by decide +kernel
theorem dX5_commonDivisor_4 : decode cX5_commonDivisor 4 = .ok (.iconst 0, 1) := by decide +kernel
theorem dX5_commonDivisor_5 : decode cX5_commonDivisor 5 = .ok (.istore 4, 2) := by decide +kernel
theorem dX5_commonDivisor_7 : decode cX5_commonDivisor 7 = .ok (.iload 4, 2) := by decide +kernel
theorem dX5_commonDivisor_9 : decode cX5_commonDivisor 9 = .ok (.bipush 64, 2) := by decide +kernel
theorem dX5_commonDivisor_11 : decode cX5_commonDivisor 11 = .ok (.if_icmp .ge 23, 3) := by decide +kernel
theorem dX5_commonDivisor_14 : decode cX5_commonDivisor 14 = .ok (.iload_n 3, 1) := by decide +kernel
theorem dX5_commonDivisor_15 : decode cX5_commonDivisor 15 = .ok (.ifCond .eq 19, 3) := by decide +kernel
theorem dX5_commonDivisor_18 : decode cX5_commonDivisor 18 = .ok (.iload_n 2, 1) := by decide +kernel
theorem dX5_commonDivisor_19 : decode cX5_commonDivisor 19 = .ok (.iload_n 3, 1) := by decide +kernel
theorem dX5_commonDivisor_20 : decode cX5_commonDivisor 20 = .ok (.irem, 1) := by decide +kernel
theorem dX5_commonDivisor_21 : decode cX5_commonDivisor 21 = .ok (.istore 5, 2) := by decide +kernel
theorem dX5_commonDivisor_23 : decode cX5_commonDivisor 23 = .ok (.iload_n 3, 1) := by decide +kernel
theorem dX5_commonDivisor_24 : decode cX5_commonDivisor 24 = .ok (.istore_n 2, 1) := by decide +kernel
theorem dX5_commonDivisor_25 : decode cX5_commonDivisor 25 = .ok (.iload 5, 2) := by decide +kernel
theorem dX5_commonDivisor_27 : decode cX5_commonDivisor 27 = .ok (.istore_n 3, 1) := by decide +kernel
theorem dX5_commonDivisor_28 : decode cX5_commonDivisor 28 = .ok (.iinc 4 1, 3) := by decide +kernel
theorem dX5_commonDivisor_31 : decode cX5_commonDivisor 31 = .ok (.goto (-24), 3) := by decide +kernel
theorem dX5_commonDivisor_34 : decode cX5_commonDivisor 34 = .ok (.iload_n 2, 1) := by decide +kernel
theorem dX5_commonDivisor_35 : decode cX5_commonDivisor 35 = .ok (.ireturn, 1) := by decide +kernel
theorem dX5_remainder_0 : decode cX5_remainder 0 = .ok (.iload_n 1, 1) := by decide +kernel
theorem dX5_remainder_1 : decode cX5_remainder 1 = .ok (.ifCond .ne 7, 3) := by decide +kernel
theorem dX5_remainder_4 : decode cX5_remainder 4 = .ok (.iconst 0, 1) := by decide +kernel
theorem dX5_remainder_5 : decode cX5_remainder 5 = .ok (.goto 6, 3) := by decide +kernel
theorem dX5_remainder_8 : decode cX5_remainder 8 = .ok (.iload_n 0, 1) := by decide +kernel
theorem dX5_remainder_9 : decode cX5_remainder 9 = .ok (.iload_n 1, 1) := by decide +kernel
theorem dX5_remainder_10 : decode cX5_remainder 10 = .ok (.irem, 1) := by decide +kernel
theorem dX5_remainder_11 : decode cX5_remainder 11 = .ok (.ireturn, 1) := by decide +kernel
theorem dX5_factorial_0 : decode cX5_factorial 0 = .ok (.iload_n 0, 1) := by decide +kernel
theorem dX5_factorial_1 : decode cX5_factorial 1 = .ok (.ifCond .lt 19, 3) := by decide +kernel
theorem dX5_factorial_4 : decode cX5_factorial 4 = .ok (.iload_n 0, 1) := by decide +kernel
theorem dX5_factorial_5 : decode cX5_factorial 5 = .ok (.getstatic 322, 3) := by decide +kernel
theorem dX5_factorial_8 : decode cX5_factorial 8 = .ok (.arraylength, 1) := by decide +kernel
theorem dX5_factorial_9 : decode cX5_factorial 9 = .ok (.if_icmp .ge 11, 3) := by decide +kernel
theorem dX5_factorial_12 : decode cX5_factorial 12 = .ok (.getstatic 322, 3) := by decide +kernel
theorem dX5_factorial_15 : decode cX5_factorial 15 = .ok (.iload_n 0, 1) := by decide +kernel
theorem dX5_factorial_16 : decode cX5_factorial 16 = .ok (.iaload, 1) := by decide +kernel
theorem dX5_factorial_17 : decode cX5_factorial 17 = .ok (.goto 4, 3) := by decide +kernel
theorem dX5_factorial_20 : decode cX5_factorial 20 = .ok (.iconst 0, 1) := by decide +kernel
theorem dX5_factorial_21 : decode cX5_factorial 21 = .ok (.ireturn, 1) := by decide +kernel
theorem dX5_power_0 : decode cX5_power 0 = .ok (.iconst 1, 1) := by decide +kernel
theorem dX5_power_1 : decode cX5_power 1 = .ok (.istore_n 2, 1) := by decide +kernel
theorem dX5_power_2 : decode cX5_power 2 = .ok (.iconst 0, 1) := by decide +kernel
theorem dX5_power_3 : decode cX5_power 3 = .ok (.istore_n 3, 1) := by decide +kernel
theorem dX5_power_4 : decode cX5_power 4 = .ok (.iload_n 3, 1) := by decide +kernel
theorem dX5_power_5 : decode cX5_power 5 = .ok (.iload_n 1, 1) := by decide +kernel
theorem dX5_power_6 : decode cX5_power 6 = .ok (.if_icmp .ge 13, 3) := by decide +kernel
theorem dX5_power_9 : decode cX5_power 9 = .ok (.iload_n 2, 1) := by decide +kernel
theorem dX5_power_10 : decode cX5_power 10 = .ok (.iload_n 0, 1) := by decide +kernel
theorem dX5_power_11 : decode cX5_power 11 = .ok (.imul, 1) := by decide +kernel
theorem dX5_power_12 : decode cX5_power 12 = .ok (.istore_n 2, 1) := by decide +kernel
theorem dX5_power_13 : decode cX5_power 13 = .ok (.iinc 3 1, 3) := by decide +kernel
theorem dX5_power_16 : decode cX5_power 16 = .ok (.goto (-12), 3) := by decide +kernel
theorem dX5_power_19 : decode cX5_power 19 = .ok (.iload_n 2, 1) := by decide +kernel
theorem dX5_power_20 : decode cX5_power 20 = .ok (.ireturn, 1) := by decide +kernel
end
section
theorem dX6_init_0 : decode cX6_init 0 = .ok (.aload_n 0, 1) := by decide +kernel
theorem dX6_init_1 : decode cX6_init 1 = .ok (.invokespecial 1, 3) := by decide +kernel
theorem dX6_init_4 : decode cX6_init 4 = .ok (.aload_n 0, 1) := by decide +kernel
theorem dX6_init_5 : decode cX6_init 5 = .ok (.bipush 56, 2) := by decide +kernel
theorem dX6_init_7 : decode cX6_init 7 = .ok (.newarray .int, 2) := by decide +kernel
theorem dX6_init_9 : decode cX6_init 9 = .ok (.putfield 7, 3) := by decide +kernel
theorem dX6_init_12 : decode cX6_init 12 = .ok (.aload_n 0, 1) := by decide +kernel
theorem dX6_init_13 : decode cX6_init 13 = .ok (.bipush 67, 2) := by decide +kernel
theorem dX6_init_15 : decode cX6_init 15 = .ok (.newarray .int, 2) := by decide +kernel
theorem dX6_init_17 : decode cX6_init 17 = .ok (.putfield 13, 3) := by decide +kernel
theorem dX6_init_20 : decode cX6_init 20 = .ok (.aload_n 0, 1) := by decide +kernel
theorem dX6_init_21 : decode cX6_init 21 = .ok (.bipush 67, 2) := by decide +kernel
theorem dX6_init_23 : decode cX6_init 23 = .ok (.newarray .int, 2) := by decide +kernel
theorem dX6_init_25 : decode cX6_init 25 = .ok (.putfield 16, 3) := by decide +kernel
theorem dX6_init_28 : decode cX6_init 28 = .ok (.aload_n 0, 1) := by decide +kernel
theorem dX6_init_29 : decode cX6_init 29 = .ok (.bipush 67, 2) := by decide +kernel
theorem dX6_init_31 : decode cX6_init 31 = .ok (.newarray .int, 2) := by decide +kernel
theorem dX6_init_33 : decode cX6_init 33 = .ok (.putfield 19, 3) := by decide +kernel
theorem dX6_init_36 : decode cX6_init 36 = .ok (.aload_n 0, 1) := by decide +kernel
theorem dX6_init_37 : decode cX6_init 37 = .ok (.sipush 938, 3) := by decide +kernel
theorem dX6_init_40 : decode cX6_init 40 = .ok (.newarray .int, 2) := by decide +kernel
theorem dX6_init_42 : decode cX6_init 42 = .ok (.putfield 22, 3) := by decide +kernel
theorem dX6_init_45 : decode cX6_init 45 = .ok (.aload_n 0, 1) := by decide +kernel
theorem dX6_init_46 : decode cX6_init 46 = .ok (.sipush 134, 3) := by decide +kernel
theorem dX6_init_49 : decode cX6_init 49 = .ok (.newarray .int, 2) := by decide +kernel
theorem dX6_init_51 : decode cX6_init 51 = .ok (.putfield 25, 3) := by decide +kernel
theorem dX6_init_54 : decode cX6_init 54 = .ok (.aload_n 0, 1) := by decide +kernel
theorem dX6_init_55 : decode cX6_init 55 = .ok (.iconst 2, 1) := by decide +kernel
theorem dX6_init_56 : decode cX6_init 56 = .ok (.newarray .boolean, 2) := by decide +kernel
theorem dX6_init_58 : decode cX6_init 58 = .ok (.putfield 28, 3) := by decide +kernel
theorem dX6_init_61 : decode cX6_init 61 = .ok (.aload_n 0, 1) := by decide +kernel
theorem dX6_init_62 : decode cX6_init 62 = .ok (.bipush 6, 2) := by decide +kernel
theorem dX6_init_64 : decode cX6_init 64 = .ok (.newarray .int, 2) := by decide +kernel
theorem dX6_init_66 : decode cX6_init 66 = .ok (.putfield 32, 3) := by decide +kernel
theorem dX6_init_69 : decode cX6_init 69 = .ok (.aload_n 0, 1) := by decide +kernel
theorem dX6_init_70 : decode cX6_init 70 = .ok (.bipush 6, 2) := by decide +kernel
theorem dX6_init_72 : decode cX6_init 72 = .ok (.newarray .int, 2) := by decide +kernel
theorem dX6_init_74 : decode cX6_init 74 = .ok (.putfield 35, 3) := by decide +kernel
theorem dX6_init_77 : decode cX6_init 77 = .ok (.aload_n 0, 1) := by decide +kernel
theorem dX6_init_78 : decode cX6_init 78 = .ok (.bipush 32, 2) := by decide +kernel
theorem dX6_init_80 : decode cX6_init 80 = .ok (.newarray .int, 2) := by decide +kernel
theorem dX6_init_82 : decode cX6_init 82 = .ok (.putfield 38, 3) := by decide +kernel
theorem dX6_init_85 : decode cX6_init 85 = .ok (.aload_n 0, 1) := by decide +kernel
theorem dX6_init_86 : decode cX6_init 86 = .ok (.getfield 16, 3) := by decide +kernel
theorem dX6_init_89 : decode cX6_init 89 = .ok (.iconst 0, 1) := by decide +kernel
theorem dX6_init_90 : decode cX6_init 90 = .ok (.iconst 1, 1) := by decide +kernel
theorem dX6_init_91 : decode cX6_init 91 = .ok (.iastore, 1) := by decide +kernel
theorem dX6_init_92 : decode cX6_init 92 = .ok (.aload_n 0, 1) := by decide +kernel
theorem dX6_init_93 : decode cX6_init 93 = .ok (.getfield 16, 3) := by decide +kernel
theorem dX6_init_96 : decode cX6_init 96 = .ok (.iconst 1, 1) := by decide +kernel
theorem dX6_init_97 : decode cX6_init 97 = .ok (.iconst 1, 1) := by decide +kernel
theorem dX6_init_98 : decode cX6_init 98 = .ok (.iastore, 1) := by decide +kernel
theorem dX6_init_99 : decode cX6_init 99 = .ok (.aload_n 0, 1) := by decide +kernel
theorem dX6_init_100 : decode cX6_init 100 = .ok (.getfield 16, 3) := by decide +kernel
theorem dX6_init_103 : decode cX6_init 103 = .ok (.iconst 2, 1) := by decide +kernel
theorem dX6_init_104 : decode cX6_init 104 = .ok (.bipush 9, 2) := by decide +kernel
theorem dX6_init_106 : decode cX6_init 106 = .ok (.iastore, 1) := by decide +kernel
theorem dX6_init_107 : decode cX6_init 107 = .ok (.aload_n 0, 1) := by decide +kernel
theorem dX6_init_108 : decode cX6_init 108 = .ok (.getfield 16, 3) := by decide +kernel
theorem dX6_init_111 : decode cX6_init 111 = .ok (.bipush 27, 2) := by decide +kernel
theorem dX6_init_113 : decode cX6_init 113 = .ok (.bipush 9, 2) := by decide +kernel
theorem dX6_init_115 : decode cX6_init 115 = .ok (.iastore, 1) := by decide +kernel
theorem dX6_init_116 : decode cX6_init 116 = .ok (.aload_n 0, 1) := by decide +kernel
theorem dX6_init_117 : decode cX6_init 117 = .ok (.getfield 16, 3) := by decide +kernel
theorem dX6_init_120 : decode cX6_init 120 = .ok (.invokestatic 41, 3) := by decide +kernel
theorem dX6_init_123 : decode cX6_init 123 = .ok (.return_, 1) := by decide +kernel
theorem dX6_in_0 : decode cX6_in 0 = .ok (.lload_n 0, 1) := by decide +kernel
theorem dX6_in_1 : decode cX6_in 1 = .ok (.lload_n 2, 1) := by decide +kernel
theorem dX6_in_2 : decode cX6_in 2 = .ok (.lcmp, 1) := by decide +kernel
theorem dX6_in_3 : decode cX6_in 3 = .ok (.ifCond .lt 14, 3) := by decide +kernel
theorem dX6_in_6 : decode cX6_in 6 = .ok (.lload_n 0, 1) := by decide +kernel
theorem dX6_in_7 : decode cX6_in 7 = .ok (.lload 4, 2) := by decide +kernel
theorem dX6_in_9 : decode cX6_in 9 = .ok (.lcmp, 1) := by decide +kernel
theorem dX6_in_10 : decode cX6_in 10 = .ok (.ifCond .gt 7, 3) := by decide +kernel
theorem dX6_in_13 : decode cX6_in 13 = .ok (.iconst 1, 1) := by decide +kernel
theorem dX6_in_14 : decode cX6_in 14 = .ok (.goto 4, 3) := by decide +kernel
theorem dX6_in_17 : decode cX6_in 17 = .ok (.iconst 0, 1) := by decide +kernel
theorem dX6_in_18 : decode cX6_in 18 = .ok (.ireturn, 1) := by decide +kernel
theorem dX6_has_0 : decode cX6_has 0 = .ok (.iload_n 0, 1) := by decide +kernel
theorem dX6_has_1 : decode cX6_has 1 = .ok (.iload_n 1, 1) := by decide +kernel
theorem dX6_has_2 : decode cX6_has 2 = .ok (.ishr, 1) := by decide +kernel
theorem dX6_has_3 : decode cX6_has 3 = .ok (.iconst 1, 1) := by decide +kernel
theorem dX6_has_4 : decode cX6_has 4 = .ok (.iand, 1) := by decide +kernel
theorem dX6_has_5 : decode cX6_has 5 = .ok (.iconst 1, 1) := by decide +kernel
theorem dX6_has_6 : decode cX6_has 6 = .ok (.if_icmp .ne 7, 3) := by decide +kernel
theorem dX6_has_9 : decode cX6_has 9 = .ok (.iconst 1, 1) := by decide +kernel
theorem dX6_has_10 : decode cX6_has 10 = .ok (.goto 4, 3) := by decide +kernel
theorem dX6_has_13 : decode cX6_has 13 = .ok (.iconst 0, 1) := by decide +kernel
theorem dX6_has_14 : decode cX6_has 14 = .ok (.ireturn, 1) := by decide +kernel
theorem dX6_many_0 : decode cX6_many 0 = .ok (.iconst 0, 1) := by decide +kernel
theorem dX6_many_1 : decode cX6_many 1 = .ok (.istore_n 1, 1) := by decide +kernel
theorem dX6_many_2 : decode cX6_many 2 = .ok (.iconst 0, 1) := by decide +kernel
theorem dX6_many_3 : decode cX6_many 3 = .ok (.istore_n 2, 1) := by decide +kernel
theorem dX6_many_4 : decode cX6_many 4 = .ok (.iload_n 2, 1) := by decide +kernel
theorem dX6_many_5 : decode cX6_many 5 = .ok (.bipush 25, 2) := by decide +kernel
theorem dX6_many_7 : decode cX6_many 7 = .ok (.if_icmp .ge 17, 3) := by decide +kernel
theorem dX6_many_10 : decode cX6_many 10 = .ok (.iload_n 1, 1) := by decide +kernel
theorem dX6_many_11 : decode cX6_many 11 = .ok (.iload_n 0, 1) := by decide +kernel
theorem dX6_many_12 : decode cX6_many 12 = .ok (.iload_n 2, 1) := by decide +kernel
theorem dX6_many_13 : decode cX6_many 13 = .ok (.ishr, 1) := by decide +kernel
theorem dX6_many_14 : decode cX6_many 14 = .ok (.iconst 1, 1) := by decide +kernel
theorem dX6_many_15 : decode cX6_many 15 = .ok (.iand, 1) := by decide +kernel
theorem dX6_many_16 : decode cX6_many 16 = .ok (.iadd, 1) := by decide +kernel
theorem dX6_many_17 : decode cX6_many 17 = .ok (.istore_n 1, 1) := by decide +kernel
theorem dX6_many_18 : decode cX6_many 18 = .ok (.iinc 2 1, 3) := by decide +kernel
theorem dX6_many_21 : decode cX6_many 21 = .ok (.goto (-17), 3) := by decide +kernel
theorem dX6_many_24 : decode cX6_many 24 = .ok (.iload_n 1, 1) := by decide +kernel
theorem dX6_many_25 : decode cX6_many 25 = .ok (.ireturn, 1) := by decide +kernel
theorem dX6_power_0 : decode cX6_power 0 = .ok (.iconst 1, 1) := by decide +kernel
theorem dX6_power_1 : decode cX6_power 1 = .ok (.istore_n 2, 1) := by decide +kernel
theorem dX6_power_2 : decode cX6_power 2 = .ok (.iconst 0, 1) := by decide +kernel
theorem dX6_power_3 : decode cX6_power 3 = .ok (.istore_n 3, 1) := by decide +kernel
theorem dX6_power_4 : decode cX6_power 4 = .ok (.iload_n 3, 1) := by decide +kernel
theorem dX6_power_5 : decode cX6_power 5 = .ok (.iload_n 1, 1) := by decide +kernel
theorem dX6_power_6 : decode cX6_power 6 = .ok (.if_icmp .ge 13, 3) := by decide +kernel
theorem dX6_power_9 : decode cX6_power 9 = .ok (.iload_n 2, 1) := by decide +kernel
theorem dX6_power_10 : decode cX6_power 10 = .ok (.iload_n 0, 1) := by decide +kernel
theorem dX6_power_11 : decode cX6_power 11 = .ok (.imul, 1) := by decide +kernel
theorem dX6_power_12 : decode cX6_power 12 = .ok (.istore_n 2, 1) := by decide +kernel
theorem dX6_power_13 : decode cX6_power 13 = .ok (.iinc 3 1, 3) := by decide +kernel
theorem dX6_power_16 : decode cX6_power 16 = .ok (.goto (-12), 3) := by decide +kernel
theorem dX6_power_19 : decode cX6_power 19 = .ok (.iload_n 2, 1) := by decide +kernel
theorem dX6_power_20 : decode cX6_power 20 = .ok (.ireturn, 1) := by decide +kernel
theorem dX6_divisor_0 : decode cX6_divisor 0 = .ok (.iload_n 0, 1) := by decide +kernel
theorem dX6_divisor_1 : decode cX6_divisor 1 = .ok (.ifCond .ge 8, 3) := by decide +kernel
theorem dX6_divisor_4 : decode cX6_divisor 4 = .ok (.iload_n 0, 1) := by decide +kernel
theorem dX6_divisor_5 : decode cX6_divisor 5 = .ok (.ineg, 1) := by decide +kernel
theorem dX6_divisor_6 : decode cX6_divisor 6 = .ok (.goto 4, 3) := by decide +kernel
theorem dX6_divisor_9 : decode cX6_divisor 9 = .ok (.iload_n 0, 1) := by decide +kernel
theorem dX6_divisor_10 : decode cX6_divisor 10 = .ok (.istore_n 2, 1) := by decide +kernel
theorem dX6_divisor_11 : decode cX6_divisor 11 = .ok (.iload_n 1, 1) := by decide +kernel
theorem dX6_divisor_12 : decode cX6_divisor 12 = .ok (.istore_n 3, 1) := by decide +kernel
theorem dX6_divisor_13 : decode cX6_divisor 13 = .ok (.iload_n 3, 1) := by decide +kernel
theorem dX6_divisor_14 : decode cX6_divisor 14 = .ok (.ifCond .eq 16, 3) := by decide +kernel
theorem dX6_divisor_17 : decode cX6_divisor 17 = .ok (.iload_n 2, 1) := by decide +kernel
theorem dX6_divisor_18 : decode cX6_divisor 18 = .ok (.iload_n 3, 1) := by decide +kernel
theorem dX6_divisor_19 : decode cX6_divisor 19 = .ok (.irem, 1) := by decide +kernel
theorem dX6_divisor_20 : decode cX6_divisor 20 = .ok (.istore 4, 2) := by decide +kernel
theorem dX6_divisor_22 : decode cX6_divisor 22 = .ok (.iload_n 3, 1) := by decide +kernel
theorem dX6_divisor_23 : decode cX6_divisor 23 = .ok (.istore_n 2, 1) := by decide +kernel
theorem dX6_divisor_24 : decode cX6_divisor 24 = .ok (.iload 4, 2) := by decide +kernel
theorem dX6_divisor_26 : decode cX6_divisor 26 = .ok (.istore_n 3, 1) := by decide +kernel
theorem dX6_divisor_27 : decode cX6_divisor 27 = .ok (.goto (-14), 3) := by decide +kernel
theorem dX6_divisor_30 : decode cX6_divisor 30 = .ok (.iload_n 2, 1) := by decide +kernel
theorem dX6_divisor_31 : decode cX6_divisor 31 = .ok (.ireturn, 1) := by decide +kernel
theorem dX6_fraction_0 : decode cX6_fraction 0 = .ok (.iload_n 0, 1) := by decide +kernel
theorem dX6_fraction_1 : decode cX6_fraction 1 = .ok (.iload_n 1, 1) := by decide +kernel
theorem dX6_fraction_2 : decode cX6_fraction 2 = .ok (.invokestatic 49, 3) := by decide +kernel
theorem dX6_fraction_5 : decode cX6_fraction 5 = .ok (.istore_n 3, 1) := by decide +kernel
theorem dX6_fraction_6 : decode cX6_fraction 6 = .ok (.iload_n 2, 1) := by decide +kernel
theorem dX6_fraction_7 : decode cX6_fraction 7 = .ok (.ifCond .eq 9, 3) := by decide +kernel
theorem dX6_fraction_10 : decode cX6_fraction 10 = .ok (.iload_n 0, 1) := by decide +kernel
theorem dX6_fraction_11 : decode cX6_fraction 11 = .ok (.iload_n 3, 1) := by decide +kernel
theorem dX6_fraction_12 : decode cX6_fraction 12 = .ok (.idiv, 1) := by decide +kernel
theorem dX6_fraction_13 : decode cX6_fraction 13 = .ok (.goto 6, 3) := by decide +kernel
theorem dX6_fraction_16 : decode cX6_fraction 16 = .ok (.iload_n 1, 1) := by decide +kernel
theorem dX6_fraction_17 : decode cX6_fraction 17 = .ok (.iload_n 3, 1) := by decide +kernel
theorem dX6_fraction_18 : decode cX6_fraction 18 = .ok (.idiv, 1) := by decide +kernel
theorem dX6_fraction_19 : decode cX6_fraction 19 = .ok (.ireturn, 1) := by decide +kernel
theorem dX6_openRule_0 : decode cX6_openRule 0 = .ok (.bipush 52, 2) := by decide +kernel
theorem dX6_openRule_2 : decode cX6_openRule 2 = .ok (.istore_n 1, 1) := by decide +kernel
theorem dX6_openRule_3 : decode cX6_openRule 3 = .ok (.iload_n 1, 1) := by decide +kernel
theorem dX6_openRule_4 : decode cX6_openRule 4 = .ok (.bipush 67, 2) := by decide +kernel
theorem dX6_openRule_6 : decode cX6_openRule 6 = .ok (.if_icmp .ge 13, 3) := by decide +kernel
theorem dX6_openRule_9 : decode cX6_openRule 9 = .ok (.aload_n 0, 1) := by decide +kernel
theorem dX6_openRule_10 : decode cX6_openRule 10 = .ok (.iload_n 1, 1) := by decide +kernel
theorem dX6_openRule_11 : decode cX6_openRule 11 = .ok (.iconst 0, 1) := by decide +kernel
theorem dX6_openRule_12 : decode cX6_openRule 12 = .ok (.iastore, 1) := by decide +kernel
theorem dX6_openRule_13 : decode cX6_openRule 13 = .ok (.iinc 1 1, 3) := by decide +kernel
theorem dX6_openRule_16 : decode cX6_openRule 16 = .ok (.goto (-13), 3) := by decide +kernel
theorem dX6_openRule_19 : decode cX6_openRule 19 = .ok (.aload_n 0, 1) := by decide +kernel
theorem dX6_openRule_20 : decode cX6_openRule 20 = .ok (.bipush 53, 2) := by decide +kernel
theorem dX6_openRule_22 : decode cX6_openRule 22 = .ok (.iconst 1, 1) := by decide +kernel
theorem dX6_openRule_23 : decode cX6_openRule 23 = .ok (.iastore, 1) := by decide +kernel
theorem dX6_openRule_24 : decode cX6_openRule 24 = .ok (.aload_n 0, 1) := by decide +kernel
theorem dX6_openRule_25 : decode cX6_openRule 25 = .ok (.bipush 54, 2) := by decide +kernel
theorem dX6_openRule_27 : decode cX6_openRule 27 = .ok (.iconst 1, 1) := by decide +kernel
theorem dX6_openRule_28 : decode cX6_openRule 28 = .ok (.iastore, 1) := by decide +kernel
theorem dX6_openRule_29 : decode cX6_openRule 29 = .ok (.return_, 1) := by decide +kernel
theorem dX6_dotsOf_0 : decode cX6_dotsOf 0 = .ok (.aload_n 0, 1) := by decide +kernel
theorem dX6_dotsOf_1 : decode cX6_dotsOf 1 = .ok (.iconst 0, 1) := by decide +kernel
theorem dX6_dotsOf_2 : decode cX6_dotsOf 2 = .ok (.iaload, 1) := by decide +kernel
theorem dX6_dotsOf_3 : decode cX6_dotsOf 3 = .ok (.aload_n 0, 1) := by decide +kernel
theorem dX6_dotsOf_4 : decode cX6_dotsOf 4 = .ok (.iconst 1, 1) := by decide +kernel
theorem dX6_dotsOf_5 : decode cX6_dotsOf 5 = .ok (.iaload, 1) := by decide +kernel
theorem dX6_dotsOf_6 : decode cX6_dotsOf 6 = .ok (.imul, 1) := by decide +kernel
theorem dX6_dotsOf_7 : decode cX6_dotsOf 7 = .ok (.ireturn, 1) := by decide +kernel
theorem dX6_noDot_0 : decode cX6_noDot 0 = .ok (.iload_n 1, 1) := by decide +kernel
theorem dX6_noDot_1 : decode cX6_noDot 1 = .ok (.i2l, 1) := by decide +kernel
theorem dX6_noDot_2 : decode cX6_noDot 2 = .ok (.lconst 0, 1) := by decide +kernel
theorem dX6_noDot_3 : decode cX6_noDot 3 = .ok (.aload_n 0, 1) := by decide +kernel
theorem dX6_noDot_4 : decode cX6_noDot 4 = .ok (.getfield 16, 3) := by decide +kernel
theorem dX6_noDot_7 : decode cX6_noDot 7 = .ok (.invokestatic 53, 3) := by decide +kernel
theorem dX6_noDot_10 : decode cX6_noDot 10 = .ok (.iconst 1, 1) := by decide +kernel
theorem dX6_noDot_11 : decode cX6_noDot 11 = .ok (.isub, 1) := by decide +kernel
theorem dX6_noDot_12 : decode cX6_noDot 12 = .ok (.i2l, 1) := by decide +kernel
theorem dX6_noDot_13 : decode cX6_noDot 13 = .ok (.invokestatic 57, 3) := by decide +kernel
theorem dX6_noDot_16 : decode cX6_noDot 16 = .ok (.ifCond .ne 7, 3) := by decide +kernel
theorem dX6_noDot_19 : decode cX6_noDot 19 = .ok (.iconst 1, 1) := by decide +kernel
theorem dX6_noDot_20 : decode cX6_noDot 20 = .ok (.goto 4, 3) := by decide +kernel
theorem dX6_noDot_23 : decode cX6_noDot 23 = .ok (.iconst 0, 1) := by decide +kernel
theorem dX6_noDot_24 : decode cX6_noDot 24 = .ok (.ireturn, 1) := by decide +kernel
theorem dX6_write_0 : decode cX6_write 0 = .ok (.aload_n 0, 1) := by decide +kernel
theorem dX6_write_1 : decode cX6_write 1 = .ok (.iconst 0, 1) := by decide +kernel
theorem dX6_write_2 : decode cX6_write 2 = .ok (.putfield 45, 3) := by decide +kernel
theorem dX6_write_5 : decode cX6_write 5 = .ok (.iload_n 1, 1) := by decide +kernel
theorem dX6_write_6 : decode cX6_write 6 = .ok (.i2l, 1) := by decide +kernel
theorem dX6_write_7 : decode cX6_write 7 = .ok (.lconst 0, 1) := by decide +kernel
theorem dX6_write_8 : decode cX6_write 8 = .ok (.ldc2_w 61, 3) := by decide +kernel
theorem dX6_write_11 : decode cX6_write 11 = .ok (.invokestatic 57, 3) := by decide +kernel
theorem dX6_write_14 : decode cX6_write 14 = .ok (.ifCond .ne 6, 3) := by decide +kernel
theorem dX6_write_17 : decode cX6_write 17 = .ok (.bipush (-2), 2) := by decide +kernel
theorem dX6_write_19 : decode cX6_write 19 = .ok (.ireturn, 1) := by decide +kernel
theorem dX6_write_20 : decode cX6_write 20 = .ok (.aload_n 0, 1) := by decide +kernel
theorem dX6_write_21 : decode cX6_write 21 = .ok (.getfield 63, 3) := by decide +kernel
theorem dX6_write_24 : decode cX6_write 24 = .ok (.bipush 56, 2) := by decide +kernel
theorem dX6_write_26 : decode cX6_write 26 = .ok (.if_icmp .ne 6, 3) := by decide +kernel
theorem dX6_write_29 : decode cX6_write 29 = .ok (.bipush (-4), 2) := by decide +kernel
theorem dX6_write_31 : decode cX6_write 31 = .ok (.ireturn, 1) := by decide +kernel
theorem dX6_write_32 : decode cX6_write 32 = .ok (.aload_n 0, 1) := by decide +kernel
theorem dX6_write_33 : decode cX6_write 33 = .ok (.getfield 7, 3) := by decide +kernel
theorem dX6_write_36 : decode cX6_write 36 = .ok (.aload_n 0, 1) := by decide +kernel
theorem dX6_write_37 : decode cX6_write 37 = .ok (.getfield 63, 3) := by decide +kernel
theorem dX6_write_40 : decode cX6_write 40 = .ok (.iload_n 1, 1) := by decide +kernel
theorem dX6_write_41 : decode cX6_write 41 = .ok (.iastore, 1) := by decide +kernel
theorem dX6_write_42 : decode cX6_write 42 = .ok (.aload_n 0, 1) := by decide +kernel
theorem dX6_write_43 : decode cX6_write 43 = .ok (.dup, 1) := by decide +kernel
theorem dX6_write_44 : decode cX6_write 44 = .ok (.getfield 63, 3) := by decide +kernel
theorem dX6_write_47 : decode cX6_write 47 = .ok (.iconst 1, 1) := by decide +kernel
theorem dX6_write_48 : decode cX6_write 48 = .ok (.iadd, 1) := by decide +kernel
theorem dX6_write_49 : decode cX6_write 49 = .ok (.putfield 63, 3) := by decide +kernel
theorem dX6_write_52 : decode cX6_write 52 = .ok (.aload_n 0, 1) := by decide +kernel
theorem dX6_write_53 : decode cX6_write 53 = .ok (.getfield 63, 3) := by decide +kernel
theorem dX6_write_56 : decode cX6_write 56 = .ok (.ireturn, 1) := by decide +kernel
theorem dX6_wipe_0 : decode cX6_wipe 0 = .ok (.aload_n 0, 1) := by decide +kernel
theorem dX6_wipe_1 : decode cX6_wipe 1 = .ok (.iconst 0, 1) := by decide +kernel
theorem dX6_wipe_2 : decode cX6_wipe 2 = .ok (.putfield 45, 3) := by decide +kernel
theorem dX6_wipe_5 : decode cX6_wipe 5 = .ok (.aload_n 0, 1) := by decide +kernel
theorem dX6_wipe_6 : decode cX6_wipe 6 = .ok (.getfield 63, 3) := by decide +kernel
theorem dX6_wipe_9 : decode cX6_wipe 9 = .ok (.istore_n 1, 1) := by decide +kernel
theorem dX6_wipe_10 : decode cX6_wipe 10 = .ok (.aload_n 0, 1) := by decide +kernel
theorem dX6_wipe_11 : decode cX6_wipe 11 = .ok (.iconst 0, 1) := by decide +kernel
theorem dX6_wipe_12 : decode cX6_wipe 12 = .ok (.putfield 63, 3) := by decide +kernel
theorem dX6_wipe_15 : decode cX6_wipe 15 = .ok (.iload_n 1, 1) := by decide +kernel
theorem dX6_wipe_16 : decode cX6_wipe 16 = .ok (.ireturn, 1) := by decide +kernel
theorem dX6_figureAt_0 : decode cX6_figureAt 0 = .ok (.iload_n 1, 1) := by decide +kernel
theorem dX6_figureAt_1 : decode cX6_figureAt 1 = .ok (.aload_n 0, 1) := by decide +kernel
theorem dX6_figureAt_2 : decode cX6_figureAt 2 = .ok (.getfield 63, 3) := by decide +kernel
theorem dX6_figureAt_5 : decode cX6_figureAt 5 = .ok (.if_icmp .ge 15, 3) := by decide +kernel
theorem dX6_figureAt_8 : decode cX6_figureAt 8 = .ok (.aload_n 0, 1) := by decide +kernel
theorem dX6_figureAt_9 : decode cX6_figureAt 9 = .ok (.getfield 7, 3) := by decide +kernel
theorem dX6_figureAt_12 : decode cX6_figureAt 12 = .ok (.iload_n 1, 1) := by decide +kernel
theorem dX6_figureAt_13 : decode cX6_figureAt 13 = .ok (.iaload, 1) := by decide +kernel
theorem dX6_figureAt_14 : decode cX6_figureAt 14 = .ok (.bipush 48, 2) := by decide +kernel
theorem dX6_figureAt_16 : decode cX6_figureAt 16 = .ok (.isub, 1) := by decide +kernel
theorem dX6_figureAt_17 : decode cX6_figureAt 17 = .ok (.goto 5, 3) := by decide +kernel
theorem dX6_figureAt_20 : decode cX6_figureAt 20 = .ok (.bipush (-9), 2) := by decide +kernel
theorem dX6_figureAt_22 : decode cX6_figureAt 22 = .ok (.istore_n 2, 1) := by decide +kernel
theorem dX6_figureAt_23 : decode cX6_figureAt 23 = .ok (.iload_n 2, 1) := by decide +kernel
theorem dX6_figureAt_24 : decode cX6_figureAt 24 = .ok (.i2l, 1) := by decide +kernel
theorem dX6_figureAt_25 : decode cX6_figureAt 25 = .ok (.lconst 0, 1) := by decide +kernel
theorem dX6_figureAt_26 : decode cX6_figureAt 26 = .ok (.ldc2_w 66, 3) := by decide +kernel
theorem dX6_figureAt_29 : decode cX6_figureAt 29 = .ok (.invokestatic 57, 3) := by decide +kernel
theorem dX6_figureAt_32 : decode cX6_figureAt 32 = .ok (.ifCond .eq 7, 3) := by decide +kernel
theorem dX6_figureAt_35 : decode cX6_figureAt 35 = .ok (.iload_n 2, 1) := by decide +kernel
theorem dX6_figureAt_36 : decode cX6_figureAt 36 = .ok (.goto 5, 3) := by decide +kernel
theorem dX6_figureAt_39 : decode cX6_figureAt 39 = .ok (.bipush (-9), 2) := by decide +kernel
theorem dX6_figureAt_41 : decode cX6_figureAt 41 = .ok (.ireturn, 1) := by decide +kernel
theorem dX6_readLeaf_0 : decode cX6_readLeaf 0 = .ok (.aload_n 0, 1) := by decide +kernel
theorem dX6_readLeaf_1 : decode cX6_readLeaf 1 = .ok (.getfield 63, 3) := by decide +kernel
theorem dX6_readLeaf_4 : decode cX6_readLeaf 4 = .ok (.ifCond .eq 14, 3) := by decide +kernel
theorem dX6_readLeaf_7 : decode cX6_readLeaf 7 = .ok (.aload_n 0, 1) := by decide +kernel
theorem dX6_readLeaf_8 : decode cX6_readLeaf 8 = .ok (.getfield 7, 3) := by decide +kernel
theorem dX6_readLeaf_11 : decode cX6_readLeaf 11 = .ok (.iconst 0, 1) := by decide +kernel
theorem dX6_readLeaf_12 : decode cX6_readLeaf 12 = .ok (.iaload, 1) := by decide +kernel
theorem dX6_readLeaf_13 : decode cX6_readLeaf 13 = .ok (.bipush 76, 2) := by decide +kernel
theorem dX6_readLeaf_15 : decode cX6_readLeaf 15 = .ok (.if_icmp .eq 5, 3) := by decide +kernel
theorem dX6_readLeaf_18 : decode cX6_readLeaf 18 = .ok (.iconst 0, 1) := by decide +kernel
theorem dX6_readLeaf_19 : decode cX6_readLeaf 19 = .ok (.ireturn, 1) := by decide +kernel
theorem dX6_readLeaf_20 : decode cX6_readLeaf 20 = .ok (.iconst 0, 1) := by decide +kernel
theorem dX6_readLeaf_21 : decode cX6_readLeaf 21 = .ok (.istore_n 1, 1) := by decide +kernel
theorem dX6_readLeaf_22 : decode cX6_readLeaf 22 = .ok (.iload_n 1, 1) := by decide +kernel
theorem dX6_readLeaf_23 : decode cX6_readLeaf 23 = .ok (.iconst 2, 1) := by decide +kernel
theorem dX6_readLeaf_24 : decode cX6_readLeaf 24 = .ok (.if_icmp .ge 43, 3) := by decide +kernel
theorem dX6_readLeaf_27 : decode cX6_readLeaf 27 = .ok (.aload_n 0, 1) := by decide +kernel
theorem dX6_readLeaf_28 : decode cX6_readLeaf 28 = .ok (.getfield 13, 3) := by decide +kernel
theorem dX6_readLeaf_31 : decode cX6_readLeaf 31 = .ok (.iload_n 1, 1) := by decide +kernel
theorem dX6_readLeaf_32 : decode cX6_readLeaf 32 = .ok (.aload_n 0, 1) := by decide +kernel
theorem dX6_readLeaf_33 : decode cX6_readLeaf 33 = .ok (.iload_n 1, 1) := by decide +kernel
theorem dX6_readLeaf_34 : decode cX6_readLeaf 34 = .ok (.iconst 1, 1) := by decide +kernel
theorem dX6_readLeaf_35 : decode cX6_readLeaf 35 = .ok (.iadd, 1) := by decide +kernel
theorem dX6_readLeaf_36 : decode cX6_readLeaf 36 = .ok (.invokevirtual 68, 3) := by decide +kernel
theorem dX6_readLeaf_39 : decode cX6_readLeaf 39 = .ok (.iastore, 1) := by decide +kernel
theorem dX6_readLeaf_40 : decode cX6_readLeaf 40 = .ok (.aload_n 0, 1) := by decide +kernel
theorem dX6_readLeaf_41 : decode cX6_readLeaf 41 = .ok (.getfield 13, 3) := by decide +kernel
theorem dX6_readLeaf_44 : decode cX6_readLeaf 44 = .ok (.iload_n 1, 1) := by decide +kernel
theorem dX6_readLeaf_45 : decode cX6_readLeaf 45 = .ok (.iaload, 1) := by decide +kernel
theorem dX6_readLeaf_46 : decode cX6_readLeaf 46 = .ok (.i2l, 1) := by decide +kernel
theorem dX6_readLeaf_47 : decode cX6_readLeaf 47 = .ok (.lconst 1, 1) := by decide +kernel
theorem dX6_readLeaf_48 : decode cX6_readLeaf 48 = .ok (.ldc2_w 72, 3) := by decide +kernel
theorem dX6_readLeaf_51 : decode cX6_readLeaf 51 = .ok (.invokestatic 57, 3) := by decide +kernel
theorem dX6_readLeaf_54 : decode cX6_readLeaf 54 = .ok (.ifCond .ne 7, 3) := by decide +kernel
theorem dX6_readLeaf_57 : decode cX6_readLeaf 57 = .ok (.iload_n 1, 1) := by decide +kernel
theorem dX6_readLeaf_58 : decode cX6_readLeaf 58 = .ok (.iconst 1, 1) := by decide +kernel
theorem dX6_readLeaf_59 : decode cX6_readLeaf 59 = .ok (.iadd, 1) := by decide +kernel
theorem dX6_readLeaf_60 : decode cX6_readLeaf 60 = .ok (.ireturn, 1) := by decide +kernel
theorem dX6_readLeaf_61 : decode cX6_readLeaf 61 = .ok (.iinc 1 1, 3) := by decide +kernel
theorem dX6_readLeaf_64 : decode cX6_readLeaf 64 = .ok (.goto (-42), 3) := by decide +kernel
theorem dX6_readLeaf_67 : decode cX6_readLeaf 67 = .ok (.aload_n 0, 1) := by decide +kernel
theorem dX6_readLeaf_68 : decode cX6_readLeaf 68 = .ok (.getfield 13, 3) := by decide +kernel
theorem dX6_readLeaf_71 : decode cX6_readLeaf 71 = .ok (.invokestatic 53, 3) := by decide +kernel
theorem dX6_readLeaf_74 : decode cX6_readLeaf 74 = .ok (.istore_n 1, 1) := by decide +kernel
theorem dX6_readLeaf_75 : decode cX6_readLeaf 75 = .ok (.iconst 0, 1) := by decide +kernel
theorem dX6_readLeaf_76 : decode cX6_readLeaf 76 = .ok (.istore_n 2, 1) := by decide +kernel
theorem dX6_readLeaf_77 : decode cX6_readLeaf 77 = .ok (.iload_n 2, 1) := by decide +kernel
theorem dX6_readLeaf_78 : decode cX6_readLeaf 78 = .ok (.iconst 2, 1) := by decide +kernel
theorem dX6_readLeaf_79 : decode cX6_readLeaf 79 = .ok (.iload_n 1, 1) := by decide +kernel
theorem dX6_readLeaf_80 : decode cX6_readLeaf 80 = .ok (.imul, 1) := by decide +kernel
theorem dX6_readLeaf_81 : decode cX6_readLeaf 81 = .ok (.if_icmp .gt 103, 3) := by decide +kernel
theorem dX6_readLeaf_84 : decode cX6_readLeaf 84 = .ok (.iconst 3, 1) := by decide +kernel
theorem dX6_readLeaf_85 : decode cX6_readLeaf 85 = .ok (.iload_n 2, 1) := by decide +kernel
theorem dX6_readLeaf_86 : decode cX6_readLeaf 86 = .ok (.iadd, 1) := by decide +kernel
theorem dX6_readLeaf_87 : decode cX6_readLeaf 87 = .ok (.istore_n 3, 1) := by decide +kernel
theorem dX6_readLeaf_88 : decode cX6_readLeaf 88 = .ok (.iload_n 2, 1) := by decide +kernel
theorem dX6_readLeaf_89 : decode cX6_readLeaf 89 = .ok (.iload_n 1, 1) := by decide +kernel
theorem dX6_readLeaf_90 : decode cX6_readLeaf 90 = .ok (.if_icmp .ne 30, 3) := by decide +kernel
theorem dX6_readLeaf_93 : decode cX6_readLeaf 93 = .ok (.iload_n 3, 1) := by decide +kernel
theorem dX6_readLeaf_94 : decode cX6_readLeaf 94 = .ok (.aload_n 0, 1) := by decide +kernel
theorem dX6_readLeaf_95 : decode cX6_readLeaf 95 = .ok (.getfield 63, 3) := by decide +kernel
theorem dX6_readLeaf_98 : decode cX6_readLeaf 98 = .ok (.if_icmp .ge 18, 3) := by decide +kernel
theorem dX6_readLeaf_101 : decode cX6_readLeaf 101 = .ok (.aload_n 0, 1) := by decide +kernel
theorem dX6_readLeaf_102 : decode cX6_readLeaf 102 = .ok (.getfield 7, 3) := by decide +kernel
theorem dX6_readLeaf_105 : decode cX6_readLeaf 105 = .ok (.iload_n 3, 1) := by decide +kernel
theorem dX6_readLeaf_106 : decode cX6_readLeaf 106 = .ok (.iaload, 1) := by decide +kernel
theorem dX6_readLeaf_107 : decode cX6_readLeaf 107 = .ok (.bipush 66, 2) := by decide +kernel
theorem dX6_readLeaf_109 : decode cX6_readLeaf 109 = .ok (.if_icmp .ne 7, 3) := by decide +kernel
theorem dX6_readLeaf_112 : decode cX6_readLeaf 112 = .ok (.iconst 1, 1) := by decide +kernel
theorem dX6_readLeaf_113 : decode cX6_readLeaf 113 = .ok (.goto 22, 3) := by decide +kernel
theorem dX6_readLeaf_116 : decode cX6_readLeaf 116 = .ok (.iconst 0, 1) := by decide +kernel
theorem dX6_readLeaf_117 : decode cX6_readLeaf 117 = .ok (.goto 18, 3) := by decide +kernel
theorem dX6_readLeaf_120 : decode cX6_readLeaf 120 = .ok (.aload_n 0, 1) := by decide +kernel
theorem dX6_readLeaf_121 : decode cX6_readLeaf 121 = .ok (.iload_n 3, 1) := by decide +kernel
theorem dX6_readLeaf_122 : decode cX6_readLeaf 122 = .ok (.invokevirtual 68, 3) := by decide +kernel
theorem dX6_readLeaf_125 : decode cX6_readLeaf 125 = .ok (.bipush (-9), 2) := by decide +kernel
theorem dX6_readLeaf_127 : decode cX6_readLeaf 127 = .ok (.if_icmp .eq 7, 3) := by decide +kernel
theorem dX6_readLeaf_130 : decode cX6_readLeaf 130 = .ok (.iconst 1, 1) := by decide +kernel
theorem dX6_readLeaf_131 : decode cX6_readLeaf 131 = .ok (.goto 4, 3) := by decide +kernel
theorem dX6_readLeaf_134 : decode cX6_readLeaf 134 = .ok (.iconst 0, 1) := by decide +kernel
theorem dX6_readLeaf_135 : decode cX6_readLeaf 135 = .ok (.istore 4, 2) := by decide +kernel
theorem dX6_readLeaf_137 : decode cX6_readLeaf 137 = .ok (.iload 4, 2) := by decide +kernel
theorem dX6_readLeaf_139 : decode cX6_readLeaf 139 = .ok (.ifCond .ne 5, 3) := by decide +kernel
theorem dX6_readLeaf_142 : decode cX6_readLeaf 142 = .ok (.iload_n 3, 1) := by decide +kernel
theorem dX6_readLeaf_143 : decode cX6_readLeaf 143 = .ok (.ireturn, 1) := by decide +kernel
theorem dX6_readLeaf_144 : decode cX6_readLeaf 144 = .ok (.iload_n 2, 1) := by decide +kernel
theorem dX6_readLeaf_145 : decode cX6_readLeaf 145 = .ok (.iload_n 1, 1) := by decide +kernel
theorem dX6_readLeaf_146 : decode cX6_readLeaf 146 = .ok (.if_icmp .eq 32, 3) := by decide +kernel
theorem dX6_readLeaf_149 : decode cX6_readLeaf 149 = .ok (.aload_n 0, 1) := by decide +kernel
theorem dX6_readLeaf_150 : decode cX6_readLeaf 150 = .ok (.getfield 13, 3) := by decide +kernel
theorem dX6_readLeaf_153 : decode cX6_readLeaf 153 = .ok (.iload_n 2, 1) := by decide +kernel
theorem dX6_readLeaf_154 : decode cX6_readLeaf 154 = .ok (.iload_n 1, 1) := by decide +kernel
theorem dX6_readLeaf_155 : decode cX6_readLeaf 155 = .ok (.if_icmp .ge 9, 3) := by decide +kernel
theorem dX6_readLeaf_158 : decode cX6_readLeaf 158 = .ok (.iconst 2, 1) := by decide +kernel
theorem dX6_readLeaf_159 : decode cX6_readLeaf 159 = .ok (.iload_n 2, 1) := by decide +kernel
theorem dX6_readLeaf_160 : decode cX6_readLeaf 160 = .ok (.iadd, 1) := by decide +kernel
theorem dX6_readLeaf_161 : decode cX6_readLeaf 161 = .ok (.goto 11, 3) := by decide +kernel
theorem dX6_readLeaf_164 : decode cX6_readLeaf 164 = .ok (.bipush 27, 2) := by decide +kernel
theorem dX6_readLeaf_166 : decode cX6_readLeaf 166 = .ok (.iload_n 2, 1) := by decide +kernel
theorem dX6_readLeaf_167 : decode cX6_readLeaf 167 = .ok (.iadd, 1) := by decide +kernel
theorem dX6_readLeaf_168 : decode cX6_readLeaf 168 = .ok (.iload_n 1, 1) := by decide +kernel
theorem dX6_readLeaf_169 : decode cX6_readLeaf 169 = .ok (.isub, 1) := by decide +kernel
theorem dX6_readLeaf_170 : decode cX6_readLeaf 170 = .ok (.iconst 1, 1) := by decide +kernel
theorem dX6_readLeaf_171 : decode cX6_readLeaf 171 = .ok (.isub, 1) := by decide +kernel
theorem dX6_readLeaf_172 : decode cX6_readLeaf 172 = .ok (.aload_n 0, 1) := by decide +kernel
theorem dX6_readLeaf_173 : decode cX6_readLeaf 173 = .ok (.iload_n 3, 1) := by decide +kernel
theorem dX6_readLeaf_174 : decode cX6_readLeaf 174 = .ok (.invokevirtual 68, 3) := by decide +kernel
theorem dX6_readLeaf_177 : decode cX6_readLeaf 177 = .ok (.iastore, 1) := by decide +kernel
theorem dX6_readLeaf_178 : decode cX6_readLeaf 178 = .ok (.iinc 2 1, 3) := by decide +kernel
theorem dX6_readLeaf_181 : decode cX6_readLeaf 181 = .ok (.goto (-104), 3) := by decide +kernel
theorem dX6_readLeaf_184 : decode cX6_readLeaf 184 = .ok (.aload_n 0, 1) := by decide +kernel
theorem dX6_readLeaf_185 : decode cX6_readLeaf 185 = .ok (.getfield 63, 3) := by decide +kernel
theorem dX6_readLeaf_188 : decode cX6_readLeaf 188 = .ok (.iconst 4, 1) := by decide +kernel
theorem dX6_readLeaf_189 : decode cX6_readLeaf 189 = .ok (.iconst 2, 1) := by decide +kernel
theorem dX6_readLeaf_190 : decode cX6_readLeaf 190 = .ok (.iload_n 1, 1) := by decide +kernel
theorem dX6_readLeaf_191 : decode cX6_readLeaf 191 = .ok (.imul, 1) := by decide +kernel
theorem dX6_readLeaf_192 : decode cX6_readLeaf 192 = .ok (.iadd, 1) := by decide +kernel
theorem dX6_readLeaf_193 : decode cX6_readLeaf 193 = .ok (.if_icmp .ne 8, 3) := by decide +kernel
theorem dX6_readLeaf_196 : decode cX6_readLeaf 196 = .ok (.bipush (-9), 2) := by decide +kernel
theorem dX6_readLeaf_198 : decode cX6_readLeaf 198 = .ok (.goto 8, 3) := by decide +kernel
theorem dX6_readLeaf_201 : decode cX6_readLeaf 201 = .ok (.iconst 4, 1) := by decide +kernel
theorem dX6_readLeaf_202 : decode cX6_readLeaf 202 = .ok (.iconst 2, 1) := by decide +kernel
theorem dX6_readLeaf_203 : decode cX6_readLeaf 203 = .ok (.iload_n 1, 1) := by decide +kernel
theorem dX6_readLeaf_204 : decode cX6_readLeaf 204 = .ok (.imul, 1) := by decide +kernel
theorem dX6_readLeaf_205 : decode cX6_readLeaf 205 = .ok (.iadd, 1) := by decide +kernel
theorem dX6_readLeaf_206 : decode cX6_readLeaf 206 = .ok (.ireturn, 1) := by decide +kernel
theorem dX6_fault_0 : decode cX6_fault 0 = .ok (.aload_n 0, 1) := by decide +kernel
theorem dX6_fault_1 : decode cX6_fault 1 = .ok (.iconst 0, 1) := by decide +kernel
theorem dX6_fault_2 : decode cX6_fault 2 = .ok (.putfield 45, 3) := by decide +kernel
theorem dX6_fault_5 : decode cX6_fault 5 = .ok (.aload_n 0, 1) := by decide +kernel
theorem dX6_fault_6 : decode cX6_fault 6 = .ok (.invokevirtual 74, 3) := by decide +kernel
theorem dX6_fault_9 : decode cX6_fault 9 = .ok (.ireturn, 1) := by decide +kernel
theorem dX6_leaf_0 : decode cX6_leaf 0 = .ok (.aload_n 0, 1) := by decide +kernel
theorem dX6_leaf_1 : decode cX6_leaf 1 = .ok (.iconst 0, 1) := by decide +kernel
theorem dX6_leaf_2 : decode cX6_leaf 2 = .ok (.putfield 45, 3) := by decide +kernel
theorem dX6_leaf_5 : decode cX6_leaf 5 = .ok (.aload_n 0, 1) := by decide +kernel
theorem dX6_leaf_6 : decode cX6_leaf 6 = .ok (.invokevirtual 74, 3) := by decide +kernel
theorem dX6_leaf_9 : decode cX6_leaf 9 = .ok (.bipush (-9), 2) := by decide +kernel
theorem dX6_leaf_11 : decode cX6_leaf 11 = .ok (.if_icmp .eq 6, 3) := by decide +kernel
theorem dX6_leaf_14 : decode cX6_leaf 14 = .ok (.bipush (-3), 2) := by decide +kernel
theorem dX6_leaf_16 : decode cX6_leaf 16 = .ok (.ireturn, 1) := by decide +kernel
theorem dX6_leaf_17 : decode cX6_leaf 17 = .ok (.iconst 0, 1) := by decide +kernel
theorem dX6_leaf_18 : decode cX6_leaf 18 = .ok (.istore_n 1, 1) := by decide +kernel
theorem dX6_leaf_19 : decode cX6_leaf 19 = .ok (.iload_n 1, 1) := by decide +kernel
theorem dX6_leaf_20 : decode cX6_leaf 20 = .ok (.bipush 52, 2) := by decide +kernel
theorem dX6_leaf_22 : decode cX6_leaf 22 = .ok (.if_icmp .ge 21, 3) := by decide +kernel
theorem dX6_leaf_25 : decode cX6_leaf 25 = .ok (.aload_n 0, 1) := by decide +kernel
theorem dX6_leaf_26 : decode cX6_leaf 26 = .ok (.getfield 16, 3) := by decide +kernel
theorem dX6_leaf_29 : decode cX6_leaf 29 = .ok (.iload_n 1, 1) := by decide +kernel
theorem dX6_leaf_30 : decode cX6_leaf 30 = .ok (.aload_n 0, 1) := by decide +kernel
theorem dX6_leaf_31 : decode cX6_leaf 31 = .ok (.getfield 13, 3) := by decide +kernel
theorem dX6_leaf_34 : decode cX6_leaf 34 = .ok (.iload_n 1, 1) := by decide +kernel
theorem dX6_leaf_35 : decode cX6_leaf 35 = .ok (.iaload, 1) := by decide +kernel
theorem dX6_leaf_36 : decode cX6_leaf 36 = .ok (.iastore, 1) := by decide +kernel
theorem dX6_leaf_37 : decode cX6_leaf 37 = .ok (.iinc 1 1, 3) := by decide +kernel
theorem dX6_leaf_40 : decode cX6_leaf 40 = .ok (.goto (-21), 3) := by decide +kernel
theorem dX6_leaf_43 : decode cX6_leaf 43 = .ok (.aload_n 0, 1) := by decide +kernel
theorem dX6_leaf_44 : decode cX6_leaf 44 = .ok (.getfield 16, 3) := by decide +kernel
theorem dX6_leaf_47 : decode cX6_leaf 47 = .ok (.invokestatic 41, 3) := by decide +kernel
theorem dX6_leaf_50 : decode cX6_leaf 50 = .ok (.aload_n 0, 1) := by decide +kernel
theorem dX6_leaf_51 : decode cX6_leaf 51 = .ok (.iconst 0, 1) := by decide +kernel
theorem dX6_leaf_52 : decode cX6_leaf 52 = .ok (.putfield 78, 3) := by decide +kernel
theorem dX6_leaf_55 : decode cX6_leaf 55 = .ok (.aload_n 0, 1) := by decide +kernel
theorem dX6_leaf_56 : decode cX6_leaf 56 = .ok (.getfield 28, 3) := by decide +kernel
theorem dX6_leaf_59 : decode cX6_leaf 59 = .ok (.iconst 0, 1) := by decide +kernel
theorem dX6_leaf_60 : decode cX6_leaf 60 = .ok (.iconst 0, 1) := by decide +kernel
theorem dX6_leaf_61 : decode cX6_leaf 61 = .ok (.bastore, 1) := by decide +kernel
theorem dX6_leaf_62 : decode cX6_leaf 62 = .ok (.aload_n 0, 1) := by decide +kernel
theorem dX6_leaf_63 : decode cX6_leaf 63 = .ok (.getfield 28, 3) := by decide +kernel
theorem dX6_leaf_66 : decode cX6_leaf 66 = .ok (.iconst 1, 1) := by decide +kernel
theorem dX6_leaf_67 : decode cX6_leaf 67 = .ok (.iconst 0, 1) := by decide +kernel
theorem dX6_leaf_68 : decode cX6_leaf 68 = .ok (.bastore, 1) := by decide +kernel
theorem dX6_leaf_69 : decode cX6_leaf 69 = .ok (.aload_n 0, 1) := by decide +kernel
theorem dX6_leaf_70 : decode cX6_leaf 70 = .ok (.getfield 16, 3) := by decide +kernel
theorem dX6_leaf_73 : decode cX6_leaf 73 = .ok (.invokestatic 53, 3) := by decide +kernel
theorem dX6_leaf_76 : decode cX6_leaf 76 = .ok (.ireturn, 1) := by decide +kernel
theorem dX6_far_0 : decode cX6_far 0 = .ok (.iload_n 0, 1) := by decide +kernel
theorem dX6_far_1 : decode cX6_far 1 = .ok (.iload_n 1, 1) := by decide +kernel
theorem dX6_far_2 : decode cX6_far 2 = .ok (.if_icmp .ge 9, 3) := by decide +kernel
theorem dX6_far_5 : decode cX6_far 5 = .ok (.iload_n 1, 1) := by decide +kernel
theorem dX6_far_6 : decode cX6_far 6 = .ok (.iload_n 0, 1) := by decide +kernel
theorem dX6_far_7 : decode cX6_far 7 = .ok (.isub, 1) := by decide +kernel
theorem dX6_far_8 : decode cX6_far 8 = .ok (.goto 6, 3) := by decide +kernel
theorem dX6_far_11 : decode cX6_far 11 = .ok (.iload_n 0, 1) := by decide +kernel
theorem dX6_far_12 : decode cX6_far 12 = .ok (.iload_n 1, 1) := by decide +kernel
theorem dX6_far_13 : decode cX6_far 13 = .ok (.isub, 1) := by decide +kernel
theorem dX6_far_14 : decode cX6_far 14 = .ok (.ireturn, 1) := by decide +kernel
theorem dX6_layWindow_0 : decode cX6_layWindow 0 = .ok (.aload_n 0, 1) := by decide +kernel
theorem dX6_layWindow_1 : decode cX6_layWindow 1 = .ok (.iconst 0, 1) := by decide +kernel
theorem dX6_layWindow_2 : decode cX6_layWindow 2 = .ok (.putfield 81, 3) := by decide +kernel
theorem dX6_layWindow_5 : decode cX6_layWindow 5 = .ok (.aload_n 0, 1) := by decide +kernel
theorem dX6_layWindow_6 : decode cX6_layWindow 6 = .ok (.iconst 0, 1) := by decide +kernel
theorem dX6_layWindow_7 : decode cX6_layWindow 7 = .ok (.putfield 84, 3) := by decide +kernel
theorem dX6_layWindow_10 : decode cX6_layWindow 10 = .ok (.aload_n 0, 1) := by decide +kernel
theorem dX6_layWindow_11 : decode cX6_layWindow 11 = .ok (.iconst 0, 1) := by decide +kernel
theorem dX6_layWindow_12 : decode cX6_layWindow 12 = .ok (.putfield 87, 3) := by decide +kernel
theorem dX6_layWindow_15 : decode cX6_layWindow 15 = .ok (.iconst 0, 1) := by decide +kernel
theorem dX6_layWindow_16 : decode cX6_layWindow 16 = .ok (.istore 4, 2) := by decide +kernel
theorem dX6_layWindow_18 : decode cX6_layWindow 18 = .ok (.iload 4, 2) := by decide +kernel
theorem dX6_layWindow_20 : decode cX6_layWindow 20 = .ok (.aload_n 1, 1) := by decide +kernel
theorem dX6_layWindow_21 : decode cX6_layWindow 21 = .ok (.invokestatic 53, 3) := by decide +kernel
theorem dX6_layWindow_24 : decode cX6_layWindow 24 = .ok (.if_icmp .ge 88, 3) := by decide +kernel
theorem dX6_layWindow_27 : decode cX6_layWindow 27 = .ok (.iload_n 2, 1) := by decide +kernel
theorem dX6_layWindow_28 : decode cX6_layWindow 28 = .ok (.aload_n 1, 1) := by decide +kernel
theorem dX6_layWindow_29 : decode cX6_layWindow 29 = .ok (.iconst 0, 1) := by decide +kernel
theorem dX6_layWindow_30 : decode cX6_layWindow 30 = .ok (.iaload, 1) := by decide +kernel
theorem dX6_layWindow_31 : decode cX6_layWindow 31 = .ok (.irem, 1) := by decide +kernel
theorem dX6_layWindow_32 : decode cX6_layWindow 32 = .ok (.iload 4, 2) := by decide +kernel
theorem dX6_layWindow_34 : decode cX6_layWindow 34 = .ok (.aload_n 1, 1) := by decide +kernel
theorem dX6_layWindow_35 : decode cX6_layWindow 35 = .ok (.iconst 0, 1) := by decide +kernel
theorem dX6_layWindow_36 : decode cX6_layWindow 36 = .ok (.iaload, 1) := by decide +kernel
theorem dX6_layWindow_37 : decode cX6_layWindow 37 = .ok (.irem, 1) := by decide +kernel
theorem dX6_layWindow_38 : decode cX6_layWindow 38 = .ok (.invokestatic 90, 3) := by decide +kernel
theorem dX6_layWindow_41 : decode cX6_layWindow 41 = .ok (.iload_n 3, 1) := by decide +kernel
theorem dX6_layWindow_42 : decode cX6_layWindow 42 = .ok (.if_icmp .gt 64, 3) := by decide +kernel
theorem dX6_layWindow_45 : decode cX6_layWindow 45 = .ok (.iload_n 2, 1) := by decide +kernel
theorem dX6_layWindow_46 : decode cX6_layWindow 46 = .ok (.aload_n 1, 1) := by decide +kernel
theorem dX6_layWindow_47 : decode cX6_layWindow 47 = .ok (.iconst 0, 1) := by decide +kernel
theorem dX6_layWindow_48 : decode cX6_layWindow 48 = .ok (.iaload, 1) := by decide +kernel
theorem dX6_layWindow_49 : decode cX6_layWindow 49 = .ok (.idiv, 1) := by decide +kernel
theorem dX6_layWindow_50 : decode cX6_layWindow 50 = .ok (.iload 4, 2) := by decide +kernel
theorem dX6_layWindow_52 : decode cX6_layWindow 52 = .ok (.aload_n 1, 1) := by decide +kernel
theorem dX6_layWindow_53 : decode cX6_layWindow 53 = .ok (.iconst 0, 1) := by decide +kernel
theorem dX6_layWindow_54 : decode cX6_layWindow 54 = .ok (.iaload, 1) := by decide +kernel
theorem dX6_layWindow_55 : decode cX6_layWindow 55 = .ok (.idiv, 1) := by decide +kernel
theorem dX6_layWindow_56 : decode cX6_layWindow 56 = .ok (.invokestatic 90, 3) := by decide +kernel
theorem dX6_layWindow_59 : decode cX6_layWindow 59 = .ok (.iload_n 3, 1) := by decide +kernel
theorem dX6_layWindow_60 : decode cX6_layWindow 60 = .ok (.if_icmp .gt 46, 3) := by decide +kernel
theorem dX6_layWindow_63 : decode cX6_layWindow 63 = .ok (.aload_n 1, 1) := by decide +kernel
theorem dX6_layWindow_64 : decode cX6_layWindow 64 = .ok (.iconst 2, 1) := by decide +kernel
theorem dX6_layWindow_65 : decode cX6_layWindow 65 = .ok (.iload 4, 2) := by decide +kernel
theorem dX6_layWindow_67 : decode cX6_layWindow 67 = .ok (.iadd, 1) := by decide +kernel
theorem dX6_layWindow_68 : decode cX6_layWindow 68 = .ok (.iaload, 1) := by decide +kernel
theorem dX6_layWindow_69 : decode cX6_layWindow 69 = .ok (.istore 5, 2) := by decide +kernel
theorem dX6_layWindow_71 : decode cX6_layWindow 71 = .ok (.aload_n 0, 1) := by decide +kernel
theorem dX6_layWindow_72 : decode cX6_layWindow 72 = .ok (.dup, 1) := by decide +kernel
theorem dX6_layWindow_73 : decode cX6_layWindow 73 = .ok (.getfield 81, 3) := by decide +kernel
theorem dX6_layWindow_76 : decode cX6_layWindow 76 = .ok (.iconst 1, 1) := by decide +kernel
theorem dX6_layWindow_77 : decode cX6_layWindow 77 = .ok (.iadd, 1) := by decide +kernel
theorem dX6_layWindow_78 : decode cX6_layWindow 78 = .ok (.putfield 81, 3) := by decide +kernel
theorem dX6_layWindow_81 : decode cX6_layWindow 81 = .ok (.aload_n 0, 1) := by decide +kernel
theorem dX6_layWindow_82 : decode cX6_layWindow 82 = .ok (.dup, 1) := by decide +kernel
theorem dX6_layWindow_83 : decode cX6_layWindow 83 = .ok (.getfield 84, 3) := by decide +kernel
theorem dX6_layWindow_86 : decode cX6_layWindow 86 = .ok (.iload 5, 2) := by decide +kernel
theorem dX6_layWindow_88 : decode cX6_layWindow 88 = .ok (.iadd, 1) := by decide +kernel
theorem dX6_layWindow_89 : decode cX6_layWindow 89 = .ok (.putfield 84, 3) := by decide +kernel
theorem dX6_layWindow_92 : decode cX6_layWindow 92 = .ok (.aload_n 0, 1) := by decide +kernel
theorem dX6_layWindow_93 : decode cX6_layWindow 93 = .ok (.dup, 1) := by decide +kernel
theorem dX6_layWindow_94 : decode cX6_layWindow 94 = .ok (.getfield 87, 3) := by decide +kernel
theorem dX6_layWindow_97 : decode cX6_layWindow 97 = .ok (.iload 5, 2) := by decide +kernel
theorem dX6_layWindow_99 : decode cX6_layWindow 99 = .ok (.iload 5, 2) := by decide +kernel
theorem dX6_layWindow_101 : decode cX6_layWindow 101 = .ok (.imul, 1) := by decide +kernel
theorem dX6_layWindow_102 : decode cX6_layWindow 102 = .ok (.iadd, 1) := by decide +kernel
theorem dX6_layWindow_103 : decode cX6_layWindow 103 = .ok (.putfield 87, 3) := by decide +kernel
theorem dX6_layWindow_106 : decode cX6_layWindow 106 = .ok (.iinc 4 1, 3) := by decide +kernel
theorem dX6_layWindow_109 : decode cX6_layWindow 109 = .ok (.goto (-91), 3) := by decide +kernel
theorem dX6_layWindow_112 : decode cX6_layWindow 112 = .ok (.return_, 1) := by decide +kernel
theorem dX6_isDark_0 : decode cX6_isDark 0 = .ok (.aload_n 0, 1) := by decide +kernel
theorem dX6_isDark_1 : decode cX6_isDark 1 = .ok (.getfield 81, 3) := by decide +kernel
theorem dX6_isDark_4 : decode cX6_isDark 4 = .ok (.istore_n 3, 1) := by decide +kernel
theorem dX6_isDark_5 : decode cX6_isDark 5 = .ok (.aload_n 1, 1) := by decide +kernel
theorem dX6_isDark_6 : decode cX6_isDark 6 = .ok (.bipush 54, 2) := by decide +kernel
theorem dX6_isDark_8 : decode cX6_isDark 8 = .ok (.iaload, 1) := by decide +kernel
theorem dX6_isDark_9 : decode cX6_isDark 9 = .ok (.istore 4, 2) := by decide +kernel
theorem dX6_isDark_11 : decode cX6_isDark 11 = .ok (.aload_n 1, 1) := by decide +kernel
theorem dX6_isDark_12 : decode cX6_isDark 12 = .ok (.bipush 52, 2) := by decide +kernel
theorem dX6_isDark_14 : decode cX6_isDark 14 = .ok (.iaload, 1) := by decide +kernel
theorem dX6_isDark_15 : decode cX6_isDark 15 = .ok (.ifCond .ne 24, 3) := by decide +kernel
theorem dX6_isDark_18 : decode cX6_isDark 18 = .ok (.iload_n 3, 1) := by decide +kernel
theorem dX6_isDark_19 : decode cX6_isDark 19 = .ok (.iload_n 2, 1) := by decide +kernel
theorem dX6_isDark_20 : decode cX6_isDark 20 = .ok (.imul, 1) := by decide +kernel
theorem dX6_isDark_21 : decode cX6_isDark 21 = .ok (.iload_n 3, 1) := by decide +kernel
theorem dX6_isDark_22 : decode cX6_isDark 22 = .ok (.iload 4, 2) := by decide +kernel
theorem dX6_isDark_24 : decode cX6_isDark 24 = .ok (.imul, 1) := by decide +kernel
theorem dX6_isDark_25 : decode cX6_isDark 25 = .ok (.iadd, 1) := by decide +kernel
theorem dX6_isDark_26 : decode cX6_isDark 26 = .ok (.aload_n 0, 1) := by decide +kernel
theorem dX6_isDark_27 : decode cX6_isDark 27 = .ok (.getfield 84, 3) := by decide +kernel
theorem dX6_isDark_30 : decode cX6_isDark 30 = .ok (.if_icmp .ge 7, 3) := by decide +kernel
theorem dX6_isDark_33 : decode cX6_isDark 33 = .ok (.iconst 1, 1) := by decide +kernel
theorem dX6_isDark_34 : decode cX6_isDark 34 = .ok (.goto 4, 3) := by decide +kernel
theorem dX6_isDark_37 : decode cX6_isDark 37 = .ok (.iconst 0, 1) := by decide +kernel
theorem dX6_isDark_38 : decode cX6_isDark 38 = .ok (.ireturn, 1) := by decide +kernel
theorem dX6_isDark_39 : decode cX6_isDark 39 = .ok (.aload_n 1, 1) := by decide +kernel
theorem dX6_isDark_40 : decode cX6_isDark 40 = .ok (.bipush 52, 2) := by decide +kernel
theorem dX6_isDark_42 : decode cX6_isDark 42 = .ok (.iaload, 1) := by decide +kernel
theorem dX6_isDark_43 : decode cX6_isDark 43 = .ok (.iconst 2, 1) := by decide +kernel
theorem dX6_isDark_44 : decode cX6_isDark 44 = .ok (.if_icmp .ne 15, 3) := by decide +kernel
theorem dX6_isDark_47 : decode cX6_isDark 47 = .ok (.iload_n 2, 1) := by decide +kernel
theorem dX6_isDark_48 : decode cX6_isDark 48 = .ok (.iload 4, 2) := by decide +kernel
theorem dX6_isDark_50 : decode cX6_isDark 50 = .ok (.if_icmp .ge 7, 3) := by decide +kernel
theorem dX6_isDark_53 : decode cX6_isDark 53 = .ok (.iconst 1, 1) := by decide +kernel
theorem dX6_isDark_54 : decode cX6_isDark 54 = .ok (.goto 4, 3) := by decide +kernel
theorem dX6_isDark_57 : decode cX6_isDark 57 = .ok (.iconst 0, 1) := by decide +kernel
theorem dX6_isDark_58 : decode cX6_isDark 58 = .ok (.ireturn, 1) := by decide +kernel
theorem dX6_isDark_59 : decode cX6_isDark 59 = .ok (.aload_n 0, 1) := by decide +kernel
theorem dX6_isDark_60 : decode cX6_isDark 60 = .ok (.getfield 84, 3) := by decide +kernel
theorem dX6_isDark_63 : decode cX6_isDark 63 = .ok (.iload_n 3, 1) := by decide +kernel
theorem dX6_isDark_64 : decode cX6_isDark 64 = .ok (.iload_n 2, 1) := by decide +kernel
theorem dX6_isDark_65 : decode cX6_isDark 65 = .ok (.imul, 1) := by decide +kernel
theorem dX6_isDark_66 : decode cX6_isDark 66 = .ok (.isub, 1) := by decide +kernel
theorem dX6_isDark_67 : decode cX6_isDark 67 = .ok (.istore 5, 2) := by decide +kernel
theorem dX6_isDark_69 : decode cX6_isDark 69 = .ok (.iload 5, 2) := by decide +kernel
theorem dX6_isDark_71 : decode cX6_isDark 71 = .ok (.ifCond .le 40, 3) := by decide +kernel
theorem dX6_isDark_74 : decode cX6_isDark 74 = .ok (.bipush 100, 2) := by decide +kernel
theorem dX6_isDark_76 : decode cX6_isDark 76 = .ok (.iload 5, 2) := by decide +kernel
theorem dX6_isDark_78 : decode cX6_isDark 78 = .ok (.imul, 1) := by decide +kernel
theorem dX6_isDark_79 : decode cX6_isDark 79 = .ok (.iload 5, 2) := by decide +kernel
theorem dX6_isDark_81 : decode cX6_isDark 81 = .ok (.imul, 1) := by decide +kernel
theorem dX6_isDark_82 : decode cX6_isDark 82 = .ok (.iload 4, 2) := by decide +kernel
theorem dX6_isDark_84 : decode cX6_isDark 84 = .ok (.iload 4, 2) := by decide +kernel
theorem dX6_isDark_86 : decode cX6_isDark 86 = .ok (.imul, 1) := by decide +kernel
theorem dX6_isDark_87 : decode cX6_isDark 87 = .ok (.iload_n 3, 1) := by decide +kernel
theorem dX6_isDark_88 : decode cX6_isDark 88 = .ok (.aload_n 0, 1) := by decide +kernel
theorem dX6_isDark_89 : decode cX6_isDark 89 = .ok (.getfield 87, 3) := by decide +kernel
theorem dX6_isDark_92 : decode cX6_isDark 92 = .ok (.imul, 1) := by decide +kernel
theorem dX6_isDark_93 : decode cX6_isDark 93 = .ok (.aload_n 0, 1) := by decide +kernel
theorem dX6_isDark_94 : decode cX6_isDark 94 = .ok (.getfield 84, 3) := by decide +kernel
theorem dX6_isDark_97 : decode cX6_isDark 97 = .ok (.aload_n 0, 1) := by decide +kernel
theorem dX6_isDark_98 : decode cX6_isDark 98 = .ok (.getfield 84, 3) := by decide +kernel
theorem dX6_isDark_101 : decode cX6_isDark 101 = .ok (.imul, 1) := by decide +kernel
theorem dX6_isDark_102 : decode cX6_isDark 102 = .ok (.isub, 1) := by decide +kernel
theorem dX6_isDark_103 : decode cX6_isDark 103 = .ok (.imul, 1) := by decide +kernel
theorem dX6_isDark_104 : decode cX6_isDark 104 = .ok (.if_icmp .le 7, 3) := by decide +kernel
theorem dX6_isDark_107 : decode cX6_isDark 107 = .ok (.iconst 1, 1) := by decide +kernel
theorem dX6_isDark_108 : decode cX6_isDark 108 = .ok (.goto 4, 3) := by decide +kernel
theorem dX6_isDark_111 : decode cX6_isDark 111 = .ok (.iconst 0, 1) := by decide +kernel
theorem dX6_isDark_112 : decode cX6_isDark 112 = .ok (.ireturn, 1) := by decide +kernel
theorem dX6_underOf_0 : decode cX6_underOf 0 = .ok (.aload_n 0, 1) := by decide +kernel
theorem dX6_underOf_1 : decode cX6_underOf 1 = .ok (.iconst 0, 1) := by decide +kernel
theorem dX6_underOf_2 : decode cX6_underOf 2 = .ok (.iaload, 1) := by decide +kernel
theorem dX6_underOf_3 : decode cX6_underOf 3 = .ok (.iconst 1, 1) := by decide +kernel
theorem dX6_underOf_4 : decode cX6_underOf 4 = .ok (.isub, 1) := by decide +kernel
theorem dX6_underOf_5 : decode cX6_underOf 5 = .ok (.iload_n 1, 1) := by decide +kernel
theorem dX6_underOf_6 : decode cX6_underOf 6 = .ok (.aload_n 0, 1) := by decide +kernel
theorem dX6_underOf_7 : decode cX6_underOf 7 = .ok (.iconst 0, 1) := by decide +kernel
theorem dX6_underOf_8 : decode cX6_underOf 8 = .ok (.iaload, 1) := by decide +kernel
theorem dX6_underOf_9 : decode cX6_underOf 9 = .ok (.irem, 1) := by decide +kernel
theorem dX6_underOf_10 : decode cX6_underOf 10 = .ok (.isub, 1) := by decide +kernel
theorem dX6_underOf_11 : decode cX6_underOf 11 = .ok (.iload_n 2, 1) := by decide +kernel
theorem dX6_underOf_12 : decode cX6_underOf 12 = .ok (.iadd, 1) := by decide +kernel
theorem dX6_underOf_13 : decode cX6_underOf 13 = .ok (.istore 4, 2) := by decide +kernel
theorem dX6_underOf_15 : decode cX6_underOf 15 = .ok (.iload_n 1, 1) := by decide +kernel
theorem dX6_underOf_16 : decode cX6_underOf 16 = .ok (.aload_n 0, 1) := by decide +kernel
theorem dX6_underOf_17 : decode cX6_underOf 17 = .ok (.iconst 0, 1) := by decide +kernel
theorem dX6_underOf_18 : decode cX6_underOf 18 = .ok (.iaload, 1) := by decide +kernel
theorem dX6_underOf_19 : decode cX6_underOf 19 = .ok (.idiv, 1) := by decide +kernel
theorem dX6_underOf_20 : decode cX6_underOf 20 = .ok (.iload_n 3, 1) := by decide +kernel
theorem dX6_underOf_21 : decode cX6_underOf 21 = .ok (.iadd, 1) := by decide +kernel
theorem dX6_underOf_22 : decode cX6_underOf 22 = .ok (.istore 5, 2) := by decide +kernel
theorem dX6_underOf_24 : decode cX6_underOf 24 = .ok (.iload 4, 2) := by decide +kernel
theorem dX6_underOf_26 : decode cX6_underOf 26 = .ok (.i2l, 1) := by decide +kernel
theorem dX6_underOf_27 : decode cX6_underOf 27 = .ok (.lconst 0, 1) := by decide +kernel
theorem dX6_underOf_28 : decode cX6_underOf 28 = .ok (.aload_n 0, 1) := by decide +kernel
theorem dX6_underOf_29 : decode cX6_underOf 29 = .ok (.iconst 0, 1) := by decide +kernel
theorem dX6_underOf_30 : decode cX6_underOf 30 = .ok (.iaload, 1) := by decide +kernel
theorem dX6_underOf_31 : decode cX6_underOf 31 = .ok (.iconst 1, 1) := by decide +kernel
theorem dX6_underOf_32 : decode cX6_underOf 32 = .ok (.isub, 1) := by decide +kernel
theorem dX6_underOf_33 : decode cX6_underOf 33 = .ok (.i2l, 1) := by decide +kernel
theorem dX6_underOf_34 : decode cX6_underOf 34 = .ok (.invokestatic 57, 3) := by decide +kernel
theorem dX6_underOf_37 : decode cX6_underOf 37 = .ok (.ifCond .eq 31, 3) := by decide +kernel
theorem dX6_underOf_40 : decode cX6_underOf 40 = .ok (.iload 5, 2) := by decide +kernel
theorem dX6_underOf_42 : decode cX6_underOf 42 = .ok (.i2l, 1) := by decide +kernel
theorem dX6_underOf_43 : decode cX6_underOf 43 = .ok (.lconst 0, 1) := by decide +kernel
theorem dX6_underOf_44 : decode cX6_underOf 44 = .ok (.aload_n 0, 1) := by decide +kernel
theorem dX6_underOf_45 : decode cX6_underOf 45 = .ok (.iconst 1, 1) := by decide +kernel
theorem dX6_underOf_46 : decode cX6_underOf 46 = .ok (.iaload, 1) := by decide +kernel
theorem dX6_underOf_47 : decode cX6_underOf 47 = .ok (.iconst 1, 1) := by decide +kernel
theorem dX6_underOf_48 : decode cX6_underOf 48 = .ok (.isub, 1) := by decide +kernel
theorem dX6_underOf_49 : decode cX6_underOf 49 = .ok (.i2l, 1) := by decide +kernel
theorem dX6_underOf_50 : decode cX6_underOf 50 = .ok (.invokestatic 57, 3) := by decide +kernel
theorem dX6_underOf_53 : decode cX6_underOf 53 = .ok (.ifCond .eq 15, 3) := by decide +kernel
theorem dX6_underOf_56 : decode cX6_underOf 56 = .ok (.aload_n 0, 1) := by decide +kernel
theorem dX6_underOf_57 : decode cX6_underOf 57 = .ok (.iconst 0, 1) := by decide +kernel
theorem dX6_underOf_58 : decode cX6_underOf 58 = .ok (.iaload, 1) := by decide +kernel
theorem dX6_underOf_59 : decode cX6_underOf 59 = .ok (.iload 5, 2) := by decide +kernel
theorem dX6_underOf_61 : decode cX6_underOf 61 = .ok (.imul, 1) := by decide +kernel
theorem dX6_underOf_62 : decode cX6_underOf 62 = .ok (.iload 4, 2) := by decide +kernel
theorem dX6_underOf_64 : decode cX6_underOf 64 = .ok (.iadd, 1) := by decide +kernel
theorem dX6_underOf_65 : decode cX6_underOf 65 = .ok (.goto 5, 3) := by decide +kernel
theorem dX6_underOf_68 : decode cX6_underOf 68 = .ok (.bipush (-9), 2) := by decide +kernel
theorem dX6_underOf_70 : decode cX6_underOf 70 = .ok (.ireturn, 1) := by decide +kernel
theorem dX6_markOf_0 : decode cX6_markOf 0 = .ok (.aload_n 0, 1) := by decide +kernel
theorem dX6_markOf_1 : decode cX6_markOf 1 = .ok (.aload_n 1, 1) := by decide +kernel
theorem dX6_markOf_2 : decode cX6_markOf 2 = .ok (.iload_n 2, 1) := by decide +kernel
theorem dX6_markOf_3 : decode cX6_markOf 3 = .ok (.aload_n 1, 1) := by decide +kernel
theorem dX6_markOf_4 : decode cX6_markOf 4 = .ok (.bipush 53, 2) := by decide +kernel
theorem dX6_markOf_6 : decode cX6_markOf 6 = .ok (.iaload, 1) := by decide +kernel
theorem dX6_markOf_7 : decode cX6_markOf 7 = .ok (.invokevirtual 93, 3) := by decide +kernel
theorem dX6_markOf_10 : decode cX6_markOf 10 = .ok (.aload_n 1, 1) := by decide +kernel
theorem dX6_markOf_11 : decode cX6_markOf 11 = .ok (.iconst 2, 1) := by decide +kernel
theorem dX6_markOf_12 : decode cX6_markOf 12 = .ok (.iload_n 2, 1) := by decide +kernel
theorem dX6_markOf_13 : decode cX6_markOf 13 = .ok (.iadd, 1) := by decide +kernel
theorem dX6_markOf_14 : decode cX6_markOf 14 = .ok (.iaload, 1) := by decide +kernel
theorem dX6_markOf_15 : decode cX6_markOf 15 = .ok (.istore_n 3, 1) := by decide +kernel
theorem dX6_markOf_16 : decode cX6_markOf 16 = .ok (.aload_n 0, 1) := by decide +kernel
theorem dX6_markOf_17 : decode cX6_markOf 17 = .ok (.aload_n 1, 1) := by decide +kernel
theorem dX6_markOf_18 : decode cX6_markOf 18 = .ok (.iload_n 3, 1) := by decide +kernel
theorem dX6_markOf_19 : decode cX6_markOf 19 = .ok (.invokevirtual 97, 3) := by decide +kernel
theorem dX6_markOf_22 : decode cX6_markOf 22 = .ok (.ifCond .ne 5, 3) := by decide +kernel
theorem dX6_markOf_25 : decode cX6_markOf 25 = .ok (.iconst 0, 1) := by decide +kernel
theorem dX6_markOf_26 : decode cX6_markOf 26 = .ok (.ireturn, 1) := by decide +kernel
theorem dX6_markOf_27 : decode cX6_markOf 27 = .ok (.aload_n 1, 1) := by decide +kernel
theorem dX6_markOf_28 : decode cX6_markOf 28 = .ok (.iload_n 2, 1) := by decide +kernel
theorem dX6_markOf_29 : decode cX6_markOf 29 = .ok (.aload_n 1, 1) := by decide +kernel
theorem dX6_markOf_30 : decode cX6_markOf 30 = .ok (.bipush 65, 2) := by decide +kernel
theorem dX6_markOf_32 : decode cX6_markOf 32 = .ok (.iaload, 1) := by decide +kernel
theorem dX6_markOf_33 : decode cX6_markOf 33 = .ok (.aload_n 1, 1) := by decide +kernel
theorem dX6_markOf_34 : decode cX6_markOf 34 = .ok (.bipush 66, 2) := by decide +kernel
theorem dX6_markOf_36 : decode cX6_markOf 36 = .ok (.iaload, 1) := by decide +kernel
theorem dX6_markOf_37 : decode cX6_markOf 37 = .ok (.invokestatic 101, 3) := by decide +kernel
theorem dX6_markOf_40 : decode cX6_markOf 40 = .ok (.istore 4, 2) := by decide +kernel
theorem dX6_markOf_42 : decode cX6_markOf 42 = .ok (.iload 4, 2) := by decide +kernel
theorem dX6_markOf_44 : decode cX6_markOf 44 = .ok (.bipush (-9), 2) := by decide +kernel
theorem dX6_markOf_46 : decode cX6_markOf 46 = .ok (.if_icmp .ne 5, 3) := by decide +kernel
theorem dX6_markOf_49 : decode cX6_markOf 49 = .ok (.iconst 2, 1) := by decide +kernel
theorem dX6_markOf_50 : decode cX6_markOf 50 = .ok (.ireturn, 1) := by decide +kernel
theorem dX6_markOf_51 : decode cX6_markOf 51 = .ok (.iload_n 3, 1) := by decide +kernel
theorem dX6_markOf_52 : decode cX6_markOf 52 = .ok (.aload_n 1, 1) := by decide +kernel
theorem dX6_markOf_53 : decode cX6_markOf 53 = .ok (.bipush 55, 2) := by decide +kernel
theorem dX6_markOf_55 : decode cX6_markOf 55 = .ok (.aload_n 1, 1) := by decide +kernel
theorem dX6_markOf_56 : decode cX6_markOf 56 = .ok (.bipush 27, 2) := by decide +kernel
theorem dX6_markOf_58 : decode cX6_markOf 58 = .ok (.iload 4, 2) := by decide +kernel
theorem dX6_markOf_60 : decode cX6_markOf 60 = .ok (.iadd, 1) := by decide +kernel
theorem dX6_markOf_61 : decode cX6_markOf 61 = .ok (.iaload, 1) := by decide +kernel
theorem dX6_markOf_62 : decode cX6_markOf 62 = .ok (.iadd, 1) := by decide +kernel
theorem dX6_markOf_63 : decode cX6_markOf 63 = .ok (.iaload, 1) := by decide +kernel
theorem dX6_markOf_64 : decode cX6_markOf 64 = .ok (.iadd, 1) := by decide +kernel
theorem dX6_markOf_65 : decode cX6_markOf 65 = .ok (.istore 5, 2) := by decide +kernel
theorem dX6_markOf_67 : decode cX6_markOf 67 = .ok (.aload_n 0, 1) := by decide +kernel
theorem dX6_markOf_68 : decode cX6_markOf 68 = .ok (.aload_n 1, 1) := by decide +kernel
theorem dX6_markOf_69 : decode cX6_markOf 69 = .ok (.iload 5, 2) := by decide +kernel
theorem dX6_markOf_71 : decode cX6_markOf 71 = .ok (.bipush 9, 2) := by decide +kernel
theorem dX6_markOf_73 : decode cX6_markOf 73 = .ok (.if_icmp .le 8, 3) := by decide +kernel
theorem dX6_markOf_76 : decode cX6_markOf 76 = .ok (.bipush 9, 2) := by decide +kernel
theorem dX6_markOf_78 : decode cX6_markOf 78 = .ok (.goto 5, 3) := by decide +kernel
theorem dX6_markOf_81 : decode cX6_markOf 81 = .ok (.iload 5, 2) := by decide +kernel
theorem dX6_markOf_83 : decode cX6_markOf 83 = .ok (.invokevirtual 97, 3) := by decide +kernel
theorem dX6_markOf_86 : decode cX6_markOf 86 = .ok (.ifCond .eq 7, 3) := by decide +kernel
theorem dX6_markOf_89 : decode cX6_markOf 89 = .ok (.iconst 2, 1) := by decide +kernel
theorem dX6_markOf_90 : decode cX6_markOf 90 = .ok (.goto 4, 3) := by decide +kernel
theorem dX6_markOf_93 : decode cX6_markOf 93 = .ok (.iconst 1, 1) := by decide +kernel
theorem dX6_markOf_94 : decode cX6_markOf 94 = .ok (.ireturn, 1) := by decide +kernel
theorem dX6_inkOf_0 : decode cX6_inkOf 0 = .ok (.iconst 0, 1) := by decide +kernel
theorem dX6_inkOf_1 : decode cX6_inkOf 1 = .ok (.istore_n 2, 1) := by decide +kernel
theorem dX6_inkOf_2 : decode cX6_inkOf 2 = .ok (.iconst 0, 1) := by decide +kernel
theorem dX6_inkOf_3 : decode cX6_inkOf 3 = .ok (.istore_n 3, 1) := by decide +kernel
theorem dX6_inkOf_4 : decode cX6_inkOf 4 = .ok (.iload_n 3, 1) := by decide +kernel
theorem dX6_inkOf_5 : decode cX6_inkOf 5 = .ok (.aload_n 1, 1) := by decide +kernel
theorem dX6_inkOf_6 : decode cX6_inkOf 6 = .ok (.invokestatic 53, 3) := by decide +kernel
theorem dX6_inkOf_9 : decode cX6_inkOf 9 = .ok (.if_icmp .ge 29, 3) := by decide +kernel
theorem dX6_inkOf_12 : decode cX6_inkOf 12 = .ok (.iload_n 2, 1) := by decide +kernel
theorem dX6_inkOf_13 : decode cX6_inkOf 13 = .ok (.aload_n 0, 1) := by decide +kernel
theorem dX6_inkOf_14 : decode cX6_inkOf 14 = .ok (.aload_n 1, 1) := by decide +kernel
theorem dX6_inkOf_15 : decode cX6_inkOf 15 = .ok (.iload_n 3, 1) := by decide +kernel
theorem dX6_inkOf_16 : decode cX6_inkOf 16 = .ok (.invokevirtual 105, 3) := by decide +kernel
theorem dX6_inkOf_19 : decode cX6_inkOf 19 = .ok (.iconst 2, 1) := by decide +kernel
theorem dX6_inkOf_20 : decode cX6_inkOf 20 = .ok (.if_icmp .ne 9, 3) := by decide +kernel
theorem dX6_inkOf_23 : decode cX6_inkOf 23 = .ok (.iconst 1, 1) := by decide +kernel
theorem dX6_inkOf_24 : decode cX6_inkOf 24 = .ok (.iload_n 3, 1) := by decide +kernel
theorem dX6_inkOf_25 : decode cX6_inkOf 25 = .ok (.ishl, 1) := by decide +kernel
theorem dX6_inkOf_26 : decode cX6_inkOf 26 = .ok (.goto 4, 3) := by decide +kernel
theorem dX6_inkOf_29 : decode cX6_inkOf 29 = .ok (.iconst 0, 1) := by decide +kernel
theorem dX6_inkOf_30 : decode cX6_inkOf 30 = .ok (.ior, 1) := by decide +kernel
theorem dX6_inkOf_31 : decode cX6_inkOf 31 = .ok (.istore_n 2, 1) := by decide +kernel
theorem dX6_inkOf_32 : decode cX6_inkOf 32 = .ok (.iinc 3 1, 3) := by decide +kernel
theorem dX6_inkOf_35 : decode cX6_inkOf 35 = .ok (.goto (-31), 3) := by decide +kernel
theorem dX6_inkOf_38 : decode cX6_inkOf 38 = .ok (.iload_n 2, 1) := by decide +kernel
theorem dX6_inkOf_39 : decode cX6_inkOf 39 = .ok (.ireturn, 1) := by decide +kernel
theorem dX6_marks_0 : decode cX6_marks 0 = .ok (.iconst 0, 1) := by decide +kernel
theorem dX6_marks_1 : decode cX6_marks 1 = .ok (.istore_n 3, 1) := by decide +kernel
theorem dX6_marks_2 : decode cX6_marks 2 = .ok (.iconst 0, 1) := by decide +kernel
theorem dX6_marks_3 : decode cX6_marks 3 = .ok (.istore 4, 2) := by decide +kernel
theorem dX6_marks_5 : decode cX6_marks 5 = .ok (.iload 4, 2) := by decide +kernel
theorem dX6_marks_7 : decode cX6_marks 7 = .ok (.aload_n 0, 1) := by decide +kernel
theorem dX6_marks_8 : decode cX6_marks 8 = .ok (.getfield 16, 3) := by decide +kernel
theorem dX6_marks_11 : decode cX6_marks 11 = .ok (.invokestatic 53, 3) := by decide +kernel
theorem dX6_marks_14 : decode cX6_marks 14 = .ok (.if_icmp .ge 38, 3) := by decide +kernel
theorem dX6_marks_17 : decode cX6_marks 17 = .ok (.iload_n 3, 1) := by decide +kernel
theorem dX6_marks_18 : decode cX6_marks 18 = .ok (.aload_n 0, 1) := by decide +kernel
theorem dX6_marks_19 : decode cX6_marks 19 = .ok (.aload_n 0, 1) := by decide +kernel
theorem dX6_marks_20 : decode cX6_marks 20 = .ok (.getfield 16, 3) := by decide +kernel
theorem dX6_marks_23 : decode cX6_marks 23 = .ok (.iload 4, 2) := by decide +kernel
theorem dX6_marks_25 : decode cX6_marks 25 = .ok (.invokevirtual 105, 3) := by decide +kernel
theorem dX6_marks_28 : decode cX6_marks 28 = .ok (.i2l, 1) := by decide +kernel
theorem dX6_marks_29 : decode cX6_marks 29 = .ok (.iload_n 1, 1) := by decide +kernel
theorem dX6_marks_30 : decode cX6_marks 30 = .ok (.i2l, 1) := by decide +kernel
theorem dX6_marks_31 : decode cX6_marks 31 = .ok (.iload_n 2, 1) := by decide +kernel
theorem dX6_marks_32 : decode cX6_marks 32 = .ok (.i2l, 1) := by decide +kernel
theorem dX6_marks_33 : decode cX6_marks 33 = .ok (.invokestatic 57, 3) := by decide +kernel
theorem dX6_marks_36 : decode cX6_marks 36 = .ok (.ifCond .eq 7, 3) := by decide +kernel
theorem dX6_marks_39 : decode cX6_marks 39 = .ok (.iconst 1, 1) := by decide +kernel
theorem dX6_marks_40 : decode cX6_marks 40 = .ok (.goto 4, 3) := by decide +kernel
theorem dX6_marks_43 : decode cX6_marks 43 = .ok (.iconst 0, 1) := by decide +kernel
theorem dX6_marks_44 : decode cX6_marks 44 = .ok (.iadd, 1) := by decide +kernel
theorem dX6_marks_45 : decode cX6_marks 45 = .ok (.istore_n 3, 1) := by decide +kernel
theorem dX6_marks_46 : decode cX6_marks 46 = .ok (.iinc 4 1, 3) := by decide +kernel
theorem dX6_marks_49 : decode cX6_marks 49 = .ok (.goto (-44), 3) := by decide +kernel
theorem dX6_marks_52 : decode cX6_marks 52 = .ok (.iload_n 3, 1) := by decide +kernel
theorem dX6_marks_53 : decode cX6_marks 53 = .ok (.ireturn, 1) := by decide +kernel
theorem dX6_greys_0 : decode cX6_greys 0 = .ok (.iconst 0, 1) := by decide +kernel
theorem dX6_greys_1 : decode cX6_greys 1 = .ok (.istore_n 1, 1) := by decide +kernel
theorem dX6_greys_2 : decode cX6_greys 2 = .ok (.iconst 0, 1) := by decide +kernel
theorem dX6_greys_3 : decode cX6_greys 3 = .ok (.istore_n 2, 1) := by decide +kernel
theorem dX6_greys_4 : decode cX6_greys 4 = .ok (.iload_n 2, 1) := by decide +kernel
theorem dX6_greys_5 : decode cX6_greys 5 = .ok (.aload_n 0, 1) := by decide +kernel
theorem dX6_greys_6 : decode cX6_greys 6 = .ok (.invokestatic 53, 3) := by decide +kernel
theorem dX6_greys_9 : decode cX6_greys 9 = .ok (.if_icmp .ge 17, 3) := by decide +kernel
theorem dX6_greys_12 : decode cX6_greys 12 = .ok (.iload_n 1, 1) := by decide +kernel
theorem dX6_greys_13 : decode cX6_greys 13 = .ok (.aload_n 0, 1) := by decide +kernel
theorem dX6_greys_14 : decode cX6_greys 14 = .ok (.iconst 2, 1) := by decide +kernel
theorem dX6_greys_15 : decode cX6_greys 15 = .ok (.iload_n 2, 1) := by decide +kernel
theorem dX6_greys_16 : decode cX6_greys 16 = .ok (.iadd, 1) := by decide +kernel
theorem dX6_greys_17 : decode cX6_greys 17 = .ok (.iaload, 1) := by decide +kernel
theorem dX6_greys_18 : decode cX6_greys 18 = .ok (.iadd, 1) := by decide +kernel
theorem dX6_greys_19 : decode cX6_greys 19 = .ok (.istore_n 1, 1) := by decide +kernel
theorem dX6_greys_20 : decode cX6_greys 20 = .ok (.iinc 2 1, 3) := by decide +kernel
theorem dX6_greys_23 : decode cX6_greys 23 = .ok (.goto (-19), 3) := by decide +kernel
theorem dX6_greys_26 : decode cX6_greys 26 = .ok (.iload_n 1, 1) := by decide +kernel
theorem dX6_greys_27 : decode cX6_greys 27 = .ok (.ireturn, 1) := by decide +kernel
theorem dX6_about_0 : decode cX6_about 0 = .ok (.aload_n 0, 1) := by decide +kernel
theorem dX6_about_1 : decode cX6_about 1 = .ok (.iconst 0, 1) := by decide +kernel
theorem dX6_about_2 : decode cX6_about 2 = .ok (.putfield 45, 3) := by decide +kernel
theorem dX6_about_5 : decode cX6_about 5 = .ok (.iload_n 1, 1) := by decide +kernel
theorem dX6_about_6 : decode cX6_about 6 = .ok (.tableswitch 153 0 12 #[66, 66, 73, 80, 87, 94, 102, 102, 102, 115, 138, 143, 148], 66) := by decide +kernel
theorem dX6_about_72 : decode cX6_about 72 = .ok (.aload_n 0, 1) := by decide +kernel
theorem dX6_about_73 : decode cX6_about 73 = .ok (.getfield 16, 3) := by decide +kernel
theorem dX6_about_76 : decode cX6_about 76 = .ok (.iload_n 1, 1) := by decide +kernel
theorem dX6_about_77 : decode cX6_about 77 = .ok (.iaload, 1) := by decide +kernel
theorem dX6_about_78 : decode cX6_about 78 = .ok (.ireturn, 1) := by decide +kernel
theorem dX6_about_79 : decode cX6_about 79 = .ok (.aload_n 0, 1) := by decide +kernel
theorem dX6_about_80 : decode cX6_about 80 = .ok (.iconst 1, 1) := by decide +kernel
theorem dX6_about_81 : decode cX6_about 81 = .ok (.iconst 2, 1) := by decide +kernel
theorem dX6_about_82 : decode cX6_about 82 = .ok (.invokevirtual 109, 3) := by decide +kernel
theorem dX6_about_85 : decode cX6_about 85 = .ok (.ireturn, 1) := by decide +kernel
theorem dX6_about_86 : decode cX6_about 86 = .ok (.aload_n 0, 1) := by decide +kernel
theorem dX6_about_87 : decode cX6_about 87 = .ok (.iconst 1, 1) := by decide +kernel
theorem dX6_about_88 : decode cX6_about 88 = .ok (.iconst 1, 1) := by decide +kernel
theorem dX6_about_89 : decode cX6_about 89 = .ok (.invokevirtual 109, 3) := by decide +kernel
theorem dX6_about_92 : decode cX6_about 92 = .ok (.ireturn, 1) := by decide +kernel
theorem dX6_about_93 : decode cX6_about 93 = .ok (.aload_n 0, 1) := by decide +kernel
theorem dX6_about_94 : decode cX6_about 94 = .ok (.iconst 2, 1) := by decide +kernel
theorem dX6_about_95 : decode cX6_about 95 = .ok (.iconst 2, 1) := by decide +kernel
theorem dX6_about_96 : decode cX6_about 96 = .ok (.invokevirtual 109, 3) := by decide +kernel
theorem dX6_about_99 : decode cX6_about 99 = .ok (.ireturn, 1) := by decide +kernel
theorem dX6_about_100 : decode cX6_about 100 = .ok (.aload_n 0, 1) := by decide +kernel
theorem dX6_about_101 : decode cX6_about 101 = .ok (.getfield 16, 3) := by decide +kernel
theorem dX6_about_104 : decode cX6_about 104 = .ok (.invokestatic 112, 3) := by decide +kernel
theorem dX6_about_107 : decode cX6_about 107 = .ok (.ireturn, 1) := by decide +kernel
theorem dX6_about_108 : decode cX6_about 108 = .ok (.aload_n 0, 1) := by decide +kernel
theorem dX6_about_109 : decode cX6_about 109 = .ok (.getfield 16, 3) := by decide +kernel
theorem dX6_about_112 : decode cX6_about 112 = .ok (.bipush 52, 2) := by decide +kernel
theorem dX6_about_114 : decode cX6_about 114 = .ok (.iload_n 1, 1) := by decide +kernel
theorem dX6_about_115 : decode cX6_about 115 = .ok (.iadd, 1) := by decide +kernel
theorem dX6_about_116 : decode cX6_about 116 = .ok (.bipush 6, 2) := by decide +kernel
theorem dX6_about_118 : decode cX6_about 118 = .ok (.isub, 1) := by decide +kernel
theorem dX6_about_119 : decode cX6_about 119 = .ok (.iaload, 1) := by decide +kernel
theorem dX6_about_120 : decode cX6_about 120 = .ok (.ireturn, 1) := by decide +kernel
theorem dX6_about_121 : decode cX6_about 121 = .ok (.bipush 10, 2) := by decide +kernel
theorem dX6_about_123 : decode cX6_about 123 = .ok (.aload_n 0, 1) := by decide +kernel
theorem dX6_about_124 : decode cX6_about 124 = .ok (.getfield 16, 3) := by decide +kernel
theorem dX6_about_127 : decode cX6_about 127 = .ok (.bipush 65, 2) := by decide +kernel
theorem dX6_about_129 : decode cX6_about 129 = .ok (.iaload, 1) := by decide +kernel
theorem dX6_about_130 : decode cX6_about 130 = .ok (.iconst 1, 1) := by decide +kernel
theorem dX6_about_131 : decode cX6_about 131 = .ok (.iadd, 1) := by decide +kernel
theorem dX6_about_132 : decode cX6_about 132 = .ok (.imul, 1) := by decide +kernel
theorem dX6_about_133 : decode cX6_about 133 = .ok (.aload_n 0, 1) := by decide +kernel
theorem dX6_about_134 : decode cX6_about 134 = .ok (.getfield 16, 3) := by decide +kernel
theorem dX6_about_137 : decode cX6_about 137 = .ok (.bipush 66, 2) := by decide +kernel
theorem dX6_about_139 : decode cX6_about 139 = .ok (.iaload, 1) := by decide +kernel
theorem dX6_about_140 : decode cX6_about 140 = .ok (.iadd, 1) := by decide +kernel
theorem dX6_about_141 : decode cX6_about 141 = .ok (.iconst 1, 1) := by decide +kernel
theorem dX6_about_142 : decode cX6_about 142 = .ok (.iadd, 1) := by decide +kernel
theorem dX6_about_143 : decode cX6_about 143 = .ok (.ireturn, 1) := by decide +kernel
theorem dX6_about_144 : decode cX6_about 144 = .ok (.aload_n 0, 1) := by decide +kernel
theorem dX6_about_145 : decode cX6_about 145 = .ok (.getfield 78, 3) := by decide +kernel
theorem dX6_about_148 : decode cX6_about 148 = .ok (.ireturn, 1) := by decide +kernel
theorem dX6_about_149 : decode cX6_about 149 = .ok (.aload_n 0, 1) := by decide +kernel
theorem dX6_about_150 : decode cX6_about 150 = .ok (.getfield 115, 3) := by decide +kernel
theorem dX6_about_153 : decode cX6_about 153 = .ok (.ireturn, 1) := by decide +kernel
theorem dX6_about_154 : decode cX6_about 154 = .ok (.aload_n 0, 1) := by decide +kernel
theorem dX6_about_155 : decode cX6_about 155 = .ok (.getfield 63, 3) := by decide +kernel
theorem dX6_about_158 : decode cX6_about 158 = .ok (.ireturn, 1) := by decide +kernel
theorem dX6_about_159 : decode cX6_about 159 = .ok (.bipush (-2), 2) := by decide +kernel
theorem dX6_about_161 : decode cX6_about 161 = .ok (.ireturn, 1) := by decide +kernel
theorem dX6_grey_0 : decode cX6_grey 0 = .ok (.aload_n 0, 1) := by decide +kernel
theorem dX6_grey_1 : decode cX6_grey 1 = .ok (.iconst 0, 1) := by decide +kernel
theorem dX6_grey_2 : decode cX6_grey 2 = .ok (.putfield 45, 3) := by decide +kernel
theorem dX6_grey_5 : decode cX6_grey 5 = .ok (.iload_n 1, 1) := by decide +kernel
theorem dX6_grey_6 : decode cX6_grey 6 = .ok (.i2l, 1) := by decide +kernel
theorem dX6_grey_7 : decode cX6_grey 7 = .ok (.lconst 0, 1) := by decide +kernel
theorem dX6_grey_8 : decode cX6_grey 8 = .ok (.lconst 1, 1) := by decide +kernel
theorem dX6_grey_9 : decode cX6_grey 9 = .ok (.invokestatic 57, 3) := by decide +kernel
theorem dX6_grey_12 : decode cX6_grey 12 = .ok (.ifCond .eq 11, 3) := by decide +kernel
theorem dX6_grey_15 : decode cX6_grey 15 = .ok (.aload_n 0, 1) := by decide +kernel
theorem dX6_grey_16 : decode cX6_grey 16 = .ok (.iload_n 2, 1) := by decide +kernel
theorem dX6_grey_17 : decode cX6_grey 17 = .ok (.invokevirtual 118, 3) := by decide +kernel
theorem dX6_grey_20 : decode cX6_grey 20 = .ok (.ifCond .eq 7, 3) := by decide +kernel
theorem dX6_grey_23 : decode cX6_grey 23 = .ok (.iconst (-1), 1) := by decide +kernel
theorem dX6_grey_24 : decode cX6_grey 24 = .ok (.goto 20, 3) := by decide +kernel
theorem dX6_grey_27 : decode cX6_grey 27 = .ok (.aload_n 0, 1) := by decide +kernel
theorem dX6_grey_28 : decode cX6_grey 28 = .ok (.getfield 16, 3) := by decide +kernel
theorem dX6_grey_31 : decode cX6_grey 31 = .ok (.iload_n 1, 1) := by decide +kernel
theorem dX6_grey_32 : decode cX6_grey 32 = .ok (.ifCond .ne 7, 3) := by decide +kernel
theorem dX6_grey_35 : decode cX6_grey 35 = .ok (.iconst 2, 1) := by decide +kernel
theorem dX6_grey_36 : decode cX6_grey 36 = .ok (.goto 5, 3) := by decide +kernel
theorem dX6_grey_39 : decode cX6_grey 39 = .ok (.bipush 27, 2) := by decide +kernel
theorem dX6_grey_41 : decode cX6_grey 41 = .ok (.iload_n 2, 1) := by decide +kernel
theorem dX6_grey_42 : decode cX6_grey 42 = .ok (.iadd, 1) := by decide +kernel
theorem dX6_grey_43 : decode cX6_grey 43 = .ok (.iaload, 1) := by decide +kernel
theorem dX6_grey_44 : decode cX6_grey 44 = .ok (.ireturn, 1) := by decide +kernel
theorem dX6_shows_0 : decode cX6_shows 0 = .ok (.aload_n 0, 1) := by decide +kernel
theorem dX6_shows_1 : decode cX6_shows 1 = .ok (.iconst 0, 1) := by decide +kernel
theorem dX6_shows_2 : decode cX6_shows 2 = .ok (.putfield 45, 3) := by decide +kernel
theorem dX6_shows_5 : decode cX6_shows 5 = .ok (.iload_n 1, 1) := by decide +kernel
theorem dX6_shows_6 : decode cX6_shows 6 = .ok (.i2l, 1) := by decide +kernel
theorem dX6_shows_7 : decode cX6_shows 7 = .ok (.lconst 0, 1) := by decide +kernel
theorem dX6_shows_8 : decode cX6_shows 8 = .ok (.ldc2_w 66, 3) := by decide +kernel
theorem dX6_shows_11 : decode cX6_shows 11 = .ok (.invokestatic 57, 3) := by decide +kernel
theorem dX6_shows_14 : decode cX6_shows 14 = .ok (.ifCond .eq 15, 3) := by decide +kernel
theorem dX6_shows_17 : decode cX6_shows 17 = .ok (.aload_n 0, 1) := by decide +kernel
theorem dX6_shows_18 : decode cX6_shows 18 = .ok (.getfield 16, 3) := by decide +kernel
theorem dX6_shows_21 : decode cX6_shows 21 = .ok (.bipush 55, 2) := by decide +kernel
theorem dX6_shows_23 : decode cX6_shows 23 = .ok (.iload_n 1, 1) := by decide +kernel
theorem dX6_shows_24 : decode cX6_shows 24 = .ok (.iadd, 1) := by decide +kernel
theorem dX6_shows_25 : decode cX6_shows 25 = .ok (.iaload, 1) := by decide +kernel
theorem dX6_shows_26 : decode cX6_shows 26 = .ok (.goto 5, 3) := by decide +kernel
theorem dX6_shows_29 : decode cX6_shows 29 = .ok (.bipush (-2), 2) := by decide +kernel
theorem dX6_shows_31 : decode cX6_shows 31 = .ok (.ireturn, 1) := by decide +kernel
theorem dX6_window_0 : decode cX6_window 0 = .ok (.aload_n 0, 1) := by decide +kernel
theorem dX6_window_1 : decode cX6_window 1 = .ok (.iconst 0, 1) := by decide +kernel
theorem dX6_window_2 : decode cX6_window 2 = .ok (.putfield 45, 3) := by decide +kernel
theorem dX6_window_5 : decode cX6_window 5 = .ok (.aload_n 0, 1) := by decide +kernel
theorem dX6_window_6 : decode cX6_window 6 = .ok (.iload_n 1, 1) := by decide +kernel
theorem dX6_window_7 : decode cX6_window 7 = .ok (.invokevirtual 118, 3) := by decide +kernel
theorem dX6_window_10 : decode cX6_window 10 = .ok (.ifCond .eq 5, 3) := by decide +kernel
theorem dX6_window_13 : decode cX6_window 13 = .ok (.iconst (-1), 1) := by decide +kernel
theorem dX6_window_14 : decode cX6_window 14 = .ok (.ireturn, 1) := by decide +kernel
theorem dX6_window_15 : decode cX6_window 15 = .ok (.aload_n 0, 1) := by decide +kernel
theorem dX6_window_16 : decode cX6_window 16 = .ok (.aload_n 0, 1) := by decide +kernel
theorem dX6_window_17 : decode cX6_window 17 = .ok (.getfield 16, 3) := by decide +kernel
theorem dX6_window_20 : decode cX6_window 20 = .ok (.iload_n 1, 1) := by decide +kernel
theorem dX6_window_21 : decode cX6_window 21 = .ok (.aload_n 0, 1) := by decide +kernel
theorem dX6_window_22 : decode cX6_window 22 = .ok (.getfield 16, 3) := by decide +kernel
theorem dX6_window_25 : decode cX6_window 25 = .ok (.bipush 53, 2) := by decide +kernel
theorem dX6_window_27 : decode cX6_window 27 = .ok (.iaload, 1) := by decide +kernel
theorem dX6_window_28 : decode cX6_window 28 = .ok (.invokevirtual 93, 3) := by decide +kernel
theorem dX6_window_31 : decode cX6_window 31 = .ok (.iload_n 2, 1) := by decide +kernel
theorem dX6_window_32 : decode cX6_window 32 = .ok (.ifCond .ne 10, 3) := by decide +kernel
theorem dX6_window_35 : decode cX6_window 35 = .ok (.aload_n 0, 1) := by decide +kernel
theorem dX6_window_36 : decode cX6_window 36 = .ok (.getfield 81, 3) := by decide +kernel
theorem dX6_window_39 : decode cX6_window 39 = .ok (.goto 29, 3) := by decide +kernel
theorem dX6_window_42 : decode cX6_window 42 = .ok (.iload_n 2, 1) := by decide +kernel
theorem dX6_window_43 : decode cX6_window 43 = .ok (.iconst 1, 1) := by decide +kernel
theorem dX6_window_44 : decode cX6_window 44 = .ok (.if_icmp .ne 10, 3) := by decide +kernel
theorem dX6_window_47 : decode cX6_window 47 = .ok (.aload_n 0, 1) := by decide +kernel
theorem dX6_window_48 : decode cX6_window 48 = .ok (.getfield 84, 3) := by decide +kernel
theorem dX6_window_51 : decode cX6_window 51 = .ok (.goto 17, 3) := by decide +kernel
theorem dX6_window_54 : decode cX6_window 54 = .ok (.iload_n 2, 1) := by decide +kernel
theorem dX6_window_55 : decode cX6_window 55 = .ok (.iconst 2, 1) := by decide +kernel
theorem dX6_window_56 : decode cX6_window 56 = .ok (.if_icmp .ne 10, 3) := by decide +kernel
theorem dX6_window_59 : decode cX6_window 59 = .ok (.aload_n 0, 1) := by decide +kernel
theorem dX6_window_60 : decode cX6_window 60 = .ok (.getfield 87, 3) := by decide +kernel
theorem dX6_window_63 : decode cX6_window 63 = .ok (.goto 5, 3) := by decide +kernel
theorem dX6_window_66 : decode cX6_window 66 = .ok (.bipush (-2), 2) := by decide +kernel
theorem dX6_window_68 : decode cX6_window 68 = .ok (.ireturn, 1) := by decide +kernel
theorem dX6_spread_0 : decode cX6_spread 0 = .ok (.aload_n 0, 1) := by decide +kernel
theorem dX6_spread_1 : decode cX6_spread 1 = .ok (.iconst 0, 1) := by decide +kernel
theorem dX6_spread_2 : decode cX6_spread 2 = .ok (.putfield 45, 3) := by decide +kernel
theorem dX6_spread_5 : decode cX6_spread 5 = .ok (.aload_n 0, 1) := by decide +kernel
theorem dX6_spread_6 : decode cX6_spread 6 = .ok (.iload_n 1, 1) := by decide +kernel
theorem dX6_spread_7 : decode cX6_spread 7 = .ok (.invokevirtual 118, 3) := by decide +kernel
theorem dX6_spread_10 : decode cX6_spread 10 = .ok (.ifCond .eq 5, 3) := by decide +kernel
theorem dX6_spread_13 : decode cX6_spread 13 = .ok (.iconst (-1), 1) := by decide +kernel
theorem dX6_spread_14 : decode cX6_spread 14 = .ok (.ireturn, 1) := by decide +kernel
theorem dX6_spread_15 : decode cX6_spread 15 = .ok (.iload_n 2, 1) := by decide +kernel
theorem dX6_spread_16 : decode cX6_spread 16 = .ok (.i2l, 1) := by decide +kernel
theorem dX6_spread_17 : decode cX6_spread 17 = .ok (.lconst 0, 1) := by decide +kernel
theorem dX6_spread_18 : decode cX6_spread 18 = .ok (.lconst 1, 1) := by decide +kernel
theorem dX6_spread_19 : decode cX6_spread 19 = .ok (.invokestatic 57, 3) := by decide +kernel
theorem dX6_spread_22 : decode cX6_spread 22 = .ok (.ifCond .ne 6, 3) := by decide +kernel
theorem dX6_spread_25 : decode cX6_spread 25 = .ok (.bipush (-2), 2) := by decide +kernel
theorem dX6_spread_27 : decode cX6_spread 27 = .ok (.ireturn, 1) := by decide +kernel
theorem dX6_spread_28 : decode cX6_spread 28 = .ok (.aload_n 0, 1) := by decide +kernel
theorem dX6_spread_29 : decode cX6_spread 29 = .ok (.aload_n 0, 1) := by decide +kernel
theorem dX6_spread_30 : decode cX6_spread 30 = .ok (.getfield 16, 3) := by decide +kernel
theorem dX6_spread_33 : decode cX6_spread 33 = .ok (.iload_n 1, 1) := by decide +kernel
theorem dX6_spread_34 : decode cX6_spread 34 = .ok (.aload_n 0, 1) := by decide +kernel
theorem dX6_spread_35 : decode cX6_spread 35 = .ok (.getfield 16, 3) := by decide +kernel
theorem dX6_spread_38 : decode cX6_spread 38 = .ok (.bipush 53, 2) := by decide +kernel
theorem dX6_spread_40 : decode cX6_spread 40 = .ok (.iaload, 1) := by decide +kernel
theorem dX6_spread_41 : decode cX6_spread 41 = .ok (.invokevirtual 93, 3) := by decide +kernel
theorem dX6_spread_44 : decode cX6_spread 44 = .ok (.aload_n 0, 1) := by decide +kernel
theorem dX6_spread_45 : decode cX6_spread 45 = .ok (.getfield 81, 3) := by decide +kernel
theorem dX6_spread_48 : decode cX6_spread 48 = .ok (.istore 4, 2) := by decide +kernel
theorem dX6_spread_50 : decode cX6_spread 50 = .ok (.iload_n 2, 1) := by decide +kernel
theorem dX6_spread_51 : decode cX6_spread 51 = .ok (.ifCond .ne 16, 3) := by decide +kernel
theorem dX6_spread_54 : decode cX6_spread 54 = .ok (.aload_n 0, 1) := by decide +kernel
theorem dX6_spread_55 : decode cX6_spread 55 = .ok (.getfield 84, 3) := by decide +kernel
theorem dX6_spread_58 : decode cX6_spread 58 = .ok (.iload 4, 2) := by decide +kernel
theorem dX6_spread_60 : decode cX6_spread 60 = .ok (.iload_n 3, 1) := by decide +kernel
theorem dX6_spread_61 : decode cX6_spread 61 = .ok (.invokestatic 122, 3) := by decide +kernel
theorem dX6_spread_64 : decode cX6_spread 64 = .ok (.goto 29, 3) := by decide +kernel
theorem dX6_spread_67 : decode cX6_spread 67 = .ok (.iload 4, 2) := by decide +kernel
theorem dX6_spread_69 : decode cX6_spread 69 = .ok (.aload_n 0, 1) := by decide +kernel
theorem dX6_spread_70 : decode cX6_spread 70 = .ok (.getfield 87, 3) := by decide +kernel
theorem dX6_spread_73 : decode cX6_spread 73 = .ok (.imul, 1) := by decide +kernel
theorem dX6_spread_74 : decode cX6_spread 74 = .ok (.aload_n 0, 1) := by decide +kernel
theorem dX6_spread_75 : decode cX6_spread 75 = .ok (.getfield 84, 3) := by decide +kernel
theorem dX6_spread_78 : decode cX6_spread 78 = .ok (.aload_n 0, 1) := by decide +kernel
theorem dX6_spread_79 : decode cX6_spread 79 = .ok (.getfield 84, 3) := by decide +kernel
theorem dX6_spread_82 : decode cX6_spread 82 = .ok (.imul, 1) := by decide +kernel
theorem dX6_spread_83 : decode cX6_spread 83 = .ok (.isub, 1) := by decide +kernel
theorem dX6_spread_84 : decode cX6_spread 84 = .ok (.iload 4, 2) := by decide +kernel
theorem dX6_spread_86 : decode cX6_spread 86 = .ok (.iload 4, 2) := by decide +kernel
theorem dX6_spread_88 : decode cX6_spread 88 = .ok (.imul, 1) := by decide +kernel
theorem dX6_spread_89 : decode cX6_spread 89 = .ok (.iload_n 3, 1) := by decide +kernel
theorem dX6_spread_90 : decode cX6_spread 90 = .ok (.invokestatic 122, 3) := by decide +kernel
theorem dX6_spread_93 : decode cX6_spread 93 = .ok (.ireturn, 1) := by decide +kernel
theorem dX6_mark_0 : decode cX6_mark 0 = .ok (.aload_n 0, 1) := by decide +kernel
theorem dX6_mark_1 : decode cX6_mark 1 = .ok (.iconst 0, 1) := by decide +kernel
theorem dX6_mark_2 : decode cX6_mark 2 = .ok (.putfield 45, 3) := by decide +kernel
theorem dX6_mark_5 : decode cX6_mark 5 = .ok (.aload_n 0, 1) := by decide +kernel
theorem dX6_mark_6 : decode cX6_mark 6 = .ok (.iload_n 1, 1) := by decide +kernel
theorem dX6_mark_7 : decode cX6_mark 7 = .ok (.invokevirtual 118, 3) := by decide +kernel
theorem dX6_mark_10 : decode cX6_mark 10 = .ok (.ifCond .eq 7, 3) := by decide +kernel
theorem dX6_mark_13 : decode cX6_mark 13 = .ok (.iconst (-1), 1) := by decide +kernel
theorem dX6_mark_14 : decode cX6_mark 14 = .ok (.goto 12, 3) := by decide +kernel
theorem dX6_mark_17 : decode cX6_mark 17 = .ok (.aload_n 0, 1) := by decide +kernel
theorem dX6_mark_18 : decode cX6_mark 18 = .ok (.aload_n 0, 1) := by decide +kernel
theorem dX6_mark_19 : decode cX6_mark 19 = .ok (.getfield 16, 3) := by decide +kernel
theorem dX6_mark_22 : decode cX6_mark 22 = .ok (.iload_n 1, 1) := by decide +kernel
theorem dX6_mark_23 : decode cX6_mark 23 = .ok (.invokevirtual 105, 3) := by decide +kernel
theorem dX6_mark_26 : decode cX6_mark 26 = .ok (.ireturn, 1) := by decide +kernel
theorem dX6_under_0 : decode cX6_under 0 = .ok (.aload_n 0, 1) := by decide +kernel
theorem dX6_under_1 : decode cX6_under 1 = .ok (.iconst 0, 1) := by decide +kernel
theorem dX6_under_2 : decode cX6_under 2 = .ok (.putfield 45, 3) := by decide +kernel
theorem dX6_under_5 : decode cX6_under 5 = .ok (.aload_n 0, 1) := by decide +kernel
theorem dX6_under_6 : decode cX6_under 6 = .ok (.iload_n 1, 1) := by decide +kernel
theorem dX6_under_7 : decode cX6_under 7 = .ok (.invokevirtual 118, 3) := by decide +kernel
theorem dX6_under_10 : decode cX6_under 10 = .ok (.ifCond .eq 7, 3) := by decide +kernel
theorem dX6_under_13 : decode cX6_under 13 = .ok (.iconst (-1), 1) := by decide +kernel
theorem dX6_under_14 : decode cX6_under 14 = .ok (.goto 25, 3) := by decide +kernel
theorem dX6_under_17 : decode cX6_under 17 = .ok (.aload_n 0, 1) := by decide +kernel
theorem dX6_under_18 : decode cX6_under 18 = .ok (.getfield 16, 3) := by decide +kernel
theorem dX6_under_21 : decode cX6_under 21 = .ok (.iload_n 1, 1) := by decide +kernel
theorem dX6_under_22 : decode cX6_under 22 = .ok (.aload_n 0, 1) := by decide +kernel
theorem dX6_under_23 : decode cX6_under 23 = .ok (.getfield 16, 3) := by decide +kernel
theorem dX6_under_26 : decode cX6_under 26 = .ok (.bipush 65, 2) := by decide +kernel
theorem dX6_under_28 : decode cX6_under 28 = .ok (.iaload, 1) := by decide +kernel
theorem dX6_under_29 : decode cX6_under 29 = .ok (.aload_n 0, 1) := by decide +kernel
theorem dX6_under_30 : decode cX6_under 30 = .ok (.getfield 16, 3) := by decide +kernel
theorem dX6_under_33 : decode cX6_under 33 = .ok (.bipush 66, 2) := by decide +kernel
theorem dX6_under_35 : decode cX6_under 35 = .ok (.iaload, 1) := by decide +kernel
theorem dX6_under_36 : decode cX6_under 36 = .ok (.invokestatic 101, 3) := by decide +kernel
theorem dX6_under_39 : decode cX6_under 39 = .ok (.ireturn, 1) := by decide +kernel
theorem dX6_hanging_0 : decode cX6_hanging 0 = .ok (.iconst 1, 1) := by decide +kernel
theorem dX6_hanging_1 : decode cX6_hanging 1 = .ok (.iload_n 1, 1) := by decide +kernel
theorem dX6_hanging_2 : decode cX6_hanging 2 = .ok (.ishl, 1) := by decide +kernel
theorem dX6_hanging_3 : decode cX6_hanging 3 = .ok (.istore_n 3, 1) := by decide +kernel
theorem dX6_hanging_4 : decode cX6_hanging 4 = .ok (.iconst 0, 1) := by decide +kernel
theorem dX6_hanging_5 : decode cX6_hanging 5 = .ok (.istore 4, 2) := by decide +kernel
theorem dX6_hanging_7 : decode cX6_hanging 7 = .ok (.iload 4, 2) := by decide +kernel
theorem dX6_hanging_9 : decode cX6_hanging 9 = .ok (.iload_n 3, 1) := by decide +kernel
theorem dX6_hanging_10 : decode cX6_hanging 10 = .ok (.if_icmp .eq 134, 3) := by decide +kernel
theorem dX6_hanging_13 : decode cX6_hanging 13 = .ok (.iload_n 3, 1) := by decide +kernel
theorem dX6_hanging_14 : decode cX6_hanging 14 = .ok (.istore 4, 2) := by decide +kernel
theorem dX6_hanging_16 : decode cX6_hanging 16 = .ok (.iconst 0, 1) := by decide +kernel
theorem dX6_hanging_17 : decode cX6_hanging 17 = .ok (.istore 5, 2) := by decide +kernel
theorem dX6_hanging_19 : decode cX6_hanging 19 = .ok (.iload 5, 2) := by decide +kernel
theorem dX6_hanging_21 : decode cX6_hanging 21 = .ok (.aload_n 0, 1) := by decide +kernel
theorem dX6_hanging_22 : decode cX6_hanging 22 = .ok (.invokestatic 53, 3) := by decide +kernel
theorem dX6_hanging_25 : decode cX6_hanging 25 = .ok (.if_icmp .ge 116, 3) := by decide +kernel
theorem dX6_hanging_28 : decode cX6_hanging 28 = .ok (.iconst 0, 1) := by decide +kernel
theorem dX6_hanging_29 : decode cX6_hanging 29 = .ok (.istore 6, 2) := by decide +kernel
theorem dX6_hanging_31 : decode cX6_hanging 31 = .ok (.iload 6, 2) := by decide +kernel
theorem dX6_hanging_33 : decode cX6_hanging 33 = .ok (.aload_n 0, 1) := by decide +kernel
theorem dX6_hanging_34 : decode cX6_hanging 34 = .ok (.invokestatic 53, 3) := by decide +kernel
theorem dX6_hanging_37 : decode cX6_hanging 37 = .ok (.if_icmp .ge 98, 3) := by decide +kernel
theorem dX6_hanging_40 : decode cX6_hanging 40 = .ok (.iload_n 2, 1) := by decide +kernel
theorem dX6_hanging_41 : decode cX6_hanging 41 = .ok (.iload 5, 2) := by decide +kernel
theorem dX6_hanging_43 : decode cX6_hanging 43 = .ok (.invokestatic 126, 3) := by decide +kernel
theorem dX6_hanging_46 : decode cX6_hanging 46 = .ok (.ifCond .eq 89, 3) := by decide +kernel
theorem dX6_hanging_49 : decode cX6_hanging 49 = .ok (.iload_n 3, 1) := by decide +kernel
theorem dX6_hanging_50 : decode cX6_hanging 50 = .ok (.iload 5, 2) := by decide +kernel
theorem dX6_hanging_52 : decode cX6_hanging 52 = .ok (.invokestatic 126, 3) := by decide +kernel
theorem dX6_hanging_55 : decode cX6_hanging 55 = .ok (.ifCond .ne 80, 3) := by decide +kernel
theorem dX6_hanging_58 : decode cX6_hanging 58 = .ok (.iload 4, 2) := by decide +kernel
theorem dX6_hanging_60 : decode cX6_hanging 60 = .ok (.iload 6, 2) := by decide +kernel
theorem dX6_hanging_62 : decode cX6_hanging 62 = .ok (.invokestatic 126, 3) := by decide +kernel
theorem dX6_hanging_65 : decode cX6_hanging 65 = .ok (.ifCond .eq 45, 3) := by decide +kernel
theorem dX6_hanging_68 : decode cX6_hanging 68 = .ok (.iload 5, 2) := by decide +kernel
theorem dX6_hanging_70 : decode cX6_hanging 70 = .ok (.aload_n 0, 1) := by decide +kernel
theorem dX6_hanging_71 : decode cX6_hanging 71 = .ok (.iconst 0, 1) := by decide +kernel
theorem dX6_hanging_72 : decode cX6_hanging 72 = .ok (.iaload, 1) := by decide +kernel
theorem dX6_hanging_73 : decode cX6_hanging 73 = .ok (.irem, 1) := by decide +kernel
theorem dX6_hanging_74 : decode cX6_hanging 74 = .ok (.iload 6, 2) := by decide +kernel
theorem dX6_hanging_76 : decode cX6_hanging 76 = .ok (.aload_n 0, 1) := by decide +kernel
theorem dX6_hanging_77 : decode cX6_hanging 77 = .ok (.iconst 0, 1) := by decide +kernel
theorem dX6_hanging_78 : decode cX6_hanging 78 = .ok (.iaload, 1) := by decide +kernel
theorem dX6_hanging_79 : decode cX6_hanging 79 = .ok (.irem, 1) := by decide +kernel
theorem dX6_hanging_80 : decode cX6_hanging 80 = .ok (.invokestatic 90, 3) := by decide +kernel
theorem dX6_hanging_83 : decode cX6_hanging 83 = .ok (.iconst 2, 1) := by decide +kernel
theorem dX6_hanging_84 : decode cX6_hanging 84 = .ok (.if_icmp .ge 26, 3) := by decide +kernel
theorem dX6_hanging_87 : decode cX6_hanging 87 = .ok (.iload 5, 2) := by decide +kernel
theorem dX6_hanging_89 : decode cX6_hanging 89 = .ok (.aload_n 0, 1) := by decide +kernel
theorem dX6_hanging_90 : decode cX6_hanging 90 = .ok (.iconst 0, 1) := by decide +kernel
theorem dX6_hanging_91 : decode cX6_hanging 91 = .ok (.iaload, 1) := by decide +kernel
theorem dX6_hanging_92 : decode cX6_hanging 92 = .ok (.idiv, 1) := by decide +kernel
theorem dX6_hanging_93 : decode cX6_hanging 93 = .ok (.iload 6, 2) := by decide +kernel
theorem dX6_hanging_95 : decode cX6_hanging 95 = .ok (.aload_n 0, 1) := by decide +kernel
theorem dX6_hanging_96 : decode cX6_hanging 96 = .ok (.iconst 0, 1) := by decide +kernel
theorem dX6_hanging_97 : decode cX6_hanging 97 = .ok (.iaload, 1) := by decide +kernel
theorem dX6_hanging_98 : decode cX6_hanging 98 = .ok (.idiv, 1) := by decide +kernel
theorem dX6_hanging_99 : decode cX6_hanging 99 = .ok (.invokestatic 90, 3) := by decide +kernel
theorem dX6_hanging_102 : decode cX6_hanging 102 = .ok (.iconst 2, 1) := by decide +kernel
theorem dX6_hanging_103 : decode cX6_hanging 103 = .ok (.if_icmp .ge 7, 3) := by decide +kernel
theorem dX6_hanging_106 : decode cX6_hanging 106 = .ok (.iconst 1, 1) := by decide +kernel
theorem dX6_hanging_107 : decode cX6_hanging 107 = .ok (.goto 4, 3) := by decide +kernel
theorem dX6_hanging_110 : decode cX6_hanging 110 = .ok (.iconst 0, 1) := by decide +kernel
theorem dX6_hanging_111 : decode cX6_hanging 111 = .ok (.istore 7, 2) := by decide +kernel
theorem dX6_hanging_113 : decode cX6_hanging 113 = .ok (.iload_n 3, 1) := by decide +kernel
theorem dX6_hanging_114 : decode cX6_hanging 114 = .ok (.iload 7, 2) := by decide +kernel
theorem dX6_hanging_116 : decode cX6_hanging 116 = .ok (.ifCond .eq 10, 3) := by decide +kernel
theorem dX6_hanging_119 : decode cX6_hanging 119 = .ok (.iconst 1, 1) := by decide +kernel
theorem dX6_hanging_120 : decode cX6_hanging 120 = .ok (.iload 5, 2) := by decide +kernel
theorem dX6_hanging_122 : decode cX6_hanging 122 = .ok (.ishl, 1) := by decide +kernel
theorem dX6_hanging_123 : decode cX6_hanging 123 = .ok (.goto 4, 3) := by decide +kernel
theorem dX6_hanging_126 : decode cX6_hanging 126 = .ok (.iconst 0, 1) := by decide +kernel
theorem dX6_hanging_127 : decode cX6_hanging 127 = .ok (.ior, 1) := by decide +kernel
theorem dX6_hanging_128 : decode cX6_hanging 128 = .ok (.istore_n 3, 1) := by decide +kernel
theorem dX6_hanging_129 : decode cX6_hanging 129 = .ok (.iinc 6 1, 3) := by decide +kernel
theorem dX6_hanging_132 : decode cX6_hanging 132 = .ok (.goto (-101), 3) := by decide +kernel
theorem dX6_hanging_135 : decode cX6_hanging 135 = .ok (.iinc 5 1, 3) := by decide +kernel
theorem dX6_hanging_138 : decode cX6_hanging 138 = .ok (.goto (-119), 3) := by decide +kernel
theorem dX6_hanging_141 : decode cX6_hanging 141 = .ok (.goto (-134), 3) := by decide +kernel
theorem dX6_hanging_144 : decode cX6_hanging 144 = .ok (.iload_n 3, 1) := by decide +kernel
theorem dX6_hanging_145 : decode cX6_hanging 145 = .ok (.ireturn, 1) := by decide +kernel
theorem dX6_cleaned_0 : decode cX6_cleaned 0 = .ok (.aload_n 0, 1) := by decide +kernel
theorem dX6_cleaned_1 : decode cX6_cleaned 1 = .ok (.iconst 0, 1) := by decide +kernel
theorem dX6_cleaned_2 : decode cX6_cleaned 2 = .ok (.putfield 45, 3) := by decide +kernel
theorem dX6_cleaned_5 : decode cX6_cleaned 5 = .ok (.iload_n 1, 1) := by decide +kernel
theorem dX6_cleaned_6 : decode cX6_cleaned 6 = .ok (.i2l, 1) := by decide +kernel
theorem dX6_cleaned_7 : decode cX6_cleaned 7 = .ok (.lconst 0, 1) := by decide +kernel
theorem dX6_cleaned_8 : decode cX6_cleaned 8 = .ok (.ldc2_w 130, 3) := by decide +kernel
theorem dX6_cleaned_11 : decode cX6_cleaned 11 = .ok (.invokestatic 57, 3) := by decide +kernel
theorem dX6_cleaned_14 : decode cX6_cleaned 14 = .ok (.ifCond .ne 6, 3) := by decide +kernel
theorem dX6_cleaned_17 : decode cX6_cleaned 17 = .ok (.bipush (-2), 2) := by decide +kernel
theorem dX6_cleaned_19 : decode cX6_cleaned 19 = .ok (.ireturn, 1) := by decide +kernel
theorem dX6_cleaned_20 : decode cX6_cleaned 20 = .ok (.aload_n 0, 1) := by decide +kernel
theorem dX6_cleaned_21 : decode cX6_cleaned 21 = .ok (.aload_n 0, 1) := by decide +kernel
theorem dX6_cleaned_22 : decode cX6_cleaned 22 = .ok (.getfield 16, 3) := by decide +kernel
theorem dX6_cleaned_25 : decode cX6_cleaned 25 = .ok (.invokevirtual 132, 3) := by decide +kernel
theorem dX6_cleaned_28 : decode cX6_cleaned 28 = .ok (.istore_n 2, 1) := by decide +kernel
theorem dX6_cleaned_29 : decode cX6_cleaned 29 = .ok (.iconst 0, 1) := by decide +kernel
theorem dX6_cleaned_30 : decode cX6_cleaned 30 = .ok (.istore_n 3, 1) := by decide +kernel
theorem dX6_cleaned_31 : decode cX6_cleaned 31 = .ok (.iconst 0, 1) := by decide +kernel
theorem dX6_cleaned_32 : decode cX6_cleaned 32 = .ok (.istore 4, 2) := by decide +kernel
theorem dX6_cleaned_34 : decode cX6_cleaned 34 = .ok (.iload 4, 2) := by decide +kernel
theorem dX6_cleaned_36 : decode cX6_cleaned 36 = .ok (.aload_n 0, 1) := by decide +kernel
theorem dX6_cleaned_37 : decode cX6_cleaned 37 = .ok (.getfield 16, 3) := by decide +kernel
theorem dX6_cleaned_40 : decode cX6_cleaned 40 = .ok (.invokestatic 53, 3) := by decide +kernel
theorem dX6_cleaned_43 : decode cX6_cleaned 43 = .ok (.if_icmp .ge 46, 3) := by decide +kernel
theorem dX6_cleaned_46 : decode cX6_cleaned 46 = .ok (.iload_n 3, 1) := by decide +kernel
theorem dX6_cleaned_47 : decode cX6_cleaned 47 = .ok (.iload_n 2, 1) := by decide +kernel
theorem dX6_cleaned_48 : decode cX6_cleaned 48 = .ok (.iload 4, 2) := by decide +kernel
theorem dX6_cleaned_50 : decode cX6_cleaned 50 = .ok (.invokestatic 126, 3) := by decide +kernel
theorem dX6_cleaned_53 : decode cX6_cleaned 53 = .ok (.ifCond .eq 27, 3) := by decide +kernel
theorem dX6_cleaned_56 : decode cX6_cleaned 56 = .ok (.aload_n 0, 1) := by decide +kernel
theorem dX6_cleaned_57 : decode cX6_cleaned 57 = .ok (.getfield 16, 3) := by decide +kernel
theorem dX6_cleaned_60 : decode cX6_cleaned 60 = .ok (.iload 4, 2) := by decide +kernel
theorem dX6_cleaned_62 : decode cX6_cleaned 62 = .ok (.iload_n 2, 1) := by decide +kernel
theorem dX6_cleaned_63 : decode cX6_cleaned 63 = .ok (.invokestatic 135, 3) := by decide +kernel
theorem dX6_cleaned_66 : decode cX6_cleaned 66 = .ok (.invokestatic 139, 3) := by decide +kernel
theorem dX6_cleaned_69 : decode cX6_cleaned 69 = .ok (.iload_n 1, 1) := by decide +kernel
theorem dX6_cleaned_70 : decode cX6_cleaned 70 = .ok (.if_icmp .le 10, 3) := by decide +kernel
theorem dX6_cleaned_73 : decode cX6_cleaned 73 = .ok (.iconst 1, 1) := by decide +kernel
theorem dX6_cleaned_74 : decode cX6_cleaned 74 = .ok (.iload 4, 2) := by decide +kernel
theorem dX6_cleaned_76 : decode cX6_cleaned 76 = .ok (.ishl, 1) := by decide +kernel
theorem dX6_cleaned_77 : decode cX6_cleaned 77 = .ok (.goto 4, 3) := by decide +kernel
theorem dX6_cleaned_80 : decode cX6_cleaned 80 = .ok (.iconst 0, 1) := by decide +kernel
theorem dX6_cleaned_81 : decode cX6_cleaned 81 = .ok (.ior, 1) := by decide +kernel
theorem dX6_cleaned_82 : decode cX6_cleaned 82 = .ok (.istore_n 3, 1) := by decide +kernel
theorem dX6_cleaned_83 : decode cX6_cleaned 83 = .ok (.iinc 4 1, 3) := by decide +kernel
theorem dX6_cleaned_86 : decode cX6_cleaned 86 = .ok (.goto (-52), 3) := by decide +kernel
theorem dX6_cleaned_89 : decode cX6_cleaned 89 = .ok (.iload_n 3, 1) := by decide +kernel
theorem dX6_cleaned_90 : decode cX6_cleaned 90 = .ok (.ireturn, 1) := by decide +kernel
theorem dX6_note_0 : decode cX6_note 0 = .ok (.aload_n 0, 1) := by decide +kernel
theorem dX6_note_1 : decode cX6_note 1 = .ok (.getfield 78, 3) := by decide +kernel
theorem dX6_note_4 : decode cX6_note 4 = .ok (.bipush 14, 2) := by decide +kernel
theorem dX6_note_6 : decode cX6_note 6 = .ok (.if_icmp .ne 43, 3) := by decide +kernel
theorem dX6_note_9 : decode cX6_note 9 = .ok (.iconst 0, 1) := by decide +kernel
theorem dX6_note_10 : decode cX6_note 10 = .ok (.istore_n 1, 1) := by decide +kernel
theorem dX6_note_11 : decode cX6_note 11 = .ok (.iload_n 1, 1) := by decide +kernel
theorem dX6_note_12 : decode cX6_note 12 = .ok (.sipush 871, 3) := by decide +kernel
theorem dX6_note_15 : decode cX6_note 15 = .ok (.if_icmp .ge 24, 3) := by decide +kernel
theorem dX6_note_18 : decode cX6_note 18 = .ok (.aload_n 0, 1) := by decide +kernel
theorem dX6_note_19 : decode cX6_note 19 = .ok (.getfield 22, 3) := by decide +kernel
theorem dX6_note_22 : decode cX6_note 22 = .ok (.iload_n 1, 1) := by decide +kernel
theorem dX6_note_23 : decode cX6_note 23 = .ok (.aload_n 0, 1) := by decide +kernel
theorem dX6_note_24 : decode cX6_note 24 = .ok (.getfield 22, 3) := by decide +kernel
theorem dX6_note_27 : decode cX6_note 27 = .ok (.iload_n 1, 1) := by decide +kernel
theorem dX6_note_28 : decode cX6_note 28 = .ok (.bipush 67, 2) := by decide +kernel
theorem dX6_note_30 : decode cX6_note 30 = .ok (.iadd, 1) := by decide +kernel
theorem dX6_note_31 : decode cX6_note 31 = .ok (.iaload, 1) := by decide +kernel
theorem dX6_note_32 : decode cX6_note 32 = .ok (.iastore, 1) := by decide +kernel
theorem dX6_note_33 : decode cX6_note 33 = .ok (.iinc 1 1, 3) := by decide +kernel
theorem dX6_note_36 : decode cX6_note 36 = .ok (.goto (-25), 3) := by decide +kernel
theorem dX6_note_39 : decode cX6_note 39 = .ok (.aload_n 0, 1) := by decide +kernel
theorem dX6_note_40 : decode cX6_note 40 = .ok (.dup, 1) := by decide +kernel
theorem dX6_note_41 : decode cX6_note 41 = .ok (.getfield 78, 3) := by decide +kernel
theorem dX6_note_44 : decode cX6_note 44 = .ok (.iconst 1, 1) := by decide +kernel
theorem dX6_note_45 : decode cX6_note 45 = .ok (.isub, 1) := by decide +kernel
theorem dX6_note_46 : decode cX6_note 46 = .ok (.putfield 78, 3) := by decide +kernel
theorem dX6_note_49 : decode cX6_note 49 = .ok (.iconst 0, 1) := by decide +kernel
theorem dX6_note_50 : decode cX6_note 50 = .ok (.istore_n 1, 1) := by decide +kernel
theorem dX6_note_51 : decode cX6_note 51 = .ok (.iload_n 1, 1) := by decide +kernel
theorem dX6_note_52 : decode cX6_note 52 = .ok (.bipush 67, 2) := by decide +kernel
theorem dX6_note_54 : decode cX6_note 54 = .ok (.if_icmp .ge 29, 3) := by decide +kernel
theorem dX6_note_57 : decode cX6_note 57 = .ok (.aload_n 0, 1) := by decide +kernel
theorem dX6_note_58 : decode cX6_note 58 = .ok (.getfield 22, 3) := by decide +kernel
theorem dX6_note_61 : decode cX6_note 61 = .ok (.bipush 67, 2) := by decide +kernel
theorem dX6_note_63 : decode cX6_note 63 = .ok (.aload_n 0, 1) := by decide +kernel
theorem dX6_note_64 : decode cX6_note 64 = .ok (.getfield 78, 3) := by decide +kernel
theorem dX6_note_67 : decode cX6_note 67 = .ok (.imul, 1) := by decide +kernel
theorem dX6_note_68 : decode cX6_note 68 = .ok (.iload_n 1, 1) := by decide +kernel
theorem dX6_note_69 : decode cX6_note 69 = .ok (.iadd, 1) := by decide +kernel
theorem dX6_note_70 : decode cX6_note 70 = .ok (.aload_n 0, 1) := by decide +kernel
theorem dX6_note_71 : decode cX6_note 71 = .ok (.getfield 16, 3) := by decide +kernel
theorem dX6_note_74 : decode cX6_note 74 = .ok (.iload_n 1, 1) := by decide +kernel
theorem dX6_note_75 : decode cX6_note 75 = .ok (.iaload, 1) := by decide +kernel
theorem dX6_note_76 : decode cX6_note 76 = .ok (.iastore, 1) := by decide +kernel
theorem dX6_note_77 : decode cX6_note 77 = .ok (.iinc 1 1, 3) := by decide +kernel
theorem dX6_note_80 : decode cX6_note 80 = .ok (.goto (-29), 3) := by decide +kernel
theorem dX6_note_83 : decode cX6_note 83 = .ok (.aload_n 0, 1) := by decide +kernel
theorem dX6_note_84 : decode cX6_note 84 = .ok (.dup, 1) := by decide +kernel
theorem dX6_note_85 : decode cX6_note 85 = .ok (.getfield 78, 3) := by decide +kernel
theorem dX6_note_88 : decode cX6_note 88 = .ok (.iconst 1, 1) := by decide +kernel
theorem dX6_note_89 : decode cX6_note 89 = .ok (.iadd, 1) := by decide +kernel
theorem dX6_note_90 : decode cX6_note 90 = .ok (.putfield 78, 3) := by decide +kernel
theorem dX6_note_93 : decode cX6_note 93 = .ok (.return_, 1) := by decide +kernel
theorem dX6_paint_0 : decode cX6_paint 0 = .ok (.aload_n 0, 1) := by decide +kernel
theorem dX6_paint_1 : decode cX6_paint 1 = .ok (.iconst 0, 1) := by decide +kernel
theorem dX6_paint_2 : decode cX6_paint 2 = .ok (.putfield 45, 3) := by decide +kernel
theorem dX6_paint_5 : decode cX6_paint 5 = .ok (.iload_n 1, 1) := by decide +kernel
theorem dX6_paint_6 : decode cX6_paint 6 = .ok (.i2l, 1) := by decide +kernel
theorem dX6_paint_7 : decode cX6_paint 7 = .ok (.lconst 0, 1) := by decide +kernel
theorem dX6_paint_8 : decode cX6_paint 8 = .ok (.lconst 1, 1) := by decide +kernel
theorem dX6_paint_9 : decode cX6_paint 9 = .ok (.invokestatic 57, 3) := by decide +kernel
theorem dX6_paint_12 : decode cX6_paint 12 = .ok (.ifCond .eq 11, 3) := by decide +kernel
theorem dX6_paint_15 : decode cX6_paint 15 = .ok (.aload_n 0, 1) := by decide +kernel
theorem dX6_paint_16 : decode cX6_paint 16 = .ok (.iload_n 2, 1) := by decide +kernel
theorem dX6_paint_17 : decode cX6_paint 17 = .ok (.invokevirtual 118, 3) := by decide +kernel
theorem dX6_paint_20 : decode cX6_paint 20 = .ok (.ifCond .eq 5, 3) := by decide +kernel
theorem dX6_paint_23 : decode cX6_paint 23 = .ok (.iconst (-1), 1) := by decide +kernel
theorem dX6_paint_24 : decode cX6_paint 24 = .ok (.ireturn, 1) := by decide +kernel
theorem dX6_paint_25 : decode cX6_paint 25 = .ok (.iload_n 3, 1) := by decide +kernel
theorem dX6_paint_26 : decode cX6_paint 26 = .ok (.i2l, 1) := by decide +kernel
theorem dX6_paint_27 : decode cX6_paint 27 = .ok (.lconst 0, 1) := by decide +kernel
theorem dX6_paint_28 : decode cX6_paint 28 = .ok (.ldc2_w 66, 3) := by decide +kernel
theorem dX6_paint_31 : decode cX6_paint 31 = .ok (.invokestatic 57, 3) := by decide +kernel
theorem dX6_paint_34 : decode cX6_paint 34 = .ok (.ifCond .ne 6, 3) := by decide +kernel
theorem dX6_paint_37 : decode cX6_paint 37 = .ok (.bipush (-2), 2) := by decide +kernel
theorem dX6_paint_39 : decode cX6_paint 39 = .ok (.ireturn, 1) := by decide +kernel
theorem dX6_paint_40 : decode cX6_paint 40 = .ok (.aload_n 0, 1) := by decide +kernel
theorem dX6_paint_41 : decode cX6_paint 41 = .ok (.invokevirtual 142, 3) := by decide +kernel
theorem dX6_paint_44 : decode cX6_paint 44 = .ok (.iload_n 1, 1) := by decide +kernel
theorem dX6_paint_45 : decode cX6_paint 45 = .ok (.ifCond .ne 7, 3) := by decide +kernel
theorem dX6_paint_48 : decode cX6_paint 48 = .ok (.iconst 2, 1) := by decide +kernel
theorem dX6_paint_49 : decode cX6_paint 49 = .ok (.goto 5, 3) := by decide +kernel
theorem dX6_paint_52 : decode cX6_paint 52 = .ok (.bipush 27, 2) := by decide +kernel
theorem dX6_paint_54 : decode cX6_paint 54 = .ok (.iload_n 2, 1) := by decide +kernel
theorem dX6_paint_55 : decode cX6_paint 55 = .ok (.iadd, 1) := by decide +kernel
theorem dX6_paint_56 : decode cX6_paint 56 = .ok (.istore 4, 2) := by decide +kernel
theorem dX6_paint_58 : decode cX6_paint 58 = .ok (.aload_n 0, 1) := by decide +kernel
theorem dX6_paint_59 : decode cX6_paint 59 = .ok (.getfield 16, 3) := by decide +kernel
theorem dX6_paint_62 : decode cX6_paint 62 = .ok (.iload 4, 2) := by decide +kernel
theorem dX6_paint_64 : decode cX6_paint 64 = .ok (.iaload, 1) := by decide +kernel
theorem dX6_paint_65 : decode cX6_paint 65 = .ok (.istore 5, 2) := by decide +kernel
theorem dX6_paint_67 : decode cX6_paint 67 = .ok (.aload_n 0, 1) := by decide +kernel
theorem dX6_paint_68 : decode cX6_paint 68 = .ok (.getfield 16, 3) := by decide +kernel
theorem dX6_paint_71 : decode cX6_paint 71 = .ok (.iload 4, 2) := by decide +kernel
theorem dX6_paint_73 : decode cX6_paint 73 = .ok (.iload_n 3, 1) := by decide +kernel
theorem dX6_paint_74 : decode cX6_paint 74 = .ok (.iastore, 1) := by decide +kernel
theorem dX6_paint_75 : decode cX6_paint 75 = .ok (.iload 5, 2) := by decide +kernel
theorem dX6_paint_77 : decode cX6_paint 77 = .ok (.ireturn, 1) := by decide +kernel
theorem dX6_canLight_0 : decode cX6_canLight 0 = .ok (.iconst 1, 1) := by decide +kernel
theorem dX6_canLight_1 : decode cX6_canLight 1 = .ok (.istore_n 2, 1) := by decide +kernel
theorem dX6_canLight_2 : decode cX6_canLight 2 = .ok (.iconst 0, 1) := by decide +kernel
theorem dX6_canLight_3 : decode cX6_canLight 3 = .ok (.istore_n 3, 1) := by decide +kernel
theorem dX6_canLight_4 : decode cX6_canLight 4 = .ok (.iload_n 3, 1) := by decide +kernel
theorem dX6_canLight_5 : decode cX6_canLight 5 = .ok (.aload_n 0, 1) := by decide +kernel
theorem dX6_canLight_6 : decode cX6_canLight 6 = .ok (.invokestatic 53, 3) := by decide +kernel
theorem dX6_canLight_9 : decode cX6_canLight 9 = .ok (.if_icmp .ge 37, 3) := by decide +kernel
theorem dX6_canLight_12 : decode cX6_canLight 12 = .ok (.iload_n 2, 1) := by decide +kernel
theorem dX6_canLight_13 : decode cX6_canLight 13 = .ok (.ifCond .eq 25, 3) := by decide +kernel
theorem dX6_canLight_16 : decode cX6_canLight 16 = .ok (.aload_n 0, 1) := by decide +kernel
theorem dX6_canLight_17 : decode cX6_canLight 17 = .ok (.iconst 2, 1) := by decide +kernel
theorem dX6_canLight_18 : decode cX6_canLight 18 = .ok (.iload_n 3, 1) := by decide +kernel
theorem dX6_canLight_19 : decode cX6_canLight 19 = .ok (.iadd, 1) := by decide +kernel
theorem dX6_canLight_20 : decode cX6_canLight 20 = .ok (.iaload, 1) := by decide +kernel
theorem dX6_canLight_21 : decode cX6_canLight 21 = .ok (.iload_n 1, 1) := by decide +kernel
theorem dX6_canLight_22 : decode cX6_canLight 22 = .ok (.iadd, 1) := by decide +kernel
theorem dX6_canLight_23 : decode cX6_canLight 23 = .ok (.i2l, 1) := by decide +kernel
theorem dX6_canLight_24 : decode cX6_canLight 24 = .ok (.lconst 0, 1) := by decide +kernel
theorem dX6_canLight_25 : decode cX6_canLight 25 = .ok (.ldc2_w 66, 3) := by decide +kernel
theorem dX6_canLight_28 : decode cX6_canLight 28 = .ok (.invokestatic 57, 3) := by decide +kernel
theorem dX6_canLight_31 : decode cX6_canLight 31 = .ok (.ifCond .eq 7, 3) := by decide +kernel
theorem dX6_canLight_34 : decode cX6_canLight 34 = .ok (.iconst 1, 1) := by decide +kernel
theorem dX6_canLight_35 : decode cX6_canLight 35 = .ok (.goto 4, 3) := by decide +kernel
theorem dX6_canLight_38 : decode cX6_canLight 38 = .ok (.iconst 0, 1) := by decide +kernel
theorem dX6_canLight_39 : decode cX6_canLight 39 = .ok (.istore_n 2, 1) := by decide +kernel
theorem dX6_canLight_40 : decode cX6_canLight 40 = .ok (.iinc 3 1, 3) := by decide +kernel
theorem dX6_canLight_43 : decode cX6_canLight 43 = .ok (.goto (-39), 3) := by decide +kernel
theorem dX6_canLight_46 : decode cX6_canLight 46 = .ok (.iload_n 2, 1) := by decide +kernel
theorem dX6_canLight_47 : decode cX6_canLight 47 = .ok (.ireturn, 1) := by decide +kernel
theorem dX6_goLight_0 : decode cX6_goLight 0 = .ok (.iconst 0, 1) := by decide +kernel
theorem dX6_goLight_1 : decode cX6_goLight 1 = .ok (.istore_n 2, 1) := by decide +kernel
theorem dX6_goLight_2 : decode cX6_goLight 2 = .ok (.iload_n 2, 1) := by decide +kernel
theorem dX6_goLight_3 : decode cX6_goLight 3 = .ok (.aload_n 0, 1) := by decide +kernel
theorem dX6_goLight_4 : decode cX6_goLight 4 = .ok (.invokestatic 53, 3) := by decide +kernel
theorem dX6_goLight_7 : decode cX6_goLight 7 = .ok (.if_icmp .ge 18, 3) := by decide +kernel
theorem dX6_goLight_10 : decode cX6_goLight 10 = .ok (.aload_n 0, 1) := by decide +kernel
theorem dX6_goLight_11 : decode cX6_goLight 11 = .ok (.iconst 2, 1) := by decide +kernel
theorem dX6_goLight_12 : decode cX6_goLight 12 = .ok (.iload_n 2, 1) := by decide +kernel
theorem dX6_goLight_13 : decode cX6_goLight 13 = .ok (.iadd, 1) := by decide +kernel
theorem dX6_goLight_14 : decode cX6_goLight 14 = .ok (.dup2, 1) := by decide +kernel
theorem dX6_goLight_15 : decode cX6_goLight 15 = .ok (.iaload, 1) := by decide +kernel
theorem dX6_goLight_16 : decode cX6_goLight 16 = .ok (.iload_n 1, 1) := by decide +kernel
theorem dX6_goLight_17 : decode cX6_goLight 17 = .ok (.iadd, 1) := by decide +kernel
theorem dX6_goLight_18 : decode cX6_goLight 18 = .ok (.iastore, 1) := by decide +kernel
theorem dX6_goLight_19 : decode cX6_goLight 19 = .ok (.iinc 2 1, 3) := by decide +kernel
theorem dX6_goLight_22 : decode cX6_goLight 22 = .ok (.goto (-20), 3) := by decide +kernel
theorem dX6_goLight_25 : decode cX6_goLight 25 = .ok (.return_, 1) := by decide +kernel
theorem dX6_light_0 : decode cX6_light 0 = .ok (.aload_n 0, 1) := by decide +kernel
theorem dX6_light_1 : decode cX6_light 1 = .ok (.iconst 0, 1) := by decide +kernel
theorem dX6_light_2 : decode cX6_light 2 = .ok (.putfield 45, 3) := by decide +kernel
theorem dX6_light_5 : decode cX6_light 5 = .ok (.iload_n 1, 1) := by decide +kernel
theorem dX6_light_6 : decode cX6_light 6 = .ok (.i2l, 1) := by decide +kernel
theorem dX6_light_7 : decode cX6_light 7 = .ok (.ldc2_w 145, 3) := by decide +kernel
theorem dX6_light_10 : decode cX6_light 10 = .ok (.ldc2_w 66, 3) := by decide +kernel
theorem dX6_light_13 : decode cX6_light 13 = .ok (.invokestatic 57, 3) := by decide +kernel
theorem dX6_light_16 : decode cX6_light 16 = .ok (.ifCond .ne 6, 3) := by decide +kernel
theorem dX6_light_19 : decode cX6_light 19 = .ok (.bipush (-2), 2) := by decide +kernel
theorem dX6_light_21 : decode cX6_light 21 = .ok (.ireturn, 1) := by decide +kernel
theorem dX6_light_22 : decode cX6_light 22 = .ok (.aload_n 0, 1) := by decide +kernel
theorem dX6_light_23 : decode cX6_light 23 = .ok (.getfield 16, 3) := by decide +kernel
theorem dX6_light_26 : decode cX6_light 26 = .ok (.iload_n 1, 1) := by decide +kernel
end
section
theorem dX6_light_27 : decode cX6_light 27 = .ok (.invokestatic 147, 3) := by decide +kernel
theorem dX6_light_30 : decode cX6_light 30 = .ok (.ifCond .ne 6, 3) := by decide +kernel
theorem dX6_light_33 : decode cX6_light 33 = .ok (.bipush (-3), 2) := by decide +kernel
theorem dX6_light_35 : decode cX6_light 35 = .ok (.ireturn, 1) := by decide +kernel
theorem dX6_light_36 : decode cX6_light 36 = .ok (.aload_n 0, 1) := by decide +kernel
theorem dX6_light_37 : decode cX6_light 37 = .ok (.invokevirtual 142, 3) := by decide +kernel
theorem dX6_light_40 : decode cX6_light 40 = .ok (.aload_n 0, 1) := by decide +kernel
theorem dX6_light_41 : decode cX6_light 41 = .ok (.getfield 16, 3) := by decide +kernel
theorem dX6_light_44 : decode cX6_light 44 = .ok (.iload_n 1, 1) := by decide +kernel
theorem dX6_light_45 : decode cX6_light 45 = .ok (.invokestatic 150, 3) := by decide +kernel
theorem dX6_light_48 : decode cX6_light 48 = .ok (.aload_n 0, 1) := by decide +kernel
theorem dX6_light_49 : decode cX6_light 49 = .ok (.getfield 16, 3) := by decide +kernel
theorem dX6_light_52 : decode cX6_light 52 = .ok (.invokestatic 112, 3) := by decide +kernel
theorem dX6_light_55 : decode cX6_light 55 = .ok (.ireturn, 1) := by decide +kernel
theorem dX6_isRule_0 : decode cX6_isRule 0 = .ok (.iload_n 0, 1) := by decide +kernel
theorem dX6_isRule_1 : decode cX6_isRule 1 = .ok (.i2l, 1) := by decide +kernel
theorem dX6_isRule_2 : decode cX6_isRule 2 = .ok (.lconst 0, 1) := by decide +kernel
theorem dX6_isRule_3 : decode cX6_isRule 3 = .ok (.ldc2_w 154, 3) := by decide +kernel
theorem dX6_isRule_6 : decode cX6_isRule 6 = .ok (.invokestatic 57, 3) := by decide +kernel
theorem dX6_isRule_9 : decode cX6_isRule 9 = .ok (.ifCond .eq 31, 3) := by decide +kernel
theorem dX6_isRule_12 : decode cX6_isRule 12 = .ok (.iload_n 1, 1) := by decide +kernel
theorem dX6_isRule_13 : decode cX6_isRule 13 = .ok (.i2l, 1) := by decide +kernel
theorem dX6_isRule_14 : decode cX6_isRule 14 = .ok (.lconst 0, 1) := by decide +kernel
theorem dX6_isRule_15 : decode cX6_isRule 15 = .ok (.ldc2_w 154, 3) := by decide +kernel
theorem dX6_isRule_18 : decode cX6_isRule 18 = .ok (.invokestatic 57, 3) := by decide +kernel
theorem dX6_isRule_21 : decode cX6_isRule 21 = .ok (.ifCond .eq 19, 3) := by decide +kernel
theorem dX6_isRule_24 : decode cX6_isRule 24 = .ok (.iload_n 2, 1) := by decide +kernel
theorem dX6_isRule_25 : decode cX6_isRule 25 = .ok (.i2l, 1) := by decide +kernel
theorem dX6_isRule_26 : decode cX6_isRule 26 = .ok (.lconst 0, 1) := by decide +kernel
theorem dX6_isRule_27 : decode cX6_isRule 27 = .ok (.ldc2_w 66, 3) := by decide +kernel
theorem dX6_isRule_30 : decode cX6_isRule 30 = .ok (.invokestatic 57, 3) := by decide +kernel
theorem dX6_isRule_33 : decode cX6_isRule 33 = .ok (.ifCond .eq 7, 3) := by decide +kernel
theorem dX6_isRule_36 : decode cX6_isRule 36 = .ok (.iconst 1, 1) := by decide +kernel
theorem dX6_isRule_37 : decode cX6_isRule 37 = .ok (.goto 4, 3) := by decide +kernel
theorem dX6_isRule_40 : decode cX6_isRule 40 = .ok (.iconst 0, 1) := by decide +kernel
theorem dX6_isRule_41 : decode cX6_isRule 41 = .ok (.ireturn, 1) := by decide +kernel
theorem dX6_goRule_0 : decode cX6_goRule 0 = .ok (.aload_n 0, 1) := by decide +kernel
theorem dX6_goRule_1 : decode cX6_goRule 1 = .ok (.bipush 52, 2) := by decide +kernel
theorem dX6_goRule_3 : decode cX6_goRule 3 = .ok (.iload_n 1, 1) := by decide +kernel
theorem dX6_goRule_4 : decode cX6_goRule 4 = .ok (.iastore, 1) := by decide +kernel
theorem dX6_goRule_5 : decode cX6_goRule 5 = .ok (.aload_n 0, 1) := by decide +kernel
theorem dX6_goRule_6 : decode cX6_goRule 6 = .ok (.bipush 53, 2) := by decide +kernel
theorem dX6_goRule_8 : decode cX6_goRule 8 = .ok (.iload_n 2, 1) := by decide +kernel
theorem dX6_goRule_9 : decode cX6_goRule 9 = .ok (.iastore, 1) := by decide +kernel
theorem dX6_goRule_10 : decode cX6_goRule 10 = .ok (.aload_n 0, 1) := by decide +kernel
theorem dX6_goRule_11 : decode cX6_goRule 11 = .ok (.bipush 54, 2) := by decide +kernel
theorem dX6_goRule_13 : decode cX6_goRule 13 = .ok (.iload_n 3, 1) := by decide +kernel
theorem dX6_goRule_14 : decode cX6_goRule 14 = .ok (.iastore, 1) := by decide +kernel
theorem dX6_goRule_15 : decode cX6_goRule 15 = .ok (.return_, 1) := by decide +kernel
theorem dX6_rule_0 : decode cX6_rule 0 = .ok (.aload_n 0, 1) := by decide +kernel
theorem dX6_rule_1 : decode cX6_rule 1 = .ok (.iconst 0, 1) := by decide +kernel
theorem dX6_rule_2 : decode cX6_rule 2 = .ok (.putfield 45, 3) := by decide +kernel
theorem dX6_rule_5 : decode cX6_rule 5 = .ok (.iload_n 1, 1) := by decide +kernel
theorem dX6_rule_6 : decode cX6_rule 6 = .ok (.iload_n 2, 1) := by decide +kernel
theorem dX6_rule_7 : decode cX6_rule 7 = .ok (.iload_n 3, 1) := by decide +kernel
theorem dX6_rule_8 : decode cX6_rule 8 = .ok (.invokestatic 156, 3) := by decide +kernel
theorem dX6_rule_11 : decode cX6_rule 11 = .ok (.ifCond .ne 6, 3) := by decide +kernel
theorem dX6_rule_14 : decode cX6_rule 14 = .ok (.bipush (-2), 2) := by decide +kernel
theorem dX6_rule_16 : decode cX6_rule 16 = .ok (.ireturn, 1) := by decide +kernel
theorem dX6_rule_17 : decode cX6_rule 17 = .ok (.aload_n 0, 1) := by decide +kernel
theorem dX6_rule_18 : decode cX6_rule 18 = .ok (.invokevirtual 142, 3) := by decide +kernel
theorem dX6_rule_21 : decode cX6_rule 21 = .ok (.aload_n 0, 1) := by decide +kernel
theorem dX6_rule_22 : decode cX6_rule 22 = .ok (.getfield 16, 3) := by decide +kernel
theorem dX6_rule_25 : decode cX6_rule 25 = .ok (.iload_n 1, 1) := by decide +kernel
theorem dX6_rule_26 : decode cX6_rule 26 = .ok (.iload_n 2, 1) := by decide +kernel
theorem dX6_rule_27 : decode cX6_rule 27 = .ok (.iload_n 3, 1) := by decide +kernel
theorem dX6_rule_28 : decode cX6_rule 28 = .ok (.invokestatic 160, 3) := by decide +kernel
theorem dX6_rule_31 : decode cX6_rule 31 = .ok (.aload_n 0, 1) := by decide +kernel
theorem dX6_rule_32 : decode cX6_rule 32 = .ok (.aload_n 0, 1) := by decide +kernel
theorem dX6_rule_33 : decode cX6_rule 33 = .ok (.getfield 16, 3) := by decide +kernel
theorem dX6_rule_36 : decode cX6_rule 36 = .ok (.invokevirtual 132, 3) := by decide +kernel
theorem dX6_rule_39 : decode cX6_rule 39 = .ok (.invokestatic 139, 3) := by decide +kernel
theorem dX6_rule_42 : decode cX6_rule 42 = .ok (.ireturn, 1) := by decide +kernel
theorem dX6_table_0 : decode cX6_table 0 = .ok (.aload_n 0, 1) := by decide +kernel
theorem dX6_table_1 : decode cX6_table 1 = .ok (.iconst 0, 1) := by decide +kernel
theorem dX6_table_2 : decode cX6_table 2 = .ok (.putfield 45, 3) := by decide +kernel
theorem dX6_table_5 : decode cX6_table 5 = .ok (.iload_n 1, 1) := by decide +kernel
theorem dX6_table_6 : decode cX6_table 6 = .ok (.i2l, 1) := by decide +kernel
theorem dX6_table_7 : decode cX6_table 7 = .ok (.lconst 0, 1) := by decide +kernel
theorem dX6_table_8 : decode cX6_table 8 = .ok (.ldc2_w 66, 3) := by decide +kernel
theorem dX6_table_11 : decode cX6_table 11 = .ok (.invokestatic 57, 3) := by decide +kernel
theorem dX6_table_14 : decode cX6_table 14 = .ok (.ifCond .eq 15, 3) := by decide +kernel
theorem dX6_table_17 : decode cX6_table 17 = .ok (.iload_n 2, 1) := by decide +kernel
theorem dX6_table_18 : decode cX6_table 18 = .ok (.i2l, 1) := by decide +kernel
theorem dX6_table_19 : decode cX6_table 19 = .ok (.lconst 0, 1) := by decide +kernel
theorem dX6_table_20 : decode cX6_table 20 = .ok (.ldc2_w 66, 3) := by decide +kernel
theorem dX6_table_23 : decode cX6_table 23 = .ok (.invokestatic 57, 3) := by decide +kernel
theorem dX6_table_26 : decode cX6_table 26 = .ok (.ifCond .ne 6, 3) := by decide +kernel
theorem dX6_table_29 : decode cX6_table 29 = .ok (.bipush (-2), 2) := by decide +kernel
theorem dX6_table_31 : decode cX6_table 31 = .ok (.ireturn, 1) := by decide +kernel
theorem dX6_table_32 : decode cX6_table 32 = .ok (.aload_n 0, 1) := by decide +kernel
theorem dX6_table_33 : decode cX6_table 33 = .ok (.invokevirtual 142, 3) := by decide +kernel
theorem dX6_table_36 : decode cX6_table 36 = .ok (.aload_n 0, 1) := by decide +kernel
theorem dX6_table_37 : decode cX6_table 37 = .ok (.getfield 16, 3) := by decide +kernel
theorem dX6_table_40 : decode cX6_table 40 = .ok (.bipush 55, 2) := by decide +kernel
theorem dX6_table_42 : decode cX6_table 42 = .ok (.iload_n 1, 1) := by decide +kernel
theorem dX6_table_43 : decode cX6_table 43 = .ok (.iadd, 1) := by decide +kernel
theorem dX6_table_44 : decode cX6_table 44 = .ok (.iaload, 1) := by decide +kernel
theorem dX6_table_45 : decode cX6_table 45 = .ok (.istore_n 3, 1) := by decide +kernel
theorem dX6_table_46 : decode cX6_table 46 = .ok (.aload_n 0, 1) := by decide +kernel
theorem dX6_table_47 : decode cX6_table 47 = .ok (.getfield 16, 3) := by decide +kernel
theorem dX6_table_50 : decode cX6_table 50 = .ok (.bipush 55, 2) := by decide +kernel
theorem dX6_table_52 : decode cX6_table 52 = .ok (.iload_n 1, 1) := by decide +kernel
theorem dX6_table_53 : decode cX6_table 53 = .ok (.iadd, 1) := by decide +kernel
theorem dX6_table_54 : decode cX6_table 54 = .ok (.iload_n 2, 1) := by decide +kernel
theorem dX6_table_55 : decode cX6_table 55 = .ok (.iastore, 1) := by decide +kernel
theorem dX6_table_56 : decode cX6_table 56 = .ok (.iload_n 3, 1) := by decide +kernel
theorem dX6_table_57 : decode cX6_table 57 = .ok (.ireturn, 1) := by decide +kernel
theorem dX6_isLie_0 : decode cX6_isLie 0 = .ok (.iload_n 0, 1) := by decide +kernel
theorem dX6_isLie_1 : decode cX6_isLie 1 = .ok (.i2l, 1) := by decide +kernel
theorem dX6_isLie_2 : decode cX6_isLie 2 = .ok (.ldc2_w 164, 3) := by decide +kernel
theorem dX6_isLie_5 : decode cX6_isLie 5 = .ok (.lconst 1, 1) := by decide +kernel
theorem dX6_isLie_6 : decode cX6_isLie 6 = .ok (.invokestatic 57, 3) := by decide +kernel
theorem dX6_isLie_9 : decode cX6_isLie 9 = .ok (.ifCond .eq 19, 3) := by decide +kernel
theorem dX6_isLie_12 : decode cX6_isLie 12 = .ok (.iload_n 1, 1) := by decide +kernel
theorem dX6_isLie_13 : decode cX6_isLie 13 = .ok (.i2l, 1) := by decide +kernel
theorem dX6_isLie_14 : decode cX6_isLie 14 = .ok (.ldc2_w 164, 3) := by decide +kernel
theorem dX6_isLie_17 : decode cX6_isLie 17 = .ok (.lconst 1, 1) := by decide +kernel
theorem dX6_isLie_18 : decode cX6_isLie 18 = .ok (.invokestatic 57, 3) := by decide +kernel
theorem dX6_isLie_21 : decode cX6_isLie 21 = .ok (.ifCond .eq 7, 3) := by decide +kernel
theorem dX6_isLie_24 : decode cX6_isLie 24 = .ok (.iconst 1, 1) := by decide +kernel
theorem dX6_isLie_25 : decode cX6_isLie 25 = .ok (.goto 4, 3) := by decide +kernel
theorem dX6_isLie_28 : decode cX6_isLie 28 = .ok (.iconst 0, 1) := by decide +kernel
theorem dX6_isLie_29 : decode cX6_isLie 29 = .ok (.ireturn, 1) := by decide +kernel
theorem dX6_lay_0 : decode cX6_lay 0 = .ok (.aload_n 0, 1) := by decide +kernel
theorem dX6_lay_1 : decode cX6_lay 1 = .ok (.iconst 0, 1) := by decide +kernel
theorem dX6_lay_2 : decode cX6_lay 2 = .ok (.putfield 45, 3) := by decide +kernel
theorem dX6_lay_5 : decode cX6_lay 5 = .ok (.iload_n 1, 1) := by decide +kernel
theorem dX6_lay_6 : decode cX6_lay 6 = .ok (.iload_n 2, 1) := by decide +kernel
theorem dX6_lay_7 : decode cX6_lay 7 = .ok (.invokestatic 166, 3) := by decide +kernel
theorem dX6_lay_10 : decode cX6_lay 10 = .ok (.ifCond .ne 6, 3) := by decide +kernel
theorem dX6_lay_13 : decode cX6_lay 13 = .ok (.bipush (-2), 2) := by decide +kernel
theorem dX6_lay_15 : decode cX6_lay 15 = .ok (.ireturn, 1) := by decide +kernel
theorem dX6_lay_16 : decode cX6_lay 16 = .ok (.aload_n 0, 1) := by decide +kernel
theorem dX6_lay_17 : decode cX6_lay 17 = .ok (.invokevirtual 142, 3) := by decide +kernel
theorem dX6_lay_20 : decode cX6_lay 20 = .ok (.aload_n 0, 1) := by decide +kernel
theorem dX6_lay_21 : decode cX6_lay 21 = .ok (.getfield 16, 3) := by decide +kernel
theorem dX6_lay_24 : decode cX6_lay 24 = .ok (.bipush 65, 2) := by decide +kernel
theorem dX6_lay_26 : decode cX6_lay 26 = .ok (.iload_n 1, 1) := by decide +kernel
theorem dX6_lay_27 : decode cX6_lay 27 = .ok (.iastore, 1) := by decide +kernel
theorem dX6_lay_28 : decode cX6_lay 28 = .ok (.aload_n 0, 1) := by decide +kernel
theorem dX6_lay_29 : decode cX6_lay 29 = .ok (.getfield 16, 3) := by decide +kernel
theorem dX6_lay_32 : decode cX6_lay 32 = .ok (.bipush 66, 2) := by decide +kernel
theorem dX6_lay_34 : decode cX6_lay 34 = .ok (.iload_n 2, 1) := by decide +kernel
theorem dX6_lay_35 : decode cX6_lay 35 = .ok (.iastore, 1) := by decide +kernel
theorem dX6_lay_36 : decode cX6_lay 36 = .ok (.aload_n 0, 1) := by decide +kernel
theorem dX6_lay_37 : decode cX6_lay 37 = .ok (.aload_n 0, 1) := by decide +kernel
theorem dX6_lay_38 : decode cX6_lay 38 = .ok (.getfield 16, 3) := by decide +kernel
theorem dX6_lay_41 : decode cX6_lay 41 = .ok (.invokevirtual 132, 3) := by decide +kernel
theorem dX6_lay_44 : decode cX6_lay 44 = .ok (.invokestatic 139, 3) := by decide +kernel
theorem dX6_lay_47 : decode cX6_lay 47 = .ok (.ireturn, 1) := by decide +kernel
theorem dX6_undo_0 : decode cX6_undo 0 = .ok (.aload_n 0, 1) := by decide +kernel
theorem dX6_undo_1 : decode cX6_undo 1 = .ok (.iconst 0, 1) := by decide +kernel
theorem dX6_undo_2 : decode cX6_undo 2 = .ok (.putfield 45, 3) := by decide +kernel
theorem dX6_undo_5 : decode cX6_undo 5 = .ok (.aload_n 0, 1) := by decide +kernel
theorem dX6_undo_6 : decode cX6_undo 6 = .ok (.getfield 78, 3) := by decide +kernel
theorem dX6_undo_9 : decode cX6_undo 9 = .ok (.ifCond .ne 6, 3) := by decide +kernel
theorem dX6_undo_12 : decode cX6_undo 12 = .ok (.bipush (-3), 2) := by decide +kernel
theorem dX6_undo_14 : decode cX6_undo 14 = .ok (.ireturn, 1) := by decide +kernel
theorem dX6_undo_15 : decode cX6_undo 15 = .ok (.aload_n 0, 1) := by decide +kernel
theorem dX6_undo_16 : decode cX6_undo 16 = .ok (.dup, 1) := by decide +kernel
theorem dX6_undo_17 : decode cX6_undo 17 = .ok (.getfield 78, 3) := by decide +kernel
theorem dX6_undo_20 : decode cX6_undo 20 = .ok (.iconst 1, 1) := by decide +kernel
theorem dX6_undo_21 : decode cX6_undo 21 = .ok (.isub, 1) := by decide +kernel
theorem dX6_undo_22 : decode cX6_undo 22 = .ok (.putfield 78, 3) := by decide +kernel
theorem dX6_undo_25 : decode cX6_undo 25 = .ok (.iconst 0, 1) := by decide +kernel
theorem dX6_undo_26 : decode cX6_undo 26 = .ok (.istore_n 1, 1) := by decide +kernel
theorem dX6_undo_27 : decode cX6_undo 27 = .ok (.iload_n 1, 1) := by decide +kernel
theorem dX6_undo_28 : decode cX6_undo 28 = .ok (.bipush 67, 2) := by decide +kernel
theorem dX6_undo_30 : decode cX6_undo 30 = .ok (.if_icmp .ge 29, 3) := by decide +kernel
theorem dX6_undo_33 : decode cX6_undo 33 = .ok (.aload_n 0, 1) := by decide +kernel
theorem dX6_undo_34 : decode cX6_undo 34 = .ok (.getfield 16, 3) := by decide +kernel
theorem dX6_undo_37 : decode cX6_undo 37 = .ok (.iload_n 1, 1) := by decide +kernel
theorem dX6_undo_38 : decode cX6_undo 38 = .ok (.aload_n 0, 1) := by decide +kernel
theorem dX6_undo_39 : decode cX6_undo 39 = .ok (.getfield 22, 3) := by decide +kernel
theorem dX6_undo_42 : decode cX6_undo 42 = .ok (.bipush 67, 2) := by decide +kernel
theorem dX6_undo_44 : decode cX6_undo 44 = .ok (.aload_n 0, 1) := by decide +kernel
theorem dX6_undo_45 : decode cX6_undo 45 = .ok (.getfield 78, 3) := by decide +kernel
theorem dX6_undo_48 : decode cX6_undo 48 = .ok (.imul, 1) := by decide +kernel
theorem dX6_undo_49 : decode cX6_undo 49 = .ok (.iload_n 1, 1) := by decide +kernel
theorem dX6_undo_50 : decode cX6_undo 50 = .ok (.iadd, 1) := by decide +kernel
theorem dX6_undo_51 : decode cX6_undo 51 = .ok (.iaload, 1) := by decide +kernel
theorem dX6_undo_52 : decode cX6_undo 52 = .ok (.iastore, 1) := by decide +kernel
theorem dX6_undo_53 : decode cX6_undo 53 = .ok (.iinc 1 1, 3) := by decide +kernel
theorem dX6_undo_56 : decode cX6_undo 56 = .ok (.goto (-29), 3) := by decide +kernel
theorem dX6_undo_59 : decode cX6_undo 59 = .ok (.aload_n 0, 1) := by decide +kernel
theorem dX6_undo_60 : decode cX6_undo 60 = .ok (.getfield 78, 3) := by decide +kernel
theorem dX6_undo_63 : decode cX6_undo 63 = .ok (.ireturn, 1) := by decide +kernel
theorem dX6_layFit_0 : decode cX6_layFit 0 = .ok (.aload_n 0, 1) := by decide +kernel
theorem dX6_layFit_1 : decode cX6_layFit 1 = .ok (.iconst 0, 1) := by decide +kernel
theorem dX6_layFit_2 : decode cX6_layFit 2 = .ok (.putfield 169, 3) := by decide +kernel
theorem dX6_layFit_5 : decode cX6_layFit 5 = .ok (.aload_n 0, 1) := by decide +kernel
theorem dX6_layFit_6 : decode cX6_layFit 6 = .ok (.iconst 0, 1) := by decide +kernel
theorem dX6_layFit_7 : decode cX6_layFit 7 = .ok (.putfield 172, 3) := by decide +kernel
theorem dX6_layFit_10 : decode cX6_layFit 10 = .ok (.iconst 0, 1) := by decide +kernel
theorem dX6_layFit_11 : decode cX6_layFit 11 = .ok (.istore_n 3, 1) := by decide +kernel
theorem dX6_layFit_12 : decode cX6_layFit 12 = .ok (.iload_n 3, 1) := by decide +kernel
theorem dX6_layFit_13 : decode cX6_layFit 13 = .ok (.aload_n 0, 1) := by decide +kernel
theorem dX6_layFit_14 : decode cX6_layFit 14 = .ok (.getfield 16, 3) := by decide +kernel
theorem dX6_layFit_17 : decode cX6_layFit 17 = .ok (.invokestatic 53, 3) := by decide +kernel
theorem dX6_layFit_20 : decode cX6_layFit 20 = .ok (.if_icmp .ge 73, 3) := by decide +kernel
theorem dX6_layFit_23 : decode cX6_layFit 23 = .ok (.aload_n 0, 1) := by decide +kernel
theorem dX6_layFit_24 : decode cX6_layFit 24 = .ok (.getfield 16, 3) := by decide +kernel
theorem dX6_layFit_27 : decode cX6_layFit 27 = .ok (.iload_n 3, 1) := by decide +kernel
theorem dX6_layFit_28 : decode cX6_layFit 28 = .ok (.iload_n 1, 1) := by decide +kernel
theorem dX6_layFit_29 : decode cX6_layFit 29 = .ok (.iload_n 2, 1) := by decide +kernel
theorem dX6_layFit_30 : decode cX6_layFit 30 = .ok (.invokestatic 101, 3) := by decide +kernel
theorem dX6_layFit_33 : decode cX6_layFit 33 = .ok (.istore 4, 2) := by decide +kernel
theorem dX6_layFit_35 : decode cX6_layFit 35 = .ok (.iload 4, 2) := by decide +kernel
theorem dX6_layFit_37 : decode cX6_layFit 37 = .ok (.bipush (-9), 2) := by decide +kernel
theorem dX6_layFit_39 : decode cX6_layFit 39 = .ok (.if_icmp .eq 48, 3) := by decide +kernel
theorem dX6_layFit_42 : decode cX6_layFit 42 = .ok (.aload_n 0, 1) := by decide +kernel
theorem dX6_layFit_43 : decode cX6_layFit 43 = .ok (.getfield 16, 3) := by decide +kernel
theorem dX6_layFit_46 : decode cX6_layFit 46 = .ok (.iconst 2, 1) := by decide +kernel
theorem dX6_layFit_47 : decode cX6_layFit 47 = .ok (.iload_n 3, 1) := by decide +kernel
theorem dX6_layFit_48 : decode cX6_layFit 48 = .ok (.iadd, 1) := by decide +kernel
theorem dX6_layFit_49 : decode cX6_layFit 49 = .ok (.iaload, 1) := by decide +kernel
theorem dX6_layFit_50 : decode cX6_layFit 50 = .ok (.aload_n 0, 1) := by decide +kernel
theorem dX6_layFit_51 : decode cX6_layFit 51 = .ok (.getfield 16, 3) := by decide +kernel
theorem dX6_layFit_54 : decode cX6_layFit 54 = .ok (.bipush 27, 2) := by decide +kernel
theorem dX6_layFit_56 : decode cX6_layFit 56 = .ok (.iload 4, 2) := by decide +kernel
theorem dX6_layFit_58 : decode cX6_layFit 58 = .ok (.iadd, 1) := by decide +kernel
theorem dX6_layFit_59 : decode cX6_layFit 59 = .ok (.iaload, 1) := by decide +kernel
theorem dX6_layFit_60 : decode cX6_layFit 60 = .ok (.isub, 1) := by decide +kernel
theorem dX6_layFit_61 : decode cX6_layFit 61 = .ok (.istore 5, 2) := by decide +kernel
theorem dX6_layFit_63 : decode cX6_layFit 63 = .ok (.aload_n 0, 1) := by decide +kernel
theorem dX6_layFit_64 : decode cX6_layFit 64 = .ok (.dup, 1) := by decide +kernel
theorem dX6_layFit_65 : decode cX6_layFit 65 = .ok (.getfield 169, 3) := by decide +kernel
theorem dX6_layFit_68 : decode cX6_layFit 68 = .ok (.iload 5, 2) := by decide +kernel
theorem dX6_layFit_70 : decode cX6_layFit 70 = .ok (.iload 5, 2) := by decide +kernel
theorem dX6_layFit_72 : decode cX6_layFit 72 = .ok (.imul, 1) := by decide +kernel
theorem dX6_layFit_73 : decode cX6_layFit 73 = .ok (.iadd, 1) := by decide +kernel
theorem dX6_layFit_74 : decode cX6_layFit 74 = .ok (.putfield 169, 3) := by decide +kernel
theorem dX6_layFit_77 : decode cX6_layFit 77 = .ok (.aload_n 0, 1) := by decide +kernel
theorem dX6_layFit_78 : decode cX6_layFit 78 = .ok (.dup, 1) := by decide +kernel
theorem dX6_layFit_79 : decode cX6_layFit 79 = .ok (.getfield 172, 3) := by decide +kernel
theorem dX6_layFit_82 : decode cX6_layFit 82 = .ok (.iconst 1, 1) := by decide +kernel
theorem dX6_layFit_83 : decode cX6_layFit 83 = .ok (.iadd, 1) := by decide +kernel
theorem dX6_layFit_84 : decode cX6_layFit 84 = .ok (.putfield 172, 3) := by decide +kernel
theorem dX6_layFit_87 : decode cX6_layFit 87 = .ok (.iinc 3 1, 3) := by decide +kernel
theorem dX6_layFit_90 : decode cX6_layFit 90 = .ok (.goto (-78), 3) := by decide +kernel
theorem dX6_layFit_93 : decode cX6_layFit 93 = .ok (.return_, 1) := by decide +kernel
theorem dX6_fit_0 : decode cX6_fit 0 = .ok (.aload_n 0, 1) := by decide +kernel
theorem dX6_fit_1 : decode cX6_fit 1 = .ok (.iconst 0, 1) := by decide +kernel
theorem dX6_fit_2 : decode cX6_fit 2 = .ok (.putfield 45, 3) := by decide +kernel
theorem dX6_fit_5 : decode cX6_fit 5 = .ok (.iload_n 1, 1) := by decide +kernel
theorem dX6_fit_6 : decode cX6_fit 6 = .ok (.iload_n 2, 1) := by decide +kernel
theorem dX6_fit_7 : decode cX6_fit 7 = .ok (.invokestatic 166, 3) := by decide +kernel
theorem dX6_fit_10 : decode cX6_fit 10 = .ok (.ifCond .ne 6, 3) := by decide +kernel
theorem dX6_fit_13 : decode cX6_fit 13 = .ok (.bipush (-2), 2) := by decide +kernel
theorem dX6_fit_15 : decode cX6_fit 15 = .ok (.ireturn, 1) := by decide +kernel
theorem dX6_fit_16 : decode cX6_fit 16 = .ok (.aload_n 0, 1) := by decide +kernel
theorem dX6_fit_17 : decode cX6_fit 17 = .ok (.iload_n 1, 1) := by decide +kernel
theorem dX6_fit_18 : decode cX6_fit 18 = .ok (.iload_n 2, 1) := by decide +kernel
theorem dX6_fit_19 : decode cX6_fit 19 = .ok (.invokevirtual 175, 3) := by decide +kernel
theorem dX6_fit_22 : decode cX6_fit 22 = .ok (.aload_n 0, 1) := by decide +kernel
theorem dX6_fit_23 : decode cX6_fit 23 = .ok (.getfield 172, 3) := by decide +kernel
theorem dX6_fit_26 : decode cX6_fit 26 = .ok (.ifCond .ne 8, 3) := by decide +kernel
theorem dX6_fit_29 : decode cX6_fit 29 = .ok (.bipush (-9), 2) := by decide +kernel
theorem dX6_fit_31 : decode cX6_fit 31 = .ok (.goto 15, 3) := by decide +kernel
theorem dX6_fit_34 : decode cX6_fit 34 = .ok (.aload_n 0, 1) := by decide +kernel
theorem dX6_fit_35 : decode cX6_fit 35 = .ok (.getfield 169, 3) := by decide +kernel
theorem dX6_fit_38 : decode cX6_fit 38 = .ok (.aload_n 0, 1) := by decide +kernel
theorem dX6_fit_39 : decode cX6_fit 39 = .ok (.getfield 172, 3) := by decide +kernel
theorem dX6_fit_42 : decode cX6_fit 42 = .ok (.iload_n 3, 1) := by decide +kernel
theorem dX6_fit_43 : decode cX6_fit 43 = .ok (.invokestatic 122, 3) := by decide +kernel
theorem dX6_fit_46 : decode cX6_fit 46 = .ok (.ireturn, 1) := by decide +kernel
theorem dX6_bestLie_0 : decode cX6_bestLie 0 = .ok (.bipush (-9), 2) := by decide +kernel
theorem dX6_bestLie_2 : decode cX6_bestLie 2 = .ok (.istore_n 1, 1) := by decide +kernel
theorem dX6_bestLie_3 : decode cX6_bestLie 3 = .ok (.iconst 0, 1) := by decide +kernel
theorem dX6_bestLie_4 : decode cX6_bestLie 4 = .ok (.istore_n 2, 1) := by decide +kernel
theorem dX6_bestLie_5 : decode cX6_bestLie 5 = .ok (.iconst 1, 1) := by decide +kernel
theorem dX6_bestLie_6 : decode cX6_bestLie 6 = .ok (.istore_n 3, 1) := by decide +kernel
theorem dX6_bestLie_7 : decode cX6_bestLie 7 = .ok (.iconst 0, 1) := by decide +kernel
theorem dX6_bestLie_8 : decode cX6_bestLie 8 = .ok (.istore 4, 2) := by decide +kernel
theorem dX6_bestLie_10 : decode cX6_bestLie 10 = .ok (.iload 4, 2) := by decide +kernel
theorem dX6_bestLie_12 : decode cX6_bestLie 12 = .ok (.bipush 9, 2) := by decide +kernel
theorem dX6_bestLie_14 : decode cX6_bestLie 14 = .ok (.if_icmp .ge 76, 3) := by decide +kernel
theorem dX6_bestLie_17 : decode cX6_bestLie 17 = .ok (.aload_n 0, 1) := by decide +kernel
theorem dX6_bestLie_18 : decode cX6_bestLie 18 = .ok (.iload 4, 2) := by decide +kernel
theorem dX6_bestLie_20 : decode cX6_bestLie 20 = .ok (.iconst 3, 1) := by decide +kernel
theorem dX6_bestLie_21 : decode cX6_bestLie 21 = .ok (.idiv, 1) := by decide +kernel
theorem dX6_bestLie_22 : decode cX6_bestLie 22 = .ok (.iconst 1, 1) := by decide +kernel
theorem dX6_bestLie_23 : decode cX6_bestLie 23 = .ok (.isub, 1) := by decide +kernel
theorem dX6_bestLie_24 : decode cX6_bestLie 24 = .ok (.iload 4, 2) := by decide +kernel
theorem dX6_bestLie_26 : decode cX6_bestLie 26 = .ok (.iconst 3, 1) := by decide +kernel
theorem dX6_bestLie_27 : decode cX6_bestLie 27 = .ok (.irem, 1) := by decide +kernel
theorem dX6_bestLie_28 : decode cX6_bestLie 28 = .ok (.iconst 1, 1) := by decide +kernel
theorem dX6_bestLie_29 : decode cX6_bestLie 29 = .ok (.isub, 1) := by decide +kernel
theorem dX6_bestLie_30 : decode cX6_bestLie 30 = .ok (.invokevirtual 175, 3) := by decide +kernel
theorem dX6_bestLie_33 : decode cX6_bestLie 33 = .ok (.aload_n 0, 1) := by decide +kernel
theorem dX6_bestLie_34 : decode cX6_bestLie 34 = .ok (.getfield 172, 3) := by decide +kernel
theorem dX6_bestLie_37 : decode cX6_bestLie 37 = .ok (.ifCond .le 47, 3) := by decide +kernel
theorem dX6_bestLie_40 : decode cX6_bestLie 40 = .ok (.iload_n 1, 1) := by decide +kernel
theorem dX6_bestLie_41 : decode cX6_bestLie 41 = .ok (.bipush (-9), 2) := by decide +kernel
theorem dX6_bestLie_43 : decode cX6_bestLie 43 = .ok (.if_icmp .eq 18, 3) := by decide +kernel
theorem dX6_bestLie_46 : decode cX6_bestLie 46 = .ok (.aload_n 0, 1) := by decide +kernel
theorem dX6_bestLie_47 : decode cX6_bestLie 47 = .ok (.getfield 169, 3) := by decide +kernel
theorem dX6_bestLie_50 : decode cX6_bestLie 50 = .ok (.iload_n 3, 1) := by decide +kernel
theorem dX6_bestLie_51 : decode cX6_bestLie 51 = .ok (.imul, 1) := by decide +kernel
theorem dX6_bestLie_52 : decode cX6_bestLie 52 = .ok (.iload_n 2, 1) := by decide +kernel
theorem dX6_bestLie_53 : decode cX6_bestLie 53 = .ok (.aload_n 0, 1) := by decide +kernel
theorem dX6_bestLie_54 : decode cX6_bestLie 54 = .ok (.getfield 172, 3) := by decide +kernel
theorem dX6_bestLie_57 : decode cX6_bestLie 57 = .ok (.imul, 1) := by decide +kernel
theorem dX6_bestLie_58 : decode cX6_bestLie 58 = .ok (.if_icmp .ge 26, 3) := by decide +kernel
theorem dX6_bestLie_61 : decode cX6_bestLie 61 = .ok (.bipush 10, 2) := by decide +kernel
theorem dX6_bestLie_63 : decode cX6_bestLie 63 = .ok (.iload 4, 2) := by decide +kernel
theorem dX6_bestLie_65 : decode cX6_bestLie 65 = .ok (.iconst 3, 1) := by decide +kernel
theorem dX6_bestLie_66 : decode cX6_bestLie 66 = .ok (.idiv, 1) := by decide +kernel
theorem dX6_bestLie_67 : decode cX6_bestLie 67 = .ok (.imul, 1) := by decide +kernel
theorem dX6_bestLie_68 : decode cX6_bestLie 68 = .ok (.iload 4, 2) := by decide +kernel
theorem dX6_bestLie_70 : decode cX6_bestLie 70 = .ok (.iconst 3, 1) := by decide +kernel
theorem dX6_bestLie_71 : decode cX6_bestLie 71 = .ok (.irem, 1) := by decide +kernel
theorem dX6_bestLie_72 : decode cX6_bestLie 72 = .ok (.iadd, 1) := by decide +kernel
theorem dX6_bestLie_73 : decode cX6_bestLie 73 = .ok (.istore_n 1, 1) := by decide +kernel
theorem dX6_bestLie_74 : decode cX6_bestLie 74 = .ok (.aload_n 0, 1) := by decide +kernel
theorem dX6_bestLie_75 : decode cX6_bestLie 75 = .ok (.getfield 169, 3) := by decide +kernel
theorem dX6_bestLie_78 : decode cX6_bestLie 78 = .ok (.istore_n 2, 1) := by decide +kernel
theorem dX6_bestLie_79 : decode cX6_bestLie 79 = .ok (.aload_n 0, 1) := by decide +kernel
theorem dX6_bestLie_80 : decode cX6_bestLie 80 = .ok (.getfield 172, 3) := by decide +kernel
theorem dX6_bestLie_83 : decode cX6_bestLie 83 = .ok (.istore_n 3, 1) := by decide +kernel
theorem dX6_bestLie_84 : decode cX6_bestLie 84 = .ok (.iinc 4 1, 3) := by decide +kernel
theorem dX6_bestLie_87 : decode cX6_bestLie 87 = .ok (.goto (-77), 3) := by decide +kernel
theorem dX6_bestLie_90 : decode cX6_bestLie 90 = .ok (.iload_n 1, 1) := by decide +kernel
theorem dX6_bestLie_91 : decode cX6_bestLie 91 = .ok (.ireturn, 1) := by decide +kernel
theorem dX6_begin_0 : decode cX6_begin 0 = .ok (.iconst 0, 1) := by decide +kernel
theorem dX6_begin_1 : decode cX6_begin 1 = .ok (.istore_n 1, 1) := by decide +kernel
theorem dX6_begin_2 : decode cX6_begin 2 = .ok (.iload_n 1, 1) := by decide +kernel
theorem dX6_begin_3 : decode cX6_begin 3 = .ok (.bipush 67, 2) := by decide +kernel
theorem dX6_begin_5 : decode cX6_begin 5 = .ok (.if_icmp .ge 21, 3) := by decide +kernel
theorem dX6_begin_8 : decode cX6_begin 8 = .ok (.aload_n 0, 1) := by decide +kernel
theorem dX6_begin_9 : decode cX6_begin 9 = .ok (.getfield 19, 3) := by decide +kernel
theorem dX6_begin_12 : decode cX6_begin 12 = .ok (.iload_n 1, 1) := by decide +kernel
theorem dX6_begin_13 : decode cX6_begin 13 = .ok (.aload_n 0, 1) := by decide +kernel
theorem dX6_begin_14 : decode cX6_begin 14 = .ok (.getfield 16, 3) := by decide +kernel
theorem dX6_begin_17 : decode cX6_begin 17 = .ok (.iload_n 1, 1) := by decide +kernel
theorem dX6_begin_18 : decode cX6_begin 18 = .ok (.iaload, 1) := by decide +kernel
theorem dX6_begin_19 : decode cX6_begin 19 = .ok (.iastore, 1) := by decide +kernel
theorem dX6_begin_20 : decode cX6_begin 20 = .ok (.iinc 1 1, 3) := by decide +kernel
theorem dX6_begin_23 : decode cX6_begin 23 = .ok (.goto (-21), 3) := by decide +kernel
theorem dX6_begin_26 : decode cX6_begin 26 = .ok (.return_, 1) := by decide +kernel
theorem dX6_inkBy_0 : decode cX6_inkBy 0 = .ok (.aload_n 0, 1) := by decide +kernel
theorem dX6_inkBy_1 : decode cX6_inkBy 1 = .ok (.invokevirtual 179, 3) := by decide +kernel
theorem dX6_inkBy_4 : decode cX6_inkBy 4 = .ok (.aload_n 0, 1) := by decide +kernel
theorem dX6_inkBy_5 : decode cX6_inkBy 5 = .ok (.getfield 19, 3) := by decide +kernel
theorem dX6_inkBy_8 : decode cX6_inkBy 8 = .ok (.bipush 53, 2) := by decide +kernel
theorem dX6_inkBy_10 : decode cX6_inkBy 10 = .ok (.iload_n 1, 1) := by decide +kernel
theorem dX6_inkBy_11 : decode cX6_inkBy 11 = .ok (.bipush 10, 2) := by decide +kernel
theorem dX6_inkBy_13 : decode cX6_inkBy 13 = .ok (.idiv, 1) := by decide +kernel
theorem dX6_inkBy_14 : decode cX6_inkBy 14 = .ok (.iastore, 1) := by decide +kernel
theorem dX6_inkBy_15 : decode cX6_inkBy 15 = .ok (.aload_n 0, 1) := by decide +kernel
theorem dX6_inkBy_16 : decode cX6_inkBy 16 = .ok (.getfield 19, 3) := by decide +kernel
theorem dX6_inkBy_19 : decode cX6_inkBy 19 = .ok (.bipush 54, 2) := by decide +kernel
theorem dX6_inkBy_21 : decode cX6_inkBy 21 = .ok (.iload_n 1, 1) := by decide +kernel
theorem dX6_inkBy_22 : decode cX6_inkBy 22 = .ok (.bipush 10, 2) := by decide +kernel
theorem dX6_inkBy_24 : decode cX6_inkBy 24 = .ok (.irem, 1) := by decide +kernel
theorem dX6_inkBy_25 : decode cX6_inkBy 25 = .ok (.iastore, 1) := by decide +kernel
theorem dX6_inkBy_26 : decode cX6_inkBy 26 = .ok (.aload_n 0, 1) := by decide +kernel
theorem dX6_inkBy_27 : decode cX6_inkBy 27 = .ok (.aload_n 0, 1) := by decide +kernel
theorem dX6_inkBy_28 : decode cX6_inkBy 28 = .ok (.getfield 19, 3) := by decide +kernel
theorem dX6_inkBy_31 : decode cX6_inkBy 31 = .ok (.invokevirtual 132, 3) := by decide +kernel
theorem dX6_inkBy_34 : decode cX6_inkBy 34 = .ok (.ireturn, 1) := by decide +kernel
theorem dX6_bestRule_0 : decode cX6_bestRule 0 = .ok (.bipush (-9), 2) := by decide +kernel
theorem dX6_bestRule_2 : decode cX6_bestRule 2 = .ok (.istore_n 2, 1) := by decide +kernel
theorem dX6_bestRule_3 : decode cX6_bestRule 3 = .ok (.iconst 0, 1) := by decide +kernel
theorem dX6_bestRule_4 : decode cX6_bestRule 4 = .ok (.istore_n 3, 1) := by decide +kernel
theorem dX6_bestRule_5 : decode cX6_bestRule 5 = .ok (.iconst 0, 1) := by decide +kernel
theorem dX6_bestRule_6 : decode cX6_bestRule 6 = .ok (.istore 4, 2) := by decide +kernel
theorem dX6_bestRule_8 : decode cX6_bestRule 8 = .ok (.iload 4, 2) := by decide +kernel
theorem dX6_bestRule_10 : decode cX6_bestRule 10 = .ok (.bipush 30, 2) := by decide +kernel
theorem dX6_bestRule_12 : decode cX6_bestRule 12 = .ok (.if_icmp .ge 103, 3) := by decide +kernel
theorem dX6_bestRule_15 : decode cX6_bestRule 15 = .ok (.aload_n 0, 1) := by decide +kernel
theorem dX6_bestRule_16 : decode cX6_bestRule 16 = .ok (.iload 4, 2) := by decide +kernel
theorem dX6_bestRule_18 : decode cX6_bestRule 18 = .ok (.invokevirtual 182, 3) := by decide +kernel
theorem dX6_bestRule_21 : decode cX6_bestRule 21 = .ok (.invokestatic 139, 3) := by decide +kernel
theorem dX6_bestRule_24 : decode cX6_bestRule 24 = .ok (.istore 5, 2) := by decide +kernel
theorem dX6_bestRule_26 : decode cX6_bestRule 26 = .ok (.iload_n 2, 1) := by decide +kernel
theorem dX6_bestRule_27 : decode cX6_bestRule 27 = .ok (.bipush (-9), 2) := by decide +kernel
theorem dX6_bestRule_29 : decode cX6_bestRule 29 = .ok (.if_icmp .ne 20, 3) := by decide +kernel
theorem dX6_bestRule_32 : decode cX6_bestRule 32 = .ok (.iload_n 1, 1) := by decide +kernel
theorem dX6_bestRule_33 : decode cX6_bestRule 33 = .ok (.ifCond .ne 8, 3) := by decide +kernel
theorem dX6_bestRule_36 : decode cX6_bestRule 36 = .ok (.iload 5, 2) := by decide +kernel
theorem dX6_bestRule_38 : decode cX6_bestRule 38 = .ok (.ifCond .le 7, 3) := by decide +kernel
theorem dX6_bestRule_41 : decode cX6_bestRule 41 = .ok (.iconst 1, 1) := by decide +kernel
theorem dX6_bestRule_42 : decode cX6_bestRule 42 = .ok (.goto 41, 3) := by decide +kernel
theorem dX6_bestRule_45 : decode cX6_bestRule 45 = .ok (.iconst 0, 1) := by decide +kernel
theorem dX6_bestRule_46 : decode cX6_bestRule 46 = .ok (.goto 37, 3) := by decide +kernel
theorem dX6_bestRule_49 : decode cX6_bestRule 49 = .ok (.iload_n 1, 1) := by decide +kernel
theorem dX6_bestRule_50 : decode cX6_bestRule 50 = .ok (.ifCond .eq 17, 3) := by decide +kernel
theorem dX6_bestRule_53 : decode cX6_bestRule 53 = .ok (.iload 5, 2) := by decide +kernel
theorem dX6_bestRule_55 : decode cX6_bestRule 55 = .ok (.iload_n 3, 1) := by decide +kernel
theorem dX6_bestRule_56 : decode cX6_bestRule 56 = .ok (.if_icmp .le 7, 3) := by decide +kernel
theorem dX6_bestRule_59 : decode cX6_bestRule 59 = .ok (.iconst 1, 1) := by decide +kernel
theorem dX6_bestRule_60 : decode cX6_bestRule 60 = .ok (.goto 23, 3) := by decide +kernel
theorem dX6_bestRule_63 : decode cX6_bestRule 63 = .ok (.iconst 0, 1) := by decide +kernel
theorem dX6_bestRule_64 : decode cX6_bestRule 64 = .ok (.goto 19, 3) := by decide +kernel
theorem dX6_bestRule_67 : decode cX6_bestRule 67 = .ok (.iload 5, 2) := by decide +kernel
theorem dX6_bestRule_69 : decode cX6_bestRule 69 = .ok (.ifCond .le 13, 3) := by decide +kernel
theorem dX6_bestRule_72 : decode cX6_bestRule 72 = .ok (.iload 5, 2) := by decide +kernel
theorem dX6_bestRule_74 : decode cX6_bestRule 74 = .ok (.iload_n 3, 1) := by decide +kernel
theorem dX6_bestRule_75 : decode cX6_bestRule 75 = .ok (.if_icmp .ge 7, 3) := by decide +kernel
theorem dX6_bestRule_78 : decode cX6_bestRule 78 = .ok (.iconst 1, 1) := by decide +kernel
theorem dX6_bestRule_79 : decode cX6_bestRule 79 = .ok (.goto 4, 3) := by decide +kernel
theorem dX6_bestRule_82 : decode cX6_bestRule 82 = .ok (.iconst 0, 1) := by decide +kernel
theorem dX6_bestRule_83 : decode cX6_bestRule 83 = .ok (.istore 6, 2) := by decide +kernel
theorem dX6_bestRule_85 : decode cX6_bestRule 85 = .ok (.iload 6, 2) := by decide +kernel
theorem dX6_bestRule_87 : decode cX6_bestRule 87 = .ok (.ifCond .eq 8, 3) := by decide +kernel
theorem dX6_bestRule_90 : decode cX6_bestRule 90 = .ok (.iload 4, 2) := by decide +kernel
theorem dX6_bestRule_92 : decode cX6_bestRule 92 = .ok (.goto 4, 3) := by decide +kernel
theorem dX6_bestRule_95 : decode cX6_bestRule 95 = .ok (.iload_n 2, 1) := by decide +kernel
theorem dX6_bestRule_96 : decode cX6_bestRule 96 = .ok (.istore_n 2, 1) := by decide +kernel
theorem dX6_bestRule_97 : decode cX6_bestRule 97 = .ok (.iload 6, 2) := by decide +kernel
theorem dX6_bestRule_99 : decode cX6_bestRule 99 = .ok (.ifCond .eq 8, 3) := by decide +kernel
theorem dX6_bestRule_102 : decode cX6_bestRule 102 = .ok (.iload 5, 2) := by decide +kernel
theorem dX6_bestRule_104 : decode cX6_bestRule 104 = .ok (.goto 4, 3) := by decide +kernel
theorem dX6_bestRule_107 : decode cX6_bestRule 107 = .ok (.iload_n 3, 1) := by decide +kernel
theorem dX6_bestRule_108 : decode cX6_bestRule 108 = .ok (.istore_n 3, 1) := by decide +kernel
theorem dX6_bestRule_109 : decode cX6_bestRule 109 = .ok (.iinc 4 1, 3) := by decide +kernel
theorem dX6_bestRule_112 : decode cX6_bestRule 112 = .ok (.goto (-104), 3) := by decide +kernel
theorem dX6_bestRule_115 : decode cX6_bestRule 115 = .ok (.iload_n 2, 1) := by decide +kernel
theorem dX6_bestRule_116 : decode cX6_bestRule 116 = .ok (.ireturn, 1) := by decide +kernel
theorem dX6_best_0 : decode cX6_best 0 = .ok (.aload_n 0, 1) := by decide +kernel
theorem dX6_best_1 : decode cX6_best 1 = .ok (.iconst 0, 1) := by decide +kernel
theorem dX6_best_2 : decode cX6_best 2 = .ok (.putfield 45, 3) := by decide +kernel
theorem dX6_best_5 : decode cX6_best 5 = .ok (.iload_n 1, 1) := by decide +kernel
theorem dX6_best_6 : decode cX6_best 6 = .ok (.ifCond .ne 10, 3) := by decide +kernel
theorem dX6_best_9 : decode cX6_best 9 = .ok (.aload_n 0, 1) := by decide +kernel
theorem dX6_best_10 : decode cX6_best 10 = .ok (.invokevirtual 185, 3) := by decide +kernel
theorem dX6_best_13 : decode cX6_best 13 = .ok (.goto 32, 3) := by decide +kernel
theorem dX6_best_16 : decode cX6_best 16 = .ok (.iload_n 1, 1) := by decide +kernel
theorem dX6_best_17 : decode cX6_best 17 = .ok (.iconst 1, 1) := by decide +kernel
theorem dX6_best_18 : decode cX6_best 18 = .ok (.if_icmp .eq 8, 3) := by decide +kernel
theorem dX6_best_21 : decode cX6_best 21 = .ok (.iload_n 1, 1) := by decide +kernel
theorem dX6_best_22 : decode cX6_best 22 = .ok (.iconst 2, 1) := by decide +kernel
theorem dX6_best_23 : decode cX6_best 23 = .ok (.if_icmp .ne 20, 3) := by decide +kernel
theorem dX6_best_26 : decode cX6_best 26 = .ok (.aload_n 0, 1) := by decide +kernel
theorem dX6_best_27 : decode cX6_best 27 = .ok (.iload_n 1, 1) := by decide +kernel
theorem dX6_best_28 : decode cX6_best 28 = .ok (.iconst 1, 1) := by decide +kernel
theorem dX6_best_29 : decode cX6_best 29 = .ok (.if_icmp .ne 7, 3) := by decide +kernel
theorem dX6_best_32 : decode cX6_best 32 = .ok (.iconst 1, 1) := by decide +kernel
theorem dX6_best_33 : decode cX6_best 33 = .ok (.goto 4, 3) := by decide +kernel
theorem dX6_best_36 : decode cX6_best 36 = .ok (.iconst 0, 1) := by decide +kernel
theorem dX6_best_37 : decode cX6_best 37 = .ok (.invokevirtual 188, 3) := by decide +kernel
theorem dX6_best_40 : decode cX6_best 40 = .ok (.goto 5, 3) := by decide +kernel
theorem dX6_best_43 : decode cX6_best 43 = .ok (.bipush (-2), 2) := by decide +kernel
theorem dX6_best_45 : decode cX6_best 45 = .ok (.ireturn, 1) := by decide +kernel
theorem dX6_longPower_0 : decode cX6_longPower 0 = .ok (.lconst 1, 1) := by decide +kernel
theorem dX6_longPower_1 : decode cX6_longPower 1 = .ok (.lstore_n 3, 1) := by decide +kernel
theorem dX6_longPower_2 : decode cX6_longPower 2 = .ok (.iconst 0, 1) := by decide +kernel
theorem dX6_longPower_3 : decode cX6_longPower 3 = .ok (.istore 5, 2) := by decide +kernel
theorem dX6_longPower_5 : decode cX6_longPower 5 = .ok (.iload 5, 2) := by decide +kernel
theorem dX6_longPower_7 : decode cX6_longPower 7 = .ok (.iload_n 2, 1) := by decide +kernel
theorem dX6_longPower_8 : decode cX6_longPower 8 = .ok (.if_icmp .ge 13, 3) := by decide +kernel
theorem dX6_longPower_11 : decode cX6_longPower 11 = .ok (.lload_n 3, 1) := by decide +kernel
theorem dX6_longPower_12 : decode cX6_longPower 12 = .ok (.lload_n 0, 1) := by decide +kernel
theorem dX6_longPower_13 : decode cX6_longPower 13 = .ok (.lmul, 1) := by decide +kernel
theorem dX6_longPower_14 : decode cX6_longPower 14 = .ok (.lstore_n 3, 1) := by decide +kernel
theorem dX6_longPower_15 : decode cX6_longPower 15 = .ok (.iinc 5 1, 3) := by decide +kernel
theorem dX6_longPower_18 : decode cX6_longPower 18 = .ok (.goto (-13), 3) := by decide +kernel
theorem dX6_longPower_21 : decode cX6_longPower 21 = .ok (.lload_n 3, 1) := by decide +kernel
theorem dX6_longPower_22 : decode cX6_longPower 22 = .ok (.lreturn, 1) := by decide +kernel
theorem dX6_puts_0 : decode cX6_puts 0 = .ok (.iload_n 1, 1) := by decide +kernel
theorem dX6_puts_1 : decode cX6_puts 1 = .ok (.ifCond .eq 10, 3) := by decide +kernel
theorem dX6_puts_4 : decode cX6_puts 4 = .ok (.aload_n 0, 1) := by decide +kernel
theorem dX6_puts_5 : decode cX6_puts 5 = .ok (.getfield 19, 3) := by decide +kernel
theorem dX6_puts_8 : decode cX6_puts 8 = .ok (.iload_n 2, 1) := by decide +kernel
theorem dX6_puts_9 : decode cX6_puts 9 = .ok (.iload_n 3, 1) := by decide +kernel
theorem dX6_puts_10 : decode cX6_puts 10 = .ok (.iastore, 1) := by decide +kernel
theorem dX6_puts_11 : decode cX6_puts 11 = .ok (.iload_n 1, 1) := by decide +kernel
theorem dX6_puts_12 : decode cX6_puts 12 = .ok (.ireturn, 1) := by decide +kernel
theorem dX6_lights_0 : decode cX6_lights 0 = .ok (.iload_n 1, 1) := by decide +kernel
theorem dX6_lights_1 : decode cX6_lights 1 = .ok (.i2l, 1) := by decide +kernel
theorem dX6_lights_2 : decode cX6_lights 2 = .ok (.ldc2_w 145, 3) := by decide +kernel
theorem dX6_lights_5 : decode cX6_lights 5 = .ok (.ldc2_w 66, 3) := by decide +kernel
theorem dX6_lights_8 : decode cX6_lights 8 = .ok (.invokestatic 57, 3) := by decide +kernel
theorem dX6_lights_11 : decode cX6_lights 11 = .ok (.ifCond .eq 18, 3) := by decide +kernel
theorem dX6_lights_14 : decode cX6_lights 14 = .ok (.aload_n 0, 1) := by decide +kernel
theorem dX6_lights_15 : decode cX6_lights 15 = .ok (.getfield 19, 3) := by decide +kernel
theorem dX6_lights_18 : decode cX6_lights 18 = .ok (.iload_n 1, 1) := by decide +kernel
theorem dX6_lights_19 : decode cX6_lights 19 = .ok (.invokestatic 147, 3) := by decide +kernel
theorem dX6_lights_22 : decode cX6_lights 22 = .ok (.ifCond .eq 7, 3) := by decide +kernel
theorem dX6_lights_25 : decode cX6_lights 25 = .ok (.iconst 1, 1) := by decide +kernel
theorem dX6_lights_26 : decode cX6_lights 26 = .ok (.goto 4, 3) := by decide +kernel
theorem dX6_lights_29 : decode cX6_lights 29 = .ok (.iconst 0, 1) := by decide +kernel
theorem dX6_lights_30 : decode cX6_lights 30 = .ok (.istore_n 2, 1) := by decide +kernel
theorem dX6_lights_31 : decode cX6_lights 31 = .ok (.iload_n 2, 1) := by decide +kernel
theorem dX6_lights_32 : decode cX6_lights 32 = .ok (.ifCond .eq 11, 3) := by decide +kernel
theorem dX6_lights_35 : decode cX6_lights 35 = .ok (.aload_n 0, 1) := by decide +kernel
theorem dX6_lights_36 : decode cX6_lights 36 = .ok (.getfield 19, 3) := by decide +kernel
theorem dX6_lights_39 : decode cX6_lights 39 = .ok (.iload_n 1, 1) := by decide +kernel
theorem dX6_lights_40 : decode cX6_lights 40 = .ok (.invokestatic 150, 3) := by decide +kernel
theorem dX6_lights_43 : decode cX6_lights 43 = .ok (.iload_n 2, 1) := by decide +kernel
theorem dX6_lights_44 : decode cX6_lights 44 = .ok (.ireturn, 1) := by decide +kernel
theorem dX6_rules_0 : decode cX6_rules 0 = .ok (.iload_n 1, 1) := by decide +kernel
theorem dX6_rules_1 : decode cX6_rules 1 = .ok (.iload_n 2, 1) := by decide +kernel
theorem dX6_rules_2 : decode cX6_rules 2 = .ok (.iload_n 3, 1) := by decide +kernel
theorem dX6_rules_3 : decode cX6_rules 3 = .ok (.invokestatic 156, 3) := by decide +kernel
theorem dX6_rules_6 : decode cX6_rules 6 = .ok (.ifCond .eq 13, 3) := by decide +kernel
theorem dX6_rules_9 : decode cX6_rules 9 = .ok (.aload_n 0, 1) := by decide +kernel
theorem dX6_rules_10 : decode cX6_rules 10 = .ok (.getfield 19, 3) := by decide +kernel
theorem dX6_rules_13 : decode cX6_rules 13 = .ok (.iload_n 1, 1) := by decide +kernel
theorem dX6_rules_14 : decode cX6_rules 14 = .ok (.iload_n 2, 1) := by decide +kernel
theorem dX6_rules_15 : decode cX6_rules 15 = .ok (.iload_n 3, 1) := by decide +kernel
theorem dX6_rules_16 : decode cX6_rules 16 = .ok (.invokestatic 160, 3) := by decide +kernel
theorem dX6_rules_19 : decode cX6_rules 19 = .ok (.iload_n 1, 1) := by decide +kernel
theorem dX6_rules_20 : decode cX6_rules 20 = .ok (.iload_n 2, 1) := by decide +kernel
theorem dX6_rules_21 : decode cX6_rules 21 = .ok (.iload_n 3, 1) := by decide +kernel
theorem dX6_rules_22 : decode cX6_rules 22 = .ok (.invokestatic 156, 3) := by decide +kernel
theorem dX6_rules_25 : decode cX6_rules 25 = .ok (.ireturn, 1) := by decide +kernel
theorem dX6_lies_0 : decode cX6_lies 0 = .ok (.aload_n 0, 1) := by decide +kernel
theorem dX6_lies_1 : decode cX6_lies 1 = .ok (.iload_n 1, 1) := by decide +kernel
theorem dX6_lies_2 : decode cX6_lies 2 = .ok (.iload_n 2, 1) := by decide +kernel
theorem dX6_lies_3 : decode cX6_lies 3 = .ok (.invokestatic 166, 3) := by decide +kernel
theorem dX6_lies_6 : decode cX6_lies 6 = .ok (.bipush 65, 2) := by decide +kernel
theorem dX6_lies_8 : decode cX6_lies 8 = .ok (.iload_n 1, 1) := by decide +kernel
theorem dX6_lies_9 : decode cX6_lies 9 = .ok (.invokevirtual 192, 3) := by decide +kernel
theorem dX6_lies_12 : decode cX6_lies 12 = .ok (.ifCond .eq 18, 3) := by decide +kernel
theorem dX6_lies_15 : decode cX6_lies 15 = .ok (.aload_n 0, 1) := by decide +kernel
theorem dX6_lies_16 : decode cX6_lies 16 = .ok (.iconst 1, 1) := by decide +kernel
theorem dX6_lies_17 : decode cX6_lies 17 = .ok (.bipush 66, 2) := by decide +kernel
theorem dX6_lies_19 : decode cX6_lies 19 = .ok (.iload_n 2, 1) := by decide +kernel
theorem dX6_lies_20 : decode cX6_lies 20 = .ok (.invokevirtual 192, 3) := by decide +kernel
theorem dX6_lies_23 : decode cX6_lies 23 = .ok (.ifCond .eq 7, 3) := by decide +kernel
theorem dX6_lies_26 : decode cX6_lies 26 = .ok (.iconst 1, 1) := by decide +kernel
theorem dX6_lies_27 : decode cX6_lies 27 = .ok (.goto 4, 3) := by decide +kernel
theorem dX6_lies_30 : decode cX6_lies 30 = .ok (.iconst 0, 1) := by decide +kernel
theorem dX6_lies_31 : decode cX6_lies 31 = .ok (.ireturn, 1) := by decide +kernel
theorem dX6_does_0 : decode cX6_does 0 = .ok (.iload_n 1, 1) := by decide +kernel
theorem dX6_does_1 : decode cX6_does 1 = .ok (.sipush 1000, 3) := by decide +kernel
theorem dX6_does_4 : decode cX6_does 4 = .ok (.idiv, 1) := by decide +kernel
theorem dX6_does_5 : decode cX6_does 5 = .ok (.bipush 10, 2) := by decide +kernel
theorem dX6_does_7 : decode cX6_does 7 = .ok (.irem, 1) := by decide +kernel
theorem dX6_does_8 : decode cX6_does 8 = .ok (.istore_n 2, 1) := by decide +kernel
theorem dX6_does_9 : decode cX6_does 9 = .ok (.iload_n 1, 1) := by decide +kernel
theorem dX6_does_10 : decode cX6_does 10 = .ok (.bipush 100, 2) := by decide +kernel
theorem dX6_does_12 : decode cX6_does 12 = .ok (.idiv, 1) := by decide +kernel
theorem dX6_does_13 : decode cX6_does 13 = .ok (.bipush 10, 2) := by decide +kernel
theorem dX6_does_15 : decode cX6_does 15 = .ok (.irem, 1) := by decide +kernel
theorem dX6_does_16 : decode cX6_does 16 = .ok (.istore_n 3, 1) := by decide +kernel
theorem dX6_does_17 : decode cX6_does 17 = .ok (.iload_n 1, 1) := by decide +kernel
theorem dX6_does_18 : decode cX6_does 18 = .ok (.bipush 10, 2) := by decide +kernel
theorem dX6_does_20 : decode cX6_does 20 = .ok (.idiv, 1) := by decide +kernel
theorem dX6_does_21 : decode cX6_does 21 = .ok (.bipush 10, 2) := by decide +kernel
theorem dX6_does_23 : decode cX6_does 23 = .ok (.irem, 1) := by decide +kernel
theorem dX6_does_24 : decode cX6_does 24 = .ok (.istore 4, 2) := by decide +kernel
theorem dX6_does_26 : decode cX6_does 26 = .ok (.iload_n 1, 1) := by decide +kernel
theorem dX6_does_27 : decode cX6_does 27 = .ok (.bipush 10, 2) := by decide +kernel
theorem dX6_does_29 : decode cX6_does 29 = .ok (.irem, 1) := by decide +kernel
theorem dX6_does_30 : decode cX6_does 30 = .ok (.istore 5, 2) := by decide +kernel
theorem dX6_does_32 : decode cX6_does 32 = .ok (.bipush 10, 2) := by decide +kernel
theorem dX6_does_34 : decode cX6_does 34 = .ok (.iload_n 3, 1) := by decide +kernel
theorem dX6_does_35 : decode cX6_does 35 = .ok (.imul, 1) := by decide +kernel
theorem dX6_does_36 : decode cX6_does 36 = .ok (.iload 4, 2) := by decide +kernel
theorem dX6_does_38 : decode cX6_does 38 = .ok (.iadd, 1) := by decide +kernel
theorem dX6_does_39 : decode cX6_does 39 = .ok (.istore 6, 2) := by decide +kernel
theorem dX6_does_41 : decode cX6_does 41 = .ok (.iload 6, 2) := by decide +kernel
theorem dX6_does_43 : decode cX6_does 43 = .ok (.aload_n 0, 1) := by decide +kernel
theorem dX6_does_44 : decode cX6_does 44 = .ok (.getfield 19, 3) := by decide +kernel
theorem dX6_does_47 : decode cX6_does 47 = .ok (.invokestatic 53, 3) := by decide +kernel
theorem dX6_does_50 : decode cX6_does 50 = .ok (.if_icmp .ge 7, 3) := by decide +kernel
theorem dX6_does_53 : decode cX6_does 53 = .ok (.iconst 1, 1) := by decide +kernel
theorem dX6_does_54 : decode cX6_does 54 = .ok (.goto 4, 3) := by decide +kernel
theorem dX6_does_57 : decode cX6_does 57 = .ok (.iconst 0, 1) := by decide +kernel
theorem dX6_does_58 : decode cX6_does 58 = .ok (.istore 7, 2) := by decide +kernel
theorem dX6_does_60 : decode cX6_does 60 = .ok (.iload_n 1, 1) := by decide +kernel
theorem dX6_does_61 : decode cX6_does 61 = .ok (.sipush 10000, 3) := by decide +kernel
theorem dX6_does_64 : decode cX6_does 64 = .ok (.idiv, 1) := by decide +kernel
theorem dX6_does_65 : decode cX6_does 65 = .ok (.tableswitch 284 1 7 #[43, 87, 119, 141, 170, 199, 253], 43) := by decide +kernel
theorem dX6_does_108 : decode cX6_does 108 = .ok (.aload_n 0, 1) := by decide +kernel
theorem dX6_does_109 : decode cX6_does 109 = .ok (.iload_n 2, 1) := by decide +kernel
theorem dX6_does_110 : decode cX6_does 110 = .ok (.iconst 2, 1) := by decide +kernel
theorem dX6_does_111 : decode cX6_does 111 = .ok (.if_icmp .ge 12, 3) := by decide +kernel
theorem dX6_does_114 : decode cX6_does 114 = .ok (.iload 7, 2) := by decide +kernel
theorem dX6_does_116 : decode cX6_does 116 = .ok (.ifCond .eq 7, 3) := by decide +kernel
theorem dX6_does_119 : decode cX6_does 119 = .ok (.iconst 1, 1) := by decide +kernel
theorem dX6_does_120 : decode cX6_does 120 = .ok (.goto 4, 3) := by decide +kernel
theorem dX6_does_123 : decode cX6_does 123 = .ok (.iconst 0, 1) := by decide +kernel
theorem dX6_does_124 : decode cX6_does 124 = .ok (.iload_n 2, 1) := by decide +kernel
theorem dX6_does_125 : decode cX6_does 125 = .ok (.ifCond .ne 7, 3) := by decide +kernel
theorem dX6_does_128 : decode cX6_does 128 = .ok (.iconst 2, 1) := by decide +kernel
theorem dX6_does_129 : decode cX6_does 129 = .ok (.goto 5, 3) := by decide +kernel
theorem dX6_does_132 : decode cX6_does 132 = .ok (.bipush 27, 2) := by decide +kernel
theorem dX6_does_134 : decode cX6_does 134 = .ok (.iload 7, 2) := by decide +kernel
theorem dX6_does_136 : decode cX6_does 136 = .ok (.ifCond .eq 8, 3) := by decide +kernel
theorem dX6_does_139 : decode cX6_does 139 = .ok (.iload 6, 2) := by decide +kernel
theorem dX6_does_141 : decode cX6_does 141 = .ok (.goto 4, 3) := by decide +kernel
theorem dX6_does_144 : decode cX6_does 144 = .ok (.iconst 0, 1) := by decide +kernel
theorem dX6_does_145 : decode cX6_does 145 = .ok (.iadd, 1) := by decide +kernel
theorem dX6_does_146 : decode cX6_does 146 = .ok (.iload 5, 2) := by decide +kernel
theorem dX6_does_148 : decode cX6_does 148 = .ok (.invokevirtual 192, 3) := by decide +kernel
theorem dX6_does_151 : decode cX6_does 151 = .ok (.ireturn, 1) := by decide +kernel
theorem dX6_does_152 : decode cX6_does 152 = .ok (.iload 4, 2) := by decide +kernel
theorem dX6_does_154 : decode cX6_does 154 = .ok (.ifCond .ne 28, 3) := by decide +kernel
theorem dX6_does_157 : decode cX6_does 157 = .ok (.iload 5, 2) := by decide +kernel
theorem dX6_does_159 : decode cX6_does 159 = .ok (.ifCond .ne 23, 3) := by decide +kernel
theorem dX6_does_162 : decode cX6_does 162 = .ok (.aload_n 0, 1) := by decide +kernel
theorem dX6_does_163 : decode cX6_does 163 = .ok (.bipush 10, 2) := by decide +kernel
theorem dX6_does_165 : decode cX6_does 165 = .ok (.iload_n 2, 1) := by decide +kernel
theorem dX6_does_166 : decode cX6_does 166 = .ok (.imul, 1) := by decide +kernel
theorem dX6_does_167 : decode cX6_does 167 = .ok (.iload_n 3, 1) := by decide +kernel
theorem dX6_does_168 : decode cX6_does 168 = .ok (.iadd, 1) := by decide +kernel
theorem dX6_does_169 : decode cX6_does 169 = .ok (.bipush 9, 2) := by decide +kernel
theorem dX6_does_171 : decode cX6_does 171 = .ok (.isub, 1) := by decide +kernel
theorem dX6_does_172 : decode cX6_does 172 = .ok (.invokevirtual 196, 3) := by decide +kernel
theorem dX6_does_175 : decode cX6_does 175 = .ok (.ifCond .eq 7, 3) := by decide +kernel
theorem dX6_does_178 : decode cX6_does 178 = .ok (.iconst 1, 1) := by decide +kernel
theorem dX6_does_179 : decode cX6_does 179 = .ok (.goto 4, 3) := by decide +kernel
theorem dX6_does_182 : decode cX6_does 182 = .ok (.iconst 0, 1) := by decide +kernel
theorem dX6_does_183 : decode cX6_does 183 = .ok (.ireturn, 1) := by decide +kernel
theorem dX6_does_184 : decode cX6_does 184 = .ok (.iload 5, 2) := by decide +kernel
theorem dX6_does_186 : decode cX6_does 186 = .ok (.ifCond .ne 18, 3) := by decide +kernel
theorem dX6_does_189 : decode cX6_does 189 = .ok (.aload_n 0, 1) := by decide +kernel
theorem dX6_does_190 : decode cX6_does 190 = .ok (.iload_n 2, 1) := by decide +kernel
theorem dX6_does_191 : decode cX6_does 191 = .ok (.iload_n 3, 1) := by decide +kernel
theorem dX6_does_192 : decode cX6_does 192 = .ok (.iload 4, 2) := by decide +kernel
theorem dX6_does_194 : decode cX6_does 194 = .ok (.invokevirtual 199, 3) := by decide +kernel
theorem dX6_does_197 : decode cX6_does 197 = .ok (.ifCond .eq 7, 3) := by decide +kernel
theorem dX6_does_200 : decode cX6_does 200 = .ok (.iconst 1, 1) := by decide +kernel
theorem dX6_does_201 : decode cX6_does 201 = .ok (.goto 4, 3) := by decide +kernel
theorem dX6_does_204 : decode cX6_does 204 = .ok (.iconst 0, 1) := by decide +kernel
theorem dX6_does_205 : decode cX6_does 205 = .ok (.ireturn, 1) := by decide +kernel
theorem dX6_does_206 : decode cX6_does 206 = .ok (.iload 4, 2) := by decide +kernel
theorem dX6_does_208 : decode cX6_does 208 = .ok (.ifCond .ne 25, 3) := by decide +kernel
theorem dX6_does_211 : decode cX6_does 211 = .ok (.iload 5, 2) := by decide +kernel
theorem dX6_does_213 : decode cX6_does 213 = .ok (.ifCond .ne 20, 3) := by decide +kernel
theorem dX6_does_216 : decode cX6_does 216 = .ok (.aload_n 0, 1) := by decide +kernel
theorem dX6_does_217 : decode cX6_does 217 = .ok (.iconst 1, 1) := by decide +kernel
theorem dX6_does_218 : decode cX6_does 218 = .ok (.bipush 55, 2) := by decide +kernel
theorem dX6_does_220 : decode cX6_does 220 = .ok (.iload_n 2, 1) := by decide +kernel
theorem dX6_does_221 : decode cX6_does 221 = .ok (.iadd, 1) := by decide +kernel
theorem dX6_does_222 : decode cX6_does 222 = .ok (.iload_n 3, 1) := by decide +kernel
theorem dX6_does_223 : decode cX6_does 223 = .ok (.invokevirtual 192, 3) := by decide +kernel
theorem dX6_does_226 : decode cX6_does 226 = .ok (.ifCond .eq 7, 3) := by decide +kernel
theorem dX6_does_229 : decode cX6_does 229 = .ok (.iconst 1, 1) := by decide +kernel
theorem dX6_does_230 : decode cX6_does 230 = .ok (.goto 4, 3) := by decide +kernel
theorem dX6_does_233 : decode cX6_does 233 = .ok (.iconst 0, 1) := by decide +kernel
theorem dX6_does_234 : decode cX6_does 234 = .ok (.ireturn, 1) := by decide +kernel
theorem dX6_does_235 : decode cX6_does 235 = .ok (.iload 4, 2) := by decide +kernel
theorem dX6_does_237 : decode cX6_does 237 = .ok (.ifCond .ne 25, 3) := by decide +kernel
theorem dX6_does_240 : decode cX6_does 240 = .ok (.iload 5, 2) := by decide +kernel
theorem dX6_does_242 : decode cX6_does 242 = .ok (.ifCond .ne 20, 3) := by decide +kernel
theorem dX6_does_245 : decode cX6_does 245 = .ok (.aload_n 0, 1) := by decide +kernel
theorem dX6_does_246 : decode cX6_does 246 = .ok (.iload_n 2, 1) := by decide +kernel
theorem dX6_does_247 : decode cX6_does 247 = .ok (.iconst 1, 1) := by decide +kernel
theorem dX6_does_248 : decode cX6_does 248 = .ok (.isub, 1) := by decide +kernel
theorem dX6_does_249 : decode cX6_does 249 = .ok (.iload_n 3, 1) := by decide +kernel
theorem dX6_does_250 : decode cX6_does 250 = .ok (.iconst 1, 1) := by decide +kernel
theorem dX6_does_251 : decode cX6_does 251 = .ok (.isub, 1) := by decide +kernel
theorem dX6_does_252 : decode cX6_does 252 = .ok (.invokevirtual 202, 3) := by decide +kernel
theorem dX6_does_255 : decode cX6_does 255 = .ok (.ifCond .eq 7, 3) := by decide +kernel
theorem dX6_does_258 : decode cX6_does 258 = .ok (.iconst 1, 1) := by decide +kernel
theorem dX6_does_259 : decode cX6_does 259 = .ok (.goto 4, 3) := by decide +kernel
theorem dX6_does_262 : decode cX6_does 262 = .ok (.iconst 0, 1) := by decide +kernel
theorem dX6_does_263 : decode cX6_does 263 = .ok (.ireturn, 1) := by decide +kernel
theorem dX6_does_264 : decode cX6_does 264 = .ok (.iload_n 2, 1) := by decide +kernel
theorem dX6_does_265 : decode cX6_does 265 = .ok (.ifCond .ne 51, 3) := by decide +kernel
theorem dX6_does_268 : decode cX6_does 268 = .ok (.iload 7, 2) := by decide +kernel
theorem dX6_does_270 : decode cX6_does 270 = .ok (.ifCond .eq 46, 3) := by decide +kernel
theorem dX6_does_273 : decode cX6_does 273 = .ok (.iload 5, 2) := by decide +kernel
theorem dX6_does_275 : decode cX6_does 275 = .ok (.iconst 2, 1) := by decide +kernel
theorem dX6_does_276 : decode cX6_does 276 = .ok (.if_icmp .ge 40, 3) := by decide +kernel
theorem dX6_does_279 : decode cX6_does 279 = .ok (.aload_n 0, 1) := by decide +kernel
theorem dX6_does_280 : decode cX6_does 280 = .ok (.aload_n 0, 1) := by decide +kernel
theorem dX6_does_281 : decode cX6_does 281 = .ok (.getfield 19, 3) := by decide +kernel
theorem dX6_does_284 : decode cX6_does 284 = .ok (.iload 6, 2) := by decide +kernel
theorem dX6_does_286 : decode cX6_does 286 = .ok (.invokevirtual 105, 3) := by decide +kernel
theorem dX6_does_289 : decode cX6_does 289 = .ok (.iconst 2, 1) := by decide +kernel
theorem dX6_does_290 : decode cX6_does 290 = .ok (.if_icmp .ne 7, 3) := by decide +kernel
theorem dX6_does_293 : decode cX6_does 293 = .ok (.iconst 1, 1) := by decide +kernel
theorem dX6_does_294 : decode cX6_does 294 = .ok (.goto 4, 3) := by decide +kernel
theorem dX6_does_297 : decode cX6_does 297 = .ok (.iconst 0, 1) := by decide +kernel
theorem dX6_does_298 : decode cX6_does 298 = .ok (.iload 5, 2) := by decide +kernel
theorem dX6_does_300 : decode cX6_does 300 = .ok (.iconst 1, 1) := by decide +kernel
theorem dX6_does_301 : decode cX6_does 301 = .ok (.if_icmp .ne 7, 3) := by decide +kernel
theorem dX6_does_304 : decode cX6_does 304 = .ok (.iconst 1, 1) := by decide +kernel
theorem dX6_does_305 : decode cX6_does 305 = .ok (.goto 4, 3) := by decide +kernel
theorem dX6_does_308 : decode cX6_does 308 = .ok (.iconst 0, 1) := by decide +kernel
theorem dX6_does_309 : decode cX6_does 309 = .ok (.if_icmp .ne 7, 3) := by decide +kernel
theorem dX6_does_312 : decode cX6_does 312 = .ok (.iconst 1, 1) := by decide +kernel
theorem dX6_does_313 : decode cX6_does 313 = .ok (.goto 4, 3) := by decide +kernel
theorem dX6_does_316 : decode cX6_does 316 = .ok (.iconst 0, 1) := by decide +kernel
theorem dX6_does_317 : decode cX6_does 317 = .ok (.ireturn, 1) := by decide +kernel
theorem dX6_does_318 : decode cX6_does 318 = .ok (.iload_n 2, 1) := by decide +kernel
theorem dX6_does_319 : decode cX6_does 319 = .ok (.ifCond .ne 28, 3) := by decide +kernel
theorem dX6_does_322 : decode cX6_does 322 = .ok (.iload 5, 2) := by decide +kernel
theorem dX6_does_324 : decode cX6_does 324 = .ok (.ifCond .ne 23, 3) := by decide +kernel
theorem dX6_does_327 : decode cX6_does 327 = .ok (.aload_n 0, 1) := by decide +kernel
theorem dX6_does_328 : decode cX6_does 328 = .ok (.aload_n 0, 1) := by decide +kernel
theorem dX6_does_329 : decode cX6_does 329 = .ok (.getfield 19, 3) := by decide +kernel
theorem dX6_does_332 : decode cX6_does 332 = .ok (.invokevirtual 132, 3) := by decide +kernel
theorem dX6_does_335 : decode cX6_does 335 = .ok (.invokestatic 139, 3) := by decide +kernel
theorem dX6_does_338 : decode cX6_does 338 = .ok (.iload 6, 2) := by decide +kernel
theorem dX6_does_340 : decode cX6_does 340 = .ok (.if_icmp .lt 7, 3) := by decide +kernel
theorem dX6_does_343 : decode cX6_does 343 = .ok (.iconst 1, 1) := by decide +kernel
theorem dX6_does_344 : decode cX6_does 344 = .ok (.goto 4, 3) := by decide +kernel
theorem dX6_does_347 : decode cX6_does 347 = .ok (.iconst 0, 1) := by decide +kernel
theorem dX6_does_348 : decode cX6_does 348 = .ok (.ireturn, 1) := by decide +kernel
theorem dX6_does_349 : decode cX6_does 349 = .ok (.iconst 0, 1) := by decide +kernel
theorem dX6_does_350 : decode cX6_does 350 = .ok (.ireturn, 1) := by decide +kernel
theorem dX6_judge_0 : decode cX6_judge 0 = .ok (.aload_n 0, 1) := by decide +kernel
theorem dX6_judge_1 : decode cX6_judge 1 = .ok (.iconst 0, 1) := by decide +kernel
theorem dX6_judge_2 : decode cX6_judge 2 = .ok (.putfield 45, 3) := by decide +kernel
theorem dX6_judge_5 : decode cX6_judge 5 = .ok (.iload_n 1, 1) := by decide +kernel
theorem dX6_judge_6 : decode cX6_judge 6 = .ok (.i2l, 1) := by decide +kernel
theorem dX6_judge_7 : decode cX6_judge 7 = .ok (.lconst 1, 1) := by decide +kernel
theorem dX6_judge_8 : decode cX6_judge 8 = .ok (.ldc2_w 205, 3) := by decide +kernel
theorem dX6_judge_11 : decode cX6_judge 11 = .ok (.invokestatic 57, 3) := by decide +kernel
theorem dX6_judge_14 : decode cX6_judge 14 = .ok (.ifCond .eq 20, 3) := by decide +kernel
theorem dX6_judge_17 : decode cX6_judge 17 = .ok (.lload_n 2, 1) := by decide +kernel
theorem dX6_judge_18 : decode cX6_judge 18 = .ok (.lconst 0, 1) := by decide +kernel
theorem dX6_judge_19 : decode cX6_judge 19 = .ok (.ldc2_w 207, 3) := by decide +kernel
theorem dX6_judge_22 : decode cX6_judge 22 = .ok (.iload_n 1, 1) := by decide +kernel
theorem dX6_judge_23 : decode cX6_judge 23 = .ok (.invokestatic 209, 3) := by decide +kernel
theorem dX6_judge_26 : decode cX6_judge 26 = .ok (.lconst 1, 1) := by decide +kernel
theorem dX6_judge_27 : decode cX6_judge 27 = .ok (.lsub, 1) := by decide +kernel
theorem dX6_judge_28 : decode cX6_judge 28 = .ok (.invokestatic 57, 3) := by decide +kernel
theorem dX6_judge_31 : decode cX6_judge 31 = .ok (.ifCond .ne 6, 3) := by decide +kernel
theorem dX6_judge_34 : decode cX6_judge 34 = .ok (.bipush (-2), 2) := by decide +kernel
theorem dX6_judge_36 : decode cX6_judge 36 = .ok (.ireturn, 1) := by decide +kernel
theorem dX6_judge_37 : decode cX6_judge 37 = .ok (.aload_n 0, 1) := by decide +kernel
theorem dX6_judge_38 : decode cX6_judge 38 = .ok (.invokevirtual 179, 3) := by decide +kernel
theorem dX6_judge_41 : decode cX6_judge 41 = .ok (.iconst 0, 1) := by decide +kernel
theorem dX6_judge_42 : decode cX6_judge 42 = .ok (.istore 4, 2) := by decide +kernel
theorem dX6_judge_44 : decode cX6_judge 44 = .ok (.iload 4, 2) := by decide +kernel
theorem dX6_judge_46 : decode cX6_judge 46 = .ok (.iload_n 1, 1) := by decide +kernel
theorem dX6_judge_47 : decode cX6_judge 47 = .ok (.if_icmp .ge 38, 3) := by decide +kernel
theorem dX6_judge_50 : decode cX6_judge 50 = .ok (.aload_n 0, 1) := by decide +kernel
theorem dX6_judge_51 : decode cX6_judge 51 = .ok (.lload_n 2, 1) := by decide +kernel
theorem dX6_judge_52 : decode cX6_judge 52 = .ok (.ldc2_w 207, 3) := by decide +kernel
theorem dX6_judge_55 : decode cX6_judge 55 = .ok (.iload_n 1, 1) := by decide +kernel
theorem dX6_judge_56 : decode cX6_judge 56 = .ok (.iconst 1, 1) := by decide +kernel
theorem dX6_judge_57 : decode cX6_judge 57 = .ok (.isub, 1) := by decide +kernel
theorem dX6_judge_58 : decode cX6_judge 58 = .ok (.iload 4, 2) := by decide +kernel
theorem dX6_judge_60 : decode cX6_judge 60 = .ok (.isub, 1) := by decide +kernel
theorem dX6_judge_61 : decode cX6_judge 61 = .ok (.invokestatic 209, 3) := by decide +kernel
theorem dX6_judge_64 : decode cX6_judge 64 = .ok (.ldiv, 1) := by decide +kernel
theorem dX6_judge_65 : decode cX6_judge 65 = .ok (.ldc2_w 207, 3) := by decide +kernel
theorem dX6_judge_68 : decode cX6_judge 68 = .ok (.lrem, 1) := by decide +kernel
theorem dX6_judge_69 : decode cX6_judge 69 = .ok (.l2i, 1) := by decide +kernel
theorem dX6_judge_70 : decode cX6_judge 70 = .ok (.invokevirtual 213, 3) := by decide +kernel
theorem dX6_judge_73 : decode cX6_judge 73 = .ok (.ifCond .ne 6, 3) := by decide +kernel
theorem dX6_judge_76 : decode cX6_judge 76 = .ok (.iload 4, 2) := by decide +kernel
theorem dX6_judge_78 : decode cX6_judge 78 = .ok (.ireturn, 1) := by decide +kernel
theorem dX6_judge_79 : decode cX6_judge 79 = .ok (.iinc 4 1, 3) := by decide +kernel
theorem dX6_judge_82 : decode cX6_judge 82 = .ok (.goto (-38), 3) := by decide +kernel
theorem dX6_judge_85 : decode cX6_judge 85 = .ok (.bipush (-9), 2) := by decide +kernel
theorem dX6_judge_87 : decode cX6_judge 87 = .ok (.ireturn, 1) := by decide +kernel
theorem dX6_orders_0 : decode cX6_orders 0 = .ok (.iconst 1, 1) := by decide +kernel
theorem dX6_orders_1 : decode cX6_orders 1 = .ok (.istore_n 2, 1) := by decide +kernel
theorem dX6_orders_2 : decode cX6_orders 2 = .ok (.iconst 2, 1) := by decide +kernel
theorem dX6_orders_3 : decode cX6_orders 3 = .ok (.istore_n 3, 1) := by decide +kernel
theorem dX6_orders_4 : decode cX6_orders 4 = .ok (.iload_n 3, 1) := by decide +kernel
theorem dX6_orders_5 : decode cX6_orders 5 = .ok (.iload_n 1, 1) := by decide +kernel
theorem dX6_orders_6 : decode cX6_orders 6 = .ok (.if_icmp .gt 13, 3) := by decide +kernel
theorem dX6_orders_9 : decode cX6_orders 9 = .ok (.iload_n 2, 1) := by decide +kernel
theorem dX6_orders_10 : decode cX6_orders 10 = .ok (.iload_n 3, 1) := by decide +kernel
theorem dX6_orders_11 : decode cX6_orders 11 = .ok (.imul, 1) := by decide +kernel
theorem dX6_orders_12 : decode cX6_orders 12 = .ok (.istore_n 2, 1) := by decide +kernel
theorem dX6_orders_13 : decode cX6_orders 13 = .ok (.iinc 3 1, 3) := by decide +kernel
theorem dX6_orders_16 : decode cX6_orders 16 = .ok (.goto (-12), 3) := by decide +kernel
theorem dX6_orders_19 : decode cX6_orders 19 = .ok (.iconst 2, 1) := by decide +kernel
theorem dX6_orders_20 : decode cX6_orders 20 = .ok (.istore_n 3, 1) := by decide +kernel
theorem dX6_orders_21 : decode cX6_orders 21 = .ok (.iload_n 3, 1) := by decide +kernel
theorem dX6_orders_22 : decode cX6_orders 22 = .ok (.iload_n 0, 1) := by decide +kernel
theorem dX6_orders_23 : decode cX6_orders 23 = .ok (.iconst 1, 1) := by decide +kernel
theorem dX6_orders_24 : decode cX6_orders 24 = .ok (.isub, 1) := by decide +kernel
theorem dX6_orders_25 : decode cX6_orders 25 = .ok (.iload_n 1, 1) := by decide +kernel
theorem dX6_orders_26 : decode cX6_orders 26 = .ok (.isub, 1) := by decide +kernel
theorem dX6_orders_27 : decode cX6_orders 27 = .ok (.if_icmp .gt 13, 3) := by decide +kernel
theorem dX6_orders_30 : decode cX6_orders 30 = .ok (.iload_n 2, 1) := by decide +kernel
theorem dX6_orders_31 : decode cX6_orders 31 = .ok (.iload_n 3, 1) := by decide +kernel
theorem dX6_orders_32 : decode cX6_orders 32 = .ok (.imul, 1) := by decide +kernel
theorem dX6_orders_33 : decode cX6_orders 33 = .ok (.istore_n 2, 1) := by decide +kernel
theorem dX6_orders_34 : decode cX6_orders 34 = .ok (.iinc 3 1, 3) := by decide +kernel
theorem dX6_orders_37 : decode cX6_orders 37 = .ok (.goto (-16), 3) := by decide +kernel
theorem dX6_orders_40 : decode cX6_orders 40 = .ok (.iload_n 2, 1) := by decide +kernel
theorem dX6_orders_41 : decode cX6_orders 41 = .ok (.ireturn, 1) := by decide +kernel
theorem dX6_inkOfRows_0 : decode cX6_inkOfRows 0 = .ok (.aload_n 0, 1) := by decide +kernel
theorem dX6_inkOfRows_1 : decode cX6_inkOfRows 1 = .ok (.invokevirtual 179, 3) := by decide +kernel
theorem dX6_inkOfRows_4 : decode cX6_inkOfRows 4 = .ok (.iconst 0, 1) := by decide +kernel
theorem dX6_inkOfRows_5 : decode cX6_inkOfRows 5 = .ok (.istore_n 2, 1) := by decide +kernel
theorem dX6_inkOfRows_6 : decode cX6_inkOfRows 6 = .ok (.iload_n 2, 1) := by decide +kernel
theorem dX6_inkOfRows_7 : decode cX6_inkOfRows 7 = .ok (.aload_n 0, 1) := by decide +kernel
theorem dX6_inkOfRows_8 : decode cX6_inkOfRows 8 = .ok (.getfield 16, 3) := by decide +kernel
theorem dX6_inkOfRows_11 : decode cX6_inkOfRows 11 = .ok (.invokestatic 53, 3) := by decide +kernel
theorem dX6_inkOfRows_14 : decode cX6_inkOfRows 14 = .ok (.if_icmp .ge 45, 3) := by decide +kernel
theorem dX6_inkOfRows_17 : decode cX6_inkOfRows 17 = .ok (.aload_n 0, 1) := by decide +kernel
theorem dX6_inkOfRows_18 : decode cX6_inkOfRows 18 = .ok (.getfield 19, 3) := by decide +kernel
theorem dX6_inkOfRows_21 : decode cX6_inkOfRows 21 = .ok (.iconst 2, 1) := by decide +kernel
theorem dX6_inkOfRows_22 : decode cX6_inkOfRows 22 = .ok (.iload_n 2, 1) := by decide +kernel
theorem dX6_inkOfRows_23 : decode cX6_inkOfRows 23 = .ok (.iadd, 1) := by decide +kernel
theorem dX6_inkOfRows_24 : decode cX6_inkOfRows 24 = .ok (.iload_n 1, 1) := by decide +kernel
theorem dX6_inkOfRows_25 : decode cX6_inkOfRows 25 = .ok (.iload_n 2, 1) := by decide +kernel
theorem dX6_inkOfRows_26 : decode cX6_inkOfRows 26 = .ok (.aload_n 0, 1) := by decide +kernel
theorem dX6_inkOfRows_27 : decode cX6_inkOfRows 27 = .ok (.getfield 16, 3) := by decide +kernel
theorem dX6_inkOfRows_30 : decode cX6_inkOfRows 30 = .ok (.iconst 0, 1) := by decide +kernel
theorem dX6_inkOfRows_31 : decode cX6_inkOfRows 31 = .ok (.iaload, 1) := by decide +kernel
theorem dX6_inkOfRows_32 : decode cX6_inkOfRows 32 = .ok (.idiv, 1) := by decide +kernel
theorem dX6_inkOfRows_33 : decode cX6_inkOfRows 33 = .ok (.invokestatic 126, 3) := by decide +kernel
theorem dX6_inkOfRows_36 : decode cX6_inkOfRows 36 = .ok (.ifCond .eq 14, 3) := by decide +kernel
theorem dX6_inkOfRows_39 : decode cX6_inkOfRows 39 = .ok (.aload_n 0, 1) := by decide +kernel
theorem dX6_inkOfRows_40 : decode cX6_inkOfRows 40 = .ok (.getfield 16, 3) := by decide +kernel
theorem dX6_inkOfRows_43 : decode cX6_inkOfRows 43 = .ok (.iconst 2, 1) := by decide +kernel
theorem dX6_inkOfRows_44 : decode cX6_inkOfRows 44 = .ok (.iload_n 2, 1) := by decide +kernel
theorem dX6_inkOfRows_45 : decode cX6_inkOfRows 45 = .ok (.iadd, 1) := by decide +kernel
theorem dX6_inkOfRows_46 : decode cX6_inkOfRows 46 = .ok (.iaload, 1) := by decide +kernel
theorem dX6_inkOfRows_47 : decode cX6_inkOfRows 47 = .ok (.goto 5, 3) := by decide +kernel
theorem dX6_inkOfRows_50 : decode cX6_inkOfRows 50 = .ok (.bipush 9, 2) := by decide +kernel
theorem dX6_inkOfRows_52 : decode cX6_inkOfRows 52 = .ok (.iastore, 1) := by decide +kernel
theorem dX6_inkOfRows_53 : decode cX6_inkOfRows 53 = .ok (.iinc 2 1, 3) := by decide +kernel
theorem dX6_inkOfRows_56 : decode cX6_inkOfRows 56 = .ok (.goto (-50), 3) := by decide +kernel
theorem dX6_inkOfRows_59 : decode cX6_inkOfRows 59 = .ok (.aload_n 0, 1) := by decide +kernel
theorem dX6_inkOfRows_60 : decode cX6_inkOfRows 60 = .ok (.aload_n 0, 1) := by decide +kernel
theorem dX6_inkOfRows_61 : decode cX6_inkOfRows 61 = .ok (.getfield 19, 3) := by decide +kernel
theorem dX6_inkOfRows_64 : decode cX6_inkOfRows 64 = .ok (.invokevirtual 132, 3) := by decide +kernel
theorem dX6_inkOfRows_67 : decode cX6_inkOfRows 67 = .ok (.invokestatic 139, 3) := by decide +kernel
theorem dX6_inkOfRows_70 : decode cX6_inkOfRows 70 = .ok (.ireturn, 1) := by decide +kernel
theorem dX6_share_0 : decode cX6_share 0 = .ok (.aload_n 0, 1) := by decide +kernel
theorem dX6_share_1 : decode cX6_share 1 = .ok (.iconst 0, 1) := by decide +kernel
theorem dX6_share_2 : decode cX6_share 2 = .ok (.putfield 45, 3) := by decide +kernel
theorem dX6_share_5 : decode cX6_share 5 = .ok (.aload_n 0, 1) := by decide +kernel
theorem dX6_share_6 : decode cX6_share 6 = .ok (.getfield 16, 3) := by decide +kernel
theorem dX6_share_9 : decode cX6_share 9 = .ok (.iconst 1, 1) := by decide +kernel
theorem dX6_share_10 : decode cX6_share 10 = .ok (.iaload, 1) := by decide +kernel
theorem dX6_share_11 : decode cX6_share 11 = .ok (.istore_n 3, 1) := by decide +kernel
theorem dX6_share_12 : decode cX6_share 12 = .ok (.iload_n 1, 1) := by decide +kernel
theorem dX6_share_13 : decode cX6_share 13 = .ok (.i2l, 1) := by decide +kernel
theorem dX6_share_14 : decode cX6_share 14 = .ok (.lconst 0, 1) := by decide +kernel
theorem dX6_share_15 : decode cX6_share 15 = .ok (.iload_n 3, 1) := by decide +kernel
theorem dX6_share_16 : decode cX6_share 16 = .ok (.iconst 1, 1) := by decide +kernel
theorem dX6_share_17 : decode cX6_share 17 = .ok (.isub, 1) := by decide +kernel
theorem dX6_share_18 : decode cX6_share 18 = .ok (.i2l, 1) := by decide +kernel
theorem dX6_share_19 : decode cX6_share 19 = .ok (.invokestatic 57, 3) := by decide +kernel
theorem dX6_share_22 : decode cX6_share 22 = .ok (.ifCond .ne 5, 3) := by decide +kernel
theorem dX6_share_25 : decode cX6_share 25 = .ok (.iconst (-1), 1) := by decide +kernel
theorem dX6_share_26 : decode cX6_share 26 = .ok (.ireturn, 1) := by decide +kernel
theorem dX6_share_27 : decode cX6_share 27 = .ok (.iconst 0, 1) := by decide +kernel
theorem dX6_share_28 : decode cX6_share 28 = .ok (.istore 4, 2) := by decide +kernel
theorem dX6_share_30 : decode cX6_share 30 = .ok (.iload 4, 2) := by decide +kernel
theorem dX6_share_32 : decode cX6_share 32 = .ok (.iconst 1, 1) := by decide +kernel
theorem dX6_share_33 : decode cX6_share 33 = .ok (.iload_n 3, 1) := by decide +kernel
theorem dX6_share_34 : decode cX6_share 34 = .ok (.ishl, 1) := by decide +kernel
theorem dX6_share_35 : decode cX6_share 35 = .ok (.if_icmp .ge 22, 3) := by decide +kernel
theorem dX6_share_38 : decode cX6_share 38 = .ok (.aload_n 0, 1) := by decide +kernel
theorem dX6_share_39 : decode cX6_share 39 = .ok (.getfield 38, 3) := by decide +kernel
theorem dX6_share_42 : decode cX6_share 42 = .ok (.iload 4, 2) := by decide +kernel
theorem dX6_share_44 : decode cX6_share 44 = .ok (.aload_n 0, 1) := by decide +kernel
theorem dX6_share_45 : decode cX6_share 45 = .ok (.iload 4, 2) := by decide +kernel
theorem dX6_share_47 : decode cX6_share 47 = .ok (.invokevirtual 216, 3) := by decide +kernel
theorem dX6_share_50 : decode cX6_share 50 = .ok (.iastore, 1) := by decide +kernel
theorem dX6_share_51 : decode cX6_share 51 = .ok (.iinc 4 1, 3) := by decide +kernel
theorem dX6_share_54 : decode cX6_share 54 = .ok (.goto (-24), 3) := by decide +kernel
theorem dX6_share_57 : decode cX6_share 57 = .ok (.iconst 0, 1) := by decide +kernel
theorem dX6_share_58 : decode cX6_share 58 = .ok (.istore 4, 2) := by decide +kernel
theorem dX6_share_60 : decode cX6_share 60 = .ok (.iconst 0, 1) := by decide +kernel
theorem dX6_share_61 : decode cX6_share 61 = .ok (.istore 5, 2) := by decide +kernel
theorem dX6_share_63 : decode cX6_share 63 = .ok (.iconst 0, 1) := by decide +kernel
theorem dX6_share_64 : decode cX6_share 64 = .ok (.istore 6, 2) := by decide +kernel
theorem dX6_share_66 : decode cX6_share 66 = .ok (.iload 6, 2) := by decide +kernel
theorem dX6_share_68 : decode cX6_share 68 = .ok (.iconst 1, 1) := by decide +kernel
theorem dX6_share_69 : decode cX6_share 69 = .ok (.iload_n 3, 1) := by decide +kernel
theorem dX6_share_70 : decode cX6_share 70 = .ok (.ishl, 1) := by decide +kernel
theorem dX6_share_71 : decode cX6_share 71 = .ok (.if_icmp .ge 63, 3) := by decide +kernel
theorem dX6_share_74 : decode cX6_share 74 = .ok (.iload 6, 2) := by decide +kernel
theorem dX6_share_76 : decode cX6_share 76 = .ok (.iload_n 1, 1) := by decide +kernel
theorem dX6_share_77 : decode cX6_share 77 = .ok (.invokestatic 126, 3) := by decide +kernel
theorem dX6_share_80 : decode cX6_share 80 = .ok (.ifCond .ne 48, 3) := by decide +kernel
theorem dX6_share_83 : decode cX6_share 83 = .ok (.iload_n 3, 1) := by decide +kernel
theorem dX6_share_84 : decode cX6_share 84 = .ok (.iload 6, 2) := by decide +kernel
theorem dX6_share_86 : decode cX6_share 86 = .ok (.invokestatic 139, 3) := by decide +kernel
theorem dX6_share_89 : decode cX6_share 89 = .ok (.invokestatic 219, 3) := by decide +kernel
theorem dX6_share_92 : decode cX6_share 92 = .ok (.istore 7, 2) := by decide +kernel
theorem dX6_share_94 : decode cX6_share 94 = .ok (.iload 5, 2) := by decide +kernel
theorem dX6_share_96 : decode cX6_share 96 = .ok (.iload 7, 2) := by decide +kernel
theorem dX6_share_98 : decode cX6_share 98 = .ok (.iadd, 1) := by decide +kernel
theorem dX6_share_99 : decode cX6_share 99 = .ok (.istore 5, 2) := by decide +kernel
theorem dX6_share_101 : decode cX6_share 101 = .ok (.iload 4, 2) := by decide +kernel
theorem dX6_share_103 : decode cX6_share 103 = .ok (.iload 7, 2) := by decide +kernel
theorem dX6_share_105 : decode cX6_share 105 = .ok (.aload_n 0, 1) := by decide +kernel
theorem dX6_share_106 : decode cX6_share 106 = .ok (.getfield 38, 3) := by decide +kernel
theorem dX6_share_109 : decode cX6_share 109 = .ok (.iload 6, 2) := by decide +kernel
theorem dX6_share_111 : decode cX6_share 111 = .ok (.iconst 1, 1) := by decide +kernel
theorem dX6_share_112 : decode cX6_share 112 = .ok (.iload_n 1, 1) := by decide +kernel
theorem dX6_share_113 : decode cX6_share 113 = .ok (.ishl, 1) := by decide +kernel
theorem dX6_share_114 : decode cX6_share 114 = .ok (.ior, 1) := by decide +kernel
theorem dX6_share_115 : decode cX6_share 115 = .ok (.iaload, 1) := by decide +kernel
theorem dX6_share_116 : decode cX6_share 116 = .ok (.aload_n 0, 1) := by decide +kernel
theorem dX6_share_117 : decode cX6_share 117 = .ok (.getfield 38, 3) := by decide +kernel
theorem dX6_share_120 : decode cX6_share 120 = .ok (.iload 6, 2) := by decide +kernel
theorem dX6_share_122 : decode cX6_share 122 = .ok (.iaload, 1) := by decide +kernel
theorem dX6_share_123 : decode cX6_share 123 = .ok (.isub, 1) := by decide +kernel
theorem dX6_share_124 : decode cX6_share 124 = .ok (.imul, 1) := by decide +kernel
theorem dX6_share_125 : decode cX6_share 125 = .ok (.iadd, 1) := by decide +kernel
theorem dX6_share_126 : decode cX6_share 126 = .ok (.istore 4, 2) := by decide +kernel
theorem dX6_share_128 : decode cX6_share 128 = .ok (.iinc 6 1, 3) := by decide +kernel
theorem dX6_share_131 : decode cX6_share 131 = .ok (.goto (-65), 3) := by decide +kernel
theorem dX6_share_134 : decode cX6_share 134 = .ok (.iload 4, 2) := by decide +kernel
theorem dX6_share_136 : decode cX6_share 136 = .ok (.iload 5, 2) := by decide +kernel
theorem dX6_share_138 : decode cX6_share 138 = .ok (.iload_n 2, 1) := by decide +kernel
theorem dX6_share_139 : decode cX6_share 139 = .ok (.invokestatic 122, 3) := by decide +kernel
theorem dX6_share_142 : decode cX6_share 142 = .ok (.ireturn, 1) := by decide +kernel
theorem dX6_see_0 : decode cX6_see 0 = .ok (.aload_n 0, 1) := by decide +kernel
theorem dX6_see_1 : decode cX6_see 1 = .ok (.iconst 0, 1) := by decide +kernel
theorem dX6_see_2 : decode cX6_see 2 = .ok (.putfield 45, 3) := by decide +kernel
theorem dX6_see_5 : decode cX6_see 5 = .ok (.aload_n 0, 1) := by decide +kernel
theorem dX6_see_6 : decode cX6_see 6 = .ok (.iload_n 1, 1) := by decide +kernel
theorem dX6_see_7 : decode cX6_see 7 = .ok (.invokevirtual 118, 3) := by decide +kernel
theorem dX6_see_10 : decode cX6_see 10 = .ok (.ifCond .eq 5, 3) := by decide +kernel
theorem dX6_see_13 : decode cX6_see 13 = .ok (.iconst (-1), 1) := by decide +kernel
theorem dX6_see_14 : decode cX6_see 14 = .ok (.ireturn, 1) := by decide +kernel
theorem dX6_see_15 : decode cX6_see 15 = .ok (.iload_n 2, 1) := by decide +kernel
theorem dX6_see_16 : decode cX6_see 16 = .ok (.i2l, 1) := by decide +kernel
theorem dX6_see_17 : decode cX6_see 17 = .ok (.lconst 0, 1) := by decide +kernel
theorem dX6_see_18 : decode cX6_see 18 = .ok (.lconst 1, 1) := by decide +kernel
theorem dX6_see_19 : decode cX6_see 19 = .ok (.invokestatic 57, 3) := by decide +kernel
theorem dX6_see_22 : decode cX6_see 22 = .ok (.ifCond .ne 6, 3) := by decide +kernel
theorem dX6_see_25 : decode cX6_see 25 = .ok (.bipush (-2), 2) := by decide +kernel
theorem dX6_see_27 : decode cX6_see 27 = .ok (.ireturn, 1) := by decide +kernel
theorem dX6_see_28 : decode cX6_see 28 = .ok (.aload_n 0, 1) := by decide +kernel
theorem dX6_see_29 : decode cX6_see 29 = .ok (.getfield 115, 3) := by decide +kernel
theorem dX6_see_32 : decode cX6_see 32 = .ok (.bipush 6, 2) := by decide +kernel
theorem dX6_see_34 : decode cX6_see 34 = .ok (.if_icmp .ne 6, 3) := by decide +kernel
theorem dX6_see_37 : decode cX6_see 37 = .ok (.bipush (-4), 2) := by decide +kernel
theorem dX6_see_39 : decode cX6_see 39 = .ok (.ireturn, 1) := by decide +kernel
theorem dX6_see_40 : decode cX6_see 40 = .ok (.aload_n 0, 1) := by decide +kernel
theorem dX6_see_41 : decode cX6_see 41 = .ok (.getfield 32, 3) := by decide +kernel
theorem dX6_see_44 : decode cX6_see 44 = .ok (.aload_n 0, 1) := by decide +kernel
theorem dX6_see_45 : decode cX6_see 45 = .ok (.getfield 115, 3) := by decide +kernel
theorem dX6_see_48 : decode cX6_see 48 = .ok (.iload_n 1, 1) := by decide +kernel
theorem dX6_see_49 : decode cX6_see 49 = .ok (.iastore, 1) := by decide +kernel
theorem dX6_see_50 : decode cX6_see 50 = .ok (.aload_n 0, 1) := by decide +kernel
theorem dX6_see_51 : decode cX6_see 51 = .ok (.getfield 35, 3) := by decide +kernel
theorem dX6_see_54 : decode cX6_see 54 = .ok (.aload_n 0, 1) := by decide +kernel
theorem dX6_see_55 : decode cX6_see 55 = .ok (.getfield 115, 3) := by decide +kernel
theorem dX6_see_58 : decode cX6_see 58 = .ok (.iload_n 2, 1) := by decide +kernel
theorem dX6_see_59 : decode cX6_see 59 = .ok (.iastore, 1) := by decide +kernel
theorem dX6_see_60 : decode cX6_see 60 = .ok (.aload_n 0, 1) := by decide +kernel
theorem dX6_see_61 : decode cX6_see 61 = .ok (.dup, 1) := by decide +kernel
theorem dX6_see_62 : decode cX6_see 62 = .ok (.getfield 115, 3) := by decide +kernel
theorem dX6_see_65 : decode cX6_see 65 = .ok (.iconst 1, 1) := by decide +kernel
theorem dX6_see_66 : decode cX6_see 66 = .ok (.iadd, 1) := by decide +kernel
theorem dX6_see_67 : decode cX6_see 67 = .ok (.putfield 115, 3) := by decide +kernel
theorem dX6_see_70 : decode cX6_see 70 = .ok (.aload_n 0, 1) := by decide +kernel
theorem dX6_see_71 : decode cX6_see 71 = .ok (.getfield 115, 3) := by decide +kernel
theorem dX6_see_74 : decode cX6_see 74 = .ok (.ireturn, 1) := by decide +kernel
theorem dX6_unsee_0 : decode cX6_unsee 0 = .ok (.aload_n 0, 1) := by decide +kernel
theorem dX6_unsee_1 : decode cX6_unsee 1 = .ok (.iconst 0, 1) := by decide +kernel
theorem dX6_unsee_2 : decode cX6_unsee 2 = .ok (.putfield 45, 3) := by decide +kernel
theorem dX6_unsee_5 : decode cX6_unsee 5 = .ok (.aload_n 0, 1) := by decide +kernel
theorem dX6_unsee_6 : decode cX6_unsee 6 = .ok (.getfield 115, 3) := by decide +kernel
theorem dX6_unsee_9 : decode cX6_unsee 9 = .ok (.istore_n 1, 1) := by decide +kernel
theorem dX6_unsee_10 : decode cX6_unsee 10 = .ok (.aload_n 0, 1) := by decide +kernel
theorem dX6_unsee_11 : decode cX6_unsee 11 = .ok (.iconst 0, 1) := by decide +kernel
theorem dX6_unsee_12 : decode cX6_unsee 12 = .ok (.putfield 115, 3) := by decide +kernel
theorem dX6_unsee_15 : decode cX6_unsee 15 = .ok (.iload_n 1, 1) := by decide +kernel
theorem dX6_unsee_16 : decode cX6_unsee 16 = .ok (.ireturn, 1) := by decide +kernel
theorem dX6_ways_0 : decode cX6_ways 0 = .ok (.aload_n 0, 1) := by decide +kernel
theorem dX6_ways_1 : decode cX6_ways 1 = .ok (.iconst 0, 1) := by decide +kernel
theorem dX6_ways_2 : decode cX6_ways 2 = .ok (.putfield 45, 3) := by decide +kernel
theorem dX6_ways_5 : decode cX6_ways 5 = .ok (.iload_n 1, 1) := by decide +kernel
theorem dX6_ways_6 : decode cX6_ways 6 = .ok (.i2l, 1) := by decide +kernel
theorem dX6_ways_7 : decode cX6_ways 7 = .ok (.lconst 0, 1) := by decide +kernel
theorem dX6_ways_8 : decode cX6_ways 8 = .ok (.lconst 1, 1) := by decide +kernel
theorem dX6_ways_9 : decode cX6_ways 9 = .ok (.invokestatic 57, 3) := by decide +kernel
theorem dX6_ways_12 : decode cX6_ways 12 = .ok (.ifCond .ne 6, 3) := by decide +kernel
theorem dX6_ways_15 : decode cX6_ways 15 = .ok (.bipush (-2), 2) := by decide +kernel
theorem dX6_ways_17 : decode cX6_ways 17 = .ok (.ireturn, 1) := by decide +kernel
theorem dX6_ways_18 : decode cX6_ways 18 = .ok (.aload_n 0, 1) := by decide +kernel
theorem dX6_ways_19 : decode cX6_ways 19 = .ok (.iconst 0, 1) := by decide +kernel
theorem dX6_ways_20 : decode cX6_ways 20 = .ok (.putfield 222, 3) := by decide +kernel
theorem dX6_ways_23 : decode cX6_ways 23 = .ok (.aload_n 0, 1) := by decide +kernel
theorem dX6_ways_24 : decode cX6_ways 24 = .ok (.bipush (-9), 2) := by decide +kernel
theorem dX6_ways_26 : decode cX6_ways 26 = .ok (.putfield 225, 3) := by decide +kernel
theorem dX6_ways_29 : decode cX6_ways 29 = .ok (.iconst 0, 1) := by decide +kernel
theorem dX6_ways_30 : decode cX6_ways 30 = .ok (.istore_n 2, 1) := by decide +kernel
theorem dX6_ways_31 : decode cX6_ways 31 = .ok (.iload_n 2, 1) := by decide +kernel
theorem dX6_ways_32 : decode cX6_ways 32 = .ok (.bipush 30, 2) := by decide +kernel
theorem dX6_ways_34 : decode cX6_ways 34 = .ok (.if_icmp .ge 121, 3) := by decide +kernel
theorem dX6_ways_37 : decode cX6_ways 37 = .ok (.aload_n 0, 1) := by decide +kernel
theorem dX6_ways_38 : decode cX6_ways 38 = .ok (.iload_n 2, 1) := by decide +kernel
theorem dX6_ways_39 : decode cX6_ways 39 = .ok (.invokevirtual 182, 3) := by decide +kernel
theorem dX6_ways_42 : decode cX6_ways 42 = .ok (.istore_n 3, 1) := by decide +kernel
theorem dX6_ways_43 : decode cX6_ways 43 = .ok (.iconst 1, 1) := by decide +kernel
theorem dX6_ways_44 : decode cX6_ways 44 = .ok (.istore 4, 2) := by decide +kernel
theorem dX6_ways_46 : decode cX6_ways 46 = .ok (.iconst 0, 1) := by decide +kernel
theorem dX6_ways_47 : decode cX6_ways 47 = .ok (.istore 5, 2) := by decide +kernel
theorem dX6_ways_49 : decode cX6_ways 49 = .ok (.iload 5, 2) := by decide +kernel
theorem dX6_ways_51 : decode cX6_ways 51 = .ok (.aload_n 0, 1) := by decide +kernel
theorem dX6_ways_52 : decode cX6_ways 52 = .ok (.getfield 115, 3) := by decide +kernel
theorem dX6_ways_55 : decode cX6_ways 55 = .ok (.if_icmp .ge 51, 3) := by decide +kernel
theorem dX6_ways_58 : decode cX6_ways 58 = .ok (.iload 4, 2) := by decide +kernel
theorem dX6_ways_60 : decode cX6_ways 60 = .ok (.ifCond .eq 37, 3) := by decide +kernel
theorem dX6_ways_63 : decode cX6_ways 63 = .ok (.iload_n 3, 1) := by decide +kernel
theorem dX6_ways_64 : decode cX6_ways 64 = .ok (.aload_n 0, 1) := by decide +kernel
theorem dX6_ways_65 : decode cX6_ways 65 = .ok (.getfield 32, 3) := by decide +kernel
theorem dX6_ways_68 : decode cX6_ways 68 = .ok (.iload 5, 2) := by decide +kernel
theorem dX6_ways_70 : decode cX6_ways 70 = .ok (.iaload, 1) := by decide +kernel
theorem dX6_ways_71 : decode cX6_ways 71 = .ok (.invokestatic 126, 3) := by decide +kernel
theorem dX6_ways_74 : decode cX6_ways 74 = .ok (.aload_n 0, 1) := by decide +kernel
theorem dX6_ways_75 : decode cX6_ways 75 = .ok (.getfield 35, 3) := by decide +kernel
theorem dX6_ways_78 : decode cX6_ways 78 = .ok (.iload 5, 2) := by decide +kernel
theorem dX6_ways_80 : decode cX6_ways 80 = .ok (.iaload, 1) := by decide +kernel
theorem dX6_ways_81 : decode cX6_ways 81 = .ok (.iconst 1, 1) := by decide +kernel
theorem dX6_ways_82 : decode cX6_ways 82 = .ok (.if_icmp .ne 7, 3) := by decide +kernel
theorem dX6_ways_85 : decode cX6_ways 85 = .ok (.iconst 1, 1) := by decide +kernel
theorem dX6_ways_86 : decode cX6_ways 86 = .ok (.goto 4, 3) := by decide +kernel
theorem dX6_ways_89 : decode cX6_ways 89 = .ok (.iconst 0, 1) := by decide +kernel
theorem dX6_ways_90 : decode cX6_ways 90 = .ok (.if_icmp .ne 7, 3) := by decide +kernel
theorem dX6_ways_93 : decode cX6_ways 93 = .ok (.iconst 1, 1) := by decide +kernel
theorem dX6_ways_94 : decode cX6_ways 94 = .ok (.goto 4, 3) := by decide +kernel
theorem dX6_ways_97 : decode cX6_ways 97 = .ok (.iconst 0, 1) := by decide +kernel
theorem dX6_ways_98 : decode cX6_ways 98 = .ok (.istore 4, 2) := by decide +kernel
theorem dX6_ways_100 : decode cX6_ways 100 = .ok (.iinc 5 1, 3) := by decide +kernel
theorem dX6_ways_103 : decode cX6_ways 103 = .ok (.goto (-54), 3) := by decide +kernel
theorem dX6_ways_106 : decode cX6_ways 106 = .ok (.aload_n 0, 1) := by decide +kernel
theorem dX6_ways_107 : decode cX6_ways 107 = .ok (.iload 4, 2) := by decide +kernel
theorem dX6_ways_109 : decode cX6_ways 109 = .ok (.ifCond .eq 14, 3) := by decide +kernel
theorem dX6_ways_112 : decode cX6_ways 112 = .ok (.aload_n 0, 1) := by decide +kernel
theorem dX6_ways_113 : decode cX6_ways 113 = .ok (.getfield 222, 3) := by decide +kernel
theorem dX6_ways_116 : decode cX6_ways 116 = .ok (.ifCond .ne 7, 3) := by decide +kernel
theorem dX6_ways_119 : decode cX6_ways 119 = .ok (.iload_n 2, 1) := by decide +kernel
theorem dX6_ways_120 : decode cX6_ways 120 = .ok (.goto 7, 3) := by decide +kernel
theorem dX6_ways_123 : decode cX6_ways 123 = .ok (.aload_n 0, 1) := by decide +kernel
theorem dX6_ways_124 : decode cX6_ways 124 = .ok (.getfield 225, 3) := by decide +kernel
theorem dX6_ways_127 : decode cX6_ways 127 = .ok (.putfield 225, 3) := by decide +kernel
theorem dX6_ways_130 : decode cX6_ways 130 = .ok (.aload_n 0, 1) := by decide +kernel
theorem dX6_ways_131 : decode cX6_ways 131 = .ok (.dup, 1) := by decide +kernel
theorem dX6_ways_132 : decode cX6_ways 132 = .ok (.getfield 222, 3) := by decide +kernel
theorem dX6_ways_135 : decode cX6_ways 135 = .ok (.iload 4, 2) := by decide +kernel
theorem dX6_ways_137 : decode cX6_ways 137 = .ok (.ifCond .eq 7, 3) := by decide +kernel
theorem dX6_ways_140 : decode cX6_ways 140 = .ok (.iconst 1, 1) := by decide +kernel
theorem dX6_ways_141 : decode cX6_ways 141 = .ok (.goto 4, 3) := by decide +kernel
theorem dX6_ways_144 : decode cX6_ways 144 = .ok (.iconst 0, 1) := by decide +kernel
theorem dX6_ways_145 : decode cX6_ways 145 = .ok (.iadd, 1) := by decide +kernel
theorem dX6_ways_146 : decode cX6_ways 146 = .ok (.putfield 222, 3) := by decide +kernel
theorem dX6_ways_149 : decode cX6_ways 149 = .ok (.iinc 2 1, 3) := by decide +kernel
theorem dX6_ways_152 : decode cX6_ways 152 = .ok (.goto (-121), 3) := by decide +kernel
theorem dX6_ways_155 : decode cX6_ways 155 = .ok (.iload_n 1, 1) := by decide +kernel
theorem dX6_ways_156 : decode cX6_ways 156 = .ok (.ifCond .ne 10, 3) := by decide +kernel
theorem dX6_ways_159 : decode cX6_ways 159 = .ok (.aload_n 0, 1) := by decide +kernel
theorem dX6_ways_160 : decode cX6_ways 160 = .ok (.getfield 222, 3) := by decide +kernel
theorem dX6_ways_163 : decode cX6_ways 163 = .ok (.goto 7, 3) := by decide +kernel
theorem dX6_ways_166 : decode cX6_ways 166 = .ok (.aload_n 0, 1) := by decide +kernel
theorem dX6_ways_167 : decode cX6_ways 167 = .ok (.getfield 225, 3) := by decide +kernel
theorem dX6_ways_170 : decode cX6_ways 170 = .ok (.ireturn, 1) := by decide +kernel
theorem dX6_bleached_0 : decode cX6_bleached 0 = .ok (.aload_n 0, 1) := by decide +kernel
theorem dX6_bleached_1 : decode cX6_bleached 1 = .ok (.iconst 0, 1) := by decide +kernel
theorem dX6_bleached_2 : decode cX6_bleached 2 = .ok (.putfield 45, 3) := by decide +kernel
theorem dX6_bleached_5 : decode cX6_bleached 5 = .ok (.aload_n 0, 1) := by decide +kernel
theorem dX6_bleached_6 : decode cX6_bleached 6 = .ok (.getfield 16, 3) := by decide +kernel
theorem dX6_bleached_9 : decode cX6_bleached 9 = .ok (.iconst 0, 1) := by decide +kernel
theorem dX6_bleached_10 : decode cX6_bleached 10 = .ok (.iaload, 1) := by decide +kernel
theorem dX6_bleached_11 : decode cX6_bleached 11 = .ok (.istore 5, 2) := by decide +kernel
theorem dX6_bleached_13 : decode cX6_bleached 13 = .ok (.iload_n 1, 1) := by decide +kernel
theorem dX6_bleached_14 : decode cX6_bleached 14 = .ok (.i2l, 1) := by decide +kernel
theorem dX6_bleached_15 : decode cX6_bleached 15 = .ok (.lconst 0, 1) := by decide +kernel
theorem dX6_bleached_16 : decode cX6_bleached 16 = .ok (.aload_n 0, 1) := by decide +kernel
theorem dX6_bleached_17 : decode cX6_bleached 17 = .ok (.getfield 16, 3) := by decide +kernel
theorem dX6_bleached_20 : decode cX6_bleached 20 = .ok (.iconst 1, 1) := by decide +kernel
theorem dX6_bleached_21 : decode cX6_bleached 21 = .ok (.iaload, 1) := by decide +kernel
theorem dX6_bleached_22 : decode cX6_bleached 22 = .ok (.iconst 1, 1) := by decide +kernel
theorem dX6_bleached_23 : decode cX6_bleached 23 = .ok (.isub, 1) := by decide +kernel
theorem dX6_bleached_24 : decode cX6_bleached 24 = .ok (.i2l, 1) := by decide +kernel
theorem dX6_bleached_25 : decode cX6_bleached 25 = .ok (.invokestatic 57, 3) := by decide +kernel
theorem dX6_bleached_28 : decode cX6_bleached 28 = .ok (.ifCond .ne 5, 3) := by decide +kernel
theorem dX6_bleached_31 : decode cX6_bleached 31 = .ok (.iconst (-1), 1) := by decide +kernel
theorem dX6_bleached_32 : decode cX6_bleached 32 = .ok (.ireturn, 1) := by decide +kernel
theorem dX6_bleached_33 : decode cX6_bleached 33 = .ok (.iload_n 2, 1) := by decide +kernel
theorem dX6_bleached_34 : decode cX6_bleached 34 = .ok (.i2l, 1) := by decide +kernel
theorem dX6_bleached_35 : decode cX6_bleached 35 = .ok (.lconst 0, 1) := by decide +kernel
theorem dX6_bleached_36 : decode cX6_bleached 36 = .ok (.ldc2_w 130, 3) := by decide +kernel
theorem dX6_bleached_39 : decode cX6_bleached 39 = .ok (.invokestatic 57, 3) := by decide +kernel
theorem dX6_bleached_42 : decode cX6_bleached 42 = .ok (.ifCond .eq 15, 3) := by decide +kernel
theorem dX6_bleached_45 : decode cX6_bleached 45 = .ok (.iload_n 3, 1) := by decide +kernel
theorem dX6_bleached_46 : decode cX6_bleached 46 = .ok (.i2l, 1) := by decide +kernel
theorem dX6_bleached_47 : decode cX6_bleached 47 = .ok (.lconst 0, 1) := by decide +kernel
theorem dX6_bleached_48 : decode cX6_bleached 48 = .ok (.ldc2_w 228, 3) := by decide +kernel
theorem dX6_bleached_51 : decode cX6_bleached 51 = .ok (.invokestatic 57, 3) := by decide +kernel
theorem dX6_bleached_54 : decode cX6_bleached 54 = .ok (.ifCond .ne 6, 3) := by decide +kernel
theorem dX6_bleached_57 : decode cX6_bleached 57 = .ok (.bipush (-2), 2) := by decide +kernel
theorem dX6_bleached_59 : decode cX6_bleached 59 = .ok (.ireturn, 1) := by decide +kernel
theorem dX6_bleached_60 : decode cX6_bleached 60 = .ok (.iconst 0, 1) := by decide +kernel
theorem dX6_bleached_61 : decode cX6_bleached 61 = .ok (.istore 6, 2) := by decide +kernel
theorem dX6_bleached_63 : decode cX6_bleached 63 = .ok (.iconst 0, 1) := by decide +kernel
theorem dX6_bleached_64 : decode cX6_bleached 64 = .ok (.istore 7, 2) := by decide +kernel
theorem dX6_bleached_66 : decode cX6_bleached 66 = .ok (.iload 7, 2) := by decide +kernel
theorem dX6_bleached_68 : decode cX6_bleached 68 = .ok (.iconst 1, 1) := by decide +kernel
theorem dX6_bleached_69 : decode cX6_bleached 69 = .ok (.iload 5, 2) := by decide +kernel
theorem dX6_bleached_71 : decode cX6_bleached 71 = .ok (.ishl, 1) := by decide +kernel
theorem dX6_bleached_72 : decode cX6_bleached 72 = .ok (.if_icmp .ge 119, 3) := by decide +kernel
theorem dX6_bleached_75 : decode cX6_bleached 75 = .ok (.aload_n 0, 1) := by decide +kernel
theorem dX6_bleached_76 : decode cX6_bleached 76 = .ok (.invokevirtual 179, 3) := by decide +kernel
theorem dX6_bleached_79 : decode cX6_bleached 79 = .ok (.iconst 0, 1) := by decide +kernel
theorem dX6_bleached_80 : decode cX6_bleached 80 = .ok (.istore 8, 2) := by decide +kernel
theorem dX6_bleached_82 : decode cX6_bleached 82 = .ok (.iload 8, 2) := by decide +kernel
theorem dX6_bleached_84 : decode cX6_bleached 84 = .ok (.iload 5, 2) := by decide +kernel
theorem dX6_bleached_86 : decode cX6_bleached 86 = .ok (.if_icmp .ge 49, 3) := by decide +kernel
theorem dX6_bleached_89 : decode cX6_bleached 89 = .ok (.iconst 2, 1) := by decide +kernel
theorem dX6_bleached_90 : decode cX6_bleached 90 = .ok (.iload 5, 2) := by decide +kernel
theorem dX6_bleached_92 : decode cX6_bleached 92 = .ok (.iload_n 1, 1) := by decide +kernel
theorem dX6_bleached_93 : decode cX6_bleached 93 = .ok (.imul, 1) := by decide +kernel
theorem dX6_bleached_94 : decode cX6_bleached 94 = .ok (.iadd, 1) := by decide +kernel
theorem dX6_bleached_95 : decode cX6_bleached 95 = .ok (.iload 8, 2) := by decide +kernel
theorem dX6_bleached_97 : decode cX6_bleached 97 = .ok (.iadd, 1) := by decide +kernel
theorem dX6_bleached_98 : decode cX6_bleached 98 = .ok (.istore 9, 2) := by decide +kernel
theorem dX6_bleached_100 : decode cX6_bleached 100 = .ok (.aload_n 0, 1) := by decide +kernel
theorem dX6_bleached_101 : decode cX6_bleached 101 = .ok (.getfield 19, 3) := by decide +kernel
theorem dX6_bleached_104 : decode cX6_bleached 104 = .ok (.iload 9, 2) := by decide +kernel
theorem dX6_bleached_106 : decode cX6_bleached 106 = .ok (.iload 7, 2) := by decide +kernel
theorem dX6_bleached_108 : decode cX6_bleached 108 = .ok (.iload 8, 2) := by decide +kernel
theorem dX6_bleached_110 : decode cX6_bleached 110 = .ok (.invokestatic 126, 3) := by decide +kernel
theorem dX6_bleached_113 : decode cX6_bleached 113 = .ok (.ifCond .eq 8, 3) := by decide +kernel
theorem dX6_bleached_116 : decode cX6_bleached 116 = .ok (.bipush 9, 2) := by decide +kernel
theorem dX6_bleached_118 : decode cX6_bleached 118 = .ok (.goto 10, 3) := by decide +kernel
theorem dX6_bleached_121 : decode cX6_bleached 121 = .ok (.aload_n 0, 1) := by decide +kernel
theorem dX6_bleached_122 : decode cX6_bleached 122 = .ok (.getfield 19, 3) := by decide +kernel
theorem dX6_bleached_125 : decode cX6_bleached 125 = .ok (.iload 9, 2) := by decide +kernel
theorem dX6_bleached_127 : decode cX6_bleached 127 = .ok (.iaload, 1) := by decide +kernel
theorem dX6_bleached_128 : decode cX6_bleached 128 = .ok (.iastore, 1) := by decide +kernel
theorem dX6_bleached_129 : decode cX6_bleached 129 = .ok (.iinc 8 1, 3) := by decide +kernel
theorem dX6_bleached_132 : decode cX6_bleached 132 = .ok (.goto (-50), 3) := by decide +kernel
theorem dX6_bleached_135 : decode cX6_bleached 135 = .ok (.iload 7, 2) := by decide +kernel
theorem dX6_bleached_137 : decode cX6_bleached 137 = .ok (.invokestatic 139, 3) := by decide +kernel
theorem dX6_bleached_140 : decode cX6_bleached 140 = .ok (.istore 8, 2) := by decide +kernel
theorem dX6_bleached_142 : decode cX6_bleached 142 = .ok (.iload 6, 2) := by decide +kernel
theorem dX6_bleached_144 : decode cX6_bleached 144 = .ok (.aload_n 0, 1) := by decide +kernel
theorem dX6_bleached_145 : decode cX6_bleached 145 = .ok (.aload_n 0, 1) := by decide +kernel
theorem dX6_bleached_146 : decode cX6_bleached 146 = .ok (.getfield 19, 3) := by decide +kernel
theorem dX6_bleached_149 : decode cX6_bleached 149 = .ok (.invokevirtual 132, 3) := by decide +kernel
theorem dX6_bleached_152 : decode cX6_bleached 152 = .ok (.invokestatic 139, 3) := by decide +kernel
theorem dX6_bleached_155 : decode cX6_bleached 155 = .ok (.iload_n 2, 1) := by decide +kernel
theorem dX6_bleached_156 : decode cX6_bleached 156 = .ok (.if_icmp .lt 25, 3) := by decide +kernel
theorem dX6_bleached_159 : decode cX6_bleached 159 = .ok (.iload_n 3, 1) := by decide +kernel
theorem dX6_bleached_160 : decode cX6_bleached 160 = .ok (.iload 8, 2) := by decide +kernel
theorem dX6_bleached_162 : decode cX6_bleached 162 = .ok (.invokestatic 230, 3) := by decide +kernel
theorem dX6_bleached_165 : decode cX6_bleached 165 = .ok (.bipush 10, 2) := by decide +kernel
theorem dX6_bleached_167 : decode cX6_bleached 167 = .ok (.iload_n 3, 1) := by decide +kernel
theorem dX6_bleached_168 : decode cX6_bleached 168 = .ok (.isub, 1) := by decide +kernel
theorem dX6_bleached_169 : decode cX6_bleached 169 = .ok (.iload 5, 2) := by decide +kernel
theorem dX6_bleached_171 : decode cX6_bleached 171 = .ok (.iload 8, 2) := by decide +kernel
theorem dX6_bleached_173 : decode cX6_bleached 173 = .ok (.isub, 1) := by decide +kernel
theorem dX6_bleached_174 : decode cX6_bleached 174 = .ok (.invokestatic 230, 3) := by decide +kernel
theorem dX6_bleached_177 : decode cX6_bleached 177 = .ok (.imul, 1) := by decide +kernel
theorem dX6_bleached_178 : decode cX6_bleached 178 = .ok (.goto 4, 3) := by decide +kernel
theorem dX6_bleached_181 : decode cX6_bleached 181 = .ok (.iconst 0, 1) := by decide +kernel
theorem dX6_bleached_182 : decode cX6_bleached 182 = .ok (.iadd, 1) := by decide +kernel
theorem dX6_bleached_183 : decode cX6_bleached 183 = .ok (.istore 6, 2) := by decide +kernel
theorem dX6_bleached_185 : decode cX6_bleached 185 = .ok (.iinc 7 1, 3) := by decide +kernel
theorem dX6_bleached_188 : decode cX6_bleached 188 = .ok (.goto (-122), 3) := by decide +kernel
theorem dX6_bleached_191 : decode cX6_bleached 191 = .ok (.iload 6, 2) := by decide +kernel
theorem dX6_bleached_193 : decode cX6_bleached 193 = .ok (.bipush 10, 2) := by decide +kernel
theorem dX6_bleached_195 : decode cX6_bleached 195 = .ok (.iload 5, 2) := by decide +kernel
theorem dX6_bleached_197 : decode cX6_bleached 197 = .ok (.invokestatic 230, 3) := by decide +kernel
theorem dX6_bleached_200 : decode cX6_bleached 200 = .ok (.iload 4, 2) := by decide +kernel
theorem dX6_bleached_202 : decode cX6_bleached 202 = .ok (.invokestatic 122, 3) := by decide +kernel
theorem dX6_bleached_205 : decode cX6_bleached 205 = .ok (.ireturn, 1) := by decide +kernel
theorem dX6_seed_0 : decode cX6_seed 0 = .ok (.aload_n 0, 1) := by decide +kernel
theorem dX6_seed_1 : decode cX6_seed 1 = .ok (.iconst 0, 1) := by decide +kernel
theorem dX6_seed_2 : decode cX6_seed 2 = .ok (.putfield 45, 3) := by decide +kernel
theorem dX6_seed_5 : decode cX6_seed 5 = .ok (.aload_n 0, 1) := by decide +kernel
theorem dX6_seed_6 : decode cX6_seed 6 = .ok (.getfield 233, 3) := by decide +kernel
theorem dX6_seed_9 : decode cX6_seed 9 = .ok (.lstore_n 3, 1) := by decide +kernel
theorem dX6_seed_10 : decode cX6_seed 10 = .ok (.aload_n 0, 1) := by decide +kernel
theorem dX6_seed_11 : decode cX6_seed 11 = .ok (.lload_n 1, 1) := by decide +kernel
theorem dX6_seed_12 : decode cX6_seed 12 = .ok (.putfield 233, 3) := by decide +kernel
theorem dX6_seed_15 : decode cX6_seed 15 = .ok (.lload_n 3, 1) := by decide +kernel
theorem dX6_seed_16 : decode cX6_seed 16 = .ok (.lreturn, 1) := by decide +kernel
theorem dX6_drawn_0 : decode cX6_drawn 0 = .ok (.aload_n 0, 1) := by decide +kernel
theorem dX6_drawn_1 : decode cX6_drawn 1 = .ok (.iconst 0, 1) := by decide +kernel
theorem dX6_drawn_2 : decode cX6_drawn 2 = .ok (.putfield 45, 3) := by decide +kernel
theorem dX6_drawn_5 : decode cX6_drawn 5 = .ok (.iload_n 1, 1) := by decide +kernel
theorem dX6_drawn_6 : decode cX6_drawn 6 = .ok (.i2l, 1) := by decide +kernel
theorem dX6_drawn_7 : decode cX6_drawn 7 = .ok (.lconst 1, 1) := by decide +kernel
theorem dX6_drawn_8 : decode cX6_drawn 8 = .ok (.ldc2_w 237, 3) := by decide +kernel
theorem dX6_drawn_11 : decode cX6_drawn 11 = .ok (.invokestatic 57, 3) := by decide +kernel
theorem dX6_drawn_14 : decode cX6_drawn 14 = .ok (.ifCond .ne 6, 3) := by decide +kernel
theorem dX6_drawn_17 : decode cX6_drawn 17 = .ok (.bipush (-2), 2) := by decide +kernel
theorem dX6_drawn_19 : decode cX6_drawn 19 = .ok (.ireturn, 1) := by decide +kernel
theorem dX6_drawn_20 : decode cX6_drawn 20 = .ok (.aload_n 0, 1) := by decide +kernel
theorem dX6_drawn_21 : decode cX6_drawn 21 = .ok (.invokevirtual 179, 3) := by decide +kernel
theorem dX6_drawn_24 : decode cX6_drawn 24 = .ok (.iconst 0, 1) := by decide +kernel
theorem dX6_drawn_25 : decode cX6_drawn 25 = .ok (.istore_n 2, 1) := by decide +kernel
theorem dX6_drawn_26 : decode cX6_drawn 26 = .ok (.iconst 0, 1) := by decide +kernel
theorem dX6_drawn_27 : decode cX6_drawn 27 = .ok (.istore_n 3, 1) := by decide +kernel
theorem dX6_drawn_28 : decode cX6_drawn 28 = .ok (.iload_n 3, 1) := by decide +kernel
theorem dX6_drawn_29 : decode cX6_drawn 29 = .ok (.iload_n 1, 1) := by decide +kernel
theorem dX6_drawn_30 : decode cX6_drawn 30 = .ok (.if_icmp .ge 74, 3) := by decide +kernel
theorem dX6_drawn_33 : decode cX6_drawn 33 = .ok (.aload_n 0, 1) := by decide +kernel
theorem dX6_drawn_34 : decode cX6_drawn 34 = .ok (.aload_n 0, 1) := by decide +kernel
theorem dX6_drawn_35 : decode cX6_drawn 35 = .ok (.getfield 233, 3) := by decide +kernel
theorem dX6_drawn_38 : decode cX6_drawn 38 = .ok (.ldc2_w 239, 3) := by decide +kernel
theorem dX6_drawn_41 : decode cX6_drawn 41 = .ok (.lmul, 1) := by decide +kernel
theorem dX6_drawn_42 : decode cX6_drawn 42 = .ok (.ldc2_w 241, 3) := by decide +kernel
theorem dX6_drawn_45 : decode cX6_drawn 45 = .ok (.ladd, 1) := by decide +kernel
theorem dX6_drawn_46 : decode cX6_drawn 46 = .ok (.putfield 233, 3) := by decide +kernel
theorem dX6_drawn_49 : decode cX6_drawn 49 = .ok (.aload_n 0, 1) := by decide +kernel
theorem dX6_drawn_50 : decode cX6_drawn 50 = .ok (.getfield 233, 3) := by decide +kernel
theorem dX6_drawn_53 : decode cX6_drawn 53 = .ok (.bipush 33, 2) := by decide +kernel
theorem dX6_drawn_55 : decode cX6_drawn 55 = .ok (.lushr, 1) := by decide +kernel
theorem dX6_drawn_56 : decode cX6_drawn 56 = .ok (.l2i, 1) := by decide +kernel
theorem dX6_drawn_57 : decode cX6_drawn 57 = .ok (.istore 4, 2) := by decide +kernel
theorem dX6_drawn_59 : decode cX6_drawn 59 = .ok (.aload_n 0, 1) := by decide +kernel
theorem dX6_drawn_60 : decode cX6_drawn 60 = .ok (.getfield 19, 3) := by decide +kernel
theorem dX6_drawn_63 : decode cX6_drawn 63 = .ok (.iconst 2, 1) := by decide +kernel
theorem dX6_drawn_64 : decode cX6_drawn 64 = .ok (.iload 4, 2) := by decide +kernel
theorem dX6_drawn_66 : decode cX6_drawn 66 = .ok (.aload_n 0, 1) := by decide +kernel
theorem dX6_drawn_67 : decode cX6_drawn 67 = .ok (.getfield 19, 3) := by decide +kernel
theorem dX6_drawn_70 : decode cX6_drawn 70 = .ok (.invokestatic 53, 3) := by decide +kernel
theorem dX6_drawn_73 : decode cX6_drawn 73 = .ok (.irem, 1) := by decide +kernel
theorem dX6_drawn_74 : decode cX6_drawn 74 = .ok (.iadd, 1) := by decide +kernel
theorem dX6_drawn_75 : decode cX6_drawn 75 = .ok (.iload 4, 2) := by decide +kernel
theorem dX6_drawn_77 : decode cX6_drawn 77 = .ok (.bipush 32, 2) := by decide +kernel
theorem dX6_drawn_79 : decode cX6_drawn 79 = .ok (.idiv, 1) := by decide +kernel
theorem dX6_drawn_80 : decode cX6_drawn 80 = .ok (.bipush 10, 2) := by decide +kernel
theorem dX6_drawn_82 : decode cX6_drawn 82 = .ok (.irem, 1) := by decide +kernel
theorem dX6_drawn_83 : decode cX6_drawn 83 = .ok (.iastore, 1) := by decide +kernel
theorem dX6_drawn_84 : decode cX6_drawn 84 = .ok (.iload_n 2, 1) := by decide +kernel
theorem dX6_drawn_85 : decode cX6_drawn 85 = .ok (.aload_n 0, 1) := by decide +kernel
theorem dX6_drawn_86 : decode cX6_drawn 86 = .ok (.aload_n 0, 1) := by decide +kernel
theorem dX6_drawn_87 : decode cX6_drawn 87 = .ok (.getfield 19, 3) := by decide +kernel
theorem dX6_drawn_90 : decode cX6_drawn 90 = .ok (.invokevirtual 132, 3) := by decide +kernel
theorem dX6_drawn_93 : decode cX6_drawn 93 = .ok (.invokestatic 139, 3) := by decide +kernel
theorem dX6_drawn_96 : decode cX6_drawn 96 = .ok (.iadd, 1) := by decide +kernel
theorem dX6_drawn_97 : decode cX6_drawn 97 = .ok (.istore_n 2, 1) := by decide +kernel
theorem dX6_drawn_98 : decode cX6_drawn 98 = .ok (.iinc 3 1, 3) := by decide +kernel
theorem dX6_drawn_101 : decode cX6_drawn 101 = .ok (.goto (-73), 3) := by decide +kernel
theorem dX6_drawn_104 : decode cX6_drawn 104 = .ok (.iload_n 2, 1) := by decide +kernel
theorem dX6_drawn_105 : decode cX6_drawn 105 = .ok (.ireturn, 1) := by decide +kernel
theorem dX6_keep_0 : decode cX6_keep 0 = .ok (.aload_n 0, 1) := by decide +kernel
theorem dX6_keep_1 : decode cX6_keep 1 = .ok (.iconst 0, 1) := by decide +kernel
theorem dX6_keep_2 : decode cX6_keep 2 = .ok (.putfield 45, 3) := by decide +kernel
theorem dX6_keep_5 : decode cX6_keep 5 = .ok (.iload_n 1, 1) := by decide +kernel
theorem dX6_keep_6 : decode cX6_keep 6 = .ok (.i2l, 1) := by decide +kernel
theorem dX6_keep_7 : decode cX6_keep 7 = .ok (.lconst 0, 1) := by decide +kernel
theorem dX6_keep_8 : decode cX6_keep 8 = .ok (.lconst 1, 1) := by decide +kernel
theorem dX6_keep_9 : decode cX6_keep 9 = .ok (.invokestatic 57, 3) := by decide +kernel
theorem dX6_keep_12 : decode cX6_keep 12 = .ok (.ifCond .ne 5, 3) := by decide +kernel
theorem dX6_keep_15 : decode cX6_keep 15 = .ok (.iconst (-1), 1) := by decide +kernel
theorem dX6_keep_16 : decode cX6_keep 16 = .ok (.ireturn, 1) := by decide +kernel
theorem dX6_keep_17 : decode cX6_keep 17 = .ok (.aload_n 0, 1) := by decide +kernel
theorem dX6_keep_18 : decode cX6_keep 18 = .ok (.getfield 28, 3) := by decide +kernel
theorem dX6_keep_21 : decode cX6_keep 21 = .ok (.iload_n 1, 1) := by decide +kernel
theorem dX6_keep_22 : decode cX6_keep 22 = .ok (.iconst 1, 1) := by decide +kernel
theorem dX6_keep_23 : decode cX6_keep 23 = .ok (.bastore, 1) := by decide +kernel
theorem dX6_keep_24 : decode cX6_keep 24 = .ok (.iconst 0, 1) := by decide +kernel
theorem dX6_keep_25 : decode cX6_keep 25 = .ok (.istore_n 2, 1) := by decide +kernel
theorem dX6_keep_26 : decode cX6_keep 26 = .ok (.iload_n 2, 1) := by decide +kernel
theorem dX6_keep_27 : decode cX6_keep 27 = .ok (.bipush 67, 2) := by decide +kernel
theorem dX6_keep_29 : decode cX6_keep 29 = .ok (.if_icmp .ge 26, 3) := by decide +kernel
theorem dX6_keep_32 : decode cX6_keep 32 = .ok (.aload_n 0, 1) := by decide +kernel
theorem dX6_keep_33 : decode cX6_keep 33 = .ok (.getfield 25, 3) := by decide +kernel
theorem dX6_keep_36 : decode cX6_keep 36 = .ok (.bipush 67, 2) := by decide +kernel
theorem dX6_keep_38 : decode cX6_keep 38 = .ok (.iload_n 1, 1) := by decide +kernel
theorem dX6_keep_39 : decode cX6_keep 39 = .ok (.imul, 1) := by decide +kernel
theorem dX6_keep_40 : decode cX6_keep 40 = .ok (.iload_n 2, 1) := by decide +kernel
theorem dX6_keep_41 : decode cX6_keep 41 = .ok (.iadd, 1) := by decide +kernel
theorem dX6_keep_42 : decode cX6_keep 42 = .ok (.aload_n 0, 1) := by decide +kernel
theorem dX6_keep_43 : decode cX6_keep 43 = .ok (.getfield 16, 3) := by decide +kernel
theorem dX6_keep_46 : decode cX6_keep 46 = .ok (.iload_n 2, 1) := by decide +kernel
theorem dX6_keep_47 : decode cX6_keep 47 = .ok (.iaload, 1) := by decide +kernel
theorem dX6_keep_48 : decode cX6_keep 48 = .ok (.iastore, 1) := by decide +kernel
theorem dX6_keep_49 : decode cX6_keep 49 = .ok (.iinc 2 1, 3) := by decide +kernel
theorem dX6_keep_52 : decode cX6_keep 52 = .ok (.goto (-26), 3) := by decide +kernel
theorem dX6_keep_55 : decode cX6_keep 55 = .ok (.aload_n 0, 1) := by decide +kernel
theorem dX6_keep_56 : decode cX6_keep 56 = .ok (.aload_n 0, 1) := by decide +kernel
theorem dX6_keep_57 : decode cX6_keep 57 = .ok (.getfield 16, 3) := by decide +kernel
theorem dX6_keep_60 : decode cX6_keep 60 = .ok (.invokevirtual 132, 3) := by decide +kernel
theorem dX6_keep_63 : decode cX6_keep 63 = .ok (.invokestatic 139, 3) := by decide +kernel
theorem dX6_keep_66 : decode cX6_keep 66 = .ok (.ireturn, 1) := by decide +kernel
theorem dX6_again_0 : decode cX6_again 0 = .ok (.aload_n 0, 1) := by decide +kernel
theorem dX6_again_1 : decode cX6_again 1 = .ok (.iconst 0, 1) := by decide +kernel
theorem dX6_again_2 : decode cX6_again 2 = .ok (.putfield 45, 3) := by decide +kernel
theorem dX6_again_5 : decode cX6_again 5 = .ok (.iload_n 1, 1) := by decide +kernel
theorem dX6_again_6 : decode cX6_again 6 = .ok (.i2l, 1) := by decide +kernel
theorem dX6_again_7 : decode cX6_again 7 = .ok (.lconst 0, 1) := by decide +kernel
theorem dX6_again_8 : decode cX6_again 8 = .ok (.lconst 1, 1) := by decide +kernel
theorem dX6_again_9 : decode cX6_again 9 = .ok (.invokestatic 57, 3) := by decide +kernel
theorem dX6_again_12 : decode cX6_again 12 = .ok (.ifCond .ne 5, 3) := by decide +kernel
theorem dX6_again_15 : decode cX6_again 15 = .ok (.iconst (-1), 1) := by decide +kernel
theorem dX6_again_16 : decode cX6_again 16 = .ok (.ireturn, 1) := by decide +kernel
theorem dX6_again_17 : decode cX6_again 17 = .ok (.aload_n 0, 1) := by decide +kernel
theorem dX6_again_18 : decode cX6_again 18 = .ok (.getfield 28, 3) := by decide +kernel
theorem dX6_again_21 : decode cX6_again 21 = .ok (.iload_n 1, 1) := by decide +kernel
theorem dX6_again_22 : decode cX6_again 22 = .ok (.baload, 1) := by decide +kernel
theorem dX6_again_23 : decode cX6_again 23 = .ok (.ifCond .ne 6, 3) := by decide +kernel
theorem dX6_again_26 : decode cX6_again 26 = .ok (.bipush (-3), 2) := by decide +kernel
theorem dX6_again_28 : decode cX6_again 28 = .ok (.ireturn, 1) := by decide +kernel
theorem dX6_again_29 : decode cX6_again 29 = .ok (.iconst 0, 1) := by decide +kernel
theorem dX6_again_30 : decode cX6_again 30 = .ok (.istore_n 2, 1) := by decide +kernel
theorem dX6_again_31 : decode cX6_again 31 = .ok (.iload_n 2, 1) := by decide +kernel
theorem dX6_again_32 : decode cX6_again 32 = .ok (.bipush 67, 2) := by decide +kernel
theorem dX6_again_34 : decode cX6_again 34 = .ok (.if_icmp .ge 26, 3) := by decide +kernel
theorem dX6_again_37 : decode cX6_again 37 = .ok (.aload_n 0, 1) := by decide +kernel
theorem dX6_again_38 : decode cX6_again 38 = .ok (.getfield 16, 3) := by decide +kernel
theorem dX6_again_41 : decode cX6_again 41 = .ok (.iload_n 2, 1) := by decide +kernel
theorem dX6_again_42 : decode cX6_again 42 = .ok (.aload_n 0, 1) := by decide +kernel
theorem dX6_again_43 : decode cX6_again 43 = .ok (.getfield 25, 3) := by decide +kernel
theorem dX6_again_46 : decode cX6_again 46 = .ok (.bipush 67, 2) := by decide +kernel
theorem dX6_again_48 : decode cX6_again 48 = .ok (.iload_n 1, 1) := by decide +kernel
theorem dX6_again_49 : decode cX6_again 49 = .ok (.imul, 1) := by decide +kernel
theorem dX6_again_50 : decode cX6_again 50 = .ok (.iload_n 2, 1) := by decide +kernel
theorem dX6_again_51 : decode cX6_again 51 = .ok (.iadd, 1) := by decide +kernel
theorem dX6_again_52 : decode cX6_again 52 = .ok (.iaload, 1) := by decide +kernel
theorem dX6_again_53 : decode cX6_again 53 = .ok (.iastore, 1) := by decide +kernel
theorem dX6_again_54 : decode cX6_again 54 = .ok (.iinc 2 1, 3) := by decide +kernel
theorem dX6_again_57 : decode cX6_again 57 = .ok (.goto (-26), 3) := by decide +kernel
theorem dX6_again_60 : decode cX6_again 60 = .ok (.aload_n 0, 1) := by decide +kernel
theorem dX6_again_61 : decode cX6_again 61 = .ok (.iconst 0, 1) := by decide +kernel
theorem dX6_again_62 : decode cX6_again 62 = .ok (.putfield 78, 3) := by decide +kernel
theorem dX6_again_65 : decode cX6_again 65 = .ok (.aload_n 0, 1) := by decide +kernel
theorem dX6_again_66 : decode cX6_again 66 = .ok (.aload_n 0, 1) := by decide +kernel
theorem dX6_again_67 : decode cX6_again 67 = .ok (.getfield 16, 3) := by decide +kernel
theorem dX6_again_70 : decode cX6_again 70 = .ok (.invokevirtual 132, 3) := by decide +kernel
theorem dX6_again_73 : decode cX6_again 73 = .ok (.invokestatic 139, 3) := by decide +kernel
theorem dX6_again_76 : decode cX6_again 76 = .ok (.ireturn, 1) := by decide +kernel
end
section
theorem dL_law_0 : decode cL_law 0 = .ok (.new 7, 3) := by decide +kernel
theorem dL_law_3 : decode cL_law 3 = .ok (.dup, 1) := by decide +kernel
theorem dL_law_4 : decode cL_law 4 = .ok (.invokespecial 9, 3) := by decide +kernel
theorem dL_law_7 : decode cL_law 7 = .ok (.astore_n 1, 1) := by decide +kernel
theorem dL_law_8 : decode cL_law 8 = .ok (.new 10, 3) := by decide +kernel
theorem dL_law_11 : decode cL_law 11 = .ok (.dup, 1) := by decide +kernel
theorem dL_law_12 : decode cL_law 12 = .ok (.invokespecial 12, 3) := by decide +kernel
theorem dL_law_15 : decode cL_law 15 = .ok (.astore_n 2, 1) := by decide +kernel
theorem dL_law_16 : decode cL_law 16 = .ok (.iconst 0, 1) := by decide +kernel
theorem dL_law_17 : decode cL_law 17 = .ok (.istore_n 3, 1) := by decide +kernel
theorem dL_law_18 : decode cL_law 18 = .ok (.iload_n 3, 1) := by decide +kernel
theorem dL_law_19 : decode cL_law 19 = .ok (.aload_n 0, 1) := by decide +kernel
theorem dL_law_20 : decode cL_law 20 = .ok (.arraylength, 1) := by decide +kernel
theorem dL_law_21 : decode cL_law 21 = .ok (.iconst 5, 1) := by decide +kernel
theorem dL_law_22 : decode cL_law 22 = .ok (.isub, 1) := by decide +kernel
theorem dL_law_23 : decode cL_law 23 = .ok (.if_icmp .gt 1096, 3) := by decide +kernel
theorem dL_law_26 : decode cL_law 26 = .ok (.aload_n 0, 1) := by decide +kernel
theorem dL_law_27 : decode cL_law 27 = .ok (.iload_n 3, 1) := by decide +kernel
theorem dL_law_28 : decode cL_law 28 = .ok (.iaload, 1) := by decide +kernel
theorem dL_law_29 : decode cL_law 29 = .ok (.bipush 31, 2) := by decide +kernel
theorem dL_law_31 : decode cL_law 31 = .ok (.iand, 1) := by decide +kernel
theorem dL_law_32 : decode cL_law 32 = .ok (.tableswitch 1081 0 29 #[136, 159, 172, 185, 198, 221, 254, 277, 310, 369, 392, 415, 438, 481, 504, 547, 580, 613, 626, 685, 708, 771, 820, 853, 866, 889, 958, 1012, 1035, 1058], 136) := by decide +kernel
theorem dL_law_168 : decode cL_law 168 = .ok (.aload_n 1, 1) := by decide +kernel
theorem dL_law_169 : decode cL_law 169 = .ok (.aload_n 0, 1) := by decide +kernel
theorem dL_law_170 : decode cL_law 170 = .ok (.iload_n 3, 1) := by decide +kernel
theorem dL_law_171 : decode cL_law 171 = .ok (.iconst 1, 1) := by decide +kernel
theorem dL_law_172 : decode cL_law 172 = .ok (.iadd, 1) := by decide +kernel
theorem dL_law_173 : decode cL_law 173 = .ok (.iaload, 1) := by decide +kernel
theorem dL_law_174 : decode cL_law 174 = .ok (.invokevirtual 13, 3) := by decide +kernel
theorem dL_law_177 : decode cL_law 177 = .ok (.aload_n 2, 1) := by decide +kernel
theorem dL_law_178 : decode cL_law 178 = .ok (.aload_n 0, 1) := by decide +kernel
theorem dL_law_179 : decode cL_law 179 = .ok (.iload_n 3, 1) := by decide +kernel
theorem dL_law_180 : decode cL_law 180 = .ok (.iconst 1, 1) := by decide +kernel
theorem dL_law_181 : decode cL_law 181 = .ok (.iadd, 1) := by decide +kernel
theorem dL_law_182 : decode cL_law 182 = .ok (.iaload, 1) := by decide +kernel
theorem dL_law_183 : decode cL_law 183 = .ok (.invokevirtual 17, 3) := by decide +kernel
theorem dL_law_186 : decode cL_law 186 = .ok (.if_icmp .eq 927, 3) := by decide +kernel
theorem dL_law_189 : decode cL_law 189 = .ok (.iconst 0, 1) := by decide +kernel
theorem dL_law_190 : decode cL_law 190 = .ok (.ireturn, 1) := by decide +kernel
theorem dL_law_191 : decode cL_law 191 = .ok (.aload_n 1, 1) := by decide +kernel
theorem dL_law_192 : decode cL_law 192 = .ok (.invokevirtual 18, 3) := by decide +kernel
theorem dL_law_195 : decode cL_law 195 = .ok (.aload_n 2, 1) := by decide +kernel
theorem dL_law_196 : decode cL_law 196 = .ok (.invokevirtual 22, 3) := by decide +kernel
theorem dL_law_199 : decode cL_law 199 = .ok (.if_icmp .eq 914, 3) := by decide +kernel
theorem dL_law_202 : decode cL_law 202 = .ok (.iconst 0, 1) := by decide +kernel
theorem dL_law_203 : decode cL_law 203 = .ok (.ireturn, 1) := by decide +kernel
theorem dL_law_204 : decode cL_law 204 = .ok (.aload_n 1, 1) := by decide +kernel
theorem dL_law_205 : decode cL_law 205 = .ok (.invokevirtual 23, 3) := by decide +kernel
theorem dL_law_208 : decode cL_law 208 = .ok (.aload_n 2, 1) := by decide +kernel
theorem dL_law_209 : decode cL_law 209 = .ok (.invokevirtual 26, 3) := by decide +kernel
theorem dL_law_212 : decode cL_law 212 = .ok (.if_icmp .eq 901, 3) := by decide +kernel
theorem dL_law_215 : decode cL_law 215 = .ok (.iconst 0, 1) := by decide +kernel
theorem dL_law_216 : decode cL_law 216 = .ok (.ireturn, 1) := by decide +kernel
theorem dL_law_217 : decode cL_law 217 = .ok (.aload_n 1, 1) := by decide +kernel
theorem dL_law_218 : decode cL_law 218 = .ok (.invokevirtual 27, 3) := by decide +kernel
theorem dL_law_221 : decode cL_law 221 = .ok (.aload_n 2, 1) := by decide +kernel
theorem dL_law_222 : decode cL_law 222 = .ok (.invokevirtual 30, 3) := by decide +kernel
theorem dL_law_225 : decode cL_law 225 = .ok (.if_icmp .eq 888, 3) := by decide +kernel
theorem dL_law_228 : decode cL_law 228 = .ok (.iconst 0, 1) := by decide +kernel
theorem dL_law_229 : decode cL_law 229 = .ok (.ireturn, 1) := by decide +kernel
theorem dL_law_230 : decode cL_law 230 = .ok (.aload_n 1, 1) := by decide +kernel
theorem dL_law_231 : decode cL_law 231 = .ok (.aload_n 0, 1) := by decide +kernel
theorem dL_law_232 : decode cL_law 232 = .ok (.iload_n 3, 1) := by decide +kernel
theorem dL_law_233 : decode cL_law 233 = .ok (.iconst 1, 1) := by decide +kernel
theorem dL_law_234 : decode cL_law 234 = .ok (.iadd, 1) := by decide +kernel
theorem dL_law_235 : decode cL_law 235 = .ok (.iaload, 1) := by decide +kernel
theorem dL_law_236 : decode cL_law 236 = .ok (.invokevirtual 31, 3) := by decide +kernel
theorem dL_law_239 : decode cL_law 239 = .ok (.aload_n 2, 1) := by decide +kernel
theorem dL_law_240 : decode cL_law 240 = .ok (.aload_n 0, 1) := by decide +kernel
theorem dL_law_241 : decode cL_law 241 = .ok (.iload_n 3, 1) := by decide +kernel
theorem dL_law_242 : decode cL_law 242 = .ok (.iconst 1, 1) := by decide +kernel
theorem dL_law_243 : decode cL_law 243 = .ok (.iadd, 1) := by decide +kernel
theorem dL_law_244 : decode cL_law 244 = .ok (.iaload, 1) := by decide +kernel
theorem dL_law_245 : decode cL_law 245 = .ok (.invokevirtual 34, 3) := by decide +kernel
theorem dL_law_248 : decode cL_law 248 = .ok (.if_icmp .eq 865, 3) := by decide +kernel
theorem dL_law_251 : decode cL_law 251 = .ok (.iconst 0, 1) := by decide +kernel
theorem dL_law_252 : decode cL_law 252 = .ok (.ireturn, 1) := by decide +kernel
theorem dL_law_253 : decode cL_law 253 = .ok (.aload_n 1, 1) := by decide +kernel
theorem dL_law_254 : decode cL_law 254 = .ok (.aload_n 0, 1) := by decide +kernel
theorem dL_law_255 : decode cL_law 255 = .ok (.iload_n 3, 1) := by decide +kernel
theorem dL_law_256 : decode cL_law 256 = .ok (.iconst 1, 1) := by decide +kernel
theorem dL_law_257 : decode cL_law 257 = .ok (.iadd, 1) := by decide +kernel
theorem dL_law_258 : decode cL_law 258 = .ok (.iaload, 1) := by decide +kernel
theorem dL_law_259 : decode cL_law 259 = .ok (.aload_n 0, 1) := by decide +kernel
theorem dL_law_260 : decode cL_law 260 = .ok (.iload_n 3, 1) := by decide +kernel
theorem dL_law_261 : decode cL_law 261 = .ok (.iconst 2, 1) := by decide +kernel
theorem dL_law_262 : decode cL_law 262 = .ok (.iadd, 1) := by decide +kernel
theorem dL_law_263 : decode cL_law 263 = .ok (.iaload, 1) := by decide +kernel
theorem dL_law_264 : decode cL_law 264 = .ok (.invokevirtual 35, 3) := by decide +kernel
theorem dL_law_267 : decode cL_law 267 = .ok (.aload_n 2, 1) := by decide +kernel
theorem dL_law_268 : decode cL_law 268 = .ok (.aload_n 0, 1) := by decide +kernel
theorem dL_law_269 : decode cL_law 269 = .ok (.iload_n 3, 1) := by decide +kernel
theorem dL_law_270 : decode cL_law 270 = .ok (.iconst 1, 1) := by decide +kernel
theorem dL_law_271 : decode cL_law 271 = .ok (.iadd, 1) := by decide +kernel
theorem dL_law_272 : decode cL_law 272 = .ok (.iaload, 1) := by decide +kernel
theorem dL_law_273 : decode cL_law 273 = .ok (.aload_n 0, 1) := by decide +kernel
theorem dL_law_274 : decode cL_law 274 = .ok (.iload_n 3, 1) := by decide +kernel
theorem dL_law_275 : decode cL_law 275 = .ok (.iconst 2, 1) := by decide +kernel
theorem dL_law_276 : decode cL_law 276 = .ok (.iadd, 1) := by decide +kernel
theorem dL_law_277 : decode cL_law 277 = .ok (.iaload, 1) := by decide +kernel
theorem dL_law_278 : decode cL_law 278 = .ok (.invokevirtual 39, 3) := by decide +kernel
theorem dL_law_281 : decode cL_law 281 = .ok (.if_icmp .eq 832, 3) := by decide +kernel
theorem dL_law_284 : decode cL_law 284 = .ok (.iconst 0, 1) := by decide +kernel
theorem dL_law_285 : decode cL_law 285 = .ok (.ireturn, 1) := by decide +kernel
theorem dL_law_286 : decode cL_law 286 = .ok (.aload_n 1, 1) := by decide +kernel
theorem dL_law_287 : decode cL_law 287 = .ok (.aload_n 0, 1) := by decide +kernel
theorem dL_law_288 : decode cL_law 288 = .ok (.iload_n 3, 1) := by decide +kernel
theorem dL_law_289 : decode cL_law 289 = .ok (.iconst 1, 1) := by decide +kernel
theorem dL_law_290 : decode cL_law 290 = .ok (.iadd, 1) := by decide +kernel
theorem dL_law_291 : decode cL_law 291 = .ok (.iaload, 1) := by decide +kernel
theorem dL_law_292 : decode cL_law 292 = .ok (.invokevirtual 40, 3) := by decide +kernel
theorem dL_law_295 : decode cL_law 295 = .ok (.aload_n 2, 1) := by decide +kernel
theorem dL_law_296 : decode cL_law 296 = .ok (.aload_n 0, 1) := by decide +kernel
theorem dL_law_297 : decode cL_law 297 = .ok (.iload_n 3, 1) := by decide +kernel
theorem dL_law_298 : decode cL_law 298 = .ok (.iconst 1, 1) := by decide +kernel
theorem dL_law_299 : decode cL_law 299 = .ok (.iadd, 1) := by decide +kernel
theorem dL_law_300 : decode cL_law 300 = .ok (.iaload, 1) := by decide +kernel
theorem dL_law_301 : decode cL_law 301 = .ok (.invokevirtual 43, 3) := by decide +kernel
theorem dL_law_304 : decode cL_law 304 = .ok (.if_icmp .eq 809, 3) := by decide +kernel
theorem dL_law_307 : decode cL_law 307 = .ok (.iconst 0, 1) := by decide +kernel
theorem dL_law_308 : decode cL_law 308 = .ok (.ireturn, 1) := by decide +kernel
theorem dL_law_309 : decode cL_law 309 = .ok (.aload_n 1, 1) := by decide +kernel
theorem dL_law_310 : decode cL_law 310 = .ok (.aload_n 0, 1) := by decide +kernel
theorem dL_law_311 : decode cL_law 311 = .ok (.iload_n 3, 1) := by decide +kernel
theorem dL_law_312 : decode cL_law 312 = .ok (.iconst 1, 1) := by decide +kernel
theorem dL_law_313 : decode cL_law 313 = .ok (.iadd, 1) := by decide +kernel
theorem dL_law_314 : decode cL_law 314 = .ok (.iaload, 1) := by decide +kernel
theorem dL_law_315 : decode cL_law 315 = .ok (.aload_n 0, 1) := by decide +kernel
theorem dL_law_316 : decode cL_law 316 = .ok (.iload_n 3, 1) := by decide +kernel
theorem dL_law_317 : decode cL_law 317 = .ok (.iconst 2, 1) := by decide +kernel
theorem dL_law_318 : decode cL_law 318 = .ok (.iadd, 1) := by decide +kernel
theorem dL_law_319 : decode cL_law 319 = .ok (.iaload, 1) := by decide +kernel
theorem dL_law_320 : decode cL_law 320 = .ok (.invokevirtual 44, 3) := by decide +kernel
theorem dL_law_323 : decode cL_law 323 = .ok (.aload_n 2, 1) := by decide +kernel
theorem dL_law_324 : decode cL_law 324 = .ok (.aload_n 0, 1) := by decide +kernel
theorem dL_law_325 : decode cL_law 325 = .ok (.iload_n 3, 1) := by decide +kernel
theorem dL_law_326 : decode cL_law 326 = .ok (.iconst 1, 1) := by decide +kernel
theorem dL_law_327 : decode cL_law 327 = .ok (.iadd, 1) := by decide +kernel
theorem dL_law_328 : decode cL_law 328 = .ok (.iaload, 1) := by decide +kernel
theorem dL_law_329 : decode cL_law 329 = .ok (.aload_n 0, 1) := by decide +kernel
theorem dL_law_330 : decode cL_law 330 = .ok (.iload_n 3, 1) := by decide +kernel
theorem dL_law_331 : decode cL_law 331 = .ok (.iconst 2, 1) := by decide +kernel
theorem dL_law_332 : decode cL_law 332 = .ok (.iadd, 1) := by decide +kernel
theorem dL_law_333 : decode cL_law 333 = .ok (.iaload, 1) := by decide +kernel
theorem dL_law_334 : decode cL_law 334 = .ok (.invokevirtual 47, 3) := by decide +kernel
theorem dL_law_337 : decode cL_law 337 = .ok (.if_icmp .eq 776, 3) := by decide +kernel
theorem dL_law_340 : decode cL_law 340 = .ok (.iconst 0, 1) := by decide +kernel
theorem dL_law_341 : decode cL_law 341 = .ok (.ireturn, 1) := by decide +kernel
theorem dL_law_342 : decode cL_law 342 = .ok (.aload_n 1, 1) := by decide +kernel
theorem dL_law_343 : decode cL_law 343 = .ok (.aload_n 0, 1) := by decide +kernel
theorem dL_law_344 : decode cL_law 344 = .ok (.iload_n 3, 1) := by decide +kernel
theorem dL_law_345 : decode cL_law 345 = .ok (.iconst 1, 1) := by decide +kernel
theorem dL_law_346 : decode cL_law 346 = .ok (.iadd, 1) := by decide +kernel
theorem dL_law_347 : decode cL_law 347 = .ok (.iaload, 1) := by decide +kernel
theorem dL_law_348 : decode cL_law 348 = .ok (.aload_n 0, 1) := by decide +kernel
theorem dL_law_349 : decode cL_law 349 = .ok (.iload_n 3, 1) := by decide +kernel
theorem dL_law_350 : decode cL_law 350 = .ok (.iconst 2, 1) := by decide +kernel
theorem dL_law_351 : decode cL_law 351 = .ok (.iadd, 1) := by decide +kernel
theorem dL_law_352 : decode cL_law 352 = .ok (.iaload, 1) := by decide +kernel
theorem dL_law_353 : decode cL_law 353 = .ok (.aload_n 0, 1) := by decide +kernel
theorem dL_law_354 : decode cL_law 354 = .ok (.iload_n 3, 1) := by decide +kernel
theorem dL_law_355 : decode cL_law 355 = .ok (.iconst 3, 1) := by decide +kernel
theorem dL_law_356 : decode cL_law 356 = .ok (.iadd, 1) := by decide +kernel
theorem dL_law_357 : decode cL_law 357 = .ok (.iaload, 1) := by decide +kernel
theorem dL_law_358 : decode cL_law 358 = .ok (.ifCond .eq 7, 3) := by decide +kernel
theorem dL_law_361 : decode cL_law 361 = .ok (.iconst 1, 1) := by decide +kernel
theorem dL_law_362 : decode cL_law 362 = .ok (.goto 4, 3) := by decide +kernel
theorem dL_law_365 : decode cL_law 365 = .ok (.iconst 0, 1) := by decide +kernel
theorem dL_law_366 : decode cL_law 366 = .ok (.invokevirtual 48, 3) := by decide +kernel
theorem dL_law_369 : decode cL_law 369 = .ok (.aload_n 2, 1) := by decide +kernel
theorem dL_law_370 : decode cL_law 370 = .ok (.aload_n 0, 1) := by decide +kernel
theorem dL_law_371 : decode cL_law 371 = .ok (.iload_n 3, 1) := by decide +kernel
theorem dL_law_372 : decode cL_law 372 = .ok (.iconst 1, 1) := by decide +kernel
theorem dL_law_373 : decode cL_law 373 = .ok (.iadd, 1) := by decide +kernel
theorem dL_law_374 : decode cL_law 374 = .ok (.iaload, 1) := by decide +kernel
theorem dL_law_375 : decode cL_law 375 = .ok (.aload_n 0, 1) := by decide +kernel
theorem dL_law_376 : decode cL_law 376 = .ok (.iload_n 3, 1) := by decide +kernel
theorem dL_law_377 : decode cL_law 377 = .ok (.iconst 2, 1) := by decide +kernel
theorem dL_law_378 : decode cL_law 378 = .ok (.iadd, 1) := by decide +kernel
theorem dL_law_379 : decode cL_law 379 = .ok (.iaload, 1) := by decide +kernel
theorem dL_law_380 : decode cL_law 380 = .ok (.aload_n 0, 1) := by decide +kernel
theorem dL_law_381 : decode cL_law 381 = .ok (.iload_n 3, 1) := by decide +kernel
theorem dL_law_382 : decode cL_law 382 = .ok (.iconst 3, 1) := by decide +kernel
theorem dL_law_383 : decode cL_law 383 = .ok (.iadd, 1) := by decide +kernel
theorem dL_law_384 : decode cL_law 384 = .ok (.iaload, 1) := by decide +kernel
theorem dL_law_385 : decode cL_law 385 = .ok (.ifCond .eq 7, 3) := by decide +kernel
theorem dL_law_388 : decode cL_law 388 = .ok (.iconst 1, 1) := by decide +kernel
theorem dL_law_389 : decode cL_law 389 = .ok (.goto 4, 3) := by decide +kernel
theorem dL_law_392 : decode cL_law 392 = .ok (.iconst 0, 1) := by decide +kernel
theorem dL_law_393 : decode cL_law 393 = .ok (.invokevirtual 52, 3) := by decide +kernel
theorem dL_law_396 : decode cL_law 396 = .ok (.if_icmp .eq 717, 3) := by decide +kernel
theorem dL_law_399 : decode cL_law 399 = .ok (.iconst 0, 1) := by decide +kernel
theorem dL_law_400 : decode cL_law 400 = .ok (.ireturn, 1) := by decide +kernel
theorem dL_law_401 : decode cL_law 401 = .ok (.aload_n 1, 1) := by decide +kernel
theorem dL_law_402 : decode cL_law 402 = .ok (.aload_n 0, 1) := by decide +kernel
theorem dL_law_403 : decode cL_law 403 = .ok (.iload_n 3, 1) := by decide +kernel
theorem dL_law_404 : decode cL_law 404 = .ok (.iconst 1, 1) := by decide +kernel
theorem dL_law_405 : decode cL_law 405 = .ok (.iadd, 1) := by decide +kernel
theorem dL_law_406 : decode cL_law 406 = .ok (.iaload, 1) := by decide +kernel
theorem dL_law_407 : decode cL_law 407 = .ok (.invokevirtual 53, 3) := by decide +kernel
theorem dL_law_410 : decode cL_law 410 = .ok (.aload_n 2, 1) := by decide +kernel
theorem dL_law_411 : decode cL_law 411 = .ok (.aload_n 0, 1) := by decide +kernel
theorem dL_law_412 : decode cL_law 412 = .ok (.iload_n 3, 1) := by decide +kernel
theorem dL_law_413 : decode cL_law 413 = .ok (.iconst 1, 1) := by decide +kernel
theorem dL_law_414 : decode cL_law 414 = .ok (.iadd, 1) := by decide +kernel
theorem dL_law_415 : decode cL_law 415 = .ok (.iaload, 1) := by decide +kernel
theorem dL_law_416 : decode cL_law 416 = .ok (.invokevirtual 56, 3) := by decide +kernel
theorem dL_law_419 : decode cL_law 419 = .ok (.if_icmp .eq 694, 3) := by decide +kernel
theorem dL_law_422 : decode cL_law 422 = .ok (.iconst 0, 1) := by decide +kernel
theorem dL_law_423 : decode cL_law 423 = .ok (.ireturn, 1) := by decide +kernel
theorem dL_law_424 : decode cL_law 424 = .ok (.aload_n 1, 1) := by decide +kernel
theorem dL_law_425 : decode cL_law 425 = .ok (.aload_n 0, 1) := by decide +kernel
theorem dL_law_426 : decode cL_law 426 = .ok (.iload_n 3, 1) := by decide +kernel
theorem dL_law_427 : decode cL_law 427 = .ok (.iconst 1, 1) := by decide +kernel
theorem dL_law_428 : decode cL_law 428 = .ok (.iadd, 1) := by decide +kernel
theorem dL_law_429 : decode cL_law 429 = .ok (.iaload, 1) := by decide +kernel
theorem dL_law_430 : decode cL_law 430 = .ok (.invokevirtual 57, 3) := by decide +kernel
theorem dL_law_433 : decode cL_law 433 = .ok (.aload_n 2, 1) := by decide +kernel
theorem dL_law_434 : decode cL_law 434 = .ok (.aload_n 0, 1) := by decide +kernel
theorem dL_law_435 : decode cL_law 435 = .ok (.iload_n 3, 1) := by decide +kernel
theorem dL_law_436 : decode cL_law 436 = .ok (.iconst 1, 1) := by decide +kernel
theorem dL_law_437 : decode cL_law 437 = .ok (.iadd, 1) := by decide +kernel
theorem dL_law_438 : decode cL_law 438 = .ok (.iaload, 1) := by decide +kernel
theorem dL_law_439 : decode cL_law 439 = .ok (.invokevirtual 60, 3) := by decide +kernel
theorem dL_law_442 : decode cL_law 442 = .ok (.if_icmp .eq 671, 3) := by decide +kernel
theorem dL_law_445 : decode cL_law 445 = .ok (.iconst 0, 1) := by decide +kernel
theorem dL_law_446 : decode cL_law 446 = .ok (.ireturn, 1) := by decide +kernel
theorem dL_law_447 : decode cL_law 447 = .ok (.aload_n 1, 1) := by decide +kernel
theorem dL_law_448 : decode cL_law 448 = .ok (.aload_n 0, 1) := by decide +kernel
theorem dL_law_449 : decode cL_law 449 = .ok (.iload_n 3, 1) := by decide +kernel
theorem dL_law_450 : decode cL_law 450 = .ok (.iconst 1, 1) := by decide +kernel
theorem dL_law_451 : decode cL_law 451 = .ok (.iadd, 1) := by decide +kernel
theorem dL_law_452 : decode cL_law 452 = .ok (.iaload, 1) := by decide +kernel
theorem dL_law_453 : decode cL_law 453 = .ok (.invokevirtual 61, 3) := by decide +kernel
theorem dL_law_456 : decode cL_law 456 = .ok (.aload_n 2, 1) := by decide +kernel
theorem dL_law_457 : decode cL_law 457 = .ok (.aload_n 0, 1) := by decide +kernel
theorem dL_law_458 : decode cL_law 458 = .ok (.iload_n 3, 1) := by decide +kernel
theorem dL_law_459 : decode cL_law 459 = .ok (.iconst 1, 1) := by decide +kernel
theorem dL_law_460 : decode cL_law 460 = .ok (.iadd, 1) := by decide +kernel
theorem dL_law_461 : decode cL_law 461 = .ok (.iaload, 1) := by decide +kernel
theorem dL_law_462 : decode cL_law 462 = .ok (.invokevirtual 64, 3) := by decide +kernel
theorem dL_law_465 : decode cL_law 465 = .ok (.if_icmp .eq 648, 3) := by decide +kernel
theorem dL_law_468 : decode cL_law 468 = .ok (.iconst 0, 1) := by decide +kernel
theorem dL_law_469 : decode cL_law 469 = .ok (.ireturn, 1) := by decide +kernel
theorem dL_law_470 : decode cL_law 470 = .ok (.aload_n 1, 1) := by decide +kernel
theorem dL_law_471 : decode cL_law 471 = .ok (.aload_n 0, 1) := by decide +kernel
theorem dL_law_472 : decode cL_law 472 = .ok (.iload_n 3, 1) := by decide +kernel
theorem dL_law_473 : decode cL_law 473 = .ok (.iconst 1, 1) := by decide +kernel
theorem dL_law_474 : decode cL_law 474 = .ok (.iadd, 1) := by decide +kernel
theorem dL_law_475 : decode cL_law 475 = .ok (.iaload, 1) := by decide +kernel
theorem dL_law_476 : decode cL_law 476 = .ok (.aload_n 0, 1) := by decide +kernel
theorem dL_law_477 : decode cL_law 477 = .ok (.iload_n 3, 1) := by decide +kernel
theorem dL_law_478 : decode cL_law 478 = .ok (.iconst 2, 1) := by decide +kernel
theorem dL_law_479 : decode cL_law 479 = .ok (.iadd, 1) := by decide +kernel
theorem dL_law_480 : decode cL_law 480 = .ok (.iaload, 1) := by decide +kernel
theorem dL_law_481 : decode cL_law 481 = .ok (.aload_n 0, 1) := by decide +kernel
theorem dL_law_482 : decode cL_law 482 = .ok (.iload_n 3, 1) := by decide +kernel
theorem dL_law_483 : decode cL_law 483 = .ok (.iconst 3, 1) := by decide +kernel
theorem dL_law_484 : decode cL_law 484 = .ok (.iadd, 1) := by decide +kernel
theorem dL_law_485 : decode cL_law 485 = .ok (.iaload, 1) := by decide +kernel
theorem dL_law_486 : decode cL_law 486 = .ok (.invokevirtual 65, 3) := by decide +kernel
theorem dL_law_489 : decode cL_law 489 = .ok (.aload_n 2, 1) := by decide +kernel
theorem dL_law_490 : decode cL_law 490 = .ok (.aload_n 0, 1) := by decide +kernel
theorem dL_law_491 : decode cL_law 491 = .ok (.iload_n 3, 1) := by decide +kernel
theorem dL_law_492 : decode cL_law 492 = .ok (.iconst 1, 1) := by decide +kernel
theorem dL_law_493 : decode cL_law 493 = .ok (.iadd, 1) := by decide +kernel
theorem dL_law_494 : decode cL_law 494 = .ok (.iaload, 1) := by decide +kernel
theorem dL_law_495 : decode cL_law 495 = .ok (.aload_n 0, 1) := by decide +kernel
theorem dL_law_496 : decode cL_law 496 = .ok (.iload_n 3, 1) := by decide +kernel
theorem dL_law_497 : decode cL_law 497 = .ok (.iconst 2, 1) := by decide +kernel
theorem dL_law_498 : decode cL_law 498 = .ok (.iadd, 1) := by decide +kernel
theorem dL_law_499 : decode cL_law 499 = .ok (.iaload, 1) := by decide +kernel
theorem dL_law_500 : decode cL_law 500 = .ok (.aload_n 0, 1) := by decide +kernel
theorem dL_law_501 : decode cL_law 501 = .ok (.iload_n 3, 1) := by decide +kernel
theorem dL_law_502 : decode cL_law 502 = .ok (.iconst 3, 1) := by decide +kernel
theorem dL_law_503 : decode cL_law 503 = .ok (.iadd, 1) := by decide +kernel
theorem dL_law_504 : decode cL_law 504 = .ok (.iaload, 1) := by decide +kernel
theorem dL_law_505 : decode cL_law 505 = .ok (.invokevirtual 69, 3) := by decide +kernel
theorem dL_law_508 : decode cL_law 508 = .ok (.if_icmp .eq 605, 3) := by decide +kernel
theorem dL_law_511 : decode cL_law 511 = .ok (.iconst 0, 1) := by decide +kernel
theorem dL_law_512 : decode cL_law 512 = .ok (.ireturn, 1) := by decide +kernel
theorem dL_law_513 : decode cL_law 513 = .ok (.aload_n 1, 1) := by decide +kernel
theorem dL_law_514 : decode cL_law 514 = .ok (.aload_n 0, 1) := by decide +kernel
theorem dL_law_515 : decode cL_law 515 = .ok (.iload_n 3, 1) := by decide +kernel
theorem dL_law_516 : decode cL_law 516 = .ok (.iconst 1, 1) := by decide +kernel
theorem dL_law_517 : decode cL_law 517 = .ok (.iadd, 1) := by decide +kernel
theorem dL_law_518 : decode cL_law 518 = .ok (.iaload, 1) := by decide +kernel
theorem dL_law_519 : decode cL_law 519 = .ok (.invokevirtual 70, 3) := by decide +kernel
theorem dL_law_522 : decode cL_law 522 = .ok (.aload_n 2, 1) := by decide +kernel
theorem dL_law_523 : decode cL_law 523 = .ok (.aload_n 0, 1) := by decide +kernel
theorem dL_law_524 : decode cL_law 524 = .ok (.iload_n 3, 1) := by decide +kernel
theorem dL_law_525 : decode cL_law 525 = .ok (.iconst 1, 1) := by decide +kernel
theorem dL_law_526 : decode cL_law 526 = .ok (.iadd, 1) := by decide +kernel
theorem dL_law_527 : decode cL_law 527 = .ok (.iaload, 1) := by decide +kernel
theorem dL_law_528 : decode cL_law 528 = .ok (.invokevirtual 73, 3) := by decide +kernel
theorem dL_law_531 : decode cL_law 531 = .ok (.if_icmp .eq 582, 3) := by decide +kernel
theorem dL_law_534 : decode cL_law 534 = .ok (.iconst 0, 1) := by decide +kernel
theorem dL_law_535 : decode cL_law 535 = .ok (.ireturn, 1) := by decide +kernel
theorem dL_law_536 : decode cL_law 536 = .ok (.aload_n 1, 1) := by decide +kernel
theorem dL_law_537 : decode cL_law 537 = .ok (.aload_n 0, 1) := by decide +kernel
theorem dL_law_538 : decode cL_law 538 = .ok (.iload_n 3, 1) := by decide +kernel
theorem dL_law_539 : decode cL_law 539 = .ok (.iconst 1, 1) := by decide +kernel
theorem dL_law_540 : decode cL_law 540 = .ok (.iadd, 1) := by decide +kernel
theorem dL_law_541 : decode cL_law 541 = .ok (.iaload, 1) := by decide +kernel
theorem dL_law_542 : decode cL_law 542 = .ok (.aload_n 0, 1) := by decide +kernel
theorem dL_law_543 : decode cL_law 543 = .ok (.iload_n 3, 1) := by decide +kernel
theorem dL_law_544 : decode cL_law 544 = .ok (.iconst 2, 1) := by decide +kernel
theorem dL_law_545 : decode cL_law 545 = .ok (.iadd, 1) := by decide +kernel
theorem dL_law_546 : decode cL_law 546 = .ok (.iaload, 1) := by decide +kernel
theorem dL_law_547 : decode cL_law 547 = .ok (.aload_n 0, 1) := by decide +kernel
theorem dL_law_548 : decode cL_law 548 = .ok (.iload_n 3, 1) := by decide +kernel
theorem dL_law_549 : decode cL_law 549 = .ok (.iconst 3, 1) := by decide +kernel
theorem dL_law_550 : decode cL_law 550 = .ok (.iadd, 1) := by decide +kernel
theorem dL_law_551 : decode cL_law 551 = .ok (.iaload, 1) := by decide +kernel
theorem dL_law_552 : decode cL_law 552 = .ok (.invokevirtual 74, 3) := by decide +kernel
theorem dL_law_555 : decode cL_law 555 = .ok (.aload_n 2, 1) := by decide +kernel
theorem dL_law_556 : decode cL_law 556 = .ok (.aload_n 0, 1) := by decide +kernel
theorem dL_law_557 : decode cL_law 557 = .ok (.iload_n 3, 1) := by decide +kernel
theorem dL_law_558 : decode cL_law 558 = .ok (.iconst 1, 1) := by decide +kernel
theorem dL_law_559 : decode cL_law 559 = .ok (.iadd, 1) := by decide +kernel
theorem dL_law_560 : decode cL_law 560 = .ok (.iaload, 1) := by decide +kernel
theorem dL_law_561 : decode cL_law 561 = .ok (.aload_n 0, 1) := by decide +kernel
theorem dL_law_562 : decode cL_law 562 = .ok (.iload_n 3, 1) := by decide +kernel
theorem dL_law_563 : decode cL_law 563 = .ok (.iconst 2, 1) := by decide +kernel
theorem dL_law_564 : decode cL_law 564 = .ok (.iadd, 1) := by decide +kernel
theorem dL_law_565 : decode cL_law 565 = .ok (.iaload, 1) := by decide +kernel
theorem dL_law_566 : decode cL_law 566 = .ok (.aload_n 0, 1) := by decide +kernel
theorem dL_law_567 : decode cL_law 567 = .ok (.iload_n 3, 1) := by decide +kernel
theorem dL_law_568 : decode cL_law 568 = .ok (.iconst 3, 1) := by decide +kernel
theorem dL_law_569 : decode cL_law 569 = .ok (.iadd, 1) := by decide +kernel
theorem dL_law_570 : decode cL_law 570 = .ok (.iaload, 1) := by decide +kernel
theorem dL_law_571 : decode cL_law 571 = .ok (.invokevirtual 77, 3) := by decide +kernel
theorem dL_law_574 : decode cL_law 574 = .ok (.if_icmp .eq 539, 3) := by decide +kernel
theorem dL_law_577 : decode cL_law 577 = .ok (.iconst 0, 1) := by decide +kernel
theorem dL_law_578 : decode cL_law 578 = .ok (.ireturn, 1) := by decide +kernel
theorem dL_law_579 : decode cL_law 579 = .ok (.aload_n 1, 1) := by decide +kernel
theorem dL_law_580 : decode cL_law 580 = .ok (.aload_n 0, 1) := by decide +kernel
theorem dL_law_581 : decode cL_law 581 = .ok (.iload_n 3, 1) := by decide +kernel
theorem dL_law_582 : decode cL_law 582 = .ok (.iconst 1, 1) := by decide +kernel
theorem dL_law_583 : decode cL_law 583 = .ok (.iadd, 1) := by decide +kernel
theorem dL_law_584 : decode cL_law 584 = .ok (.iaload, 1) := by decide +kernel
theorem dL_law_585 : decode cL_law 585 = .ok (.aload_n 0, 1) := by decide +kernel
theorem dL_law_586 : decode cL_law 586 = .ok (.iload_n 3, 1) := by decide +kernel
theorem dL_law_587 : decode cL_law 587 = .ok (.iconst 2, 1) := by decide +kernel
theorem dL_law_588 : decode cL_law 588 = .ok (.iadd, 1) := by decide +kernel
theorem dL_law_589 : decode cL_law 589 = .ok (.iaload, 1) := by decide +kernel
theorem dL_law_590 : decode cL_law 590 = .ok (.invokevirtual 78, 3) := by decide +kernel
theorem dL_law_593 : decode cL_law 593 = .ok (.aload_n 2, 1) := by decide +kernel
theorem dL_law_594 : decode cL_law 594 = .ok (.aload_n 0, 1) := by decide +kernel
theorem dL_law_595 : decode cL_law 595 = .ok (.iload_n 3, 1) := by decide +kernel
theorem dL_law_596 : decode cL_law 596 = .ok (.iconst 1, 1) := by decide +kernel
theorem dL_law_597 : decode cL_law 597 = .ok (.iadd, 1) := by decide +kernel
theorem dL_law_598 : decode cL_law 598 = .ok (.iaload, 1) := by decide +kernel
theorem dL_law_599 : decode cL_law 599 = .ok (.aload_n 0, 1) := by decide +kernel
theorem dL_law_600 : decode cL_law 600 = .ok (.iload_n 3, 1) := by decide +kernel
theorem dL_law_601 : decode cL_law 601 = .ok (.iconst 2, 1) := by decide +kernel
theorem dL_law_602 : decode cL_law 602 = .ok (.iadd, 1) := by decide +kernel
theorem dL_law_603 : decode cL_law 603 = .ok (.iaload, 1) := by decide +kernel
theorem dL_law_604 : decode cL_law 604 = .ok (.invokevirtual 81, 3) := by decide +kernel
theorem dL_law_607 : decode cL_law 607 = .ok (.if_icmp .eq 506, 3) := by decide +kernel
theorem dL_law_610 : decode cL_law 610 = .ok (.iconst 0, 1) := by decide +kernel
theorem dL_law_611 : decode cL_law 611 = .ok (.ireturn, 1) := by decide +kernel
theorem dL_law_612 : decode cL_law 612 = .ok (.aload_n 1, 1) := by decide +kernel
theorem dL_law_613 : decode cL_law 613 = .ok (.aload_n 0, 1) := by decide +kernel
theorem dL_law_614 : decode cL_law 614 = .ok (.iload_n 3, 1) := by decide +kernel
theorem dL_law_615 : decode cL_law 615 = .ok (.iconst 1, 1) := by decide +kernel
theorem dL_law_616 : decode cL_law 616 = .ok (.iadd, 1) := by decide +kernel
theorem dL_law_617 : decode cL_law 617 = .ok (.iaload, 1) := by decide +kernel
theorem dL_law_618 : decode cL_law 618 = .ok (.aload_n 0, 1) := by decide +kernel
theorem dL_law_619 : decode cL_law 619 = .ok (.iload_n 3, 1) := by decide +kernel
theorem dL_law_620 : decode cL_law 620 = .ok (.iconst 2, 1) := by decide +kernel
theorem dL_law_621 : decode cL_law 621 = .ok (.iadd, 1) := by decide +kernel
theorem dL_law_622 : decode cL_law 622 = .ok (.iaload, 1) := by decide +kernel
theorem dL_law_623 : decode cL_law 623 = .ok (.invokevirtual 82, 3) := by decide +kernel
theorem dL_law_626 : decode cL_law 626 = .ok (.aload_n 2, 1) := by decide +kernel
theorem dL_law_627 : decode cL_law 627 = .ok (.aload_n 0, 1) := by decide +kernel
theorem dL_law_628 : decode cL_law 628 = .ok (.iload_n 3, 1) := by decide +kernel
theorem dL_law_629 : decode cL_law 629 = .ok (.iconst 1, 1) := by decide +kernel
theorem dL_law_630 : decode cL_law 630 = .ok (.iadd, 1) := by decide +kernel
theorem dL_law_631 : decode cL_law 631 = .ok (.iaload, 1) := by decide +kernel
theorem dL_law_632 : decode cL_law 632 = .ok (.aload_n 0, 1) := by decide +kernel
theorem dL_law_633 : decode cL_law 633 = .ok (.iload_n 3, 1) := by decide +kernel
theorem dL_law_634 : decode cL_law 634 = .ok (.iconst 2, 1) := by decide +kernel
theorem dL_law_635 : decode cL_law 635 = .ok (.iadd, 1) := by decide +kernel
theorem dL_law_636 : decode cL_law 636 = .ok (.iaload, 1) := by decide +kernel
theorem dL_law_637 : decode cL_law 637 = .ok (.invokevirtual 85, 3) := by decide +kernel
theorem dL_law_640 : decode cL_law 640 = .ok (.if_icmp .eq 473, 3) := by decide +kernel
theorem dL_law_643 : decode cL_law 643 = .ok (.iconst 0, 1) := by decide +kernel
theorem dL_law_644 : decode cL_law 644 = .ok (.ireturn, 1) := by decide +kernel
theorem dL_law_645 : decode cL_law 645 = .ok (.aload_n 1, 1) := by decide +kernel
theorem dL_law_646 : decode cL_law 646 = .ok (.invokevirtual 86, 3) := by decide +kernel
theorem dL_law_649 : decode cL_law 649 = .ok (.aload_n 2, 1) := by decide +kernel
theorem dL_law_650 : decode cL_law 650 = .ok (.invokevirtual 89, 3) := by decide +kernel
theorem dL_law_653 : decode cL_law 653 = .ok (.if_icmp .eq 460, 3) := by decide +kernel
theorem dL_law_656 : decode cL_law 656 = .ok (.iconst 0, 1) := by decide +kernel
theorem dL_law_657 : decode cL_law 657 = .ok (.ireturn, 1) := by decide +kernel
theorem dL_law_658 : decode cL_law 658 = .ok (.aload_n 1, 1) := by decide +kernel
theorem dL_law_659 : decode cL_law 659 = .ok (.aload_n 0, 1) := by decide +kernel
theorem dL_law_660 : decode cL_law 660 = .ok (.iload_n 3, 1) := by decide +kernel
theorem dL_law_661 : decode cL_law 661 = .ok (.iconst 1, 1) := by decide +kernel
theorem dL_law_662 : decode cL_law 662 = .ok (.iadd, 1) := by decide +kernel
theorem dL_law_663 : decode cL_law 663 = .ok (.iaload, 1) := by decide +kernel
theorem dL_law_664 : decode cL_law 664 = .ok (.aload_n 0, 1) := by decide +kernel
theorem dL_law_665 : decode cL_law 665 = .ok (.iload_n 3, 1) := by decide +kernel
theorem dL_law_666 : decode cL_law 666 = .ok (.iconst 2, 1) := by decide +kernel
theorem dL_law_667 : decode cL_law 667 = .ok (.iadd, 1) := by decide +kernel
theorem dL_law_668 : decode cL_law 668 = .ok (.iaload, 1) := by decide +kernel
theorem dL_law_669 : decode cL_law 669 = .ok (.aload_n 0, 1) := by decide +kernel
theorem dL_law_670 : decode cL_law 670 = .ok (.iload_n 3, 1) := by decide +kernel
theorem dL_law_671 : decode cL_law 671 = .ok (.iconst 3, 1) := by decide +kernel
theorem dL_law_672 : decode cL_law 672 = .ok (.iadd, 1) := by decide +kernel
theorem dL_law_673 : decode cL_law 673 = .ok (.iaload, 1) := by decide +kernel
theorem dL_law_674 : decode cL_law 674 = .ok (.ifCond .eq 7, 3) := by decide +kernel
theorem dL_law_677 : decode cL_law 677 = .ok (.iconst 1, 1) := by decide +kernel
theorem dL_law_678 : decode cL_law 678 = .ok (.goto 4, 3) := by decide +kernel
theorem dL_law_681 : decode cL_law 681 = .ok (.iconst 0, 1) := by decide +kernel
theorem dL_law_682 : decode cL_law 682 = .ok (.invokevirtual 90, 3) := by decide +kernel
theorem dL_law_685 : decode cL_law 685 = .ok (.aload_n 2, 1) := by decide +kernel
theorem dL_law_686 : decode cL_law 686 = .ok (.aload_n 0, 1) := by decide +kernel
theorem dL_law_687 : decode cL_law 687 = .ok (.iload_n 3, 1) := by decide +kernel
theorem dL_law_688 : decode cL_law 688 = .ok (.iconst 1, 1) := by decide +kernel
theorem dL_law_689 : decode cL_law 689 = .ok (.iadd, 1) := by decide +kernel
theorem dL_law_690 : decode cL_law 690 = .ok (.iaload, 1) := by decide +kernel
theorem dL_law_691 : decode cL_law 691 = .ok (.aload_n 0, 1) := by decide +kernel
theorem dL_law_692 : decode cL_law 692 = .ok (.iload_n 3, 1) := by decide +kernel
theorem dL_law_693 : decode cL_law 693 = .ok (.iconst 2, 1) := by decide +kernel
theorem dL_law_694 : decode cL_law 694 = .ok (.iadd, 1) := by decide +kernel
theorem dL_law_695 : decode cL_law 695 = .ok (.iaload, 1) := by decide +kernel
theorem dL_law_696 : decode cL_law 696 = .ok (.aload_n 0, 1) := by decide +kernel
theorem dL_law_697 : decode cL_law 697 = .ok (.iload_n 3, 1) := by decide +kernel
theorem dL_law_698 : decode cL_law 698 = .ok (.iconst 3, 1) := by decide +kernel
theorem dL_law_699 : decode cL_law 699 = .ok (.iadd, 1) := by decide +kernel
theorem dL_law_700 : decode cL_law 700 = .ok (.iaload, 1) := by decide +kernel
theorem dL_law_701 : decode cL_law 701 = .ok (.ifCond .eq 7, 3) := by decide +kernel
theorem dL_law_704 : decode cL_law 704 = .ok (.iconst 1, 1) := by decide +kernel
theorem dL_law_705 : decode cL_law 705 = .ok (.goto 4, 3) := by decide +kernel
theorem dL_law_708 : decode cL_law 708 = .ok (.iconst 0, 1) := by decide +kernel
theorem dL_law_709 : decode cL_law 709 = .ok (.invokevirtual 93, 3) := by decide +kernel
theorem dL_law_712 : decode cL_law 712 = .ok (.if_icmp .eq 401, 3) := by decide +kernel
theorem dL_law_715 : decode cL_law 715 = .ok (.iconst 0, 1) := by decide +kernel
theorem dL_law_716 : decode cL_law 716 = .ok (.ireturn, 1) := by decide +kernel
theorem dL_law_717 : decode cL_law 717 = .ok (.aload_n 1, 1) := by decide +kernel
theorem dL_law_718 : decode cL_law 718 = .ok (.aload_n 0, 1) := by decide +kernel
theorem dL_law_719 : decode cL_law 719 = .ok (.iload_n 3, 1) := by decide +kernel
theorem dL_law_720 : decode cL_law 720 = .ok (.iconst 1, 1) := by decide +kernel
theorem dL_law_721 : decode cL_law 721 = .ok (.iadd, 1) := by decide +kernel
theorem dL_law_722 : decode cL_law 722 = .ok (.iaload, 1) := by decide +kernel
theorem dL_law_723 : decode cL_law 723 = .ok (.invokevirtual 94, 3) := by decide +kernel
theorem dL_law_726 : decode cL_law 726 = .ok (.aload_n 2, 1) := by decide +kernel
theorem dL_law_727 : decode cL_law 727 = .ok (.aload_n 0, 1) := by decide +kernel
theorem dL_law_728 : decode cL_law 728 = .ok (.iload_n 3, 1) := by decide +kernel
theorem dL_law_729 : decode cL_law 729 = .ok (.iconst 1, 1) := by decide +kernel
theorem dL_law_730 : decode cL_law 730 = .ok (.iadd, 1) := by decide +kernel
theorem dL_law_731 : decode cL_law 731 = .ok (.iaload, 1) := by decide +kernel
theorem dL_law_732 : decode cL_law 732 = .ok (.invokevirtual 97, 3) := by decide +kernel
theorem dL_law_735 : decode cL_law 735 = .ok (.if_icmp .eq 378, 3) := by decide +kernel
theorem dL_law_738 : decode cL_law 738 = .ok (.iconst 0, 1) := by decide +kernel
theorem dL_law_739 : decode cL_law 739 = .ok (.ireturn, 1) := by decide +kernel
theorem dL_law_740 : decode cL_law 740 = .ok (.aload_n 1, 1) := by decide +kernel
theorem dL_law_741 : decode cL_law 741 = .ok (.aload_n 0, 1) := by decide +kernel
theorem dL_law_742 : decode cL_law 742 = .ok (.iload_n 3, 1) := by decide +kernel
theorem dL_law_743 : decode cL_law 743 = .ok (.iconst 1, 1) := by decide +kernel
theorem dL_law_744 : decode cL_law 744 = .ok (.iadd, 1) := by decide +kernel
theorem dL_law_745 : decode cL_law 745 = .ok (.iaload, 1) := by decide +kernel
theorem dL_law_746 : decode cL_law 746 = .ok (.aload_n 0, 1) := by decide +kernel
theorem dL_law_747 : decode cL_law 747 = .ok (.iload_n 3, 1) := by decide +kernel
theorem dL_law_748 : decode cL_law 748 = .ok (.iconst 2, 1) := by decide +kernel
theorem dL_law_749 : decode cL_law 749 = .ok (.iadd, 1) := by decide +kernel
theorem dL_law_750 : decode cL_law 750 = .ok (.iaload, 1) := by decide +kernel
theorem dL_law_751 : decode cL_law 751 = .ok (.i2l, 1) := by decide +kernel
theorem dL_law_752 : decode cL_law 752 = .ok (.bipush 32, 2) := by decide +kernel
theorem dL_law_754 : decode cL_law 754 = .ok (.lshl, 1) := by decide +kernel
theorem dL_law_755 : decode cL_law 755 = .ok (.aload_n 0, 1) := by decide +kernel
theorem dL_law_756 : decode cL_law 756 = .ok (.iload_n 3, 1) := by decide +kernel
theorem dL_law_757 : decode cL_law 757 = .ok (.iconst 3, 1) := by decide +kernel
theorem dL_law_758 : decode cL_law 758 = .ok (.iadd, 1) := by decide +kernel
theorem dL_law_759 : decode cL_law 759 = .ok (.iaload, 1) := by decide +kernel
theorem dL_law_760 : decode cL_law 760 = .ok (.i2l, 1) := by decide +kernel
theorem dL_law_761 : decode cL_law 761 = .ok (.ldc2_w 98, 3) := by decide +kernel
theorem dL_law_764 : decode cL_law 764 = .ok (.land, 1) := by decide +kernel
theorem dL_law_765 : decode cL_law 765 = .ok (.lor, 1) := by decide +kernel
theorem dL_law_766 : decode cL_law 766 = .ok (.invokevirtual 100, 3) := by decide +kernel
theorem dL_law_769 : decode cL_law 769 = .ok (.aload_n 2, 1) := by decide +kernel
theorem dL_law_770 : decode cL_law 770 = .ok (.aload_n 0, 1) := by decide +kernel
theorem dL_law_771 : decode cL_law 771 = .ok (.iload_n 3, 1) := by decide +kernel
theorem dL_law_772 : decode cL_law 772 = .ok (.iconst 1, 1) := by decide +kernel
theorem dL_law_773 : decode cL_law 773 = .ok (.iadd, 1) := by decide +kernel
theorem dL_law_774 : decode cL_law 774 = .ok (.iaload, 1) := by decide +kernel
theorem dL_law_775 : decode cL_law 775 = .ok (.aload_n 0, 1) := by decide +kernel
theorem dL_law_776 : decode cL_law 776 = .ok (.iload_n 3, 1) := by decide +kernel
theorem dL_law_777 : decode cL_law 777 = .ok (.iconst 2, 1) := by decide +kernel
theorem dL_law_778 : decode cL_law 778 = .ok (.iadd, 1) := by decide +kernel
theorem dL_law_779 : decode cL_law 779 = .ok (.iaload, 1) := by decide +kernel
theorem dL_law_780 : decode cL_law 780 = .ok (.i2l, 1) := by decide +kernel
theorem dL_law_781 : decode cL_law 781 = .ok (.bipush 32, 2) := by decide +kernel
theorem dL_law_783 : decode cL_law 783 = .ok (.lshl, 1) := by decide +kernel
theorem dL_law_784 : decode cL_law 784 = .ok (.aload_n 0, 1) := by decide +kernel
theorem dL_law_785 : decode cL_law 785 = .ok (.iload_n 3, 1) := by decide +kernel
theorem dL_law_786 : decode cL_law 786 = .ok (.iconst 3, 1) := by decide +kernel
theorem dL_law_787 : decode cL_law 787 = .ok (.iadd, 1) := by decide +kernel
theorem dL_law_788 : decode cL_law 788 = .ok (.iaload, 1) := by decide +kernel
theorem dL_law_789 : decode cL_law 789 = .ok (.i2l, 1) := by decide +kernel
theorem dL_law_790 : decode cL_law 790 = .ok (.ldc2_w 98, 3) := by decide +kernel
theorem dL_law_793 : decode cL_law 793 = .ok (.land, 1) := by decide +kernel
theorem dL_law_794 : decode cL_law 794 = .ok (.lor, 1) := by decide +kernel
theorem dL_law_795 : decode cL_law 795 = .ok (.invokevirtual 104, 3) := by decide +kernel
theorem dL_law_798 : decode cL_law 798 = .ok (.if_icmp .eq 315, 3) := by decide +kernel
theorem dL_law_801 : decode cL_law 801 = .ok (.iconst 0, 1) := by decide +kernel
theorem dL_law_802 : decode cL_law 802 = .ok (.ireturn, 1) := by decide +kernel
theorem dL_law_803 : decode cL_law 803 = .ok (.aload_n 1, 1) := by decide +kernel
theorem dL_law_804 : decode cL_law 804 = .ok (.aload_n 0, 1) := by decide +kernel
theorem dL_law_805 : decode cL_law 805 = .ok (.iload_n 3, 1) := by decide +kernel
theorem dL_law_806 : decode cL_law 806 = .ok (.iconst 1, 1) := by decide +kernel
theorem dL_law_807 : decode cL_law 807 = .ok (.iadd, 1) := by decide +kernel
theorem dL_law_808 : decode cL_law 808 = .ok (.iaload, 1) := by decide +kernel
theorem dL_law_809 : decode cL_law 809 = .ok (.aload_n 0, 1) := by decide +kernel
theorem dL_law_810 : decode cL_law 810 = .ok (.iload_n 3, 1) := by decide +kernel
theorem dL_law_811 : decode cL_law 811 = .ok (.iconst 2, 1) := by decide +kernel
theorem dL_law_812 : decode cL_law 812 = .ok (.iadd, 1) := by decide +kernel
theorem dL_law_813 : decode cL_law 813 = .ok (.iaload, 1) := by decide +kernel
theorem dL_law_814 : decode cL_law 814 = .ok (.ifCond .eq 7, 3) := by decide +kernel
theorem dL_law_817 : decode cL_law 817 = .ok (.iconst 1, 1) := by decide +kernel
theorem dL_law_818 : decode cL_law 818 = .ok (.goto 4, 3) := by decide +kernel
theorem dL_law_821 : decode cL_law 821 = .ok (.iconst 0, 1) := by decide +kernel
theorem dL_law_822 : decode cL_law 822 = .ok (.invokevirtual 105, 3) := by decide +kernel
theorem dL_law_825 : decode cL_law 825 = .ok (.aload_n 2, 1) := by decide +kernel
theorem dL_law_826 : decode cL_law 826 = .ok (.aload_n 0, 1) := by decide +kernel
theorem dL_law_827 : decode cL_law 827 = .ok (.iload_n 3, 1) := by decide +kernel
theorem dL_law_828 : decode cL_law 828 = .ok (.iconst 1, 1) := by decide +kernel
theorem dL_law_829 : decode cL_law 829 = .ok (.iadd, 1) := by decide +kernel
theorem dL_law_830 : decode cL_law 830 = .ok (.iaload, 1) := by decide +kernel
theorem dL_law_831 : decode cL_law 831 = .ok (.aload_n 0, 1) := by decide +kernel
theorem dL_law_832 : decode cL_law 832 = .ok (.iload_n 3, 1) := by decide +kernel
theorem dL_law_833 : decode cL_law 833 = .ok (.iconst 2, 1) := by decide +kernel
theorem dL_law_834 : decode cL_law 834 = .ok (.iadd, 1) := by decide +kernel
theorem dL_law_835 : decode cL_law 835 = .ok (.iaload, 1) := by decide +kernel
theorem dL_law_836 : decode cL_law 836 = .ok (.ifCond .eq 7, 3) := by decide +kernel
theorem dL_law_839 : decode cL_law 839 = .ok (.iconst 1, 1) := by decide +kernel
theorem dL_law_840 : decode cL_law 840 = .ok (.goto 4, 3) := by decide +kernel
theorem dL_law_843 : decode cL_law 843 = .ok (.iconst 0, 1) := by decide +kernel
theorem dL_law_844 : decode cL_law 844 = .ok (.invokevirtual 109, 3) := by decide +kernel
theorem dL_law_847 : decode cL_law 847 = .ok (.if_icmp .eq 266, 3) := by decide +kernel
theorem dL_law_850 : decode cL_law 850 = .ok (.iconst 0, 1) := by decide +kernel
theorem dL_law_851 : decode cL_law 851 = .ok (.ireturn, 1) := by decide +kernel
theorem dL_law_852 : decode cL_law 852 = .ok (.aload_n 1, 1) := by decide +kernel
theorem dL_law_853 : decode cL_law 853 = .ok (.aload_n 0, 1) := by decide +kernel
theorem dL_law_854 : decode cL_law 854 = .ok (.iload_n 3, 1) := by decide +kernel
theorem dL_law_855 : decode cL_law 855 = .ok (.iconst 1, 1) := by decide +kernel
theorem dL_law_856 : decode cL_law 856 = .ok (.iadd, 1) := by decide +kernel
theorem dL_law_857 : decode cL_law 857 = .ok (.iaload, 1) := by decide +kernel
theorem dL_law_858 : decode cL_law 858 = .ok (.aload_n 0, 1) := by decide +kernel
theorem dL_law_859 : decode cL_law 859 = .ok (.iload_n 3, 1) := by decide +kernel
theorem dL_law_860 : decode cL_law 860 = .ok (.iconst 2, 1) := by decide +kernel
theorem dL_law_861 : decode cL_law 861 = .ok (.iadd, 1) := by decide +kernel
theorem dL_law_862 : decode cL_law 862 = .ok (.iaload, 1) := by decide +kernel
theorem dL_law_863 : decode cL_law 863 = .ok (.invokevirtual 110, 3) := by decide +kernel
theorem dL_law_866 : decode cL_law 866 = .ok (.aload_n 2, 1) := by decide +kernel
theorem dL_law_867 : decode cL_law 867 = .ok (.aload_n 0, 1) := by decide +kernel
theorem dL_law_868 : decode cL_law 868 = .ok (.iload_n 3, 1) := by decide +kernel
theorem dL_law_869 : decode cL_law 869 = .ok (.iconst 1, 1) := by decide +kernel
theorem dL_law_870 : decode cL_law 870 = .ok (.iadd, 1) := by decide +kernel
theorem dL_law_871 : decode cL_law 871 = .ok (.iaload, 1) := by decide +kernel
theorem dL_law_872 : decode cL_law 872 = .ok (.aload_n 0, 1) := by decide +kernel
theorem dL_law_873 : decode cL_law 873 = .ok (.iload_n 3, 1) := by decide +kernel
theorem dL_law_874 : decode cL_law 874 = .ok (.iconst 2, 1) := by decide +kernel
theorem dL_law_875 : decode cL_law 875 = .ok (.iadd, 1) := by decide +kernel
theorem dL_law_876 : decode cL_law 876 = .ok (.iaload, 1) := by decide +kernel
theorem dL_law_877 : decode cL_law 877 = .ok (.invokevirtual 113, 3) := by decide +kernel
theorem dL_law_880 : decode cL_law 880 = .ok (.if_icmp .eq 233, 3) := by decide +kernel
theorem dL_law_883 : decode cL_law 883 = .ok (.iconst 0, 1) := by decide +kernel
theorem dL_law_884 : decode cL_law 884 = .ok (.ireturn, 1) := by decide +kernel
theorem dL_law_885 : decode cL_law 885 = .ok (.aload_n 1, 1) := by decide +kernel
theorem dL_law_886 : decode cL_law 886 = .ok (.invokevirtual 114, 3) := by decide +kernel
theorem dL_law_889 : decode cL_law 889 = .ok (.aload_n 2, 1) := by decide +kernel
theorem dL_law_890 : decode cL_law 890 = .ok (.invokevirtual 117, 3) := by decide +kernel
theorem dL_law_893 : decode cL_law 893 = .ok (.if_icmp .eq 220, 3) := by decide +kernel
theorem dL_law_896 : decode cL_law 896 = .ok (.iconst 0, 1) := by decide +kernel
theorem dL_law_897 : decode cL_law 897 = .ok (.ireturn, 1) := by decide +kernel
theorem dL_law_898 : decode cL_law 898 = .ok (.aload_n 1, 1) := by decide +kernel
theorem dL_law_899 : decode cL_law 899 = .ok (.aload_n 0, 1) := by decide +kernel
theorem dL_law_900 : decode cL_law 900 = .ok (.iload_n 3, 1) := by decide +kernel
theorem dL_law_901 : decode cL_law 901 = .ok (.iconst 1, 1) := by decide +kernel
theorem dL_law_902 : decode cL_law 902 = .ok (.iadd, 1) := by decide +kernel
theorem dL_law_903 : decode cL_law 903 = .ok (.iaload, 1) := by decide +kernel
theorem dL_law_904 : decode cL_law 904 = .ok (.invokevirtual 118, 3) := by decide +kernel
theorem dL_law_907 : decode cL_law 907 = .ok (.aload_n 2, 1) := by decide +kernel
theorem dL_law_908 : decode cL_law 908 = .ok (.aload_n 0, 1) := by decide +kernel
theorem dL_law_909 : decode cL_law 909 = .ok (.iload_n 3, 1) := by decide +kernel
theorem dL_law_910 : decode cL_law 910 = .ok (.iconst 1, 1) := by decide +kernel
theorem dL_law_911 : decode cL_law 911 = .ok (.iadd, 1) := by decide +kernel
theorem dL_law_912 : decode cL_law 912 = .ok (.iaload, 1) := by decide +kernel
theorem dL_law_913 : decode cL_law 913 = .ok (.invokevirtual 121, 3) := by decide +kernel
theorem dL_law_916 : decode cL_law 916 = .ok (.if_icmp .eq 197, 3) := by decide +kernel
theorem dL_law_919 : decode cL_law 919 = .ok (.iconst 0, 1) := by decide +kernel
theorem dL_law_920 : decode cL_law 920 = .ok (.ireturn, 1) := by decide +kernel
theorem dL_law_921 : decode cL_law 921 = .ok (.aload_n 1, 1) := by decide +kernel
theorem dL_law_922 : decode cL_law 922 = .ok (.aload_n 0, 1) := by decide +kernel
theorem dL_law_923 : decode cL_law 923 = .ok (.iload_n 3, 1) := by decide +kernel
theorem dL_law_924 : decode cL_law 924 = .ok (.iconst 1, 1) := by decide +kernel
theorem dL_law_925 : decode cL_law 925 = .ok (.iadd, 1) := by decide +kernel
theorem dL_law_926 : decode cL_law 926 = .ok (.iaload, 1) := by decide +kernel
theorem dL_law_927 : decode cL_law 927 = .ok (.aload_n 0, 1) := by decide +kernel
theorem dL_law_928 : decode cL_law 928 = .ok (.iload_n 3, 1) := by decide +kernel
theorem dL_law_929 : decode cL_law 929 = .ok (.iconst 2, 1) := by decide +kernel
theorem dL_law_930 : decode cL_law 930 = .ok (.iadd, 1) := by decide +kernel
theorem dL_law_931 : decode cL_law 931 = .ok (.iaload, 1) := by decide +kernel
theorem dL_law_932 : decode cL_law 932 = .ok (.aload_n 0, 1) := by decide +kernel
theorem dL_law_933 : decode cL_law 933 = .ok (.iload_n 3, 1) := by decide +kernel
theorem dL_law_934 : decode cL_law 934 = .ok (.iconst 3, 1) := by decide +kernel
theorem dL_law_935 : decode cL_law 935 = .ok (.iadd, 1) := by decide +kernel
theorem dL_law_936 : decode cL_law 936 = .ok (.iaload, 1) := by decide +kernel
theorem dL_law_937 : decode cL_law 937 = .ok (.aload_n 0, 1) := by decide +kernel
theorem dL_law_938 : decode cL_law 938 = .ok (.iload_n 3, 1) := by decide +kernel
theorem dL_law_939 : decode cL_law 939 = .ok (.iconst 4, 1) := by decide +kernel
theorem dL_law_940 : decode cL_law 940 = .ok (.iadd, 1) := by decide +kernel
theorem dL_law_941 : decode cL_law 941 = .ok (.iaload, 1) := by decide +kernel
theorem dL_law_942 : decode cL_law 942 = .ok (.ifCond .eq 7, 3) := by decide +kernel
theorem dL_law_945 : decode cL_law 945 = .ok (.iconst 1, 1) := by decide +kernel
theorem dL_law_946 : decode cL_law 946 = .ok (.goto 4, 3) := by decide +kernel
theorem dL_law_949 : decode cL_law 949 = .ok (.iconst 0, 1) := by decide +kernel
theorem dL_law_950 : decode cL_law 950 = .ok (.invokevirtual 122, 3) := by decide +kernel
theorem dL_law_953 : decode cL_law 953 = .ok (.aload_n 2, 1) := by decide +kernel
theorem dL_law_954 : decode cL_law 954 = .ok (.aload_n 0, 1) := by decide +kernel
theorem dL_law_955 : decode cL_law 955 = .ok (.iload_n 3, 1) := by decide +kernel
theorem dL_law_956 : decode cL_law 956 = .ok (.iconst 1, 1) := by decide +kernel
theorem dL_law_957 : decode cL_law 957 = .ok (.iadd, 1) := by decide +kernel
theorem dL_law_958 : decode cL_law 958 = .ok (.iaload, 1) := by decide +kernel
theorem dL_law_959 : decode cL_law 959 = .ok (.aload_n 0, 1) := by decide +kernel
theorem dL_law_960 : decode cL_law 960 = .ok (.iload_n 3, 1) := by decide +kernel
theorem dL_law_961 : decode cL_law 961 = .ok (.iconst 2, 1) := by decide +kernel
theorem dL_law_962 : decode cL_law 962 = .ok (.iadd, 1) := by decide +kernel
theorem dL_law_963 : decode cL_law 963 = .ok (.iaload, 1) := by decide +kernel
theorem dL_law_964 : decode cL_law 964 = .ok (.aload_n 0, 1) := by decide +kernel
theorem dL_law_965 : decode cL_law 965 = .ok (.iload_n 3, 1) := by decide +kernel
theorem dL_law_966 : decode cL_law 966 = .ok (.iconst 3, 1) := by decide +kernel
theorem dL_law_967 : decode cL_law 967 = .ok (.iadd, 1) := by decide +kernel
theorem dL_law_968 : decode cL_law 968 = .ok (.iaload, 1) := by decide +kernel
theorem dL_law_969 : decode cL_law 969 = .ok (.aload_n 0, 1) := by decide +kernel
theorem dL_law_970 : decode cL_law 970 = .ok (.iload_n 3, 1) := by decide +kernel
theorem dL_law_971 : decode cL_law 971 = .ok (.iconst 4, 1) := by decide +kernel
theorem dL_law_972 : decode cL_law 972 = .ok (.iadd, 1) := by decide +kernel
theorem dL_law_973 : decode cL_law 973 = .ok (.iaload, 1) := by decide +kernel
theorem dL_law_974 : decode cL_law 974 = .ok (.ifCond .eq 7, 3) := by decide +kernel
theorem dL_law_977 : decode cL_law 977 = .ok (.iconst 1, 1) := by decide +kernel
theorem dL_law_978 : decode cL_law 978 = .ok (.goto 4, 3) := by decide +kernel
theorem dL_law_981 : decode cL_law 981 = .ok (.iconst 0, 1) := by decide +kernel
theorem dL_law_982 : decode cL_law 982 = .ok (.invokevirtual 126, 3) := by decide +kernel
theorem dL_law_985 : decode cL_law 985 = .ok (.if_icmp .eq 128, 3) := by decide +kernel
theorem dL_law_988 : decode cL_law 988 = .ok (.iconst 0, 1) := by decide +kernel
theorem dL_law_989 : decode cL_law 989 = .ok (.ireturn, 1) := by decide +kernel
theorem dL_law_990 : decode cL_law 990 = .ok (.aload_n 1, 1) := by decide +kernel
theorem dL_law_991 : decode cL_law 991 = .ok (.aload_n 0, 1) := by decide +kernel
theorem dL_law_992 : decode cL_law 992 = .ok (.iload_n 3, 1) := by decide +kernel
theorem dL_law_993 : decode cL_law 993 = .ok (.iconst 1, 1) := by decide +kernel
theorem dL_law_994 : decode cL_law 994 = .ok (.iadd, 1) := by decide +kernel
theorem dL_law_995 : decode cL_law 995 = .ok (.iaload, 1) := by decide +kernel
theorem dL_law_996 : decode cL_law 996 = .ok (.i2l, 1) := by decide +kernel
theorem dL_law_997 : decode cL_law 997 = .ok (.bipush 32, 2) := by decide +kernel
theorem dL_law_999 : decode cL_law 999 = .ok (.lshl, 1) := by decide +kernel
theorem dL_law_1000 : decode cL_law 1000 = .ok (.aload_n 0, 1) := by decide +kernel
theorem dL_law_1001 : decode cL_law 1001 = .ok (.iload_n 3, 1) := by decide +kernel
theorem dL_law_1002 : decode cL_law 1002 = .ok (.iconst 2, 1) := by decide +kernel
theorem dL_law_1003 : decode cL_law 1003 = .ok (.iadd, 1) := by decide +kernel
theorem dL_law_1004 : decode cL_law 1004 = .ok (.iaload, 1) := by decide +kernel
theorem dL_law_1005 : decode cL_law 1005 = .ok (.i2l, 1) := by decide +kernel
theorem dL_law_1006 : decode cL_law 1006 = .ok (.ldc2_w 98, 3) := by decide +kernel
theorem dL_law_1009 : decode cL_law 1009 = .ok (.land, 1) := by decide +kernel
theorem dL_law_1010 : decode cL_law 1010 = .ok (.lor, 1) := by decide +kernel
theorem dL_law_1011 : decode cL_law 1011 = .ok (.invokevirtual 127, 3) := by decide +kernel
theorem dL_law_1014 : decode cL_law 1014 = .ok (.aload_n 2, 1) := by decide +kernel
theorem dL_law_1015 : decode cL_law 1015 = .ok (.aload_n 0, 1) := by decide +kernel
theorem dL_law_1016 : decode cL_law 1016 = .ok (.iload_n 3, 1) := by decide +kernel
theorem dL_law_1017 : decode cL_law 1017 = .ok (.iconst 1, 1) := by decide +kernel
theorem dL_law_1018 : decode cL_law 1018 = .ok (.iadd, 1) := by decide +kernel
theorem dL_law_1019 : decode cL_law 1019 = .ok (.iaload, 1) := by decide +kernel
theorem dL_law_1020 : decode cL_law 1020 = .ok (.i2l, 1) := by decide +kernel
theorem dL_law_1021 : decode cL_law 1021 = .ok (.bipush 32, 2) := by decide +kernel
theorem dL_law_1023 : decode cL_law 1023 = .ok (.lshl, 1) := by decide +kernel
theorem dL_law_1024 : decode cL_law 1024 = .ok (.aload_n 0, 1) := by decide +kernel
theorem dL_law_1025 : decode cL_law 1025 = .ok (.iload_n 3, 1) := by decide +kernel
theorem dL_law_1026 : decode cL_law 1026 = .ok (.iconst 2, 1) := by decide +kernel
theorem dL_law_1027 : decode cL_law 1027 = .ok (.iadd, 1) := by decide +kernel
theorem dL_law_1028 : decode cL_law 1028 = .ok (.iaload, 1) := by decide +kernel
theorem dL_law_1029 : decode cL_law 1029 = .ok (.i2l, 1) := by decide +kernel
theorem dL_law_1030 : decode cL_law 1030 = .ok (.ldc2_w 98, 3) := by decide +kernel
theorem dL_law_1033 : decode cL_law 1033 = .ok (.land, 1) := by decide +kernel
theorem dL_law_1034 : decode cL_law 1034 = .ok (.lor, 1) := by decide +kernel
theorem dL_law_1035 : decode cL_law 1035 = .ok (.invokevirtual 131, 3) := by decide +kernel
theorem dL_law_1038 : decode cL_law 1038 = .ok (.lcmp, 1) := by decide +kernel
theorem dL_law_1039 : decode cL_law 1039 = .ok (.ifCond .eq 74, 3) := by decide +kernel
theorem dL_law_1042 : decode cL_law 1042 = .ok (.iconst 0, 1) := by decide +kernel
theorem dL_law_1043 : decode cL_law 1043 = .ok (.ireturn, 1) := by decide +kernel
theorem dL_law_1044 : decode cL_law 1044 = .ok (.aload_n 1, 1) := by decide +kernel
theorem dL_law_1045 : decode cL_law 1045 = .ok (.aload_n 0, 1) := by decide +kernel
theorem dL_law_1046 : decode cL_law 1046 = .ok (.iload_n 3, 1) := by decide +kernel
theorem dL_law_1047 : decode cL_law 1047 = .ok (.iconst 1, 1) := by decide +kernel
theorem dL_law_1048 : decode cL_law 1048 = .ok (.iadd, 1) := by decide +kernel
theorem dL_law_1049 : decode cL_law 1049 = .ok (.iaload, 1) := by decide +kernel
theorem dL_law_1050 : decode cL_law 1050 = .ok (.invokevirtual 132, 3) := by decide +kernel
theorem dL_law_1053 : decode cL_law 1053 = .ok (.aload_n 2, 1) := by decide +kernel
theorem dL_law_1054 : decode cL_law 1054 = .ok (.aload_n 0, 1) := by decide +kernel
theorem dL_law_1055 : decode cL_law 1055 = .ok (.iload_n 3, 1) := by decide +kernel
theorem dL_law_1056 : decode cL_law 1056 = .ok (.iconst 1, 1) := by decide +kernel
theorem dL_law_1057 : decode cL_law 1057 = .ok (.iadd, 1) := by decide +kernel
theorem dL_law_1058 : decode cL_law 1058 = .ok (.iaload, 1) := by decide +kernel
theorem dL_law_1059 : decode cL_law 1059 = .ok (.invokevirtual 135, 3) := by decide +kernel
theorem dL_law_1062 : decode cL_law 1062 = .ok (.if_icmp .eq 51, 3) := by decide +kernel
theorem dL_law_1065 : decode cL_law 1065 = .ok (.iconst 0, 1) := by decide +kernel
theorem dL_law_1066 : decode cL_law 1066 = .ok (.ireturn, 1) := by decide +kernel
theorem dL_law_1067 : decode cL_law 1067 = .ok (.aload_n 1, 1) := by decide +kernel
theorem dL_law_1068 : decode cL_law 1068 = .ok (.aload_n 0, 1) := by decide +kernel
theorem dL_law_1069 : decode cL_law 1069 = .ok (.iload_n 3, 1) := by decide +kernel
theorem dL_law_1070 : decode cL_law 1070 = .ok (.iconst 1, 1) := by decide +kernel
theorem dL_law_1071 : decode cL_law 1071 = .ok (.iadd, 1) := by decide +kernel
theorem dL_law_1072 : decode cL_law 1072 = .ok (.iaload, 1) := by decide +kernel
theorem dL_law_1073 : decode cL_law 1073 = .ok (.invokevirtual 136, 3) := by decide +kernel
theorem dL_law_1076 : decode cL_law 1076 = .ok (.aload_n 2, 1) := by decide +kernel
theorem dL_law_1077 : decode cL_law 1077 = .ok (.aload_n 0, 1) := by decide +kernel
theorem dL_law_1078 : decode cL_law 1078 = .ok (.iload_n 3, 1) := by decide +kernel
theorem dL_law_1079 : decode cL_law 1079 = .ok (.iconst 1, 1) := by decide +kernel
theorem dL_law_1080 : decode cL_law 1080 = .ok (.iadd, 1) := by decide +kernel
theorem dL_law_1081 : decode cL_law 1081 = .ok (.iaload, 1) := by decide +kernel
theorem dL_law_1082 : decode cL_law 1082 = .ok (.invokevirtual 139, 3) := by decide +kernel
theorem dL_law_1085 : decode cL_law 1085 = .ok (.if_icmp .eq 28, 3) := by decide +kernel
theorem dL_law_1088 : decode cL_law 1088 = .ok (.iconst 0, 1) := by decide +kernel
theorem dL_law_1089 : decode cL_law 1089 = .ok (.ireturn, 1) := by decide +kernel
theorem dL_law_1090 : decode cL_law 1090 = .ok (.aload_n 1, 1) := by decide +kernel
theorem dL_law_1091 : decode cL_law 1091 = .ok (.aload_n 0, 1) := by decide +kernel
theorem dL_law_1092 : decode cL_law 1092 = .ok (.iload_n 3, 1) := by decide +kernel
theorem dL_law_1093 : decode cL_law 1093 = .ok (.iconst 1, 1) := by decide +kernel
theorem dL_law_1094 : decode cL_law 1094 = .ok (.iadd, 1) := by decide +kernel
theorem dL_law_1095 : decode cL_law 1095 = .ok (.iaload, 1) := by decide +kernel
theorem dL_law_1096 : decode cL_law 1096 = .ok (.invokevirtual 140, 3) := by decide +kernel
theorem dL_law_1099 : decode cL_law 1099 = .ok (.aload_n 2, 1) := by decide +kernel
theorem dL_law_1100 : decode cL_law 1100 = .ok (.aload_n 0, 1) := by decide +kernel
theorem dL_law_1101 : decode cL_law 1101 = .ok (.iload_n 3, 1) := by decide +kernel
theorem dL_law_1102 : decode cL_law 1102 = .ok (.iconst 1, 1) := by decide +kernel
theorem dL_law_1103 : decode cL_law 1103 = .ok (.iadd, 1) := by decide +kernel
theorem dL_law_1104 : decode cL_law 1104 = .ok (.iaload, 1) := by decide +kernel
theorem dL_law_1105 : decode cL_law 1105 = .ok (.invokevirtual 143, 3) := by decide +kernel
theorem dL_law_1108 : decode cL_law 1108 = .ok (.if_icmp .eq 5, 3) := by decide +kernel
theorem dL_law_1111 : decode cL_law 1111 = .ok (.iconst 0, 1) := by decide +kernel
theorem dL_law_1112 : decode cL_law 1112 = .ok (.ireturn, 1) := by decide +kernel
theorem dL_law_1113 : decode cL_law 1113 = .ok (.iinc 3 5, 3) := by decide +kernel
theorem dL_law_1116 : decode cL_law 1116 = .ok (.goto (-1098), 3) := by decide +kernel
theorem dL_law_1119 : decode cL_law 1119 = .ok (.iconst 1, 1) := by decide +kernel
theorem dL_law_1120 : decode cL_law 1120 = .ok (.ireturn, 1) := by decide +kernel
end
section
/-! THE ABSTRACT MACHINE: cells by their number (the order in which the law makes them), what they hold as functions -/
abbrev aS : Type := Nat → Nat → Int32
abbrev aG : Type := Nat → Int64
/-- a method: its class's number, its name, its code, its locals, what it gives back, frames and words of room -/
abbrev aM : Type := Nat × MethodName × ByteArray × Nat × Option FieldType × Nat × Nat
abbrev aQ : Type := Option Value → aS → aG → Prop
/-- what a step comes to: on in the frame; back with a value; a call (method, arguments, the stack below) -/
abbrev aO : Type := (Nat × List Value × List Value × aS × aG) ⊕ (Option Value ⊕ (aM × List Value × List Value))
def a_wr {α : Type} (S : Nat → α) (k : Nat) (f : α) : Nat → α := fun a => if a = k then f else S a
theorem a_wr_same {α : Type} (S : Nat → α) (k : Nat) (f : α) : a_wr S k f k = f := if_pos rfl
theorem a_wr_ne {α : Type} (S : Nat → α) {k a : Nat} (f : α) (h : a ≠ k) : a_wr S k f a = S a := if_neg h
theorem a_wr_wr {α : Type} (S : Nat → α) (k : Nat) (f g : α) : a_wr (a_wr S k f) k g = a_wr S k g := by
  funext a; by_cases h : a = k <;> simp [a_wr, h]
theorem a_wr_self {α : Type} (S : Nat → α) (k : Nat) : a_wr S k (S k) = S := by
  funext a; by_cases h : a = k <;> simp [a_wr, h]
theorem a_wr_comm {α : Type} (S : Nat → α) {k j : Nat} (h : k ≠ j) (f g : α) : a_wr (a_wr S k f) j g = a_wr (a_wr S j g) k f := by
  funext a; by_cases h1 : a = k
  · subst h1; simp [a_wr, h]
  · by_cases h2 : a = j <;> simp [a_wr, h1, h2, Ne.symm h]
def a_clsL : List Nat := [5, 4, 99, 3, 99, 99, 99, 3, 99, 99, 99, 3, 99, 99, 99, 3, 99, 99, 99, 1, 99, 99, 99, 99, 99, 0, 99, 99, 99, 99, 2, 99, 99, 99, 6, 99, 99, 99, 99, 99, 99, 99, 99, 99, 99]
def a_cls (k : Nat) : Nat := a_clsL.getD k 99
def a_rfL : List (List Nat) := [[1, 3, 7, 11, 15, 19, 25, 30, 33], [2], [], [4, 5, 6], [], [], [], [8, 9, 10], [], [], [], [12, 13, 14], [], [], [], [16, 17, 18], [], [], [], [20, 21, 22, 23, 24], [], [], [], [], [], [26, 27, 28, 29], [], [], [], [], [31, 32], [], [], [], [0, 35, 0, 36, 37, 38, 39, 0, 40, 41, 0, 42, 43, 0, 0, 0, 0, 0, 0, 0, 0, 44], [], [], [], [], [], [], [], [], [], []]
def a_rf (k j : Nat) : Nat := (a_rfL.getD k []).getD j 0
def a_lnL : List Nat := [0, 0, 56, 0, 25, 25, 10, 0, 25, 25, 10, 0, 25, 25, 10, 0, 25, 25, 10, 0, 25, 25, 25, 25, 25, 0, 14, 14, 14, 14, 0, 6, 6, 32, 0, 56, 67, 67, 67, 938, 134, 0, 6, 6, 32]
/-- the ints' places of a cell that is a row of ints (1000: the script, whose length stands at 1001; 1002: FACTORIALS) -/
def a_len (S : aS) (k : Nat) : Nat := if k = 1000 then (S 1001 0).toNatClampNeg else if k = 1002 then 6 else a_lnL.getD k 0
def a_fact (j : Nat) : Int32 := ([1, 1, 2, 6, 24, 120] : List Int32).getD j 0
def a_five (j : Nat) : Int64 := ([1, 100000, 10000000000, 1000000000000000] : List Int64).getD j 0
def a_get (S : aS) (k : Nat) (i : Nat) : Int32 := if k = 1002 then a_fact i else S k i
/-- a class's fields: 0 an int, 1 a long, 2 a reference -/
def a_fsL : List (List Nat) := [[2, 2, 2, 2, 0], [2, 2, 2, 2, 2, 0, 0], [2, 2, 0], [2, 2, 2, 0, 0, 0, 0, 0, 0, 0], [2, 0], [2, 2, 2, 2, 2, 2, 2, 2, 2, 0, 1], [0, 2, 0, 2, 2, 2, 2, 0, 2, 2, 0, 2, 2, 1, 0, 0, 0, 0, 0, 0, 0, 2]]
def a_fs (c : Nat) : List Nat := a_fsL.getD c []
def a_find {α : Type} : List (Nat × Nat × α) → Nat → Nat → Option α
  | [], _, _ => none
  | (a, b, v) :: r, c, i => if a = c ∧ b = i then some v else a_find r c i
def a_frL : List (Nat × Nat × Nat × Nat) := [(0, 9, 0, 0), (0, 15, 0, 1), (0, 18, 0, 2), (0, 21, 0, 3), (0, 24, 0, 4), (1, 9, 1, 0), (1, 15, 1, 1), (1, 18, 1, 2), (1, 21, 1, 3), (1, 24, 1, 4), (1, 27, 1, 5), (1, 31, 1, 6), (1, 34, 3, 6), (1, 43, 3, 7), (1, 67, 3, 5), (1, 85, 3, 3), (1, 91, 3, 4), (2, 9, 2, 0), (2, 15, 2, 1), (2, 18, 2, 2), (3, 9, 3, 0), (3, 15, 3, 1), (3, 18, 3, 2), (3, 21, 3, 3), (3, 25, 3, 4), (3, 28, 3, 5), (3, 31, 3, 6), (3, 34, 3, 7), (3, 37, 3, 8), (3, 40, 3, 9), (4, 9, 4, 0), (4, 15, 4, 1), (5, 10, 5, 0), (5, 19, 5, 1), (5, 23, 5, 2), (5, 26, 5, 3), (5, 29, 5, 4), (5, 35, 5, 5), (5, 42, 5, 6), (5, 49, 5, 7), (5, 53, 5, 8), (5, 57, 5, 9), (5, 61, 5, 10), (5, 90, 3, 3), (5, 93, 3, 4), (5, 103, 3, 5), (5, 106, 3, 6), (5, 109, 3, 7), (5, 112, 3, 8), (5, 115, 3, 9), (6, 7, 6, 1), (6, 13, 6, 3), (6, 16, 6, 4), (6, 19, 6, 5), (6, 22, 6, 6), (6, 25, 6, 8), (6, 28, 6, 9), (6, 32, 6, 11), (6, 35, 6, 12), (6, 38, 6, 21), (6, 45, 6, 0), (6, 63, 6, 2), (6, 78, 6, 7), (6, 81, 6, 14), (6, 84, 6, 15), (6, 87, 6, 16), (6, 115, 6, 10), (6, 169, 6, 17), (6, 172, 6, 18), (6, 222, 6, 19), (6, 225, 6, 20), (6, 233, 6, 13)]
def a_fr (c i : Nat) : Option (Nat × Nat) := a_find a_frL c i
def a_klL : List (Nat × Nat × Int64) := [(5, 246, 100000), (5, 279, 6364136223846793005), (5, 281, 1442695040888963407), (6, 61, 255), (6, 66, 9), (6, 72, 5), (6, 130, 25), (6, 145, -9), (6, 154, 2), (6, 164, -1), (6, 205, 3), (6, 207, 100000), (6, 228, 10), (6, 237, 20), (6, 239, 6364136223846793005), (6, 241, 1442695040888963407), (9, 98, 4294967295)]
def a_kl (c i : Nat) : Option Int64 := a_find a_klL c i
def a_kiL : List (Nat × Nat × Int32) := [(7, 265, 1431655765), (7, 266, 858993459), (7, 267, 252645135)]
def a_ki (c i : Nat) : Option Int32 := a_find a_kiL c i
def a_gsL : List (Nat × Nat × Nat) := [(5, 238, 1003), (5, 322, 1002)]
def a_gs (c i : Nat) : Option Nat := a_find a_gsL c i
def a_acL : List (Nat × Nat × Unit) := [(0, 31, ()), (3, 67, ())]
def a_ac (c i : Nat) : Option Unit := a_find a_acL c i
/-- Math.max 0, Math.min 1, Math.abs 2 -/
def a_mhL : List (Nat × Nat × Nat) := [(1, 80, 0), (1, 88, 1), (3, 91, 1), (4, 35, 1), (4, 41, 0), (5, 314, 2)]
def a_mh (c i : Nat) : Option Nat := a_find a_mhL c i
def mX0_init : aM := (0, yX0_init, cX0_init, 1, none, 1, 12)
def mX0_size : aM := (0, yX0_size, cX0_size, 1, (some .int), 0, 0)
def mX0_forgetAll : aM := (0, yX0_forgetAll, cX0_forgetAll, 1, none, 0, 0)
def mX0_add : aM := (0, yX0_add, cX0_add, 5, none, 2, 38)
def mX0_forgetFirst : aM := (0, yX0_forgetFirst, cX0_forgetFirst, 1, none, 1, 18)
def mX0_takeBackLast : aM := (0, yX0_takeBackLast, cX0_takeBackLast, 2, (some .int), 4, 90)
def mX0_takeBack : aM := (0, yX0_takeBack, cX0_takeBack, 5, none, 3, 66)
def mX1_init : aM := (1, yX1_init, cX1_init, 1, none, 1, 12)
def mX1_howMany : aM := (1, yX1_howMany, cX1_howMany, 3, (some .int), 4, 104)
def mX1_look : aM := (1, yX1_look, cX1_look, 4, none, 3, 81)
def mX1_lookAt : aM := (1, yX1_lookAt, cX1_lookAt, 13, none, 2, 49)
def mX1_countOf : aM := (1, yX1_countOf, cX1_countOf, 2, (some .int), 1, 20)
def mX1_sumOf : aM := (1, yX1_sumOf, cX1_sumOf, 2, (some .int), 1, 20)
def mX1_squaresOf : aM := (1, yX1_squaresOf, cX1_squaresOf, 2, (some .int), 1, 20)
def mX1_unevenness : aM := (1, yX1_unevenness, cX1_unevenness, 2, (some .int), 1, 20)
def mX1_dotsMarked : aM := (1, yX1_dotsMarked, cX1_dotsMarked, 5, (some .int), 3, 68)
def mX1_markOf : aM := (1, yX1_markOf, cX1_markOf, 3, (some .int), 2, 46)
def mX1_isDark : aM := (1, yX1_isDark, cX1_isDark, 7, (some .boolean), 1, 20)
def mX1_isPlace : aM := (1, yX1_isPlace, cX1_isPlace, 1, (some .boolean), 0, 0)
def mX2_init : aM := (2, yX2_init, cX2_init, 1, none, 1, 12)
def mX2_size : aM := (2, yX2_size, cX2_size, 1, (some .int), 0, 0)
def mX2_isFull : aM := (2, yX2_isFull, cX2_isFull, 1, (some .boolean), 0, 0)
def mX2_add : aM := (2, yX2_add, cX2_add, 3, (some .int), 1, 20)
def mX2_clear : aM := (2, yX2_clear, cX2_clear, 2, (some .int), 0, 0)
def mX2_agreesWith : aM := (2, yX2_agreesWith, cX2_agreesWith, 4, (some .boolean), 0, 0)
def mX3_init : aM := (3, yX3_init, cX3_init, 1, none, 1, 12)
def mX3_becomeText : aM := (3, yX3_becomeText, cX3_becomeText, 3, none, 2, 44)
def mX3_copyFrom : aM := (3, yX3_copyFrom, cX3_copyFrom, 2, none, 1, 23)
def mX3_dots : aM := (3, yX3_dots, cX3_dots, 1, (some .int), 0, 0)
def mX3_has : aM := (3, yX3_has, cX3_has, 2, (some .boolean), 0, 0)
def mX3_hasRow : aM := (3, yX3_hasRow, cX3_hasRow, 2, (some .boolean), 0, 0)
def mX3_greyOf : aM := (3, yX3_greyOf, cX3_greyOf, 3, (some .int), 0, 0)
def mX3_setGrey : aM := (3, yX3_setGrey, cX3_setGrey, 4, none, 1, 21)
def mX3_shownFor : aM := (3, yX3_shownFor, cX3_shownFor, 2, (some .int), 0, 0)
def mX3_setShown : aM := (3, yX3_setShown, cX3_setShown, 3, none, 1, 20)
def mX3_setRule : aM := (3, yX3_setRule, cX3_setRule, 4, none, 0, 0)
def mX3_setLie : aM := (3, yX3_setLie, cX3_setLie, 3, none, 0, 0)
def mX3_greysTogether : aM := (3, yX3_greysTogether, cX3_greysTogether, 3, (some .int), 1, 22)
def mX3_staysGrey : aM := (3, yX3_staysGrey, cX3_staysGrey, 4, (some .boolean), 1, 22)
def mX3_lighten : aM := (3, yX3_lighten, cX3_lighten, 3, none, 2, 44)
def mX3_whiten : aM := (3, yX3_whiten, cX3_whiten, 4, none, 2, 44)
def mX3_columnOf : aM := (3, yX3_columnOf, cX3_columnOf, 2, (some .int), 0, 0)
def mX3_rowOf : aM := (3, yX3_rowOf, cX3_rowOf, 2, (some .int), 0, 0)
def mX3_lyingUnder : aM := (3, yX3_lyingUnder, cX3_lyingUnder, 7, (some .int), 0, 0)
def mX3_greyAlone : aM := (3, yX3_greyAlone, cX3_greyAlone, 4, (some .int), 1, 26)
def mX3_pairs : aM := (3, yX3_pairs, cX3_pairs, 5, (some .int), 1, 26)
def mX3_difference : aM := (3, yX3_difference, cX3_difference, 7, (some .int), 1, 26)
def mX3_hangingTogether : aM := (3, yX3_hangingTogether, cX3_hangingTogether, 6, (some .int), 1, 24)
def mX3_withNeighbours : aM := (3, yX3_withNeighbours, cX3_withNeighbours, 5, (some .int), 0, 0)
def mX4_init : aM := (4, yX4_init, cX4_init, 1, none, 1, 12)
def mX4_size : aM := (4, yX4_size, cX4_size, 1, (some .int), 0, 0)
def mX4_isFull : aM := (4, yX4_isFull, cX4_isFull, 1, (some .boolean), 0, 0)
def mX4_append : aM := (4, yX4_append, cX4_append, 2, (some .int), 1, 20)
def mX4_clear : aM := (4, yX4_clear, cX4_clear, 2, (some .int), 0, 0)
def mX4_firstFault : aM := (4, yX4_firstFault, cX4_firstFault, 2, (some .int), 4, 85)
def mX4_fits : aM := (4, yX4_fits, cX4_fits, 4, (some .boolean), 3, 62)
def mX4_letterAt : aM := (4, yX4_letterAt, cX4_letterAt, 2, (some .int), 0, 0)
def mX4_figureAt : aM := (4, yX4_figureAt, cX4_figureAt, 2, (some .int), 1, 21)
def mX4_dotsTold : aM := (4, yX4_dotsTold, cX4_dotsTold, 1, (some .int), 2, 42)
def mX5_init : aM := (5, yX5_init, cX5_init, 1, none, 2, 32)
def mX5_write : aM := (5, yX5_write, cX5_write, 2, (some .int), 2, 41)
def mX5_wipe : aM := (5, yX5_wipe, cX5_wipe, 1, (some .int), 1, 21)
def mX5_fault : aM := (5, yX5_fault, cX5_fault, 1, (some .int), 5, 106)
def mX5_leaf : aM := (5, yX5_leaf, cX5_leaf, 1, (some .int), 5, 106)
def mX5_about : aM := (5, yX5_about, cX5_about, 2, (some .int), 5, 126)
def mX5_grey : aM := (5, yX5_grey, cX5_grey, 3, (some .int), 1, 22)
def mX5_shows : aM := (5, yX5_shows, cX5_shows, 2, (some .int), 1, 21)
def mX5_window : aM := (5, yX5_window, cX5_window, 3, (some .int), 3, 81)
def mX5_spread : aM := (5, yX5_spread, cX5_spread, 5, (some .int), 3, 81)
def mX5_mark : aM := (5, yX5_mark, cX5_mark, 2, (some .int), 3, 81)
def mX5_under : aM := (5, yX5_under, cX5_under, 2, (some .int), 1, 26)
def mX5_cleaned : aM := (5, yX5_cleaned, cX5_cleaned, 8, (some .int), 4, 104)
def mX5_paint : aM := (5, yX5_paint, cX5_paint, 5, (some .int), 3, 62)
def mX5_light : aM := (5, yX5_light, cX5_light, 2, (some .int), 3, 66)
def mX5_rule : aM := (5, yX5_rule, cX5_rule, 4, (some .int), 5, 126)
def mX5_table : aM := (5, yX5_table, cX5_table, 4, (some .int), 3, 62)
def mX5_lay : aM := (5, yX5_lay, cX5_lay, 3, (some .int), 5, 126)
def mX5_undo : aM := (5, yX5_undo, cX5_undo, 1, (some .int), 5, 111)
def mX5_fit : aM := (5, yX5_fit, cX5_fit, 5, (some .int), 2, 52)
def mX5_best : aM := (5, yX5_best, cX5_best, 2, (some .int), 5, 132)
def mX5_judge : aM := (5, yX5_judge, cX5_judge, 6, (some .int), 6, 153)
def mX5_share : aM := (5, yX5_share, cX5_share, 7, (some .int), 6, 148)
def mX5_see : aM := (5, yX5_see, cX5_see, 3, (some .int), 2, 42)
def mX5_unsee : aM := (5, yX5_unsee, cX5_unsee, 1, (some .int), 1, 21)
def mX5_ways : aM := (5, yX5_ways, cX5_ways, 6, (some .int), 4, 104)
def mX5_bleached : aM := (5, yX5_bleached, cX5_bleached, 9, (some .int), 6, 148)
def mX5_seed : aM := (5, yX5_seed, cX5_seed, 5, (some .long), 0, 0)
def mX5_drawn : aM := (5, yX5_drawn, cX5_drawn, 5, (some .int), 5, 126)
def mX5_keep : aM := (5, yX5_keep, cX5_keep, 2, (some .int), 5, 126)
def mX5_again : aM := (5, yX5_again, cX5_again, 2, (some .int), 5, 126)
def mX5_isSide : aM := (5, yX5_isSide, cX5_isSide, 1, (some .boolean), 0, 0)
def mX5_isFigure : aM := (5, yX5_isFigure, cX5_isFigure, 1, (some .boolean), 0, 0)
def mX5_isLight : aM := (5, yX5_isLight, cX5_isLight, 1, (some .boolean), 0, 0)
def mX5_isRule : aM := (5, yX5_isRule, cX5_isRule, 3, (some .boolean), 1, 20)
def mX5_isLie : aM := (5, yX5_isLie, cX5_isLie, 2, (some .boolean), 0, 0)
def mX5_isSlot : aM := (5, yX5_isSlot, cX5_isSlot, 1, (some .boolean), 0, 0)
def mX5_slotAt : aM := (5, yX5_slotAt, cX5_slotAt, 2, (some (.object "LeafInk$Sheet")), 0, 0)
def mX5_inkWhenCome : aM := (5, yX5_inkWhenCome, cX5_inkWhenCome, 3, (some .int), 5, 126)
def mX5_ordersWith : aM := (5, yX5_ordersWith, cX5_ordersWith, 3, (some .int), 1, 20)
def mX5_inkWhenBleached : aM := (5, yX5_inkWhenBleached, cX5_inkWhenBleached, 3, (some .int), 5, 126)
def mX5_bestLie : aM := (5, yX5_bestLie, cX5_bestLie, 8, (some .int), 2, 52)
def mX5_bestWindow : aM := (5, yX5_bestWindow, cX5_bestWindow, 9, (some .int), 4, 104)
def mX5_lieNumber : aM := (5, yX5_lieNumber, cX5_lieNumber, 2, (some .int), 0, 0)
def mX5_windowNumber : aM := (5, yX5_windowNumber, cX5_windowNumber, 2, (some .int), 0, 0)
def mX5_canBe : aM := (5, yX5_canBe, cX5_canBe, 8, (some .boolean), 5, 126)
def mX5_canPaint : aM := (5, yX5_canPaint, cX5_canPaint, 5, (some .boolean), 2, 44)
def mX5_canLighten : aM := (5, yX5_canLighten, cX5_canLighten, 3, (some .boolean), 3, 66)
def mX5_canRule : aM := (5, yX5_canRule, cX5_canRule, 5, (some .boolean), 2, 42)
def mX5_canTable : aM := (5, yX5_canTable, cX5_canTable, 4, (some .boolean), 2, 42)
def mX5_canLay : aM := (5, yX5_canLay, cX5_canLay, 4, (some .boolean), 1, 22)
def mX5_isSoMarked : aM := (5, yX5_isSoMarked, cX5_isSoMarked, 4, (some .boolean), 3, 81)
def mX5_fraction : aM := (5, yX5_fraction, cX5_fraction, 4, (some .int), 1, 25)
def mX5_commonDivisor : aM := (5, yX5_commonDivisor, cX5_commonDivisor, 6, (some .int), 0, 0)
def mX5_remainder : aM := (5, yX5_remainder, cX5_remainder, 2, (some .int), 0, 0)
def mX5_factorial : aM := (5, yX5_factorial, cX5_factorial, 1, (some .int), 0, 0)
def mX5_power : aM := (5, yX5_power, cX5_power, 4, (some .int), 0, 0)
def mX6_init : aM := (6, yX6_init, cX6_init, 1, none, 1, 21)
def mX6_in : aM := (6, yX6_in, cX6_in, 6, (some .boolean), 0, 0)
def mX6_has : aM := (6, yX6_has, cX6_has, 2, (some .boolean), 0, 0)
def mX6_many : aM := (6, yX6_many, cX6_many, 3, (some .int), 0, 0)
def mX6_power : aM := (6, yX6_power, cX6_power, 4, (some .int), 0, 0)
def mX6_divisor : aM := (6, yX6_divisor, cX6_divisor, 5, (some .int), 0, 0)
def mX6_fraction : aM := (6, yX6_fraction, cX6_fraction, 4, (some .int), 1, 24)
def mX6_openRule : aM := (6, yX6_openRule, cX6_openRule, 2, none, 0, 0)
def mX6_dotsOf : aM := (6, yX6_dotsOf, cX6_dotsOf, 1, (some .int), 0, 0)
def mX6_noDot : aM := (6, yX6_noDot, cX6_noDot, 2, (some .boolean), 1, 25)
def mX6_write : aM := (6, yX6_write, cX6_write, 2, (some .int), 1, 25)
def mX6_wipe : aM := (6, yX6_wipe, cX6_wipe, 2, (some .int), 0, 0)
def mX6_figureAt : aM := (6, yX6_figureAt, cX6_figureAt, 3, (some .int), 1, 25)
def mX6_readLeaf : aM := (6, yX6_readLeaf, cX6_readLeaf, 5, (some .int), 2, 47)
def mX6_fault : aM := (6, yX6_fault, cX6_fault, 1, (some .int), 3, 71)
def mX6_leaf : aM := (6, yX6_leaf, cX6_leaf, 2, (some .int), 3, 71)
def mX6_far : aM := (6, yX6_far, cX6_far, 2, (some .int), 0, 0)
def mX6_layWindow : aM := (6, yX6_layWindow, cX6_layWindow, 6, none, 1, 21)
def mX6_isDark : aM := (6, yX6_isDark, cX6_isDark, 6, (some .boolean), 0, 0)
def mX6_underOf : aM := (6, yX6_underOf, cX6_underOf, 6, (some .int), 1, 25)
def mX6_markOf : aM := (6, yX6_markOf, cX6_markOf, 6, (some .int), 2, 50)
def mX6_inkOf : aM := (6, yX6_inkOf, cX6_inkOf, 4, (some .int), 3, 75)
def mX6_marks : aM := (6, yX6_marks, cX6_marks, 5, (some .int), 3, 75)
def mX6_greys : aM := (6, yX6_greys, cX6_greys, 3, (some .int), 1, 20)
def mX6_about : aM := (6, yX6_about, cX6_about, 2, (some .int), 4, 99)
def mX6_grey : aM := (6, yX6_grey, cX6_grey, 3, (some .int), 2, 46)
def mX6_shows : aM := (6, yX6_shows, cX6_shows, 2, (some .int), 1, 25)
def mX6_window : aM := (6, yX6_window, cX6_window, 3, (some .int), 2, 46)
def mX6_spread : aM := (6, yX6_spread, cX6_spread, 5, (some .int), 2, 47)
def mX6_mark : aM := (6, yX6_mark, cX6_mark, 2, (some .int), 3, 75)
def mX6_under : aM := (6, yX6_under, cX6_under, 2, (some .int), 2, 50)
def mX6_hanging : aM := (6, yX6_hanging, cX6_hanging, 8, (some .int), 1, 21)
def mX6_cleaned : aM := (6, yX6_cleaned, cX6_cleaned, 5, (some .int), 4, 98)
def mX6_note : aM := (6, yX6_note, cX6_note, 2, none, 0, 0)
def mX6_paint : aM := (6, yX6_paint, cX6_paint, 6, (some .int), 2, 46)
def mX6_canLight : aM := (6, yX6_canLight, cX6_canLight, 4, (some .boolean), 1, 25)
def mX6_goLight : aM := (6, yX6_goLight, cX6_goLight, 3, none, 1, 20)
def mX6_light : aM := (6, yX6_light, cX6_light, 2, (some .int), 2, 48)
def mX6_isRule : aM := (6, yX6_isRule, cX6_isRule, 3, (some .boolean), 1, 25)
def mX6_goRule : aM := (6, yX6_goRule, cX6_goRule, 4, none, 0, 0)
def mX6_rule : aM := (6, yX6_rule, cX6_rule, 4, (some .int), 4, 98)
def mX6_table : aM := (6, yX6_table, cX6_table, 4, (some .int), 1, 25)
def mX6_isLie : aM := (6, yX6_isLie, cX6_isLie, 2, (some .boolean), 1, 25)
def mX6_lay : aM := (6, yX6_lay, cX6_lay, 3, (some .int), 4, 98)
def mX6_undo : aM := (6, yX6_undo, cX6_undo, 2, (some .int), 0, 0)
def mX6_layFit : aM := (6, yX6_layFit, cX6_layFit, 6, none, 2, 50)
def mX6_fit : aM := (6, yX6_fit, cX6_fit, 4, (some .int), 3, 75)
def mX6_bestLie : aM := (6, yX6_bestLie, cX6_bestLie, 5, (some .int), 3, 75)
def mX6_begin : aM := (6, yX6_begin, cX6_begin, 2, none, 0, 0)
def mX6_inkBy : aM := (6, yX6_inkBy, cX6_inkBy, 2, (some .int), 4, 98)
def mX6_bestRule : aM := (6, yX6_bestRule, cX6_bestRule, 7, (some .int), 5, 119)
def mX6_best : aM := (6, yX6_best, cX6_best, 2, (some .int), 6, 145)
def mX6_longPower : aM := (6, yX6_longPower, cX6_longPower, 6, (some .long), 0, 0)
def mX6_puts : aM := (6, yX6_puts, cX6_puts, 4, (some .boolean), 0, 0)
def mX6_lights : aM := (6, yX6_lights, cX6_lights, 3, (some .boolean), 2, 48)
def mX6_rules : aM := (6, yX6_rules, cX6_rules, 4, (some .boolean), 2, 47)
def mX6_lies : aM := (6, yX6_lies, cX6_lies, 3, (some .boolean), 2, 46)
def mX6_does : aM := (6, yX6_does, cX6_does, 8, (some .boolean), 4, 98)
def mX6_judge : aM := (6, yX6_judge, cX6_judge, 5, (some .int), 5, 125)
def mX6_orders : aM := (6, yX6_orders, cX6_orders, 4, (some .int), 0, 0)
def mX6_inkOfRows : aM := (6, yX6_inkOfRows, cX6_inkOfRows, 3, (some .int), 4, 98)
def mX6_share : aM := (6, yX6_share, cX6_share, 8, (some .int), 5, 120)
def mX6_see : aM := (6, yX6_see, cX6_see, 3, (some .int), 2, 46)
def mX6_unsee : aM := (6, yX6_unsee, cX6_unsee, 2, (some .int), 0, 0)
def mX6_ways : aM := (6, yX6_ways, cX6_ways, 6, (some .int), 5, 119)
def mX6_bleached : aM := (6, yX6_bleached, cX6_bleached, 10, (some .int), 4, 98)
def mX6_seed : aM := (6, yX6_seed, cX6_seed, 5, (some .long), 0, 0)
def mX6_drawn : aM := (6, yX6_drawn, cX6_drawn, 5, (some .int), 4, 98)
def mX6_keep : aM := (6, yX6_keep, cX6_keep, 3, (some .int), 4, 98)
def mX6_again : aM := (6, yX6_again, cX6_again, 3, (some .int), 4, 98)
def mJ6_bitCount_0f7a4 : aM := (7, yJ6_bitCount_0f7a4, cJ6_bitCount_0f7a4, 1, (some .int), 0, 0)
def mL_law : aM := (9, yL_law, cL_law, 4, (some .boolean), 7, 178)
/-- calls: kind (0 static, 1 of an object, 2 a nest mate's static), how many arguments without the object, the method -/
def a_crL0 : List (Nat × Nat × Nat × Nat × aM) := [(0, 28, 1, 0, mX0_forgetFirst), (0, 37, 1, 4, mX0_takeBack), (0, 41, 1, 3, mX3_setGrey), (0, 47, 1, 1, mX3_lighten), (0, 51, 1, 3, mX3_setRule), (0, 54, 1, 2, mX3_setShown), (0, 58, 1, 2, mX3_setLie)]
def a_crL1 : List (Nat × Nat × Nat × Nat × aM) := [(1, 39, 1, 2, mX1_look), (1, 46, 1, 2, mX1_dotsMarked), (1, 50, 0, 1, mJ6_bitCount_0f7a4), (1, 56, 1, 0, mX3_dots), (1, 59, 1, 3, mX1_lookAt), (1, 63, 1, 1, mX3_has), (1, 68, 1, 2, mX3_greyOf), (1, 71, 1, 1, mX3_greyAlone), (1, 74, 1, 1, mX3_columnOf), (1, 77, 1, 1, mX3_rowOf), (1, 94, 0, 1, mX1_isPlace), (1, 97, 1, 2, mX1_markOf), (1, 100, 1, 3, mX1_isDark)]
def a_crL2 : List (Nat × Nat × Nat × Nat × aM) := [(2, 22, 1, 0, mX2_isFull)]
def a_crL3 : List (Nat × Nat × Nat × Nat × aM) := [(3, 43, 1, 1, mX4_figureAt), (3, 49, 1, 0, mX3_dots), (3, 53, 1, 3, mX3_setGrey), (3, 57, 1, 2, mX3_setShown), (3, 61, 1, 3, mX3_setRule), (3, 64, 1, 2, mX3_setLie), (3, 73, 1, 1, mX3_has), (3, 80, 1, 2, mX3_greyOf), (3, 84, 1, 3, mX3_lyingUnder), (3, 88, 1, 1, mX3_shownFor), (3, 96, 1, 1, mX3_withNeighbours), (3, 77, 2, 1, mX5_isFigure)]
def a_crL4 : List (Nat × Nat × Nat × Nat × aM) := [(4, 19, 1, 0, mX4_isFull), (4, 23, 1, 1, mX4_fits), (4, 27, 1, 0, mX4_dotsTold), (4, 31, 1, 1, mX4_letterAt), (4, 44, 1, 1, mX4_figureAt)]
def a_crL5 : List (Nat × Nat × Nat × Nat × aM) := [(5, 65, 1, 0, mX4_isFull), (5, 69, 1, 1, mX4_append), (5, 73, 1, 0, mX4_clear), (5, 77, 1, 0, mX4_firstFault), (5, 80, 1, 1, mX3_becomeText), (5, 84, 1, 0, mX0_forgetAll), (5, 87, 1, 0, mX3_dots), (5, 96, 1, 2, mX1_howMany), (5, 100, 1, 0, mX3_greysTogether), (5, 118, 0, 2, mX5_lieNumber), (5, 122, 1, 0, mX0_size), (5, 125, 1, 0, mX2_size), (5, 126, 1, 0, mX4_size), (5, 127, 0, 1, mX5_isSide), (5, 131, 1, 1, mX3_has), (5, 134, 1, 2, mX3_greyOf), (5, 137, 0, 1, mX5_isFigure), (5, 140, 1, 1, mX3_shownFor), (5, 143, 1, 3, mX1_lookAt), (5, 147, 1, 1, mX1_countOf), (5, 150, 1, 1, mX1_sumOf), (5, 153, 1, 1, mX1_squaresOf), (5, 156, 0, 3, mX5_fraction), (5, 160, 1, 1, mX1_unevenness), (5, 163, 1, 2, mX1_markOf), (5, 166, 1, 3, mX3_lyingUnder), (5, 170, 1, 2, mX1_look), (5, 174, 1, 2, mX1_dotsMarked), (5, 177, 1, 2, mX3_hangingTogether), (5, 180, 0, 1, mJ6_bitCount_0f7a4), (5, 185, 1, 4, mX0_add), (5, 189, 1, 3, mX3_setGrey), (5, 193, 0, 1, mX5_isLight), (5, 196, 1, 1, mX3_staysGrey), (5, 199, 1, 1, mX3_lighten), (5, 203, 0, 3, mX5_isRule), (5, 207, 1, 3, mX3_setRule), (5, 210, 1, 2, mX3_setShown), (5, 214, 0, 2, mX5_isLie), (5, 218, 1, 2, mX3_setLie), (5, 221, 1, 1, mX0_takeBackLast), (5, 225, 1, 2, mX3_pairs), (5, 228, 1, 2, mX3_difference), (5, 231, 1, 0, mX5_bestLie), (5, 234, 1, 1, mX5_bestWindow), (5, 242, 1, 1, mX3_copyFrom), (5, 248, 1, 1, mX5_canBe), (5, 251, 1, 1, mX3_hasRow), (5, 254, 1, 1, mX5_inkWhenCome), (5, 257, 0, 2, mX5_ordersWith), (5, 260, 0, 1, mX5_factorial), (5, 263, 1, 0, mX2_isFull), (5, 264, 1, 2, mX2_add), (5, 266, 1, 0, mX2_clear), (5, 267, 1, 1, mX2_agreesWith), (5, 270, 0, 2, mX5_windowNumber), (5, 273, 1, 2, mX5_inkWhenBleached), (5, 276, 0, 2, mX5_power), (5, 283, 0, 2, mX5_remainder), (5, 286, 0, 1, mX5_isSlot), (5, 289, 1, 1, mX5_slotAt), (5, 293, 1, 2, mX3_whiten), (5, 296, 1, 3, mX5_canPaint), (5, 299, 1, 1, mX5_canLighten), (5, 302, 1, 3, mX5_canRule), (5, 305, 1, 2, mX5_canTable), (5, 308, 1, 2, mX5_canLay), (5, 311, 1, 2, mX5_isSoMarked), (5, 319, 0, 2, mX5_commonDivisor)]
def a_crL6 : List (Nat × Nat × Nat × Nat × aM) := [(6, 41, 0, 1, mX6_openRule), (6, 49, 0, 2, mX6_divisor), (6, 53, 0, 1, mX6_dotsOf), (6, 57, 0, 3, mX6_in), (6, 68, 1, 1, mX6_figureAt), (6, 74, 1, 0, mX6_readLeaf), (6, 90, 0, 2, mX6_far), (6, 93, 1, 3, mX6_layWindow), (6, 97, 1, 2, mX6_isDark), (6, 101, 0, 4, mX6_underOf), (6, 105, 1, 2, mX6_markOf), (6, 109, 1, 2, mX6_marks), (6, 112, 0, 1, mX6_greys), (6, 118, 1, 1, mX6_noDot), (6, 122, 0, 3, mX6_fraction), (6, 126, 0, 2, mX6_has), (6, 132, 1, 1, mX6_inkOf), (6, 135, 0, 3, mX6_hanging), (6, 139, 0, 1, mX6_many), (6, 142, 1, 0, mX6_note), (6, 147, 0, 2, mX6_canLight), (6, 150, 0, 2, mX6_goLight), (6, 156, 0, 3, mX6_isRule), (6, 160, 0, 4, mX6_goRule), (6, 166, 0, 2, mX6_isLie), (6, 175, 1, 2, mX6_layFit), (6, 179, 1, 0, mX6_begin), (6, 182, 1, 1, mX6_inkBy), (6, 185, 1, 0, mX6_bestLie), (6, 188, 1, 1, mX6_bestRule), (6, 192, 1, 3, mX6_puts), (6, 196, 1, 1, mX6_lights), (6, 199, 1, 3, mX6_rules), (6, 202, 1, 2, mX6_lies), (6, 209, 0, 2, mX6_longPower), (6, 213, 1, 1, mX6_does), (6, 216, 1, 1, mX6_inkOfRows), (6, 219, 0, 2, mX6_orders), (6, 230, 0, 2, mX6_power)]
def a_crL9 : List (Nat × Nat × Nat × Nat × aM) := [(9, 13, 1, 1, mX5_write), (9, 17, 1, 1, mX6_write), (9, 18, 1, 0, mX5_wipe), (9, 22, 1, 0, mX6_wipe), (9, 23, 1, 0, mX5_fault), (9, 26, 1, 0, mX6_fault), (9, 27, 1, 0, mX5_leaf), (9, 30, 1, 0, mX6_leaf), (9, 31, 1, 1, mX5_about), (9, 34, 1, 1, mX6_about), (9, 35, 1, 2, mX5_grey), (9, 39, 1, 2, mX6_grey), (9, 40, 1, 1, mX5_shows), (9, 43, 1, 1, mX6_shows), (9, 44, 1, 2, mX5_window), (9, 47, 1, 2, mX6_window), (9, 48, 1, 3, mX5_spread), (9, 52, 1, 3, mX6_spread), (9, 53, 1, 1, mX5_mark), (9, 56, 1, 1, mX6_mark), (9, 57, 1, 1, mX5_under), (9, 60, 1, 1, mX6_under), (9, 61, 1, 1, mX5_cleaned), (9, 64, 1, 1, mX6_cleaned), (9, 65, 1, 3, mX5_paint), (9, 69, 1, 3, mX6_paint), (9, 70, 1, 1, mX5_light), (9, 73, 1, 1, mX6_light), (9, 74, 1, 3, mX5_rule), (9, 77, 1, 3, mX6_rule), (9, 78, 1, 2, mX5_table), (9, 81, 1, 2, mX6_table), (9, 82, 1, 2, mX5_lay), (9, 85, 1, 2, mX6_lay), (9, 86, 1, 0, mX5_undo), (9, 89, 1, 0, mX6_undo), (9, 90, 1, 3, mX5_fit), (9, 93, 1, 3, mX6_fit), (9, 94, 1, 1, mX5_best), (9, 97, 1, 1, mX6_best), (9, 100, 1, 2, mX5_judge), (9, 104, 1, 2, mX6_judge), (9, 105, 1, 2, mX5_share), (9, 109, 1, 2, mX6_share), (9, 110, 1, 2, mX5_see), (9, 113, 1, 2, mX6_see), (9, 114, 1, 0, mX5_unsee), (9, 117, 1, 0, mX6_unsee), (9, 118, 1, 1, mX5_ways), (9, 121, 1, 1, mX6_ways), (9, 122, 1, 4, mX5_bleached), (9, 126, 1, 4, mX6_bleached), (9, 127, 1, 1, mX5_seed), (9, 131, 1, 1, mX6_seed), (9, 132, 1, 1, mX5_drawn), (9, 135, 1, 1, mX6_drawn), (9, 136, 1, 1, mX5_keep), (9, 139, 1, 1, mX6_keep), (9, 140, 1, 1, mX5_again), (9, 143, 1, 1, mX6_again)]
def a_crL : List (Nat × Nat × Nat × Nat × aM) := a_crL0 ++ (a_crL1 ++ (a_crL2 ++ (a_crL3 ++ (a_crL4 ++ (a_crL5 ++ (a_crL6 ++ (a_crL9)))))))
def a_cr (c i : Nat) : Option (Nat × Nat × aM) := a_find a_crL c i
-- shapes of the stack
abbrev a_in (i : Int32) (n : Nat) : Prop := 0 ≤ i.toInt ∧ i.toInt < (n : Int)
def a_ln (len n : Nat) (o : Option aO) : Option aO := if len = n then o else none
def a_i1 (st : List Value) (k : Int32 → List Value → Option aO) : Option aO := match st with
  | .int x :: r => k x r
  | _ => none
def a_r1 (st : List Value) (k : Nat → List Value → Option aO) : Option aO := match st with
  | .ref x :: r => k x r
  | _ => none
def a_l1 (st : List Value) (k : Int64 → List Value → Option aO) : Option aO := match st with
  | .long x :: r => k x r
  | _ => none
def a_i2 (st : List Value) (k : Int32 → Int32 → List Value → Option aO) : Option aO := a_i1 st fun y r => a_i1 r fun x r => k x y r
def a_l2 (st : List Value) (k : Int64 → Int64 → List Value → Option aO) : Option aO := a_l1 st fun y r => a_l1 r fun x r => k x y r
def a_g (c : Prop) [Decidable c] (o : Option aO) : Option aO := if c then o else none
def a_nx (pc : Nat) (L st : List Value) (S : aS) (G : aG) : Option aO := some (.inl (pc, L, st, S, G))
/-- a jump's target -/
def a_tg (pc : Nat) (off : Int) : Nat := ((pc : Int) + off).toNat
def a_jp (pc : Nat) (off : Int) (k : Nat → Option aO) : Option aO := if 0 ≤ (pc : Int) + off then k (a_tg pc off) else none
def a_ld (L : List Value) (i : Nat) : Value := L.getD i .null
/-- a value of one word into a local: nothing of two words may end there -/
def a_st (L : List Value) (i : Nat) (v : Value) (k : List Value → Option aO) : Option aO :=
  if i < L.length ∧ (i = 0 ∨ (L.getD (i - 1) .null).category = 1) then k (L.set i v) else none
def a_st2 (L : List Value) (i : Nat) (v : Value) (k : List Value → Option aO) : Option aO :=
  if i + 1 < L.length ∧ (i = 0 ∨ (L.getD (i - 1) .null).category = 1) then k ((L.set i v).set (i + 1) .null) else none
def a_cnd (c : ClassFile.Cond) (x y : Int32) : Bool := match c with
  | .eq => decide (x = y)
  | .ne => !decide (x = y)
  | .lt => decide (x < y)
  | .ge => decide (y ≤ x)
  | .gt => decide (y < x)
  | .le => decide (x ≤ y)
/-- the arguments of a call, first one first, out of the stack -/
def a_take : Nat → List Value → List Value → Option (List Value × List Value)
  | 0, acc, st => some (acc, st)
  | n + 1, acc, v :: st => a_take n (v :: acc) st
  | _ + 1, _, [] => none
def a_ex : List Value → List Value
  | [] => []
  | v :: r => if v.category = 2 then v :: .null :: a_ex r else v :: a_ex r
def a_words (st : List Value) : Nat := (st.map fun v => v.category).sum
def a_inv (m : aM) (i : Nat) (kinds : List Nat) (extra : Nat) (st : List Value) : Option aO := match a_cr m.1 i with
  | some (kd, n, m') => if kd ∈ kinds ∧ m'.2.2.2.2.2.1 + 1 ≤ m.2.2.2.2.2.1 ∧ 8 + (m'.2.2.2.1 + 11) + m'.2.2.2.2.2.2 ≤ m.2.2.2.2.2.2 then (match a_take (n + extra) [] st with
    | some (as, r) => if a_words r ≤ 8 ∧ (a_ex as).length ≤ m'.2.2.2.1 then (match kd, as with
      | 1, .ref a :: as' => a_g (a_cls a = m'.1) (some (.inr (.inr (m', .ref a :: as', r))))
      | 1, _ => none
      | _, as => some (.inr (.inr (m', as, r)))) else none
    | none => none) else none
  | none => none
def a_mth (m : aM) (t pc : Nat) (L st : List Value) (S : aS) (G : aG) : Option aO := if 1 ≤ m.2.2.2.2.2.1 then (match t with
  | 0 => a_i2 st fun x y r => if a_words r + 13 ≤ m.2.2.2.2.2.2 then a_nx (pc + 3) L (.int (if x < y then y else x) :: r) S G else none
  | 1 => a_i2 st fun x y r => if a_words r + 13 ≤ m.2.2.2.2.2.2 then a_nx (pc + 3) L (.int (if y < x then y else x) :: r) S G else none
  | _ => a_i1 st fun x r => if a_words r + 13 ≤ m.2.2.2.2.2.2 then a_nx (pc + 3) L (.int (if 0 ≤ x then x else 0 - x) :: r) S G else none) else none
def a_okr (r : Value) (m : aM) : Bool := match r, m.2.2.2.2.1 with
  | .int _, some .int => true
  | .int v, some .boolean => decide (v = 0 ∨ v = 1)
  | .long _, some .long => true
  | .ref _, some (.object _) => true
  | _, _ => false
end
section
def a_ins (m : aM) (pc : Nat) (L st : List Value) (S : aS) (G : aG) (i : ClassFile.Instr) (len : Nat) : Option aO := match i with
  | .iconst n => a_ln len 1 (a_nx (pc + 1) L (.int (Int32.ofInt n) :: st) S G)
  | .bipush n => a_ln len 2 (a_nx (pc + 2) L (.int (Int8.ofInt n).toInt32 :: st) S G)
  | .sipush n => a_ln len 3 (a_nx (pc + 3) L (.int (Int16.ofInt n).toInt32 :: st) S G)
  | .lconst n => a_ln len 1 (a_nx (pc + 1) L (.long (Int64.ofNat (n : Nat)) :: st) S G)
  | .iload_n k => a_ln len 1 (a_i1 [a_ld L (k : Nat)] fun x _ => a_nx (pc + 1) L (.int x :: st) S G)
  | .iload k => a_ln len 2 (a_i1 [a_ld L k] fun x _ => a_nx (pc + 2) L (.int x :: st) S G)
  | .lload_n k => a_ln len 1 (a_l1 [a_ld L (k : Nat)] fun x _ => a_nx (pc + 1) L (.long x :: st) S G)
  | .lload k => a_ln len 2 (a_l1 [a_ld L k] fun x _ => a_nx (pc + 2) L (.long x :: st) S G)
  | .aload_n k => a_ln len 1 (a_r1 [a_ld L (k : Nat)] fun x _ => a_nx (pc + 1) L (.ref x :: st) S G)
  | .aload k => a_ln len 2 (a_r1 [a_ld L k] fun x _ => a_nx (pc + 2) L (.ref x :: st) S G)
  | .istore_n k => a_ln len 1 (a_i1 st fun x r => a_st L (k : Nat) (.int x) fun L => a_nx (pc + 1) L r S G)
  | .istore k => a_ln len 2 (a_i1 st fun x r => a_st L k (.int x) fun L => a_nx (pc + 2) L r S G)
  | .lstore_n k => a_ln len 1 (a_l1 st fun x r => a_st2 L (k : Nat) (.long x) fun L => a_nx (pc + 1) L r S G)
  | .iinc k n => a_ln len 3 (a_i1 [a_ld L k] fun x _ => a_st L k (.int (x + Int32.ofInt n)) fun L => a_nx (pc + 3) L st S G)
  | .iadd => a_ln len 1 (a_i2 st fun x y r => a_nx (pc + 1) L (.int (x + y) :: r) S G)
  | .isub => a_ln len 1 (a_i2 st fun x y r => a_nx (pc + 1) L (.int (x - y) :: r) S G)
  | .imul => a_ln len 1 (a_i2 st fun x y r => a_nx (pc + 1) L (.int (x * y) :: r) S G)
  | .iand => a_ln len 1 (a_i2 st fun x y r => a_nx (pc + 1) L (.int (x &&& y) :: r) S G)
  | .ior => a_ln len 1 (a_i2 st fun x y r => a_nx (pc + 1) L (.int (x ||| y) :: r) S G)
  | .ixor => a_ln len 1 (a_i2 st fun x y r => a_nx (pc + 1) L (.int (x ^^^ y) :: r) S G)
  | .idiv => a_ln len 1 (a_i2 st fun x y r => a_g (¬ y = 0) (a_nx (pc + 1) L (.int (x / y) :: r) S G))
  | .irem => a_ln len 1 (a_i2 st fun x y r => a_g (¬ y = 0) (a_nx (pc + 1) L (.int (x - x / y * y) :: r) S G))
  | .ineg => a_ln len 1 (a_i1 st fun x r => a_nx (pc + 1) L (.int (-x) :: r) S G)
  | .ishl => a_ln len 1 (a_i2 st fun x y r => a_nx (pc + 1) L (.int (x <<< (y &&& 31)) :: r) S G)
  | .ishr => a_ln len 1 (a_i2 st fun x y r => a_nx (pc + 1) L (.int (x >>> (y &&& 31)) :: r) S G)
  | .iushr => a_ln len 1 (a_i2 st fun x y r => a_nx (pc + 1) L (.int (x.toUInt32 >>> (y.toUInt32 &&& Int32.toUInt32 31)).toInt32 :: r) S G)
  | .ladd => a_ln len 1 (a_l2 st fun x y r => a_nx (pc + 1) L (.long (x + y) :: r) S G)
  | .lsub => a_ln len 1 (a_l2 st fun x y r => a_nx (pc + 1) L (.long (x - y) :: r) S G)
  | .lmul => a_ln len 1 (a_l2 st fun x y r => a_nx (pc + 1) L (.long (x * y) :: r) S G)
  | .land => a_ln len 1 (a_l2 st fun x y r => a_nx (pc + 1) L (.long (x &&& y) :: r) S G)
  | .lor => a_ln len 1 (a_l2 st fun x y r => a_nx (pc + 1) L (.long (x ||| y) :: r) S G)
  | .ldiv => a_ln len 1 (a_l2 st fun x y r => a_g (¬ y = 0) (a_nx (pc + 1) L (.long (x / y) :: r) S G))
  | .lrem => a_ln len 1 (a_l2 st fun x y r => a_g (¬ y = 0) (a_nx (pc + 1) L (.long (x - x / y * y) :: r) S G))
  | .lshl => a_ln len 1 (a_i1 st fun y r => a_l1 r fun x r => a_nx (pc + 1) L (.long (x <<< (y.toInt64 &&& 63)) :: r) S G)
  | .lushr => a_ln len 1 (a_i1 st fun y r => a_l1 r fun x r => a_nx (pc + 1) L (.long (x.toUInt64 >>> (y.toInt64.toUInt64 &&& Int64.toUInt64 63)).toInt64 :: r) S G)
  | .lcmp => a_ln len 1 (a_l2 st fun x y r => a_nx (pc + 1) L (.int (lg_cmp x y) :: r) S G)
  | .i2l => a_ln len 1 (a_i1 st fun x r => a_nx (pc + 1) L (.long x.toInt64 :: r) S G)
  | .l2i => a_ln len 1 (a_l1 st fun x r => a_nx (pc + 1) L (.int x.toInt32 :: r) S G)
  | .dup => a_ln len 1 (match st with
    | v :: r => a_g (v.category = 1) (a_nx (pc + 1) L (v :: v :: r) S G)
    | _ => none)
  | .dup2 => a_ln len 1 (match st with
    | v :: w :: r => a_g (v.category = 1 ∧ w.category = 1) (a_nx (pc + 1) L (v :: w :: v :: w :: r) S G)
    | _ => none)
  | .pop => a_ln len 1 (match st with
    | v :: r => a_g (v.category = 1) (a_nx (pc + 1) L r S G)
    | _ => none)
  | .goto off => a_ln len 3 (a_jp pc off fun t => a_nx t L st S G)
  | .ifCond c off => a_ln len 3 (a_i1 st fun x r => a_jp pc off fun t => if a_cnd c x 0 = true then a_nx t L r S G else a_nx (pc + 3) L r S G)
  | .if_icmp c off => a_ln len 3 (a_i2 st fun x y r => a_jp pc off fun t => if a_cnd c x y = true then a_nx t L r S G else a_nx (pc + 3) L r S G)
  | .tableswitch d lo hi offs => a_i1 st fun x r => if x.toInt < lo ∨ hi < x.toInt then a_jp pc d fun t => a_nx t L r S G else (match offs[(x.toInt - lo).toNat]? with
    | some off => a_jp pc off fun t => a_nx t L r S G
    | none => none)
  | .lookupswitch d ps => a_i1 st fun x r => a_g ((ps.toList.zip (ps.toList.drop 1)).all (fun (a, next) => a.1 < next.1) = true) (a_jp pc (Op.lookupswitch.offset ps.toList d x.toInt) fun t => a_nx t L r S G)
  | .ldc_w k => a_ln len 3 (match a_ki m.1 k with
    | some v => a_nx (pc + 3) L (.int v :: st) S G
    | none => none)
  | .ldc2_w k => a_ln len 3 (match a_kl m.1 k with
    | some v => a_nx (pc + 3) L (.long v :: st) S G
    | none => none)
  | .getstatic k => a_ln len 3 (match a_gs m.1 k with
    | some v => a_nx (pc + 3) L (.ref v :: st) S G
    | none => none)
  | .getfield k => a_ln len 3 (match a_fr m.1 k with
    | some (ci, j) => a_r1 st fun a r => a_g (a_cls a = ci) (match (a_fs ci)[j]? with
      | some 0 => a_nx (pc + 3) L (.int (S a j) :: r) S G
      | some 1 => a_nx (pc + 3) L (.long (G a) :: r) S G
      | some 2 => a_nx (pc + 3) L (.ref (a_rf a j) :: r) S G
      | _ => none)
    | none => none)
  | .putfield k => a_ln len 3 (match a_fr m.1 k with
    | some (ci, j) => (match (a_fs ci)[j]? with
      | some 0 => a_i1 st fun v r => a_r1 r fun a r => a_g (a_cls a = ci) (a_nx (pc + 3) L r (a_wr S a (upd (S a) j v)) G)
      | some 1 => a_l1 st fun v r => a_r1 r fun a r => a_g (a_cls a = ci) (a_nx (pc + 3) L r S (a_wr G a v))
      | _ => none)
    | none => none)
  | .arraylength => a_ln len 1 (a_r1 st fun a r => a_g (0 < a_len S a) (a_nx (pc + 1) L (.int (Int32.ofNat (a_len S a)) :: r) S G))
  | .iaload => a_ln len 1 (a_i1 st fun i r => a_r1 r fun a r => a_g (a_in i (a_len S a)) (a_nx (pc + 1) L (.int (a_get S a i.toNatClampNeg) :: r) S G))
  | .laload => a_ln len 1 (a_i1 st fun i r => a_r1 r fun a r => a_g (a = 1003 ∧ a_in i 4) (a_nx (pc + 1) L (.long (a_five i.toNatClampNeg) :: r) S G))
  | .baload => a_ln len 1 (a_i1 st fun i r => a_r1 r fun a r => a_g (a = 41 ∧ a_in i 2) (a_nx (pc + 1) L (.int (S a i.toNatClampNeg) :: r) S G))
  | .iastore => a_ln len 1 (a_i1 st fun v r => a_i1 r fun i r => a_r1 r fun a r => a_g (a < 45 ∧ a_in i (a_len S a)) (a_nx (pc + 1) L r (a_wr S a (upd (S a) i.toNatClampNeg v)) G))
  | .bastore => a_ln len 1 (a_i1 st fun v r => a_i1 r fun i r => a_r1 r fun a r => a_g (a = 41 ∧ a_in i 2 ∧ (v = 0 ∨ v = 1)) (a_nx (pc + 1) L r (a_wr S a (upd (S a) i.toNatClampNeg v)) G))
  | .invokevirtual k => a_ln len 3 (a_inv m k [1] 1 st)
  | .invokestatic k => a_ln len 3 (match a_ac m.1 k with
    | some _ => a_i1 st fun n r => a_i1 r fun dp r => a_r1 r fun b r => a_i1 r fun sp r => a_r1 r fun a r =>
        a_g ((¬ sp < 0 ∧ ¬ dp < 0 ∧ ¬ n < 0) ∧ (a < 45 ∧ b < 45) ∧ sp.toNatClampNeg + n.toNatClampNeg ≤ a_len S a ∧ dp.toNatClampNeg + n.toNatClampNeg ≤ a_len S b ∧ 0 < a_len S a ∧ 0 < a_len S b ∧ r = [] ∧ 1 ≤ m.2.2.2.2.2.1 ∧ 18 ≤ m.2.2.2.2.2.2)
          (a_nx (pc + 3) L r (a_wr S b (va_cpy (S a) (S b) sp.toNatClampNeg dp.toNatClampNeg n.toNatClampNeg)) G)
    | none => (match a_mh m.1 k with
      | some t => a_mth m t pc L st S G
      | none => a_inv m k [0, 2] 0 st))
  | .ireturn => a_ln len 1 (match st with
    | [.int v] => a_g (a_okr (.int v) m = true) (some (.inr (.inl (some (.int v)))))
    | _ => none)
  | .lreturn => a_ln len 1 (match st with
    | [.long v] => a_g (a_okr (.long v) m = true) (some (.inr (.inl (some (.long v)))))
    | _ => none)
  | .areturn => a_ln len 1 (match st with
    | [.ref v] => a_g (a_okr (.ref v) m = true) (some (.inr (.inl (some (.ref v)))))
    | _ => none)
  | .return_ => a_ln len 1 (match st with
    | [] => a_g (m.2.2.2.2.1 = none) (some (.inr (.inl none)))
    | _ => none)
  | _ => none
def a_step (m : aM) (pc : Nat) (L st : List Value) (S : aS) (G : aG) : Option aO := match decode m.2.2.1 pc with
  | .ok (i, len) => a_ins m pc L st S G i len
  | _ => none
/-- the locals at a method's entry -/
def a_ent (m : aM) (as : List Value) : List Value := a_ex as ++ List.replicate (m.2.2.2.1 - (a_ex as).length) .null
def a_push (r : Option Value) (st : List Value) : List Value := match r with
  | some v => v :: st
  | none => st
/-- within n steps the method ends, with Q -/
def aT : Nat → aM → Nat → List Value → List Value → aS → aG → aQ → Prop
  | 0, _, _, _, _, _, _, _ => False
  | n + 1, m, pc, L, st, S, G, Q => match a_step m pc L st S G with
    | none => False
    | some (.inl (pc', L', st', S', G')) => aT n m pc' L' st' S' G' Q
    | some (.inr (.inl v)) => Q v S G
    | some (.inr (.inr (m', as, st'))) => aT n m' 0 (a_ent m' as) [] S G (fun r S' G' => aT n m (pc + 3) L (a_push r st') S' G' Q)
def aX (m : aM) (pc : Nat) (L st : List Value) (S : aS) (G : aG) (Q : aQ) : Prop := ∃ n, aT n m pc L st S G Q
theorem aT_eq (n : Nat) (m : aM) (pc : Nat) (L st : List Value) (S : aS) (G : aG) (Q : aQ) : aT (n + 1) m pc L st S G Q = (match a_step m pc L st S G with
    | none => False
    | some (.inl (pc', L', st', S', G')) => aT n m pc' L' st' S' G' Q
    | some (.inr (.inl v)) => Q v S G
    | some (.inr (.inr (m', as, st'))) => aT n m' 0 (a_ent m' as) [] S G (fun r S' G' => aT n m (pc + 3) L (a_push r st') S' G' Q)) := by rw [aT]
/-- a run has one end -/
theorem aT_out : ∀ (n : Nat) (m : aM) (pc : Nat) (L st : List Value) (S : aS) (G : aG) (Q : aQ), aT n m pc L st S G Q → ∃ (r : Option Value) (S' : aS) (G' : aG), ∀ Q' : aQ, aT n m pc L st S G Q' ↔ Q' r S' G'
  | 0, _, _, _, _, _, _, _, h => h.elim
  | n + 1, m, pc, L, st, S, G, Q, h => by
    rw [aT_eq] at h
    simp only [aT_eq]
    generalize a_step m pc L st S G = o at h
    match o, h with
    | some (.inl (pc', L', st', S', G')), h => exact aT_out n _ _ _ _ _ _ _ h
    | some (.inr (.inl v)), h => exact ⟨v, S, G, fun Q' => Iff.rfl⟩
    | some (.inr (.inr (m', as, st'))), h =>
      obtain ⟨r, S1, G1, h1⟩ := aT_out n _ _ _ _ _ _ _ h
      obtain ⟨r2, S2, G2, h3⟩ := aT_out n _ _ _ _ _ _ _ ((h1 _).mp h)
      exact ⟨r2, S2, G2, fun Q' => (h1 _).trans (h3 Q')⟩
theorem aT_mono {n : Nat} {m : aM} {pc : Nat} {L st : List Value} {S : aS} {G : aG} {Q Q' : aQ} (h : aT n m pc L st S G Q) (hq : ∀ r S' G', Q r S' G' → Q' r S' G') : aT n m pc L st S G Q' := by
  obtain ⟨r, S', G', h1⟩ := aT_out _ _ _ _ _ _ _ _ h
  exact (h1 Q').mpr (hq _ _ _ ((h1 Q).mp h))
theorem aT_up : ∀ (n : Nat) (m : aM) (pc : Nat) (L st : List Value) (S : aS) (G : aG) (Q : aQ), aT n m pc L st S G Q → aT (n + 1) m pc L st S G Q
  | 0, _, _, _, _, _, _, _, h => h.elim
  | n + 1, m, pc, L, st, S, G, Q, h => by
    rw [aT_eq] at h ⊢
    generalize a_step m pc L st S G = o at h
    match o, h with
    | some (.inl (pc', L', st', S', G')), h => exact aT_up n _ _ _ _ _ _ _ h
    | some (.inr (.inl v)), h => exact h
    | some (.inr (.inr (m', as, st'))), h => exact aT_mono (aT_up n _ _ _ _ _ _ _ h) (fun r S' G' h' => aT_up n _ _ _ _ _ _ _ h')
theorem aT_le {n k : Nat} (hk : n ≤ k) {m : aM} {pc : Nat} {L st : List Value} {S : aS} {G : aG} {Q : aQ} (h : aT n m pc L st S G Q) : aT k m pc L st S G Q := by
  induction hk with
  | refl => exact h
  | step _ ih => exact aT_up _ _ _ _ _ _ _ _ ih
theorem aX_mono {m : aM} {pc : Nat} {L st : List Value} {S : aS} {G : aG} {Q Q' : aQ} (h : aX m pc L st S G Q) (hq : ∀ r S' G', Q r S' G' → Q' r S' G') : aX m pc L st S G Q' := by
  obtain ⟨n, h⟩ := h
  exact ⟨n, aT_mono h hq⟩
theorem aX_out {m : aM} {pc : Nat} {L st : List Value} {S : aS} {G : aG} {Q : aQ} (h : aX m pc L st S G Q) : ∃ (r : Option Value) (S' : aS) (G' : aG), ∀ Q' : aQ, aX m pc L st S G Q' ↔ Q' r S' G' := by
  obtain ⟨n, h⟩ := h
  obtain ⟨r, S', G', h1⟩ := aT_out _ _ _ _ _ _ _ _ h
  refine ⟨r, S', G', fun Q' => ⟨?_, fun hq => ⟨n, (h1 Q').mpr hq⟩⟩⟩
  rintro ⟨k, h2⟩
  have h3 := aT_le (Nat.le_max_left n k) ((h1 (fun a b c => a = r ∧ b = S' ∧ c = G')).mpr ⟨rfl, rfl, rfl⟩)
  have h4 := aT_le (Nat.le_max_right n k) h2
  obtain ⟨r1, S1, G1, h5⟩ := aT_out _ _ _ _ _ _ _ _ h4
  obtain ⟨e1, e2, e3⟩ := (h5 _).mp h3
  subst e1 e2 e3
  exact (h5 Q').mp h4
/-- a run is one run: what is shown of its end is its end -/
theorem aX_det {m : aM} {pc : Nat} {L st : List Value} {S : aS} {G : aG} {r0 : Option Value} {S0 : aS} {G0 : aG} (h : aX m pc L st S G (fun r S' G' => r = r0 ∧ S' = S0 ∧ G' = G0)) (Q : aQ) : aX m pc L st S G Q ↔ Q r0 S0 G0 := by
  obtain ⟨r, S', G', h1⟩ := aX_out h
  obtain ⟨e1, e2, e3⟩ := (h1 _).mp h
  subst e1 e2 e3
  exact h1 Q
-- rules
theorem aX_next {m : aM} {pc : Nat} {L st : List Value} {S : aS} {G : aG} {pc' : Nat} {L' st' : List Value} {S' : aS} {G' : aG} (h : a_step m pc L st S G = a_nx pc' L' st' S' G') (Q : aQ) : aX m pc L st S G Q ↔ aX m pc' L' st' S' G' Q := by
  constructor
  · rintro ⟨n, hn⟩
    cases n with
    | zero => exact hn.elim
    | succ n => rw [aT_eq, h] at hn; exact ⟨n, hn⟩
  · rintro ⟨n, hn⟩
    exact ⟨n + 1, by rw [aT_eq, h]; exact hn⟩
theorem aX_none {m : aM} {pc : Nat} {L st : List Value} {S : aS} {G : aG} (h : a_step m pc L st S G = none) (Q : aQ) : ¬ aX m pc L st S G Q := by
  rintro ⟨n, hn⟩
  cases n with
  | zero => exact hn.elim
  | succ n => rw [aT_eq, h] at hn; exact hn.elim
theorem aX_ret {m : aM} {pc : Nat} {L st : List Value} {S : aS} {G : aG} {v : Option Value} (h : a_step m pc L st S G = some (.inr (.inl v))) (Q : aQ) : aX m pc L st S G Q ↔ Q v S G := by
  constructor
  · rintro ⟨n, hn⟩
    cases n with
    | zero => exact hn.elim
    | succ n => rw [aT_eq, h] at hn; exact hn
  · intro hq
    exact ⟨1, by rw [aT_eq, h]; exact hq⟩
theorem aX_call {m : aM} {pc : Nat} {L st : List Value} {S : aS} {G : aG} {m' : aM} {as st' : List Value} (h : a_step m pc L st S G = some (.inr (.inr (m', as, st')))) (Q : aQ) : aX m pc L st S G Q ↔ aX m' 0 (a_ent m' as) [] S G (fun r S' G' => aX m (pc + 3) L (a_push r st') S' G' Q) := by
  constructor
  · rintro ⟨n, hn⟩
    cases n with
    | zero => exact hn.elim
    | succ n =>
      rw [aT_eq, h] at hn
      exact ⟨n, aT_mono hn (fun r S' G' h' => ⟨n, h'⟩)⟩
  · rintro ⟨n, hn⟩
    obtain ⟨r, S', G', h1⟩ := aT_out _ _ _ _ _ _ _ _ hn
    obtain ⟨k, hk⟩ := (h1 _).mp hn
    refine ⟨max n k + 1, ?_⟩
    rw [aT_eq, h]
    exact aT_le (Nat.le_max_left n k) ((h1 _).mpr (aT_le (Nat.le_max_right n k) hk))
theorem aX_guard {m : aM} {pc : Nat} {L st : List Value} {S : aS} {G : aG} {pc' : Nat} {L' st' : List Value} {S' : aS} {G' : aG} {c : Prop} {dc : Decidable c} (h : a_step m pc L st S G = @a_g c dc (a_nx pc' L' st' S' G')) (Q : aQ) : aX m pc L st S G Q ↔ (c ∧ aX m pc' L' st' S' G' Q) := by
  by_cases hc : c
  · rw [aX_next (by rw [h, a_g, if_pos hc]) Q]; exact ⟨fun x => ⟨hc, x⟩, fun x => x.2⟩
  · exact ⟨fun x => (aX_none (by rw [h, a_g, if_neg hc]) Q x).elim, fun x => (hc x.1).elim⟩
theorem aX_branch {m : aM} {pc : Nat} {L st : List Value} {S : aS} {G : aG} {c : Prop} {dc : Decidable c} {p1 p2 : Nat} {L1 st1 L2 st2 : List Value} {S1 S2 : aS} {G1 G2 : aG} (h : a_step m pc L st S G = @ite _ c dc (a_nx p1 L1 st1 S1 G1) (a_nx p2 L2 st2 S2 G2)) (Q : aQ) : aX m pc L st S G Q ↔ ((c → aX m p1 L1 st1 S1 G1 Q) ∧ (¬ c → aX m p2 L2 st2 S2 G2 Q)) := by
  by_cases hc : c
  · rw [aX_next (by rw [h, if_pos hc]) Q]; exact ⟨fun x => ⟨fun _ => x, fun n => (n hc).elim⟩, fun x => x.1 hc⟩
  · rw [aX_next (by rw [h, if_neg hc]) Q]; exact ⟨fun x => ⟨fun n => (hc n).elim, fun _ => x⟩, fun x => x.2 hc⟩
theorem aX_callg {m : aM} {pc : Nat} {L st : List Value} {S : aS} {G : aG} {c : Prop} {dc : Decidable c} {m' : aM} {as st' : List Value} (h : a_step m pc L st S G = @a_g c dc (some (.inr (.inr (m', as, st'))))) (Q : aQ) : aX m pc L st S G Q ↔ (c ∧ aX m' 0 (a_ent m' as) [] S G (fun r S' G' => aX m (pc + 3) L (a_push r st') S' G' Q)) := by
  by_cases hc : c
  · rw [aX_call (by rw [h, a_g, if_pos hc]) Q]; exact ⟨fun x => ⟨hc, x⟩, fun x => x.2⟩
  · exact ⟨fun x => (aX_none (by rw [h, a_g, if_neg hc]) Q x).elim, fun x => (hc x.1).elim⟩
theorem aX_retg {m : aM} {pc : Nat} {L st : List Value} {S : aS} {G : aG} {c : Prop} {dc : Decidable c} {v : Option Value} (h : a_step m pc L st S G = @a_g c dc (some (.inr (.inl v)))) (Q : aQ) : aX m pc L st S G Q ↔ (c ∧ Q v S G) := by
  by_cases hc : c
  · rw [aX_ret (by rw [h, a_g, if_pos hc]) Q]; exact ⟨fun x => ⟨hc, x⟩, fun x => x.2⟩
  · exact ⟨fun x => (aX_none (by rw [h, a_g, if_neg hc]) Q x).elim, fun x => (hc x.1).elim⟩
end
section
def a_T0 : List Cond := lw_tbl.filter goodWord
theorem a_mT {w : Cond} (i : Nat) (h : lw_tbl[i]? = some w) (hg : goodWord w = true) : w ∈ a_T0 := List.mem_filter.mpr ⟨List.mem_of_getElem? h, hg⟩
def a_cn (c : Nat) : String := ([RX0, RX1, RX2, RX3, RX4, RX5, RX6, RJ6, RJ9, RL] : List String).getD c ""
def a_okM (m : aM) : Prop := Cond.code m.2.1 m.2.2.1 m.2.2.2.1 m.2.2.2.2.1 ∈ a_T0 ∧ m.2.1.cls = a_cn m.1 ∧ plainName m.2.1.cls = true ∧ (m.2.1.cls ≠ "java/lang/invoke/MethodHandle" ∧ m.2.1.cls ≠ "java/lang/invoke/VarHandle") ∧ Cond.initialized m.2.1.cls ∈ a_T0
theorem a_in0 : Cond.initialized RX0 ∈ a_T0 := a_mT 44 (by decide +kernel) (by decide +kernel)
theorem a_in1 : Cond.initialized RX1 ∈ a_T0 := a_mT 43 (by decide +kernel) (by decide +kernel)
theorem a_in2 : Cond.initialized RX2 ∈ a_T0 := a_mT 45 (by decide +kernel) (by decide +kernel)
theorem a_in3 : Cond.initialized RX3 ∈ a_T0 := a_mT 42 (by decide +kernel) (by decide +kernel)
theorem a_in4 : Cond.initialized RX4 ∈ a_T0 := a_mT 41 (by decide +kernel) (by decide +kernel)
theorem a_in5 : Cond.initialized RX5 ∈ a_T0 := a_mT 40 (by decide +kernel) (by decide +kernel)
theorem a_in6 : Cond.initialized RX6 ∈ a_T0 := a_mT 46 (by decide +kernel) (by decide +kernel)
theorem a_in7 : Cond.initialized RJ6 ∈ a_T0 := a_mT 48 (by decide +kernel) (by decide +kernel)
theorem a_in8 : Cond.initialized RJ9 ∈ a_T0 := a_mT 47 (by decide +kernel) (by decide +kernel)
theorem a_inS : Cond.initialized "java/lang/System" ∈ a_T0 := a_mT 49 (by decide +kernel) (by decide +kernel)
theorem a_acW : Cond.native arraycopyName ∈ a_T0 ∧ Cond.static arraycopyName ∈ a_T0 := ⟨a_mT 487 (by decide +kernel) (by decide +kernel), a_mT 486 (by decide +kernel) (by decide +kernel)⟩
theorem a_acL_ok : ∀ q ∈ a_acL, Cond.methodLink (a_cn q.1) q.2.1 arraycopyName ∈ a_T0 := List.forall_mem_cons.mpr ⟨a_mT 485 (by decide +kernel) (by decide +kernel), List.forall_mem_cons.mpr ⟨a_mT 579 (by decide +kernel) (by decide +kernel), fun _ h => absurd h List.not_mem_nil⟩⟩
set_option maxRecDepth 100000 in
theorem a_ok_X0_forgetFirst : a_okM mX0_forgetFirst := ⟨a_mT 484 rfl rfl, rfl, by decide +kernel, ⟨by decide +kernel, by decide +kernel⟩, a_in0⟩
theorem a_iv_X0_forgetFirst : Cond.instanceMethod yX0_forgetFirst ∈ a_T0 ∧ Cond.selects yX0_forgetFirst.cls yX0_forgetFirst yX0_forgetFirst ∈ a_T0 := ⟨a_mT 483 (by decide +kernel) (by decide +kernel), a_mT 5 (by decide +kernel) (by decide +kernel)⟩
set_option maxRecDepth 100000 in
theorem a_ok_X0_takeBack : a_okM mX0_takeBack := ⟨a_mT 536 rfl rfl, rfl, by decide +kernel, ⟨by decide +kernel, by decide +kernel⟩, a_in0⟩
theorem a_iv_X0_takeBack : Cond.instanceMethod yX0_takeBack ∈ a_T0 ∧ Cond.selects yX0_takeBack.cls yX0_takeBack yX0_takeBack ∈ a_T0 := ⟨a_mT 535 (by decide +kernel) (by decide +kernel), a_mT 6 (by decide +kernel) (by decide +kernel)⟩
set_option maxRecDepth 100000 in
theorem a_ok_X3_setGrey : a_okM mX3_setGrey := ⟨a_mT 288 rfl rfl, rfl, by decide +kernel, ⟨by decide +kernel, by decide +kernel⟩, a_in3⟩
theorem a_iv_X3_setGrey : Cond.instanceMethod yX3_setGrey ∈ a_T0 ∧ Cond.selects yX3_setGrey.cls yX3_setGrey yX3_setGrey ∈ a_T0 := ⟨a_mT 286 (by decide +kernel) (by decide +kernel), a_mT 287 (by decide +kernel) (by decide +kernel)⟩
set_option maxRecDepth 100000 in
theorem a_ok_X3_lighten : a_okM mX3_lighten := ⟨a_mT 503 rfl rfl, rfl, by decide +kernel, ⟨by decide +kernel, by decide +kernel⟩, a_in3⟩
theorem a_iv_X3_lighten : Cond.instanceMethod yX3_lighten ∈ a_T0 ∧ Cond.selects yX3_lighten.cls yX3_lighten yX3_lighten ∈ a_T0 := ⟨a_mT 501 (by decide +kernel) (by decide +kernel), a_mT 502 (by decide +kernel) (by decide +kernel)⟩
set_option maxRecDepth 100000 in
theorem a_ok_X3_setRule : a_okM mX3_setRule := ⟨a_mT 303 rfl rfl, rfl, by decide +kernel, ⟨by decide +kernel, by decide +kernel⟩, a_in3⟩
theorem a_iv_X3_setRule : Cond.instanceMethod yX3_setRule ∈ a_T0 ∧ Cond.selects yX3_setRule.cls yX3_setRule yX3_setRule ∈ a_T0 := ⟨a_mT 301 (by decide +kernel) (by decide +kernel), a_mT 302 (by decide +kernel) (by decide +kernel)⟩
set_option maxRecDepth 100000 in
theorem a_ok_X3_setShown : a_okM mX3_setShown := ⟨a_mT 296 rfl rfl, rfl, by decide +kernel, ⟨by decide +kernel, by decide +kernel⟩, a_in3⟩
theorem a_iv_X3_setShown : Cond.instanceMethod yX3_setShown ∈ a_T0 ∧ Cond.selects yX3_setShown.cls yX3_setShown yX3_setShown ∈ a_T0 := ⟨a_mT 294 (by decide +kernel) (by decide +kernel), a_mT 295 (by decide +kernel) (by decide +kernel)⟩
set_option maxRecDepth 100000 in
theorem a_ok_X3_setLie : a_okM mX3_setLie := ⟨a_mT 307 rfl rfl, rfl, by decide +kernel, ⟨by decide +kernel, by decide +kernel⟩, a_in3⟩
theorem a_iv_X3_setLie : Cond.instanceMethod yX3_setLie ∈ a_T0 ∧ Cond.selects yX3_setLie.cls yX3_setLie yX3_setLie ∈ a_T0 := ⟨a_mT 305 (by decide +kernel) (by decide +kernel), a_mT 306 (by decide +kernel) (by decide +kernel)⟩
set_option maxRecDepth 100000 in
theorem a_ok_X1_look : a_okM mX1_look := ⟨a_mT 324 rfl rfl, rfl, by decide +kernel, ⟨by decide +kernel, by decide +kernel⟩, a_in1⟩
theorem a_iv_X1_look : Cond.instanceMethod yX1_look ∈ a_T0 ∧ Cond.selects yX1_look.cls yX1_look yX1_look ∈ a_T0 := ⟨a_mT 322 (by decide +kernel) (by decide +kernel), a_mT 323 (by decide +kernel) (by decide +kernel)⟩
set_option maxRecDepth 100000 in
theorem a_ok_X1_dotsMarked : a_okM mX1_dotsMarked := ⟨a_mT 362 rfl rfl, rfl, by decide +kernel, ⟨by decide +kernel, by decide +kernel⟩, a_in1⟩
theorem a_iv_X1_dotsMarked : Cond.instanceMethod yX1_dotsMarked ∈ a_T0 ∧ Cond.selects yX1_dotsMarked.cls yX1_dotsMarked yX1_dotsMarked ∈ a_T0 := ⟨a_mT 360 (by decide +kernel) (by decide +kernel), a_mT 361 (by decide +kernel) (by decide +kernel)⟩
set_option maxRecDepth 100000 in
theorem a_ok_J6_bitCount_0f7a4 : a_okM mJ6_bitCount_0f7a4 := ⟨a_mT 376 rfl rfl, rfl, by decide +kernel, ⟨by decide +kernel, by decide +kernel⟩, a_in7⟩
theorem a_st_J6_bitCount_0f7a4 : Cond.static yJ6_bitCount_0f7a4 ∈ a_T0 := a_mT 375 (by decide +kernel) (by decide +kernel)
set_option maxRecDepth 100000 in
theorem a_ok_X3_dots : a_okM mX3_dots := ⟨a_mT 284 rfl rfl, rfl, by decide +kernel, ⟨by decide +kernel, by decide +kernel⟩, a_in3⟩
theorem a_iv_X3_dots : Cond.instanceMethod yX3_dots ∈ a_T0 ∧ Cond.selects yX3_dots.cls yX3_dots yX3_dots ∈ a_T0 := ⟨a_mT 282 (by decide +kernel) (by decide +kernel), a_mT 283 (by decide +kernel) (by decide +kernel)⟩
set_option maxRecDepth 100000 in
theorem a_ok_X1_lookAt : a_okM mX1_lookAt := ⟨a_mT 329 rfl rfl, rfl, by decide +kernel, ⟨by decide +kernel, by decide +kernel⟩, a_in1⟩
theorem a_iv_X1_lookAt : Cond.instanceMethod yX1_lookAt ∈ a_T0 ∧ Cond.selects yX1_lookAt.cls yX1_lookAt yX1_lookAt ∈ a_T0 := ⟨a_mT 327 (by decide +kernel) (by decide +kernel), a_mT 328 (by decide +kernel) (by decide +kernel)⟩
set_option maxRecDepth 100000 in
theorem a_ok_X3_has : a_okM mX3_has := ⟨a_mT 292 rfl rfl, rfl, by decide +kernel, ⟨by decide +kernel, by decide +kernel⟩, a_in3⟩
theorem a_iv_X3_has : Cond.instanceMethod yX3_has ∈ a_T0 ∧ Cond.selects yX3_has.cls yX3_has yX3_has ∈ a_T0 := ⟨a_mT 290 (by decide +kernel) (by decide +kernel), a_mT 291 (by decide +kernel) (by decide +kernel)⟩
set_option maxRecDepth 100000 in
theorem a_ok_X3_greyOf : a_okM mX3_greyOf := ⟨a_mT 334 rfl rfl, rfl, by decide +kernel, ⟨by decide +kernel, by decide +kernel⟩, a_in3⟩
theorem a_iv_X3_greyOf : Cond.instanceMethod yX3_greyOf ∈ a_T0 ∧ Cond.selects yX3_greyOf.cls yX3_greyOf yX3_greyOf ∈ a_T0 := ⟨a_mT 332 (by decide +kernel) (by decide +kernel), a_mT 333 (by decide +kernel) (by decide +kernel)⟩
set_option maxRecDepth 100000 in
theorem a_ok_X3_greyAlone : a_okM mX3_greyAlone := ⟨a_mT 338 rfl rfl, rfl, by decide +kernel, ⟨by decide +kernel, by decide +kernel⟩, a_in3⟩
theorem a_iv_X3_greyAlone : Cond.instanceMethod yX3_greyAlone ∈ a_T0 ∧ Cond.selects yX3_greyAlone.cls yX3_greyAlone yX3_greyAlone ∈ a_T0 := ⟨a_mT 336 (by decide +kernel) (by decide +kernel), a_mT 337 (by decide +kernel) (by decide +kernel)⟩
set_option maxRecDepth 100000 in
theorem a_ok_X3_columnOf : a_okM mX3_columnOf := ⟨a_mT 352 rfl rfl, rfl, by decide +kernel, ⟨by decide +kernel, by decide +kernel⟩, a_in3⟩
theorem a_iv_X3_columnOf : Cond.instanceMethod yX3_columnOf ∈ a_T0 ∧ Cond.selects yX3_columnOf.cls yX3_columnOf yX3_columnOf ∈ a_T0 := ⟨a_mT 350 (by decide +kernel) (by decide +kernel), a_mT 351 (by decide +kernel) (by decide +kernel)⟩
set_option maxRecDepth 100000 in
theorem a_ok_X3_rowOf : a_okM mX3_rowOf := ⟨a_mT 356 rfl rfl, rfl, by decide +kernel, ⟨by decide +kernel, by decide +kernel⟩, a_in3⟩
theorem a_iv_X3_rowOf : Cond.instanceMethod yX3_rowOf ∈ a_T0 ∧ Cond.selects yX3_rowOf.cls yX3_rowOf yX3_rowOf ∈ a_T0 := ⟨a_mT 354 (by decide +kernel) (by decide +kernel), a_mT 355 (by decide +kernel) (by decide +kernel)⟩
set_option maxRecDepth 100000 in
theorem a_ok_X1_isPlace : a_okM mX1_isPlace := ⟨a_mT 369 rfl rfl, rfl, by decide +kernel, ⟨by decide +kernel, by decide +kernel⟩, a_in1⟩
theorem a_st_X1_isPlace : Cond.static yX1_isPlace ∈ a_T0 := a_mT 368 (by decide +kernel) (by decide +kernel)
set_option maxRecDepth 100000 in
theorem a_ok_X1_markOf : a_okM mX1_markOf := ⟨a_mT 366 rfl rfl, rfl, by decide +kernel, ⟨by decide +kernel, by decide +kernel⟩, a_in1⟩
theorem a_iv_X1_markOf : Cond.instanceMethod yX1_markOf ∈ a_T0 ∧ Cond.selects yX1_markOf.cls yX1_markOf yX1_markOf ∈ a_T0 := ⟨a_mT 364 (by decide +kernel) (by decide +kernel), a_mT 365 (by decide +kernel) (by decide +kernel)⟩
set_option maxRecDepth 100000 in
theorem a_ok_X1_isDark : a_okM mX1_isDark := ⟨a_mT 373 rfl rfl, rfl, by decide +kernel, ⟨by decide +kernel, by decide +kernel⟩, a_in1⟩
theorem a_iv_X1_isDark : Cond.instanceMethod yX1_isDark ∈ a_T0 ∧ Cond.selects yX1_isDark.cls yX1_isDark yX1_isDark ∈ a_T0 := ⟨a_mT 372 (by decide +kernel) (by decide +kernel), a_mT 3 (by decide +kernel) (by decide +kernel)⟩
set_option maxRecDepth 100000 in
theorem a_ok_X2_isFull : a_okM mX2_isFull := ⟨a_mT 640 rfl rfl, rfl, by decide +kernel, ⟨by decide +kernel, by decide +kernel⟩, a_in2⟩
theorem a_iv_X2_isFull : Cond.instanceMethod yX2_isFull ∈ a_T0 ∧ Cond.selects yX2_isFull.cls yX2_isFull yX2_isFull ∈ a_T0 := ⟨a_mT 638 (by decide +kernel) (by decide +kernel), a_mT 639 (by decide +kernel) (by decide +kernel)⟩
set_option maxRecDepth 100000 in
theorem a_ok_X4_figureAt : a_okM mX4_figureAt := ⟨a_mT 265 rfl rfl, rfl, by decide +kernel, ⟨by decide +kernel, by decide +kernel⟩, a_in4⟩
theorem a_iv_X4_figureAt : Cond.instanceMethod yX4_figureAt ∈ a_T0 ∧ Cond.selects yX4_figureAt.cls yX4_figureAt yX4_figureAt ∈ a_T0 := ⟨a_mT 263 (by decide +kernel) (by decide +kernel), a_mT 264 (by decide +kernel) (by decide +kernel)⟩
set_option maxRecDepth 100000 in
theorem a_ok_X3_lyingUnder : a_okM mX3_lyingUnder := ⟨a_mT 343 rfl rfl, rfl, by decide +kernel, ⟨by decide +kernel, by decide +kernel⟩, a_in3⟩
theorem a_iv_X3_lyingUnder : Cond.instanceMethod yX3_lyingUnder ∈ a_T0 ∧ Cond.selects yX3_lyingUnder.cls yX3_lyingUnder yX3_lyingUnder ∈ a_T0 := ⟨a_mT 341 (by decide +kernel) (by decide +kernel), a_mT 342 (by decide +kernel) (by decide +kernel)⟩
set_option maxRecDepth 100000 in
theorem a_ok_X3_shownFor : a_okM mX3_shownFor := ⟨a_mT 347 rfl rfl, rfl, by decide +kernel, ⟨by decide +kernel, by decide +kernel⟩, a_in3⟩
theorem a_iv_X3_shownFor : Cond.instanceMethod yX3_shownFor ∈ a_T0 ∧ Cond.selects yX3_shownFor.cls yX3_shownFor yX3_shownFor ∈ a_T0 := ⟨a_mT 345 (by decide +kernel) (by decide +kernel), a_mT 346 (by decide +kernel) (by decide +kernel)⟩
set_option maxRecDepth 100000 in
theorem a_ok_X3_withNeighbours : a_okM mX3_withNeighbours := ⟨a_mT 471 rfl rfl, rfl, by decide +kernel, ⟨by decide +kernel, by decide +kernel⟩, a_in3⟩
theorem a_iv_X3_withNeighbours : Cond.instanceMethod yX3_withNeighbours ∈ a_T0 ∧ Cond.selects yX3_withNeighbours.cls yX3_withNeighbours yX3_withNeighbours ∈ a_T0 := ⟨a_mT 470 (by decide +kernel) (by decide +kernel), a_mT 4 (by decide +kernel) (by decide +kernel)⟩
set_option maxRecDepth 100000 in
theorem a_ok_X4_isFull : a_okM mX4_isFull := ⟨a_mT 228 rfl rfl, rfl, by decide +kernel, ⟨by decide +kernel, by decide +kernel⟩, a_in4⟩
theorem a_iv_X4_isFull : Cond.instanceMethod yX4_isFull ∈ a_T0 ∧ Cond.selects yX4_isFull.cls yX4_isFull yX4_isFull ∈ a_T0 := ⟨a_mT 226 (by decide +kernel) (by decide +kernel), a_mT 227 (by decide +kernel) (by decide +kernel)⟩
set_option maxRecDepth 100000 in
theorem a_ok_X4_fits : a_okM mX4_fits := ⟨a_mT 253 rfl rfl, rfl, by decide +kernel, ⟨by decide +kernel, by decide +kernel⟩, a_in4⟩
theorem a_iv_X4_fits : Cond.instanceMethod yX4_fits ∈ a_T0 ∧ Cond.selects yX4_fits.cls yX4_fits yX4_fits ∈ a_T0 := ⟨a_mT 252 (by decide +kernel) (by decide +kernel), a_mT 0 (by decide +kernel) (by decide +kernel)⟩
set_option maxRecDepth 100000 in
theorem a_ok_X4_dotsTold : a_okM mX4_dotsTold := ⟨a_mT 261 rfl rfl, rfl, by decide +kernel, ⟨by decide +kernel, by decide +kernel⟩, a_in4⟩
theorem a_iv_X4_dotsTold : Cond.instanceMethod yX4_dotsTold ∈ a_T0 ∧ Cond.selects yX4_dotsTold.cls yX4_dotsTold yX4_dotsTold ∈ a_T0 := ⟨a_mT 260 (by decide +kernel) (by decide +kernel), a_mT 2 (by decide +kernel) (by decide +kernel)⟩
set_option maxRecDepth 100000 in
theorem a_ok_X4_letterAt : a_okM mX4_letterAt := ⟨a_mT 257 rfl rfl, rfl, by decide +kernel, ⟨by decide +kernel, by decide +kernel⟩, a_in4⟩
theorem a_iv_X4_letterAt : Cond.instanceMethod yX4_letterAt ∈ a_T0 ∧ Cond.selects yX4_letterAt.cls yX4_letterAt yX4_letterAt ∈ a_T0 := ⟨a_mT 256 (by decide +kernel) (by decide +kernel), a_mT 1 (by decide +kernel) (by decide +kernel)⟩
set_option maxRecDepth 100000 in
theorem a_ok_X4_append : a_okM mX4_append := ⟨a_mT 232 rfl rfl, rfl, by decide +kernel, ⟨by decide +kernel, by decide +kernel⟩, a_in4⟩
theorem a_iv_X4_append : Cond.instanceMethod yX4_append ∈ a_T0 ∧ Cond.selects yX4_append.cls yX4_append yX4_append ∈ a_T0 := ⟨a_mT 230 (by decide +kernel) (by decide +kernel), a_mT 231 (by decide +kernel) (by decide +kernel)⟩
set_option maxRecDepth 100000 in
theorem a_ok_X4_clear : a_okM mX4_clear := ⟨a_mT 241 rfl rfl, rfl, by decide +kernel, ⟨by decide +kernel, by decide +kernel⟩, a_in4⟩
theorem a_iv_X4_clear : Cond.instanceMethod yX4_clear ∈ a_T0 ∧ Cond.selects yX4_clear.cls yX4_clear yX4_clear ∈ a_T0 := ⟨a_mT 239 (by decide +kernel) (by decide +kernel), a_mT 240 (by decide +kernel) (by decide +kernel)⟩
set_option maxRecDepth 100000 in
theorem a_ok_X4_firstFault : a_okM mX4_firstFault := ⟨a_mT 249 rfl rfl, rfl, by decide +kernel, ⟨by decide +kernel, by decide +kernel⟩, a_in4⟩
theorem a_iv_X4_firstFault : Cond.instanceMethod yX4_firstFault ∈ a_T0 ∧ Cond.selects yX4_firstFault.cls yX4_firstFault yX4_firstFault ∈ a_T0 := ⟨a_mT 247 (by decide +kernel) (by decide +kernel), a_mT 248 (by decide +kernel) (by decide +kernel)⟩
set_option maxRecDepth 100000 in
theorem a_ok_X3_becomeText : a_okM mX3_becomeText := ⟨a_mT 279 rfl rfl, rfl, by decide +kernel, ⟨by decide +kernel, by decide +kernel⟩, a_in3⟩
theorem a_iv_X3_becomeText : Cond.instanceMethod yX3_becomeText ∈ a_T0 ∧ Cond.selects yX3_becomeText.cls yX3_becomeText yX3_becomeText ∈ a_T0 := ⟨a_mT 277 (by decide +kernel) (by decide +kernel), a_mT 278 (by decide +kernel) (by decide +kernel)⟩
set_option maxRecDepth 100000 in
theorem a_ok_X0_forgetAll : a_okM mX0_forgetAll := ⟨a_mT 311 rfl rfl, rfl, by decide +kernel, ⟨by decide +kernel, by decide +kernel⟩, a_in0⟩
theorem a_iv_X0_forgetAll : Cond.instanceMethod yX0_forgetAll ∈ a_T0 ∧ Cond.selects yX0_forgetAll.cls yX0_forgetAll yX0_forgetAll ∈ a_T0 := ⟨a_mT 309 (by decide +kernel) (by decide +kernel), a_mT 310 (by decide +kernel) (by decide +kernel)⟩
set_option maxRecDepth 100000 in
theorem a_ok_X1_howMany : a_okM mX1_howMany := ⟨a_mT 320 rfl rfl, rfl, by decide +kernel, ⟨by decide +kernel, by decide +kernel⟩, a_in1⟩
theorem a_iv_X1_howMany : Cond.instanceMethod yX1_howMany ∈ a_T0 ∧ Cond.selects yX1_howMany.cls yX1_howMany yX1_howMany ∈ a_T0 := ⟨a_mT 318 (by decide +kernel) (by decide +kernel), a_mT 319 (by decide +kernel) (by decide +kernel)⟩
set_option maxRecDepth 100000 in
theorem a_ok_X3_greysTogether : a_okM mX3_greysTogether := ⟨a_mT 383 rfl rfl, rfl, by decide +kernel, ⟨by decide +kernel, by decide +kernel⟩, a_in3⟩
theorem a_iv_X3_greysTogether : Cond.instanceMethod yX3_greysTogether ∈ a_T0 ∧ Cond.selects yX3_greysTogether.cls yX3_greysTogether yX3_greysTogether ∈ a_T0 := ⟨a_mT 381 (by decide +kernel) (by decide +kernel), a_mT 382 (by decide +kernel) (by decide +kernel)⟩
set_option maxRecDepth 100000 in
theorem a_ok_X5_lieNumber : a_okM mX5_lieNumber := ⟨a_mT 386 rfl rfl, rfl, by decide +kernel, ⟨by decide +kernel, by decide +kernel⟩, a_in5⟩
theorem a_st_X5_lieNumber : Cond.static yX5_lieNumber ∈ a_T0 := a_mT 385 (by decide +kernel) (by decide +kernel)
set_option maxRecDepth 100000 in
theorem a_ok_X0_size : a_okM mX0_size := ⟨a_mT 390 rfl rfl, rfl, by decide +kernel, ⟨by decide +kernel, by decide +kernel⟩, a_in0⟩
theorem a_iv_X0_size : Cond.instanceMethod yX0_size ∈ a_T0 ∧ Cond.selects yX0_size.cls yX0_size yX0_size ∈ a_T0 := ⟨a_mT 388 (by decide +kernel) (by decide +kernel), a_mT 389 (by decide +kernel) (by decide +kernel)⟩
set_option maxRecDepth 100000 in
theorem a_ok_X2_size : a_okM mX2_size := ⟨a_mT 394 rfl rfl, rfl, by decide +kernel, ⟨by decide +kernel, by decide +kernel⟩, a_in2⟩
theorem a_iv_X2_size : Cond.instanceMethod yX2_size ∈ a_T0 ∧ Cond.selects yX2_size.cls yX2_size yX2_size ∈ a_T0 := ⟨a_mT 392 (by decide +kernel) (by decide +kernel), a_mT 393 (by decide +kernel) (by decide +kernel)⟩
set_option maxRecDepth 100000 in
theorem a_ok_X4_size : a_okM mX4_size := ⟨a_mT 398 rfl rfl, rfl, by decide +kernel, ⟨by decide +kernel, by decide +kernel⟩, a_in4⟩
theorem a_iv_X4_size : Cond.instanceMethod yX4_size ∈ a_T0 ∧ Cond.selects yX4_size.cls yX4_size yX4_size ∈ a_T0 := ⟨a_mT 396 (by decide +kernel) (by decide +kernel), a_mT 397 (by decide +kernel) (by decide +kernel)⟩
set_option maxRecDepth 100000 in
theorem a_ok_X5_isSide : a_okM mX5_isSide := ⟨a_mT 405 rfl rfl, rfl, by decide +kernel, ⟨by decide +kernel, by decide +kernel⟩, a_in5⟩
theorem a_st_X5_isSide : Cond.static yX5_isSide ∈ a_T0 := a_mT 404 (by decide +kernel) (by decide +kernel)
set_option maxRecDepth 100000 in
theorem a_ok_X5_isFigure : a_okM mX5_isFigure := ⟨a_mT 299 rfl rfl, rfl, by decide +kernel, ⟨by decide +kernel, by decide +kernel⟩, a_in5⟩
theorem a_st_X5_isFigure : Cond.static yX5_isFigure ∈ a_T0 := a_mT 298 (by decide +kernel) (by decide +kernel)
set_option maxRecDepth 100000 in
theorem a_ok_X1_countOf : a_okM mX1_countOf := ⟨a_mT 422 rfl rfl, rfl, by decide +kernel, ⟨by decide +kernel, by decide +kernel⟩, a_in1⟩
theorem a_iv_X1_countOf : Cond.instanceMethod yX1_countOf ∈ a_T0 ∧ Cond.selects yX1_countOf.cls yX1_countOf yX1_countOf ∈ a_T0 := ⟨a_mT 420 (by decide +kernel) (by decide +kernel), a_mT 421 (by decide +kernel) (by decide +kernel)⟩
set_option maxRecDepth 100000 in
theorem a_ok_X1_sumOf : a_okM mX1_sumOf := ⟨a_mT 426 rfl rfl, rfl, by decide +kernel, ⟨by decide +kernel, by decide +kernel⟩, a_in1⟩
theorem a_iv_X1_sumOf : Cond.instanceMethod yX1_sumOf ∈ a_T0 ∧ Cond.selects yX1_sumOf.cls yX1_sumOf yX1_sumOf ∈ a_T0 := ⟨a_mT 424 (by decide +kernel) (by decide +kernel), a_mT 425 (by decide +kernel) (by decide +kernel)⟩
set_option maxRecDepth 100000 in
theorem a_ok_X1_squaresOf : a_okM mX1_squaresOf := ⟨a_mT 430 rfl rfl, rfl, by decide +kernel, ⟨by decide +kernel, by decide +kernel⟩, a_in1⟩
theorem a_iv_X1_squaresOf : Cond.instanceMethod yX1_squaresOf ∈ a_T0 ∧ Cond.selects yX1_squaresOf.cls yX1_squaresOf yX1_squaresOf ∈ a_T0 := ⟨a_mT 428 (by decide +kernel) (by decide +kernel), a_mT 429 (by decide +kernel) (by decide +kernel)⟩
set_option maxRecDepth 100000 in
theorem a_ok_X5_fraction : a_okM mX5_fraction := ⟨a_mT 437 rfl rfl, rfl, by decide +kernel, ⟨by decide +kernel, by decide +kernel⟩, a_in5⟩
theorem a_st_X5_fraction : Cond.static yX5_fraction ∈ a_T0 := a_mT 436 (by decide +kernel) (by decide +kernel)
set_option maxRecDepth 100000 in
theorem a_ok_X1_unevenness : a_okM mX1_unevenness := ⟨a_mT 447 rfl rfl, rfl, by decide +kernel, ⟨by decide +kernel, by decide +kernel⟩, a_in1⟩
theorem a_iv_X1_unevenness : Cond.instanceMethod yX1_unevenness ∈ a_T0 ∧ Cond.selects yX1_unevenness.cls yX1_unevenness yX1_unevenness ∈ a_T0 := ⟨a_mT 445 (by decide +kernel) (by decide +kernel), a_mT 446 (by decide +kernel) (by decide +kernel)⟩
set_option maxRecDepth 100000 in
theorem a_ok_X3_hangingTogether : a_okM mX3_hangingTogether := ⟨a_mT 467 rfl rfl, rfl, by decide +kernel, ⟨by decide +kernel, by decide +kernel⟩, a_in3⟩
theorem a_iv_X3_hangingTogether : Cond.instanceMethod yX3_hangingTogether ∈ a_T0 ∧ Cond.selects yX3_hangingTogether.cls yX3_hangingTogether yX3_hangingTogether ∈ a_T0 := ⟨a_mT 465 (by decide +kernel) (by decide +kernel), a_mT 466 (by decide +kernel) (by decide +kernel)⟩
set_option maxRecDepth 100000 in
theorem a_ok_X0_add : a_okM mX0_add := ⟨a_mT 480 rfl rfl, rfl, by decide +kernel, ⟨by decide +kernel, by decide +kernel⟩, a_in0⟩
theorem a_iv_X0_add : Cond.instanceMethod yX0_add ∈ a_T0 ∧ Cond.selects yX0_add.cls yX0_add yX0_add ∈ a_T0 := ⟨a_mT 478 (by decide +kernel) (by decide +kernel), a_mT 479 (by decide +kernel) (by decide +kernel)⟩
set_option maxRecDepth 100000 in
theorem a_ok_X5_isLight : a_okM mX5_isLight := ⟨a_mT 495 rfl rfl, rfl, by decide +kernel, ⟨by decide +kernel, by decide +kernel⟩, a_in5⟩
theorem a_st_X5_isLight : Cond.static yX5_isLight ∈ a_T0 := a_mT 494 (by decide +kernel) (by decide +kernel)
set_option maxRecDepth 100000 in
theorem a_ok_X3_staysGrey : a_okM mX3_staysGrey := ⟨a_mT 499 rfl rfl, rfl, by decide +kernel, ⟨by decide +kernel, by decide +kernel⟩, a_in3⟩
theorem a_iv_X3_staysGrey : Cond.instanceMethod yX3_staysGrey ∈ a_T0 ∧ Cond.selects yX3_staysGrey.cls yX3_staysGrey yX3_staysGrey ∈ a_T0 := ⟨a_mT 497 (by decide +kernel) (by decide +kernel), a_mT 498 (by decide +kernel) (by decide +kernel)⟩
set_option maxRecDepth 100000 in
theorem a_ok_X5_isRule : a_okM mX5_isRule := ⟨a_mT 510 rfl rfl, rfl, by decide +kernel, ⟨by decide +kernel, by decide +kernel⟩, a_in5⟩
theorem a_st_X5_isRule : Cond.static yX5_isRule ∈ a_T0 := a_mT 509 (by decide +kernel) (by decide +kernel)
set_option maxRecDepth 100000 in
theorem a_ok_X5_isLie : a_okM mX5_isLie := ⟨a_mT 523 rfl rfl, rfl, by decide +kernel, ⟨by decide +kernel, by decide +kernel⟩, a_in5⟩
theorem a_st_X5_isLie : Cond.static yX5_isLie ∈ a_T0 := a_mT 522 (by decide +kernel) (by decide +kernel)
set_option maxRecDepth 100000 in
theorem a_ok_X0_takeBackLast : a_okM mX0_takeBackLast := ⟨a_mT 532 rfl rfl, rfl, by decide +kernel, ⟨by decide +kernel, by decide +kernel⟩, a_in0⟩
theorem a_iv_X0_takeBackLast : Cond.instanceMethod yX0_takeBackLast ∈ a_T0 ∧ Cond.selects yX0_takeBackLast.cls yX0_takeBackLast yX0_takeBackLast ∈ a_T0 := ⟨a_mT 530 (by decide +kernel) (by decide +kernel), a_mT 531 (by decide +kernel) (by decide +kernel)⟩
set_option maxRecDepth 100000 in
theorem a_ok_X3_pairs : a_okM mX3_pairs := ⟨a_mT 549 rfl rfl, rfl, by decide +kernel, ⟨by decide +kernel, by decide +kernel⟩, a_in3⟩
theorem a_iv_X3_pairs : Cond.instanceMethod yX3_pairs ∈ a_T0 ∧ Cond.selects yX3_pairs.cls yX3_pairs yX3_pairs ∈ a_T0 := ⟨a_mT 547 (by decide +kernel) (by decide +kernel), a_mT 548 (by decide +kernel) (by decide +kernel)⟩
set_option maxRecDepth 100000 in
theorem a_ok_X3_difference : a_okM mX3_difference := ⟨a_mT 553 rfl rfl, rfl, by decide +kernel, ⟨by decide +kernel, by decide +kernel⟩, a_in3⟩
theorem a_iv_X3_difference : Cond.instanceMethod yX3_difference ∈ a_T0 ∧ Cond.selects yX3_difference.cls yX3_difference yX3_difference ∈ a_T0 := ⟨a_mT 551 (by decide +kernel) (by decide +kernel), a_mT 552 (by decide +kernel) (by decide +kernel)⟩
set_option maxRecDepth 100000 in
theorem a_ok_X5_bestLie : a_okM mX5_bestLie := ⟨a_mT 561 rfl rfl, rfl, by decide +kernel, ⟨by decide +kernel, by decide +kernel⟩, a_in5⟩
theorem a_iv_X5_bestLie : Cond.instanceMethod yX5_bestLie ∈ a_T0 ∧ Cond.selects yX5_bestLie.cls yX5_bestLie yX5_bestLie ∈ a_T0 := ⟨a_mT 560 (by decide +kernel) (by decide +kernel), a_mT 7 (by decide +kernel) (by decide +kernel)⟩
set_option maxRecDepth 100000 in
theorem a_ok_X5_bestWindow : a_okM mX5_bestWindow := ⟨a_mT 565 rfl rfl, rfl, by decide +kernel, ⟨by decide +kernel, by decide +kernel⟩, a_in5⟩
theorem a_iv_X5_bestWindow : Cond.instanceMethod yX5_bestWindow ∈ a_T0 ∧ Cond.selects yX5_bestWindow.cls yX5_bestWindow yX5_bestWindow ∈ a_T0 := ⟨a_mT 564 (by decide +kernel) (by decide +kernel), a_mT 8 (by decide +kernel) (by decide +kernel)⟩
set_option maxRecDepth 100000 in
theorem a_ok_X3_copyFrom : a_okM mX3_copyFrom := ⟨a_mT 578 rfl rfl, rfl, by decide +kernel, ⟨by decide +kernel, by decide +kernel⟩, a_in3⟩
theorem a_iv_X3_copyFrom : Cond.instanceMethod yX3_copyFrom ∈ a_T0 ∧ Cond.selects yX3_copyFrom.cls yX3_copyFrom yX3_copyFrom ∈ a_T0 := ⟨a_mT 576 (by decide +kernel) (by decide +kernel), a_mT 577 (by decide +kernel) (by decide +kernel)⟩
set_option maxRecDepth 100000 in
theorem a_ok_X5_canBe : a_okM mX5_canBe := ⟨a_mT 584 rfl rfl, rfl, by decide +kernel, ⟨by decide +kernel, by decide +kernel⟩, a_in5⟩
theorem a_iv_X5_canBe : Cond.instanceMethod yX5_canBe ∈ a_T0 ∧ Cond.selects yX5_canBe.cls yX5_canBe yX5_canBe ∈ a_T0 := ⟨a_mT 583 (by decide +kernel) (by decide +kernel), a_mT 9 (by decide +kernel) (by decide +kernel)⟩
set_option maxRecDepth 100000 in
theorem a_ok_X3_hasRow : a_okM mX3_hasRow := ⟨a_mT 616 rfl rfl, rfl, by decide +kernel, ⟨by decide +kernel, by decide +kernel⟩, a_in3⟩
theorem a_iv_X3_hasRow : Cond.instanceMethod yX3_hasRow ∈ a_T0 ∧ Cond.selects yX3_hasRow.cls yX3_hasRow yX3_hasRow ∈ a_T0 := ⟨a_mT 614 (by decide +kernel) (by decide +kernel), a_mT 615 (by decide +kernel) (by decide +kernel)⟩
set_option maxRecDepth 100000 in
theorem a_ok_X5_inkWhenCome : a_okM mX5_inkWhenCome := ⟨a_mT 620 rfl rfl, rfl, by decide +kernel, ⟨by decide +kernel, by decide +kernel⟩, a_in5⟩
theorem a_iv_X5_inkWhenCome : Cond.instanceMethod yX5_inkWhenCome ∈ a_T0 ∧ Cond.selects yX5_inkWhenCome.cls yX5_inkWhenCome yX5_inkWhenCome ∈ a_T0 := ⟨a_mT 619 (by decide +kernel) (by decide +kernel), a_mT 16 (by decide +kernel) (by decide +kernel)⟩
set_option maxRecDepth 100000 in
theorem a_ok_X5_ordersWith : a_okM mX5_ordersWith := ⟨a_mT 627 rfl rfl, rfl, by decide +kernel, ⟨by decide +kernel, by decide +kernel⟩, a_in5⟩
theorem a_st_X5_ordersWith : Cond.static yX5_ordersWith ∈ a_T0 := a_mT 626 (by decide +kernel) (by decide +kernel)
set_option maxRecDepth 100000 in
theorem a_ok_X5_factorial : a_okM mX5_factorial := ⟨a_mT 630 rfl rfl, rfl, by decide +kernel, ⟨by decide +kernel, by decide +kernel⟩, a_in5⟩
theorem a_st_X5_factorial : Cond.static yX5_factorial ∈ a_T0 := a_mT 629 (by decide +kernel) (by decide +kernel)
set_option maxRecDepth 100000 in
theorem a_ok_X2_add : a_okM mX2_add := ⟨a_mT 644 rfl rfl, rfl, by decide +kernel, ⟨by decide +kernel, by decide +kernel⟩, a_in2⟩
theorem a_iv_X2_add : Cond.instanceMethod yX2_add ∈ a_T0 ∧ Cond.selects yX2_add.cls yX2_add yX2_add ∈ a_T0 := ⟨a_mT 642 (by decide +kernel) (by decide +kernel), a_mT 643 (by decide +kernel) (by decide +kernel)⟩
set_option maxRecDepth 100000 in
theorem a_ok_X2_clear : a_okM mX2_clear := ⟨a_mT 653 rfl rfl, rfl, by decide +kernel, ⟨by decide +kernel, by decide +kernel⟩, a_in2⟩
theorem a_iv_X2_clear : Cond.instanceMethod yX2_clear ∈ a_T0 ∧ Cond.selects yX2_clear.cls yX2_clear yX2_clear ∈ a_T0 := ⟨a_mT 651 (by decide +kernel) (by decide +kernel), a_mT 652 (by decide +kernel) (by decide +kernel)⟩
set_option maxRecDepth 100000 in
theorem a_ok_X2_agreesWith : a_okM mX2_agreesWith := ⟨a_mT 661 rfl rfl, rfl, by decide +kernel, ⟨by decide +kernel, by decide +kernel⟩, a_in2⟩
theorem a_iv_X2_agreesWith : Cond.instanceMethod yX2_agreesWith ∈ a_T0 ∧ Cond.selects yX2_agreesWith.cls yX2_agreesWith yX2_agreesWith ∈ a_T0 := ⟨a_mT 659 (by decide +kernel) (by decide +kernel), a_mT 660 (by decide +kernel) (by decide +kernel)⟩
set_option maxRecDepth 100000 in
theorem a_ok_X5_windowNumber : a_okM mX5_windowNumber := ⟨a_mT 568 rfl rfl, rfl, by decide +kernel, ⟨by decide +kernel, by decide +kernel⟩, a_in5⟩
theorem a_st_X5_windowNumber : Cond.static yX5_windowNumber ∈ a_T0 := a_mT 567 (by decide +kernel) (by decide +kernel)
set_option maxRecDepth 100000 in
theorem a_ok_X5_inkWhenBleached : a_okM mX5_inkWhenBleached := ⟨a_mT 669 rfl rfl, rfl, by decide +kernel, ⟨by decide +kernel, by decide +kernel⟩, a_in5⟩
theorem a_iv_X5_inkWhenBleached : Cond.instanceMethod yX5_inkWhenBleached ∈ a_T0 ∧ Cond.selects yX5_inkWhenBleached.cls yX5_inkWhenBleached yX5_inkWhenBleached ∈ a_T0 := ⟨a_mT 668 (by decide +kernel) (by decide +kernel), a_mT 17 (by decide +kernel) (by decide +kernel)⟩
set_option maxRecDepth 100000 in
theorem a_ok_X5_power : a_okM mX5_power := ⟨a_mT 672 rfl rfl, rfl, by decide +kernel, ⟨by decide +kernel, by decide +kernel⟩, a_in5⟩
theorem a_st_X5_power : Cond.static yX5_power ∈ a_T0 := a_mT 671 (by decide +kernel) (by decide +kernel)
set_option maxRecDepth 100000 in
theorem a_ok_X5_remainder : a_okM mX5_remainder := ⟨a_mT 685 rfl rfl, rfl, by decide +kernel, ⟨by decide +kernel, by decide +kernel⟩, a_in5⟩
theorem a_st_X5_remainder : Cond.static yX5_remainder ∈ a_T0 := a_mT 684 (by decide +kernel) (by decide +kernel)
set_option maxRecDepth 100000 in
theorem a_ok_X5_isSlot : a_okM mX5_isSlot := ⟨a_mT 692 rfl rfl, rfl, by decide +kernel, ⟨by decide +kernel, by decide +kernel⟩, a_in5⟩
theorem a_st_X5_isSlot : Cond.static yX5_isSlot ∈ a_T0 := a_mT 691 (by decide +kernel) (by decide +kernel)
set_option maxRecDepth 100000 in
theorem a_ok_X5_slotAt : a_okM mX5_slotAt := ⟨a_mT 696 rfl rfl, rfl, by decide +kernel, ⟨by decide +kernel, by decide +kernel⟩, a_in5⟩
theorem a_iv_X5_slotAt : Cond.instanceMethod yX5_slotAt ∈ a_T0 ∧ Cond.selects yX5_slotAt.cls yX5_slotAt yX5_slotAt ∈ a_T0 := ⟨a_mT 695 (by decide +kernel) (by decide +kernel), a_mT 18 (by decide +kernel) (by decide +kernel)⟩
set_option maxRecDepth 100000 in
theorem a_ok_X3_whiten : a_okM mX3_whiten := ⟨a_mT 624 rfl rfl, rfl, by decide +kernel, ⟨by decide +kernel, by decide +kernel⟩, a_in3⟩
theorem a_iv_X3_whiten : Cond.instanceMethod yX3_whiten ∈ a_T0 ∧ Cond.selects yX3_whiten.cls yX3_whiten yX3_whiten ∈ a_T0 := ⟨a_mT 622 (by decide +kernel) (by decide +kernel), a_mT 623 (by decide +kernel) (by decide +kernel)⟩
set_option maxRecDepth 100000 in
theorem a_ok_X5_canPaint : a_okM mX5_canPaint := ⟨a_mT 588 rfl rfl, rfl, by decide +kernel, ⟨by decide +kernel, by decide +kernel⟩, a_in5⟩
theorem a_iv_X5_canPaint : Cond.instanceMethod yX5_canPaint ∈ a_T0 ∧ Cond.selects yX5_canPaint.cls yX5_canPaint yX5_canPaint ∈ a_T0 := ⟨a_mT 587 (by decide +kernel) (by decide +kernel), a_mT 10 (by decide +kernel) (by decide +kernel)⟩
set_option maxRecDepth 100000 in
theorem a_ok_X5_canLighten : a_okM mX5_canLighten := ⟨a_mT 592 rfl rfl, rfl, by decide +kernel, ⟨by decide +kernel, by decide +kernel⟩, a_in5⟩
theorem a_iv_X5_canLighten : Cond.instanceMethod yX5_canLighten ∈ a_T0 ∧ Cond.selects yX5_canLighten.cls yX5_canLighten yX5_canLighten ∈ a_T0 := ⟨a_mT 591 (by decide +kernel) (by decide +kernel), a_mT 11 (by decide +kernel) (by decide +kernel)⟩
set_option maxRecDepth 100000 in
theorem a_ok_X5_canRule : a_okM mX5_canRule := ⟨a_mT 596 rfl rfl, rfl, by decide +kernel, ⟨by decide +kernel, by decide +kernel⟩, a_in5⟩
theorem a_iv_X5_canRule : Cond.instanceMethod yX5_canRule ∈ a_T0 ∧ Cond.selects yX5_canRule.cls yX5_canRule yX5_canRule ∈ a_T0 := ⟨a_mT 595 (by decide +kernel) (by decide +kernel), a_mT 12 (by decide +kernel) (by decide +kernel)⟩
set_option maxRecDepth 100000 in
theorem a_ok_X5_canTable : a_okM mX5_canTable := ⟨a_mT 600 rfl rfl, rfl, by decide +kernel, ⟨by decide +kernel, by decide +kernel⟩, a_in5⟩
theorem a_iv_X5_canTable : Cond.instanceMethod yX5_canTable ∈ a_T0 ∧ Cond.selects yX5_canTable.cls yX5_canTable yX5_canTable ∈ a_T0 := ⟨a_mT 599 (by decide +kernel) (by decide +kernel), a_mT 13 (by decide +kernel) (by decide +kernel)⟩
set_option maxRecDepth 100000 in
theorem a_ok_X5_canLay : a_okM mX5_canLay := ⟨a_mT 604 rfl rfl, rfl, by decide +kernel, ⟨by decide +kernel, by decide +kernel⟩, a_in5⟩
theorem a_iv_X5_canLay : Cond.instanceMethod yX5_canLay ∈ a_T0 ∧ Cond.selects yX5_canLay.cls yX5_canLay yX5_canLay ∈ a_T0 := ⟨a_mT 603 (by decide +kernel) (by decide +kernel), a_mT 14 (by decide +kernel) (by decide +kernel)⟩
set_option maxRecDepth 100000 in
theorem a_ok_X5_isSoMarked : a_okM mX5_isSoMarked := ⟨a_mT 608 rfl rfl, rfl, by decide +kernel, ⟨by decide +kernel, by decide +kernel⟩, a_in5⟩
theorem a_iv_X5_isSoMarked : Cond.instanceMethod yX5_isSoMarked ∈ a_T0 ∧ Cond.selects yX5_isSoMarked.cls yX5_isSoMarked yX5_isSoMarked ∈ a_T0 := ⟨a_mT 607 (by decide +kernel) (by decide +kernel), a_mT 15 (by decide +kernel) (by decide +kernel)⟩
set_option maxRecDepth 100000 in
theorem a_ok_X5_commonDivisor : a_okM mX5_commonDivisor := ⟨a_mT 443 rfl rfl, rfl, by decide +kernel, ⟨by decide +kernel, by decide +kernel⟩, a_in5⟩
theorem a_st_X5_commonDivisor : Cond.static yX5_commonDivisor ∈ a_T0 := a_mT 442 (by decide +kernel) (by decide +kernel)
set_option maxRecDepth 100000 in
theorem a_ok_X6_openRule : a_okM mX6_openRule := ⟨a_mT 709 rfl rfl, rfl, by decide +kernel, ⟨by decide +kernel, by decide +kernel⟩, a_in6⟩
theorem a_st_X6_openRule : Cond.static yX6_openRule ∈ a_T0 := a_mT 708 (by decide +kernel) (by decide +kernel)
set_option maxRecDepth 100000 in
theorem a_ok_X6_divisor : a_okM mX6_divisor := ⟨a_mT 865 rfl rfl, rfl, by decide +kernel, ⟨by decide +kernel, by decide +kernel⟩, a_in6⟩
theorem a_st_X6_divisor : Cond.static yX6_divisor ∈ a_T0 := a_mT 864 (by decide +kernel) (by decide +kernel)
set_option maxRecDepth 100000 in
theorem a_ok_X6_dotsOf : a_okM mX6_dotsOf := ⟨a_mT 806 rfl rfl, rfl, by decide +kernel, ⟨by decide +kernel, by decide +kernel⟩, a_in6⟩
theorem a_st_X6_dotsOf : Cond.static yX6_dotsOf ∈ a_T0 := a_mT 805 (by decide +kernel) (by decide +kernel)
set_option maxRecDepth 100000 in
theorem a_ok_X6_in : a_okM mX6_in := ⟨a_mT 785 rfl rfl, rfl, by decide +kernel, ⟨by decide +kernel, by decide +kernel⟩, a_in6⟩
theorem a_st_X6_in : Cond.static yX6_in ∈ a_T0 := a_mT 784 (by decide +kernel) (by decide +kernel)
set_option maxRecDepth 100000 in
theorem a_ok_X6_figureAt : a_okM mX6_figureAt := ⟨a_mT 801 rfl rfl, rfl, by decide +kernel, ⟨by decide +kernel, by decide +kernel⟩, a_in6⟩
theorem a_iv_X6_figureAt : Cond.instanceMethod yX6_figureAt ∈ a_T0 ∧ Cond.selects yX6_figureAt.cls yX6_figureAt yX6_figureAt ∈ a_T0 := ⟨a_mT 800 (by decide +kernel) (by decide +kernel), a_mT 20 (by decide +kernel) (by decide +kernel)⟩
set_option maxRecDepth 100000 in
theorem a_ok_X6_readLeaf : a_okM mX6_readLeaf := ⟨a_mT 797 rfl rfl, rfl, by decide +kernel, ⟨by decide +kernel, by decide +kernel⟩, a_in6⟩
theorem a_iv_X6_readLeaf : Cond.instanceMethod yX6_readLeaf ∈ a_T0 ∧ Cond.selects yX6_readLeaf.cls yX6_readLeaf yX6_readLeaf ∈ a_T0 := ⟨a_mT 796 (by decide +kernel) (by decide +kernel), a_mT 19 (by decide +kernel) (by decide +kernel)⟩
set_option maxRecDepth 100000 in
theorem a_ok_X6_far : a_okM mX6_far := ⟨a_mT 829 rfl rfl, rfl, by decide +kernel, ⟨by decide +kernel, by decide +kernel⟩, a_in6⟩
theorem a_st_X6_far : Cond.static yX6_far ∈ a_T0 := a_mT 828 (by decide +kernel) (by decide +kernel)
set_option maxRecDepth 100000 in
theorem a_ok_X6_layWindow : a_okM mX6_layWindow := ⟨a_mT 826 rfl rfl, rfl, by decide +kernel, ⟨by decide +kernel, by decide +kernel⟩, a_in6⟩
theorem a_iv_X6_layWindow : Cond.instanceMethod yX6_layWindow ∈ a_T0 ∧ Cond.selects yX6_layWindow.cls yX6_layWindow yX6_layWindow ∈ a_T0 := ⟨a_mT 825 (by decide +kernel) (by decide +kernel), a_mT 23 (by decide +kernel) (by decide +kernel)⟩
set_option maxRecDepth 100000 in
theorem a_ok_X6_isDark : a_okM mX6_isDark := ⟨a_mT 833 rfl rfl, rfl, by decide +kernel, ⟨by decide +kernel, by decide +kernel⟩, a_in6⟩
theorem a_iv_X6_isDark : Cond.instanceMethod yX6_isDark ∈ a_T0 ∧ Cond.selects yX6_isDark.cls yX6_isDark yX6_isDark ∈ a_T0 := ⟨a_mT 832 (by decide +kernel) (by decide +kernel), a_mT 24 (by decide +kernel) (by decide +kernel)⟩
set_option maxRecDepth 100000 in
theorem a_ok_X6_underOf : a_okM mX6_underOf := ⟨a_mT 836 rfl rfl, rfl, by decide +kernel, ⟨by decide +kernel, by decide +kernel⟩, a_in6⟩
theorem a_st_X6_underOf : Cond.static yX6_underOf ∈ a_T0 := a_mT 835 (by decide +kernel) (by decide +kernel)
set_option maxRecDepth 100000 in
theorem a_ok_X6_markOf : a_okM mX6_markOf := ⟨a_mT 822 rfl rfl, rfl, by decide +kernel, ⟨by decide +kernel, by decide +kernel⟩, a_in6⟩
theorem a_iv_X6_markOf : Cond.instanceMethod yX6_markOf ∈ a_T0 ∧ Cond.selects yX6_markOf.cls yX6_markOf yX6_markOf ∈ a_T0 := ⟨a_mT 821 (by decide +kernel) (by decide +kernel), a_mT 22 (by decide +kernel) (by decide +kernel)⟩
set_option maxRecDepth 100000 in
theorem a_ok_X6_marks : a_okM mX6_marks := ⟨a_mT 818 rfl rfl, rfl, by decide +kernel, ⟨by decide +kernel, by decide +kernel⟩, a_in6⟩
theorem a_iv_X6_marks : Cond.instanceMethod yX6_marks ∈ a_T0 ∧ Cond.selects yX6_marks.cls yX6_marks yX6_marks ∈ a_T0 := ⟨a_mT 817 (by decide +kernel) (by decide +kernel), a_mT 21 (by decide +kernel) (by decide +kernel)⟩
set_option maxRecDepth 100000 in
theorem a_ok_X6_greys : a_okM mX6_greys := ⟨a_mT 839 rfl rfl, rfl, by decide +kernel, ⟨by decide +kernel, by decide +kernel⟩, a_in6⟩
theorem a_st_X6_greys : Cond.static yX6_greys ∈ a_T0 := a_mT 838 (by decide +kernel) (by decide +kernel)
set_option maxRecDepth 100000 in
theorem a_ok_X6_noDot : a_okM mX6_noDot := ⟨a_mT 847 rfl rfl, rfl, by decide +kernel, ⟨by decide +kernel, by decide +kernel⟩, a_in6⟩
theorem a_iv_X6_noDot : Cond.instanceMethod yX6_noDot ∈ a_T0 ∧ Cond.selects yX6_noDot.cls yX6_noDot yX6_noDot ∈ a_T0 := ⟨a_mT 846 (by decide +kernel) (by decide +kernel), a_mT 25 (by decide +kernel) (by decide +kernel)⟩
set_option maxRecDepth 100000 in
theorem a_ok_X6_fraction : a_okM mX6_fraction := ⟨a_mT 862 rfl rfl, rfl, by decide +kernel, ⟨by decide +kernel, by decide +kernel⟩, a_in6⟩
theorem a_st_X6_fraction : Cond.static yX6_fraction ∈ a_T0 := a_mT 861 (by decide +kernel) (by decide +kernel)
set_option maxRecDepth 100000 in
theorem a_ok_X6_has : a_okM mX6_has := ⟨a_mT 885 rfl rfl, rfl, by decide +kernel, ⟨by decide +kernel, by decide +kernel⟩, a_in6⟩
theorem a_st_X6_has : Cond.static yX6_has ∈ a_T0 := a_mT 884 (by decide +kernel) (by decide +kernel)
set_option maxRecDepth 100000 in
theorem a_ok_X6_inkOf : a_okM mX6_inkOf := ⟨a_mT 882 rfl rfl, rfl, by decide +kernel, ⟨by decide +kernel, by decide +kernel⟩, a_in6⟩
theorem a_iv_X6_inkOf : Cond.instanceMethod yX6_inkOf ∈ a_T0 ∧ Cond.selects yX6_inkOf.cls yX6_inkOf yX6_inkOf ∈ a_T0 := ⟨a_mT 881 (by decide +kernel) (by decide +kernel), a_mT 26 (by decide +kernel) (by decide +kernel)⟩
set_option maxRecDepth 100000 in
theorem a_ok_X6_hanging : a_okM mX6_hanging := ⟨a_mT 888 rfl rfl, rfl, by decide +kernel, ⟨by decide +kernel, by decide +kernel⟩, a_in6⟩
theorem a_st_X6_hanging : Cond.static yX6_hanging ∈ a_T0 := a_mT 887 (by decide +kernel) (by decide +kernel)
set_option maxRecDepth 100000 in
theorem a_ok_X6_many : a_okM mX6_many := ⟨a_mT 891 rfl rfl, rfl, by decide +kernel, ⟨by decide +kernel, by decide +kernel⟩, a_in6⟩
theorem a_st_X6_many : Cond.static yX6_many ∈ a_T0 := a_mT 890 (by decide +kernel) (by decide +kernel)
set_option maxRecDepth 100000 in
theorem a_ok_X6_note : a_okM mX6_note := ⟨a_mT 899 rfl rfl, rfl, by decide +kernel, ⟨by decide +kernel, by decide +kernel⟩, a_in6⟩
theorem a_iv_X6_note : Cond.instanceMethod yX6_note ∈ a_T0 ∧ Cond.selects yX6_note.cls yX6_note yX6_note ∈ a_T0 := ⟨a_mT 898 (by decide +kernel) (by decide +kernel), a_mT 27 (by decide +kernel) (by decide +kernel)⟩
set_option maxRecDepth 100000 in
theorem a_ok_X6_canLight : a_okM mX6_canLight := ⟨a_mT 907 rfl rfl, rfl, by decide +kernel, ⟨by decide +kernel, by decide +kernel⟩, a_in6⟩
theorem a_st_X6_canLight : Cond.static yX6_canLight ∈ a_T0 := a_mT 906 (by decide +kernel) (by decide +kernel)
set_option maxRecDepth 100000 in
theorem a_ok_X6_goLight : a_okM mX6_goLight := ⟨a_mT 910 rfl rfl, rfl, by decide +kernel, ⟨by decide +kernel, by decide +kernel⟩, a_in6⟩
theorem a_st_X6_goLight : Cond.static yX6_goLight ∈ a_T0 := a_mT 909 (by decide +kernel) (by decide +kernel)
set_option maxRecDepth 100000 in
theorem a_ok_X6_isRule : a_okM mX6_isRule := ⟨a_mT 917 rfl rfl, rfl, by decide +kernel, ⟨by decide +kernel, by decide +kernel⟩, a_in6⟩
theorem a_st_X6_isRule : Cond.static yX6_isRule ∈ a_T0 := a_mT 916 (by decide +kernel) (by decide +kernel)
set_option maxRecDepth 100000 in
theorem a_ok_X6_goRule : a_okM mX6_goRule := ⟨a_mT 921 rfl rfl, rfl, by decide +kernel, ⟨by decide +kernel, by decide +kernel⟩, a_in6⟩
theorem a_st_X6_goRule : Cond.static yX6_goRule ∈ a_T0 := a_mT 920 (by decide +kernel) (by decide +kernel)
set_option maxRecDepth 100000 in
theorem a_ok_X6_isLie : a_okM mX6_isLie := ⟨a_mT 932 rfl rfl, rfl, by decide +kernel, ⟨by decide +kernel, by decide +kernel⟩, a_in6⟩
theorem a_st_X6_isLie : Cond.static yX6_isLie ∈ a_T0 := a_mT 931 (by decide +kernel) (by decide +kernel)
set_option maxRecDepth 100000 in
theorem a_ok_X6_layFit : a_okM mX6_layFit := ⟨a_mT 945 rfl rfl, rfl, by decide +kernel, ⟨by decide +kernel, by decide +kernel⟩, a_in6⟩
theorem a_iv_X6_layFit : Cond.instanceMethod yX6_layFit ∈ a_T0 ∧ Cond.selects yX6_layFit.cls yX6_layFit yX6_layFit ∈ a_T0 := ⟨a_mT 944 (by decide +kernel) (by decide +kernel), a_mT 28 (by decide +kernel) (by decide +kernel)⟩
set_option maxRecDepth 100000 in
theorem a_ok_X6_begin : a_okM mX6_begin := ⟨a_mT 965 rfl rfl, rfl, by decide +kernel, ⟨by decide +kernel, by decide +kernel⟩, a_in6⟩
theorem a_iv_X6_begin : Cond.instanceMethod yX6_begin ∈ a_T0 ∧ Cond.selects yX6_begin.cls yX6_begin yX6_begin ∈ a_T0 := ⟨a_mT 964 (by decide +kernel) (by decide +kernel), a_mT 32 (by decide +kernel) (by decide +kernel)⟩
set_option maxRecDepth 100000 in
theorem a_ok_X6_inkBy : a_okM mX6_inkBy := ⟨a_mT 961 rfl rfl, rfl, by decide +kernel, ⟨by decide +kernel, by decide +kernel⟩, a_in6⟩
theorem a_iv_X6_inkBy : Cond.instanceMethod yX6_inkBy ∈ a_T0 ∧ Cond.selects yX6_inkBy.cls yX6_inkBy yX6_inkBy ∈ a_T0 := ⟨a_mT 960 (by decide +kernel) (by decide +kernel), a_mT 31 (by decide +kernel) (by decide +kernel)⟩
set_option maxRecDepth 100000 in
theorem a_ok_X6_bestLie : a_okM mX6_bestLie := ⟨a_mT 953 rfl rfl, rfl, by decide +kernel, ⟨by decide +kernel, by decide +kernel⟩, a_in6⟩
theorem a_iv_X6_bestLie : Cond.instanceMethod yX6_bestLie ∈ a_T0 ∧ Cond.selects yX6_bestLie.cls yX6_bestLie yX6_bestLie ∈ a_T0 := ⟨a_mT 952 (by decide +kernel) (by decide +kernel), a_mT 29 (by decide +kernel) (by decide +kernel)⟩
set_option maxRecDepth 100000 in
theorem a_ok_X6_bestRule : a_okM mX6_bestRule := ⟨a_mT 957 rfl rfl, rfl, by decide +kernel, ⟨by decide +kernel, by decide +kernel⟩, a_in6⟩
theorem a_iv_X6_bestRule : Cond.instanceMethod yX6_bestRule ∈ a_T0 ∧ Cond.selects yX6_bestRule.cls yX6_bestRule yX6_bestRule ∈ a_T0 := ⟨a_mT 956 (by decide +kernel) (by decide +kernel), a_mT 30 (by decide +kernel) (by decide +kernel)⟩
set_option maxRecDepth 100000 in
theorem a_ok_X6_puts : a_okM mX6_puts := ⟨a_mT 982 rfl rfl, rfl, by decide +kernel, ⟨by decide +kernel, by decide +kernel⟩, a_in6⟩
theorem a_iv_X6_puts : Cond.instanceMethod yX6_puts ∈ a_T0 ∧ Cond.selects yX6_puts.cls yX6_puts yX6_puts ∈ a_T0 := ⟨a_mT 981 (by decide +kernel) (by decide +kernel), a_mT 34 (by decide +kernel) (by decide +kernel)⟩
set_option maxRecDepth 100000 in
theorem a_ok_X6_lights : a_okM mX6_lights := ⟨a_mT 986 rfl rfl, rfl, by decide +kernel, ⟨by decide +kernel, by decide +kernel⟩, a_in6⟩
theorem a_iv_X6_lights : Cond.instanceMethod yX6_lights ∈ a_T0 ∧ Cond.selects yX6_lights.cls yX6_lights yX6_lights ∈ a_T0 := ⟨a_mT 985 (by decide +kernel) (by decide +kernel), a_mT 35 (by decide +kernel) (by decide +kernel)⟩
set_option maxRecDepth 100000 in
theorem a_ok_X6_rules : a_okM mX6_rules := ⟨a_mT 990 rfl rfl, rfl, by decide +kernel, ⟨by decide +kernel, by decide +kernel⟩, a_in6⟩
theorem a_iv_X6_rules : Cond.instanceMethod yX6_rules ∈ a_T0 ∧ Cond.selects yX6_rules.cls yX6_rules yX6_rules ∈ a_T0 := ⟨a_mT 989 (by decide +kernel) (by decide +kernel), a_mT 36 (by decide +kernel) (by decide +kernel)⟩
set_option maxRecDepth 100000 in
theorem a_ok_X6_lies : a_okM mX6_lies := ⟨a_mT 994 rfl rfl, rfl, by decide +kernel, ⟨by decide +kernel, by decide +kernel⟩, a_in6⟩
theorem a_iv_X6_lies : Cond.instanceMethod yX6_lies ∈ a_T0 ∧ Cond.selects yX6_lies.cls yX6_lies yX6_lies ∈ a_T0 := ⟨a_mT 993 (by decide +kernel) (by decide +kernel), a_mT 37 (by decide +kernel) (by decide +kernel)⟩
set_option maxRecDepth 100000 in
theorem a_ok_X6_longPower : a_okM mX6_longPower := ⟨a_mT 974 rfl rfl, rfl, by decide +kernel, ⟨by decide +kernel, by decide +kernel⟩, a_in6⟩
theorem a_st_X6_longPower : Cond.static yX6_longPower ∈ a_T0 := a_mT 973 (by decide +kernel) (by decide +kernel)
set_option maxRecDepth 100000 in
theorem a_ok_X6_does : a_okM mX6_does := ⟨a_mT 978 rfl rfl, rfl, by decide +kernel, ⟨by decide +kernel, by decide +kernel⟩, a_in6⟩
theorem a_iv_X6_does : Cond.instanceMethod yX6_does ∈ a_T0 ∧ Cond.selects yX6_does.cls yX6_does yX6_does ∈ a_T0 := ⟨a_mT 977 (by decide +kernel) (by decide +kernel), a_mT 33 (by decide +kernel) (by decide +kernel)⟩
set_option maxRecDepth 100000 in
theorem a_ok_X6_inkOfRows : a_okM mX6_inkOfRows := ⟨a_mT 1002 rfl rfl, rfl, by decide +kernel, ⟨by decide +kernel, by decide +kernel⟩, a_in6⟩
theorem a_iv_X6_inkOfRows : Cond.instanceMethod yX6_inkOfRows ∈ a_T0 ∧ Cond.selects yX6_inkOfRows.cls yX6_inkOfRows yX6_inkOfRows ∈ a_T0 := ⟨a_mT 1001 (by decide +kernel) (by decide +kernel), a_mT 38 (by decide +kernel) (by decide +kernel)⟩
set_option maxRecDepth 100000 in
theorem a_ok_X6_orders : a_okM mX6_orders := ⟨a_mT 1005 rfl rfl, rfl, by decide +kernel, ⟨by decide +kernel, by decide +kernel⟩, a_in6⟩
theorem a_st_X6_orders : Cond.static yX6_orders ∈ a_T0 := a_mT 1004 (by decide +kernel) (by decide +kernel)
set_option maxRecDepth 100000 in
theorem a_ok_X6_power : a_okM mX6_power := ⟨a_mT 1025 rfl rfl, rfl, by decide +kernel, ⟨by decide +kernel, by decide +kernel⟩, a_in6⟩
theorem a_st_X6_power : Cond.static yX6_power ∈ a_T0 := a_mT 1024 (by decide +kernel) (by decide +kernel)
set_option maxRecDepth 100000 in
theorem a_ok_X5_write : a_okM mX5_write := ⟨a_mT 224 rfl rfl, rfl, by decide +kernel, ⟨by decide +kernel, by decide +kernel⟩, a_in5⟩
theorem a_iv_X5_write : Cond.instanceMethod yX5_write ∈ a_T0 ∧ Cond.selects yX5_write.cls yX5_write yX5_write ∈ a_T0 := ⟨a_mT 222 (by decide +kernel) (by decide +kernel), a_mT 223 (by decide +kernel) (by decide +kernel)⟩
set_option maxRecDepth 100000 in
theorem a_ok_X6_write : a_okM mX6_write := ⟨a_mT 781 rfl rfl, rfl, by decide +kernel, ⟨by decide +kernel, by decide +kernel⟩, a_in6⟩
theorem a_iv_X6_write : Cond.instanceMethod yX6_write ∈ a_T0 ∧ Cond.selects yX6_write.cls yX6_write yX6_write ∈ a_T0 := ⟨a_mT 779 (by decide +kernel) (by decide +kernel), a_mT 780 (by decide +kernel) (by decide +kernel)⟩
set_option maxRecDepth 100000 in
theorem a_ok_X5_wipe : a_okM mX5_wipe := ⟨a_mT 237 rfl rfl, rfl, by decide +kernel, ⟨by decide +kernel, by decide +kernel⟩, a_in5⟩
theorem a_iv_X5_wipe : Cond.instanceMethod yX5_wipe ∈ a_T0 ∧ Cond.selects yX5_wipe.cls yX5_wipe yX5_wipe ∈ a_T0 := ⟨a_mT 235 (by decide +kernel) (by decide +kernel), a_mT 236 (by decide +kernel) (by decide +kernel)⟩
set_option maxRecDepth 100000 in
theorem a_ok_X6_wipe : a_okM mX6_wipe := ⟨a_mT 789 rfl rfl, rfl, by decide +kernel, ⟨by decide +kernel, by decide +kernel⟩, a_in6⟩
theorem a_iv_X6_wipe : Cond.instanceMethod yX6_wipe ∈ a_T0 ∧ Cond.selects yX6_wipe.cls yX6_wipe yX6_wipe ∈ a_T0 := ⟨a_mT 787 (by decide +kernel) (by decide +kernel), a_mT 788 (by decide +kernel) (by decide +kernel)⟩
set_option maxRecDepth 100000 in
theorem a_ok_X5_fault : a_okM mX5_fault := ⟨a_mT 245 rfl rfl, rfl, by decide +kernel, ⟨by decide +kernel, by decide +kernel⟩, a_in5⟩
theorem a_iv_X5_fault : Cond.instanceMethod yX5_fault ∈ a_T0 ∧ Cond.selects yX5_fault.cls yX5_fault yX5_fault ∈ a_T0 := ⟨a_mT 243 (by decide +kernel) (by decide +kernel), a_mT 244 (by decide +kernel) (by decide +kernel)⟩
set_option maxRecDepth 100000 in
theorem a_ok_X6_fault : a_okM mX6_fault := ⟨a_mT 793 rfl rfl, rfl, by decide +kernel, ⟨by decide +kernel, by decide +kernel⟩, a_in6⟩
theorem a_iv_X6_fault : Cond.instanceMethod yX6_fault ∈ a_T0 ∧ Cond.selects yX6_fault.cls yX6_fault yX6_fault ∈ a_T0 := ⟨a_mT 791 (by decide +kernel) (by decide +kernel), a_mT 792 (by decide +kernel) (by decide +kernel)⟩
set_option maxRecDepth 100000 in
theorem a_ok_X5_leaf : a_okM mX5_leaf := ⟨a_mT 275 rfl rfl, rfl, by decide +kernel, ⟨by decide +kernel, by decide +kernel⟩, a_in5⟩
theorem a_iv_X5_leaf : Cond.instanceMethod yX5_leaf ∈ a_T0 ∧ Cond.selects yX5_leaf.cls yX5_leaf yX5_leaf ∈ a_T0 := ⟨a_mT 273 (by decide +kernel) (by decide +kernel), a_mT 274 (by decide +kernel) (by decide +kernel)⟩
set_option maxRecDepth 100000 in
theorem a_ok_X6_leaf : a_okM mX6_leaf := ⟨a_mT 810 rfl rfl, rfl, by decide +kernel, ⟨by decide +kernel, by decide +kernel⟩, a_in6⟩
theorem a_iv_X6_leaf : Cond.instanceMethod yX6_leaf ∈ a_T0 ∧ Cond.selects yX6_leaf.cls yX6_leaf yX6_leaf ∈ a_T0 := ⟨a_mT 808 (by decide +kernel) (by decide +kernel), a_mT 809 (by decide +kernel) (by decide +kernel)⟩
set_option maxRecDepth 100000 in
theorem a_ok_X5_about : a_okM mX5_about := ⟨a_mT 316 rfl rfl, rfl, by decide +kernel, ⟨by decide +kernel, by decide +kernel⟩, a_in5⟩
theorem a_iv_X5_about : Cond.instanceMethod yX5_about ∈ a_T0 ∧ Cond.selects yX5_about.cls yX5_about yX5_about ∈ a_T0 := ⟨a_mT 314 (by decide +kernel) (by decide +kernel), a_mT 315 (by decide +kernel) (by decide +kernel)⟩
set_option maxRecDepth 100000 in
theorem a_ok_X6_about : a_okM mX6_about := ⟨a_mT 814 rfl rfl, rfl, by decide +kernel, ⟨by decide +kernel, by decide +kernel⟩, a_in6⟩
theorem a_iv_X6_about : Cond.instanceMethod yX6_about ∈ a_T0 ∧ Cond.selects yX6_about.cls yX6_about yX6_about ∈ a_T0 := ⟨a_mT 812 (by decide +kernel) (by decide +kernel), a_mT 813 (by decide +kernel) (by decide +kernel)⟩
set_option maxRecDepth 100000 in
theorem a_ok_X5_grey : a_okM mX5_grey := ⟨a_mT 402 rfl rfl, rfl, by decide +kernel, ⟨by decide +kernel, by decide +kernel⟩, a_in5⟩
theorem a_iv_X5_grey : Cond.instanceMethod yX5_grey ∈ a_T0 ∧ Cond.selects yX5_grey.cls yX5_grey yX5_grey ∈ a_T0 := ⟨a_mT 400 (by decide +kernel) (by decide +kernel), a_mT 401 (by decide +kernel) (by decide +kernel)⟩
set_option maxRecDepth 100000 in
theorem a_ok_X6_grey : a_okM mX6_grey := ⟨a_mT 843 rfl rfl, rfl, by decide +kernel, ⟨by decide +kernel, by decide +kernel⟩, a_in6⟩
theorem a_iv_X6_grey : Cond.instanceMethod yX6_grey ∈ a_T0 ∧ Cond.selects yX6_grey.cls yX6_grey yX6_grey ∈ a_T0 := ⟨a_mT 841 (by decide +kernel) (by decide +kernel), a_mT 842 (by decide +kernel) (by decide +kernel)⟩
set_option maxRecDepth 100000 in
theorem a_ok_X5_shows : a_okM mX5_shows := ⟨a_mT 411 rfl rfl, rfl, by decide +kernel, ⟨by decide +kernel, by decide +kernel⟩, a_in5⟩
theorem a_iv_X5_shows : Cond.instanceMethod yX5_shows ∈ a_T0 ∧ Cond.selects yX5_shows.cls yX5_shows yX5_shows ∈ a_T0 := ⟨a_mT 409 (by decide +kernel) (by decide +kernel), a_mT 410 (by decide +kernel) (by decide +kernel)⟩
set_option maxRecDepth 100000 in
theorem a_ok_X6_shows : a_okM mX6_shows := ⟨a_mT 851 rfl rfl, rfl, by decide +kernel, ⟨by decide +kernel, by decide +kernel⟩, a_in6⟩
theorem a_iv_X6_shows : Cond.instanceMethod yX6_shows ∈ a_T0 ∧ Cond.selects yX6_shows.cls yX6_shows yX6_shows ∈ a_T0 := ⟨a_mT 849 (by decide +kernel) (by decide +kernel), a_mT 850 (by decide +kernel) (by decide +kernel)⟩
set_option maxRecDepth 100000 in
theorem a_ok_X5_window : a_okM mX5_window := ⟨a_mT 417 rfl rfl, rfl, by decide +kernel, ⟨by decide +kernel, by decide +kernel⟩, a_in5⟩
theorem a_iv_X5_window : Cond.instanceMethod yX5_window ∈ a_T0 ∧ Cond.selects yX5_window.cls yX5_window yX5_window ∈ a_T0 := ⟨a_mT 415 (by decide +kernel) (by decide +kernel), a_mT 416 (by decide +kernel) (by decide +kernel)⟩
set_option maxRecDepth 100000 in
theorem a_ok_X6_window : a_okM mX6_window := ⟨a_mT 855 rfl rfl, rfl, by decide +kernel, ⟨by decide +kernel, by decide +kernel⟩, a_in6⟩
theorem a_iv_X6_window : Cond.instanceMethod yX6_window ∈ a_T0 ∧ Cond.selects yX6_window.cls yX6_window yX6_window ∈ a_T0 := ⟨a_mT 853 (by decide +kernel) (by decide +kernel), a_mT 854 (by decide +kernel) (by decide +kernel)⟩
set_option maxRecDepth 100000 in
theorem a_ok_X5_spread : a_okM mX5_spread := ⟨a_mT 434 rfl rfl, rfl, by decide +kernel, ⟨by decide +kernel, by decide +kernel⟩, a_in5⟩
theorem a_iv_X5_spread : Cond.instanceMethod yX5_spread ∈ a_T0 ∧ Cond.selects yX5_spread.cls yX5_spread yX5_spread ∈ a_T0 := ⟨a_mT 432 (by decide +kernel) (by decide +kernel), a_mT 433 (by decide +kernel) (by decide +kernel)⟩
set_option maxRecDepth 100000 in
theorem a_ok_X6_spread : a_okM mX6_spread := ⟨a_mT 859 rfl rfl, rfl, by decide +kernel, ⟨by decide +kernel, by decide +kernel⟩, a_in6⟩
theorem a_iv_X6_spread : Cond.instanceMethod yX6_spread ∈ a_T0 ∧ Cond.selects yX6_spread.cls yX6_spread yX6_spread ∈ a_T0 := ⟨a_mT 857 (by decide +kernel) (by decide +kernel), a_mT 858 (by decide +kernel) (by decide +kernel)⟩
set_option maxRecDepth 100000 in
theorem a_ok_X5_mark : a_okM mX5_mark := ⟨a_mT 451 rfl rfl, rfl, by decide +kernel, ⟨by decide +kernel, by decide +kernel⟩, a_in5⟩
theorem a_iv_X5_mark : Cond.instanceMethod yX5_mark ∈ a_T0 ∧ Cond.selects yX5_mark.cls yX5_mark yX5_mark ∈ a_T0 := ⟨a_mT 449 (by decide +kernel) (by decide +kernel), a_mT 450 (by decide +kernel) (by decide +kernel)⟩
set_option maxRecDepth 100000 in
theorem a_ok_X6_mark : a_okM mX6_mark := ⟨a_mT 869 rfl rfl, rfl, by decide +kernel, ⟨by decide +kernel, by decide +kernel⟩, a_in6⟩
theorem a_iv_X6_mark : Cond.instanceMethod yX6_mark ∈ a_T0 ∧ Cond.selects yX6_mark.cls yX6_mark yX6_mark ∈ a_T0 := ⟨a_mT 867 (by decide +kernel) (by decide +kernel), a_mT 868 (by decide +kernel) (by decide +kernel)⟩
set_option maxRecDepth 100000 in
theorem a_ok_X5_under : a_okM mX5_under := ⟨a_mT 456 rfl rfl, rfl, by decide +kernel, ⟨by decide +kernel, by decide +kernel⟩, a_in5⟩
theorem a_iv_X5_under : Cond.instanceMethod yX5_under ∈ a_T0 ∧ Cond.selects yX5_under.cls yX5_under yX5_under ∈ a_T0 := ⟨a_mT 454 (by decide +kernel) (by decide +kernel), a_mT 455 (by decide +kernel) (by decide +kernel)⟩
set_option maxRecDepth 100000 in
theorem a_ok_X6_under : a_okM mX6_under := ⟨a_mT 873 rfl rfl, rfl, by decide +kernel, ⟨by decide +kernel, by decide +kernel⟩, a_in6⟩
theorem a_iv_X6_under : Cond.instanceMethod yX6_under ∈ a_T0 ∧ Cond.selects yX6_under.cls yX6_under yX6_under ∈ a_T0 := ⟨a_mT 871 (by decide +kernel) (by decide +kernel), a_mT 872 (by decide +kernel) (by decide +kernel)⟩
set_option maxRecDepth 100000 in
theorem a_ok_X5_cleaned : a_okM mX5_cleaned := ⟨a_mT 461 rfl rfl, rfl, by decide +kernel, ⟨by decide +kernel, by decide +kernel⟩, a_in5⟩
theorem a_iv_X5_cleaned : Cond.instanceMethod yX5_cleaned ∈ a_T0 ∧ Cond.selects yX5_cleaned.cls yX5_cleaned yX5_cleaned ∈ a_T0 := ⟨a_mT 459 (by decide +kernel) (by decide +kernel), a_mT 460 (by decide +kernel) (by decide +kernel)⟩
set_option maxRecDepth 100000 in
theorem a_ok_X6_cleaned : a_okM mX6_cleaned := ⟨a_mT 877 rfl rfl, rfl, by decide +kernel, ⟨by decide +kernel, by decide +kernel⟩, a_in6⟩
theorem a_iv_X6_cleaned : Cond.instanceMethod yX6_cleaned ∈ a_T0 ∧ Cond.selects yX6_cleaned.cls yX6_cleaned yX6_cleaned ∈ a_T0 := ⟨a_mT 875 (by decide +kernel) (by decide +kernel), a_mT 876 (by decide +kernel) (by decide +kernel)⟩
set_option maxRecDepth 100000 in
theorem a_ok_X5_paint : a_okM mX5_paint := ⟨a_mT 476 rfl rfl, rfl, by decide +kernel, ⟨by decide +kernel, by decide +kernel⟩, a_in5⟩
theorem a_iv_X5_paint : Cond.instanceMethod yX5_paint ∈ a_T0 ∧ Cond.selects yX5_paint.cls yX5_paint yX5_paint ∈ a_T0 := ⟨a_mT 474 (by decide +kernel) (by decide +kernel), a_mT 475 (by decide +kernel) (by decide +kernel)⟩
set_option maxRecDepth 100000 in
theorem a_ok_X6_paint : a_okM mX6_paint := ⟨a_mT 895 rfl rfl, rfl, by decide +kernel, ⟨by decide +kernel, by decide +kernel⟩, a_in6⟩
theorem a_iv_X6_paint : Cond.instanceMethod yX6_paint ∈ a_T0 ∧ Cond.selects yX6_paint.cls yX6_paint yX6_paint ∈ a_T0 := ⟨a_mT 893 (by decide +kernel) (by decide +kernel), a_mT 894 (by decide +kernel) (by decide +kernel)⟩
set_option maxRecDepth 100000 in
theorem a_ok_X5_light : a_okM mX5_light := ⟨a_mT 492 rfl rfl, rfl, by decide +kernel, ⟨by decide +kernel, by decide +kernel⟩, a_in5⟩
theorem a_iv_X5_light : Cond.instanceMethod yX5_light ∈ a_T0 ∧ Cond.selects yX5_light.cls yX5_light yX5_light ∈ a_T0 := ⟨a_mT 490 (by decide +kernel) (by decide +kernel), a_mT 491 (by decide +kernel) (by decide +kernel)⟩
set_option maxRecDepth 100000 in
theorem a_ok_X6_light : a_okM mX6_light := ⟨a_mT 903 rfl rfl, rfl, by decide +kernel, ⟨by decide +kernel, by decide +kernel⟩, a_in6⟩
theorem a_iv_X6_light : Cond.instanceMethod yX6_light ∈ a_T0 ∧ Cond.selects yX6_light.cls yX6_light yX6_light ∈ a_T0 := ⟨a_mT 901 (by decide +kernel) (by decide +kernel), a_mT 902 (by decide +kernel) (by decide +kernel)⟩
set_option maxRecDepth 100000 in
theorem a_ok_X5_rule : a_okM mX5_rule := ⟨a_mT 507 rfl rfl, rfl, by decide +kernel, ⟨by decide +kernel, by decide +kernel⟩, a_in5⟩
theorem a_iv_X5_rule : Cond.instanceMethod yX5_rule ∈ a_T0 ∧ Cond.selects yX5_rule.cls yX5_rule yX5_rule ∈ a_T0 := ⟨a_mT 505 (by decide +kernel) (by decide +kernel), a_mT 506 (by decide +kernel) (by decide +kernel)⟩
set_option maxRecDepth 100000 in
theorem a_ok_X6_rule : a_okM mX6_rule := ⟨a_mT 914 rfl rfl, rfl, by decide +kernel, ⟨by decide +kernel, by decide +kernel⟩, a_in6⟩
theorem a_iv_X6_rule : Cond.instanceMethod yX6_rule ∈ a_T0 ∧ Cond.selects yX6_rule.cls yX6_rule yX6_rule ∈ a_T0 := ⟨a_mT 912 (by decide +kernel) (by decide +kernel), a_mT 913 (by decide +kernel) (by decide +kernel)⟩
set_option maxRecDepth 100000 in
theorem a_ok_X5_table : a_okM mX5_table := ⟨a_mT 515 rfl rfl, rfl, by decide +kernel, ⟨by decide +kernel, by decide +kernel⟩, a_in5⟩
theorem a_iv_X5_table : Cond.instanceMethod yX5_table ∈ a_T0 ∧ Cond.selects yX5_table.cls yX5_table yX5_table ∈ a_T0 := ⟨a_mT 513 (by decide +kernel) (by decide +kernel), a_mT 514 (by decide +kernel) (by decide +kernel)⟩
set_option maxRecDepth 100000 in
theorem a_ok_X6_table : a_okM mX6_table := ⟨a_mT 925 rfl rfl, rfl, by decide +kernel, ⟨by decide +kernel, by decide +kernel⟩, a_in6⟩
theorem a_iv_X6_table : Cond.instanceMethod yX6_table ∈ a_T0 ∧ Cond.selects yX6_table.cls yX6_table yX6_table ∈ a_T0 := ⟨a_mT 923 (by decide +kernel) (by decide +kernel), a_mT 924 (by decide +kernel) (by decide +kernel)⟩
set_option maxRecDepth 100000 in
theorem a_ok_X5_lay : a_okM mX5_lay := ⟨a_mT 520 rfl rfl, rfl, by decide +kernel, ⟨by decide +kernel, by decide +kernel⟩, a_in5⟩
theorem a_iv_X5_lay : Cond.instanceMethod yX5_lay ∈ a_T0 ∧ Cond.selects yX5_lay.cls yX5_lay yX5_lay ∈ a_T0 := ⟨a_mT 518 (by decide +kernel) (by decide +kernel), a_mT 519 (by decide +kernel) (by decide +kernel)⟩
set_option maxRecDepth 100000 in
theorem a_ok_X6_lay : a_okM mX6_lay := ⟨a_mT 929 rfl rfl, rfl, by decide +kernel, ⟨by decide +kernel, by decide +kernel⟩, a_in6⟩
theorem a_iv_X6_lay : Cond.instanceMethod yX6_lay ∈ a_T0 ∧ Cond.selects yX6_lay.cls yX6_lay yX6_lay ∈ a_T0 := ⟨a_mT 927 (by decide +kernel) (by decide +kernel), a_mT 928 (by decide +kernel) (by decide +kernel)⟩
set_option maxRecDepth 100000 in
theorem a_ok_X5_undo : a_okM mX5_undo := ⟨a_mT 528 rfl rfl, rfl, by decide +kernel, ⟨by decide +kernel, by decide +kernel⟩, a_in5⟩
theorem a_iv_X5_undo : Cond.instanceMethod yX5_undo ∈ a_T0 ∧ Cond.selects yX5_undo.cls yX5_undo yX5_undo ∈ a_T0 := ⟨a_mT 526 (by decide +kernel) (by decide +kernel), a_mT 527 (by decide +kernel) (by decide +kernel)⟩
set_option maxRecDepth 100000 in
theorem a_ok_X6_undo : a_okM mX6_undo := ⟨a_mT 937 rfl rfl, rfl, by decide +kernel, ⟨by decide +kernel, by decide +kernel⟩, a_in6⟩
theorem a_iv_X6_undo : Cond.instanceMethod yX6_undo ∈ a_T0 ∧ Cond.selects yX6_undo.cls yX6_undo yX6_undo ∈ a_T0 := ⟨a_mT 935 (by decide +kernel) (by decide +kernel), a_mT 936 (by decide +kernel) (by decide +kernel)⟩
set_option maxRecDepth 100000 in
theorem a_ok_X5_fit : a_okM mX5_fit := ⟨a_mT 545 rfl rfl, rfl, by decide +kernel, ⟨by decide +kernel, by decide +kernel⟩, a_in5⟩
theorem a_iv_X5_fit : Cond.instanceMethod yX5_fit ∈ a_T0 ∧ Cond.selects yX5_fit.cls yX5_fit yX5_fit ∈ a_T0 := ⟨a_mT 543 (by decide +kernel) (by decide +kernel), a_mT 544 (by decide +kernel) (by decide +kernel)⟩
set_option maxRecDepth 100000 in
theorem a_ok_X6_fit : a_okM mX6_fit := ⟨a_mT 941 rfl rfl, rfl, by decide +kernel, ⟨by decide +kernel, by decide +kernel⟩, a_in6⟩
theorem a_iv_X6_fit : Cond.instanceMethod yX6_fit ∈ a_T0 ∧ Cond.selects yX6_fit.cls yX6_fit yX6_fit ∈ a_T0 := ⟨a_mT 939 (by decide +kernel) (by decide +kernel), a_mT 940 (by decide +kernel) (by decide +kernel)⟩
set_option maxRecDepth 100000 in
theorem a_ok_X5_best : a_okM mX5_best := ⟨a_mT 557 rfl rfl, rfl, by decide +kernel, ⟨by decide +kernel, by decide +kernel⟩, a_in5⟩
theorem a_iv_X5_best : Cond.instanceMethod yX5_best ∈ a_T0 ∧ Cond.selects yX5_best.cls yX5_best yX5_best ∈ a_T0 := ⟨a_mT 555 (by decide +kernel) (by decide +kernel), a_mT 556 (by decide +kernel) (by decide +kernel)⟩
set_option maxRecDepth 100000 in
theorem a_ok_X6_best : a_okM mX6_best := ⟨a_mT 949 rfl rfl, rfl, by decide +kernel, ⟨by decide +kernel, by decide +kernel⟩, a_in6⟩
theorem a_iv_X6_best : Cond.instanceMethod yX6_best ∈ a_T0 ∧ Cond.selects yX6_best.cls yX6_best yX6_best ∈ a_T0 := ⟨a_mT 947 (by decide +kernel) (by decide +kernel), a_mT 948 (by decide +kernel) (by decide +kernel)⟩
set_option maxRecDepth 100000 in
theorem a_ok_X5_judge : a_okM mX5_judge := ⟨a_mT 572 rfl rfl, rfl, by decide +kernel, ⟨by decide +kernel, by decide +kernel⟩, a_in5⟩
theorem a_iv_X5_judge : Cond.instanceMethod yX5_judge ∈ a_T0 ∧ Cond.selects yX5_judge.cls yX5_judge yX5_judge ∈ a_T0 := ⟨a_mT 570 (by decide +kernel) (by decide +kernel), a_mT 571 (by decide +kernel) (by decide +kernel)⟩
set_option maxRecDepth 100000 in
theorem a_ok_X6_judge : a_okM mX6_judge := ⟨a_mT 969 rfl rfl, rfl, by decide +kernel, ⟨by decide +kernel, by decide +kernel⟩, a_in6⟩
theorem a_iv_X6_judge : Cond.instanceMethod yX6_judge ∈ a_T0 ∧ Cond.selects yX6_judge.cls yX6_judge yX6_judge ∈ a_T0 := ⟨a_mT 967 (by decide +kernel) (by decide +kernel), a_mT 968 (by decide +kernel) (by decide +kernel)⟩
set_option maxRecDepth 100000 in
theorem a_ok_X5_share : a_okM mX5_share := ⟨a_mT 612 rfl rfl, rfl, by decide +kernel, ⟨by decide +kernel, by decide +kernel⟩, a_in5⟩
theorem a_iv_X5_share : Cond.instanceMethod yX5_share ∈ a_T0 ∧ Cond.selects yX5_share.cls yX5_share yX5_share ∈ a_T0 := ⟨a_mT 610 (by decide +kernel) (by decide +kernel), a_mT 611 (by decide +kernel) (by decide +kernel)⟩
set_option maxRecDepth 100000 in
theorem a_ok_X6_share : a_okM mX6_share := ⟨a_mT 998 rfl rfl, rfl, by decide +kernel, ⟨by decide +kernel, by decide +kernel⟩, a_in6⟩
theorem a_iv_X6_share : Cond.instanceMethod yX6_share ∈ a_T0 ∧ Cond.selects yX6_share.cls yX6_share yX6_share ∈ a_T0 := ⟨a_mT 996 (by decide +kernel) (by decide +kernel), a_mT 997 (by decide +kernel) (by decide +kernel)⟩
set_option maxRecDepth 100000 in
theorem a_ok_X5_see : a_okM mX5_see := ⟨a_mT 636 rfl rfl, rfl, by decide +kernel, ⟨by decide +kernel, by decide +kernel⟩, a_in5⟩
theorem a_iv_X5_see : Cond.instanceMethod yX5_see ∈ a_T0 ∧ Cond.selects yX5_see.cls yX5_see yX5_see ∈ a_T0 := ⟨a_mT 634 (by decide +kernel) (by decide +kernel), a_mT 635 (by decide +kernel) (by decide +kernel)⟩
set_option maxRecDepth 100000 in
theorem a_ok_X6_see : a_okM mX6_see := ⟨a_mT 1009 rfl rfl, rfl, by decide +kernel, ⟨by decide +kernel, by decide +kernel⟩, a_in6⟩
theorem a_iv_X6_see : Cond.instanceMethod yX6_see ∈ a_T0 ∧ Cond.selects yX6_see.cls yX6_see yX6_see ∈ a_T0 := ⟨a_mT 1007 (by decide +kernel) (by decide +kernel), a_mT 1008 (by decide +kernel) (by decide +kernel)⟩
set_option maxRecDepth 100000 in
theorem a_ok_X5_unsee : a_okM mX5_unsee := ⟨a_mT 649 rfl rfl, rfl, by decide +kernel, ⟨by decide +kernel, by decide +kernel⟩, a_in5⟩
theorem a_iv_X5_unsee : Cond.instanceMethod yX5_unsee ∈ a_T0 ∧ Cond.selects yX5_unsee.cls yX5_unsee yX5_unsee ∈ a_T0 := ⟨a_mT 647 (by decide +kernel) (by decide +kernel), a_mT 648 (by decide +kernel) (by decide +kernel)⟩
set_option maxRecDepth 100000 in
theorem a_ok_X6_unsee : a_okM mX6_unsee := ⟨a_mT 1013 rfl rfl, rfl, by decide +kernel, ⟨by decide +kernel, by decide +kernel⟩, a_in6⟩
theorem a_iv_X6_unsee : Cond.instanceMethod yX6_unsee ∈ a_T0 ∧ Cond.selects yX6_unsee.cls yX6_unsee yX6_unsee ∈ a_T0 := ⟨a_mT 1011 (by decide +kernel) (by decide +kernel), a_mT 1012 (by decide +kernel) (by decide +kernel)⟩
set_option maxRecDepth 100000 in
theorem a_ok_X5_ways : a_okM mX5_ways := ⟨a_mT 657 rfl rfl, rfl, by decide +kernel, ⟨by decide +kernel, by decide +kernel⟩, a_in5⟩
theorem a_iv_X5_ways : Cond.instanceMethod yX5_ways ∈ a_T0 ∧ Cond.selects yX5_ways.cls yX5_ways yX5_ways ∈ a_T0 := ⟨a_mT 655 (by decide +kernel) (by decide +kernel), a_mT 656 (by decide +kernel) (by decide +kernel)⟩
set_option maxRecDepth 100000 in
theorem a_ok_X6_ways : a_okM mX6_ways := ⟨a_mT 1017 rfl rfl, rfl, by decide +kernel, ⟨by decide +kernel, by decide +kernel⟩, a_in6⟩
theorem a_iv_X6_ways : Cond.instanceMethod yX6_ways ∈ a_T0 ∧ Cond.selects yX6_ways.cls yX6_ways yX6_ways ∈ a_T0 := ⟨a_mT 1015 (by decide +kernel) (by decide +kernel), a_mT 1016 (by decide +kernel) (by decide +kernel)⟩
set_option maxRecDepth 100000 in
theorem a_ok_X5_bleached : a_okM mX5_bleached := ⟨a_mT 665 rfl rfl, rfl, by decide +kernel, ⟨by decide +kernel, by decide +kernel⟩, a_in5⟩
theorem a_iv_X5_bleached : Cond.instanceMethod yX5_bleached ∈ a_T0 ∧ Cond.selects yX5_bleached.cls yX5_bleached yX5_bleached ∈ a_T0 := ⟨a_mT 663 (by decide +kernel) (by decide +kernel), a_mT 664 (by decide +kernel) (by decide +kernel)⟩
set_option maxRecDepth 100000 in
theorem a_ok_X6_bleached : a_okM mX6_bleached := ⟨a_mT 1021 rfl rfl, rfl, by decide +kernel, ⟨by decide +kernel, by decide +kernel⟩, a_in6⟩
theorem a_iv_X6_bleached : Cond.instanceMethod yX6_bleached ∈ a_T0 ∧ Cond.selects yX6_bleached.cls yX6_bleached yX6_bleached ∈ a_T0 := ⟨a_mT 1019 (by decide +kernel) (by decide +kernel), a_mT 1020 (by decide +kernel) (by decide +kernel)⟩
set_option maxRecDepth 100000 in
theorem a_ok_X5_seed : a_okM mX5_seed := ⟨a_mT 676 rfl rfl, rfl, by decide +kernel, ⟨by decide +kernel, by decide +kernel⟩, a_in5⟩
theorem a_iv_X5_seed : Cond.instanceMethod yX5_seed ∈ a_T0 ∧ Cond.selects yX5_seed.cls yX5_seed yX5_seed ∈ a_T0 := ⟨a_mT 674 (by decide +kernel) (by decide +kernel), a_mT 675 (by decide +kernel) (by decide +kernel)⟩
set_option maxRecDepth 100000 in
theorem a_ok_X6_seed : a_okM mX6_seed := ⟨a_mT 1029 rfl rfl, rfl, by decide +kernel, ⟨by decide +kernel, by decide +kernel⟩, a_in6⟩
theorem a_iv_X6_seed : Cond.instanceMethod yX6_seed ∈ a_T0 ∧ Cond.selects yX6_seed.cls yX6_seed yX6_seed ∈ a_T0 := ⟨a_mT 1027 (by decide +kernel) (by decide +kernel), a_mT 1028 (by decide +kernel) (by decide +kernel)⟩
set_option maxRecDepth 100000 in
theorem a_ok_X5_drawn : a_okM mX5_drawn := ⟨a_mT 680 rfl rfl, rfl, by decide +kernel, ⟨by decide +kernel, by decide +kernel⟩, a_in5⟩
theorem a_iv_X5_drawn : Cond.instanceMethod yX5_drawn ∈ a_T0 ∧ Cond.selects yX5_drawn.cls yX5_drawn yX5_drawn ∈ a_T0 := ⟨a_mT 678 (by decide +kernel) (by decide +kernel), a_mT 679 (by decide +kernel) (by decide +kernel)⟩
set_option maxRecDepth 100000 in
theorem a_ok_X6_drawn : a_okM mX6_drawn := ⟨a_mT 1033 rfl rfl, rfl, by decide +kernel, ⟨by decide +kernel, by decide +kernel⟩, a_in6⟩
theorem a_iv_X6_drawn : Cond.instanceMethod yX6_drawn ∈ a_T0 ∧ Cond.selects yX6_drawn.cls yX6_drawn yX6_drawn ∈ a_T0 := ⟨a_mT 1031 (by decide +kernel) (by decide +kernel), a_mT 1032 (by decide +kernel) (by decide +kernel)⟩
set_option maxRecDepth 100000 in
theorem a_ok_X5_keep : a_okM mX5_keep := ⟨a_mT 689 rfl rfl, rfl, by decide +kernel, ⟨by decide +kernel, by decide +kernel⟩, a_in5⟩
theorem a_iv_X5_keep : Cond.instanceMethod yX5_keep ∈ a_T0 ∧ Cond.selects yX5_keep.cls yX5_keep yX5_keep ∈ a_T0 := ⟨a_mT 687 (by decide +kernel) (by decide +kernel), a_mT 688 (by decide +kernel) (by decide +kernel)⟩
set_option maxRecDepth 100000 in
theorem a_ok_X6_keep : a_okM mX6_keep := ⟨a_mT 1040 rfl rfl, rfl, by decide +kernel, ⟨by decide +kernel, by decide +kernel⟩, a_in6⟩
theorem a_iv_X6_keep : Cond.instanceMethod yX6_keep ∈ a_T0 ∧ Cond.selects yX6_keep.cls yX6_keep yX6_keep ∈ a_T0 := ⟨a_mT 1038 (by decide +kernel) (by decide +kernel), a_mT 1039 (by decide +kernel) (by decide +kernel)⟩
set_option maxRecDepth 100000 in
theorem a_ok_X5_again : a_okM mX5_again := ⟨a_mT 700 rfl rfl, rfl, by decide +kernel, ⟨by decide +kernel, by decide +kernel⟩, a_in5⟩
theorem a_iv_X5_again : Cond.instanceMethod yX5_again ∈ a_T0 ∧ Cond.selects yX5_again.cls yX5_again yX5_again ∈ a_T0 := ⟨a_mT 698 (by decide +kernel) (by decide +kernel), a_mT 699 (by decide +kernel) (by decide +kernel)⟩
set_option maxRecDepth 100000 in
theorem a_ok_X6_again : a_okM mX6_again := ⟨a_mT 1044 rfl rfl, rfl, by decide +kernel, ⟨by decide +kernel, by decide +kernel⟩, a_in6⟩
theorem a_iv_X6_again : Cond.instanceMethod yX6_again ∈ a_T0 ∧ Cond.selects yX6_again.cls yX6_again yX6_again ∈ a_T0 := ⟨a_mT 1042 (by decide +kernel) (by decide +kernel), a_mT 1043 (by decide +kernel) (by decide +kernel)⟩
def a_okC (q : Nat × Nat × Nat × Nat × aM) : Prop := a_okM q.2.2.2.2 ∧ (parseMethodDescriptor q.2.2.2.2.2.1.desc).map (fun d => d.parameters.length) = some q.2.2.2.1 ∧
  (q.2.2.1 = 0 → Cond.methodLink (a_cn q.1) q.2.1 q.2.2.2.2.2.1 ∈ a_T0 ∧ Cond.static q.2.2.2.2.2.1 ∈ a_T0) ∧
  (q.2.2.1 = 1 → Cond.methodLink (a_cn q.1) q.2.1 q.2.2.2.2.2.1 ∈ a_T0 ∧ (Cond.instanceMethod q.2.2.2.2.2.1 ∈ a_T0 ∧ Cond.selects q.2.2.2.2.2.1.cls q.2.2.2.2.2.1 q.2.2.2.2.2.1 ∈ a_T0) ∧ q.2.2.2.2.1 < 7) ∧
  (q.2.2.1 = 2 → (q.1 = 3 ∧ q.2.1 = 77 ∧ q.2.2.2.2 = mX5_isFigure) ∧ Cond.static q.2.2.2.2.2.1 ∈ a_T0)
theorem a_c_0_28 : a_okC (0, 28, 1, 0, mX0_forgetFirst) := ⟨a_ok_X0_forgetFirst, by decide +kernel, (fun h => absurd h (by decide)), fun _ => ⟨a_mT 481 (by decide +kernel) (by decide +kernel), a_iv_X0_forgetFirst, by decide⟩, (fun h => absurd h (by decide))⟩
theorem a_c_0_37 : a_okC (0, 37, 1, 4, mX0_takeBack) := ⟨a_ok_X0_takeBack, by decide +kernel, (fun h => absurd h (by decide)), fun _ => ⟨a_mT 533 (by decide +kernel) (by decide +kernel), a_iv_X0_takeBack, by decide⟩, (fun h => absurd h (by decide))⟩
theorem a_c_0_41 : a_okC (0, 41, 1, 3, mX3_setGrey) := ⟨a_ok_X3_setGrey, by decide +kernel, (fun h => absurd h (by decide)), fun _ => ⟨a_mT 537 (by decide +kernel) (by decide +kernel), a_iv_X3_setGrey, by decide⟩, (fun h => absurd h (by decide))⟩
theorem a_c_0_47 : a_okC (0, 47, 1, 1, mX3_lighten) := ⟨a_ok_X3_lighten, by decide +kernel, (fun h => absurd h (by decide)), fun _ => ⟨a_mT 538 (by decide +kernel) (by decide +kernel), a_iv_X3_lighten, by decide⟩, (fun h => absurd h (by decide))⟩
theorem a_c_0_51 : a_okC (0, 51, 1, 3, mX3_setRule) := ⟨a_ok_X3_setRule, by decide +kernel, (fun h => absurd h (by decide)), fun _ => ⟨a_mT 539 (by decide +kernel) (by decide +kernel), a_iv_X3_setRule, by decide⟩, (fun h => absurd h (by decide))⟩
theorem a_c_0_54 : a_okC (0, 54, 1, 2, mX3_setShown) := ⟨a_ok_X3_setShown, by decide +kernel, (fun h => absurd h (by decide)), fun _ => ⟨a_mT 540 (by decide +kernel) (by decide +kernel), a_iv_X3_setShown, by decide⟩, (fun h => absurd h (by decide))⟩
theorem a_c_0_58 : a_okC (0, 58, 1, 2, mX3_setLie) := ⟨a_ok_X3_setLie, by decide +kernel, (fun h => absurd h (by decide)), fun _ => ⟨a_mT 541 (by decide +kernel) (by decide +kernel), a_iv_X3_setLie, by decide⟩, (fun h => absurd h (by decide))⟩
theorem a_crL0_ok : ∀ q ∈ a_crL0, a_okC q := List.forall_mem_cons.mpr ⟨a_c_0_28, List.forall_mem_cons.mpr ⟨a_c_0_37, List.forall_mem_cons.mpr ⟨a_c_0_41, List.forall_mem_cons.mpr ⟨a_c_0_47, List.forall_mem_cons.mpr ⟨a_c_0_51, List.forall_mem_cons.mpr ⟨a_c_0_54, List.forall_mem_cons.mpr ⟨a_c_0_58, fun _ h => absurd h List.not_mem_nil⟩⟩⟩⟩⟩⟩⟩
theorem a_c_1_39 : a_okC (1, 39, 1, 2, mX1_look) := ⟨a_ok_X1_look, by decide +kernel, (fun h => absurd h (by decide)), fun _ => ⟨a_mT 321 (by decide +kernel) (by decide +kernel), a_iv_X1_look, by decide⟩, (fun h => absurd h (by decide))⟩
theorem a_c_1_46 : a_okC (1, 46, 1, 2, mX1_dotsMarked) := ⟨a_ok_X1_dotsMarked, by decide +kernel, (fun h => absurd h (by decide)), fun _ => ⟨a_mT 359 (by decide +kernel) (by decide +kernel), a_iv_X1_dotsMarked, by decide⟩, (fun h => absurd h (by decide))⟩
theorem a_c_1_50 : a_okC (1, 50, 0, 1, mJ6_bitCount_0f7a4) := ⟨a_ok_J6_bitCount_0f7a4, by decide +kernel, fun _ => ⟨a_mT 374 (by decide +kernel) (by decide +kernel), a_st_J6_bitCount_0f7a4⟩, (fun h => absurd h (by decide)), (fun h => absurd h (by decide))⟩
theorem a_c_1_56 : a_okC (1, 56, 1, 0, mX3_dots) := ⟨a_ok_X3_dots, by decide +kernel, (fun h => absurd h (by decide)), fun _ => ⟨a_mT 325 (by decide +kernel) (by decide +kernel), a_iv_X3_dots, by decide⟩, (fun h => absurd h (by decide))⟩
theorem a_c_1_59 : a_okC (1, 59, 1, 3, mX1_lookAt) := ⟨a_ok_X1_lookAt, by decide +kernel, (fun h => absurd h (by decide)), fun _ => ⟨a_mT 326 (by decide +kernel) (by decide +kernel), a_iv_X1_lookAt, by decide⟩, (fun h => absurd h (by decide))⟩
theorem a_c_1_63 : a_okC (1, 63, 1, 1, mX3_has) := ⟨a_ok_X3_has, by decide +kernel, (fun h => absurd h (by decide)), fun _ => ⟨a_mT 330 (by decide +kernel) (by decide +kernel), a_iv_X3_has, by decide⟩, (fun h => absurd h (by decide))⟩
theorem a_c_1_68 : a_okC (1, 68, 1, 2, mX3_greyOf) := ⟨a_ok_X3_greyOf, by decide +kernel, (fun h => absurd h (by decide)), fun _ => ⟨a_mT 331 (by decide +kernel) (by decide +kernel), a_iv_X3_greyOf, by decide⟩, (fun h => absurd h (by decide))⟩
theorem a_c_1_71 : a_okC (1, 71, 1, 1, mX3_greyAlone) := ⟨a_ok_X3_greyAlone, by decide +kernel, (fun h => absurd h (by decide)), fun _ => ⟨a_mT 335 (by decide +kernel) (by decide +kernel), a_iv_X3_greyAlone, by decide⟩, (fun h => absurd h (by decide))⟩
theorem a_c_1_74 : a_okC (1, 74, 1, 1, mX3_columnOf) := ⟨a_ok_X3_columnOf, by decide +kernel, (fun h => absurd h (by decide)), fun _ => ⟨a_mT 349 (by decide +kernel) (by decide +kernel), a_iv_X3_columnOf, by decide⟩, (fun h => absurd h (by decide))⟩
theorem a_c_1_77 : a_okC (1, 77, 1, 1, mX3_rowOf) := ⟨a_ok_X3_rowOf, by decide +kernel, (fun h => absurd h (by decide)), fun _ => ⟨a_mT 353 (by decide +kernel) (by decide +kernel), a_iv_X3_rowOf, by decide⟩, (fun h => absurd h (by decide))⟩
theorem a_c_1_94 : a_okC (1, 94, 0, 1, mX1_isPlace) := ⟨a_ok_X1_isPlace, by decide +kernel, fun _ => ⟨a_mT 367 (by decide +kernel) (by decide +kernel), a_st_X1_isPlace⟩, (fun h => absurd h (by decide)), (fun h => absurd h (by decide))⟩
theorem a_c_1_97 : a_okC (1, 97, 1, 2, mX1_markOf) := ⟨a_ok_X1_markOf, by decide +kernel, (fun h => absurd h (by decide)), fun _ => ⟨a_mT 363 (by decide +kernel) (by decide +kernel), a_iv_X1_markOf, by decide⟩, (fun h => absurd h (by decide))⟩
theorem a_c_1_100 : a_okC (1, 100, 1, 3, mX1_isDark) := ⟨a_ok_X1_isDark, by decide +kernel, (fun h => absurd h (by decide)), fun _ => ⟨a_mT 370 (by decide +kernel) (by decide +kernel), a_iv_X1_isDark, by decide⟩, (fun h => absurd h (by decide))⟩
theorem a_crL1_ok : ∀ q ∈ a_crL1, a_okC q := List.forall_mem_cons.mpr ⟨a_c_1_39, List.forall_mem_cons.mpr ⟨a_c_1_46, List.forall_mem_cons.mpr ⟨a_c_1_50, List.forall_mem_cons.mpr ⟨a_c_1_56, List.forall_mem_cons.mpr ⟨a_c_1_59, List.forall_mem_cons.mpr ⟨a_c_1_63, List.forall_mem_cons.mpr ⟨a_c_1_68, List.forall_mem_cons.mpr ⟨a_c_1_71, List.forall_mem_cons.mpr ⟨a_c_1_74, List.forall_mem_cons.mpr ⟨a_c_1_77, List.forall_mem_cons.mpr ⟨a_c_1_94, List.forall_mem_cons.mpr ⟨a_c_1_97, List.forall_mem_cons.mpr ⟨a_c_1_100, fun _ h => absurd h List.not_mem_nil⟩⟩⟩⟩⟩⟩⟩⟩⟩⟩⟩⟩⟩
theorem a_c_2_22 : a_okC (2, 22, 1, 0, mX2_isFull) := ⟨a_ok_X2_isFull, by decide +kernel, (fun h => absurd h (by decide)), fun _ => ⟨a_mT 645 (by decide +kernel) (by decide +kernel), a_iv_X2_isFull, by decide⟩, (fun h => absurd h (by decide))⟩
theorem a_crL2_ok : ∀ q ∈ a_crL2, a_okC q := List.forall_mem_cons.mpr ⟨a_c_2_22, fun _ h => absurd h List.not_mem_nil⟩
theorem a_c_3_43 : a_okC (3, 43, 1, 1, mX4_figureAt) := ⟨a_ok_X4_figureAt, by decide +kernel, (fun h => absurd h (by decide)), fun _ => ⟨a_mT 280 (by decide +kernel) (by decide +kernel), a_iv_X4_figureAt, by decide⟩, (fun h => absurd h (by decide))⟩
theorem a_c_3_49 : a_okC (3, 49, 1, 0, mX3_dots) := ⟨a_ok_X3_dots, by decide +kernel, (fun h => absurd h (by decide)), fun _ => ⟨a_mT 281 (by decide +kernel) (by decide +kernel), a_iv_X3_dots, by decide⟩, (fun h => absurd h (by decide))⟩
theorem a_c_3_53 : a_okC (3, 53, 1, 3, mX3_setGrey) := ⟨a_ok_X3_setGrey, by decide +kernel, (fun h => absurd h (by decide)), fun _ => ⟨a_mT 285 (by decide +kernel) (by decide +kernel), a_iv_X3_setGrey, by decide⟩, (fun h => absurd h (by decide))⟩
theorem a_c_3_57 : a_okC (3, 57, 1, 2, mX3_setShown) := ⟨a_ok_X3_setShown, by decide +kernel, (fun h => absurd h (by decide)), fun _ => ⟨a_mT 293 (by decide +kernel) (by decide +kernel), a_iv_X3_setShown, by decide⟩, (fun h => absurd h (by decide))⟩
theorem a_c_3_61 : a_okC (3, 61, 1, 3, mX3_setRule) := ⟨a_ok_X3_setRule, by decide +kernel, (fun h => absurd h (by decide)), fun _ => ⟨a_mT 300 (by decide +kernel) (by decide +kernel), a_iv_X3_setRule, by decide⟩, (fun h => absurd h (by decide))⟩
theorem a_c_3_64 : a_okC (3, 64, 1, 2, mX3_setLie) := ⟨a_ok_X3_setLie, by decide +kernel, (fun h => absurd h (by decide)), fun _ => ⟨a_mT 304 (by decide +kernel) (by decide +kernel), a_iv_X3_setLie, by decide⟩, (fun h => absurd h (by decide))⟩
theorem a_c_3_73 : a_okC (3, 73, 1, 1, mX3_has) := ⟨a_ok_X3_has, by decide +kernel, (fun h => absurd h (by decide)), fun _ => ⟨a_mT 289 (by decide +kernel) (by decide +kernel), a_iv_X3_has, by decide⟩, (fun h => absurd h (by decide))⟩
theorem a_c_3_80 : a_okC (3, 80, 1, 2, mX3_greyOf) := ⟨a_ok_X3_greyOf, by decide +kernel, (fun h => absurd h (by decide)), fun _ => ⟨a_mT 339 (by decide +kernel) (by decide +kernel), a_iv_X3_greyOf, by decide⟩, (fun h => absurd h (by decide))⟩
theorem a_c_3_84 : a_okC (3, 84, 1, 3, mX3_lyingUnder) := ⟨a_ok_X3_lyingUnder, by decide +kernel, (fun h => absurd h (by decide)), fun _ => ⟨a_mT 340 (by decide +kernel) (by decide +kernel), a_iv_X3_lyingUnder, by decide⟩, (fun h => absurd h (by decide))⟩
theorem a_c_3_88 : a_okC (3, 88, 1, 1, mX3_shownFor) := ⟨a_ok_X3_shownFor, by decide +kernel, (fun h => absurd h (by decide)), fun _ => ⟨a_mT 344 (by decide +kernel) (by decide +kernel), a_iv_X3_shownFor, by decide⟩, (fun h => absurd h (by decide))⟩
theorem a_c_3_96 : a_okC (3, 96, 1, 1, mX3_withNeighbours) := ⟨a_ok_X3_withNeighbours, by decide +kernel, (fun h => absurd h (by decide)), fun _ => ⟨a_mT 468 (by decide +kernel) (by decide +kernel), a_iv_X3_withNeighbours, by decide⟩, (fun h => absurd h (by decide))⟩
theorem a_c_3_77 : a_okC (3, 77, 2, 1, mX5_isFigure) := ⟨a_ok_X5_isFigure, by decide +kernel, (fun h => absurd h (by decide)), (fun h => absurd h (by decide)), fun _ => ⟨⟨rfl, rfl, rfl⟩, a_st_X5_isFigure⟩⟩
theorem a_crL3_ok : ∀ q ∈ a_crL3, a_okC q := List.forall_mem_cons.mpr ⟨a_c_3_43, List.forall_mem_cons.mpr ⟨a_c_3_49, List.forall_mem_cons.mpr ⟨a_c_3_53, List.forall_mem_cons.mpr ⟨a_c_3_57, List.forall_mem_cons.mpr ⟨a_c_3_61, List.forall_mem_cons.mpr ⟨a_c_3_64, List.forall_mem_cons.mpr ⟨a_c_3_73, List.forall_mem_cons.mpr ⟨a_c_3_80, List.forall_mem_cons.mpr ⟨a_c_3_84, List.forall_mem_cons.mpr ⟨a_c_3_88, List.forall_mem_cons.mpr ⟨a_c_3_96, List.forall_mem_cons.mpr ⟨a_c_3_77, fun _ h => absurd h List.not_mem_nil⟩⟩⟩⟩⟩⟩⟩⟩⟩⟩⟩⟩
theorem a_c_4_19 : a_okC (4, 19, 1, 0, mX4_isFull) := ⟨a_ok_X4_isFull, by decide +kernel, (fun h => absurd h (by decide)), fun _ => ⟨a_mT 233 (by decide +kernel) (by decide +kernel), a_iv_X4_isFull, by decide⟩, (fun h => absurd h (by decide))⟩
theorem a_c_4_23 : a_okC (4, 23, 1, 1, mX4_fits) := ⟨a_ok_X4_fits, by decide +kernel, (fun h => absurd h (by decide)), fun _ => ⟨a_mT 250 (by decide +kernel) (by decide +kernel), a_iv_X4_fits, by decide⟩, (fun h => absurd h (by decide))⟩
theorem a_c_4_27 : a_okC (4, 27, 1, 0, mX4_dotsTold) := ⟨a_ok_X4_dotsTold, by decide +kernel, (fun h => absurd h (by decide)), fun _ => ⟨a_mT 258 (by decide +kernel) (by decide +kernel), a_iv_X4_dotsTold, by decide⟩, (fun h => absurd h (by decide))⟩
theorem a_c_4_31 : a_okC (4, 31, 1, 1, mX4_letterAt) := ⟨a_ok_X4_letterAt, by decide +kernel, (fun h => absurd h (by decide)), fun _ => ⟨a_mT 254 (by decide +kernel) (by decide +kernel), a_iv_X4_letterAt, by decide⟩, (fun h => absurd h (by decide))⟩
theorem a_c_4_44 : a_okC (4, 44, 1, 1, mX4_figureAt) := ⟨a_ok_X4_figureAt, by decide +kernel, (fun h => absurd h (by decide)), fun _ => ⟨a_mT 262 (by decide +kernel) (by decide +kernel), a_iv_X4_figureAt, by decide⟩, (fun h => absurd h (by decide))⟩
theorem a_crL4_ok : ∀ q ∈ a_crL4, a_okC q := List.forall_mem_cons.mpr ⟨a_c_4_19, List.forall_mem_cons.mpr ⟨a_c_4_23, List.forall_mem_cons.mpr ⟨a_c_4_27, List.forall_mem_cons.mpr ⟨a_c_4_31, List.forall_mem_cons.mpr ⟨a_c_4_44, fun _ h => absurd h List.not_mem_nil⟩⟩⟩⟩⟩
theorem a_c_5_65 : a_okC (5, 65, 1, 0, mX4_isFull) := ⟨a_ok_X4_isFull, by decide +kernel, (fun h => absurd h (by decide)), fun _ => ⟨a_mT 225 (by decide +kernel) (by decide +kernel), a_iv_X4_isFull, by decide⟩, (fun h => absurd h (by decide))⟩
theorem a_c_5_69 : a_okC (5, 69, 1, 1, mX4_append) := ⟨a_ok_X4_append, by decide +kernel, (fun h => absurd h (by decide)), fun _ => ⟨a_mT 229 (by decide +kernel) (by decide +kernel), a_iv_X4_append, by decide⟩, (fun h => absurd h (by decide))⟩
theorem a_c_5_73 : a_okC (5, 73, 1, 0, mX4_clear) := ⟨a_ok_X4_clear, by decide +kernel, (fun h => absurd h (by decide)), fun _ => ⟨a_mT 238 (by decide +kernel) (by decide +kernel), a_iv_X4_clear, by decide⟩, (fun h => absurd h (by decide))⟩
theorem a_c_5_77 : a_okC (5, 77, 1, 0, mX4_firstFault) := ⟨a_ok_X4_firstFault, by decide +kernel, (fun h => absurd h (by decide)), fun _ => ⟨a_mT 246 (by decide +kernel) (by decide +kernel), a_iv_X4_firstFault, by decide⟩, (fun h => absurd h (by decide))⟩
theorem a_c_5_80 : a_okC (5, 80, 1, 1, mX3_becomeText) := ⟨a_ok_X3_becomeText, by decide +kernel, (fun h => absurd h (by decide)), fun _ => ⟨a_mT 276 (by decide +kernel) (by decide +kernel), a_iv_X3_becomeText, by decide⟩, (fun h => absurd h (by decide))⟩
theorem a_c_5_84 : a_okC (5, 84, 1, 0, mX0_forgetAll) := ⟨a_ok_X0_forgetAll, by decide +kernel, (fun h => absurd h (by decide)), fun _ => ⟨a_mT 308 (by decide +kernel) (by decide +kernel), a_iv_X0_forgetAll, by decide⟩, (fun h => absurd h (by decide))⟩
theorem a_c_5_87 : a_okC (5, 87, 1, 0, mX3_dots) := ⟨a_ok_X3_dots, by decide +kernel, (fun h => absurd h (by decide)), fun _ => ⟨a_mT 312 (by decide +kernel) (by decide +kernel), a_iv_X3_dots, by decide⟩, (fun h => absurd h (by decide))⟩
theorem a_c_5_96 : a_okC (5, 96, 1, 2, mX1_howMany) := ⟨a_ok_X1_howMany, by decide +kernel, (fun h => absurd h (by decide)), fun _ => ⟨a_mT 317 (by decide +kernel) (by decide +kernel), a_iv_X1_howMany, by decide⟩, (fun h => absurd h (by decide))⟩
theorem a_c_5_100 : a_okC (5, 100, 1, 0, mX3_greysTogether) := ⟨a_ok_X3_greysTogether, by decide +kernel, (fun h => absurd h (by decide)), fun _ => ⟨a_mT 380 (by decide +kernel) (by decide +kernel), a_iv_X3_greysTogether, by decide⟩, (fun h => absurd h (by decide))⟩
theorem a_c_5_118 : a_okC (5, 118, 0, 2, mX5_lieNumber) := ⟨a_ok_X5_lieNumber, by decide +kernel, fun _ => ⟨a_mT 384 (by decide +kernel) (by decide +kernel), a_st_X5_lieNumber⟩, (fun h => absurd h (by decide)), (fun h => absurd h (by decide))⟩
theorem a_c_5_122 : a_okC (5, 122, 1, 0, mX0_size) := ⟨a_ok_X0_size, by decide +kernel, (fun h => absurd h (by decide)), fun _ => ⟨a_mT 387 (by decide +kernel) (by decide +kernel), a_iv_X0_size, by decide⟩, (fun h => absurd h (by decide))⟩
theorem a_c_5_125 : a_okC (5, 125, 1, 0, mX2_size) := ⟨a_ok_X2_size, by decide +kernel, (fun h => absurd h (by decide)), fun _ => ⟨a_mT 391 (by decide +kernel) (by decide +kernel), a_iv_X2_size, by decide⟩, (fun h => absurd h (by decide))⟩
theorem a_c_5_126 : a_okC (5, 126, 1, 0, mX4_size) := ⟨a_ok_X4_size, by decide +kernel, (fun h => absurd h (by decide)), fun _ => ⟨a_mT 395 (by decide +kernel) (by decide +kernel), a_iv_X4_size, by decide⟩, (fun h => absurd h (by decide))⟩
theorem a_c_5_127 : a_okC (5, 127, 0, 1, mX5_isSide) := ⟨a_ok_X5_isSide, by decide +kernel, fun _ => ⟨a_mT 403 (by decide +kernel) (by decide +kernel), a_st_X5_isSide⟩, (fun h => absurd h (by decide)), (fun h => absurd h (by decide))⟩
theorem a_c_5_131 : a_okC (5, 131, 1, 1, mX3_has) := ⟨a_ok_X3_has, by decide +kernel, (fun h => absurd h (by decide)), fun _ => ⟨a_mT 406 (by decide +kernel) (by decide +kernel), a_iv_X3_has, by decide⟩, (fun h => absurd h (by decide))⟩
theorem a_c_5_134 : a_okC (5, 134, 1, 2, mX3_greyOf) := ⟨a_ok_X3_greyOf, by decide +kernel, (fun h => absurd h (by decide)), fun _ => ⟨a_mT 407 (by decide +kernel) (by decide +kernel), a_iv_X3_greyOf, by decide⟩, (fun h => absurd h (by decide))⟩
theorem a_c_5_137 : a_okC (5, 137, 0, 1, mX5_isFigure) := ⟨a_ok_X5_isFigure, by decide +kernel, fun _ => ⟨a_mT 412 (by decide +kernel) (by decide +kernel), a_st_X5_isFigure⟩, (fun h => absurd h (by decide)), (fun h => absurd h (by decide))⟩
theorem a_c_5_140 : a_okC (5, 140, 1, 1, mX3_shownFor) := ⟨a_ok_X3_shownFor, by decide +kernel, (fun h => absurd h (by decide)), fun _ => ⟨a_mT 413 (by decide +kernel) (by decide +kernel), a_iv_X3_shownFor, by decide⟩, (fun h => absurd h (by decide))⟩
theorem a_c_5_143 : a_okC (5, 143, 1, 3, mX1_lookAt) := ⟨a_ok_X1_lookAt, by decide +kernel, (fun h => absurd h (by decide)), fun _ => ⟨a_mT 418 (by decide +kernel) (by decide +kernel), a_iv_X1_lookAt, by decide⟩, (fun h => absurd h (by decide))⟩
theorem a_c_5_147 : a_okC (5, 147, 1, 1, mX1_countOf) := ⟨a_ok_X1_countOf, by decide +kernel, (fun h => absurd h (by decide)), fun _ => ⟨a_mT 419 (by decide +kernel) (by decide +kernel), a_iv_X1_countOf, by decide⟩, (fun h => absurd h (by decide))⟩
theorem a_c_5_150 : a_okC (5, 150, 1, 1, mX1_sumOf) := ⟨a_ok_X1_sumOf, by decide +kernel, (fun h => absurd h (by decide)), fun _ => ⟨a_mT 423 (by decide +kernel) (by decide +kernel), a_iv_X1_sumOf, by decide⟩, (fun h => absurd h (by decide))⟩
theorem a_c_5_153 : a_okC (5, 153, 1, 1, mX1_squaresOf) := ⟨a_ok_X1_squaresOf, by decide +kernel, (fun h => absurd h (by decide)), fun _ => ⟨a_mT 427 (by decide +kernel) (by decide +kernel), a_iv_X1_squaresOf, by decide⟩, (fun h => absurd h (by decide))⟩
theorem a_c_5_156 : a_okC (5, 156, 0, 3, mX5_fraction) := ⟨a_ok_X5_fraction, by decide +kernel, fun _ => ⟨a_mT 435 (by decide +kernel) (by decide +kernel), a_st_X5_fraction⟩, (fun h => absurd h (by decide)), (fun h => absurd h (by decide))⟩
theorem a_c_5_160 : a_okC (5, 160, 1, 1, mX1_unevenness) := ⟨a_ok_X1_unevenness, by decide +kernel, (fun h => absurd h (by decide)), fun _ => ⟨a_mT 444 (by decide +kernel) (by decide +kernel), a_iv_X1_unevenness, by decide⟩, (fun h => absurd h (by decide))⟩
theorem a_c_5_163 : a_okC (5, 163, 1, 2, mX1_markOf) := ⟨a_ok_X1_markOf, by decide +kernel, (fun h => absurd h (by decide)), fun _ => ⟨a_mT 452 (by decide +kernel) (by decide +kernel), a_iv_X1_markOf, by decide⟩, (fun h => absurd h (by decide))⟩
theorem a_c_5_166 : a_okC (5, 166, 1, 3, mX3_lyingUnder) := ⟨a_ok_X3_lyingUnder, by decide +kernel, (fun h => absurd h (by decide)), fun _ => ⟨a_mT 457 (by decide +kernel) (by decide +kernel), a_iv_X3_lyingUnder, by decide⟩, (fun h => absurd h (by decide))⟩
theorem a_c_5_170 : a_okC (5, 170, 1, 2, mX1_look) := ⟨a_ok_X1_look, by decide +kernel, (fun h => absurd h (by decide)), fun _ => ⟨a_mT 462 (by decide +kernel) (by decide +kernel), a_iv_X1_look, by decide⟩, (fun h => absurd h (by decide))⟩
theorem a_c_5_174 : a_okC (5, 174, 1, 2, mX1_dotsMarked) := ⟨a_ok_X1_dotsMarked, by decide +kernel, (fun h => absurd h (by decide)), fun _ => ⟨a_mT 463 (by decide +kernel) (by decide +kernel), a_iv_X1_dotsMarked, by decide⟩, (fun h => absurd h (by decide))⟩
theorem a_c_5_177 : a_okC (5, 177, 1, 2, mX3_hangingTogether) := ⟨a_ok_X3_hangingTogether, by decide +kernel, (fun h => absurd h (by decide)), fun _ => ⟨a_mT 464 (by decide +kernel) (by decide +kernel), a_iv_X3_hangingTogether, by decide⟩, (fun h => absurd h (by decide))⟩
theorem a_c_5_180 : a_okC (5, 180, 0, 1, mJ6_bitCount_0f7a4) := ⟨a_ok_J6_bitCount_0f7a4, by decide +kernel, fun _ => ⟨a_mT 472 (by decide +kernel) (by decide +kernel), a_st_J6_bitCount_0f7a4⟩, (fun h => absurd h (by decide)), (fun h => absurd h (by decide))⟩
theorem a_c_5_185 : a_okC (5, 185, 1, 4, mX0_add) := ⟨a_ok_X0_add, by decide +kernel, (fun h => absurd h (by decide)), fun _ => ⟨a_mT 477 (by decide +kernel) (by decide +kernel), a_iv_X0_add, by decide⟩, (fun h => absurd h (by decide))⟩
theorem a_c_5_189 : a_okC (5, 189, 1, 3, mX3_setGrey) := ⟨a_ok_X3_setGrey, by decide +kernel, (fun h => absurd h (by decide)), fun _ => ⟨a_mT 488 (by decide +kernel) (by decide +kernel), a_iv_X3_setGrey, by decide⟩, (fun h => absurd h (by decide))⟩
theorem a_c_5_193 : a_okC (5, 193, 0, 1, mX5_isLight) := ⟨a_ok_X5_isLight, by decide +kernel, fun _ => ⟨a_mT 493 (by decide +kernel) (by decide +kernel), a_st_X5_isLight⟩, (fun h => absurd h (by decide)), (fun h => absurd h (by decide))⟩
theorem a_c_5_196 : a_okC (5, 196, 1, 1, mX3_staysGrey) := ⟨a_ok_X3_staysGrey, by decide +kernel, (fun h => absurd h (by decide)), fun _ => ⟨a_mT 496 (by decide +kernel) (by decide +kernel), a_iv_X3_staysGrey, by decide⟩, (fun h => absurd h (by decide))⟩
theorem a_c_5_199 : a_okC (5, 199, 1, 1, mX3_lighten) := ⟨a_ok_X3_lighten, by decide +kernel, (fun h => absurd h (by decide)), fun _ => ⟨a_mT 500 (by decide +kernel) (by decide +kernel), a_iv_X3_lighten, by decide⟩, (fun h => absurd h (by decide))⟩
theorem a_c_5_203 : a_okC (5, 203, 0, 3, mX5_isRule) := ⟨a_ok_X5_isRule, by decide +kernel, fun _ => ⟨a_mT 508 (by decide +kernel) (by decide +kernel), a_st_X5_isRule⟩, (fun h => absurd h (by decide)), (fun h => absurd h (by decide))⟩
theorem a_c_5_207 : a_okC (5, 207, 1, 3, mX3_setRule) := ⟨a_ok_X3_setRule, by decide +kernel, (fun h => absurd h (by decide)), fun _ => ⟨a_mT 511 (by decide +kernel) (by decide +kernel), a_iv_X3_setRule, by decide⟩, (fun h => absurd h (by decide))⟩
theorem a_c_5_210 : a_okC (5, 210, 1, 2, mX3_setShown) := ⟨a_ok_X3_setShown, by decide +kernel, (fun h => absurd h (by decide)), fun _ => ⟨a_mT 516 (by decide +kernel) (by decide +kernel), a_iv_X3_setShown, by decide⟩, (fun h => absurd h (by decide))⟩
theorem a_c_5_214 : a_okC (5, 214, 0, 2, mX5_isLie) := ⟨a_ok_X5_isLie, by decide +kernel, fun _ => ⟨a_mT 521 (by decide +kernel) (by decide +kernel), a_st_X5_isLie⟩, (fun h => absurd h (by decide)), (fun h => absurd h (by decide))⟩
theorem a_c_5_218 : a_okC (5, 218, 1, 2, mX3_setLie) := ⟨a_ok_X3_setLie, by decide +kernel, (fun h => absurd h (by decide)), fun _ => ⟨a_mT 524 (by decide +kernel) (by decide +kernel), a_iv_X3_setLie, by decide⟩, (fun h => absurd h (by decide))⟩
theorem a_c_5_221 : a_okC (5, 221, 1, 1, mX0_takeBackLast) := ⟨a_ok_X0_takeBackLast, by decide +kernel, (fun h => absurd h (by decide)), fun _ => ⟨a_mT 529 (by decide +kernel) (by decide +kernel), a_iv_X0_takeBackLast, by decide⟩, (fun h => absurd h (by decide))⟩
theorem a_c_5_225 : a_okC (5, 225, 1, 2, mX3_pairs) := ⟨a_ok_X3_pairs, by decide +kernel, (fun h => absurd h (by decide)), fun _ => ⟨a_mT 546 (by decide +kernel) (by decide +kernel), a_iv_X3_pairs, by decide⟩, (fun h => absurd h (by decide))⟩
theorem a_c_5_228 : a_okC (5, 228, 1, 2, mX3_difference) := ⟨a_ok_X3_difference, by decide +kernel, (fun h => absurd h (by decide)), fun _ => ⟨a_mT 550 (by decide +kernel) (by decide +kernel), a_iv_X3_difference, by decide⟩, (fun h => absurd h (by decide))⟩
theorem a_c_5_231 : a_okC (5, 231, 1, 0, mX5_bestLie) := ⟨a_ok_X5_bestLie, by decide +kernel, (fun h => absurd h (by decide)), fun _ => ⟨a_mT 558 (by decide +kernel) (by decide +kernel), a_iv_X5_bestLie, by decide⟩, (fun h => absurd h (by decide))⟩
theorem a_c_5_234 : a_okC (5, 234, 1, 1, mX5_bestWindow) := ⟨a_ok_X5_bestWindow, by decide +kernel, (fun h => absurd h (by decide)), fun _ => ⟨a_mT 562 (by decide +kernel) (by decide +kernel), a_iv_X5_bestWindow, by decide⟩, (fun h => absurd h (by decide))⟩
theorem a_c_5_242 : a_okC (5, 242, 1, 1, mX3_copyFrom) := ⟨a_ok_X3_copyFrom, by decide +kernel, (fun h => absurd h (by decide)), fun _ => ⟨a_mT 575 (by decide +kernel) (by decide +kernel), a_iv_X3_copyFrom, by decide⟩, (fun h => absurd h (by decide))⟩
theorem a_c_5_248 : a_okC (5, 248, 1, 1, mX5_canBe) := ⟨a_ok_X5_canBe, by decide +kernel, (fun h => absurd h (by decide)), fun _ => ⟨a_mT 581 (by decide +kernel) (by decide +kernel), a_iv_X5_canBe, by decide⟩, (fun h => absurd h (by decide))⟩
theorem a_c_5_251 : a_okC (5, 251, 1, 1, mX3_hasRow) := ⟨a_ok_X3_hasRow, by decide +kernel, (fun h => absurd h (by decide)), fun _ => ⟨a_mT 613 (by decide +kernel) (by decide +kernel), a_iv_X3_hasRow, by decide⟩, (fun h => absurd h (by decide))⟩
theorem a_c_5_254 : a_okC (5, 254, 1, 1, mX5_inkWhenCome) := ⟨a_ok_X5_inkWhenCome, by decide +kernel, (fun h => absurd h (by decide)), fun _ => ⟨a_mT 617 (by decide +kernel) (by decide +kernel), a_iv_X5_inkWhenCome, by decide⟩, (fun h => absurd h (by decide))⟩
theorem a_c_5_257 : a_okC (5, 257, 0, 2, mX5_ordersWith) := ⟨a_ok_X5_ordersWith, by decide +kernel, fun _ => ⟨a_mT 625 (by decide +kernel) (by decide +kernel), a_st_X5_ordersWith⟩, (fun h => absurd h (by decide)), (fun h => absurd h (by decide))⟩
theorem a_c_5_260 : a_okC (5, 260, 0, 1, mX5_factorial) := ⟨a_ok_X5_factorial, by decide +kernel, fun _ => ⟨a_mT 628 (by decide +kernel) (by decide +kernel), a_st_X5_factorial⟩, (fun h => absurd h (by decide)), (fun h => absurd h (by decide))⟩
theorem a_c_5_263 : a_okC (5, 263, 1, 0, mX2_isFull) := ⟨a_ok_X2_isFull, by decide +kernel, (fun h => absurd h (by decide)), fun _ => ⟨a_mT 637 (by decide +kernel) (by decide +kernel), a_iv_X2_isFull, by decide⟩, (fun h => absurd h (by decide))⟩
theorem a_c_5_264 : a_okC (5, 264, 1, 2, mX2_add) := ⟨a_ok_X2_add, by decide +kernel, (fun h => absurd h (by decide)), fun _ => ⟨a_mT 641 (by decide +kernel) (by decide +kernel), a_iv_X2_add, by decide⟩, (fun h => absurd h (by decide))⟩
theorem a_c_5_266 : a_okC (5, 266, 1, 0, mX2_clear) := ⟨a_ok_X2_clear, by decide +kernel, (fun h => absurd h (by decide)), fun _ => ⟨a_mT 650 (by decide +kernel) (by decide +kernel), a_iv_X2_clear, by decide⟩, (fun h => absurd h (by decide))⟩
theorem a_c_5_267 : a_okC (5, 267, 1, 1, mX2_agreesWith) := ⟨a_ok_X2_agreesWith, by decide +kernel, (fun h => absurd h (by decide)), fun _ => ⟨a_mT 658 (by decide +kernel) (by decide +kernel), a_iv_X2_agreesWith, by decide⟩, (fun h => absurd h (by decide))⟩
theorem a_c_5_270 : a_okC (5, 270, 0, 2, mX5_windowNumber) := ⟨a_ok_X5_windowNumber, by decide +kernel, fun _ => ⟨a_mT 566 (by decide +kernel) (by decide +kernel), a_st_X5_windowNumber⟩, (fun h => absurd h (by decide)), (fun h => absurd h (by decide))⟩
theorem a_c_5_273 : a_okC (5, 273, 1, 2, mX5_inkWhenBleached) := ⟨a_ok_X5_inkWhenBleached, by decide +kernel, (fun h => absurd h (by decide)), fun _ => ⟨a_mT 666 (by decide +kernel) (by decide +kernel), a_iv_X5_inkWhenBleached, by decide⟩, (fun h => absurd h (by decide))⟩
theorem a_c_5_276 : a_okC (5, 276, 0, 2, mX5_power) := ⟨a_ok_X5_power, by decide +kernel, fun _ => ⟨a_mT 670 (by decide +kernel) (by decide +kernel), a_st_X5_power⟩, (fun h => absurd h (by decide)), (fun h => absurd h (by decide))⟩
theorem a_c_5_283 : a_okC (5, 283, 0, 2, mX5_remainder) := ⟨a_ok_X5_remainder, by decide +kernel, fun _ => ⟨a_mT 683 (by decide +kernel) (by decide +kernel), a_st_X5_remainder⟩, (fun h => absurd h (by decide)), (fun h => absurd h (by decide))⟩
theorem a_c_5_286 : a_okC (5, 286, 0, 1, mX5_isSlot) := ⟨a_ok_X5_isSlot, by decide +kernel, fun _ => ⟨a_mT 690 (by decide +kernel) (by decide +kernel), a_st_X5_isSlot⟩, (fun h => absurd h (by decide)), (fun h => absurd h (by decide))⟩
theorem a_c_5_289 : a_okC (5, 289, 1, 1, mX5_slotAt) := ⟨a_ok_X5_slotAt, by decide +kernel, (fun h => absurd h (by decide)), fun _ => ⟨a_mT 693 (by decide +kernel) (by decide +kernel), a_iv_X5_slotAt, by decide⟩, (fun h => absurd h (by decide))⟩
theorem a_c_5_293 : a_okC (5, 293, 1, 2, mX3_whiten) := ⟨a_ok_X3_whiten, by decide +kernel, (fun h => absurd h (by decide)), fun _ => ⟨a_mT 621 (by decide +kernel) (by decide +kernel), a_iv_X3_whiten, by decide⟩, (fun h => absurd h (by decide))⟩
theorem a_c_5_296 : a_okC (5, 296, 1, 3, mX5_canPaint) := ⟨a_ok_X5_canPaint, by decide +kernel, (fun h => absurd h (by decide)), fun _ => ⟨a_mT 585 (by decide +kernel) (by decide +kernel), a_iv_X5_canPaint, by decide⟩, (fun h => absurd h (by decide))⟩
theorem a_c_5_299 : a_okC (5, 299, 1, 1, mX5_canLighten) := ⟨a_ok_X5_canLighten, by decide +kernel, (fun h => absurd h (by decide)), fun _ => ⟨a_mT 589 (by decide +kernel) (by decide +kernel), a_iv_X5_canLighten, by decide⟩, (fun h => absurd h (by decide))⟩
theorem a_c_5_302 : a_okC (5, 302, 1, 3, mX5_canRule) := ⟨a_ok_X5_canRule, by decide +kernel, (fun h => absurd h (by decide)), fun _ => ⟨a_mT 593 (by decide +kernel) (by decide +kernel), a_iv_X5_canRule, by decide⟩, (fun h => absurd h (by decide))⟩
theorem a_c_5_305 : a_okC (5, 305, 1, 2, mX5_canTable) := ⟨a_ok_X5_canTable, by decide +kernel, (fun h => absurd h (by decide)), fun _ => ⟨a_mT 597 (by decide +kernel) (by decide +kernel), a_iv_X5_canTable, by decide⟩, (fun h => absurd h (by decide))⟩
theorem a_c_5_308 : a_okC (5, 308, 1, 2, mX5_canLay) := ⟨a_ok_X5_canLay, by decide +kernel, (fun h => absurd h (by decide)), fun _ => ⟨a_mT 601 (by decide +kernel) (by decide +kernel), a_iv_X5_canLay, by decide⟩, (fun h => absurd h (by decide))⟩
theorem a_c_5_311 : a_okC (5, 311, 1, 2, mX5_isSoMarked) := ⟨a_ok_X5_isSoMarked, by decide +kernel, (fun h => absurd h (by decide)), fun _ => ⟨a_mT 605 (by decide +kernel) (by decide +kernel), a_iv_X5_isSoMarked, by decide⟩, (fun h => absurd h (by decide))⟩
theorem a_c_5_319 : a_okC (5, 319, 0, 2, mX5_commonDivisor) := ⟨a_ok_X5_commonDivisor, by decide +kernel, fun _ => ⟨a_mT 441 (by decide +kernel) (by decide +kernel), a_st_X5_commonDivisor⟩, (fun h => absurd h (by decide)), (fun h => absurd h (by decide))⟩
theorem a_crL5_ok : ∀ q ∈ a_crL5, a_okC q := List.forall_mem_cons.mpr ⟨a_c_5_65, List.forall_mem_cons.mpr ⟨a_c_5_69, List.forall_mem_cons.mpr ⟨a_c_5_73, List.forall_mem_cons.mpr ⟨a_c_5_77, List.forall_mem_cons.mpr ⟨a_c_5_80, List.forall_mem_cons.mpr ⟨a_c_5_84, List.forall_mem_cons.mpr ⟨a_c_5_87, List.forall_mem_cons.mpr ⟨a_c_5_96, List.forall_mem_cons.mpr ⟨a_c_5_100, List.forall_mem_cons.mpr ⟨a_c_5_118, List.forall_mem_cons.mpr ⟨a_c_5_122, List.forall_mem_cons.mpr ⟨a_c_5_125, List.forall_mem_cons.mpr ⟨a_c_5_126, List.forall_mem_cons.mpr ⟨a_c_5_127, List.forall_mem_cons.mpr ⟨a_c_5_131, List.forall_mem_cons.mpr ⟨a_c_5_134, List.forall_mem_cons.mpr ⟨a_c_5_137, List.forall_mem_cons.mpr ⟨a_c_5_140, List.forall_mem_cons.mpr ⟨a_c_5_143, List.forall_mem_cons.mpr ⟨a_c_5_147, List.forall_mem_cons.mpr ⟨a_c_5_150, List.forall_mem_cons.mpr ⟨a_c_5_153, List.forall_mem_cons.mpr ⟨a_c_5_156, List.forall_mem_cons.mpr ⟨a_c_5_160, List.forall_mem_cons.mpr ⟨a_c_5_163, List.forall_mem_cons.mpr ⟨a_c_5_166, List.forall_mem_cons.mpr ⟨a_c_5_170, List.forall_mem_cons.mpr ⟨a_c_5_174, List.forall_mem_cons.mpr ⟨a_c_5_177, List.forall_mem_cons.mpr ⟨a_c_5_180, List.forall_mem_cons.mpr ⟨a_c_5_185, List.forall_mem_cons.mpr ⟨a_c_5_189, List.forall_mem_cons.mpr ⟨a_c_5_193, List.forall_mem_cons.mpr ⟨a_c_5_196, List.forall_mem_cons.mpr ⟨a_c_5_199, List.forall_mem_cons.mpr ⟨a_c_5_203, List.forall_mem_cons.mpr ⟨a_c_5_207, List.forall_mem_cons.mpr ⟨a_c_5_210, List.forall_mem_cons.mpr ⟨a_c_5_214, List.forall_mem_cons.mpr ⟨a_c_5_218, List.forall_mem_cons.mpr ⟨a_c_5_221, List.forall_mem_cons.mpr ⟨a_c_5_225, List.forall_mem_cons.mpr ⟨a_c_5_228, List.forall_mem_cons.mpr ⟨a_c_5_231, List.forall_mem_cons.mpr ⟨a_c_5_234, List.forall_mem_cons.mpr ⟨a_c_5_242, List.forall_mem_cons.mpr ⟨a_c_5_248, List.forall_mem_cons.mpr ⟨a_c_5_251, List.forall_mem_cons.mpr ⟨a_c_5_254, List.forall_mem_cons.mpr ⟨a_c_5_257, List.forall_mem_cons.mpr ⟨a_c_5_260, List.forall_mem_cons.mpr ⟨a_c_5_263, List.forall_mem_cons.mpr ⟨a_c_5_264, List.forall_mem_cons.mpr ⟨a_c_5_266, List.forall_mem_cons.mpr ⟨a_c_5_267, List.forall_mem_cons.mpr ⟨a_c_5_270, List.forall_mem_cons.mpr ⟨a_c_5_273, List.forall_mem_cons.mpr ⟨a_c_5_276, List.forall_mem_cons.mpr ⟨a_c_5_283, List.forall_mem_cons.mpr ⟨a_c_5_286, List.forall_mem_cons.mpr ⟨a_c_5_289, List.forall_mem_cons.mpr ⟨a_c_5_293, List.forall_mem_cons.mpr ⟨a_c_5_296, List.forall_mem_cons.mpr ⟨a_c_5_299, List.forall_mem_cons.mpr ⟨a_c_5_302, List.forall_mem_cons.mpr ⟨a_c_5_305, List.forall_mem_cons.mpr ⟨a_c_5_308, List.forall_mem_cons.mpr ⟨a_c_5_311, List.forall_mem_cons.mpr ⟨a_c_5_319, fun _ h => absurd h List.not_mem_nil⟩⟩⟩⟩⟩⟩⟩⟩⟩⟩⟩⟩⟩⟩⟩⟩⟩⟩⟩⟩⟩⟩⟩⟩⟩⟩⟩⟩⟩⟩⟩⟩⟩⟩⟩⟩⟩⟩⟩⟩⟩⟩⟩⟩⟩⟩⟩⟩⟩⟩⟩⟩⟩⟩⟩⟩⟩⟩⟩⟩⟩⟩⟩⟩⟩⟩⟩⟩⟩
theorem a_c_6_41 : a_okC (6, 41, 0, 1, mX6_openRule) := ⟨a_ok_X6_openRule, by decide +kernel, fun _ => ⟨a_mT 707 (by decide +kernel) (by decide +kernel), a_st_X6_openRule⟩, (fun h => absurd h (by decide)), (fun h => absurd h (by decide))⟩
theorem a_c_6_49 : a_okC (6, 49, 0, 2, mX6_divisor) := ⟨a_ok_X6_divisor, by decide +kernel, fun _ => ⟨a_mT 863 (by decide +kernel) (by decide +kernel), a_st_X6_divisor⟩, (fun h => absurd h (by decide)), (fun h => absurd h (by decide))⟩
theorem a_c_6_53 : a_okC (6, 53, 0, 1, mX6_dotsOf) := ⟨a_ok_X6_dotsOf, by decide +kernel, fun _ => ⟨a_mT 804 (by decide +kernel) (by decide +kernel), a_st_X6_dotsOf⟩, (fun h => absurd h (by decide)), (fun h => absurd h (by decide))⟩
theorem a_c_6_57 : a_okC (6, 57, 0, 3, mX6_in) := ⟨a_ok_X6_in, by decide +kernel, fun _ => ⟨a_mT 783 (by decide +kernel) (by decide +kernel), a_st_X6_in⟩, (fun h => absurd h (by decide)), (fun h => absurd h (by decide))⟩
theorem a_c_6_68 : a_okC (6, 68, 1, 1, mX6_figureAt) := ⟨a_ok_X6_figureAt, by decide +kernel, (fun h => absurd h (by decide)), fun _ => ⟨a_mT 798 (by decide +kernel) (by decide +kernel), a_iv_X6_figureAt, by decide⟩, (fun h => absurd h (by decide))⟩
theorem a_c_6_74 : a_okC (6, 74, 1, 0, mX6_readLeaf) := ⟨a_ok_X6_readLeaf, by decide +kernel, (fun h => absurd h (by decide)), fun _ => ⟨a_mT 794 (by decide +kernel) (by decide +kernel), a_iv_X6_readLeaf, by decide⟩, (fun h => absurd h (by decide))⟩
theorem a_c_6_90 : a_okC (6, 90, 0, 2, mX6_far) := ⟨a_ok_X6_far, by decide +kernel, fun _ => ⟨a_mT 827 (by decide +kernel) (by decide +kernel), a_st_X6_far⟩, (fun h => absurd h (by decide)), (fun h => absurd h (by decide))⟩
theorem a_c_6_93 : a_okC (6, 93, 1, 3, mX6_layWindow) := ⟨a_ok_X6_layWindow, by decide +kernel, (fun h => absurd h (by decide)), fun _ => ⟨a_mT 823 (by decide +kernel) (by decide +kernel), a_iv_X6_layWindow, by decide⟩, (fun h => absurd h (by decide))⟩
theorem a_c_6_97 : a_okC (6, 97, 1, 2, mX6_isDark) := ⟨a_ok_X6_isDark, by decide +kernel, (fun h => absurd h (by decide)), fun _ => ⟨a_mT 830 (by decide +kernel) (by decide +kernel), a_iv_X6_isDark, by decide⟩, (fun h => absurd h (by decide))⟩
theorem a_c_6_101 : a_okC (6, 101, 0, 4, mX6_underOf) := ⟨a_ok_X6_underOf, by decide +kernel, fun _ => ⟨a_mT 834 (by decide +kernel) (by decide +kernel), a_st_X6_underOf⟩, (fun h => absurd h (by decide)), (fun h => absurd h (by decide))⟩
theorem a_c_6_105 : a_okC (6, 105, 1, 2, mX6_markOf) := ⟨a_ok_X6_markOf, by decide +kernel, (fun h => absurd h (by decide)), fun _ => ⟨a_mT 819 (by decide +kernel) (by decide +kernel), a_iv_X6_markOf, by decide⟩, (fun h => absurd h (by decide))⟩
theorem a_c_6_109 : a_okC (6, 109, 1, 2, mX6_marks) := ⟨a_ok_X6_marks, by decide +kernel, (fun h => absurd h (by decide)), fun _ => ⟨a_mT 815 (by decide +kernel) (by decide +kernel), a_iv_X6_marks, by decide⟩, (fun h => absurd h (by decide))⟩
theorem a_c_6_112 : a_okC (6, 112, 0, 1, mX6_greys) := ⟨a_ok_X6_greys, by decide +kernel, fun _ => ⟨a_mT 837 (by decide +kernel) (by decide +kernel), a_st_X6_greys⟩, (fun h => absurd h (by decide)), (fun h => absurd h (by decide))⟩
theorem a_c_6_118 : a_okC (6, 118, 1, 1, mX6_noDot) := ⟨a_ok_X6_noDot, by decide +kernel, (fun h => absurd h (by decide)), fun _ => ⟨a_mT 844 (by decide +kernel) (by decide +kernel), a_iv_X6_noDot, by decide⟩, (fun h => absurd h (by decide))⟩
theorem a_c_6_122 : a_okC (6, 122, 0, 3, mX6_fraction) := ⟨a_ok_X6_fraction, by decide +kernel, fun _ => ⟨a_mT 860 (by decide +kernel) (by decide +kernel), a_st_X6_fraction⟩, (fun h => absurd h (by decide)), (fun h => absurd h (by decide))⟩
theorem a_c_6_126 : a_okC (6, 126, 0, 2, mX6_has) := ⟨a_ok_X6_has, by decide +kernel, fun _ => ⟨a_mT 883 (by decide +kernel) (by decide +kernel), a_st_X6_has⟩, (fun h => absurd h (by decide)), (fun h => absurd h (by decide))⟩
theorem a_c_6_132 : a_okC (6, 132, 1, 1, mX6_inkOf) := ⟨a_ok_X6_inkOf, by decide +kernel, (fun h => absurd h (by decide)), fun _ => ⟨a_mT 879 (by decide +kernel) (by decide +kernel), a_iv_X6_inkOf, by decide⟩, (fun h => absurd h (by decide))⟩
theorem a_c_6_135 : a_okC (6, 135, 0, 3, mX6_hanging) := ⟨a_ok_X6_hanging, by decide +kernel, fun _ => ⟨a_mT 886 (by decide +kernel) (by decide +kernel), a_st_X6_hanging⟩, (fun h => absurd h (by decide)), (fun h => absurd h (by decide))⟩
theorem a_c_6_139 : a_okC (6, 139, 0, 1, mX6_many) := ⟨a_ok_X6_many, by decide +kernel, fun _ => ⟨a_mT 889 (by decide +kernel) (by decide +kernel), a_st_X6_many⟩, (fun h => absurd h (by decide)), (fun h => absurd h (by decide))⟩
theorem a_c_6_142 : a_okC (6, 142, 1, 0, mX6_note) := ⟨a_ok_X6_note, by decide +kernel, (fun h => absurd h (by decide)), fun _ => ⟨a_mT 896 (by decide +kernel) (by decide +kernel), a_iv_X6_note, by decide⟩, (fun h => absurd h (by decide))⟩
theorem a_c_6_147 : a_okC (6, 147, 0, 2, mX6_canLight) := ⟨a_ok_X6_canLight, by decide +kernel, fun _ => ⟨a_mT 905 (by decide +kernel) (by decide +kernel), a_st_X6_canLight⟩, (fun h => absurd h (by decide)), (fun h => absurd h (by decide))⟩
theorem a_c_6_150 : a_okC (6, 150, 0, 2, mX6_goLight) := ⟨a_ok_X6_goLight, by decide +kernel, fun _ => ⟨a_mT 908 (by decide +kernel) (by decide +kernel), a_st_X6_goLight⟩, (fun h => absurd h (by decide)), (fun h => absurd h (by decide))⟩
theorem a_c_6_156 : a_okC (6, 156, 0, 3, mX6_isRule) := ⟨a_ok_X6_isRule, by decide +kernel, fun _ => ⟨a_mT 915 (by decide +kernel) (by decide +kernel), a_st_X6_isRule⟩, (fun h => absurd h (by decide)), (fun h => absurd h (by decide))⟩
theorem a_c_6_160 : a_okC (6, 160, 0, 4, mX6_goRule) := ⟨a_ok_X6_goRule, by decide +kernel, fun _ => ⟨a_mT 919 (by decide +kernel) (by decide +kernel), a_st_X6_goRule⟩, (fun h => absurd h (by decide)), (fun h => absurd h (by decide))⟩
theorem a_c_6_166 : a_okC (6, 166, 0, 2, mX6_isLie) := ⟨a_ok_X6_isLie, by decide +kernel, fun _ => ⟨a_mT 930 (by decide +kernel) (by decide +kernel), a_st_X6_isLie⟩, (fun h => absurd h (by decide)), (fun h => absurd h (by decide))⟩
theorem a_c_6_175 : a_okC (6, 175, 1, 2, mX6_layFit) := ⟨a_ok_X6_layFit, by decide +kernel, (fun h => absurd h (by decide)), fun _ => ⟨a_mT 942 (by decide +kernel) (by decide +kernel), a_iv_X6_layFit, by decide⟩, (fun h => absurd h (by decide))⟩
theorem a_c_6_179 : a_okC (6, 179, 1, 0, mX6_begin) := ⟨a_ok_X6_begin, by decide +kernel, (fun h => absurd h (by decide)), fun _ => ⟨a_mT 962 (by decide +kernel) (by decide +kernel), a_iv_X6_begin, by decide⟩, (fun h => absurd h (by decide))⟩
theorem a_c_6_182 : a_okC (6, 182, 1, 1, mX6_inkBy) := ⟨a_ok_X6_inkBy, by decide +kernel, (fun h => absurd h (by decide)), fun _ => ⟨a_mT 958 (by decide +kernel) (by decide +kernel), a_iv_X6_inkBy, by decide⟩, (fun h => absurd h (by decide))⟩
theorem a_c_6_185 : a_okC (6, 185, 1, 0, mX6_bestLie) := ⟨a_ok_X6_bestLie, by decide +kernel, (fun h => absurd h (by decide)), fun _ => ⟨a_mT 950 (by decide +kernel) (by decide +kernel), a_iv_X6_bestLie, by decide⟩, (fun h => absurd h (by decide))⟩
theorem a_c_6_188 : a_okC (6, 188, 1, 1, mX6_bestRule) := ⟨a_ok_X6_bestRule, by decide +kernel, (fun h => absurd h (by decide)), fun _ => ⟨a_mT 954 (by decide +kernel) (by decide +kernel), a_iv_X6_bestRule, by decide⟩, (fun h => absurd h (by decide))⟩
theorem a_c_6_192 : a_okC (6, 192, 1, 3, mX6_puts) := ⟨a_ok_X6_puts, by decide +kernel, (fun h => absurd h (by decide)), fun _ => ⟨a_mT 979 (by decide +kernel) (by decide +kernel), a_iv_X6_puts, by decide⟩, (fun h => absurd h (by decide))⟩
theorem a_c_6_196 : a_okC (6, 196, 1, 1, mX6_lights) := ⟨a_ok_X6_lights, by decide +kernel, (fun h => absurd h (by decide)), fun _ => ⟨a_mT 983 (by decide +kernel) (by decide +kernel), a_iv_X6_lights, by decide⟩, (fun h => absurd h (by decide))⟩
theorem a_c_6_199 : a_okC (6, 199, 1, 3, mX6_rules) := ⟨a_ok_X6_rules, by decide +kernel, (fun h => absurd h (by decide)), fun _ => ⟨a_mT 987 (by decide +kernel) (by decide +kernel), a_iv_X6_rules, by decide⟩, (fun h => absurd h (by decide))⟩
theorem a_c_6_202 : a_okC (6, 202, 1, 2, mX6_lies) := ⟨a_ok_X6_lies, by decide +kernel, (fun h => absurd h (by decide)), fun _ => ⟨a_mT 991 (by decide +kernel) (by decide +kernel), a_iv_X6_lies, by decide⟩, (fun h => absurd h (by decide))⟩
theorem a_c_6_209 : a_okC (6, 209, 0, 2, mX6_longPower) := ⟨a_ok_X6_longPower, by decide +kernel, fun _ => ⟨a_mT 972 (by decide +kernel) (by decide +kernel), a_st_X6_longPower⟩, (fun h => absurd h (by decide)), (fun h => absurd h (by decide))⟩
theorem a_c_6_213 : a_okC (6, 213, 1, 1, mX6_does) := ⟨a_ok_X6_does, by decide +kernel, (fun h => absurd h (by decide)), fun _ => ⟨a_mT 975 (by decide +kernel) (by decide +kernel), a_iv_X6_does, by decide⟩, (fun h => absurd h (by decide))⟩
theorem a_c_6_216 : a_okC (6, 216, 1, 1, mX6_inkOfRows) := ⟨a_ok_X6_inkOfRows, by decide +kernel, (fun h => absurd h (by decide)), fun _ => ⟨a_mT 999 (by decide +kernel) (by decide +kernel), a_iv_X6_inkOfRows, by decide⟩, (fun h => absurd h (by decide))⟩
theorem a_c_6_219 : a_okC (6, 219, 0, 2, mX6_orders) := ⟨a_ok_X6_orders, by decide +kernel, fun _ => ⟨a_mT 1003 (by decide +kernel) (by decide +kernel), a_st_X6_orders⟩, (fun h => absurd h (by decide)), (fun h => absurd h (by decide))⟩
theorem a_c_6_230 : a_okC (6, 230, 0, 2, mX6_power) := ⟨a_ok_X6_power, by decide +kernel, fun _ => ⟨a_mT 1023 (by decide +kernel) (by decide +kernel), a_st_X6_power⟩, (fun h => absurd h (by decide)), (fun h => absurd h (by decide))⟩
theorem a_crL6_ok : ∀ q ∈ a_crL6, a_okC q := List.forall_mem_cons.mpr ⟨a_c_6_41, List.forall_mem_cons.mpr ⟨a_c_6_49, List.forall_mem_cons.mpr ⟨a_c_6_53, List.forall_mem_cons.mpr ⟨a_c_6_57, List.forall_mem_cons.mpr ⟨a_c_6_68, List.forall_mem_cons.mpr ⟨a_c_6_74, List.forall_mem_cons.mpr ⟨a_c_6_90, List.forall_mem_cons.mpr ⟨a_c_6_93, List.forall_mem_cons.mpr ⟨a_c_6_97, List.forall_mem_cons.mpr ⟨a_c_6_101, List.forall_mem_cons.mpr ⟨a_c_6_105, List.forall_mem_cons.mpr ⟨a_c_6_109, List.forall_mem_cons.mpr ⟨a_c_6_112, List.forall_mem_cons.mpr ⟨a_c_6_118, List.forall_mem_cons.mpr ⟨a_c_6_122, List.forall_mem_cons.mpr ⟨a_c_6_126, List.forall_mem_cons.mpr ⟨a_c_6_132, List.forall_mem_cons.mpr ⟨a_c_6_135, List.forall_mem_cons.mpr ⟨a_c_6_139, List.forall_mem_cons.mpr ⟨a_c_6_142, List.forall_mem_cons.mpr ⟨a_c_6_147, List.forall_mem_cons.mpr ⟨a_c_6_150, List.forall_mem_cons.mpr ⟨a_c_6_156, List.forall_mem_cons.mpr ⟨a_c_6_160, List.forall_mem_cons.mpr ⟨a_c_6_166, List.forall_mem_cons.mpr ⟨a_c_6_175, List.forall_mem_cons.mpr ⟨a_c_6_179, List.forall_mem_cons.mpr ⟨a_c_6_182, List.forall_mem_cons.mpr ⟨a_c_6_185, List.forall_mem_cons.mpr ⟨a_c_6_188, List.forall_mem_cons.mpr ⟨a_c_6_192, List.forall_mem_cons.mpr ⟨a_c_6_196, List.forall_mem_cons.mpr ⟨a_c_6_199, List.forall_mem_cons.mpr ⟨a_c_6_202, List.forall_mem_cons.mpr ⟨a_c_6_209, List.forall_mem_cons.mpr ⟨a_c_6_213, List.forall_mem_cons.mpr ⟨a_c_6_216, List.forall_mem_cons.mpr ⟨a_c_6_219, List.forall_mem_cons.mpr ⟨a_c_6_230, fun _ h => absurd h List.not_mem_nil⟩⟩⟩⟩⟩⟩⟩⟩⟩⟩⟩⟩⟩⟩⟩⟩⟩⟩⟩⟩⟩⟩⟩⟩⟩⟩⟩⟩⟩⟩⟩⟩⟩⟩⟩⟩⟩⟩⟩
theorem a_c_9_13 : a_okC (9, 13, 1, 1, mX5_write) := ⟨a_ok_X5_write, by decide +kernel, (fun h => absurd h (by decide)), fun _ => ⟨a_mT 221 (by decide +kernel) (by decide +kernel), a_iv_X5_write, by decide⟩, (fun h => absurd h (by decide))⟩
theorem a_c_9_17 : a_okC (9, 17, 1, 1, mX6_write) := ⟨a_ok_X6_write, by decide +kernel, (fun h => absurd h (by decide)), fun _ => ⟨a_mT 778 (by decide +kernel) (by decide +kernel), a_iv_X6_write, by decide⟩, (fun h => absurd h (by decide))⟩
theorem a_c_9_18 : a_okC (9, 18, 1, 0, mX5_wipe) := ⟨a_ok_X5_wipe, by decide +kernel, (fun h => absurd h (by decide)), fun _ => ⟨a_mT 234 (by decide +kernel) (by decide +kernel), a_iv_X5_wipe, by decide⟩, (fun h => absurd h (by decide))⟩
theorem a_c_9_22 : a_okC (9, 22, 1, 0, mX6_wipe) := ⟨a_ok_X6_wipe, by decide +kernel, (fun h => absurd h (by decide)), fun _ => ⟨a_mT 786 (by decide +kernel) (by decide +kernel), a_iv_X6_wipe, by decide⟩, (fun h => absurd h (by decide))⟩
theorem a_c_9_23 : a_okC (9, 23, 1, 0, mX5_fault) := ⟨a_ok_X5_fault, by decide +kernel, (fun h => absurd h (by decide)), fun _ => ⟨a_mT 242 (by decide +kernel) (by decide +kernel), a_iv_X5_fault, by decide⟩, (fun h => absurd h (by decide))⟩
theorem a_c_9_26 : a_okC (9, 26, 1, 0, mX6_fault) := ⟨a_ok_X6_fault, by decide +kernel, (fun h => absurd h (by decide)), fun _ => ⟨a_mT 790 (by decide +kernel) (by decide +kernel), a_iv_X6_fault, by decide⟩, (fun h => absurd h (by decide))⟩
theorem a_c_9_27 : a_okC (9, 27, 1, 0, mX5_leaf) := ⟨a_ok_X5_leaf, by decide +kernel, (fun h => absurd h (by decide)), fun _ => ⟨a_mT 272 (by decide +kernel) (by decide +kernel), a_iv_X5_leaf, by decide⟩, (fun h => absurd h (by decide))⟩
theorem a_c_9_30 : a_okC (9, 30, 1, 0, mX6_leaf) := ⟨a_ok_X6_leaf, by decide +kernel, (fun h => absurd h (by decide)), fun _ => ⟨a_mT 807 (by decide +kernel) (by decide +kernel), a_iv_X6_leaf, by decide⟩, (fun h => absurd h (by decide))⟩
theorem a_c_9_31 : a_okC (9, 31, 1, 1, mX5_about) := ⟨a_ok_X5_about, by decide +kernel, (fun h => absurd h (by decide)), fun _ => ⟨a_mT 313 (by decide +kernel) (by decide +kernel), a_iv_X5_about, by decide⟩, (fun h => absurd h (by decide))⟩
theorem a_c_9_34 : a_okC (9, 34, 1, 1, mX6_about) := ⟨a_ok_X6_about, by decide +kernel, (fun h => absurd h (by decide)), fun _ => ⟨a_mT 811 (by decide +kernel) (by decide +kernel), a_iv_X6_about, by decide⟩, (fun h => absurd h (by decide))⟩
theorem a_c_9_35 : a_okC (9, 35, 1, 2, mX5_grey) := ⟨a_ok_X5_grey, by decide +kernel, (fun h => absurd h (by decide)), fun _ => ⟨a_mT 399 (by decide +kernel) (by decide +kernel), a_iv_X5_grey, by decide⟩, (fun h => absurd h (by decide))⟩
theorem a_c_9_39 : a_okC (9, 39, 1, 2, mX6_grey) := ⟨a_ok_X6_grey, by decide +kernel, (fun h => absurd h (by decide)), fun _ => ⟨a_mT 840 (by decide +kernel) (by decide +kernel), a_iv_X6_grey, by decide⟩, (fun h => absurd h (by decide))⟩
theorem a_c_9_40 : a_okC (9, 40, 1, 1, mX5_shows) := ⟨a_ok_X5_shows, by decide +kernel, (fun h => absurd h (by decide)), fun _ => ⟨a_mT 408 (by decide +kernel) (by decide +kernel), a_iv_X5_shows, by decide⟩, (fun h => absurd h (by decide))⟩
theorem a_c_9_43 : a_okC (9, 43, 1, 1, mX6_shows) := ⟨a_ok_X6_shows, by decide +kernel, (fun h => absurd h (by decide)), fun _ => ⟨a_mT 848 (by decide +kernel) (by decide +kernel), a_iv_X6_shows, by decide⟩, (fun h => absurd h (by decide))⟩
theorem a_c_9_44 : a_okC (9, 44, 1, 2, mX5_window) := ⟨a_ok_X5_window, by decide +kernel, (fun h => absurd h (by decide)), fun _ => ⟨a_mT 414 (by decide +kernel) (by decide +kernel), a_iv_X5_window, by decide⟩, (fun h => absurd h (by decide))⟩
theorem a_c_9_47 : a_okC (9, 47, 1, 2, mX6_window) := ⟨a_ok_X6_window, by decide +kernel, (fun h => absurd h (by decide)), fun _ => ⟨a_mT 852 (by decide +kernel) (by decide +kernel), a_iv_X6_window, by decide⟩, (fun h => absurd h (by decide))⟩
theorem a_c_9_48 : a_okC (9, 48, 1, 3, mX5_spread) := ⟨a_ok_X5_spread, by decide +kernel, (fun h => absurd h (by decide)), fun _ => ⟨a_mT 431 (by decide +kernel) (by decide +kernel), a_iv_X5_spread, by decide⟩, (fun h => absurd h (by decide))⟩
theorem a_c_9_52 : a_okC (9, 52, 1, 3, mX6_spread) := ⟨a_ok_X6_spread, by decide +kernel, (fun h => absurd h (by decide)), fun _ => ⟨a_mT 856 (by decide +kernel) (by decide +kernel), a_iv_X6_spread, by decide⟩, (fun h => absurd h (by decide))⟩
theorem a_c_9_53 : a_okC (9, 53, 1, 1, mX5_mark) := ⟨a_ok_X5_mark, by decide +kernel, (fun h => absurd h (by decide)), fun _ => ⟨a_mT 448 (by decide +kernel) (by decide +kernel), a_iv_X5_mark, by decide⟩, (fun h => absurd h (by decide))⟩
theorem a_c_9_56 : a_okC (9, 56, 1, 1, mX6_mark) := ⟨a_ok_X6_mark, by decide +kernel, (fun h => absurd h (by decide)), fun _ => ⟨a_mT 866 (by decide +kernel) (by decide +kernel), a_iv_X6_mark, by decide⟩, (fun h => absurd h (by decide))⟩
theorem a_c_9_57 : a_okC (9, 57, 1, 1, mX5_under) := ⟨a_ok_X5_under, by decide +kernel, (fun h => absurd h (by decide)), fun _ => ⟨a_mT 453 (by decide +kernel) (by decide +kernel), a_iv_X5_under, by decide⟩, (fun h => absurd h (by decide))⟩
theorem a_c_9_60 : a_okC (9, 60, 1, 1, mX6_under) := ⟨a_ok_X6_under, by decide +kernel, (fun h => absurd h (by decide)), fun _ => ⟨a_mT 870 (by decide +kernel) (by decide +kernel), a_iv_X6_under, by decide⟩, (fun h => absurd h (by decide))⟩
theorem a_c_9_61 : a_okC (9, 61, 1, 1, mX5_cleaned) := ⟨a_ok_X5_cleaned, by decide +kernel, (fun h => absurd h (by decide)), fun _ => ⟨a_mT 458 (by decide +kernel) (by decide +kernel), a_iv_X5_cleaned, by decide⟩, (fun h => absurd h (by decide))⟩
theorem a_c_9_64 : a_okC (9, 64, 1, 1, mX6_cleaned) := ⟨a_ok_X6_cleaned, by decide +kernel, (fun h => absurd h (by decide)), fun _ => ⟨a_mT 874 (by decide +kernel) (by decide +kernel), a_iv_X6_cleaned, by decide⟩, (fun h => absurd h (by decide))⟩
theorem a_c_9_65 : a_okC (9, 65, 1, 3, mX5_paint) := ⟨a_ok_X5_paint, by decide +kernel, (fun h => absurd h (by decide)), fun _ => ⟨a_mT 473 (by decide +kernel) (by decide +kernel), a_iv_X5_paint, by decide⟩, (fun h => absurd h (by decide))⟩
theorem a_c_9_69 : a_okC (9, 69, 1, 3, mX6_paint) := ⟨a_ok_X6_paint, by decide +kernel, (fun h => absurd h (by decide)), fun _ => ⟨a_mT 892 (by decide +kernel) (by decide +kernel), a_iv_X6_paint, by decide⟩, (fun h => absurd h (by decide))⟩
theorem a_c_9_70 : a_okC (9, 70, 1, 1, mX5_light) := ⟨a_ok_X5_light, by decide +kernel, (fun h => absurd h (by decide)), fun _ => ⟨a_mT 489 (by decide +kernel) (by decide +kernel), a_iv_X5_light, by decide⟩, (fun h => absurd h (by decide))⟩
theorem a_c_9_73 : a_okC (9, 73, 1, 1, mX6_light) := ⟨a_ok_X6_light, by decide +kernel, (fun h => absurd h (by decide)), fun _ => ⟨a_mT 900 (by decide +kernel) (by decide +kernel), a_iv_X6_light, by decide⟩, (fun h => absurd h (by decide))⟩
theorem a_c_9_74 : a_okC (9, 74, 1, 3, mX5_rule) := ⟨a_ok_X5_rule, by decide +kernel, (fun h => absurd h (by decide)), fun _ => ⟨a_mT 504 (by decide +kernel) (by decide +kernel), a_iv_X5_rule, by decide⟩, (fun h => absurd h (by decide))⟩
theorem a_c_9_77 : a_okC (9, 77, 1, 3, mX6_rule) := ⟨a_ok_X6_rule, by decide +kernel, (fun h => absurd h (by decide)), fun _ => ⟨a_mT 911 (by decide +kernel) (by decide +kernel), a_iv_X6_rule, by decide⟩, (fun h => absurd h (by decide))⟩
theorem a_c_9_78 : a_okC (9, 78, 1, 2, mX5_table) := ⟨a_ok_X5_table, by decide +kernel, (fun h => absurd h (by decide)), fun _ => ⟨a_mT 512 (by decide +kernel) (by decide +kernel), a_iv_X5_table, by decide⟩, (fun h => absurd h (by decide))⟩
theorem a_c_9_81 : a_okC (9, 81, 1, 2, mX6_table) := ⟨a_ok_X6_table, by decide +kernel, (fun h => absurd h (by decide)), fun _ => ⟨a_mT 922 (by decide +kernel) (by decide +kernel), a_iv_X6_table, by decide⟩, (fun h => absurd h (by decide))⟩
theorem a_c_9_82 : a_okC (9, 82, 1, 2, mX5_lay) := ⟨a_ok_X5_lay, by decide +kernel, (fun h => absurd h (by decide)), fun _ => ⟨a_mT 517 (by decide +kernel) (by decide +kernel), a_iv_X5_lay, by decide⟩, (fun h => absurd h (by decide))⟩
theorem a_c_9_85 : a_okC (9, 85, 1, 2, mX6_lay) := ⟨a_ok_X6_lay, by decide +kernel, (fun h => absurd h (by decide)), fun _ => ⟨a_mT 926 (by decide +kernel) (by decide +kernel), a_iv_X6_lay, by decide⟩, (fun h => absurd h (by decide))⟩
theorem a_c_9_86 : a_okC (9, 86, 1, 0, mX5_undo) := ⟨a_ok_X5_undo, by decide +kernel, (fun h => absurd h (by decide)), fun _ => ⟨a_mT 525 (by decide +kernel) (by decide +kernel), a_iv_X5_undo, by decide⟩, (fun h => absurd h (by decide))⟩
theorem a_c_9_89 : a_okC (9, 89, 1, 0, mX6_undo) := ⟨a_ok_X6_undo, by decide +kernel, (fun h => absurd h (by decide)), fun _ => ⟨a_mT 934 (by decide +kernel) (by decide +kernel), a_iv_X6_undo, by decide⟩, (fun h => absurd h (by decide))⟩
theorem a_c_9_90 : a_okC (9, 90, 1, 3, mX5_fit) := ⟨a_ok_X5_fit, by decide +kernel, (fun h => absurd h (by decide)), fun _ => ⟨a_mT 542 (by decide +kernel) (by decide +kernel), a_iv_X5_fit, by decide⟩, (fun h => absurd h (by decide))⟩
theorem a_c_9_93 : a_okC (9, 93, 1, 3, mX6_fit) := ⟨a_ok_X6_fit, by decide +kernel, (fun h => absurd h (by decide)), fun _ => ⟨a_mT 938 (by decide +kernel) (by decide +kernel), a_iv_X6_fit, by decide⟩, (fun h => absurd h (by decide))⟩
theorem a_c_9_94 : a_okC (9, 94, 1, 1, mX5_best) := ⟨a_ok_X5_best, by decide +kernel, (fun h => absurd h (by decide)), fun _ => ⟨a_mT 554 (by decide +kernel) (by decide +kernel), a_iv_X5_best, by decide⟩, (fun h => absurd h (by decide))⟩
theorem a_c_9_97 : a_okC (9, 97, 1, 1, mX6_best) := ⟨a_ok_X6_best, by decide +kernel, (fun h => absurd h (by decide)), fun _ => ⟨a_mT 946 (by decide +kernel) (by decide +kernel), a_iv_X6_best, by decide⟩, (fun h => absurd h (by decide))⟩
theorem a_c_9_100 : a_okC (9, 100, 1, 2, mX5_judge) := ⟨a_ok_X5_judge, by decide +kernel, (fun h => absurd h (by decide)), fun _ => ⟨a_mT 569 (by decide +kernel) (by decide +kernel), a_iv_X5_judge, by decide⟩, (fun h => absurd h (by decide))⟩
theorem a_c_9_104 : a_okC (9, 104, 1, 2, mX6_judge) := ⟨a_ok_X6_judge, by decide +kernel, (fun h => absurd h (by decide)), fun _ => ⟨a_mT 966 (by decide +kernel) (by decide +kernel), a_iv_X6_judge, by decide⟩, (fun h => absurd h (by decide))⟩
theorem a_c_9_105 : a_okC (9, 105, 1, 2, mX5_share) := ⟨a_ok_X5_share, by decide +kernel, (fun h => absurd h (by decide)), fun _ => ⟨a_mT 609 (by decide +kernel) (by decide +kernel), a_iv_X5_share, by decide⟩, (fun h => absurd h (by decide))⟩
theorem a_c_9_109 : a_okC (9, 109, 1, 2, mX6_share) := ⟨a_ok_X6_share, by decide +kernel, (fun h => absurd h (by decide)), fun _ => ⟨a_mT 995 (by decide +kernel) (by decide +kernel), a_iv_X6_share, by decide⟩, (fun h => absurd h (by decide))⟩
theorem a_c_9_110 : a_okC (9, 110, 1, 2, mX5_see) := ⟨a_ok_X5_see, by decide +kernel, (fun h => absurd h (by decide)), fun _ => ⟨a_mT 633 (by decide +kernel) (by decide +kernel), a_iv_X5_see, by decide⟩, (fun h => absurd h (by decide))⟩
theorem a_c_9_113 : a_okC (9, 113, 1, 2, mX6_see) := ⟨a_ok_X6_see, by decide +kernel, (fun h => absurd h (by decide)), fun _ => ⟨a_mT 1006 (by decide +kernel) (by decide +kernel), a_iv_X6_see, by decide⟩, (fun h => absurd h (by decide))⟩
theorem a_c_9_114 : a_okC (9, 114, 1, 0, mX5_unsee) := ⟨a_ok_X5_unsee, by decide +kernel, (fun h => absurd h (by decide)), fun _ => ⟨a_mT 646 (by decide +kernel) (by decide +kernel), a_iv_X5_unsee, by decide⟩, (fun h => absurd h (by decide))⟩
theorem a_c_9_117 : a_okC (9, 117, 1, 0, mX6_unsee) := ⟨a_ok_X6_unsee, by decide +kernel, (fun h => absurd h (by decide)), fun _ => ⟨a_mT 1010 (by decide +kernel) (by decide +kernel), a_iv_X6_unsee, by decide⟩, (fun h => absurd h (by decide))⟩
theorem a_c_9_118 : a_okC (9, 118, 1, 1, mX5_ways) := ⟨a_ok_X5_ways, by decide +kernel, (fun h => absurd h (by decide)), fun _ => ⟨a_mT 654 (by decide +kernel) (by decide +kernel), a_iv_X5_ways, by decide⟩, (fun h => absurd h (by decide))⟩
theorem a_c_9_121 : a_okC (9, 121, 1, 1, mX6_ways) := ⟨a_ok_X6_ways, by decide +kernel, (fun h => absurd h (by decide)), fun _ => ⟨a_mT 1014 (by decide +kernel) (by decide +kernel), a_iv_X6_ways, by decide⟩, (fun h => absurd h (by decide))⟩
theorem a_c_9_122 : a_okC (9, 122, 1, 4, mX5_bleached) := ⟨a_ok_X5_bleached, by decide +kernel, (fun h => absurd h (by decide)), fun _ => ⟨a_mT 662 (by decide +kernel) (by decide +kernel), a_iv_X5_bleached, by decide⟩, (fun h => absurd h (by decide))⟩
theorem a_c_9_126 : a_okC (9, 126, 1, 4, mX6_bleached) := ⟨a_ok_X6_bleached, by decide +kernel, (fun h => absurd h (by decide)), fun _ => ⟨a_mT 1018 (by decide +kernel) (by decide +kernel), a_iv_X6_bleached, by decide⟩, (fun h => absurd h (by decide))⟩
theorem a_c_9_127 : a_okC (9, 127, 1, 1, mX5_seed) := ⟨a_ok_X5_seed, by decide +kernel, (fun h => absurd h (by decide)), fun _ => ⟨a_mT 673 (by decide +kernel) (by decide +kernel), a_iv_X5_seed, by decide⟩, (fun h => absurd h (by decide))⟩
theorem a_c_9_131 : a_okC (9, 131, 1, 1, mX6_seed) := ⟨a_ok_X6_seed, by decide +kernel, (fun h => absurd h (by decide)), fun _ => ⟨a_mT 1026 (by decide +kernel) (by decide +kernel), a_iv_X6_seed, by decide⟩, (fun h => absurd h (by decide))⟩
theorem a_c_9_132 : a_okC (9, 132, 1, 1, mX5_drawn) := ⟨a_ok_X5_drawn, by decide +kernel, (fun h => absurd h (by decide)), fun _ => ⟨a_mT 677 (by decide +kernel) (by decide +kernel), a_iv_X5_drawn, by decide⟩, (fun h => absurd h (by decide))⟩
theorem a_c_9_135 : a_okC (9, 135, 1, 1, mX6_drawn) := ⟨a_ok_X6_drawn, by decide +kernel, (fun h => absurd h (by decide)), fun _ => ⟨a_mT 1030 (by decide +kernel) (by decide +kernel), a_iv_X6_drawn, by decide⟩, (fun h => absurd h (by decide))⟩
theorem a_c_9_136 : a_okC (9, 136, 1, 1, mX5_keep) := ⟨a_ok_X5_keep, by decide +kernel, (fun h => absurd h (by decide)), fun _ => ⟨a_mT 686 (by decide +kernel) (by decide +kernel), a_iv_X5_keep, by decide⟩, (fun h => absurd h (by decide))⟩
theorem a_c_9_139 : a_okC (9, 139, 1, 1, mX6_keep) := ⟨a_ok_X6_keep, by decide +kernel, (fun h => absurd h (by decide)), fun _ => ⟨a_mT 1037 (by decide +kernel) (by decide +kernel), a_iv_X6_keep, by decide⟩, (fun h => absurd h (by decide))⟩
theorem a_c_9_140 : a_okC (9, 140, 1, 1, mX5_again) := ⟨a_ok_X5_again, by decide +kernel, (fun h => absurd h (by decide)), fun _ => ⟨a_mT 697 (by decide +kernel) (by decide +kernel), a_iv_X5_again, by decide⟩, (fun h => absurd h (by decide))⟩
theorem a_c_9_143 : a_okC (9, 143, 1, 1, mX6_again) := ⟨a_ok_X6_again, by decide +kernel, (fun h => absurd h (by decide)), fun _ => ⟨a_mT 1041 (by decide +kernel) (by decide +kernel), a_iv_X6_again, by decide⟩, (fun h => absurd h (by decide))⟩
theorem a_crL9_ok : ∀ q ∈ a_crL9, a_okC q := List.forall_mem_cons.mpr ⟨a_c_9_13, List.forall_mem_cons.mpr ⟨a_c_9_17, List.forall_mem_cons.mpr ⟨a_c_9_18, List.forall_mem_cons.mpr ⟨a_c_9_22, List.forall_mem_cons.mpr ⟨a_c_9_23, List.forall_mem_cons.mpr ⟨a_c_9_26, List.forall_mem_cons.mpr ⟨a_c_9_27, List.forall_mem_cons.mpr ⟨a_c_9_30, List.forall_mem_cons.mpr ⟨a_c_9_31, List.forall_mem_cons.mpr ⟨a_c_9_34, List.forall_mem_cons.mpr ⟨a_c_9_35, List.forall_mem_cons.mpr ⟨a_c_9_39, List.forall_mem_cons.mpr ⟨a_c_9_40, List.forall_mem_cons.mpr ⟨a_c_9_43, List.forall_mem_cons.mpr ⟨a_c_9_44, List.forall_mem_cons.mpr ⟨a_c_9_47, List.forall_mem_cons.mpr ⟨a_c_9_48, List.forall_mem_cons.mpr ⟨a_c_9_52, List.forall_mem_cons.mpr ⟨a_c_9_53, List.forall_mem_cons.mpr ⟨a_c_9_56, List.forall_mem_cons.mpr ⟨a_c_9_57, List.forall_mem_cons.mpr ⟨a_c_9_60, List.forall_mem_cons.mpr ⟨a_c_9_61, List.forall_mem_cons.mpr ⟨a_c_9_64, List.forall_mem_cons.mpr ⟨a_c_9_65, List.forall_mem_cons.mpr ⟨a_c_9_69, List.forall_mem_cons.mpr ⟨a_c_9_70, List.forall_mem_cons.mpr ⟨a_c_9_73, List.forall_mem_cons.mpr ⟨a_c_9_74, List.forall_mem_cons.mpr ⟨a_c_9_77, List.forall_mem_cons.mpr ⟨a_c_9_78, List.forall_mem_cons.mpr ⟨a_c_9_81, List.forall_mem_cons.mpr ⟨a_c_9_82, List.forall_mem_cons.mpr ⟨a_c_9_85, List.forall_mem_cons.mpr ⟨a_c_9_86, List.forall_mem_cons.mpr ⟨a_c_9_89, List.forall_mem_cons.mpr ⟨a_c_9_90, List.forall_mem_cons.mpr ⟨a_c_9_93, List.forall_mem_cons.mpr ⟨a_c_9_94, List.forall_mem_cons.mpr ⟨a_c_9_97, List.forall_mem_cons.mpr ⟨a_c_9_100, List.forall_mem_cons.mpr ⟨a_c_9_104, List.forall_mem_cons.mpr ⟨a_c_9_105, List.forall_mem_cons.mpr ⟨a_c_9_109, List.forall_mem_cons.mpr ⟨a_c_9_110, List.forall_mem_cons.mpr ⟨a_c_9_113, List.forall_mem_cons.mpr ⟨a_c_9_114, List.forall_mem_cons.mpr ⟨a_c_9_117, List.forall_mem_cons.mpr ⟨a_c_9_118, List.forall_mem_cons.mpr ⟨a_c_9_121, List.forall_mem_cons.mpr ⟨a_c_9_122, List.forall_mem_cons.mpr ⟨a_c_9_126, List.forall_mem_cons.mpr ⟨a_c_9_127, List.forall_mem_cons.mpr ⟨a_c_9_131, List.forall_mem_cons.mpr ⟨a_c_9_132, List.forall_mem_cons.mpr ⟨a_c_9_135, List.forall_mem_cons.mpr ⟨a_c_9_136, List.forall_mem_cons.mpr ⟨a_c_9_139, List.forall_mem_cons.mpr ⟨a_c_9_140, List.forall_mem_cons.mpr ⟨a_c_9_143, fun _ h => absurd h List.not_mem_nil⟩⟩⟩⟩⟩⟩⟩⟩⟩⟩⟩⟩⟩⟩⟩⟩⟩⟩⟩⟩⟩⟩⟩⟩⟩⟩⟩⟩⟩⟩⟩⟩⟩⟩⟩⟩⟩⟩⟩⟩⟩⟩⟩⟩⟩⟩⟩⟩⟩⟩⟩⟩⟩⟩⟩⟩⟩⟩⟩⟩
theorem a_crL_ok : ∀ q ∈ a_crL, a_okC q := List.forall_mem_append.mpr ⟨a_crL0_ok, List.forall_mem_append.mpr ⟨a_crL1_ok, List.forall_mem_append.mpr ⟨a_crL2_ok, List.forall_mem_append.mpr ⟨a_crL3_ok, List.forall_mem_append.mpr ⟨a_crL4_ok, List.forall_mem_append.mpr ⟨a_crL5_ok, List.forall_mem_append.mpr ⟨a_crL6_ok, a_crL9_ok⟩⟩⟩⟩⟩⟩⟩
set_option maxRecDepth 100000 in
theorem a_mh0 : Cond.static Lib.Math.max.name ∈ a_T0 ∧ Cond.code Lib.Math.max.name Lib.Math.max.code 2 (some .int) ∈ a_T0 := ⟨a_mT 270 (by decide +kernel) (by decide +kernel), a_mT 271 (by decide +kernel) rfl⟩
set_option maxRecDepth 100000 in
theorem a_mh1 : Cond.static Lib.Math.min.name ∈ a_T0 ∧ Cond.code Lib.Math.min.name Lib.Math.min.code 2 (some .int) ∈ a_T0 := ⟨a_mT 267 (by decide +kernel) (by decide +kernel), a_mT 268 (by decide +kernel) rfl⟩
set_option maxRecDepth 100000 in
theorem a_mh2 : Cond.static Lib.Math.abs.name ∈ a_T0 ∧ Cond.code Lib.Math.abs.name Lib.Math.abs.code 1 (some .int) ∈ a_T0 := ⟨a_mT 439 (by decide +kernel) (by decide +kernel), a_mT 440 (by decide +kernel) rfl⟩
def a_mhN (t : Nat) : MethodName := match t with
  | 0 => Lib.Math.max.name
  | 1 => Lib.Math.min.name
  | _ => Lib.Math.abs.name
theorem a_mhL_ok : ∀ q ∈ a_mhL, Cond.methodLink (a_cn q.1) q.2.1 (a_mhN q.2.2) ∈ a_T0 ∧ q.2.2 < 3 := List.forall_mem_cons.mpr ⟨⟨a_mT 357 (by decide +kernel) (by decide +kernel), by decide⟩, List.forall_mem_cons.mpr ⟨⟨a_mT 358 (by decide +kernel) (by decide +kernel), by decide⟩, List.forall_mem_cons.mpr ⟨⟨a_mT 348 (by decide +kernel) (by decide +kernel), by decide⟩, List.forall_mem_cons.mpr ⟨⟨a_mT 266 (by decide +kernel) (by decide +kernel), by decide⟩, List.forall_mem_cons.mpr ⟨⟨a_mT 269 (by decide +kernel) (by decide +kernel), by decide⟩, List.forall_mem_cons.mpr ⟨⟨a_mT 438 (by decide +kernel) (by decide +kernel), by decide⟩, fun _ h => absurd h List.not_mem_nil⟩⟩⟩⟩⟩⟩
def a_fT (c : Nat) : u_T := match c with
  | 0 => TX0
  | 1 => TX1
  | 2 => TX2
  | 3 => TX3
  | 4 => TX4
  | 5 => TX5
  | _ => TX6
theorem a_frL_ok : ∀ q ∈ a_frL, Cond.fieldLink (a_cn q.1) q.2.1 (a_cn q.2.2.1) (a_fT q.2.2.1 q.2.2.2).2.1 (a_fT q.2.2.1 q.2.2.2).2.2.1 ∈ a_T0 := List.forall_mem_cons.mpr ⟨a_mT 155 (by decide +kernel) (by decide +kernel), List.forall_mem_cons.mpr ⟨a_mT 156 (by decide +kernel) (by decide +kernel), List.forall_mem_cons.mpr ⟨a_mT 157 (by decide +kernel) (by decide +kernel), List.forall_mem_cons.mpr ⟨a_mT 158 (by decide +kernel) (by decide +kernel), List.forall_mem_cons.mpr ⟨a_mT 159 (by decide +kernel) (by decide +kernel), List.forall_mem_cons.mpr ⟨a_mT 127 (by decide +kernel) (by decide +kernel), List.forall_mem_cons.mpr ⟨a_mT 128 (by decide +kernel) (by decide +kernel), List.forall_mem_cons.mpr ⟨a_mT 129 (by decide +kernel) (by decide +kernel), List.forall_mem_cons.mpr ⟨a_mT 130 (by decide +kernel) (by decide +kernel), List.forall_mem_cons.mpr ⟨a_mT 131 (by decide +kernel) (by decide +kernel), List.forall_mem_cons.mpr ⟨a_mT 132 (by decide +kernel) (by decide +kernel), List.forall_mem_cons.mpr ⟨a_mT 133 (by decide +kernel) (by decide +kernel), List.forall_mem_cons.mpr ⟨a_mT 91 (by decide +kernel) (by decide +kernel), List.forall_mem_cons.mpr ⟨a_mT 94 (by decide +kernel) (by decide +kernel), List.forall_mem_cons.mpr ⟨a_mT 88 (by decide +kernel) (by decide +kernel), List.forall_mem_cons.mpr ⟨a_mT 82 (by decide +kernel) (by decide +kernel), List.forall_mem_cons.mpr ⟨a_mT 85 (by decide +kernel) (by decide +kernel), List.forall_mem_cons.mpr ⟨a_mT 177 (by decide +kernel) (by decide +kernel), List.forall_mem_cons.mpr ⟨a_mT 178 (by decide +kernel) (by decide +kernel), List.forall_mem_cons.mpr ⟨a_mT 179 (by decide +kernel) (by decide +kernel), List.forall_mem_cons.mpr ⟨a_mT 78 (by decide +kernel) (by decide +kernel), List.forall_mem_cons.mpr ⟨a_mT 79 (by decide +kernel) (by decide +kernel), List.forall_mem_cons.mpr ⟨a_mT 80 (by decide +kernel) (by decide +kernel), List.forall_mem_cons.mpr ⟨a_mT 81 (by decide +kernel) (by decide +kernel), List.forall_mem_cons.mpr ⟨a_mT 84 (by decide +kernel) (by decide +kernel), List.forall_mem_cons.mpr ⟨a_mT 87 (by decide +kernel) (by decide +kernel), List.forall_mem_cons.mpr ⟨a_mT 90 (by decide +kernel) (by decide +kernel), List.forall_mem_cons.mpr ⟨a_mT 93 (by decide +kernel) (by decide +kernel), List.forall_mem_cons.mpr ⟨a_mT 96 (by decide +kernel) (by decide +kernel), List.forall_mem_cons.mpr ⟨a_mT 98 (by decide +kernel) (by decide +kernel), List.forall_mem_cons.mpr ⟨a_mT 64 (by decide +kernel) (by decide +kernel), List.forall_mem_cons.mpr ⟨a_mT 65 (by decide +kernel) (by decide +kernel), List.forall_mem_cons.mpr ⟨a_mT 187 (by decide +kernel) (by decide +kernel), List.forall_mem_cons.mpr ⟨a_mT 188 (by decide +kernel) (by decide +kernel), List.forall_mem_cons.mpr ⟨a_mT 189 (by decide +kernel) (by decide +kernel), List.forall_mem_cons.mpr ⟨a_mT 190 (by decide +kernel) (by decide +kernel), List.forall_mem_cons.mpr ⟨a_mT 191 (by decide +kernel) (by decide +kernel), List.forall_mem_cons.mpr ⟨a_mT 192 (by decide +kernel) (by decide +kernel), List.forall_mem_cons.mpr ⟨a_mT 193 (by decide +kernel) (by decide +kernel), List.forall_mem_cons.mpr ⟨a_mT 194 (by decide +kernel) (by decide +kernel), List.forall_mem_cons.mpr ⟨a_mT 195 (by decide +kernel) (by decide +kernel), List.forall_mem_cons.mpr ⟨a_mT 196 (by decide +kernel) (by decide +kernel), List.forall_mem_cons.mpr ⟨a_mT 197 (by decide +kernel) (by decide +kernel), List.forall_mem_cons.mpr ⟨a_mT 83 (by decide +kernel) (by decide +kernel), List.forall_mem_cons.mpr ⟨a_mT 86 (by decide +kernel) (by decide +kernel), List.forall_mem_cons.mpr ⟨a_mT 89 (by decide +kernel) (by decide +kernel), List.forall_mem_cons.mpr ⟨a_mT 92 (by decide +kernel) (by decide +kernel), List.forall_mem_cons.mpr ⟨a_mT 95 (by decide +kernel) (by decide +kernel), List.forall_mem_cons.mpr ⟨a_mT 97 (by decide +kernel) (by decide +kernel), List.forall_mem_cons.mpr ⟨a_mT 99 (by decide +kernel) (by decide +kernel), List.forall_mem_cons.mpr ⟨a_mT 711 (by decide +kernel) (by decide +kernel), List.forall_mem_cons.mpr ⟨a_mT 713 (by decide +kernel) (by decide +kernel), List.forall_mem_cons.mpr ⟨a_mT 714 (by decide +kernel) (by decide +kernel), List.forall_mem_cons.mpr ⟨a_mT 715 (by decide +kernel) (by decide +kernel), List.forall_mem_cons.mpr ⟨a_mT 716 (by decide +kernel) (by decide +kernel), List.forall_mem_cons.mpr ⟨a_mT 718 (by decide +kernel) (by decide +kernel), List.forall_mem_cons.mpr ⟨a_mT 719 (by decide +kernel) (by decide +kernel), List.forall_mem_cons.mpr ⟨a_mT 721 (by decide +kernel) (by decide +kernel), List.forall_mem_cons.mpr ⟨a_mT 722 (by decide +kernel) (by decide +kernel), List.forall_mem_cons.mpr ⟨a_mT 731 (by decide +kernel) (by decide +kernel), List.forall_mem_cons.mpr ⟨a_mT 710 (by decide +kernel) (by decide +kernel), List.forall_mem_cons.mpr ⟨a_mT 712 (by decide +kernel) (by decide +kernel), List.forall_mem_cons.mpr ⟨a_mT 717 (by decide +kernel) (by decide +kernel), List.forall_mem_cons.mpr ⟨a_mT 724 (by decide +kernel) (by decide +kernel), List.forall_mem_cons.mpr ⟨a_mT 725 (by decide +kernel) (by decide +kernel), List.forall_mem_cons.mpr ⟨a_mT 726 (by decide +kernel) (by decide +kernel), List.forall_mem_cons.mpr ⟨a_mT 720 (by decide +kernel) (by decide +kernel), List.forall_mem_cons.mpr ⟨a_mT 727 (by decide +kernel) (by decide +kernel), List.forall_mem_cons.mpr ⟨a_mT 728 (by decide +kernel) (by decide +kernel), List.forall_mem_cons.mpr ⟨a_mT 729 (by decide +kernel) (by decide +kernel), List.forall_mem_cons.mpr ⟨a_mT 730 (by decide +kernel) (by decide +kernel), List.forall_mem_cons.mpr ⟨a_mT 723 (by decide +kernel) (by decide +kernel), fun _ h => absurd h List.not_mem_nil⟩⟩⟩⟩⟩⟩⟩⟩⟩⟩⟩⟩⟩⟩⟩⟩⟩⟩⟩⟩⟩⟩⟩⟩⟩⟩⟩⟩⟩⟩⟩⟩⟩⟩⟩⟩⟩⟩⟩⟩⟩⟩⟩⟩⟩⟩⟩⟩⟩⟩⟩⟩⟩⟩⟩⟩⟩⟩⟩⟩⟩⟩⟩⟩⟩⟩⟩⟩⟩⟩⟩⟩
theorem a_gsL_ok : ∀ q ∈ a_gsL, Cond.fieldLink (a_cn q.1) q.2.1 RX5 (if q.2.2 = 1002 then "FACTORIALS" else "FIVES") (if q.2.2 = 1002 then "[I" else "[J") ∈ a_T0 ∧ (q.2.2 = 1002 ∨ q.2.2 = 1003) := List.forall_mem_cons.mpr ⟨⟨a_mT 573 (by decide +kernel) (by decide +kernel), by decide⟩, List.forall_mem_cons.mpr ⟨⟨a_mT 631 (by decide +kernel) (by decide +kernel), by decide⟩, fun _ h => absurd h List.not_mem_nil⟩⟩
theorem a_klL_ok : ∀ q ∈ a_klL, Cond.constantLong (a_cn q.1) q.2.1 q.2.2 ∈ a_T0 := List.forall_mem_cons.mpr ⟨a_mT 580 (by decide +kernel) (by decide +kernel), List.forall_mem_cons.mpr ⟨a_mT 681 (by decide +kernel) (by decide +kernel), List.forall_mem_cons.mpr ⟨a_mT 682 (by decide +kernel) (by decide +kernel), List.forall_mem_cons.mpr ⟨a_mT 782 (by decide +kernel) (by decide +kernel), List.forall_mem_cons.mpr ⟨a_mT 802 (by decide +kernel) (by decide +kernel), List.forall_mem_cons.mpr ⟨a_mT 803 (by decide +kernel) (by decide +kernel), List.forall_mem_cons.mpr ⟨a_mT 878 (by decide +kernel) (by decide +kernel), List.forall_mem_cons.mpr ⟨a_mT 904 (by decide +kernel) (by decide +kernel), List.forall_mem_cons.mpr ⟨a_mT 918 (by decide +kernel) (by decide +kernel), List.forall_mem_cons.mpr ⟨a_mT 933 (by decide +kernel) (by decide +kernel), List.forall_mem_cons.mpr ⟨a_mT 970 (by decide +kernel) (by decide +kernel), List.forall_mem_cons.mpr ⟨a_mT 971 (by decide +kernel) (by decide +kernel), List.forall_mem_cons.mpr ⟨a_mT 1022 (by decide +kernel) (by decide +kernel), List.forall_mem_cons.mpr ⟨a_mT 1034 (by decide +kernel) (by decide +kernel), List.forall_mem_cons.mpr ⟨a_mT 1035 (by decide +kernel) (by decide +kernel), List.forall_mem_cons.mpr ⟨a_mT 1036 (by decide +kernel) (by decide +kernel), List.forall_mem_cons.mpr ⟨a_mT 1045 (by decide +kernel) (by decide +kernel), fun _ h => absurd h List.not_mem_nil⟩⟩⟩⟩⟩⟩⟩⟩⟩⟩⟩⟩⟩⟩⟩⟩⟩
theorem a_kiL_ok : ∀ q ∈ a_kiL, Cond.constant (a_cn q.1) q.2.1 q.2.2 ∈ a_T0 := List.forall_mem_cons.mpr ⟨a_mT 377 (by decide +kernel) (by decide +kernel), List.forall_mem_cons.mpr ⟨a_mT 378 (by decide +kernel) (by decide +kernel), List.forall_mem_cons.mpr ⟨a_mT 379 (by decide +kernel) (by decide +kernel), fun _ h => absurd h List.not_mem_nil⟩⟩⟩
theorem a_inX0 : ∀ w ∈ u_ws RX0 TX0 5, w ∈ a_T0 := List.forall_mem_cons.mpr ⟨a_mT 160 (by decide +kernel) (by decide +kernel), List.forall_mem_cons.mpr ⟨a_mT 162 (by decide +kernel) (by decide +kernel), List.forall_mem_cons.mpr ⟨a_mT 164 (by decide +kernel) (by decide +kernel), List.forall_mem_cons.mpr ⟨a_mT 166 (by decide +kernel) (by decide +kernel), List.forall_mem_cons.mpr ⟨a_mT 168 (by decide +kernel) (by decide +kernel), fun _ h => absurd h List.not_mem_nil⟩⟩⟩⟩⟩
theorem a_inX1 : ∀ w ∈ u_ws RX1 TX1 7, w ∈ a_T0 := List.forall_mem_cons.mpr ⟨a_mT 134 (by decide +kernel) (by decide +kernel), List.forall_mem_cons.mpr ⟨a_mT 136 (by decide +kernel) (by decide +kernel), List.forall_mem_cons.mpr ⟨a_mT 138 (by decide +kernel) (by decide +kernel), List.forall_mem_cons.mpr ⟨a_mT 140 (by decide +kernel) (by decide +kernel), List.forall_mem_cons.mpr ⟨a_mT 142 (by decide +kernel) (by decide +kernel), List.forall_mem_cons.mpr ⟨a_mT 144 (by decide +kernel) (by decide +kernel), List.forall_mem_cons.mpr ⟨a_mT 146 (by decide +kernel) (by decide +kernel), fun _ h => absurd h List.not_mem_nil⟩⟩⟩⟩⟩⟩⟩
theorem a_inX2 : ∀ w ∈ u_ws RX2 TX2 3, w ∈ a_T0 := List.forall_mem_cons.mpr ⟨a_mT 180 (by decide +kernel) (by decide +kernel), List.forall_mem_cons.mpr ⟨a_mT 182 (by decide +kernel) (by decide +kernel), List.forall_mem_cons.mpr ⟨a_mT 184 (by decide +kernel) (by decide +kernel), fun _ h => absurd h List.not_mem_nil⟩⟩⟩
theorem a_inX3 : ∀ w ∈ u_ws RX3 TX3 10, w ∈ a_T0 := List.forall_mem_cons.mpr ⟨a_mT 100 (by decide +kernel) (by decide +kernel), List.forall_mem_cons.mpr ⟨a_mT 102 (by decide +kernel) (by decide +kernel), List.forall_mem_cons.mpr ⟨a_mT 104 (by decide +kernel) (by decide +kernel), List.forall_mem_cons.mpr ⟨a_mT 106 (by decide +kernel) (by decide +kernel), List.forall_mem_cons.mpr ⟨a_mT 108 (by decide +kernel) (by decide +kernel), List.forall_mem_cons.mpr ⟨a_mT 110 (by decide +kernel) (by decide +kernel), List.forall_mem_cons.mpr ⟨a_mT 112 (by decide +kernel) (by decide +kernel), List.forall_mem_cons.mpr ⟨a_mT 114 (by decide +kernel) (by decide +kernel), List.forall_mem_cons.mpr ⟨a_mT 116 (by decide +kernel) (by decide +kernel), List.forall_mem_cons.mpr ⟨a_mT 118 (by decide +kernel) (by decide +kernel), fun _ h => absurd h List.not_mem_nil⟩⟩⟩⟩⟩⟩⟩⟩⟩⟩
theorem a_inX4 : ∀ w ∈ u_ws RX4 TX4 2, w ∈ a_T0 := List.forall_mem_cons.mpr ⟨a_mT 66 (by decide +kernel) (by decide +kernel), List.forall_mem_cons.mpr ⟨a_mT 68 (by decide +kernel) (by decide +kernel), fun _ h => absurd h List.not_mem_nil⟩⟩
theorem a_inX5 : ∀ w ∈ u_ws RX5 TX5 11, w ∈ a_T0 := List.forall_mem_cons.mpr ⟨a_mT 198 (by decide +kernel) (by decide +kernel), List.forall_mem_cons.mpr ⟨a_mT 200 (by decide +kernel) (by decide +kernel), List.forall_mem_cons.mpr ⟨a_mT 202 (by decide +kernel) (by decide +kernel), List.forall_mem_cons.mpr ⟨a_mT 204 (by decide +kernel) (by decide +kernel), List.forall_mem_cons.mpr ⟨a_mT 206 (by decide +kernel) (by decide +kernel), List.forall_mem_cons.mpr ⟨a_mT 208 (by decide +kernel) (by decide +kernel), List.forall_mem_cons.mpr ⟨a_mT 210 (by decide +kernel) (by decide +kernel), List.forall_mem_cons.mpr ⟨a_mT 212 (by decide +kernel) (by decide +kernel), List.forall_mem_cons.mpr ⟨a_mT 214 (by decide +kernel) (by decide +kernel), List.forall_mem_cons.mpr ⟨a_mT 216 (by decide +kernel) (by decide +kernel), List.forall_mem_cons.mpr ⟨a_mT 218 (by decide +kernel) (by decide +kernel), fun _ h => absurd h List.not_mem_nil⟩⟩⟩⟩⟩⟩⟩⟩⟩⟩⟩
theorem a_inX6 : ∀ w ∈ u_ws RX6 TX6 22, w ∈ a_T0 := List.forall_mem_cons.mpr ⟨a_mT 732 (by decide +kernel) (by decide +kernel), List.forall_mem_cons.mpr ⟨a_mT 734 (by decide +kernel) (by decide +kernel), List.forall_mem_cons.mpr ⟨a_mT 736 (by decide +kernel) (by decide +kernel), List.forall_mem_cons.mpr ⟨a_mT 738 (by decide +kernel) (by decide +kernel), List.forall_mem_cons.mpr ⟨a_mT 740 (by decide +kernel) (by decide +kernel), List.forall_mem_cons.mpr ⟨a_mT 742 (by decide +kernel) (by decide +kernel), List.forall_mem_cons.mpr ⟨a_mT 744 (by decide +kernel) (by decide +kernel), List.forall_mem_cons.mpr ⟨a_mT 746 (by decide +kernel) (by decide +kernel), List.forall_mem_cons.mpr ⟨a_mT 748 (by decide +kernel) (by decide +kernel), List.forall_mem_cons.mpr ⟨a_mT 750 (by decide +kernel) (by decide +kernel), List.forall_mem_cons.mpr ⟨a_mT 752 (by decide +kernel) (by decide +kernel), List.forall_mem_cons.mpr ⟨a_mT 754 (by decide +kernel) (by decide +kernel), List.forall_mem_cons.mpr ⟨a_mT 756 (by decide +kernel) (by decide +kernel), List.forall_mem_cons.mpr ⟨a_mT 758 (by decide +kernel) (by decide +kernel), List.forall_mem_cons.mpr ⟨a_mT 760 (by decide +kernel) (by decide +kernel), List.forall_mem_cons.mpr ⟨a_mT 762 (by decide +kernel) (by decide +kernel), List.forall_mem_cons.mpr ⟨a_mT 764 (by decide +kernel) (by decide +kernel), List.forall_mem_cons.mpr ⟨a_mT 766 (by decide +kernel) (by decide +kernel), List.forall_mem_cons.mpr ⟨a_mT 768 (by decide +kernel) (by decide +kernel), List.forall_mem_cons.mpr ⟨a_mT 770 (by decide +kernel) (by decide +kernel), List.forall_mem_cons.mpr ⟨a_mT 772 (by decide +kernel) (by decide +kernel), List.forall_mem_cons.mpr ⟨a_mT 774 (by decide +kernel) (by decide +kernel), fun _ h => absurd h List.not_mem_nil⟩⟩⟩⟩⟩⟩⟩⟩⟩⟩⟩⟩⟩⟩⟩⟩⟩⟩⟩⟩⟩⟩
/-- what is known of a class of ours -/
def a_okF (c : Nat) (C : String) (T : u_T) (N : Nat) : Prop := vwCl[c]? = some (C, T, N) ∧ C = a_cn c ∧ T = a_fT c ∧ (a_fs c).length = N ∧ (∀ w ∈ u_ws C T N, w ∈ a_T0) ∧ (∃ ty : Nat → FieldType, ∀ k, k < N → parseFieldDescriptor (T k).2.2.1 = some (ty k)) ∧ (∀ a, a < N → ∀ b, b < N → a ≠ b → (T a).2.1 ≠ (T b).2.1) ∧ (∀ j, j < N → (T j).1 = C) ∧ (∀ j, j < N → (a_fs c)[j]? = some 0 → parseFieldDescriptor (T j).2.2.1 = some .int ∧ (T j).2.2.2 = false) ∧ (∀ j, j < N → (a_fs c)[j]? = some 1 → parseFieldDescriptor (T j).2.2.1 = some .long ∧ (T j).2.2.2 = false)
theorem a_okF0 : a_okF 0 RX0 TX0 5 := ⟨rfl, rfl, rfl, rfl, a_inX0, ⟨tyX0, tyX0_ok⟩, nmX0, by decide +kernel, by decide +kernel, by decide +kernel⟩
theorem a_okF1 : a_okF 1 RX1 TX1 7 := ⟨rfl, rfl, rfl, rfl, a_inX1, ⟨tyX1, tyX1_ok⟩, nmX1, by decide +kernel, by decide +kernel, by decide +kernel⟩
theorem a_okF2 : a_okF 2 RX2 TX2 3 := ⟨rfl, rfl, rfl, rfl, a_inX2, ⟨tyX2, tyX2_ok⟩, nmX2, by decide +kernel, by decide +kernel, by decide +kernel⟩
theorem a_okF3 : a_okF 3 RX3 TX3 10 := ⟨rfl, rfl, rfl, rfl, a_inX3, ⟨tyX3, tyX3_ok⟩, nmX3, by decide +kernel, by decide +kernel, by decide +kernel⟩
theorem a_okF4 : a_okF 4 RX4 TX4 2 := ⟨rfl, rfl, rfl, rfl, a_inX4, ⟨tyX4, tyX4_ok⟩, nmX4, by decide +kernel, by decide +kernel, by decide +kernel⟩
theorem a_okF5 : a_okF 5 RX5 TX5 11 := ⟨rfl, rfl, rfl, rfl, a_inX5, ⟨tyX5, tyX5_ok⟩, nmX5, by decide +kernel, by decide +kernel, by decide +kernel⟩
theorem a_okF6 : a_okF 6 RX6 TX6 22 := ⟨rfl, rfl, rfl, rfl, a_inX6, ⟨tyX6, tyX6_ok⟩, nmX6, by decide +kernel, by decide +kernel, by decide +kernel⟩
theorem a_okF_all {c : Nat} (h : c < 7) : ∃ (C : String) (T : u_T) (N : Nat), a_okF c C T N := by
  rcases (show c = 0 ∨ c = 1 ∨ c = 2 ∨ c = 3 ∨ c = 4 ∨ c = 5 ∨ c = 6 by omega) with rfl | rfl | rfl | rfl | rfl | rfl | rfl
  · exact ⟨_, _, _, a_okF0⟩
  · exact ⟨_, _, _, a_okF1⟩
  · exact ⟨_, _, _, a_okF2⟩
  · exact ⟨_, _, _, a_okF3⟩
  · exact ⟨_, _, _, a_okF4⟩
  · exact ⟨_, _, _, a_okF5⟩
  · exact ⟨_, _, _, a_okF6⟩

theorem a_find_mem {α : Type} : ∀ (l : List (Nat × Nat × α)) (c i : Nat) (v : α), a_find l c i = some v → (c, i, v) ∈ l
  | [], _, _, _, h => by cases h
  | (a, b, u) :: r, c, i, v, h => by
    unfold a_find at h
    by_cases hc : a = c ∧ b = i
    · rw [if_pos hc] at h
      obtain ⟨rfl, rfl⟩ := hc
      cases h
      exact List.mem_cons_self
    · rw [if_neg hc] at h
      exact List.mem_cons_of_mem _ (a_find_mem r c i v h)
theorem a_fr_lt {c i ci j : Nat} (h : a_fr c i = some (ci, j)) : ci < 7 ∧ j < (a_fs ci).length := by
  have hm := a_find_mem _ _ _ _ h
  have hall : ∀ q ∈ a_frL, q.2.2.1 < 7 ∧ q.2.2.2 < (a_fs q.2.2.1).length := by decide +kernel
  exact hall _ hm
end
section
/-- where things are: the classes' numbers and slots, the classes of int and boolean rows, the addresses, the first address that is ours, the script's length and ints -/
abbrev aE : Type := va_G × ClassId × ClassId × (Nat → Nat) × Nat × Nat × (Nat → Int32)
def e_ad (E : aE) : Nat → Nat := E.2.2.2.1
def e_A (E : aE) : Nat → Prop := fun q => E.2.2.2.2.1 ≤ q
def e_L (E : aE) : Nat := E.2.2.2.2.2.1
def e_xs (E : aE) : Nat → Int32 := E.2.2.2.2.2.2
def e_tys (E : aE) : List (ClassId × FieldType) := [(E.2.1, .int), (E.2.2.1, .boolean)]
def a_tr (E : aE) : Value → Value
  | .ref k => .ref (e_ad E k)
  | v => v
theorem a_tr_cat (E : aE) (v : Value) : (a_tr E v).category = v.category := by cases v <;> rfl
def a_fv (E : aE) (S : aS) (G : aG) (k j t : Nat) : Value := match t with
  | 0 => .int (S k j)
  | 1 => .long (G k)
  | _ => .ref (e_ad E (a_rf k j))
def a_fl (E : aE) (S : aS) (G : aG) (k c : Nat) : List Value := (a_fs c).mapIdx (fun j t => a_fv E S G k j t)
def a_cell (E : aE) (S : aS) (G : aG) (k : Nat) : va_E :=
  if a_cls k < 7 then .inr (a_cls k, a_fl E S G k (a_cls k)) else if k = 41 then .inl (E.2.2.1, 2, .inl (S k)) else .inl (E.2.1, a_lnL.getD k 0, .inl (S k))
def a_ws (E : aE) (S : aS) (G : aG) : va_W := (List.range 45).map (fun k => (e_ad E k, a_cell E S G k))
theorem a_ws_at (E : aE) (S : aS) (G : aG) {k : Nat} (h : k < 45) : (a_ws E S G)[k]? = some (e_ad E k, a_cell E S G k) := by
  simp [a_ws, h]
theorem a_cell_congr (E : aE) {S S' : aS} {G G' : aG} {k : Nat} (h : S' k = S k) (hg : G' k = G k) : a_cell E S' G' k = a_cell E S G k := by
  have e : ∀ c, a_fl E S' G' k c = a_fl E S G k c := fun c => by
    unfold a_fl
    congr 1
    funext j t
    unfold a_fv
    rw [h, hg]
  unfold a_cell
  rw [h, e]
theorem a_ws_set (E : aE) {S S' : aS} {G G' : aG} {k : Nat} (h : k < 45) (hs : ∀ j, j ≠ k → S' j = S j) (hg : ∀ j, j ≠ k → G' j = G j) {a : Nat} {e : va_E} (ha : a = e_ad E k) (he : e = a_cell E S' G' k) : (a_ws E S G).set k (a, e) = a_ws E S' G' := by
  subst ha he
  apply List.ext_getElem?
  intro j
  by_cases hj : j = k
  · subst hj
    rw [List.getElem?_set_self (by simp [a_ws, h]), a_ws_at E S' G' h]
  · rw [List.getElem?_set_ne (Ne.symm hj)]
    by_cases hl : j < 45
    · rw [a_ws_at E S G hl, a_ws_at E S' G' hl, a_cell_congr E (hs j hj) (hg j hj)]
    · simp [a_ws, hl]
theorem a_cls_lt {k : Nat} (h : a_cls k < 7) : k < 45 := by
  rcases Nat.lt_or_ge k 45 with q | q
  · exact q
  · have : a_cls k = 99 := by
      unfold a_cls
      rw [List.getD_eq_getElem?_getD, List.getElem?_eq_none (show a_clsL.length ≤ k from q)]
      rfl
    omega
theorem a_lnL_fact : ∀ k, k < 45 → 0 < a_lnL.getD k 0 → ¬ a_cls k < 7 ∧ k ≠ 41 := by decide +kernel
theorem a_len_row {S : aS} {k : Nat} (h : 0 < a_len S k) (h1 : k ≠ 1000) (h2 : k ≠ 1002) : k < 45 ∧ a_len S k = a_lnL.getD k 0 ∧ ∀ (E : aE) (S' : aS) (G : aG), a_cell E S' G k = .inl (E.2.1, a_lnL.getD k 0, .inl (S' k)) := by
  have e : a_len S k = a_lnL.getD k 0 := by unfold a_len; rw [if_neg h1, if_neg h2]
  rw [e] at h
  have hk : k < 45 := by
    rcases Nat.lt_or_ge k 45 with q | q
    · exact q
    · rw [List.getD_eq_getElem?_getD, List.getElem?_eq_none (show a_lnL.length ≤ k from q)] at h
      exact absurd h (by decide)
  obtain ⟨f1, f2⟩ := a_lnL_fact k hk h
  exact ⟨hk, e, fun E S' G => by unfold a_cell; rw [if_neg f1, if_neg f2]⟩
theorem a_cell_41 (E : aE) (S : aS) (G : aG) : a_cell E S G 41 = .inl (E.2.2.1, 2, .inl (S 41)) := by
  unfold a_cell
  rw [if_neg (by decide), if_pos rfl]
theorem a_cell_obj (E : aE) (S : aS) (G : aG) {k : Nat} (h : a_cls k < 7) : a_cell E S G k = .inr (a_cls k, a_fl E S G k (a_cls k)) := by
  unfold a_cell
  rw [if_pos h]
theorem a_fl_at (E : aE) (S : aS) (G : aG) {k c j t : Nat} (h : (a_fs c)[j]? = some t) : (a_fl E S G k c)[j]? = some (a_fv E S G k j t) := by
  simp [a_fl, List.getElem?_mapIdx, h]
theorem a_fl_len (E : aE) (S : aS) (G : aG) (k c : Nat) : (a_fl E S G k c).length = (a_fs c).length := by simp [a_fl]
theorem a_fl_put (E : aE) (S : aS) (G : aG) {k c j : Nat} (h : (a_fs c)[j]? = some 0) (v : Int32) : (a_fl E S G k c).set j (.int v) = a_fl E (a_wr S k (upd (S k) j v)) G k c := by
  apply List.ext_getElem?
  intro i
  by_cases hi : i = j
  · subst hi
    rw [List.getElem?_set_self (by rw [a_fl_len]; exact (List.getElem?_eq_some_iff.mp h).1), a_fl_at _ _ _ h]
    simp [a_fv, a_wr, upd]
  · rw [List.getElem?_set_ne (Ne.symm hi)]
    simp only [a_fl, List.getElem?_mapIdx]
    congr 1
    funext t
    simp [a_fv, a_wr, upd, hi]
theorem a_fl_putL (E : aE) (S : aS) (G : aG) {k c j : Nat} (h : (a_fs c)[j]? = some 1) (hu : ∀ i, i ≠ j → (a_fs c)[i]? ≠ some 1) (v : Int64) : (a_fl E S G k c).set j (.long v) = a_fl E S (a_wr G k v) k c := by
  apply List.ext_getElem?
  intro i
  by_cases hi : i = j
  · subst hi
    rw [List.getElem?_set_self (by rw [a_fl_len]; exact (List.getElem?_eq_some_iff.mp h).1), a_fl_at _ _ _ h]
    simp [a_fv, a_wr]
  · rw [List.getElem?_set_ne (Ne.symm hi)]
    simp only [a_fl, List.getElem?_mapIdx]
    have hx := hu i hi
    cases hf : (a_fs c)[i]? with
    | none => rfl
    | some t =>
      have ht : t ≠ 1 := fun e => hx (by rw [hf, e])
      simp only [Option.map_some]
      congr 1
      unfold a_fv
      match t, ht with
      | 0, _ => rfl
      | n + 2, _ => rfl
theorem a_fs_oneC : ((List.range 7).all fun c => (List.range 22).all fun j => (List.range 22).all fun i => ((a_fs c).getD j 0 != 1) || i == j || ((a_fs c).getD i 0 != 1)) = true := by decide +kernel
theorem a_fs_oneB (c : Nat) (hc : c < 7) (j : Nat) (hj : j < 22) (i : Nat) (hi : i < 22) : ¬ ((a_fs c)[j]? = some 1) ∨ i = j ∨ ¬ ((a_fs c)[i]? = some 1) := by
  have h := a_fs_oneC
  simp only [List.all_eq_true, List.mem_range] at h
  have h2 := h c hc j hj i hi
  simp only [Bool.or_eq_true, bne_iff_ne, ne_eq, beq_iff_eq, List.getD_eq_getElem?_getD] at h2
  rcases h2 with (q | q) | q
  · exact Or.inl (fun e => q (by rw [e]; rfl))
  · exact Or.inr (Or.inl q)
  · exact Or.inr (Or.inr (fun e => q (by rw [e]; rfl)))
theorem a_fs_22 : ∀ c, c < 7 → (a_fs c).length ≤ 22 := by decide +kernel
theorem a_fs_one {c : Nat} (hc : c < 7) {j : Nat} (h : (a_fs c)[j]? = some 1) : ∀ i, i ≠ j → (a_fs c)[i]? ≠ some 1 := by
  intro i hi h2
  have l1 := (List.getElem?_eq_some_iff.mp h).1
  have l2 := (List.getElem?_eq_some_iff.mp h2).1
  have l3 := a_fs_22 c hc
  rcases a_fs_oneB c hc j (by omega) i (by omega) with q | q | q
  · exact q h
  · exact hi q
  · exact q h2
-- locals
def a_al (E : aE) (L : List Value) : List (Nat × Value) := L.zipIdx.filterMap (fun q => if q.1 = .null then none else some (q.2, a_tr E q.1))
theorem a_al_mem (E : aE) {L : List Value} {k : Nat} {w : Value} : (k, w) ∈ a_al E L ↔ ∃ v, L[k]? = some v ∧ v ≠ .null ∧ w = a_tr E v := by
  unfold a_al
  rw [List.mem_filterMap]
  constructor
  · rintro ⟨⟨v, i⟩, hm, he⟩
    have hv : L[i]? = some v := by
      have := List.mk_mem_zipIdx_iff_getElem?.mp hm
      simpa using this
    by_cases hn : v = .null
    · simp [hn] at he
    · simp only [hn, if_false, Option.some.injEq, Prod.mk.injEq] at he
      obtain ⟨rfl, rfl⟩ := he
      exact ⟨v, hv, hn, rfl⟩
  · rintro ⟨v, hv, hn, rfl⟩
    exact ⟨(v, k), List.mk_mem_zipIdx_iff_getElem?.mpr (by simpa using hv), by simp [hn]⟩
def a_loc (E : aE) (ls : Array Slot) (nL : Nat) (L : List Value) : Prop := L.length = nL ∧ lv_has ls nL (a_al E L)
theorem a_loc_at {E : aE} {ls : Array Slot} {nL : Nat} {L : List Value} (h : a_loc E ls nL L) {i : Nat} {v : Value} (hv : a_ld L i = v) (hn : v ≠ .null) : ls[i]? = some (.val (a_tr E v)) := by
  refine h.2.2.2 (i, a_tr E v) ((a_al_mem E).mpr ⟨v, ?_, hn, rfl⟩)
  unfold a_ld at hv
  rw [List.getD_eq_getElem?_getD] at hv
  cases hx : L[i]? with
  | none => rw [hx] at hv; exact (hn (by rw [← hv]; rfl)).elim
  | some w => rw [hx] at hv; simp at hv; rw [hv]
theorem lv_mono {ls : Array Slot} {nL : Nat} {l l' : List (Nat × Value)} (h : lv_has ls nL l) (hs : ∀ q ∈ l', q ∈ l) : lv_has ls nL l' := ⟨h.1, h.2.1, fun q hq => h.2.2 q (hs q hq)⟩
theorem a_loc_st {E : aE} {ls' : Array Slot} {nL : Nat} {L : List Value} (hL : L.length = nL) {i : Nat} {v : Value} (hi : i < L.length ∧ (i = 0 ∨ (L.getD (i - 1) .null).category = 1)) (h : lv_has ls' nL ((i, a_tr E v) :: (a_al E L).filter (fun q => !(q.1 == i) && !(q.1 + 1 == i && q.2.category == 2)))) : a_loc E ls' nL (L.set i v) := by
  refine ⟨by rw [List.length_set]; exact hL, lv_mono h ?_⟩
  rintro ⟨k, w⟩ hq
  obtain ⟨u, hu, hn, rfl⟩ := (a_al_mem E).mp hq
  by_cases hk : k = i
  · subst hk
    rw [List.getElem?_set_self hi.1] at hu
    cases hu
    exact List.mem_cons_self
  · rw [List.getElem?_set_ne (Ne.symm hk)] at hu
    refine List.mem_cons_of_mem _ (List.mem_filter.mpr ⟨(a_al_mem E).mpr ⟨u, hu, hn, rfl⟩, ?_⟩)
    simp only [Bool.and_eq_true, Bool.not_eq_true', beq_eq_false_iff_ne, ne_eq, hk, not_false_eq_true, true_and, Bool.and_eq_false_imp, beq_iff_eq]
    intro e
    rcases hi.2 with h0 | h0
    · omega
    · have e2 : i - 1 = k := by omega
      rw [e2, List.getD_eq_getElem?_getD, hu] at h0
      rw [a_tr_cat]
      simp at h0
      rw [h0]
      decide
theorem a_loc_st2 {E : aE} {ls' : Array Slot} {nL : Nat} {L : List Value} (hL : L.length = nL) {i : Nat} {v : Value} (hi : i + 1 < L.length ∧ (i = 0 ∨ (L.getD (i - 1) .null).category = 1)) (h : lv_has ls' nL ((i, a_tr E v) :: (a_al E L).filter (fun q => !(q.1 == i) && (!(q.1 == i + 1) && !(q.1 + 1 == i && q.2.category == 2))))) : a_loc E ls' nL ((L.set i v).set (i + 1) .null) := by
  refine ⟨by rw [List.length_set, List.length_set]; exact hL, lv_mono h ?_⟩
  rintro ⟨k, w⟩ hq
  obtain ⟨u, hu, hn, rfl⟩ := (a_al_mem E).mp hq
  by_cases hk1 : k = i + 1
  · subst hk1
    rw [List.getElem?_set_self (by rw [List.length_set]; exact hi.1)] at hu
    cases hu
    exact (hn rfl).elim
  · rw [List.getElem?_set_ne (Ne.symm hk1)] at hu
    by_cases hk : k = i
    · subst hk
      rw [List.getElem?_set_self (by omega)] at hu
      cases hu
      exact List.mem_cons_self
    · rw [List.getElem?_set_ne (Ne.symm hk)] at hu
      refine List.mem_cons_of_mem _ (List.mem_filter.mpr ⟨(a_al_mem E).mpr ⟨u, hu, hn, rfl⟩, ?_⟩)
      simp only [Bool.and_eq_true, Bool.not_eq_true', beq_eq_false_iff_ne, ne_eq, hk, hk1, not_false_eq_true, true_and, Bool.and_eq_false_imp, beq_iff_eq]
      intro e
      rcases hi.2 with h0 | h0
      · omega
      · have e2 : i - 1 = k := by omega
        rw [e2, List.getD_eq_getElem?_getD, hu] at h0
        rw [a_tr_cat]
        simp at h0
        rw [h0]
        decide
-- entry
theorem a_ex_args (E : aE) : ∀ (as : List Value) (i : Nat) (k : Nat) (v : Value), (a_ex as)[k]? = some v → v ≠ .null → (i + k, a_tr E v) ∈ lv_args i (as.map (a_tr E))
  | [], i, k, v, h, hn => by simp [a_ex] at h
  | a :: as, i, k, v, h, hn => by
    have gen : ∀ (step : Nat) (pre : List Value), a_ex (a :: as) = pre ++ a_ex as → pre.length = step → pre[0]? = some a → (∀ j, 0 < j → ∀ u, pre[j]? = some u → u = .null) → (if (a_tr E a).category = 2 then i + 2 else i + 1) = i + step → (i + k, a_tr E v) ∈ lv_args i ((a :: as).map (a_tr E)) := by
      intro step pre e1 e2 e3 e4 e5
      rw [e1] at h
      show (i + k, a_tr E v) ∈ (i, a_tr E a) :: lv_args (if (a_tr E a).category = 2 then i + 2 else i + 1) (as.map (a_tr E))
      rw [e5]
      by_cases hk : k < pre.length
      · rw [List.getElem?_append_left hk] at h
        by_cases h0 : k = 0
        · subst h0
          rw [e3] at h
          cases h
          exact List.mem_cons_self
        · exact (hn (e4 k (by omega) v h)).elim
      · rw [List.getElem?_append_right (by omega)] at h
        have := a_ex_args E as (i + step) (k - pre.length) v h hn
        have e6 : i + step + (k - pre.length) = i + k := by omega
        rw [e6] at this
        exact List.mem_cons_of_mem _ this
    by_cases hc : a.category = 2
    · refine gen 2 [a, .null] (by rw [a_ex, if_pos hc]; rfl) rfl rfl (fun j hj u hu => ?_) (by rw [a_tr_cat, if_pos hc])
      match j, hj with
      | 1, _ => simp at hu; exact hu.symm
      | n + 2, _ => simp at hu
    · refine gen 1 [a] (by rw [a_ex, if_neg hc]; rfl) rfl rfl (fun j hj u hu => ?_) (by rw [a_tr_cat, if_neg hc])
      match j, hj with
      | n + 1, _ => simp at hu
theorem a_ex_sl (E : aE) : ∀ as : List Value, (lg_sl (as.map (a_tr E))).length = (a_ex as).length
  | [] => rfl
  | a :: as => by
    have ih := a_ex_sl E as
    have e : lg_sl ((a :: as).map (a_tr E)) = (if (a_tr E a).category = 2 then [Slot.val (a_tr E a), Slot.second] else [Slot.val (a_tr E a)]) ++ lg_sl (as.map (a_tr E)) := by
      simp [lg_sl]
    rw [e, a_ex, a_tr_cat]
    by_cases hc : a.category = 2
    · rw [if_pos hc, if_pos hc]; simp [ih]
    · rw [if_neg hc, if_neg hc]; simp [ih]
theorem a_loc_entry (E : aE) (m : aM) (as : List Value) (h : (a_ex as).length ≤ m.2.2.2.1) : a_loc E ((lg_sl (as.map (a_tr E)) ++ List.replicate (m.2.2.2.1 - (lg_sl (as.map (a_tr E))).length) Slot.unset).toArray) m.2.2.2.1 (a_ent m as) := by
  refine ⟨by simp [a_ent]; omega, lv_mono (lv_entry (as.map (a_tr E)) (by rw [a_ex_sl]; exact h)) ?_⟩
  rintro ⟨k, w⟩ hq
  obtain ⟨v, hv, hn, rfl⟩ := (a_al_mem E).mp hq
  unfold a_ent at hv
  by_cases hk : k < (a_ex as).length
  · rw [List.getElem?_append_left hk] at hv
    have := a_ex_args E as 0 k v hv hn
    rwa [Nat.zero_add] at this
  · rw [List.getElem?_append_right (by omega), List.getElem?_replicate] at hv
    split at hv
    · cases hv; exact (hn rfl).elim
    · cases hv
end
section
theorem a_ln_inv {len n : Nat} {o : Option aO} {q : aO} (h : a_ln len n o = some q) : len = n ∧ o = some q := by
  unfold a_ln at h; split at h
  · exact ⟨by assumption, h⟩
  · cases h
theorem a_i1_inv {st : List Value} {k : Int32 → List Value → Option aO} {q : aO} (h : a_i1 st k = some q) : ∃ (x : Int32) (r : List Value), st = .int x :: r ∧ k x r = some q := by
  unfold a_i1 at h; split at h
  · exact ⟨_, _, rfl, h⟩
  · cases h
theorem a_r1_inv {st : List Value} {k : Nat → List Value → Option aO} {q : aO} (h : a_r1 st k = some q) : ∃ (x : Nat) (r : List Value), st = .ref x :: r ∧ k x r = some q := by
  unfold a_r1 at h; split at h
  · exact ⟨_, _, rfl, h⟩
  · cases h
theorem a_l1_inv {st : List Value} {k : Int64 → List Value → Option aO} {q : aO} (h : a_l1 st k = some q) : ∃ (x : Int64) (r : List Value), st = .long x :: r ∧ k x r = some q := by
  unfold a_l1 at h; split at h
  · exact ⟨_, _, rfl, h⟩
  · cases h
theorem a_i2_inv {st : List Value} {k : Int32 → Int32 → List Value → Option aO} {q : aO} (h : a_i2 st k = some q) : ∃ x y r, st = .int y :: .int x :: r ∧ k x y r = some q := by
  obtain ⟨y, r, e1, h1⟩ := a_i1_inv h
  obtain ⟨x, r2, e2, h2⟩ := a_i1_inv h1
  exact ⟨x, y, r2, by rw [e1, e2], h2⟩
theorem a_l2_inv {st : List Value} {k : Int64 → Int64 → List Value → Option aO} {q : aO} (h : a_l2 st k = some q) : ∃ x y r, st = .long y :: .long x :: r ∧ k x y r = some q := by
  obtain ⟨y, r, e1, h1⟩ := a_l1_inv h
  obtain ⟨x, r2, e2, h2⟩ := a_l1_inv h1
  exact ⟨x, y, r2, by rw [e1, e2], h2⟩
theorem a_g_inv {c : Prop} {dc : Decidable c} {o : Option aO} {q : aO} (h : @a_g c dc o = some q) : c ∧ o = some q := by
  unfold a_g at h; split at h
  · exact ⟨by assumption, h⟩
  · cases h
theorem a_nx_inv {pc : Nat} {L st : List Value} {S : aS} {G : aG} {pc' : Nat} {L' st' : List Value} {S' : aS} {G' : aG} (h : a_nx pc L st S G = some (.inl (pc', L', st', S', G'))) : pc = pc' ∧ L = L' ∧ st = st' ∧ S = S' ∧ G = G' := by
  cases h; exact ⟨rfl, rfl, rfl, rfl, rfl⟩
theorem a_jp_inv {pc : Nat} {off : Int} {k : Nat → Option aO} {q : aO} (h : a_jp pc off k = some q) : ∃ t : Nat, (pc : Int) + off = (t : Int) ∧ k t = some q := by
  unfold a_jp at h; split at h
  · refine ⟨a_tg pc off, ?_, h⟩
    unfold a_tg
    omega
  · cases h
theorem a_st_inv {L : List Value} {i : Nat} {v : Value} {k : List Value → Option aO} {q : aO} (h : a_st L i v k = some q) : (i < L.length ∧ (i = 0 ∨ (L.getD (i - 1) .null).category = 1)) ∧ k (L.set i v) = some q := by
  unfold a_st at h; split at h
  · exact ⟨by assumption, h⟩
  · cases h
theorem a_st2_inv {L : List Value} {i : Nat} {v : Value} {k : List Value → Option aO} {q : aO} (h : a_st2 L i v k = some q) : (i + 1 < L.length ∧ (i = 0 ∨ (L.getD (i - 1) .null).category = 1)) ∧ k ((L.set i v).set (i + 1) .null) = some q := by
  unfold a_st2 at h; split at h
  · exact ⟨by assumption, h⟩
  · cases h
-- what stands outside our cells: the script, the two static rows, the nest's link
def a_For (E : aE) (U : State) (H : Heap) : Prop := va_T .int (e_ad E 1000) (e_L E) (fun j => .int (e_xs E j)) (e_A E) U H ∧ va_Z RX5 "FACTORIALS" "[I" (.ref (e_ad E 1002)) (e_A E) U H ∧ va_T .int (e_ad E 1002) 6 (fun j => .int (a_fact j)) (e_A E) U H ∧ va_Z RX5 "FIVES" "[J" (.ref (e_ad E 1003)) (e_A E) U H ∧ va_T .long (e_ad E 1003) 4 (fun j => .long (a_five j)) (e_A E) U H ∧ va_Nw (.methodLinkNest RX3 77 yX5_isFigure RX5) U
theorem a_For.kept {E : aE} {U : State} {H H1 : Heap} (h : a_For E U H) (hq : ∀ a : Nat, a < H.size → ¬ e_A E a → H1[a]? = H[a]?) : a_For E U H1 := ⟨h.1.kept hq, h.2.1.kept hq, h.2.2.1.kept hq, h.2.2.2.1.kept hq, h.2.2.2.2.1.kept hq, h.2.2.2.2.2⟩
theorem a_For.warm {E : aE} {s U : State} {H : Heap} (hW : s.WarmedH U.vm) (h : a_For E s H) : a_For E U H := ⟨h.1.moved hW.alike, h.2.1.moved hW.alike, h.2.2.1.moved hW.alike, h.2.2.2.1.moved hW.alike, h.2.2.2.2.1.moved hW.alike, va_Nw.warmM hW h.2.2.2.2.2⟩
theorem a_For.same {E : aE} {s U : State} {H : Heap} (hv : s.vm = U.vm) (h : a_For E s H) : a_For E U H := ⟨h.1.moved (hv ▸ Vm.Alike.refl s.vm), h.2.1.moved (hv ▸ Vm.Alike.refl s.vm), h.2.2.1.moved (hv ▸ Vm.Alike.refl s.vm), h.2.2.2.1.moved (hv ▸ Vm.Alike.refl s.vm), h.2.2.2.2.1.moved (hv ▸ Vm.Alike.refl s.vm), va_Nw.same rfl hv h.2.2.2.2.2⟩
/-- the addresses are apart and ours; the script isn't too long -/
def a_De (E : aE) : Prop := (∀ i j, i < 45 → j < 45 → e_ad E i = e_ad E j → i = j) ∧ (∀ k, k < 45 → e_A E (e_ad E k)) ∧ e_L E ≤ 2560
theorem a_De.ws {E : aE} (h : a_De E) (S : aS) (G : aG) : va_D (e_A E) (a_ws E S G) := by
  have key : ∀ (k : Nat) (q : Nat × va_E), (a_ws E S G)[k]? = some q → k < 45 ∧ q.1 = e_ad E k := by
    intro k q hk
    have hl := (List.getElem?_eq_some_iff.mp hk).1
    have hl : k < 45 := by simpa [a_ws] using hl
    rw [a_ws_at E S G hl] at hk
    cases hk
    exact ⟨hl, rfl⟩
  refine ⟨fun i j x y hx hy hxy => ?_, fun k q hk => ?_⟩
  · obtain ⟨h1, h2⟩ := key i x hx
    obtain ⟨h3, h4⟩ := key j y hy
    exact h.1 i j h1 h3 (by rw [← h2, ← h4]; exact hxy)
  · obtain ⟨h1, h2⟩ := key k q hk
    rw [h2]
    exact h.2.1 k h1
def a_St (E : aE) (S : aS) : Prop := S 1000 = e_xs E ∧ S 1001 0 = nI (e_L E)
theorem a_St.wr {E : aE} {S : aS} (h : a_St E S) {k : Nat} (hk : k < 45) (f : Nat → Int32) : a_St E (a_wr S k f) := ⟨by rw [a_wr_ne _ _ (by omega)]; exact h.1, by rw [a_wr_ne _ _ (by omega)]; exact h.2⟩
/-- the frame's fixed part -/
def a_Cx (E : aE) (m : aM) (R : Room) (p : Program) (s : State) (mid : MethodId) (args : Array Value) (meth : Method) (c : Code) : Prop :=
  p.tables.exec = Jvm.exec ∧ c.code = m.2.2.1 ∧ c.maxLocals = m.2.2.2.1 ∧ meth.sig.returnType = m.2.2.2.2.1 ∧ meth.locks = false ∧ s.vm.findClass (a_cn m.1) = some mid.cls ∧ (∀ w ∈ a_T0, w.before args s = true) ∧ va_K E.1 vwCl (e_tys E) s ∧ a_For E s s.heap ∧ m.2.2.2.2.2.1 ≤ R.frames ∧ m.2.2.2.2.2.2 ≤ R.locals
def a_rt (m : aM) (pc : Nat) (v : Option Value) : Prop := match v with
  | some (.int x) => a_okr (.int x) m = true ∧ decode m.2.2.1 pc = .ok (.ireturn, 1)
  | some (.long x) => a_okr (.long x) m = true ∧ decode m.2.2.1 pc = .ok (.lreturn, 1)
  | some (.ref x) => a_okr (.ref x) m = true ∧ decode m.2.2.1 pc = .ok (.areturn, 1)
  | none => m.2.2.2.2.1 = none ∧ decode m.2.2.1 pc = .ok (.return_, 1)
  | _ => False
def a_Rt (E : aE) (l : Launch) (m : aM) (p : Program) (e : Env) (R : Room) (s : State) (mid : MethodId) (args : Array Value) (below : List Frame) (meth : Method) (c : Code) (cells slots : Nat) (Qw : State → Prop) (Q : aQ) : Prop :=
  ∀ (v : Option Value) (S' : aS) (G' : aG) (H' : Heap) (locs' : List Loc) (ls' : Array Slot) (pc' : Nat), Q v S' G' → a_St E S' → va_P E.1 vwCl (a_ws E S' G') H' → va_S (e_A E) s.heap H' locs' → a_rt m pc' v → W p l e R s mid args below meth c H' locs' cells slots Qw (F0 mid pc' ls' (v.toList.map (a_tr E)))
/-- what goes on behind a step -/
def a_Kt (E : aE) (l : Launch) (m : aM) (p : Program) (e : Env) (R : Room) (s : State) (mid : MethodId) (args : Array Value) (below : List Frame) (meth : Method) (c : Code) (cells slots : Nat) (Qw : State → Prop) (pc : Nat) (L st : List Value) (S : aS) (G : aG) : Prop :=
  ∀ (H : Heap) (locs : List Loc) (ls : Array Slot), a_St E S → va_P E.1 vwCl (a_ws E S G) H → va_S (e_A E) s.heap H locs → a_loc E ls m.2.2.2.1 L → W p l e R s mid args below meth c H locs cells slots Qw (F0 mid pc ls (st.map (a_tr E)))
theorem a_words_tr (E : aE) (r : List Value) : ((r.map (a_tr E)).map fun v => v.category).sum = a_words r := by
  unfold a_words
  rw [List.map_map]
  congr 2
  funext v
  exact a_tr_cat E v
theorem a_inv_not (m : aM) (k : Nat) (kinds : List Nat) (x : Nat) (st : List Value) (q : Nat × List Value × List Value × aS × aG) : ¬ a_inv m k kinds x st = some (.inl q) := by
  intro h
  unfold a_inv at h
  split at h
  · split at h
    · split at h
      · split at h
        · split at h
          · obtain ⟨-, h⟩ := a_g_inv h; cases h
          · cases h
          · cases h
        · cases h
      · cases h
    · cases h
  · cases h
section
variable {E : aE} {l : Launch} {m : aM} {p : Program} {e : Env} {R : Room} {s : State} {mid : MethodId} {args : Array Value} {below : List Frame} {meth : Method} {c : Code} {cells slots : Nat} {Qw : State → Prop}
theorem a_row {S : aS} {G : aG} {H : Heap} (hP : va_P E.1 vwCl (a_ws E S G) H) {k : Nat} (h : 0 < a_len S k) (h1 : k ≠ 1000) (h2 : k ≠ 1002) : k < 45 ∧ (a_ws E S G)[k]? = some (e_ad E k, .inl (E.2.1, a_len S k, .inl (S k))) := by
  obtain ⟨h3, h4, h5⟩ := a_len_row h h1 h2
  exact ⟨h3, by rw [a_ws_at E S G h3, h5, h4]⟩
set_option maxHeartbeats 4000000 in
set_option maxRecDepth 10000 in
theorem a_ins_next (hDe : a_De E) (C : a_Cx E m R p s mid args meth c) (hcl : cells ≤ R.cells) (hsl : slots ≤ R.slots) {pc : Nat} {L st : List Value} {S : aS} {G : aG} {i : ClassFile.Instr} {len : Nat} {pc' : Nat} {L' st' : List Value} {S' : aS} {G' : aG}
    (hd : decode m.2.2.1 pc = .ok (i, len)) (h : a_ins m pc L st S G i len = some (.inl (pc', L', st', S', G'))) (hk : a_Kt E l m p e R s mid args below meth c cells slots Qw pc' L' st' S' G') : a_Kt E l m p e R s mid args below meth c cells slots Qw pc L st S G := by
  obtain ⟨hx, hb, hml, hr, hlk, hown, hts, hK, hF, hfr, hlo⟩ := C
  intro H locs ls hSt hP hS hl
  have hD := hDe.ws S G
  cases i with
  | iconst n =>
    obtain ⟨rfl, h_1⟩ := a_ln_inv h
    obtain ⟨rfl, rfl, rfl, rfl, rfl⟩ := a_nx_inv h_1
    exact lv_iconst hx hb hd rfl (hk H locs ls hSt hP hS hl)
  | bipush n =>
    obtain ⟨rfl, h_1⟩ := a_ln_inv h
    obtain ⟨rfl, rfl, rfl, rfl, rfl⟩ := a_nx_inv h_1
    exact lv_bipush hx hb hd rfl (hk H locs ls hSt hP hS hl)
  | sipush n =>
    obtain ⟨rfl, h_1⟩ := a_ln_inv h
    obtain ⟨rfl, rfl, rfl, rfl, rfl⟩ := a_nx_inv h_1
    exact lv_sipush hx hb hd rfl (hk H locs ls hSt hP hS hl)
  | lconst n =>
    obtain ⟨rfl, h_1⟩ := a_ln_inv h
    obtain ⟨rfl, rfl, rfl, rfl, rfl⟩ := a_nx_inv h_1
    exact lv_lconst hx hb hd rfl (hk H locs ls hSt hP hS hl)
  | iload_n k =>
    obtain ⟨rfl, h_1⟩ := a_ln_inv h
    obtain ⟨x, r, hq, h_2⟩ := a_i1_inv h_1
    obtain ⟨rfl, rfl, rfl, rfl, rfl⟩ := a_nx_inv h_2
    exact lv_iload_n hx hb hd rfl (a_loc_at hl (List.cons.inj hq).1 (by intro z; cases z)) (hk H locs ls hSt hP hS hl)
  | iload k =>
    obtain ⟨rfl, h_1⟩ := a_ln_inv h
    obtain ⟨x, r, hq, h_2⟩ := a_i1_inv h_1
    obtain ⟨rfl, rfl, rfl, rfl, rfl⟩ := a_nx_inv h_2
    exact lv_iload hx hb hd (a_loc_at hl (List.cons.inj hq).1 (by intro z; cases z)) (hk H locs ls hSt hP hS hl)
  | lload_n k =>
    obtain ⟨rfl, h_1⟩ := a_ln_inv h
    obtain ⟨x, r, hq, h_2⟩ := a_l1_inv h_1
    obtain ⟨rfl, rfl, rfl, rfl, rfl⟩ := a_nx_inv h_2
    exact lv_lload_n hx hb hd rfl (a_loc_at hl (List.cons.inj hq).1 (by intro z; cases z)) (hk H locs ls hSt hP hS hl)
  | lload k =>
    obtain ⟨rfl, h_1⟩ := a_ln_inv h
    obtain ⟨x, r, hq, h_2⟩ := a_l1_inv h_1
    obtain ⟨rfl, rfl, rfl, rfl, rfl⟩ := a_nx_inv h_2
    exact lv_lload hx hb hd (a_loc_at hl (List.cons.inj hq).1 (by intro z; cases z)) (hk H locs ls hSt hP hS hl)
  | aload_n k =>
    obtain ⟨rfl, h_1⟩ := a_ln_inv h
    obtain ⟨x, r, hq, h_2⟩ := a_r1_inv h_1
    obtain ⟨rfl, rfl, rfl, rfl, rfl⟩ := a_nx_inv h_2
    exact lv_aload_n hx hb hd rfl (a_loc_at hl (List.cons.inj hq).1 (by intro z; cases z)) (hk H locs ls hSt hP hS hl)
  | aload k =>
    obtain ⟨rfl, h_1⟩ := a_ln_inv h
    obtain ⟨x, r, hq, h_2⟩ := a_r1_inv h_1
    obtain ⟨rfl, rfl, rfl, rfl, rfl⟩ := a_nx_inv h_2
    exact lv_aload hx hb hd (a_loc_at hl (List.cons.inj hq).1 (by intro z; cases z)) (hk H locs ls hSt hP hS hl)
  | istore_n k =>
    obtain ⟨rfl, h_1⟩ := a_ln_inv h
    obtain ⟨x, r, rfl, h_2⟩ := a_i1_inv h_1
    obtain ⟨hi, h_3⟩ := a_st_inv h_2
    obtain ⟨rfl, rfl, rfl, rfl, rfl⟩ := a_nx_inv h_3
    exact lv_istore_n hx hb hd rfl hl.2 (by rw [← hl.1]; exact hi.1) rfl (fun ls' hl' => hk H locs ls' hSt hP hS (a_loc_st hl.1 hi hl'))
  | istore k =>
    obtain ⟨rfl, h_1⟩ := a_ln_inv h
    obtain ⟨x, r, rfl, h_2⟩ := a_i1_inv h_1
    obtain ⟨hi, h_3⟩ := a_st_inv h_2
    obtain ⟨rfl, rfl, rfl, rfl, rfl⟩ := a_nx_inv h_3
    exact lv_istore hx hb hd hl.2 (by rw [← hl.1]; exact hi.1) rfl (fun ls' hl' => hk H locs ls' hSt hP hS (a_loc_st hl.1 hi hl'))
  | lstore_n k =>
    obtain ⟨rfl, h_1⟩ := a_ln_inv h
    obtain ⟨x, r, rfl, h_2⟩ := a_l1_inv h_1
    obtain ⟨hi, h_3⟩ := a_st2_inv h_2
    obtain ⟨rfl, rfl, rfl, rfl, rfl⟩ := a_nx_inv h_3
    exact lv_lstore_n hx hb hd rfl hl.2 (by rw [← hl.1]; exact hi.1) rfl (fun ls' hl' => hk H locs ls' hSt hP hS (a_loc_st2 hl.1 hi hl'))
  | iinc k n =>
    obtain ⟨rfl, h_1⟩ := a_ln_inv h
    obtain ⟨x, r, hq, h_2⟩ := a_i1_inv h_1
    obtain ⟨hi, h_3⟩ := a_st_inv h_2
    obtain ⟨rfl, rfl, rfl, rfl, rfl⟩ := a_nx_inv h_3
    have hm : (k, Value.int x) ∈ a_al E L := by
      refine (a_al_mem E).mpr ⟨.int x, ?_, (by intro z; cases z), rfl⟩
      have hv := (List.cons.inj hq).1
      unfold a_ld at hv
      rw [List.getD_eq_getElem?_getD] at hv
      cases hx' : L[k]? with
      | none => rw [hx'] at hv; cases hv
      | some w => rw [hx'] at hv; simp at hv; rw [hv]
    obtain ⟨kk, hkk⟩ := List.getElem?_of_mem hm
    exact lv_iinc hx hb hd hl.2 hkk rfl (by rw [← hl.1]; exact hi.1) rfl (fun ls' hl' => hk H locs ls' hSt hP hS (a_loc_st hl.1 hi hl'))
  | iadd =>
    obtain ⟨rfl, h_1⟩ := a_ln_inv h
    obtain ⟨x, y, r, rfl, h_2⟩ := a_i2_inv h_1
    obtain ⟨rfl, rfl, rfl, rfl, rfl⟩ := a_nx_inv h_2
    exact lv_iadd hx hb hd (hk H locs ls hSt hP hS hl)
  | isub =>
    obtain ⟨rfl, h_1⟩ := a_ln_inv h
    obtain ⟨x, y, r, rfl, h_2⟩ := a_i2_inv h_1
    obtain ⟨rfl, rfl, rfl, rfl, rfl⟩ := a_nx_inv h_2
    exact lv_isub hx hb hd (hk H locs ls hSt hP hS hl)
  | imul =>
    obtain ⟨rfl, h_1⟩ := a_ln_inv h
    obtain ⟨x, y, r, rfl, h_2⟩ := a_i2_inv h_1
    obtain ⟨rfl, rfl, rfl, rfl, rfl⟩ := a_nx_inv h_2
    exact lv_imul hx hb hd (hk H locs ls hSt hP hS hl)
  | iand =>
    obtain ⟨rfl, h_1⟩ := a_ln_inv h
    obtain ⟨x, y, r, rfl, h_2⟩ := a_i2_inv h_1
    obtain ⟨rfl, rfl, rfl, rfl, rfl⟩ := a_nx_inv h_2
    exact lv_iand hx hb hd (hk H locs ls hSt hP hS hl)
  | ior =>
    obtain ⟨rfl, h_1⟩ := a_ln_inv h
    obtain ⟨x, y, r, rfl, h_2⟩ := a_i2_inv h_1
    obtain ⟨rfl, rfl, rfl, rfl, rfl⟩ := a_nx_inv h_2
    exact lv_ior hx hb hd (hk H locs ls hSt hP hS hl)
  | ixor =>
    obtain ⟨rfl, h_1⟩ := a_ln_inv h
    obtain ⟨x, y, r, rfl, h_2⟩ := a_i2_inv h_1
    obtain ⟨rfl, rfl, rfl, rfl, rfl⟩ := a_nx_inv h_2
    exact lv_ixor hx hb hd (hk H locs ls hSt hP hS hl)
  | ishl =>
    obtain ⟨rfl, h_1⟩ := a_ln_inv h
    obtain ⟨x, y, r, rfl, h_2⟩ := a_i2_inv h_1
    obtain ⟨rfl, rfl, rfl, rfl, rfl⟩ := a_nx_inv h_2
    exact lv_ishl hx hb hd (hk H locs ls hSt hP hS hl)
  | ishr =>
    obtain ⟨rfl, h_1⟩ := a_ln_inv h
    obtain ⟨x, y, r, rfl, h_2⟩ := a_i2_inv h_1
    obtain ⟨rfl, rfl, rfl, rfl, rfl⟩ := a_nx_inv h_2
    exact lv_ishr hx hb hd (hk H locs ls hSt hP hS hl)
  | iushr =>
    obtain ⟨rfl, h_1⟩ := a_ln_inv h
    obtain ⟨x, y, r, rfl, h_2⟩ := a_i2_inv h_1
    obtain ⟨rfl, rfl, rfl, rfl, rfl⟩ := a_nx_inv h_2
    exact lv_iushr hx hb hd rfl (hk H locs ls hSt hP hS hl)
  | idiv =>
    obtain ⟨rfl, h_1⟩ := a_ln_inv h
    obtain ⟨x, y, r, rfl, h_2⟩ := a_i2_inv h_1
    obtain ⟨hne, h_3⟩ := a_g_inv h_2
    obtain ⟨rfl, rfl, rfl, rfl, rfl⟩ := a_nx_inv h_3
    exact lv_idiv hx hb hd hne (hk H locs ls hSt hP hS hl)
  | irem =>
    obtain ⟨rfl, h_1⟩ := a_ln_inv h
    obtain ⟨x, y, r, rfl, h_2⟩ := a_i2_inv h_1
    obtain ⟨hne, h_3⟩ := a_g_inv h_2
    obtain ⟨rfl, rfl, rfl, rfl, rfl⟩ := a_nx_inv h_3
    exact lv_irem hx hb hd hne (hk H locs ls hSt hP hS hl)
  | ladd =>
    obtain ⟨rfl, h_1⟩ := a_ln_inv h
    obtain ⟨x, y, r, rfl, h_2⟩ := a_l2_inv h_1
    obtain ⟨rfl, rfl, rfl, rfl, rfl⟩ := a_nx_inv h_2
    exact lv_ladd hx hb hd (hk H locs ls hSt hP hS hl)
  | lsub =>
    obtain ⟨rfl, h_1⟩ := a_ln_inv h
    obtain ⟨x, y, r, rfl, h_2⟩ := a_l2_inv h_1
    obtain ⟨rfl, rfl, rfl, rfl, rfl⟩ := a_nx_inv h_2
    exact lv_lsub hx hb hd (hk H locs ls hSt hP hS hl)
  | lmul =>
    obtain ⟨rfl, h_1⟩ := a_ln_inv h
    obtain ⟨x, y, r, rfl, h_2⟩ := a_l2_inv h_1
    obtain ⟨rfl, rfl, rfl, rfl, rfl⟩ := a_nx_inv h_2
    exact lv_lmul hx hb hd (hk H locs ls hSt hP hS hl)
  | land =>
    obtain ⟨rfl, h_1⟩ := a_ln_inv h
    obtain ⟨x, y, r, rfl, h_2⟩ := a_l2_inv h_1
    obtain ⟨rfl, rfl, rfl, rfl, rfl⟩ := a_nx_inv h_2
    exact lv_land hx hb hd (hk H locs ls hSt hP hS hl)
  | lor =>
    obtain ⟨rfl, h_1⟩ := a_ln_inv h
    obtain ⟨x, y, r, rfl, h_2⟩ := a_l2_inv h_1
    obtain ⟨rfl, rfl, rfl, rfl, rfl⟩ := a_nx_inv h_2
    exact lv_lor hx hb hd (hk H locs ls hSt hP hS hl)
  | ldiv =>
    obtain ⟨rfl, h_1⟩ := a_ln_inv h
    obtain ⟨x, y, r, rfl, h_2⟩ := a_l2_inv h_1
    obtain ⟨hne, h_3⟩ := a_g_inv h_2
    obtain ⟨rfl, rfl, rfl, rfl, rfl⟩ := a_nx_inv h_3
    exact lv_ldiv hx hb hd hne (hk H locs ls hSt hP hS hl)
  | lrem =>
    obtain ⟨rfl, h_1⟩ := a_ln_inv h
    obtain ⟨x, y, r, rfl, h_2⟩ := a_l2_inv h_1
    obtain ⟨hne, h_3⟩ := a_g_inv h_2
    obtain ⟨rfl, rfl, rfl, rfl, rfl⟩ := a_nx_inv h_3
    exact lv_lrem hx hb hd hne (hk H locs ls hSt hP hS hl)
  | lshl =>
    obtain ⟨rfl, h_1⟩ := a_ln_inv h
    obtain ⟨y, r, rfl, h_2⟩ := a_i1_inv h_1
    obtain ⟨x, r, rfl, h_3⟩ := a_l1_inv h_2
    obtain ⟨rfl, rfl, rfl, rfl, rfl⟩ := a_nx_inv h_3
    exact lv_lshl hx hb hd rfl (hk H locs ls hSt hP hS hl)
  | lushr =>
    obtain ⟨rfl, h_1⟩ := a_ln_inv h
    obtain ⟨y, r, rfl, h_2⟩ := a_i1_inv h_1
    obtain ⟨x, r, rfl, h_3⟩ := a_l1_inv h_2
    obtain ⟨rfl, rfl, rfl, rfl, rfl⟩ := a_nx_inv h_3
    exact lv_lushr hx hb hd rfl (hk H locs ls hSt hP hS hl)
  | lcmp =>
    obtain ⟨rfl, h_1⟩ := a_ln_inv h
    obtain ⟨x, y, r, rfl, h_2⟩ := a_l2_inv h_1
    obtain ⟨rfl, rfl, rfl, rfl, rfl⟩ := a_nx_inv h_2
    exact W.lcmp hx hb hd (hk H locs ls hSt hP hS hl)
  | ineg =>
    obtain ⟨rfl, h_1⟩ := a_ln_inv h
    obtain ⟨x, r, rfl, h_2⟩ := a_i1_inv h_1
    obtain ⟨rfl, rfl, rfl, rfl, rfl⟩ := a_nx_inv h_2
    exact lv_ineg hx hb hd (hk H locs ls hSt hP hS hl)
  | i2l =>
    obtain ⟨rfl, h_1⟩ := a_ln_inv h
    obtain ⟨x, r, rfl, h_2⟩ := a_i1_inv h_1
    obtain ⟨rfl, rfl, rfl, rfl, rfl⟩ := a_nx_inv h_2
    exact lv_i2l hx hb hd rfl (hk H locs ls hSt hP hS hl)
  | l2i =>
    obtain ⟨rfl, h_1⟩ := a_ln_inv h
    obtain ⟨x, r, rfl, h_2⟩ := a_l1_inv h_1
    obtain ⟨rfl, rfl, rfl, rfl, rfl⟩ := a_nx_inv h_2
    exact lv_l2i hx hb hd rfl (hk H locs ls hSt hP hS hl)
  | dup =>
    obtain ⟨rfl, h_1⟩ := a_ln_inv h
    match st, h_1 with
    | v :: r, h_2 =>
      obtain ⟨hc, h_3⟩ := a_g_inv h_2
      obtain ⟨rfl, rfl, rfl, rfl, rfl⟩ := a_nx_inv h_3
      exact lv_dup hx hb hd (by rw [a_tr_cat]; exact hc) (hk H locs ls hSt hP hS hl)
  | dup2 =>
    obtain ⟨rfl, h_1⟩ := a_ln_inv h
    match st, h_1 with
    | v :: w :: r, h_2 =>
      obtain ⟨hc, h_3⟩ := a_g_inv h_2
      obtain ⟨rfl, rfl, rfl, rfl, rfl⟩ := a_nx_inv h_3
      exact lv_dup2_11 hx hb hd (by rw [a_tr_cat]; exact hc.1) (by rw [a_tr_cat]; exact hc.2) (hk H locs ls hSt hP hS hl)
  | pop =>
    obtain ⟨rfl, h_1⟩ := a_ln_inv h
    match st, h_1 with
    | v :: r, h_2 =>
      obtain ⟨hc, h_3⟩ := a_g_inv h_2
      obtain ⟨rfl, rfl, rfl, rfl, rfl⟩ := a_nx_inv h_3
      exact lv_pop hx hb hd (by rw [a_tr_cat]; exact hc) (hk H locs ls hSt hP hS hl)
  | goto off =>
    obtain ⟨rfl, h_1⟩ := a_ln_inv h
    obtain ⟨t, ht, h_2⟩ := a_jp_inv h_1
    obtain ⟨rfl, rfl, rfl, rfl, rfl⟩ := a_nx_inv h_2
    exact lv_goto hx hb hd ht (hk H locs ls hSt hP hS hl)
  | ifCond cc off =>
    obtain ⟨rfl, h_1⟩ := a_ln_inv h
    obtain ⟨x, r, rfl, h_2⟩ := a_i1_inv h_1
    obtain ⟨t, ht, h_3⟩ := a_jp_inv h_2
    cases cc with
    | eq =>
      refine lv_if_eq hx hb hd ht (fun hc => ?_) (fun hc => ?_)
      · rw [if_pos (by simp [a_cnd, hc])] at h_3
        obtain ⟨rfl, rfl, rfl, rfl, rfl⟩ := a_nx_inv h_3
        exact hk H locs ls hSt hP hS hl
      · rw [if_neg (by simpa [a_cnd] using hc)] at h_3
        obtain ⟨rfl, rfl, rfl, rfl, rfl⟩ := a_nx_inv h_3
        exact hk H locs ls hSt hP hS hl
    | ne =>
      refine lv_if_ne hx hb hd ht (fun hc => ?_) (fun hc => ?_)
      · rw [if_pos (by simp [a_cnd, hc])] at h_3
        obtain ⟨rfl, rfl, rfl, rfl, rfl⟩ := a_nx_inv h_3
        exact hk H locs ls hSt hP hS hl
      · rw [if_neg (by simp [a_cnd, hc])] at h_3
        obtain ⟨rfl, rfl, rfl, rfl, rfl⟩ := a_nx_inv h_3
        exact hk H locs ls hSt hP hS hl
    | lt =>
      refine lv_if_lt hx hb hd ht (fun hc => ?_) (fun hc => ?_)
      · rw [if_pos (by simp [a_cnd, hc])] at h_3
        obtain ⟨rfl, rfl, rfl, rfl, rfl⟩ := a_nx_inv h_3
        exact hk H locs ls hSt hP hS hl
      · rw [if_neg (by simpa [a_cnd] using hc)] at h_3
        obtain ⟨rfl, rfl, rfl, rfl, rfl⟩ := a_nx_inv h_3
        exact hk H locs ls hSt hP hS hl
    | ge =>
      refine lv_if_ge hx hb hd ht (fun hc => ?_) (fun hc => ?_)
      · rw [if_pos (by simp [a_cnd, hc])] at h_3
        obtain ⟨rfl, rfl, rfl, rfl, rfl⟩ := a_nx_inv h_3
        exact hk H locs ls hSt hP hS hl
      · rw [if_neg (by simpa [a_cnd] using hc)] at h_3
        obtain ⟨rfl, rfl, rfl, rfl, rfl⟩ := a_nx_inv h_3
        exact hk H locs ls hSt hP hS hl
    | gt =>
      refine lv_if_gt hx hb hd ht (fun hc => ?_) (fun hc => ?_)
      · rw [if_pos (by simp [a_cnd, hc])] at h_3
        obtain ⟨rfl, rfl, rfl, rfl, rfl⟩ := a_nx_inv h_3
        exact hk H locs ls hSt hP hS hl
      · rw [if_neg (by simpa [a_cnd] using hc)] at h_3
        obtain ⟨rfl, rfl, rfl, rfl, rfl⟩ := a_nx_inv h_3
        exact hk H locs ls hSt hP hS hl
    | le =>
      refine lv_if_le hx hb hd ht (fun hc => ?_) (fun hc => ?_)
      · rw [if_pos (by simp [a_cnd, hc])] at h_3
        obtain ⟨rfl, rfl, rfl, rfl, rfl⟩ := a_nx_inv h_3
        exact hk H locs ls hSt hP hS hl
      · rw [if_neg (by simpa [a_cnd] using hc)] at h_3
        obtain ⟨rfl, rfl, rfl, rfl, rfl⟩ := a_nx_inv h_3
        exact hk H locs ls hSt hP hS hl
  | if_icmp cc off =>
    obtain ⟨rfl, h_1⟩ := a_ln_inv h
    obtain ⟨x, y, r, rfl, h_2⟩ := a_i2_inv h_1
    obtain ⟨t, ht, h_3⟩ := a_jp_inv h_2
    cases cc with
    | eq =>
      refine lv_icmp_eq hx hb hd ht (fun hc => ?_) (fun hc => ?_)
      · rw [if_pos (by simp [a_cnd, hc])] at h_3
        obtain ⟨rfl, rfl, rfl, rfl, rfl⟩ := a_nx_inv h_3
        exact hk H locs ls hSt hP hS hl
      · rw [if_neg (by simpa [a_cnd] using hc)] at h_3
        obtain ⟨rfl, rfl, rfl, rfl, rfl⟩ := a_nx_inv h_3
        exact hk H locs ls hSt hP hS hl
    | ne =>
      refine lv_icmp_ne hx hb hd ht (fun hc => ?_) (fun hc => ?_)
      · rw [if_pos (by simp [a_cnd, hc])] at h_3
        obtain ⟨rfl, rfl, rfl, rfl, rfl⟩ := a_nx_inv h_3
        exact hk H locs ls hSt hP hS hl
      · rw [if_neg (by simp [a_cnd, hc])] at h_3
        obtain ⟨rfl, rfl, rfl, rfl, rfl⟩ := a_nx_inv h_3
        exact hk H locs ls hSt hP hS hl
    | lt =>
      refine lv_icmp_lt hx hb hd ht (fun hc => ?_) (fun hc => ?_)
      · rw [if_pos (by simp [a_cnd, hc])] at h_3
        obtain ⟨rfl, rfl, rfl, rfl, rfl⟩ := a_nx_inv h_3
        exact hk H locs ls hSt hP hS hl
      · rw [if_neg (by simpa [a_cnd] using hc)] at h_3
        obtain ⟨rfl, rfl, rfl, rfl, rfl⟩ := a_nx_inv h_3
        exact hk H locs ls hSt hP hS hl
    | ge =>
      refine lv_icmp_ge hx hb hd ht (fun hc => ?_) (fun hc => ?_)
      · rw [if_pos (by simp [a_cnd, hc])] at h_3
        obtain ⟨rfl, rfl, rfl, rfl, rfl⟩ := a_nx_inv h_3
        exact hk H locs ls hSt hP hS hl
      · rw [if_neg (by simpa [a_cnd] using hc)] at h_3
        obtain ⟨rfl, rfl, rfl, rfl, rfl⟩ := a_nx_inv h_3
        exact hk H locs ls hSt hP hS hl
    | gt =>
      refine lv_icmp_gt hx hb hd ht (fun hc => ?_) (fun hc => ?_)
      · rw [if_pos (by simp [a_cnd, hc])] at h_3
        obtain ⟨rfl, rfl, rfl, rfl, rfl⟩ := a_nx_inv h_3
        exact hk H locs ls hSt hP hS hl
      · rw [if_neg (by simpa [a_cnd] using hc)] at h_3
        obtain ⟨rfl, rfl, rfl, rfl, rfl⟩ := a_nx_inv h_3
        exact hk H locs ls hSt hP hS hl
    | le =>
      refine lv_icmp_le hx hb hd ht (fun hc => ?_) (fun hc => ?_)
      · rw [if_pos (by simp [a_cnd, hc])] at h_3
        obtain ⟨rfl, rfl, rfl, rfl, rfl⟩ := a_nx_inv h_3
        exact hk H locs ls hSt hP hS hl
      · rw [if_neg (by simpa [a_cnd] using hc)] at h_3
        obtain ⟨rfl, rfl, rfl, rfl, rfl⟩ := a_nx_inv h_3
        exact hk H locs ls hSt hP hS hl
  | tableswitch d lo hi offs =>
    obtain ⟨x, r, rfl, h_1⟩ := a_i1_inv h
    by_cases hc : x.toInt < lo ∨ hi < x.toInt
    · rw [if_pos hc] at h_1
      obtain ⟨t, ht, h_2⟩ := a_jp_inv h_1
      obtain ⟨rfl, rfl, rfl, rfl, rfl⟩ := a_nx_inv h_2
      exact lv_tableOut hx hb hd hc ht (hk H locs ls hSt hP hS hl)
    · rw [if_neg hc] at h_1
      cases ho : offs[(x.toInt - lo).toNat]? with
      | none => rw [ho] at h_1; cases h_1
      | some off =>
        rw [ho] at h_1
        obtain ⟨t, ht, h_3⟩ := a_jp_inv h_1
        obtain ⟨rfl, rfl, rfl, rfl, rfl⟩ := a_nx_inv h_3
        exact lv_tableIn hx hb hd (fun z => hc (Or.inl z)) (fun z => hc (Or.inr z)) ho ht (hk H locs ls hSt hP hS hl)
  | lookupswitch d ps =>
    obtain ⟨x, r, rfl, h_1⟩ := a_i1_inv h
    obtain ⟨hp, h_2⟩ := a_g_inv h_1
    obtain ⟨t, ht, h_3⟩ := a_jp_inv h_2
    obtain ⟨rfl, rfl, rfl, rfl, rfl⟩ := a_nx_inv h_3
    exact lv_lookup hx hb hd hp rfl ht (hk H locs ls hSt hP hS hl)
  | ldc_w k =>
    obtain ⟨rfl, h_1⟩ := a_ln_inv h
    cases hv : a_ki m.1 k with
    | none => rw [hv] at h_1; cases h_1
    | some v =>
      rw [hv] at h_1
      obtain ⟨rfl, rfl, rfl, rfl, rfl⟩ := a_nx_inv h_1
      exact lv_ldcw hx hb hown (hts _ (a_kiL_ok _ (a_find_mem _ _ _ _ hv))) hd (hk H locs ls hSt hP hS hl)
  | ldc2_w k =>
    obtain ⟨rfl, h_1⟩ := a_ln_inv h
    cases hv : a_kl m.1 k with
    | none => rw [hv] at h_1; cases h_1
    | some v =>
      rw [hv] at h_1
      obtain ⟨rfl, rfl, rfl, rfl, rfl⟩ := a_nx_inv h_1
      exact lv_ldc2 hx hb hown (hts _ (a_klL_ok _ (a_find_mem _ _ _ _ hv))) hd (hk H locs ls hSt hP hS hl)
  | getstatic k =>
    obtain ⟨rfl, h_1⟩ := a_ln_inv h
    cases hv : a_gs m.1 k with
    | none => rw [hv] at h_1; cases h_1
    | some v =>
      rw [hv] at h_1
      obtain ⟨rfl, rfl, rfl, rfl, rfl⟩ := a_nx_inv h_1
      obtain ⟨hw, hvv⟩ := a_gsL_ok _ (a_find_mem _ _ _ _ hv)
      have hw2 := hts _ hw
      rcases hvv with hvv | hvv
      · have hvv : v = 1002 := hvv
        subst hvv
        exact va_gets hx hb hF.2.1 hS hown hw2 (fun _ h9 => h9) hd (hk H locs ls hSt hP hS hl)
      · have hvv : v = 1003 := hvv
        subst hvv
        exact va_gets hx hb hF.2.2.2.1 hS hown hw2 (fun _ h9 => h9) hd (hk H locs ls hSt hP hS hl)
  | getfield k =>
    obtain ⟨rfl, h_1⟩ := a_ln_inv h
    cases hv : a_fr m.1 k with
    | none => rw [hv] at h_1; cases h_1
    | some cj =>
      obtain ⟨ci, j⟩ := cj
      rw [hv] at h_1
      obtain ⟨a, r, rfl, h_2⟩ := a_r1_inv h_1
      obtain ⟨hc, h_3⟩ := a_g_inv h_2
      obtain ⟨hlt, hj⟩ := a_fr_lt hv
      obtain ⟨CC, TT, NN, f1, f2, f3, f4, f5, f6, f7, f8, f9, f10⟩ := a_okF_all hlt
      have hcl0 : a_cls a < 7 := by rw [hc]; exact hlt
      have ha := a_cls_lt hcl0
      have he : (a_ws E S G)[a]? = some (e_ad E a, .inr (ci, a_fl E S G a ci)) := by rw [a_ws_at E S G ha, a_cell_obj E S G hcl0, hc]
      have hlink := hts _ (a_frL_ok _ (a_find_mem _ _ _ _ hv))
      dsimp only at hlink
      rw [← f2, ← f3] at hlink
      have hjN : j < NN := by rw [← f4]; exact hj
      have hsame : ∀ x, s.fieldFound? (TT j).1 (TT j).2.1 (TT j).2.2.1 = some x → s.fieldFound? CC (TT j).2.1 (TT j).2.2.1 = some x := fun x hx9 => by rw [← f8 j hjN]; exact hx9
      match ht : (a_fs ci)[j]?, h_3 with
      | some 0, h_4 =>
        obtain ⟨rfl, rfl, rfl, rfl, rfl⟩ := a_nx_inv h_4
        exact va_get hx hb hts f5 hown hK hP a he f1 j hjN hlink hsame (a_fl_at E S G ht) hd (hk H locs ls hSt hP hS hl)
      | some 1, h_5 =>
        obtain ⟨rfl, rfl, rfl, rfl, rfl⟩ := a_nx_inv h_5
        exact va_get hx hb hts f5 hown hK hP a he f1 j hjN hlink hsame (a_fl_at E S G ht) hd (hk H locs ls hSt hP hS hl)
      | some 2, h_6 =>
        obtain ⟨rfl, rfl, rfl, rfl, rfl⟩ := a_nx_inv h_6
        exact va_get hx hb hts f5 hown hK hP a he f1 j hjN hlink hsame (a_fl_at E S G ht) hd (hk H locs ls hSt hP hS hl)
  | putfield k =>
    obtain ⟨rfl, h_1⟩ := a_ln_inv h
    cases hv : a_fr m.1 k with
    | none => rw [hv] at h_1; cases h_1
    | some cj =>
      obtain ⟨ci, j⟩ := cj
      rw [hv] at h_1
      dsimp only at h_1
      obtain ⟨hlt, hj⟩ := a_fr_lt hv
      obtain ⟨CC, TT, NN, f1, f2, f3, f4, f5, ⟨ty, f6⟩, f7, f8, f9, f10⟩ := a_okF_all hlt
      have hlink := hts _ (a_frL_ok _ (a_find_mem _ _ _ _ hv))
      dsimp only at hlink
      rw [← f2, ← f3] at hlink
      have hjN : j < NN := by rw [← f4]; exact hj
      have hsame : ∀ x, s.fieldFound? (TT j).1 (TT j).2.1 (TT j).2.2.1 = some x → s.fieldFound? CC (TT j).2.1 (TT j).2.2.1 = some x := fun x hx9 => by rw [← f8 j hjN]; exact hx9
      match ht : (a_fs ci)[j]?, h_1 with
      | some 0, h_2 =>
        obtain ⟨v, r, rfl, h_3⟩ := a_i1_inv h_2
        obtain ⟨a, r, rfl, h_4⟩ := a_r1_inv h_3
        obtain ⟨hc, h_5⟩ := a_g_inv h_4
        obtain ⟨rfl, rfl, rfl, rfl, rfl⟩ := a_nx_inv h_5
        have hcl0 : a_cls a < 7 := by rw [hc]; exact hlt
        have ha := a_cls_lt hcl0
        have he : (a_ws E S G)[a]? = some (e_ad E a, .inr (ci, a_fl E S G a ci)) := by rw [a_ws_at E S G ha, a_cell_obj E S G hcl0, hc]
        obtain ⟨g1, g2⟩ := f9 j hjN ht
        refine va_put (ty := .int) (v := .int v) hx hb hts f5 ty f6 f7 hown hK hP hD hS a he f1 j hjN hlink hsame g2 g1 rfl rfl (by rw [a_fl_len]; exact hj) hd (fun H1 locs1 hP1 _ hS1 => ?_)
        have e1 : (a_ws E S G).set a (e_ad E a, .inr (ci, (a_fl E S G a ci).set j (.int v))) = a_ws E (a_wr S a (upd (S a) j v)) G := by
          refine a_ws_set E ha (fun z hz => a_wr_ne _ _ hz) (fun _ _ => rfl) rfl ?_
          rw [a_cell_obj E _ G hcl0, hc, a_fl_put E S G ht v]
        rw [e1] at hP1
        exact hk H1 locs1 ls (hSt.wr ha _) hP1 hS1 hl
      | some 1, h_6 =>
        obtain ⟨v, r, rfl, h_7⟩ := a_l1_inv h_6
        obtain ⟨a, r, rfl, h_8⟩ := a_r1_inv h_7
        obtain ⟨hc, h_9⟩ := a_g_inv h_8
        obtain ⟨rfl, rfl, rfl, rfl, rfl⟩ := a_nx_inv h_9
        have hcl0 : a_cls a < 7 := by rw [hc]; exact hlt
        have ha := a_cls_lt hcl0
        have he : (a_ws E S G)[a]? = some (e_ad E a, .inr (ci, a_fl E S G a ci)) := by rw [a_ws_at E S G ha, a_cell_obj E S G hcl0, hc]
        obtain ⟨g1, g2⟩ := f10 j hjN ht
        refine va_put (ty := .long) (v := .long v) hx hb hts f5 ty f6 f7 hown hK hP hD hS a he f1 j hjN hlink hsame g2 g1 rfl rfl (by rw [a_fl_len]; exact hj) hd (fun H1 locs1 hP1 _ hS1 => ?_)
        have e1 : (a_ws E S G).set a (e_ad E a, .inr (ci, (a_fl E S G a ci).set j (.long v))) = a_ws E S (a_wr G a v) := by
          refine a_ws_set E ha (fun _ _ => rfl) (fun z hz => a_wr_ne _ _ hz) rfl ?_
          rw [a_cell_obj E _ _ hcl0, hc, a_fl_putL E S G ht (a_fs_one hlt ht) v]
        rw [e1] at hP1
        exact hk H1 locs1 ls hSt hP1 hS1 hl
  | arraylength =>
    obtain ⟨rfl, h_1⟩ := a_ln_inv h
    obtain ⟨a, r, rfl, h_2⟩ := a_r1_inv h_1
    obtain ⟨hp, h_3⟩ := a_g_inv h_2
    obtain ⟨rfl, rfl, rfl, rfl, rfl⟩ := a_nx_inv h_3
    by_cases h1 : a = 1000
    · subst h1
      obtain ⟨cell, g1, g2, g3, g4, g5, g6, g7⟩ := hF.1.kept hS.2.1
      have e1 : a_len S 1000 = e_L E := by unfold a_len; rw [if_pos rfl, hSt.2, nI_clamp (by have := hDe.2.2; omega)]
      exact W.alen hx hb g1 g2 (by rw [g5, e1]) rfl rfl hd (hk H locs ls hSt hP hS hl)
    · by_cases h2 : a = 1002
      · subst h2
        obtain ⟨cell, g1, g2, g3, g4, g5, g6, g7⟩ := hF.2.2.1.kept hS.2.1
        exact W.alen hx hb g1 g2 g5 rfl rfl hd (hk H locs ls hSt hP hS hl)
      · obtain ⟨h3, h4⟩ := a_row hP hp h1 h2
        exact va_alen hx hb hK hP a 0 h4 (ty := .int) rfl rfl hd (hk H locs ls hSt hP hS hl)
  | iaload =>
    obtain ⟨rfl, h_1⟩ := a_ln_inv h
    obtain ⟨i, r, rfl, h_2⟩ := a_i1_inv h_1
    obtain ⟨a, r, rfl, h_3⟩ := a_r1_inv h_2
    obtain ⟨hin, h_4⟩ := a_g_inv h_3
    obtain ⟨rfl, rfl, rfl, rfl, rfl⟩ := a_nx_inv h_4
    have hv : vp_in i (a_len S a) := vp_in_iff.mpr hin
    by_cases h1 : a = 1000
    · subst h1
      obtain ⟨cell, g1, g2, g3, g4, g5, g6, g7⟩ := hF.1.kept hS.2.1
      have e1 : a_len S 1000 = e_L E := by unfold a_len; rw [if_pos rfl, hSt.2, nI_clamp (by have := hDe.2.2; omega)]
      rw [e1] at hv
      have hlt : i.toNatClampNeg < e_L E := Nat.not_le.mp fun q => hv (Or.inr q)
      have e2 : a_get S 1000 i.toNatClampNeg = e_xs E i.toNatClampNeg := by unfold a_get; rw [if_neg (by decide), hSt.1]
      rw [e2] at hk
      exact W.iald (v := .int (e_xs E i.toNatClampNeg)) hx hb g1 g2 g3 (fun q => hv (q.elim Or.inl (fun z => Or.inr (Nat.le_trans g4 z)))) (g6 _ hlt) rfl rfl hd (hk H locs ls hSt hP hS hl)
    · by_cases h2 : a = 1002
      · subst h2
        obtain ⟨cell, g1, g2, g3, g4, g5, g6, g7⟩ := hF.2.2.1.kept hS.2.1
        have hv : vp_in i 6 := hv
        have hlt : i.toNatClampNeg < 6 := Nat.not_le.mp fun q => hv (Or.inr q)
        exact W.iald (v := .int (a_fact i.toNatClampNeg)) hx hb g1 g2 g3 (fun q => hv (q.elim Or.inl (fun z => Or.inr (Nat.le_trans g4 z)))) (g6 _ hlt) rfl rfl hd (hk H locs ls hSt hP hS hl)
      · obtain ⟨h3, h4⟩ := a_row hP (show 0 < a_len S a by omega) h1 h2
        have e2 : a_get S a i.toNatClampNeg = S a i.toNatClampNeg := by unfold a_get; rw [if_neg h2]
        rw [e2] at hk
        exact va_iald hx hb hK hP a 0 h4 rfl hv hd (hk H locs ls hSt hP hS hl)
  | laload =>
    obtain ⟨rfl, h_1⟩ := a_ln_inv h
    obtain ⟨i, r, rfl, h_2⟩ := a_i1_inv h_1
    obtain ⟨a, r, rfl, h_3⟩ := a_r1_inv h_2
    obtain ⟨⟨ha, hin⟩, h_4⟩ := a_g_inv h_3
    obtain ⟨rfl, rfl, rfl, rfl, rfl⟩ := a_nx_inv h_4
    subst ha
    have hv : vp_in i 4 := vp_in_iff.mpr hin
    have hlt : i.toNatClampNeg < 4 := Nat.not_le.mp fun q => hv (Or.inr q)
    obtain ⟨cell, g1, g2, g3, g4, g5, g6, g7⟩ := hF.2.2.2.2.1.kept hS.2.1
    exact W.lald (v := .long (a_five i.toNatClampNeg)) hx hb g1 g2 g3 (fun q => hv (q.elim Or.inl (fun z => Or.inr (Nat.le_trans g4 z)))) (g6 _ hlt) rfl rfl hd (hk H locs ls hSt hP hS hl)
  | baload =>
    obtain ⟨rfl, h_1⟩ := a_ln_inv h
    obtain ⟨i, r, rfl, h_2⟩ := a_i1_inv h_1
    obtain ⟨a, r, rfl, h_3⟩ := a_r1_inv h_2
    obtain ⟨⟨ha, hin⟩, h_4⟩ := a_g_inv h_3
    obtain ⟨rfl, rfl, rfl, rfl, rfl⟩ := a_nx_inv h_4
    subst ha
    exact va_zald hx hb hK hP 41 1 (by rw [a_ws_at E S G (by decide), a_cell_41]) rfl (vp_in_iff.mpr hin) hd (hk H locs ls hSt hP hS hl)
  | iastore =>
    obtain ⟨rfl, h_1⟩ := a_ln_inv h
    obtain ⟨v, r, rfl, h_2⟩ := a_i1_inv h_1
    obtain ⟨i, r, rfl, h_3⟩ := a_i1_inv h_2
    obtain ⟨a, r, rfl, h_4⟩ := a_r1_inv h_3
    obtain ⟨⟨ha, hin⟩, h_5⟩ := a_g_inv h_4
    obtain ⟨rfl, rfl, rfl, rfl, rfl⟩ := a_nx_inv h_5
    have h0 : 0 < a_len S a := by omega
    have n1 : a ≠ 1000 := by omega
    have n2 : a ≠ 1002 := by omega
    obtain ⟨h3, h4⟩ := a_row hP h0 n1 n2
    refine va_iast hx hb hK hP hD hS a 0 h4 rfl (vp_in_iff.mpr hin) hd (fun H1 locs1 hP1 _ hS1 => ?_)
    have e1 : (a_ws E S G).set a (e_ad E a, .inl (E.2.1, a_len S a, .inl (upd (S a) i.toNatClampNeg v))) = a_ws E (a_wr S a (upd (S a) i.toNatClampNeg v)) G := by
      refine a_ws_set E ha (fun z hz => a_wr_ne _ _ hz) (fun _ _ => rfl) rfl ?_
      obtain ⟨-, q1, q2⟩ := a_len_row h0 n1 n2
      rw [q2, q1, a_wr_same]
    rw [e1] at hP1
    exact hk H1 locs1 ls (hSt.wr ha _) hP1 hS1 hl
  | bastore =>
    obtain ⟨rfl, h_1⟩ := a_ln_inv h
    obtain ⟨v, r, rfl, h_2⟩ := a_i1_inv h_1
    obtain ⟨i, r, rfl, h_3⟩ := a_i1_inv h_2
    obtain ⟨a, r, rfl, h_4⟩ := a_r1_inv h_3
    obtain ⟨⟨ha, hin, hv01⟩, h_5⟩ := a_g_inv h_4
    obtain ⟨rfl, rfl, rfl, rfl, rfl⟩ := a_nx_inv h_5
    subst ha
    refine va_zast hx hb hK hP hD hS 41 1 (by rw [a_ws_at E S G (by decide), a_cell_41]) rfl (vp_in_iff.mpr hin) hd (fun H1 locs1 hP1 _ hS1 => ?_)
    have e0 : vp_nar .boolean v = v := by rcases hv01 with rfl | rfl <;> decide
    rw [e0] at hP1
    have e1 : (a_ws E S G).set 41 (e_ad E 41, .inl (E.2.2.1, 2, .inl (upd (S 41) i.toNatClampNeg v))) = a_ws E (a_wr S 41 (upd (S 41) i.toNatClampNeg v)) G := by
      refine a_ws_set E (by decide) (fun z hz => a_wr_ne _ _ hz) (fun _ _ => rfl) rfl ?_
      rw [a_cell_41, a_wr_same]
    rw [e1] at hP1
    exact hk H1 locs1 ls (hSt.wr (by decide) _) hP1 hS1 hl
  | invokevirtual k =>
    obtain ⟨rfl, h_1⟩ := a_ln_inv h
    exact absurd h_1 (a_inv_not _ _ _ _ _ _)
  | invokestatic k =>
    obtain ⟨rfl, h_1⟩ := a_ln_inv h
    cases hac : a_ac m.1 k with
    | some u =>
      rw [hac] at h_1
      obtain ⟨n, r, rfl, h_2⟩ := a_i1_inv h_1
      obtain ⟨dp, r, rfl, h_3⟩ := a_i1_inv h_2
      obtain ⟨b, r, rfl, h_4⟩ := a_r1_inv h_3
      obtain ⟨sp, r, rfl, h_5⟩ := a_i1_inv h_4
      obtain ⟨a, r, rfl, h_6⟩ := a_r1_inv h_5
      obtain ⟨⟨⟨c1, c2, c3⟩, ⟨c4, c5⟩, c6, c7, c8, c9, rfl, c10, c11⟩, h_7⟩ := a_g_inv h_6
      obtain ⟨rfl, rfl, rfl, rfl, rfl⟩ := a_nx_inv h_7
      have na1 : a ≠ 1000 := by omega
      have na2 : a ≠ 1002 := by omega
      have nb1 : b ≠ 1000 := by omega
      have nb2 : b ≠ 1002 := by omega
      obtain ⟨-, ra⟩ := a_row hP c8 na1 na2
      obtain ⟨-, rb⟩ := a_row hP c9 nb1 nb2
      refine va_copyi hx hb (by rw [hml, hl.2.1]) hown (hts _ (a_acL_ok _ (a_find_mem _ _ _ _ hac))) (hts _ a_acW.1) (hts _ a_acW.2) (hts _ a_inS) hK hP hD hS a b 0 0 ra rb rfl rfl rfl c1 c2 c3 c6 c7 (fun _ _ => rfl) (by omega) (by show 0 + 18 ≤ R.locals; omega) hd (fun H1 locs1 hP1 _ hS1 => ?_)
      have e1 : (a_ws E S G).set b (e_ad E b, .inl (E.2.1, a_len S b, .inl (va_cpy (S a) (S b) sp.toNatClampNeg dp.toNatClampNeg n.toNatClampNeg))) = a_ws E (a_wr S b (va_cpy (S a) (S b) sp.toNatClampNeg dp.toNatClampNeg n.toNatClampNeg)) G := by
        refine a_ws_set E c5 (fun z hz => a_wr_ne _ _ hz) (fun _ _ => rfl) rfl ?_
        obtain ⟨-, q1, q2⟩ := a_len_row c9 nb1 nb2
        rw [q2, q1, a_wr_same]
      rw [e1] at hP1
      exact hk H1 locs1 ls (hSt.wr c5 _) hP1 hS1 hl
    | none =>
      rw [hac] at h_1
      cases hmh : a_mh m.1 k with
      | some t =>
        rw [hmh] at h_1
        obtain ⟨hw, ht3⟩ := a_mhL_ok _ (a_find_mem _ _ _ _ hmh)
        have hw2 := hts _ hw
        dsimp only at h_1 ht3 hw2
        unfold a_mth at h_1
        split at h_1
        · rename_i hfr1
          match t, ht3, h_1, hw2 with
          | 0, _, h_8, hw2 =>
            obtain ⟨x, y, r, rfl, h_9⟩ := a_i2_inv h_8
            split at h_9
            · rename_i hlo1
              obtain ⟨rfl, rfl, rfl, rfl, rfl⟩ := a_nx_inv h_9
              exact va_mmax hx hb (by rw [hml, hl.2.1]) hown hw2 (hts _ a_mh0.1) (hts _ a_in8) (hts _ a_mh0.2) (by omega) (by rw [a_words_tr]; omega) hcl hsl hd (hk H locs ls hSt hP hS hl)
            · cases h_9
          | 1, _, h_10, hw2 =>
            obtain ⟨x, y, r, rfl, h_11⟩ := a_i2_inv h_10
            split at h_11
            · rename_i hlo1
              obtain ⟨rfl, rfl, rfl, rfl, rfl⟩ := a_nx_inv h_11
              exact va_mmin hx hb (by rw [hml, hl.2.1]) hown hw2 (hts _ a_mh1.1) (hts _ a_in8) (hts _ a_mh1.2) (by omega) (by rw [a_words_tr]; omega) hcl hsl hd (hk H locs ls hSt hP hS hl)
            · cases h_11
          | 2, _, h_12, hw2 =>
            obtain ⟨x, r, rfl, h_13⟩ := a_i1_inv h_12
            split at h_13
            · rename_i hlo1
              obtain ⟨rfl, rfl, rfl, rfl, rfl⟩ := a_nx_inv h_13
              exact va_mabs hx hb (by rw [hml, hl.2.1]) hown hw2 (hts _ a_mh2.1) (hts _ a_in8) (hts _ a_mh2.2) (by omega) (by rw [a_words_tr]; omega) hcl hsl hd (hk H locs ls hSt hP hS hl)
            · cases h_13
        · cases h_1
      | none =>
        rw [hmh] at h_1
        exact absurd h_1 (a_inv_not _ _ _ _ _ _)
  | ireturn =>
    obtain ⟨rfl, h_1⟩ := a_ln_inv h
    simp only [a_g] at h_1
    split at h_1
    · split at h_1
      · cases h_1
      · cases h_1
    · cases h_1
  | lreturn =>
    obtain ⟨rfl, h_1⟩ := a_ln_inv h
    simp only [a_g] at h_1
    split at h_1
    · split at h_1
      · cases h_1
      · cases h_1
    · cases h_1
  | areturn =>
    obtain ⟨rfl, h_1⟩ := a_ln_inv h
    simp only [a_g] at h_1
    split at h_1
    · split at h_1
      · cases h_1
      · cases h_1
    · cases h_1
  | return_ =>
    obtain ⟨rfl, h_1⟩ := a_ln_inv h
    simp only [a_g] at h_1
    split at h_1
    · split at h_1
      · cases h_1
      · cases h_1
    · cases h_1
  | _ => cases h
end
end
section
/-- never a return, never a call -/
def a_N (o : Option aO) : Prop := ∀ q, o ≠ some (.inr q)
theorem a_N_none : a_N none := fun _ h => by cases h
theorem a_N_nx {pc : Nat} {L st : List Value} {S : aS} {G : aG} : a_N (a_nx pc L st S G) := fun _ h => by cases h
theorem a_N_ln {len n : Nat} {o : Option aO} (h : a_N o) : a_N (a_ln len n o) := by
  unfold a_ln; split
  · exact h
  · exact a_N_none
theorem a_N_i1 {st : List Value} {k : Int32 → List Value → Option aO} (h : ∀ x r, a_N (k x r)) : a_N (a_i1 st k) := by
  unfold a_i1; split
  · exact h _ _
  · exact a_N_none
theorem a_N_r1 {st : List Value} {k : Nat → List Value → Option aO} (h : ∀ x r, a_N (k x r)) : a_N (a_r1 st k) := by
  unfold a_r1; split
  · exact h _ _
  · exact a_N_none
theorem a_N_l1 {st : List Value} {k : Int64 → List Value → Option aO} (h : ∀ x r, a_N (k x r)) : a_N (a_l1 st k) := by
  unfold a_l1; split
  · exact h _ _
  · exact a_N_none
theorem a_N_i2 {st : List Value} {k : Int32 → Int32 → List Value → Option aO} (h : ∀ x y r, a_N (k x y r)) : a_N (a_i2 st k) := a_N_i1 fun _ _ => a_N_i1 fun _ _ => h _ _ _
theorem a_N_l2 {st : List Value} {k : Int64 → Int64 → List Value → Option aO} (h : ∀ x y r, a_N (k x y r)) : a_N (a_l2 st k) := a_N_l1 fun _ _ => a_N_l1 fun _ _ => h _ _ _
theorem a_N_g {c : Prop} {dc : Decidable c} {o : Option aO} (h : a_N o) : a_N (@a_g c dc o) := by
  unfold a_g; split
  · exact h
  · exact a_N_none
theorem a_N_jp {pc : Nat} {off : Int} {k : Nat → Option aO} (h : ∀ t, a_N (k t)) : a_N (a_jp pc off k) := by
  unfold a_jp; split
  · exact h _
  · exact a_N_none
theorem a_N_st {L : List Value} {i : Nat} {v : Value} {k : List Value → Option aO} (h : ∀ L, a_N (k L)) : a_N (a_st L i v k) := by
  unfold a_st; split
  · exact h _
  · exact a_N_none
theorem a_N_st2 {L : List Value} {i : Nat} {v : Value} {k : List Value → Option aO} (h : ∀ L, a_N (k L)) : a_N (a_st2 L i v k) := by
  unfold a_st2; split
  · exact h _
  · exact a_N_none
theorem a_N_mth {m : aM} {t pc : Nat} {L st : List Value} {S : aS} {G : aG} : a_N (a_mth m t pc L st S G) := by
  unfold a_mth
  repeat' first
    | exact a_N_nx
    | exact a_N_none
    | refine a_N_i2 (fun _ _ _ => ?_)
    | refine a_N_i1 (fun _ _ => ?_)
    | split
/-- only the calls and the returns leave the frame -/
def a_lv : ClassFile.Instr → Bool
  | .invokevirtual _ | .invokestatic _ | .ireturn | .lreturn | .areturn | .return_ => true
  | _ => false
set_option maxHeartbeats 4000000 in
theorem a_N_ins {m : aM} {pc : Nat} {L st : List Value} {S : aS} {G : aG} {i : ClassFile.Instr} {len : Nat} (hi : a_lv i = false) : a_N (a_ins m pc L st S G i len) := by
  cases i <;> first
    | (cases hi; done)
    | exact a_N_none
    | (unfold a_ins; dsimp only
       repeat' first
         | exact a_N_nx
         | exact a_N_none
         | refine a_N_ln ?_
         | refine a_N_i2 (fun _ _ _ => ?_)
         | refine a_N_l2 (fun _ _ _ => ?_)
         | refine a_N_i1 (fun _ _ => ?_)
         | refine a_N_r1 (fun _ _ => ?_)
         | refine a_N_l1 (fun _ _ => ?_)
         | refine a_N_g ?_
         | refine a_N_jp (fun _ => ?_)
         | refine a_N_st (fun _ => ?_)
         | refine a_N_st2 (fun _ => ?_)
         | split)
theorem a_inv_nret {m : aM} {k : Nat} {kinds : List Nat} {x : Nat} {st : List Value} {v : Option Value} : ¬ a_inv m k kinds x st = some (.inr (.inl v)) := by
  intro h
  unfold a_inv at h
  split at h
  · split at h
    · split at h
      · split at h
        · split at h
          · obtain ⟨-, h⟩ := a_g_inv h; cases h
          · cases h
          · cases h
        · cases h
      · cases h
    · cases h
  · cases h
theorem a_ins_ret {m : aM} {pc : Nat} {L st : List Value} {S : aS} {G : aG} {i : ClassFile.Instr} {len : Nat} {v : Option Value} (hd : decode m.2.2.1 pc = .ok (i, len)) (h : a_ins m pc L st S G i len = some (.inr (.inl v))) : st = v.toList ∧ a_rt m pc v := by
  by_cases hi : a_lv i = false
  · exact absurd h (a_N_ins hi _)
  · cases i with
    | ireturn =>
      obtain ⟨rfl, h1⟩ := a_ln_inv h
      split at h1
      · obtain ⟨hc, h2⟩ := a_g_inv h1
        cases h2
        exact ⟨rfl, hc, hd⟩
      · cases h1
    | lreturn =>
      obtain ⟨rfl, h1⟩ := a_ln_inv h
      split at h1
      · obtain ⟨hc, h2⟩ := a_g_inv h1
        cases h2
        exact ⟨rfl, hc, hd⟩
      · cases h1
    | areturn =>
      obtain ⟨rfl, h1⟩ := a_ln_inv h
      split at h1
      · obtain ⟨hc, h2⟩ := a_g_inv h1
        cases h2
        exact ⟨rfl, hc, hd⟩
      · cases h1
    | return_ =>
      obtain ⟨rfl, h1⟩ := a_ln_inv h
      split at h1
      · obtain ⟨hc, h2⟩ := a_g_inv h1
        cases h2
        exact ⟨rfl, hc, hd⟩
      · cases h1
    | invokevirtual k =>
      obtain ⟨rfl, h1⟩ := a_ln_inv h
      exact absurd h1 a_inv_nret
    | invokestatic k =>
      obtain ⟨rfl, h1⟩ := a_ln_inv h
      split at h1
      · exfalso
        revert h1
        refine (show a_N _ from ?_) _
        repeat' first
          | exact a_N_nx
          | refine a_N_i1 (fun _ _ => ?_)
          | refine a_N_r1 (fun _ _ => ?_)
          | refine a_N_g ?_
      · split at h1
        · exact absurd h1 (a_N_mth _)
        · exact absurd h1 a_inv_nret
    | _ => exact absurd rfl hi
theorem a_ins_call {m : aM} {pc : Nat} {L st : List Value} {S : aS} {G : aG} {i : ClassFile.Instr} {len : Nat} {m' : aM} {as r : List Value} (h : a_ins m pc L st S G i len = some (.inr (.inr (m', as, r)))) : (∃ k, i = .invokevirtual k ∧ len = 3 ∧ a_inv m k [1] 1 st = some (.inr (.inr (m', as, r)))) ∨ (∃ k, i = .invokestatic k ∧ len = 3 ∧ a_inv m k [0, 2] 0 st = some (.inr (.inr (m', as, r)))) := by
  by_cases hi : a_lv i = false
  · exact absurd h (a_N_ins hi _)
  · cases i with
    | ireturn =>
      obtain ⟨rfl, h1⟩ := a_ln_inv h
      split at h1
      · obtain ⟨hc, h2⟩ := a_g_inv h1
        cases h2
      · cases h1
    | lreturn =>
      obtain ⟨rfl, h1⟩ := a_ln_inv h
      split at h1
      · obtain ⟨hc, h2⟩ := a_g_inv h1
        cases h2
      · cases h1
    | areturn =>
      obtain ⟨rfl, h1⟩ := a_ln_inv h
      split at h1
      · obtain ⟨hc, h2⟩ := a_g_inv h1
        cases h2
      · cases h1
    | return_ =>
      obtain ⟨rfl, h1⟩ := a_ln_inv h
      split at h1
      · obtain ⟨hc, h2⟩ := a_g_inv h1
        cases h2
      · cases h1
    | invokevirtual k =>
      obtain ⟨e, h1⟩ := a_ln_inv h
      exact Or.inl ⟨k, rfl, e, h1⟩
    | invokestatic k =>
      obtain ⟨e, h1⟩ := a_ln_inv h
      split at h1
      · exfalso
        revert h1
        refine (show a_N _ from ?_) _
        repeat' first
          | exact a_N_nx
          | refine a_N_i1 (fun _ _ => ?_)
          | refine a_N_r1 (fun _ _ => ?_)
          | refine a_N_g ?_
      · split at h1
        · exact absurd h1 (a_N_mth _)
        · exact Or.inr ⟨k, rfl, e, h1⟩
    | _ => exact absurd rfl hi
/-- the words of every method: its code, and all that the tables say -/
def a_wm (m : aM) : List Cond := .code m.2.1 m.2.2.1 m.2.2.2.1 m.2.2.2.2.1 :: a_T0
def a_rm (m : aM) : Room := { frames := m.2.2.2.2.2.1, cells := 0, slots := 0, locals := m.2.2.2.2.2.2 }
/-- a contract's start and end, in the abstract machine's words -/
def a_Bw (E : aE) (S : aS) (G : aG) (U : State) : Prop := a_St E S ∧ va_P E.1 vwCl (a_ws E S G) U.heap ∧ va_K E.1 vwCl (e_tys E) U ∧ a_For E U U.heap
def a_Qc (E : aE) (m : aM) (Q : aQ) : Array Value → State → Outcome → State → Prop := fun _ st oc t =>
  (∃ (v : Option Value) (S' : aS) (G' : aG) (pc : Nat), oc = .returned (v.map (a_tr E)) ∧ Q v S' G' ∧ a_rt m pc v ∧ a_St E S' ∧ va_P E.1 vwCl (a_ws E S' G') t.heap) ∧ va_F (e_A E) st t
def a_Snd (E : aE) (l : Launch) (n : Nat) : Prop := ∀ (m : aM) (pc : Nat) (L st : List Value) (S : aS) (G : aG) (Q : aQ), aT n m pc L st S G Q → ∀ (p : Program) (e : Env) (R : Room) (s : State) (mid : MethodId) (args : Array Value) (below : List Frame) (meth : Method) (c : Code) (cells slots : Nat) (Qw : State → Prop), a_Cx E m R p s mid args meth c → cells ≤ R.cells → slots ≤ R.slots → a_Rt E l m p e R s mid args below meth c cells slots Qw Q → a_Kt E l m p e R s mid args below meth c cells slots Qw pc L st S G
theorem a_good (m : aM) (h : a_okM m) : GoodIn a_T0 (a_wm m) := by
  have hg : ∀ w ∈ a_T0, w ∈ a_T0 ∧ ((w.onTables && w.keeps) = true ∨ ∃ ty, w = .arrayClass ty) := fun w hw => ⟨hw, good_of_word (List.mem_filter.mp hw).2⟩
  intro w hw
  rcases List.mem_cons.mp hw with rfl | hw
  · exact hg _ h.1
  · exact hg w hw
set_option maxHeartbeats 4000000 in
theorem a_met {E : aE} {l : Launch} {n : Nat} (hn : a_Snd E l n) (m : aM) (hm : a_okM m) (as : List Value) (hlen : (a_ex as).length ≤ m.2.2.2.1) (S : aS) (G : aG) (Q : aQ) (h : aT n m 0 (a_ent m as) [] S G Q) : Met l m.2.1 (a_wm m) (a_rm m) (va_Pc (as.map (a_tr E)) (a_Bw E S G)) (a_Qc E m Q) 0 0 (e_A E) := by
  refine Met.ofW (cc := m.2.2.1) (maxL := m.2.2.2.1) (ret := m.2.2.2.2.1) hm.2.2.1 rfl ?_
  intro p e s mid args below meth c s₁ B hml hv
  obtain ⟨rfl, hSt, hP, hK, hF⟩ := hv
  have hts := atoms_spec (ws := a_wm m) B.pre
  have hown : s.vm.findClass m.2.1.cls = some mid.cls := findClass_of_methodNamed B.named
  rw [hm.2.1] at hown
  have C : a_Cx E m (headSpec (a_wm m) (a_rm m)).room p s mid (as.map (a_tr E)).toArray meth c := ⟨B.exec, B.bytes, hml, B.returns, B.notSynchronized, hown, fun w hw => hts w (List.mem_cons_of_mem _ hw), hK, hF, Nat.le_refl _, Nat.le_refl _⟩
  rw [lg_entry_eq]
  have hlk := B.notSynchronized
  refine hn m 0 (a_ent m as) [] S G Q h p e _ s mid _ below meth c 0 0 _ C (Nat.le_refl _) (Nat.le_refl _) ?_ s.heap [] _ hSt hP va_S.rf (a_loc_entry E m as hlen)
  intro v S' G' H' locs' ls' pc' hq hSt' hP' hS' hrt
  have hend : ∀ t : State, t.heap = H' → s.WarmedH t.vm → a_Qc E m Q (as.map (a_tr E)).toArray s (.returned (v.map (a_tr E))) t := fun t ht _ => ⟨⟨v, S', G', pc', rfl, hq, hrt, hSt', by rw [ht]; exact hP'⟩, hS'.F ht⟩
  match v, hrt, hend with
  | some (.int x), hrt, hend =>
    obtain ⟨ho, hdg⟩ := hrt
    unfold a_okr at ho
    cases hr : m.2.2.2.2.1 with
    | none => rw [hr] at ho; cases ho
    | some ty =>
      rw [hr] at ho
      cases ty with
      | int => exact W.iret B.exec B.bytes (by rw [B.returns, hr]) hend hS'.2.2 hdg hlk
      | boolean =>
        have ho : x = 0 ∨ x = 1 := by simpa using ho
        exact W.zret (ty := .boolean) B.exec B.bytes (by rw [B.returns, hr]) (by rcases ho with rfl | rfl <;> decide) hend hS'.2.2 hdg hlk
      | _ => cases ho
  | some (.long x), hrt, hend =>
    obtain ⟨ho, hdg⟩ := hrt
    unfold a_okr at ho
    cases hr : m.2.2.2.2.1 with
    | none => rw [hr] at ho; cases ho
    | some ty =>
      rw [hr] at ho
      cases ty with
      | long => exact W.lret B.exec B.bytes (by rw [B.returns, hr]) hend hS'.2.2 hdg hlk
      | _ => cases ho
  | some (.ref x), hrt, hend =>
    obtain ⟨ho, hdg⟩ := hrt
    unfold a_okr at ho
    cases hr : m.2.2.2.2.1 with
    | none => rw [hr] at ho; cases ho
    | some ty =>
      rw [hr] at ho
      cases ty with
      | object nm => exact W.aret B.exec B.bytes (by rw [B.returns, hr]) (Or.inl ⟨nm, rfl⟩) (Or.inr ⟨_, rfl⟩) hend hS'.2.2 hdg hlk
      | _ => cases ho
  | none, hrt, hend =>
    obtain ⟨ho, hdg⟩ := hrt
    exact W.vret B.exec B.bytes (by rw [B.returns, ho]) hend hS'.2.2 hdg hlk
theorem a_take_inv : ∀ (n : Nat) (acc st as r : List Value), a_take n acc st = some (as, r) → ∃ xs, xs.length = n ∧ as = xs ++ acc ∧ st = xs.reverse ++ r
  | 0, acc, st, as, r, h => by
    cases h
    exact ⟨[], rfl, rfl, rfl⟩
  | n + 1, acc, [], as, r, h => by cases h
  | n + 1, acc, v :: st, as, r, h => by
    obtain ⟨xs, h1, h2, h3⟩ := a_take_inv n (v :: acc) st as r h
    exact ⟨xs ++ [v], by simp [h1], by simp [h2], by simp [h3]⟩
theorem a_call {p : Program} {l : Launch} {e : Env} {R : Room} {s : State} {m : MethodId} {args : Array Value} {below : List Frame} {meth : Method} {c : Code} {H : Heap} {locs : List Loc} {cells slots : Nat} {Q : State → Prop} {A : Nat → Prop} {H0 : Heap} {pc : Nat} {ls : Array Slot} {st0 rest : List Value} {Qa : State → Outcome → State → Prop}
    (hr : va_Run p l e R s m args below meth c H locs cells slots 0 0 (F0 m pc ls st0) rest Qa A) (hS : va_S A H0 H locs) (hF : ∀ st₀ o t, Qa st₀ o t → va_F A st₀ t)
    (kk : ∀ (v : Option Value) (st₀ t : State) (H1 : Heap) (locs1 : List Loc), t.heap = H1 → Qa st₀ (.returned v) t → va_S A H0 H1 locs1 → W p l e R s m args below meth c H1 locs1 cells slots Q (F0 m (pc + 3) ls (v.toList ++ rest))) : W p l e R s m args below meth c H locs cells slots Q (F0 m pc ls st0) := by
  intro T hT X
  obtain ⟨v, st₀, t, T', L, h0, X', hL, e1, e2, hq, st⟩ := hr T hT X
  obtain ⟨hz, hk⟩ := hF _ _ _ hq
  rw [h0] at hz hk
  obtain ⟨t2, a1, b1⟩ := kk v st₀ t T'.heap (locs ++ L) e1.symm hq
    ⟨Nat.le_trans hS.1 (by rw [e1]; exact hz), fun q h1 h2 => by rw [e1, hk q (Nat.lt_of_lt_of_le h1 hS.1) h2]; exact hS.2.1 q h1 h2, fun q hq => by
      rcases List.mem_append.mp hq with h | h
      · exact hS.2.2 q h
      · exact hL q h⟩ T' rfl X'
  exact ⟨t2, st t2 a1, b1⟩
theorem a_blind (E : aE) (S : aS) (G : aG) (av : List Value) : FrameBlind (va_Pc av (a_Bw E S G)) := by
  intro a U g mk q
  obtain ⟨q0, q1, q2, q3, q4⟩ := q
  exact ⟨q0, q1, q2, va_K.moved (u := U) (U := U.calling g mk a) (Vm.Alike.refl U.vm) q3, a_For.same (s := U) (U := U.calling g mk a) rfl q4⟩
/-- how a call's own record comes apart -/
theorem a_inv_inv {m : aM} {k : Nat} {kinds : List Nat} {x : Nat} {st : List Value} {m' : aM} {as r : List Value} (h : a_inv m k kinds x st = some (.inr (.inr (m', as, r)))) : ∃ kd n, a_cr m.1 k = some (kd, n, m') ∧ kd ∈ kinds ∧ m'.2.2.2.2.2.1 + 1 ≤ m.2.2.2.2.2.1 ∧ 8 + (m'.2.2.2.1 + 11) + m'.2.2.2.2.2.2 ≤ m.2.2.2.2.2.2 ∧ as.length = n + x ∧ st = as.reverse ++ r ∧ a_words r ≤ 8 ∧ (a_ex as).length ≤ m'.2.2.2.1 ∧ (kd = 1 → ∃ a as', as = .ref a :: as' ∧ a_cls a = m'.1) := by
  unfold a_inv at h
  cases hcr : a_cr m.1 k with
  | none => rw [hcr] at h; cases h
  | some q =>
    obtain ⟨kd, n, m2⟩ := q
    rw [hcr] at h
    dsimp only at h
    split at h
    · rename_i hg
      cases htk : a_take (n + x) [] st with
      | none => rw [htk] at h; cases h
      | some q2 =>
        obtain ⟨as2, r2⟩ := q2
        rw [htk] at h
        dsimp only at h
        obtain ⟨xs, h1, h2, h3⟩ := a_take_inv _ _ _ _ _ htk
        rw [List.append_nil] at h2
        subst h2
        split at h
        · rename_i hw
          split at h
          · rename_i a as'
            obtain ⟨hc, h⟩ := a_g_inv h
            cases h
            exact ⟨1, n, rfl, hg.1, hg.2.1, hg.2.2, h1, h3, hw.1, hw.2, fun _ => ⟨a, as', rfl, hc⟩⟩
          · cases h
          · rename_i h7 h8
            cases h
            refine ⟨kd, n, rfl, hg.1, hg.2.1, hg.2.2, h1, h3, hw.1, hw.2, fun e => ?_⟩
            first | exact (h7 e).elim | exact (h8 e).elim | exact (h7 _ e).elim | exact (h8 _ e).elim
        · cases h
    · cases h
set_option maxHeartbeats 4000000 in
theorem a_sound (E : aE) (l : Launch) (hDe : a_De E) : ∀ n, a_Snd E l n
  | 0 => fun _ _ _ _ _ _ _ h => h.elim
  | n + 1 => by
    have ih := a_sound E l hDe n
    intro m pc L st S G Q h p e R s mid args below meth c cells slots Qw C hcl hsl hRt
    rw [aT_eq] at h
    unfold a_step at h
    cases hd : decode m.2.2.1 pc with
    | error x => rw [hd] at h; exact h.elim
    | ok q =>
      obtain ⟨i, len⟩ := q
      rw [hd] at h
      dsimp only at h
      cases ho : a_ins m pc L st S G i len with
      | none => rw [ho] at h; exact h.elim
      | some o =>
        rw [ho] at h
        match o, ho, h with
        | .inl (pc', L', st', S', G'), ho, h =>
          exact a_ins_next hDe C hcl hsl hd ho (ih m pc' L' st' S' G' Q h p e R s mid args below meth c cells slots Qw C hcl hsl hRt)
        | .inr (.inl v), ho, h =>
          intro H locs ls hSt hP hS hl
          obtain ⟨hst, hrt⟩ := a_ins_ret hd ho
          rw [hst]
          exact hRt v S G H locs ls pc h hSt hP hS hrt
        | .inr (.inr (m', as, st')), ho, h =>
          intro H locs ls hSt hP hS hl
          obtain ⟨hx, hb, hml, hr, hlk, hown, hts, hK, hF, hfr, hlo⟩ := id C
          have kk : ∀ (v : Option Value) (st₀ t : State) (H1 : Heap) (locs1 : List Loc), t.heap = H1 → a_Qc E m' (fun r S' G' => aT n m (pc + 3) L (a_push r st') S' G' Q) (as.map (a_tr E)).toArray st₀ (.returned v) t → va_S (e_A E) s.heap H1 locs1 → W p l e R s mid args below meth c H1 locs1 cells slots Qw (F0 mid (pc + 3) ls (v.toList ++ st'.map (a_tr E))) := by
            intro v st₀ t H1 locs1 ht hq hS1
            obtain ⟨⟨v2, S', G', pcx, e1, h1, -, h2, h3⟩, -⟩ := hq
            cases e1
            rw [ht] at h3
            have hgo := ih m (pc + 3) L (a_push v2 st') S' G' Q h1 p e R s mid args below meth c cells slots Qw C hcl hsl hRt H1 locs1 ls h2 h3 hS1 hl
            cases v2 with
            | none => exact hgo
            | some w => exact hgo
          have hpre : ∀ U : State, U.heap = H → s.WarmedH U.vm → va_Pc (as.map (a_tr E)) (a_Bw E S G) (as.map (a_tr E)).toArray U := fun U hU hW => ⟨rfl, hSt, by rw [hU]; exact hP, va_K.moved hW.alike hK, by rw [hU]; exact (hF.kept hS.2.1).warm hW⟩
          have hFF : ∀ st₀ o t, a_Qc E m' (fun r S' G' => aT n m (pc + 3) L (a_push r st') S' G' Q) (as.map (a_tr E)).toArray st₀ o t → va_F (e_A E) st₀ t := fun _ _ _ hq => hq.2
          have hRo : ∀ {m' : aM}, m'.2.2.2.2.2.1 + 1 ≤ m.2.2.2.2.2.1 → 8 + (m'.2.2.2.1 + 11) + m'.2.2.2.2.2.2 ≤ m.2.2.2.2.2.2 → (a_rm m').frames + 1 ≤ R.frames ∧ 8 + (m'.2.2.2.1 + 11) + (a_rm m').locals ≤ R.locals := fun h1 h2 => ⟨Nat.le_trans h1 hfr, Nat.le_trans h2 hlo⟩
          rcases a_ins_call ho with ⟨k, rfl, rfl, hin⟩ | ⟨k, rfl, rfl, hin⟩
          · obtain ⟨kd, nn, g1, g2, g3, g4, g5, g6, g7, g8, g9⟩ := a_inv_inv hin
            have hkd : kd = 1 := by simpa using g2
            obtain ⟨a, as', ea, eb⟩ := g9 hkd
            subst ea
            obtain ⟨c1, c2, -, c4, -⟩ := a_crL_ok _ (a_find_mem _ _ _ _ g1)
            obtain ⟨d1, d2, d3⟩ := c4 hkd
            have hcla : a_cls a < 7 := by rw [eb]; exact d3
            have ha := a_cls_lt hcla
            obtain ⟨CC, TT, NN, f1, f2, -⟩ := a_okF_all d3
            have hM := a_met ih m' c1 (.ref a :: as') g8 S G _ h
            have hCC : CC = m'.2.1.cls := by rw [f2, c1.2.1]
            have hst : st.map (a_tr E) = (as'.map (a_tr E)).reverse ++ .ref (e_ad E a) :: st'.map (a_tr E) := by
              rw [g6]
              simp [a_tr]
            rw [hst]
            refine a_call (va_runV (C := m'.2.1.cls) (n := nn) (bytes := m'.2.2.1) (maxL := m'.2.2.2.1) (ret := m'.2.2.2.2.1) (As := as'.map (a_tr E)) (rest := st'.map (a_tr E)) (b := e_ad E a) ⟨hx, hb, hml, hown, hts⟩ hM ⟨callB_of nn hts (a_good m' c1) rfl rfl rfl (hts _ c1.2.2.2.2) (hts _ d1) ⟨c1.2.2.2.1.1, c1.2.2.2.1.2, c2⟩ (hRo g3 g4), hts _ d2.1, hts _ d2.2⟩ ⟨a_blind E S G _, ?_, hpre⟩ rfl ?_ hl.2.1 rfl (by show 2 * 0 + _ ≤ 8; rw [a_words_tr]; omega) hd ⟨by omega, by omega⟩) hS hFF kk
            · rw [← hCC]
              exact va_recv hK hP f1 (q0 := a) (by rw [a_ws_at E S G ha, a_cell_obj E S G hcla, eb])
            · simpa using g5
          · obtain ⟨kd, nn, g1, g2, g3, g4, g5, g6, g7, g8, g9⟩ := a_inv_inv hin
            obtain ⟨c1, c2, c3, -, c5⟩ := a_crL_ok _ (a_find_mem _ _ _ _ g1)
            have hM := a_met ih m' c1 as g8 S G _ h
            have hst : st.map (a_tr E) = (as.map (a_tr E)).reverse ++ st'.map (a_tr E) := by
              rw [g6]
              simp
            rw [hst]
            have hkd : kd = 0 ∨ kd = 2 := by simpa using g2
            rcases hkd with hkd | hkd
            · obtain ⟨d1, d2⟩ := c3 hkd
              exact a_call (va_runS (n := nn) (bytes := m'.2.2.1) (maxL := m'.2.2.2.1) (ret := m'.2.2.2.2.1) (As := as.map (a_tr E)) (rest := st'.map (a_tr E)) ⟨hx, hb, hml, hown, hts⟩ hM ⟨callB_of nn hts (a_good m' c1) rfl rfl rfl (hts _ c1.2.2.2.2) (hts _ d1) ⟨c1.2.2.2.1.1, c1.2.2.2.1.2, c2⟩ (hRo g3 g4), hts _ d2⟩ ⟨a_blind E S G _, hpre⟩ rfl (by simpa using g5) hl.2.1 rfl (by show 2 * 0 + _ ≤ 8; rw [a_words_tr]; omega) hd ⟨by omega, by omega⟩) hS hFF kk
            · obtain ⟨⟨d1, d2, d3⟩, d4⟩ := c5 hkd
              dsimp only at d1 d2 d3
              have hown3 : s.vm.findClass RX3 = some mid.cls := by rw [d1] at hown; exact hown
              subst d2
              subst d3
              exact a_call (va_runSN (n := nn) (own := RX3) (host := RX5) (index := 77) (bytes := mX5_isFigure.2.2.1) (maxL := mX5_isFigure.2.2.2.1) (ret := mX5_isFigure.2.2.2.2.1) (As := as.map (a_tr E)) (rest := st'.map (a_tr E)) ⟨hx, hb, hml, hown3, hts⟩ hM ⟨va_cnB nn hts (a_good _ c1) rfl rfl rfl hF.2.2.2.2.2 (hts _ c1.2.2.2.2) ⟨c1.2.2.2.1.1, c1.2.2.2.1.2, c2⟩ (hRo g3 g4), hts _ d4, trivial⟩ ⟨a_blind E S G _, hpre⟩ rfl (by simpa using g5) hl.2.1 rfl (by show 2 * 0 + _ ≤ 8; rw [a_words_tr]; omega) hd ⟨by omega, by omega⟩) hS hFF kk
end
