/-! began from kit/laws/SKELETON.whole.lean.txt PART A and claim/NAMES.whole.lean.txt, cut by wip/whole/gen/gen.py -/
-- ===== PART A: goes FIRST, ahead of the names: the tables' words, and 'selects' of the private methods out of them =====
/-- a private method of a class that the tables say can be made, by its rows of tables_1 -/
def lw_okq (q : MethodName × Nat) : Prop := (q.1.cls ≠ "java/lang/invoke/MethodHandle" ∧ q.1.cls ≠ "java/lang/invoke/VarHandle") ∧ Cond.instantiable q.1.cls q.2 ∈ tables_1 ∧ Cond.privateMethod q.1 ∈ tables_1 ∧ Cond.instanceMethod q.1 ∈ tables_1
theorem lw_p0 : lw_okq (⟨"OneSumSquares", "blame", "(I)I"⟩, 10) := ⟨⟨by decide +kernel, by decide +kernel⟩, List.mem_of_getElem? (i := 10) (by decide +kernel), List.mem_of_getElem? (i := 146) (by decide +kernel), List.mem_of_getElem? (i := 147) (by decide +kernel)⟩
theorem lw_p1 : lw_okq (⟨"OneSumSquares", "keepDraft", "()I"⟩, 10) := ⟨⟨by decide +kernel, by decide +kernel⟩, List.mem_of_getElem? (i := 10) (by decide +kernel), List.mem_of_getElem? (i := 192) (by decide +kernel), List.mem_of_getElem? (i := 193) (by decide +kernel)⟩
theorem lw_p2 : lw_okq (⟨"OneSumSquares", "known", "(I)LOneSumSquares$Square;"⟩, 10) := ⟨⟨by decide +kernel, by decide +kernel⟩, List.mem_of_getElem? (i := 10) (by decide +kernel), List.mem_of_getElem? (i := 211) (by decide +kernel), List.mem_of_getElem? (i := 212) (by decide +kernel)⟩
theorem lw_p3 : lw_okq (⟨"OneSumSquares", "squaresThere", "()I"⟩, 10) := ⟨⟨by decide +kernel, by decide +kernel⟩, List.mem_of_getElem? (i := 10) (by decide +kernel), List.mem_of_getElem? (i := 523) (by decide +kernel), List.mem_of_getElem? (i := 524) (by decide +kernel)⟩
theorem lw_p4 : lw_okq (⟨"OneSumSquares", "sheetsThere", "()I"⟩, 10) := ⟨⟨by decide +kernel, by decide +kernel⟩, List.mem_of_getElem? (i := 10) (by decide +kernel), List.mem_of_getElem? (i := 527) (by decide +kernel), List.mem_of_getElem? (i := 528) (by decide +kernel)⟩
theorem lw_p5 : lw_okq (⟨"OneSumSquaresModel", "meets", "(I)I"⟩, 21) := ⟨⟨by decide +kernel, by decide +kernel⟩, List.mem_of_getElem? (i := 543) (by decide +kernel), List.mem_of_getElem? (i := 627) (by decide +kernel), List.mem_of_getElem? (i := 628) (by decide +kernel)⟩
theorem lw_p6 : lw_okq (⟨"OneSumSquaresModel", "lay", "(I)V"⟩, 21) := ⟨⟨by decide +kernel, by decide +kernel⟩, List.mem_of_getElem? (i := 543) (by decide +kernel), List.mem_of_getElem? (i := 648) (by decide +kernel), List.mem_of_getElem? (i := 649) (by decide +kernel)⟩
theorem lw_p7 : lw_okq (⟨"OneSumSquaresModel", "comes", "()I"⟩, 21) := ⟨⟨by decide +kernel, by decide +kernel⟩, List.mem_of_getElem? (i := 543) (by decide +kernel), List.mem_of_getElem? (i := 652) (by decide +kernel), List.mem_of_getElem? (i := 653) (by decide +kernel)⟩
theorem lw_p8 : lw_okq (⟨"OneSumSquaresModel", "isSquare", "(I)Z"⟩, 21) := ⟨⟨by decide +kernel, by decide +kernel⟩, List.mem_of_getElem? (i := 543) (by decide +kernel), List.mem_of_getElem? (i := 662) (by decide +kernel), List.mem_of_getElem? (i := 663) (by decide +kernel)⟩
theorem lw_p9 : lw_okq (⟨"OneSumSquaresModel", "of", "(III)I"⟩, 21) := ⟨⟨by decide +kernel, by decide +kernel⟩, List.mem_of_getElem? (i := 543) (by decide +kernel), List.mem_of_getElem? (i := 671) (by decide +kernel), List.mem_of_getElem? (i := 672) (by decide +kernel)⟩
theorem lw_p10 : lw_okq (⟨"OneSumSquaresModel", "lineOf", "(III)J"⟩, 21) := ⟨⟨by decide +kernel, by decide +kernel⟩, List.mem_of_getElem? (i := 543) (by decide +kernel), List.mem_of_getElem? (i := 684) (by decide +kernel), List.mem_of_getElem? (i := 685) (by decide +kernel)⟩
theorem lw_p11 : lw_okq (⟨"OneSumSquaresModel", "isPlain", "(I)Z"⟩, 21) := ⟨⟨by decide +kernel, by decide +kernel⟩, List.mem_of_getElem? (i := 543) (by decide +kernel), List.mem_of_getElem? (i := 695) (by decide +kernel), List.mem_of_getElem? (i := 696) (by decide +kernel)⟩
theorem lw_p12 : lw_okq (⟨"OneSumSquaresModel", "oddOf", "(III)I"⟩, 21) := ⟨⟨by decide +kernel, by decide +kernel⟩, List.mem_of_getElem? (i := 543) (by decide +kernel), List.mem_of_getElem? (i := 699) (by decide +kernel), List.mem_of_getElem? (i := 700) (by decide +kernel)⟩
theorem lw_p13 : lw_okq (⟨"OneSumSquaresModel", "isPaired", "(I)Z"⟩, 21) := ⟨⟨by decide +kernel, by decide +kernel⟩, List.mem_of_getElem? (i := 543) (by decide +kernel), List.mem_of_getElem? (i := 703) (by decide +kernel), List.mem_of_getElem? (i := 704) (by decide +kernel)⟩
theorem lw_p14 : lw_okq (⟨"OneSumSquaresModel", "layTurn", "(II)V"⟩, 21) := ⟨⟨by decide +kernel, by decide +kernel⟩, List.mem_of_getElem? (i := 543) (by decide +kernel), List.mem_of_getElem? (i := 716) (by decide +kernel), List.mem_of_getElem? (i := 717) (by decide +kernel)⟩
theorem lw_p15 : lw_okq (⟨"OneSumSquaresModel", "formOf", "(I)I"⟩, 21) := ⟨⟨by decide +kernel, by decide +kernel⟩, List.mem_of_getElem? (i := 543) (by decide +kernel), List.mem_of_getElem? (i := 727) (by decide +kernel), List.mem_of_getElem? (i := 728) (by decide +kernel)⟩
def lw_privs_1 : List (MethodName × Nat) := [(⟨"OneSumSquares", "blame", "(I)I"⟩, 10), (⟨"OneSumSquares", "keepDraft", "()I"⟩, 10), (⟨"OneSumSquares", "known", "(I)LOneSumSquares$Square;"⟩, 10), (⟨"OneSumSquares", "squaresThere", "()I"⟩, 10), (⟨"OneSumSquares", "sheetsThere", "()I"⟩, 10), (⟨"OneSumSquaresModel", "meets", "(I)I"⟩, 21), (⟨"OneSumSquaresModel", "lay", "(I)V"⟩, 21), (⟨"OneSumSquaresModel", "comes", "()I"⟩, 21), (⟨"OneSumSquaresModel", "isSquare", "(I)Z"⟩, 21), (⟨"OneSumSquaresModel", "of", "(III)I"⟩, 21), (⟨"OneSumSquaresModel", "lineOf", "(III)J"⟩, 21), (⟨"OneSumSquaresModel", "isPlain", "(I)Z"⟩, 21), (⟨"OneSumSquaresModel", "oddOf", "(III)I"⟩, 21), (⟨"OneSumSquaresModel", "isPaired", "(I)Z"⟩, 21), (⟨"OneSumSquaresModel", "layTurn", "(II)V"⟩, 21), (⟨"OneSumSquaresModel", "formOf", "(I)I"⟩, 21)]
theorem lw_r1 : ∀ q ∈ lw_privs_1, lw_okq q := List.forall_mem_cons.mpr ⟨lw_p0, List.forall_mem_cons.mpr ⟨lw_p1, List.forall_mem_cons.mpr ⟨lw_p2, List.forall_mem_cons.mpr ⟨lw_p3, List.forall_mem_cons.mpr ⟨lw_p4, List.forall_mem_cons.mpr ⟨lw_p5, List.forall_mem_cons.mpr ⟨lw_p6, List.forall_mem_cons.mpr ⟨lw_p7, List.forall_mem_cons.mpr ⟨lw_p8, List.forall_mem_cons.mpr ⟨lw_p9, List.forall_mem_cons.mpr ⟨lw_p10, List.forall_mem_cons.mpr ⟨lw_p11, List.forall_mem_cons.mpr ⟨lw_p12, List.forall_mem_cons.mpr ⟨lw_p13, List.forall_mem_cons.mpr ⟨lw_p14, List.forall_mem_cons.mpr ⟨lw_p15, fun _ h => absurd h List.not_mem_nil⟩⟩⟩⟩⟩⟩⟩⟩⟩⟩⟩⟩⟩⟩⟩⟩
theorem lw_p16 : lw_okq (⟨"OneSumSquaresModel", "compared", "(III)I"⟩, 21) := ⟨⟨by decide +kernel, by decide +kernel⟩, List.mem_of_getElem? (i := 543) (by decide +kernel), List.mem_of_getElem? (i := 731) (by decide +kernel), List.mem_of_getElem? (i := 732) (by decide +kernel)⟩
theorem lw_p17 : lw_okq (⟨"OneSumSquaresModel", "odds", "(I)V"⟩, 21) := ⟨⟨by decide +kernel, by decide +kernel⟩, List.mem_of_getElem? (i := 543) (by decide +kernel), List.mem_of_getElem? (i := 747) (by decide +kernel), List.mem_of_getElem? (i := 748) (by decide +kernel)⟩
theorem lw_p18 : lw_okq (⟨"OneSumSquaresModel", "fours", "(I)V"⟩, 21) := ⟨⟨by decide +kernel, by decide +kernel⟩, List.mem_of_getElem? (i := 543) (by decide +kernel), List.mem_of_getElem? (i := 751) (by decide +kernel), List.mem_of_getElem? (i := 752) (by decide +kernel)⟩
theorem lw_p19 : lw_okq (⟨"OneSumSquaresModel", "seekAll", "(II)V"⟩, 21) := ⟨⟨by decide +kernel, by decide +kernel⟩, List.mem_of_getElem? (i := 543) (by decide +kernel), List.mem_of_getElem? (i := 785) (by decide +kernel), List.mem_of_getElem? (i := 786) (by decide +kernel)⟩
theorem lw_p20 : lw_okq (⟨"OneSumSquaresModel", "forced", "(III)I"⟩, 21) := ⟨⟨by decide +kernel, by decide +kernel⟩, List.mem_of_getElem? (i := 543) (by decide +kernel), List.mem_of_getElem? (i := 789) (by decide +kernel), List.mem_of_getElem? (i := 790) (by decide +kernel)⟩
theorem lw_p21 : lw_okq (⟨"OneSumSquaresModel", "sumOf", "(III)I"⟩, 21) := ⟨⟨by decide +kernel, by decide +kernel⟩, List.mem_of_getElem? (i := 543) (by decide +kernel), List.mem_of_getElem? (i := 793) (by decide +kernel), List.mem_of_getElem? (i := 794) (by decide +kernel)⟩
theorem lw_p22 : lw_okq (⟨"OneSumSquaresModel", "isRight", "(IIII)Z"⟩, 21) := ⟨⟨by decide +kernel, by decide +kernel⟩, List.mem_of_getElem? (i := 543) (by decide +kernel), List.mem_of_getElem? (i := 797) (by decide +kernel), List.mem_of_getElem? (i := 798) (by decide +kernel)⟩
theorem lw_p23 : lw_okq (⟨"OneSumSquaresModel", "isForm", "(I)Z"⟩, 21) := ⟨⟨by decide +kernel, by decide +kernel⟩, List.mem_of_getElem? (i := 543) (by decide +kernel), List.mem_of_getElem? (i := 809) (by decide +kernel), List.mem_of_getElem? (i := 810) (by decide +kernel)⟩
def lw_privs_2 : List (MethodName × Nat) := [(⟨"OneSumSquaresModel", "compared", "(III)I"⟩, 21), (⟨"OneSumSquaresModel", "odds", "(I)V"⟩, 21), (⟨"OneSumSquaresModel", "fours", "(I)V"⟩, 21), (⟨"OneSumSquaresModel", "seekAll", "(II)V"⟩, 21), (⟨"OneSumSquaresModel", "forced", "(III)I"⟩, 21), (⟨"OneSumSquaresModel", "sumOf", "(III)I"⟩, 21), (⟨"OneSumSquaresModel", "isRight", "(IIII)Z"⟩, 21), (⟨"OneSumSquaresModel", "isForm", "(I)Z"⟩, 21)]
theorem lw_r2 : ∀ q ∈ lw_privs_2, lw_okq q := List.forall_mem_cons.mpr ⟨lw_p16, List.forall_mem_cons.mpr ⟨lw_p17, List.forall_mem_cons.mpr ⟨lw_p18, List.forall_mem_cons.mpr ⟨lw_p19, List.forall_mem_cons.mpr ⟨lw_p20, List.forall_mem_cons.mpr ⟨lw_p21, List.forall_mem_cons.mpr ⟨lw_p22, List.forall_mem_cons.mpr ⟨lw_p23, fun _ h => absurd h List.not_mem_nil⟩⟩⟩⟩⟩⟩⟩⟩
def lw_privs : List (MethodName × Nat) := lw_privs_1 ++ (lw_privs_2)
def lw_tbl : List Cond := k2_sels lw_privs ++ tables_1
theorem lw_privs_ok : ∀ q ∈ lw_privs, lw_okq q := by
  show ∀ q ∈ lw_privs_1 ++ (lw_privs_2), lw_okq q
  exact List.forall_mem_append.mpr ⟨lw_r1, lw_r2⟩
def RX0 : String := "OneSumSquares$Finder"
def TX0 : u_T := fun k => match k with
  | 0 => ("OneSumSquares$Finder", "trial", "LOneSumSquares$Square;", true)
  | 1 => ("OneSumSquares$Finder", "held", "[I", true)
  | 2 => ("OneSumSquares$Finder", "keys", "[J", false)
  | 3 => ("OneSumSquares$Finder", "size", "I", false)
  | 4 => ("OneSumSquares$Finder", "leastOnes", "I", false)
  | 5 => ("OneSumSquares$Finder", "order", "I", false)
  | 6 => ("OneSumSquares$Finder", "cells", "I", false)
  | 7 => ("OneSumSquares$Finder", "lineTotal", "I", false)
  | 8 => ("OneSumSquares$Finder", "asked", "I", false)
  | 9 => ("OneSumSquares$Finder", "used", "I", false)
  | _ => ("OneSumSquares$Finder", "plan", "[I", false)
def tyX0 : Nat → FieldType := fun k => match k with
  | 0 => .object "OneSumSquares$Square"
  | 1 => .array .int
  | 2 => .array .long
  | 3 => .int
  | 4 => .int
  | 5 => .int
  | 6 => .int
  | 7 => .int
  | 8 => .int
  | 9 => .int
  | _ => .array .int
abbrev wsX00 : List Cond := u_ws RX0 TX0 11
theorem nmX0 : ∀ a, a < 11 → ∀ b, b < 11 → a ≠ b → (TX0 a).2.1 ≠ (TX0 b).2.1 := by decide +kernel
theorem tyX0_ok : ∀ k, k < 11 → parseFieldDescriptor (TX0 k).2.2.1 = some (tyX0 k) := by decide +kernel
abbrev cX0_init : ByteArray := prog_2_method_1_code
def yX0_init : MethodName := ⟨RX0, "<init>", "()V"⟩
abbrev cX0_isFresh : ByteArray := prog_2_method_2_code
def yX0_isFresh : MethodName := ⟨RX0, "isFresh", "()Z"⟩
abbrev cX0_search : ByteArray := prog_2_method_3_code
def yX0_search : MethodName := ⟨RX0, "search", "(LOneSumSquares$Sheet;II)V"⟩
abbrev cX0_planOf : ByteArray := prog_2_method_4_code
def yX0_planOf : MethodName := ⟨RX0, "planOf", "(I)[I"⟩
abbrev cX0_hold : ByteArray := prog_2_method_5_code
def yX0_hold : MethodName := ⟨RX0, "hold", "(LOneSumSquares$Sheet;)Z"⟩
abbrev cX0_isFree : ByteArray := prog_2_method_6_code
def yX0_isFree : MethodName := ⟨RX0, "isFree", "(I)Z"⟩
abbrev cX0_fits : ByteArray := prog_2_method_7_code
def yX0_fits : MethodName := ⟨RX0, "fits", "(II)Z"⟩
abbrev cX0_layFrom : ByteArray := prog_2_method_8_code
def yX0_layFrom : MethodName := ⟨RX0, "layFrom", "(LOneSumSquares$Finder;I)V"⟩
abbrev cX0_rest : ByteArray := prog_2_method_9_code
def yX0_rest : MethodName := ⟨RX0, "rest", "(I)I"⟩
abbrev cX0_keepTrial : ByteArray := prog_2_method_10_code
def yX0_keepTrial : MethodName := ⟨RX0, "keepTrial", "()V"⟩
abbrev cX0_hasRoom : ByteArray := prog_2_method_11_code
def yX0_hasRoom : MethodName := ⟨RX0, "hasRoom", "()Z"⟩
abbrev cX0_packed : ByteArray := prog_2_method_12_code
def yX0_packed : MethodName := ⟨RX0, "packed", "(LOneSumSquares$Square;)J"⟩
abbrev cX0_unpack : ByteArray := prog_2_method_13_code
def yX0_unpack : MethodName := ⟨RX0, "unpack", "(ILOneSumSquares$Square;)V"⟩
abbrev cX0_indexOf : ByteArray := prog_2_method_14_code
def yX0_indexOf : MethodName := ⟨RX0, "indexOf", "(LOneSumSquares$Square;)I"⟩
abbrev cX0_isPackable : ByteArray := prog_2_method_15_code
def yX0_isPackable : MethodName := ⟨RX0, "isPackable", "(LOneSumSquares$Square;)Z"⟩
def RX1 : String := "OneSumSquares$Sheet"
def TX1 : u_T := fun k => match k with
  | 0 => ("OneSumSquares$Sheet", "numbers", "[I", true)
  | 1 => ("OneSumSquares$Sheet", "lane", "I", false)
  | _ => ("OneSumSquares$Sheet", "size", "I", false)
def tyX1 : Nat → FieldType := fun k => match k with
  | 0 => .array .int
  | 1 => .int
  | _ => .int
abbrev wsX10 : List Cond := u_ws RX1 TX1 3
theorem nmX1 : ∀ a, a < 3 → ∀ b, b < 3 → a ≠ b → (TX1 a).2.1 ≠ (TX1 b).2.1 := by decide +kernel
theorem tyX1_ok : ∀ k, k < 3 → parseFieldDescriptor (TX1 k).2.2.1 = some (tyX1 k) := by decide +kernel
abbrev cX1_init : ByteArray := prog_3_method_1_code
def yX1_init : MethodName := ⟨RX1, "<init>", "()V"⟩
abbrev cX1_isMissing : ByteArray := prog_3_method_2_code
def yX1_isMissing : MethodName := ⟨RX1, "isMissing", "()Z"⟩
abbrev cX1_renew : ByteArray := prog_3_method_3_code
def yX1_renew : MethodName := ⟨RX1, "renew", "(II)V"⟩
abbrev cX1_has : ByteArray := prog_3_method_4_code
def yX1_has : MethodName := ⟨RX1, "has", "(II)Z"⟩
abbrev cX1_heldOf : ByteArray := prog_3_method_5_code
def yX1_heldOf : MethodName := ⟨RX1, "heldOf", "(I)I"⟩
def RX2 : String := "OneSumSquares$Square"
def TX2 : u_T := fun k => match k with
  | 0 => ("OneSumSquares$Square", "numbers", "[I", true)
  | _ => ("OneSumSquares$Square", "order", "I", false)
def tyX2 : Nat → FieldType := fun k => match k with
  | 0 => .array .int
  | _ => .int
abbrev wsX20 : List Cond := u_ws RX2 TX2 2
theorem nmX2 : ∀ a, a < 2 → ∀ b, b < 2 → a ≠ b → (TX2 a).2.1 ≠ (TX2 b).2.1 := by decide +kernel
theorem tyX2_ok : ∀ k, k < 2 → parseFieldDescriptor (TX2 k).2.2.1 = some (tyX2 k) := by decide +kernel
abbrev cX2_init : ByteArray := prog_4_method_1_code
def yX2_init : MethodName := ⟨RX2, "<init>", "()V"⟩
abbrev cX2_number : ByteArray := prog_4_method_2_code
def yX2_number : MethodName := ⟨RX2, "number", "(II)I"⟩
abbrev cX2_isRow : ByteArray := prog_4_method_3_code
def yX2_isRow : MethodName := ⟨RX2, "isRow", "(I)Z"⟩
abbrev cX2_isLine : ByteArray := prog_4_method_4_code
def yX2_isLine : MethodName := ⟨RX2, "isLine", "(I)Z"⟩
abbrev cX2_isGreat : ByteArray := prog_4_method_5_code
def yX2_isGreat : MethodName := ⟨RX2, "isGreat", "()Z"⟩
abbrev cX2_leastAndGreatest : ByteArray := prog_4_method_6_code
def yX2_leastAndGreatest : MethodName := ⟨RX2, "leastAndGreatest", "()I"⟩
abbrev cX2_cellOf : ByteArray := prog_4_method_7_code
def yX2_cellOf : MethodName := ⟨RX2, "cellOf", "(II)I"⟩
abbrev cX2_lineSum : ByteArray := prog_4_method_8_code
def yX2_lineSum : MethodName := ⟨RX2, "lineSum", "(II)J"⟩
abbrev cX2_asks : ByteArray := prog_4_method_9_code
def yX2_asks : MethodName := ⟨RX2, "asks", "(II)Z"⟩
abbrev cX2_oddLine : ByteArray := prog_4_method_10_code
def yX2_oddLine : MethodName := ⟨RX2, "oddLine", "(II)I"⟩
abbrev cX2_isAll : ByteArray := prog_4_method_11_code
def yX2_isAll : MethodName := ⟨RX2, "isAll", "(II)Z"⟩
abbrev cX2_isPaired : ByteArray := prog_4_method_12_code
def yX2_isPaired : MethodName := ⟨RX2, "isPaired", "()Z"⟩
abbrev cX2_isPlain : ByteArray := prog_4_method_13_code
def yX2_isPlain : MethodName := ⟨RX2, "isPlain", "([I)Z"⟩
abbrev cX2_kindBits : ByteArray := prog_4_method_14_code
def yX2_kindBits : MethodName := ⟨RX2, "kindBits", "([I)I"⟩
abbrev cX2_afterTurn : ByteArray := prog_4_method_15_code
def yX2_afterTurn : MethodName := ⟨RX2, "afterTurn", "(III)I"⟩
abbrev cX2_compareTurns : ByteArray := prog_4_method_16_code
def yX2_compareTurns : MethodName := ⟨RX2, "compareTurns", "(ILOneSumSquares$Square;I)I"⟩
abbrev cX2_leastTurn : ByteArray := prog_4_method_17_code
def yX2_leastTurn : MethodName := ⟨RX2, "leastTurn", "()I"⟩
abbrev cX2_unlikeTurns : ByteArray := prog_4_method_18_code
def yX2_unlikeTurns : MethodName := ⟨RX2, "unlikeTurns", "()I"⟩
abbrev cX2_comesEarlier : ByteArray := prog_4_method_19_code
def yX2_comesEarlier : MethodName := ⟨RX2, "comesEarlier", "(I)Z"⟩
abbrev cX2_clear : ByteArray := prog_4_method_20_code
def yX2_clear : MethodName := ⟨RX2, "clear", "(I)V"⟩
abbrev cX2_become : ByteArray := prog_4_method_21_code
def yX2_become : MethodName := ⟨RX2, "become", "(LOneSumSquares$Square;)V"⟩
abbrev cX2_becomeTurn : ByteArray := prog_4_method_22_code
def yX2_becomeTurn : MethodName := ⟨RX2, "becomeTurn", "(LOneSumSquares$Square;I)V"⟩
abbrev cX2_becomeSwapped : ByteArray := prog_4_method_23_code
def yX2_becomeSwapped : MethodName := ⟨RX2, "becomeSwapped", "(LOneSumSquares$Square;I)V"⟩
abbrev cX2_becomeScaled : ByteArray := prog_4_method_24_code
def yX2_becomeScaled : MethodName := ⟨RX2, "becomeScaled", "(LOneSumSquares$Square;II)V"⟩
abbrev cX2_becomeTogether : ByteArray := prog_4_method_25_code
def yX2_becomeTogether : MethodName := ⟨RX2, "becomeTogether", "(LOneSumSquares$Square;LOneSumSquares$Square;)V"⟩
abbrev cX2_becomeProduct : ByteArray := prog_4_method_26_code
def yX2_becomeProduct : MethodName := ⟨RX2, "becomeProduct", "(LOneSumSquares$Square;LOneSumSquares$Square;)V"⟩
abbrev cX2_layBlock : ByteArray := prog_4_method_27_code
def yX2_layBlock : MethodName := ⟨RX2, "layBlock", "(IILOneSumSquares$Square;I)V"⟩
abbrev cX2_becomeOdd : ByteArray := prog_4_method_28_code
def yX2_becomeOdd : MethodName := ⟨RX2, "becomeOdd", "(I)V"⟩
abbrev cX2_becomeFourfold : ByteArray := prog_4_method_29_code
def yX2_becomeFourfold : MethodName := ⟨RX2, "becomeFourfold", "(I)V"⟩
abbrev cX2_becomeLettered : ByteArray := prog_4_method_30_code
def yX2_becomeLettered : MethodName := ⟨RX2, "becomeLettered", "(LOneSumSquares$Square;)V"⟩
abbrev cX2_letterAt : ByteArray := prog_4_method_31_code
def yX2_letterAt : MethodName := ⟨RX2, "letterAt", "(III)[I"⟩
abbrev cX2_layLetter : ByteArray := prog_4_method_32_code
def yX2_layLetter : MethodName := ⟨RX2, "layLetter", "(II[II)V"⟩
def RX3 : String := "OneSumSquares"
def TX3 : u_T := fun k => match k with
  | 0 => ("OneSumSquares", "sheets", "[LOneSumSquares$Sheet;", true)
  | 1 => ("OneSumSquares", "squares", "[LOneSumSquares$Square;", true)
  | 2 => ("OneSumSquares", "draft", "LOneSumSquares$Square;", true)
  | 3 => ("OneSumSquares", "half", "LOneSumSquares$Square;", true)
  | 4 => ("OneSumSquares", "seen", "[I", true)
  | 5 => ("OneSumSquares", "finder", "LOneSumSquares$Finder;", true)
  | 6 => ("OneSumSquares", "blamed", "[I", true)
  | 7 => ("OneSumSquares", "latest", "I", false)
  | 8 => ("OneSumSquares", "seeks", "I", false)
  | _ => ("OneSumSquares", "wideSought", "Z", false)
def tyX3 : Nat → FieldType := fun k => match k with
  | 0 => .array (.object "OneSumSquares$Sheet")
  | 1 => .array (.object "OneSumSquares$Square")
  | 2 => .object "OneSumSquares$Square"
  | 3 => .object "OneSumSquares$Square"
  | 4 => .array .int
  | 5 => .object "OneSumSquares$Finder"
  | 6 => .array .int
  | 7 => .int
  | 8 => .int
  | _ => .boolean
abbrev wsX30 : List Cond := u_ws RX3 TX3 10
theorem nmX3 : ∀ a, a < 10 → ∀ b, b < 10 → a ≠ b → (TX3 a).2.1 ≠ (TX3 b).2.1 := by decide +kernel
theorem tyX3_ok : ∀ k, k < 10 → parseFieldDescriptor (TX3 k).2.2.1 = some (tyX3 k) := by decide +kernel
abbrev cX3_init : ByteArray := prog_1_method_1_code
def yX3_init : MethodName := ⟨RX3, "<init>", "()V"⟩
abbrev cX3_sheet : ByteArray := prog_1_method_2_code
def yX3_sheet : MethodName := ⟨RX3, "sheet", "(III)I"⟩
abbrev cX3_put : ByteArray := prog_1_method_3_code
def yX3_put : MethodName := ⟨RX3, "put", "(IIII)I"⟩
abbrev cX3_copy : ByteArray := prog_1_method_4_code
def yX3_copy : MethodName := ⟨RX3, "copy", "(IIIII)I"⟩
abbrev cX3_lose : ByteArray := prog_1_method_5_code
def yX3_lose : MethodName := ⟨RX3, "lose", "(I)I"⟩
abbrev cX3_square : ByteArray := prog_1_method_6_code
def yX3_square : MethodName := ⟨RX3, "square", "(III)I"⟩
abbrev cX3_order : ByteArray := prog_1_method_7_code
def yX3_order : MethodName := ⟨RX3, "order", "(I)I"⟩
abbrev cX3_at : ByteArray := prog_1_method_8_code
def yX3_at : MethodName := ⟨RX3, "at", "(III)I"⟩
abbrev cX3_drop : ByteArray := prog_1_method_9_code
def yX3_drop : MethodName := ⟨RX3, "drop", "(I)I"⟩
abbrev cX3_sum : ByteArray := prog_1_method_10_code
def yX3_sum : MethodName := ⟨RX3, "sum", "(III)J"⟩
abbrev cX3_kinds : ByteArray := prog_1_method_11_code
def yX3_kinds : MethodName := ⟨RX3, "kinds", "(I)I"⟩
abbrev cX3_odd : ByteArray := prog_1_method_12_code
def yX3_odd : MethodName := ⟨RX3, "odd", "(III)I"⟩
abbrev cX3_turn : ByteArray := prog_1_method_13_code
def yX3_turn : MethodName := ⟨RX3, "turn", "(II)I"⟩
abbrev cX3_form : ByteArray := prog_1_method_14_code
def yX3_form : MethodName := ⟨RX3, "form", "(I)I"⟩
abbrev cX3_same : ByteArray := prog_1_method_15_code
def yX3_same : MethodName := ⟨RX3, "same", "(II)I"⟩
abbrev cX3_unlike : ByteArray := prog_1_method_16_code
def yX3_unlike : MethodName := ⟨RX3, "unlike", "(I)I"⟩
abbrev cX3_make : ByteArray := prog_1_method_17_code
def yX3_make : MethodName := ⟨RX3, "make", "(I)I"⟩
abbrev cX3_product : ByteArray := prog_1_method_18_code
def yX3_product : MethodName := ⟨RX3, "product", "(II)I"⟩
abbrev cX3_swap : ByteArray := prog_1_method_19_code
def yX3_swap : MethodName := ⟨RX3, "swap", "(II)I"⟩
abbrev cX3_turned : ByteArray := prog_1_method_20_code
def yX3_turned : MethodName := ⟨RX3, "turned", "(I)I"⟩
abbrev cX3_scale : ByteArray := prog_1_method_21_code
def yX3_scale : MethodName := ⟨RX3, "scale", "(III)I"⟩
abbrev cX3_plus : ByteArray := prog_1_method_22_code
def yX3_plus : MethodName := ⟨RX3, "plus", "(II)I"⟩
abbrev cX3_seek : ByteArray := prog_1_method_23_code
def yX3_seek : MethodName := ⟨RX3, "seek", "(III)I"⟩
abbrev cX3_found : ByteArray := prog_1_method_24_code
def yX3_found : MethodName := ⟨RX3, "found", "()I"⟩
abbrev cX3_forms : ByteArray := prog_1_method_25_code
def yX3_forms : MethodName := ⟨RX3, "forms", "()I"⟩
abbrev cX3_take : ByteArray := prog_1_method_26_code
def yX3_take : MethodName := ⟨RX3, "take", "(I)I"⟩
abbrev cX3_place : ByteArray := prog_1_method_27_code
def yX3_place : MethodName := ⟨RX3, "place", "(I)I"⟩
abbrev cX3_cause : ByteArray := prog_1_method_28_code
def yX3_cause : MethodName := ⟨RX3, "cause", "()I"⟩
abbrev cX3_causes : ByteArray := prog_1_method_29_code
def yX3_causes : MethodName := ⟨RX3, "causes", "(I)I"⟩
abbrev cX3_count : ByteArray := prog_1_method_30_code
def yX3_count : MethodName := ⟨RX3, "count", "(I)I"⟩
abbrev cX3_digest : ByteArray := prog_1_method_31_code
def yX3_digest : MethodName := ⟨RX3, "digest", "()J"⟩
abbrev cX3_mix : ByteArray := prog_1_method_32_code
def yX3_mix : MethodName := ⟨RX3, "mix", "(JI)J"⟩
abbrev cX3_mixAll : ByteArray := prog_1_method_33_code
def yX3_mixAll : MethodName := ⟨RX3, "mixAll", "(J[II)J"⟩
abbrev cX3_squaresThere : ByteArray := prog_1_method_34_code
def yX3_squaresThere : MethodName := ⟨RX3, "squaresThere", "()I"⟩
abbrev cX3_sheetsThere : ByteArray := prog_1_method_35_code
def yX3_sheetsThere : MethodName := ⟨RX3, "sheetsThere", "()I"⟩
abbrev cX3_blame : ByteArray := prog_1_method_36_code
def yX3_blame : MethodName := ⟨RX3, "blame", "(I)I"⟩
abbrev cX3_known : ByteArray := prog_1_method_37_code
def yX3_known : MethodName := ⟨RX3, "known", "(I)LOneSumSquares$Square;"⟩
abbrev cX3_keepDraft : ByteArray := prog_1_method_38_code
def yX3_keepDraft : MethodName := ⟨RX3, "keepDraft", "()I"⟩
abbrev cX3_isSheet : ByteArray := prog_1_method_39_code
def yX3_isSheet : MethodName := ⟨RX3, "isSheet", "(I)Z"⟩
abbrev cX3_isLane : ByteArray := prog_1_method_40_code
def yX3_isLane : MethodName := ⟨RX3, "isLane", "(I)Z"⟩
abbrev cX3_isPower : ByteArray := prog_1_method_41_code
def yX3_isPower : MethodName := ⟨RX3, "isPower", "(I)Z"⟩
abbrev cX3_isFactor : ByteArray := prog_1_method_42_code
def yX3_isFactor : MethodName := ⟨RX3, "isFactor", "(I)Z"⟩
abbrev cX3_castTo : ByteArray := prog_1_method_43_code
def yX3_castTo : MethodName := ⟨RX3, "castTo", "(II)I"⟩
def RX4 : String := "OneSumSquaresModel"
def TX4 : u_T := fun k => match k with
  | 0 => ("OneSumSquaresModel", "latest", "I", false)
  | 1 => ("OneSumSquaresModel", "came", "[I", true)
  | 2 => ("OneSumSquaresModel", "lane", "[I", true)
  | 3 => ("OneSumSquaresModel", "size", "[I", true)
  | 4 => ("OneSumSquaresModel", "sheetRow", "[I", true)
  | 5 => ("OneSumSquaresModel", "held", "[I", true)
  | 6 => ("OneSumSquaresModel", "order", "[I", true)
  | 7 => ("OneSumSquaresModel", "body", "[I", true)
  | 8 => ("OneSumSquaresModel", "side", "I", false)
  | 9 => ("OneSumSquaresModel", "next", "[J", true)
  | 10 => ("OneSumSquaresModel", "met", "[Z", true)
  | 11 => ("OneSumSquaresModel", "small", "[I", true)
  | 12 => ("OneSumSquaresModel", "found", "I", false)
  | 13 => ("OneSumSquaresModel", "sought", "I", false)
  | 14 => ("OneSumSquaresModel", "wasBare", "Z", false)
  | 15 => ("OneSumSquaresModel", "soughtOrder", "I", false)
  | 16 => ("OneSumSquaresModel", "rows", "[I", true)
  | 17 => ("OneSumSquaresModel", "laid", "[I", true)
  | 18 => ("OneSumSquaresModel", "used", "[Z", true)
  | 19 => ("OneSumSquaresModel", "holds", "[I", true)
  | _ => ("OneSumSquaresModel", "heldAt", "[I", true)
def tyX4 : Nat → FieldType := fun k => match k with
  | 0 => .int
  | 1 => .array .int
  | 2 => .array .int
  | 3 => .array .int
  | 4 => .array .int
  | 5 => .array .int
  | 6 => .array .int
  | 7 => .array .int
  | 8 => .int
  | 9 => .array .long
  | 10 => .array .boolean
  | 11 => .array .int
  | 12 => .int
  | 13 => .int
  | 14 => .boolean
  | 15 => .int
  | 16 => .array .int
  | 17 => .array .int
  | 18 => .array .boolean
  | 19 => .array .int
  | _ => .array .int
abbrev wsX40 : List Cond := u_ws RX4 TX4 21
theorem nmX4 : ∀ a, a < 21 → ∀ b, b < 21 → a ≠ b → (TX4 a).2.1 ≠ (TX4 b).2.1 := by decide +kernel
theorem tyX4_ok : ∀ k, k < 21 → parseFieldDescriptor (TX4 k).2.2.1 = some (tyX4 k) := by decide +kernel
abbrev cX4_init : ByteArray := prog_6_method_1_code
def yX4_init : MethodName := ⟨RX4, "<init>", "()V"⟩
abbrev cX4_in : ByteArray := prog_6_method_2_code
def yX4_in : MethodName := ⟨RX4, "in", "(JJJ)Z"⟩
abbrev cX4_meets : ByteArray := prog_6_method_3_code
def yX4_meets : MethodName := ⟨RX4, "meets", "(I)I"⟩
abbrev cX4_isSheet : ByteArray := prog_6_method_4_code
def yX4_isSheet : MethodName := ⟨RX4, "isSheet", "(I)Z"⟩
abbrev cX4_sheet : ByteArray := prog_6_method_5_code
def yX4_sheet : MethodName := ⟨RX4, "sheet", "(III)I"⟩
abbrev cX4_put : ByteArray := prog_6_method_6_code
def yX4_put : MethodName := ⟨RX4, "put", "(IIII)I"⟩
abbrev cX4_copy : ByteArray := prog_6_method_7_code
def yX4_copy : MethodName := ⟨RX4, "copy", "(IIIII)I"⟩
abbrev cX4_lose : ByteArray := prog_6_method_8_code
def yX4_lose : MethodName := ⟨RX4, "lose", "(I)I"⟩
abbrev cX4_isSquare : ByteArray := prog_6_method_9_code
def yX4_isSquare : MethodName := ⟨RX4, "isSquare", "(I)Z"⟩
abbrev cX4_of : ByteArray := prog_6_method_10_code
def yX4_of : MethodName := ⟨RX4, "of", "(III)I"⟩
abbrev cX4_lay : ByteArray := prog_6_method_11_code
def yX4_lay : MethodName := ⟨RX4, "lay", "(I)V"⟩
abbrev cX4_comes : ByteArray := prog_6_method_12_code
def yX4_comes : MethodName := ⟨RX4, "comes", "()I"⟩
abbrev cX4_square : ByteArray := prog_6_method_13_code
def yX4_square : MethodName := ⟨RX4, "square", "(III)I"⟩
abbrev cX4_order : ByteArray := prog_6_method_14_code
def yX4_order : MethodName := ⟨RX4, "order", "(I)I"⟩
abbrev cX4_at : ByteArray := prog_6_method_15_code
def yX4_at : MethodName := ⟨RX4, "at", "(III)I"⟩
abbrev cX4_drop : ByteArray := prog_6_method_16_code
def yX4_drop : MethodName := ⟨RX4, "drop", "(I)I"⟩
abbrev cX4_raised : ByteArray := prog_6_method_17_code
def yX4_raised : MethodName := ⟨RX4, "raised", "(JI)J"⟩
abbrev cX4_lineOf : ByteArray := prog_6_method_18_code
def yX4_lineOf : MethodName := ⟨RX4, "lineOf", "(III)J"⟩
abbrev cX4_sum : ByteArray := prog_6_method_19_code
def yX4_sum : MethodName := ⟨RX4, "sum", "(III)J"⟩
abbrev cX4_oddOf : ByteArray := prog_6_method_20_code
def yX4_oddOf : MethodName := ⟨RX4, "oddOf", "(III)I"⟩
abbrev cX4_isPaired : ByteArray := prog_6_method_21_code
def yX4_isPaired : MethodName := ⟨RX4, "isPaired", "(I)Z"⟩
abbrev cX4_isPlain : ByteArray := prog_6_method_22_code
def yX4_isPlain : MethodName := ⟨RX4, "isPlain", "(I)Z"⟩
abbrev cX4_kinds : ByteArray := prog_6_method_23_code
def yX4_kinds : MethodName := ⟨RX4, "kinds", "(I)I"⟩
abbrev cX4_odd : ByteArray := prog_6_method_24_code
def yX4_odd : MethodName := ⟨RX4, "odd", "(III)I"⟩
abbrev cX4_source : ByteArray := prog_6_method_25_code
def yX4_source : MethodName := ⟨RX4, "source", "(IIII)I"⟩
abbrev cX4_layTurn : ByteArray := prog_6_method_26_code
def yX4_layTurn : MethodName := ⟨RX4, "layTurn", "(II)V"⟩
abbrev cX4_turn : ByteArray := prog_6_method_27_code
def yX4_turn : MethodName := ⟨RX4, "turn", "(II)I"⟩
abbrev cX4_compared : ByteArray := prog_6_method_28_code
def yX4_compared : MethodName := ⟨RX4, "compared", "(III)I"⟩
abbrev cX4_formOf : ByteArray := prog_6_method_29_code
def yX4_formOf : MethodName := ⟨RX4, "formOf", "(I)I"⟩
abbrev cX4_form : ByteArray := prog_6_method_30_code
def yX4_form : MethodName := ⟨RX4, "form", "(I)I"⟩
abbrev cX4_same : ByteArray := prog_6_method_31_code
def yX4_same : MethodName := ⟨RX4, "same", "(II)I"⟩
abbrev cX4_unlike : ByteArray := prog_6_method_32_code
def yX4_unlike : MethodName := ⟨RX4, "unlike", "(I)I"⟩
abbrev cX4_odds : ByteArray := prog_6_method_33_code
def yX4_odds : MethodName := ⟨RX4, "odds", "(I)V"⟩
abbrev cX4_ofLetter : ByteArray := prog_6_method_34_code
def yX4_ofLetter : MethodName := ⟨RX4, "ofLetter", "(II)I"⟩
abbrev cX4_fours : ByteArray := prog_6_method_35_code
def yX4_fours : MethodName := ⟨RX4, "fours", "(I)V"⟩
abbrev cX4_make : ByteArray := prog_6_method_36_code
def yX4_make : MethodName := ⟨RX4, "make", "(I)I"⟩
abbrev cX4_product : ByteArray := prog_6_method_37_code
def yX4_product : MethodName := ⟨RX4, "product", "(II)I"⟩
abbrev cX4_swap : ByteArray := prog_6_method_38_code
def yX4_swap : MethodName := ⟨RX4, "swap", "(II)I"⟩
abbrev cX4_turned : ByteArray := prog_6_method_39_code
def yX4_turned : MethodName := ⟨RX4, "turned", "(I)I"⟩
abbrev cX4_scale : ByteArray := prog_6_method_40_code
def yX4_scale : MethodName := ⟨RX4, "scale", "(III)I"⟩
abbrev cX4_plus : ByteArray := prog_6_method_41_code
def yX4_plus : MethodName := ⟨RX4, "plus", "(II)I"⟩
abbrev cX4_sumOf : ByteArray := prog_6_method_42_code
def yX4_sumOf : MethodName := ⟨RX4, "sumOf", "(III)I"⟩
abbrev cX4_forced : ByteArray := prog_6_method_43_code
def yX4_forced : MethodName := ⟨RX4, "forced", "(III)I"⟩
abbrev cX4_isRight : ByteArray := prog_6_method_44_code
def yX4_isRight : MethodName := ⟨RX4, "isRight", "(IIII)Z"⟩
abbrev cX4_seekAll : ByteArray := prog_6_method_45_code
def yX4_seekAll : MethodName := ⟨RX4, "seekAll", "(II)V"⟩
abbrev cX4_seek : ByteArray := prog_6_method_46_code
def yX4_seek : MethodName := ⟨RX4, "seek", "(III)I"⟩
abbrev cX4_found : ByteArray := prog_6_method_47_code
def yX4_found : MethodName := ⟨RX4, "found", "()I"⟩
abbrev cX4_isForm : ByteArray := prog_6_method_48_code
def yX4_isForm : MethodName := ⟨RX4, "isForm", "(I)Z"⟩
abbrev cX4_forms : ByteArray := prog_6_method_49_code
def yX4_forms : MethodName := ⟨RX4, "forms", "()I"⟩
abbrev cX4_take : ByteArray := prog_6_method_50_code
def yX4_take : MethodName := ⟨RX4, "take", "(I)I"⟩
abbrev cX4_place : ByteArray := prog_6_method_51_code
def yX4_place : MethodName := ⟨RX4, "place", "(I)I"⟩
abbrev cX4_cause : ByteArray := prog_6_method_52_code
def yX4_cause : MethodName := ⟨RX4, "cause", "()I"⟩
abbrev cX4_causes : ByteArray := prog_6_method_53_code
def yX4_causes : MethodName := ⟨RX4, "causes", "(I)I"⟩
abbrev cX4_count : ByteArray := prog_6_method_54_code
def yX4_count : MethodName := ⟨RX4, "count", "(I)I"⟩
abbrev cX4_digest : ByteArray := prog_6_method_55_code
def yX4_digest : MethodName := ⟨RX4, "digest", "()J"⟩
def RJ9 : String := "java/lang/Math"
def TJ9 : u_T := fun k => match k with
  | _ => ("", "", "", false)
def tyJ9 : Nat → FieldType := fun k => match k with
  | _ => .int
abbrev wsJ90 : List Cond := u_ws RJ9 TJ9 0
abbrev cJ9_max_7cf53 : ByteArray := prog_8_method_65_code
def yJ9_max_7cf53 : MethodName := ⟨RJ9, "max", "(II)I"⟩
abbrev cJ9_min_7cf53 : ByteArray := prog_8_method_69_code
def yJ9_min_7cf53 : MethodName := ⟨RJ9, "min", "(II)I"⟩
def RJ10 : String := "java/lang/System"
def TJ10 : u_T := fun k => match k with
  | _ => ("", "", "", false)
def tyJ10 : Nat → FieldType := fun k => match k with
  | _ => .int
abbrev wsJ100 : List Cond := u_ws RJ10 TJ10 0
def RJ7 : String := "java/util/Arrays"
def TJ7 : u_T := fun k => match k with
  | _ => ("", "", "", false)
def tyJ7 : Nat → FieldType := fun k => match k with
  | _ => .int
abbrev wsJ70 : List Cond := u_ws RJ7 TJ7 0
abbrev cJ7_fill_53178 : ByteArray := prog_10_method_103_code
def yJ7_fill_53178 : MethodName := ⟨RJ7, "fill", "([II)V"⟩
abbrev cJ7_copyOf_c38d5 : ByteArray := prog_10_method_124_code
def yJ7_copyOf_c38d5 : MethodName := ⟨RJ7, "copyOf", "([JI)[J"⟩
def RL : String := "OneSumSquaresLaw"
abbrev cL_law : ByteArray := code
def yL_law : MethodName := ⟨RL, "law", "([I)Z"⟩
abbrev vwCl : List vw_C := [(RX0, TX0, 11), (RX1, TX1, 3), (RX2, TX2, 2), (RX3, TX3, 10), (RX4, TX4, 21)]
